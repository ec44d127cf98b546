set_option maxHeartbeats 4000000 in
set_option maxRecDepth 100000 in
theorem c_X9_hours (l : Launch) (hl9 : l.stackTraces = false) (G : Gd) (σ : Mm) (sz : Nat) (a0 : Int32) (a1 : Int32) {out : (Int32 ⊕ Nat) × Mm} (ho : f_X9_hours a0 a1 σ = some out) : vx_Met l yX9_hours wsX9_hours { frames := 7, cells := 2, slots := 12, locals := 131 } (va_Pc [.ref (G.2.2 154), .int a0, .int a1] (PW G σ sz)) (Xi G sz out) (XX G sz out) 2 12 (AA G sz) := by
  refine vx_ofW (cc := cX9_hours) (maxL := 3) (ret := (some .int)) (by decide) rfl ?_
  intro p e s m args below meth c s₁ B0 hml ht9 hv
  obtain ⟨rfl, hpw⟩ := hv
  have hsz := hpw.1
  subst hsz
  obtain ⟨F, B⟩ := hpw.to
  have hx := B0.exec
  have hb := B0.bytes
  have hr := B0.returns
  have hts := atoms_spec (ws := wsX9_hours) B0.pre
  have hown : s.vm.findClass RX9 = some m.cls := findClass_of_methodNamed B0.named
  have hlocks := B0.notSynchronized
  have S : CallFix p m c cX9_hours 3 s _ wsX9_hours RX9 := ⟨hx, hb, hml, hown, hts⟩
  have hiX9 : ∀ w ∈ u_ws RX9 TX9 10, w ∈ wsX9_hours := by decide +kernel
  have hl := lv_entry [.ref (G.2.2 154), .int a0, .int a1] (n := 3) (Nat.le_of_ble_eq_true rfl)
  rw [lg_entry_eq]
  generalize (lg_sl [.ref (G.2.2 154), .int a0, .int a1] ++ List.replicate (3 - (lg_sl [.ref (G.2.2 154), .int a0, .int a1]).length) Slot.unset).toArray = ls at hl ⊢
  have hl : lv_has ls 3 [(0, .ref (G.2.2 154)), (1, .int a0), (2, .int a1)] := hl
  unfold f_X9_hours at ho
  refine lv_iload_n hx hb dX9_hours_0 rfl (lv_at hl 1 rfl) ?_
  refine lv_iload_n hx hb dX9_hours_1 rfl (lv_at hl 2 rfl) ?_
  rcases xb_ ho with ⟨q1, σ2, hq1, ho⟩ | ⟨q1, σ2, hq1, rfl⟩
  rotate_left
  · exact xk_eS (As := [.int a0, .int a1]) (rest := []) no_Xv S F B (c_X9_demandCells l hl9 G σ _ a0 a1 hq1) (va_cwS 2 hts gX9_hours_X9_demandCells rfl rfl rfl (by decide +kernel) ⟨Nat.le_of_ble_eq_true rfl, Nat.le_of_ble_eq_true rfl⟩) rfl hl.1 rfl (Nat.le_of_ble_eq_true rfl) dX9_hours_2 hlocks ht9 (Nat.le_of_ble_eq_true rfl) (Nat.le_of_ble_eq_true rfl) ⟨Nat.le_of_ble_eq_true rfl, Nat.le_of_ble_eq_true rfl⟩
  refine xk_vS (As := [.int a0, .int a1]) (rest := []) S F B (c_X9_demandCells l hl9 G σ _ a0 a1 hq1) (va_cwS 2 hts gX9_hours_X9_demandCells rfl rfl rfl (by decide +kernel) ⟨Nat.le_of_ble_eq_true rfl, Nat.le_of_ble_eq_true rfl⟩) rfl hl.1 rfl (Nat.le_of_ble_eq_true rfl) dX9_hours_2 ⟨Nat.le_of_ble_eq_true rfl, Nat.le_of_ble_eq_true rfl⟩ (fun H locs B => ?_)
  refine lv_aload_n hx hb dX9_hours_5 rfl (lv_at hl 0 rfl) ?_
  refine r_get (ci := 13) (C := RX9) (T := TX9) (N := 10) S F B (kq (by decide) : kd 154 = 7 ∧ 154 < NN) rfl rfl hiX9 6 (by decide) (by decide +kernel) rfl dX9_hours_6 ?_
  refine lv_iload_n hx hb dX9_hours_9 rfl (lv_at hl 1 rfl) ?_
  refine lv_iload_n hx hb dX9_hours_10 rfl (lv_at hl 2 rfl) ?_
  obtain ⟨q3, σ4, hq3, ho⟩ := bnm_ ho
  refine k_iV (As := [.int a0, .int a1]) (rest := []) S F B (c_X8_hoursByDistance l G σ2 _ a0 a1 hq3) (kq (by decide) : kd 158 = 11 ∧ 158 < NN) rfl rfl (cwV 2 hts gX9_hours_X8_hoursByDistance rfl rfl rfl (by decide +kernel) ⟨Nat.le_of_ble_eq_true rfl, Nat.le_of_ble_eq_true rfl⟩) rfl hl.1 rfl (Nat.le_of_ble_eq_true rfl) dX9_hours_11 ⟨Nat.le_of_ble_eq_true rfl, Nat.le_of_ble_eq_true rfl⟩ (fun H locs B => ?_)
  rcases xb_ ho with ⟨q5, σ6, hq5, ho⟩ | ⟨q5, σ6, hq5, rfl⟩
  rotate_left
  · exact xk_eS (As := [.int q3]) (rest := []) no_Xi S F B (c_X9_demandWay l hl9 G σ4 _ q3 hq5) (va_cwS 1 hts gX9_hours_X9_demandWay rfl rfl rfl (by decide +kernel) ⟨Nat.le_of_ble_eq_true rfl, Nat.le_of_ble_eq_true rfl⟩) rfl hl.1 rfl (Nat.le_of_ble_eq_true rfl) dX9_hours_14 hlocks ht9 (Nat.le_of_ble_eq_true rfl) (Nat.le_of_ble_eq_true rfl) ⟨Nat.le_of_ble_eq_true rfl, Nat.le_of_ble_eq_true rfl⟩
  refine xk_iS (As := [.int q3]) (rest := []) S F B (c_X9_demandWay l hl9 G σ4 _ q3 hq5) (va_cwS 1 hts gX9_hours_X9_demandWay rfl rfl rfl (by decide +kernel) ⟨Nat.le_of_ble_eq_true rfl, Nat.le_of_ble_eq_true rfl⟩) rfl hl.1 rfl (Nat.le_of_ble_eq_true rfl) dX9_hours_14 ⟨Nat.le_of_ble_eq_true rfl, Nat.le_of_ble_eq_true rfl⟩ (fun H locs B => ?_)
  cases ho
  exact xe_i B hx hb hr hlocks rfl rfl rfl dX9_hours_17

set_option maxHeartbeats 4000000 in
set_option maxRecDepth 100000 in
theorem c_X9_hoursAgain (l : Launch) (hl9 : l.stackTraces = false) (G : Gd) (σ : Mm) (sz : Nat) (a0 : Int32) (a1 : Int32) {out : (Int32 ⊕ Nat) × Mm} (ho : f_X9_hoursAgain a0 a1 σ = some out) : vx_Met l yX9_hoursAgain wsX9_hoursAgain { frames := 7, cells := 2, slots := 12, locals := 131 } (va_Pc [.ref (G.2.2 154), .int a0, .int a1] (PW G σ sz)) (Xi G sz out) (XX G sz out) 2 12 (AA G sz) := by
  refine vx_ofW (cc := cX9_hoursAgain) (maxL := 3) (ret := (some .int)) (by decide) rfl ?_
  intro p e s m args below meth c s₁ B0 hml ht9 hv
  obtain ⟨rfl, hpw⟩ := hv
  have hsz := hpw.1
  subst hsz
  obtain ⟨F, B⟩ := hpw.to
  have hx := B0.exec
  have hb := B0.bytes
  have hr := B0.returns
  have hts := atoms_spec (ws := wsX9_hoursAgain) B0.pre
  have hown : s.vm.findClass RX9 = some m.cls := findClass_of_methodNamed B0.named
  have hlocks := B0.notSynchronized
  have S : CallFix p m c cX9_hoursAgain 3 s _ wsX9_hoursAgain RX9 := ⟨hx, hb, hml, hown, hts⟩
  have hiX9 : ∀ w ∈ u_ws RX9 TX9 10, w ∈ wsX9_hoursAgain := by decide +kernel
  have hl := lv_entry [.ref (G.2.2 154), .int a0, .int a1] (n := 3) (Nat.le_of_ble_eq_true rfl)
  rw [lg_entry_eq]
  generalize (lg_sl [.ref (G.2.2 154), .int a0, .int a1] ++ List.replicate (3 - (lg_sl [.ref (G.2.2 154), .int a0, .int a1]).length) Slot.unset).toArray = ls at hl ⊢
  have hl : lv_has ls 3 [(0, .ref (G.2.2 154)), (1, .int a0), (2, .int a1)] := hl
  unfold f_X9_hoursAgain at ho
  refine lv_iload_n hx hb dX9_hoursAgain_0 rfl (lv_at hl 1 rfl) ?_
  refine lv_iload_n hx hb dX9_hoursAgain_1 rfl (lv_at hl 2 rfl) ?_
  rcases xb_ ho with ⟨q1, σ2, hq1, ho⟩ | ⟨q1, σ2, hq1, rfl⟩
  rotate_left
  · exact xk_eS (As := [.int a0, .int a1]) (rest := []) no_Xv S F B (c_X9_demandCells l hl9 G σ _ a0 a1 hq1) (va_cwS 2 hts gX9_hoursAgain_X9_demandCells rfl rfl rfl (by decide +kernel) ⟨Nat.le_of_ble_eq_true rfl, Nat.le_of_ble_eq_true rfl⟩) rfl hl.1 rfl (Nat.le_of_ble_eq_true rfl) dX9_hoursAgain_2 hlocks ht9 (Nat.le_of_ble_eq_true rfl) (Nat.le_of_ble_eq_true rfl) ⟨Nat.le_of_ble_eq_true rfl, Nat.le_of_ble_eq_true rfl⟩
  refine xk_vS (As := [.int a0, .int a1]) (rest := []) S F B (c_X9_demandCells l hl9 G σ _ a0 a1 hq1) (va_cwS 2 hts gX9_hoursAgain_X9_demandCells rfl rfl rfl (by decide +kernel) ⟨Nat.le_of_ble_eq_true rfl, Nat.le_of_ble_eq_true rfl⟩) rfl hl.1 rfl (Nat.le_of_ble_eq_true rfl) dX9_hoursAgain_2 ⟨Nat.le_of_ble_eq_true rfl, Nat.le_of_ble_eq_true rfl⟩ (fun H locs B => ?_)
  refine lv_aload_n hx hb dX9_hoursAgain_5 rfl (lv_at hl 0 rfl) ?_
  refine r_get (ci := 13) (C := RX9) (T := TX9) (N := 10) S F B (kq (by decide) : kd 154 = 7 ∧ 154 < NN) rfl rfl hiX9 6 (by decide) (by decide +kernel) rfl dX9_hoursAgain_6 ?_
  refine lv_iload_n hx hb dX9_hoursAgain_9 rfl (lv_at hl 1 rfl) ?_
  refine lv_iload_n hx hb dX9_hoursAgain_10 rfl (lv_at hl 2 rfl) ?_
  obtain ⟨q3, σ4, hq3, ho⟩ := bnm_ ho
  refine k_iV (As := [.int a0, .int a1]) (rest := []) S F B (c_X8_hoursByNeighbours l G σ2 _ a0 a1 hq3) (kq (by decide) : kd 158 = 11 ∧ 158 < NN) rfl rfl (cwV 2 hts gX9_hoursAgain_X8_hoursByNeighbours rfl rfl rfl (by decide +kernel) ⟨Nat.le_of_ble_eq_true rfl, Nat.le_of_ble_eq_true rfl⟩) rfl hl.1 rfl (Nat.le_of_ble_eq_true rfl) dX9_hoursAgain_11 ⟨Nat.le_of_ble_eq_true rfl, Nat.le_of_ble_eq_true rfl⟩ (fun H locs B => ?_)
  rcases xb_ ho with ⟨q5, σ6, hq5, ho⟩ | ⟨q5, σ6, hq5, rfl⟩
  rotate_left
  · exact xk_eS (As := [.int q3]) (rest := []) no_Xi S F B (c_X9_demandWay l hl9 G σ4 _ q3 hq5) (va_cwS 1 hts gX9_hoursAgain_X9_demandWay rfl rfl rfl (by decide +kernel) ⟨Nat.le_of_ble_eq_true rfl, Nat.le_of_ble_eq_true rfl⟩) rfl hl.1 rfl (Nat.le_of_ble_eq_true rfl) dX9_hoursAgain_14 hlocks ht9 (Nat.le_of_ble_eq_true rfl) (Nat.le_of_ble_eq_true rfl) ⟨Nat.le_of_ble_eq_true rfl, Nat.le_of_ble_eq_true rfl⟩
  refine xk_iS (As := [.int q3]) (rest := []) S F B (c_X9_demandWay l hl9 G σ4 _ q3 hq5) (va_cwS 1 hts gX9_hoursAgain_X9_demandWay rfl rfl rfl (by decide +kernel) ⟨Nat.le_of_ble_eq_true rfl, Nat.le_of_ble_eq_true rfl⟩) rfl hl.1 rfl (Nat.le_of_ble_eq_true rfl) dX9_hoursAgain_14 ⟨Nat.le_of_ble_eq_true rfl, Nat.le_of_ble_eq_true rfl⟩ (fun H locs B => ?_)
  cases ho
  exact xe_i B hx hb hr hlocks rfl rfl rfl dX9_hoursAgain_17

set_option maxHeartbeats 4000000 in
set_option maxRecDepth 100000 in
theorem c_X9_next (l : Launch) (hl9 : l.stackTraces = false) (G : Gd) (σ : Mm) (sz : Nat) (a0 : Int32) {out : (Int32 ⊕ Nat) × Mm} (ho : f_X9_next a0 σ = some out) : vx_Met l yX9_next wsX9_next { frames := 7, cells := 2, slots := 12, locals := 131 } (va_Pc [.ref (G.2.2 154), .int a0] (PW G σ sz)) (Xi G sz out) (XX G sz out) 2 12 (AA G sz) := by
  refine vx_ofW (cc := cX9_next) (maxL := 3) (ret := (some .int)) (by decide) rfl ?_
  intro p e s m args below meth c s₁ B0 hml ht9 hv
  obtain ⟨rfl, hpw⟩ := hv
  have hsz := hpw.1
  subst hsz
  obtain ⟨F, B⟩ := hpw.to
  have hx := B0.exec
  have hb := B0.bytes
  have hr := B0.returns
  have hts := atoms_spec (ws := wsX9_next) B0.pre
  have hown : s.vm.findClass RX9 = some m.cls := findClass_of_methodNamed B0.named
  have hlocks := B0.notSynchronized
  have S : CallFix p m c cX9_next 3 s _ wsX9_next RX9 := ⟨hx, hb, hml, hown, hts⟩
  have hiX9 : ∀ w ∈ u_ws RX9 TX9 10, w ∈ wsX9_next := by decide +kernel
  have hl := lv_entry [.ref (G.2.2 154), .int a0] (n := 3) (Nat.le_of_ble_eq_true rfl)
  rw [lg_entry_eq]
  generalize (lg_sl [.ref (G.2.2 154), .int a0] ++ List.replicate (3 - (lg_sl [.ref (G.2.2 154), .int a0]).length) Slot.unset).toArray = ls at hl ⊢
  have hl : lv_has ls 3 [(0, .ref (G.2.2 154)), (1, .int a0)] := hl
  unfold f_X9_next at ho
  refine lv_iload_n hx hb dX9_next_0 rfl (lv_at hl 1 rfl) ?_
  refine lv_iload_n hx hb dX9_next_1 rfl (lv_at hl 1 rfl) ?_
  rcases xb_ ho with ⟨q1, σ2, hq1, ho⟩ | ⟨q1, σ2, hq1, rfl⟩
  rotate_left
  · exact xk_eS (As := [.int a0, .int a0]) (rest := []) no_Xv S F B (c_X9_demandCells l hl9 G σ _ a0 a0 hq1) (va_cwS 2 hts gX9_next_X9_demandCells rfl rfl rfl (by decide +kernel) ⟨Nat.le_of_ble_eq_true rfl, Nat.le_of_ble_eq_true rfl⟩) rfl hl.1 rfl (Nat.le_of_ble_eq_true rfl) dX9_next_2 hlocks ht9 (Nat.le_of_ble_eq_true rfl) (Nat.le_of_ble_eq_true rfl) ⟨Nat.le_of_ble_eq_true rfl, Nat.le_of_ble_eq_true rfl⟩
  refine xk_vS (As := [.int a0, .int a0]) (rest := []) S F B (c_X9_demandCells l hl9 G σ _ a0 a0 hq1) (va_cwS 2 hts gX9_next_X9_demandCells rfl rfl rfl (by decide +kernel) ⟨Nat.le_of_ble_eq_true rfl, Nat.le_of_ble_eq_true rfl⟩) rfl hl.1 rfl (Nat.le_of_ble_eq_true rfl) dX9_next_2 ⟨Nat.le_of_ble_eq_true rfl, Nat.le_of_ble_eq_true rfl⟩ (fun H locs B => ?_)
  refine lv_aload_n hx hb dX9_next_5 rfl (lv_at hl 0 rfl) ?_
  refine r_get (ci := 13) (C := RX9) (T := TX9) (N := 10) S F B (kq (by decide) : kd 154 = 7 ∧ 154 < NN) rfl rfl hiX9 6 (by decide) (by decide +kernel) rfl dX9_next_6 ?_
  refine lv_iload_n hx hb dX9_next_9 rfl (lv_at hl 1 rfl) ?_
  obtain ⟨q3, σ4, hq3, ho⟩ := bnm_ ho
  refine k_iV (As := [.int a0]) (rest := []) S F B (c_X8_stepToExit l G σ2 _ a0 hq3) (kq (by decide) : kd 158 = 11 ∧ 158 < NN) rfl rfl (cwV 1 hts gX9_next_X8_stepToExit rfl rfl rfl (by decide +kernel) ⟨Nat.le_of_ble_eq_true rfl, Nat.le_of_ble_eq_true rfl⟩) rfl hl.1 rfl (Nat.le_of_ble_eq_true rfl) dX9_next_10 ⟨Nat.le_of_ble_eq_true rfl, Nat.le_of_ble_eq_true rfl⟩ (fun H locs B => ?_)
  refine lv_istore_n (lv' := [(2, .int q3), (0, .ref (G.2.2 154)), (1, .int a0)]) hx hb dX9_next_13 rfl hl (by decide) rfl (fun ls hl => ?_)
  refine lv_iload_n hx hb dX9_next_14 rfl (lv_at hl 0 rfl) ?_
  refine lv_iconst (v := (-1)) hx hb dX9_next_15 (by decide) ?_
  refine lv_icmp_ne (tgt := 29) hx hb dX9_next_16 (by decide) (fun c5 => ?_) (fun c5 => ?_)
  · have ho := in_ c5 ho
    refine lv_iload_n hx hb dX9_next_29 rfl (lv_at hl 0 rfl) ?_
    refine W.widen (k := 2) (n := 12) (by decide) (by decide) ?_
    cases ho
    exact xe_i B hx hb hr hlocks rfl rfl rfl dX9_next_30
  · have ho := ip_ c5 ho
    cases ho
    exact t_throwNg 2 4 (by decide) (by decide) S F B hl9 hlocks ht9 hl.1 rfl rfl (by decide +kernel) (by decide +kernel) (by decide +kernel) (by decide +kernel) (Nat.le_of_ble_eq_true rfl) (Nat.le_of_ble_eq_true rfl) (Nat.le_of_ble_eq_true rfl) (Nat.le_of_ble_eq_true rfl) (Nat.le_of_ble_eq_true rfl) (Nat.le_of_ble_eq_true rfl) dX9_next_19 dX9_next_22 dX9_next_23 dX9_next_25 dX9_next_28

set_option maxHeartbeats 4000000 in
set_option maxRecDepth 100000 in
theorem c_X9_reached (l : Launch) (hl9 : l.stackTraces = false) (G : Gd) (σ : Mm) (sz : Nat) (a0 : Int32) {out : (Int32 ⊕ Nat) × Mm} (ho : f_X9_reached a0 σ = some out) : vx_Met l yX9_reached wsX9_reached { frames := 7, cells := 1, slots := 6, locals := 131 } (va_Pc [.ref (G.2.2 154), .int a0] (PW G σ sz)) (Xi G sz out) (XX G sz out) 1 6 (AA G sz) := by
  refine vx_ofW (cc := cX9_reached) (maxL := 2) (ret := (some .int)) (by decide) rfl ?_
  intro p e s m args below meth c s₁ B0 hml ht9 hv
  obtain ⟨rfl, hpw⟩ := hv
  have hsz := hpw.1
  subst hsz
  obtain ⟨F, B⟩ := hpw.to
  have hx := B0.exec
  have hb := B0.bytes
  have hr := B0.returns
  have hts := atoms_spec (ws := wsX9_reached) B0.pre
  have hown : s.vm.findClass RX9 = some m.cls := findClass_of_methodNamed B0.named
  have hlocks := B0.notSynchronized
  have S : CallFix p m c cX9_reached 2 s _ wsX9_reached RX9 := ⟨hx, hb, hml, hown, hts⟩
  have hiX9 : ∀ w ∈ u_ws RX9 TX9 10, w ∈ wsX9_reached := by decide +kernel
  have hl := lv_entry [.ref (G.2.2 154), .int a0] (n := 2) (Nat.le_of_ble_eq_true rfl)
  rw [lg_entry_eq]
  generalize (lg_sl [.ref (G.2.2 154), .int a0] ++ List.replicate (2 - (lg_sl [.ref (G.2.2 154), .int a0]).length) Slot.unset).toArray = ls at hl ⊢
  have hl : lv_has ls 2 [(0, .ref (G.2.2 154)), (1, .int a0)] := hl
  unfold f_X9_reached at ho
  refine lv_iload_n hx hb dX9_reached_0 rfl (lv_at hl 1 rfl) ?_
  refine lv_iload_n hx hb dX9_reached_1 rfl (lv_at hl 1 rfl) ?_
  rcases xb_ ho with ⟨q1, σ2, hq1, ho⟩ | ⟨q1, σ2, hq1, rfl⟩
  rotate_left
  · exact xk_eS (As := [.int a0, .int a0]) (rest := []) no_Xv S F B (c_X9_demandCells l hl9 G σ _ a0 a0 hq1) (va_cwS 2 hts gX9_reached_X9_demandCells rfl rfl rfl (by decide +kernel) ⟨Nat.le_of_ble_eq_true rfl, Nat.le_of_ble_eq_true rfl⟩) rfl hl.1 rfl (Nat.le_of_ble_eq_true rfl) dX9_reached_2 hlocks ht9 (Nat.le_of_ble_eq_true rfl) (Nat.le_of_ble_eq_true rfl) ⟨Nat.le_of_ble_eq_true rfl, Nat.le_of_ble_eq_true rfl⟩
  refine xk_vS (As := [.int a0, .int a0]) (rest := []) S F B (c_X9_demandCells l hl9 G σ _ a0 a0 hq1) (va_cwS 2 hts gX9_reached_X9_demandCells rfl rfl rfl (by decide +kernel) ⟨Nat.le_of_ble_eq_true rfl, Nat.le_of_ble_eq_true rfl⟩) rfl hl.1 rfl (Nat.le_of_ble_eq_true rfl) dX9_reached_2 ⟨Nat.le_of_ble_eq_true rfl, Nat.le_of_ble_eq_true rfl⟩ (fun H locs B => ?_)
  refine lv_aload_n hx hb dX9_reached_5 rfl (lv_at hl 0 rfl) ?_
  refine r_get (ci := 13) (C := RX9) (T := TX9) (N := 10) S F B (kq (by decide) : kd 154 = 7 ∧ 154 < NN) rfl rfl hiX9 6 (by decide) (by decide +kernel) rfl dX9_reached_6 ?_
  refine lv_iload_n hx hb dX9_reached_9 rfl (lv_at hl 1 rfl) ?_
  obtain ⟨q3, hq3, ho⟩ := bnd_ ho
  refine k_iV (As := [.int a0]) (rest := []) S F B (c_X8_cellsReached l G σ2 _ a0 hq3) (kq (by decide) : kd 158 = 11 ∧ 158 < NN) rfl rfl (cwV 1 hts gX9_reached_X8_cellsReached rfl rfl rfl (by decide +kernel) ⟨Nat.le_of_ble_eq_true rfl, Nat.le_of_ble_eq_true rfl⟩) rfl hl.1 rfl (Nat.le_of_ble_eq_true rfl) dX9_reached_10 ⟨Nat.le_of_ble_eq_true rfl, Nat.le_of_ble_eq_true rfl⟩ (fun H locs B => ?_)
  cases ho
  exact xe_i B hx hb hr hlocks rfl rfl rfl dX9_reached_13

set_option maxHeartbeats 4000000 in
set_option maxRecDepth 100000 in
theorem c_X9_trims (l : Launch) (hl9 : l.stackTraces = false) (G : Gd) (σ : Mm) (sz : Nat) (a0 : Int32) {out : (Int32 ⊕ Nat) × Mm} (ho : f_X9_trims a0 σ = some out) : vx_Met l yX9_trims wsX9_trims { frames := 7, cells := 1, slots := 6, locals := 131 } (va_Pc [.ref (G.2.2 154), .int a0] (PW G σ sz)) (Xi G sz out) (XX G sz out) 1 6 (AA G sz) := by
  refine vx_ofW (cc := cX9_trims) (maxL := 2) (ret := (some .int)) (by decide) rfl ?_
  intro p e s m args below meth c s₁ B0 hml ht9 hv
  obtain ⟨rfl, hpw⟩ := hv
  have hsz := hpw.1
  subst hsz
  obtain ⟨F, B⟩ := hpw.to
  have hx := B0.exec
  have hb := B0.bytes
  have hr := B0.returns
  have hts := atoms_spec (ws := wsX9_trims) B0.pre
  have hown : s.vm.findClass RX9 = some m.cls := findClass_of_methodNamed B0.named
  have hlocks := B0.notSynchronized
  have S : CallFix p m c cX9_trims 2 s _ wsX9_trims RX9 := ⟨hx, hb, hml, hown, hts⟩
  have hiX9 : ∀ w ∈ u_ws RX9 TX9 10, w ∈ wsX9_trims := by decide +kernel
  have hl := lv_entry [.ref (G.2.2 154), .int a0] (n := 2) (Nat.le_of_ble_eq_true rfl)
  rw [lg_entry_eq]
  generalize (lg_sl [.ref (G.2.2 154), .int a0] ++ List.replicate (2 - (lg_sl [.ref (G.2.2 154), .int a0]).length) Slot.unset).toArray = ls at hl ⊢
  have hl : lv_has ls 2 [(0, .ref (G.2.2 154)), (1, .int a0)] := hl
  unfold f_X9_trims at ho
  refine lv_iload_n hx hb dX9_trims_0 rfl (lv_at hl 1 rfl) ?_
  refine lv_iload_n hx hb dX9_trims_1 rfl (lv_at hl 1 rfl) ?_
  rcases xb_ ho with ⟨q1, σ2, hq1, ho⟩ | ⟨q1, σ2, hq1, rfl⟩
  rotate_left
  · exact xk_eS (As := [.int a0, .int a0]) (rest := []) no_Xv S F B (c_X9_demandCells l hl9 G σ _ a0 a0 hq1) (va_cwS 2 hts gX9_trims_X9_demandCells rfl rfl rfl (by decide +kernel) ⟨Nat.le_of_ble_eq_true rfl, Nat.le_of_ble_eq_true rfl⟩) rfl hl.1 rfl (Nat.le_of_ble_eq_true rfl) dX9_trims_2 hlocks ht9 (Nat.le_of_ble_eq_true rfl) (Nat.le_of_ble_eq_true rfl) ⟨Nat.le_of_ble_eq_true rfl, Nat.le_of_ble_eq_true rfl⟩
  refine xk_vS (As := [.int a0, .int a0]) (rest := []) S F B (c_X9_demandCells l hl9 G σ _ a0 a0 hq1) (va_cwS 2 hts gX9_trims_X9_demandCells rfl rfl rfl (by decide +kernel) ⟨Nat.le_of_ble_eq_true rfl, Nat.le_of_ble_eq_true rfl⟩) rfl hl.1 rfl (Nat.le_of_ble_eq_true rfl) dX9_trims_2 ⟨Nat.le_of_ble_eq_true rfl, Nat.le_of_ble_eq_true rfl⟩ (fun H locs B => ?_)
  refine lv_aload_n hx hb dX9_trims_5 rfl (lv_at hl 0 rfl) ?_
  refine r_get (ci := 13) (C := RX9) (T := TX9) (N := 10) S F B (kq (by decide) : kd 154 = 7 ∧ 154 < NN) rfl rfl hiX9 6 (by decide) (by decide +kernel) rfl dX9_trims_6 ?_
  refine lv_iload_n hx hb dX9_trims_9 rfl (lv_at hl 1 rfl) ?_
  obtain ⟨q3, hq3, ho⟩ := bnd_ ho
  refine k_iV (As := [.int a0]) (rest := []) S F B (c_X8_trimsByNumber l G σ2 _ a0 hq3) (kq (by decide) : kd 158 = 11 ∧ 158 < NN) rfl rfl (cwV 1 hts gX9_trims_X8_trimsByNumber rfl rfl rfl (by decide +kernel) ⟨Nat.le_of_ble_eq_true rfl, Nat.le_of_ble_eq_true rfl⟩) rfl hl.1 rfl (Nat.le_of_ble_eq_true rfl) dX9_trims_10 ⟨Nat.le_of_ble_eq_true rfl, Nat.le_of_ble_eq_true rfl⟩ (fun H locs B => ?_)
  cases ho
  exact xe_i B hx hb hr hlocks rfl rfl rfl dX9_trims_13

set_option maxHeartbeats 4000000 in
set_option maxRecDepth 100000 in
theorem c_X9_trimsAgain (l : Launch) (hl9 : l.stackTraces = false) (G : Gd) (σ : Mm) (sz : Nat) (a0 : Int32) {out : (Int32 ⊕ Nat) × Mm} (ho : f_X9_trimsAgain a0 σ = some out) : vx_Met l yX9_trimsAgain wsX9_trimsAgain { frames := 7, cells := 1, slots := 6, locals := 131 } (va_Pc [.ref (G.2.2 154), .int a0] (PW G σ sz)) (Xi G sz out) (XX G sz out) 1 6 (AA G sz) := by
  refine vx_ofW (cc := cX9_trimsAgain) (maxL := 2) (ret := (some .int)) (by decide) rfl ?_
  intro p e s m args below meth c s₁ B0 hml ht9 hv
  obtain ⟨rfl, hpw⟩ := hv
  have hsz := hpw.1
  subst hsz
  obtain ⟨F, B⟩ := hpw.to
  have hx := B0.exec
  have hb := B0.bytes
  have hr := B0.returns
  have hts := atoms_spec (ws := wsX9_trimsAgain) B0.pre
  have hown : s.vm.findClass RX9 = some m.cls := findClass_of_methodNamed B0.named
  have hlocks := B0.notSynchronized
  have S : CallFix p m c cX9_trimsAgain 2 s _ wsX9_trimsAgain RX9 := ⟨hx, hb, hml, hown, hts⟩
  have hiX9 : ∀ w ∈ u_ws RX9 TX9 10, w ∈ wsX9_trimsAgain := by decide +kernel
  have hl := lv_entry [.ref (G.2.2 154), .int a0] (n := 2) (Nat.le_of_ble_eq_true rfl)
  rw [lg_entry_eq]
  generalize (lg_sl [.ref (G.2.2 154), .int a0] ++ List.replicate (2 - (lg_sl [.ref (G.2.2 154), .int a0]).length) Slot.unset).toArray = ls at hl ⊢
  have hl : lv_has ls 2 [(0, .ref (G.2.2 154)), (1, .int a0)] := hl
  unfold f_X9_trimsAgain at ho
  refine lv_iload_n hx hb dX9_trimsAgain_0 rfl (lv_at hl 1 rfl) ?_
  refine lv_iload_n hx hb dX9_trimsAgain_1 rfl (lv_at hl 1 rfl) ?_
  rcases xb_ ho with ⟨q1, σ2, hq1, ho⟩ | ⟨q1, σ2, hq1, rfl⟩
  rotate_left
  · exact xk_eS (As := [.int a0, .int a0]) (rest := []) no_Xv S F B (c_X9_demandCells l hl9 G σ _ a0 a0 hq1) (va_cwS 2 hts gX9_trimsAgain_X9_demandCells rfl rfl rfl (by decide +kernel) ⟨Nat.le_of_ble_eq_true rfl, Nat.le_of_ble_eq_true rfl⟩) rfl hl.1 rfl (Nat.le_of_ble_eq_true rfl) dX9_trimsAgain_2 hlocks ht9 (Nat.le_of_ble_eq_true rfl) (Nat.le_of_ble_eq_true rfl) ⟨Nat.le_of_ble_eq_true rfl, Nat.le_of_ble_eq_true rfl⟩
  refine xk_vS (As := [.int a0, .int a0]) (rest := []) S F B (c_X9_demandCells l hl9 G σ _ a0 a0 hq1) (va_cwS 2 hts gX9_trimsAgain_X9_demandCells rfl rfl rfl (by decide +kernel) ⟨Nat.le_of_ble_eq_true rfl, Nat.le_of_ble_eq_true rfl⟩) rfl hl.1 rfl (Nat.le_of_ble_eq_true rfl) dX9_trimsAgain_2 ⟨Nat.le_of_ble_eq_true rfl, Nat.le_of_ble_eq_true rfl⟩ (fun H locs B => ?_)
  refine lv_aload_n hx hb dX9_trimsAgain_5 rfl (lv_at hl 0 rfl) ?_
  refine r_get (ci := 13) (C := RX9) (T := TX9) (N := 10) S F B (kq (by decide) : kd 154 = 7 ∧ 154 < NN) rfl rfl hiX9 6 (by decide) (by decide +kernel) rfl dX9_trimsAgain_6 ?_
  refine lv_iload_n hx hb dX9_trimsAgain_9 rfl (lv_at hl 1 rfl) ?_
  obtain ⟨q3, σ4, hq3, ho⟩ := bnm_ ho
  refine k_iV (As := [.int a0]) (rest := []) S F B (c_X8_trimsByNeighbours l G σ2 _ a0 hq3) (kq (by decide) : kd 158 = 11 ∧ 158 < NN) rfl rfl (cwV 1 hts gX9_trimsAgain_X8_trimsByNeighbours rfl rfl rfl (by decide +kernel) ⟨Nat.le_of_ble_eq_true rfl, Nat.le_of_ble_eq_true rfl⟩) rfl hl.1 rfl (Nat.le_of_ble_eq_true rfl) dX9_trimsAgain_10 ⟨Nat.le_of_ble_eq_true rfl, Nat.le_of_ble_eq_true rfl⟩ (fun H locs B => ?_)
  cases ho
  exact xe_i B hx hb hr hlocks rfl rfl rfl dX9_trimsAgain_13

set_option maxHeartbeats 4000000 in
set_option maxRecDepth 100000 in
theorem c_X9_isNeeded (l : Launch) (hl9 : l.stackTraces = false) (G : Gd) (σ : Mm) (sz : Nat) (a0 : Int32) (a1 : Int32) {out : (Int32 ⊕ Nat) × Mm} (ho : f_X9_isNeeded a0 a1 σ = some out) : vx_Met l yX9_isNeeded wsX9_isNeeded { frames := 8, cells := 2, slots := 12, locals := 153 } (va_Pc [.ref (G.2.2 154), .int a0, .int a1] (PW G σ sz)) (Xi G sz out) (XX G sz out) 2 12 (AA G sz) := by
  refine vx_ofW (cc := cX9_isNeeded) (maxL := 4) (ret := (some .boolean)) (by decide) rfl ?_
  intro p e s m args below meth c s₁ B0 hml ht9 hv
  obtain ⟨rfl, hpw⟩ := hv
  have hsz := hpw.1
  subst hsz
  obtain ⟨F, B⟩ := hpw.to
  have hx := B0.exec
  have hb := B0.bytes
  have hr := B0.returns
  have hts := atoms_spec (ws := wsX9_isNeeded) B0.pre
  have hown : s.vm.findClass RX9 = some m.cls := findClass_of_methodNamed B0.named
  have hlocks := B0.notSynchronized
  have S : CallFix p m c cX9_isNeeded 4 s _ wsX9_isNeeded RX9 := ⟨hx, hb, hml, hown, hts⟩
  have hiX9 : ∀ w ∈ u_ws RX9 TX9 10, w ∈ wsX9_isNeeded := by decide +kernel
  have hl := lv_entry [.ref (G.2.2 154), .int a0, .int a1] (n := 4) (Nat.le_of_ble_eq_true rfl)
  rw [lg_entry_eq]
  generalize (lg_sl [.ref (G.2.2 154), .int a0, .int a1] ++ List.replicate (4 - (lg_sl [.ref (G.2.2 154), .int a0, .int a1]).length) Slot.unset).toArray = ls at hl ⊢
  have hl : lv_has ls 4 [(0, .ref (G.2.2 154)), (1, .int a0), (2, .int a1)] := hl
  unfold f_X9_isNeeded at ho
  refine lv_iload_n hx hb dX9_isNeeded_0 rfl (lv_at hl 1 rfl) ?_
  refine lv_iload_n hx hb dX9_isNeeded_1 rfl (lv_at hl 2 rfl) ?_
  rcases xb_ ho with ⟨q1, σ2, hq1, ho⟩ | ⟨q1, σ2, hq1, rfl⟩
  rotate_left
  · exact xk_eS (As := [.int a0, .int a1]) (rest := []) no_Xi S F B (c_X9_hedgeAsked l hl9 G σ _ a0 a1 hq1) (va_cwS 2 hts gX9_isNeeded_X9_hedgeAsked rfl rfl rfl (by decide +kernel) ⟨Nat.le_of_ble_eq_true rfl, Nat.le_of_ble_eq_true rfl⟩) rfl hl.1 rfl (Nat.le_of_ble_eq_true rfl) dX9_isNeeded_2 hlocks ht9 (Nat.le_of_ble_eq_true rfl) (Nat.le_of_ble_eq_true rfl) ⟨Nat.le_of_ble_eq_true rfl, Nat.le_of_ble_eq_true rfl⟩
  refine xk_iS (As := [.int a0, .int a1]) (rest := []) S F B (c_X9_hedgeAsked l hl9 G σ _ a0 a1 hq1) (va_cwS 2 hts gX9_isNeeded_X9_hedgeAsked rfl rfl rfl (by decide +kernel) ⟨Nat.le_of_ble_eq_true rfl, Nat.le_of_ble_eq_true rfl⟩) rfl hl.1 rfl (Nat.le_of_ble_eq_true rfl) dX9_isNeeded_2 ⟨Nat.le_of_ble_eq_true rfl, Nat.le_of_ble_eq_true rfl⟩ (fun H locs B => ?_)
  refine lv_istore_n (lv' := [(3, .int q1), (0, .ref (G.2.2 154)), (1, .int a0), (2, .int a1)]) hx hb dX9_isNeeded_5 rfl hl (by decide) rfl (fun ls hl => ?_)
  refine lv_aload_n hx hb dX9_isNeeded_6 rfl (lv_at hl 1 rfl) ?_
  refine r_get (ci := 13) (C := RX9) (T := TX9) (N := 10) S F B (kq (by decide) : kd 154 = 7 ∧ 154 < NN) rfl rfl hiX9 6 (by decide) (by decide +kernel) rfl dX9_isNeeded_7 ?_
  refine lv_iconst (v := 5) hx hb dX9_isNeeded_10 (by decide) ?_
  refine lv_iconst (v := (-1)) hx hb dX9_isNeeded_11 (by decide) ?_
  obtain ⟨q3, hq3, ho⟩ := bnd_ ho
  refine k_iV (As := [.int 5, .int (-1)]) (rest := []) S F B (c_X8_leadsThrough l G σ2 _ 5 (-1) hq3) (kq (by decide) : kd 158 = 11 ∧ 158 < NN) rfl rfl (cwV 2 hts gX9_isNeeded_X8_leadsThrough rfl rfl rfl (by decide +kernel) ⟨Nat.le_of_ble_eq_true rfl, Nat.le_of_ble_eq_true rfl⟩) rfl hl.1 rfl (Nat.le_of_ble_eq_true rfl) dX9_isNeeded_12 ⟨Nat.le_of_ble_eq_true rfl, Nat.le_of_ble_eq_true rfl⟩ (fun H locs B => ?_)
  refine lv_if_eq (tgt := 34) hx hb dX9_isNeeded_15 (by decide) (fun c4 => ?_) (fun c4 => ?_)
  · have ho := ip_ c4 ho
    refine lv_iconst (v := 0) hx hb dX9_isNeeded_34 (by decide) ?_
    cases ho
    exact xe_i B hx hb hr hlocks rfl rfl rfl dX9_isNeeded_35
  · have ho := in_ c4 ho
    refine lv_aload_n hx hb dX9_isNeeded_18 rfl (lv_at hl 1 rfl) ?_
    refine r_get (ci := 13) (C := RX9) (T := TX9) (N := 10) S F B (kq (by decide) : kd 154 = 7 ∧ 154 < NN) rfl rfl hiX9 6 (by decide) (by decide +kernel) rfl dX9_isNeeded_19 ?_
    refine lv_iconst (v := 5) hx hb dX9_isNeeded_22 (by decide) ?_
    refine lv_iload_n hx hb dX9_isNeeded_23 rfl (lv_at hl 0 rfl) ?_
    obtain ⟨q5, hq5, ho⟩ := bnd_ ho
    refine k_iV (As := [.int 5, .int q1]) (rest := []) S F B (c_X8_leadsThrough l G σ2 _ 5 q1 hq5) (kq (by decide) : kd 158 = 11 ∧ 158 < NN) rfl rfl (cwV 2 hts gX9_isNeeded_X8_leadsThrough rfl rfl rfl (by decide +kernel) ⟨Nat.le_of_ble_eq_true rfl, Nat.le_of_ble_eq_true rfl⟩) rfl hl.1 rfl (Nat.le_of_ble_eq_true rfl) dX9_isNeeded_24 ⟨Nat.le_of_ble_eq_true rfl, Nat.le_of_ble_eq_true rfl⟩ (fun H locs B => ?_)
    refine lv_if_ne (tgt := 34) hx hb dX9_isNeeded_27 (by decide) (fun c6 => ?_) (fun c6 => ?_)
    · have ho := in_ c6 ho
      refine lv_iconst (v := 0) hx hb dX9_isNeeded_34 (by decide) ?_
      cases ho
      exact xe_i B hx hb hr hlocks rfl rfl rfl dX9_isNeeded_35
    · have ho := ip_ c6 ho
      refine lv_iconst (v := 1) hx hb dX9_isNeeded_30 (by decide) ?_
      refine lv_goto (tgt := 35) hx hb dX9_isNeeded_31 (by decide) ?_
      cases ho
      exact xe_i B hx hb hr hlocks rfl rfl rfl dX9_isNeeded_35

set_option maxHeartbeats 4000000 in
set_option maxRecDepth 100000 in
theorem c_X9_closesIn (l : Launch) (hl9 : l.stackTraces = false) (G : Gd) (σ : Mm) (sz : Nat) (a0 : Int32) (a1 : Int32) {out : (Int32 ⊕ Nat) × Mm} (ho : f_X9_closesIn a0 a1 σ = some out) : vx_Met l yX9_closesIn wsX9_closesIn { frames := 8, cells := 2, slots := 12, locals := 153 } (va_Pc [.ref (G.2.2 154), .int a0, .int a1] (PW G σ sz)) (Xi G sz out) (XX G sz out) 2 12 (AA G sz) := by
  refine vx_ofW (cc := cX9_closesIn) (maxL := 4) (ret := (some .int)) (by decide) rfl ?_
  intro p e s m args below meth c s₁ B0 hml ht9 hv
  obtain ⟨rfl, hpw⟩ := hv
  have hsz := hpw.1
  subst hsz
  obtain ⟨F, B⟩ := hpw.to
  have hx := B0.exec
  have hb := B0.bytes
  have hr := B0.returns
  have hts := atoms_spec (ws := wsX9_closesIn) B0.pre
  have hown : s.vm.findClass RX9 = some m.cls := findClass_of_methodNamed B0.named
  have hlocks := B0.notSynchronized
  have S : CallFix p m c cX9_closesIn 4 s _ wsX9_closesIn RX9 := ⟨hx, hb, hml, hown, hts⟩
  have hiX9 : ∀ w ∈ u_ws RX9 TX9 10, w ∈ wsX9_closesIn := by decide +kernel
  have hiX6 : ∀ w ∈ u_ws RX6 TX6 9, w ∈ wsX9_closesIn := by decide +kernel
  have hl := lv_entry [.ref (G.2.2 154), .int a0, .int a1] (n := 4) (Nat.le_of_ble_eq_true rfl)
  rw [lg_entry_eq]
  generalize (lg_sl [.ref (G.2.2 154), .int a0, .int a1] ++ List.replicate (4 - (lg_sl [.ref (G.2.2 154), .int a0, .int a1]).length) Slot.unset).toArray = ls at hl ⊢
  have hl : lv_has ls 4 [(0, .ref (G.2.2 154)), (1, .int a0), (2, .int a1)] := hl
  unfold f_X9_closesIn at ho
  refine lv_aload_n hx hb dX9_closesIn_0 rfl (lv_at hl 0 rfl) ?_
  refine r_get (ci := 13) (C := RX9) (T := TX9) (N := 10) S F B (kq (by decide) : kd 154 = 7 ∧ 154 < NN) rfl rfl hiX9 0 (by decide) (by decide +kernel) rfl dX9_closesIn_1 ?_
  refine r_getN (ci := 10) (C := RX6) (T := TX6) (N := 9) S F B (kq (by decide) : kd 0 = 0 ∧ 0 < NN) rfl rfl hiX6 0 (by decide) (by decide) rfl dX9_closesIn_4 ?_
  refine lv_iload_n hx hb dX9_closesIn_7 rfl (lv_at hl 1 rfl) ?_
  refine lv_iload_n hx hb dX9_closesIn_8 rfl (lv_at hl 2 rfl) ?_
  rcases xb_ ho with ⟨q1, σ2, hq1, ho⟩ | ⟨q1, σ2, hq1, rfl⟩
  rotate_left
  · exact xk_eS (As := [.int a0, .int a1]) (rest := [.ref (G.2.2 1)]) no_Xi S F B (c_X9_hedgeAsked l hl9 G σ _ a0 a1 hq1) (va_cwS 2 hts gX9_closesIn_X9_hedgeAsked rfl rfl rfl (by decide +kernel) ⟨Nat.le_of_ble_eq_true rfl, Nat.le_of_ble_eq_true rfl⟩) rfl hl.1 rfl (Nat.le_of_ble_eq_true rfl) dX9_closesIn_9 hlocks ht9 (Nat.le_of_ble_eq_true rfl) (Nat.le_of_ble_eq_true rfl) ⟨Nat.le_of_ble_eq_true rfl, Nat.le_of_ble_eq_true rfl⟩
  refine xk_iS (As := [.int a0, .int a1]) (rest := [.ref (G.2.2 1)]) S F B (c_X9_hedgeAsked l hl9 G σ _ a0 a1 hq1) (va_cwS 2 hts gX9_closesIn_X9_hedgeAsked rfl rfl rfl (by decide +kernel) ⟨Nat.le_of_ble_eq_true rfl, Nat.le_of_ble_eq_true rfl⟩) rfl hl.1 rfl (Nat.le_of_ble_eq_true rfl) dX9_closesIn_9 ⟨Nat.le_of_ble_eq_true rfl, Nat.le_of_ble_eq_true rfl⟩ (fun H locs B => ?_)
  obtain ⟨q3, hq3, ho⟩ := bnd_ ho
  refine k_iV (As := [.int q1]) (rest := []) S F B (c_X4_leavesOf l G σ2 _ q1 hq3) (kq (by decide) : kd 1 = 1 ∧ 1 < NN) rfl rfl (cwV 1 hts gX9_closesIn_X4_leavesOf rfl rfl rfl (by decide +kernel) ⟨Nat.le_of_ble_eq_true rfl, Nat.le_of_ble_eq_true rfl⟩) rfl hl.1 rfl (Nat.le_of_ble_eq_true rfl) dX9_closesIn_12 ⟨Nat.le_of_ble_eq_true rfl, Nat.le_of_ble_eq_true rfl⟩ (fun H locs B => ?_)
  refine lv_istore_n (lv' := [(3, .int q3), (0, .ref (G.2.2 154)), (1, .int a0), (2, .int a1)]) hx hb dX9_closesIn_15 rfl hl (by decide) rfl (fun ls hl => ?_)
  refine lv_iconst (v := 0) hx hb dX9_closesIn_16 (by decide) ?_
  refine lv_iconst (v := 5) hx hb dX9_closesIn_17 (by decide) ?_
  refine lv_iload_n hx hb dX9_closesIn_18 rfl (lv_at hl 0 rfl) ?_
  refine lv_isub hx hb dX9_closesIn_19 ?_
  refine va_mmax hx hb (hml.trans hl.1.symm) hown (hts _ (by decide +kernel)) (hts _ (by decide +kernel)) (hts _ (by decide +kernel)) (hts _ (by decide +kernel)) (Nat.le_of_ble_eq_true rfl) (Nat.le_of_ble_eq_true rfl) (Nat.le_of_ble_eq_true rfl) (Nat.le_of_ble_eq_true rfl) dX9_closesIn_20 ?_
  cases ho
  exact xe_i B hx hb hr hlocks rfl rfl rfl dX9_closesIn_23

set_option maxHeartbeats 4000000 in
set_option maxRecDepth 100000 in
theorem c_X9_summersLeft (l : Launch) (G : Gd) (σ : Mm) (sz : Nat) {out : Int32} (ho : f_X9_summersLeft σ = some out) : Met l yX9_summersLeft wsX9_summersLeft { frames := 3, cells := 0, slots := 0, locals := 71 } (va_Pc [.ref (G.2.2 154)] (PW G σ sz)) (Qi G sz out σ) 0 0 (AA G sz) := by
  refine Met.ofW (cc := cX9_summersLeft) (maxL := 2) (ret := (some .int)) (by decide) rfl ?_
  intro p e s m args below meth c s₁ B0 hml hv
  obtain ⟨rfl, hpw⟩ := hv
  have hsz := hpw.1
  subst hsz
  obtain ⟨F, B⟩ := hpw.to
  have hx := B0.exec
  have hb := B0.bytes
  have hr := B0.returns
  have hts := atoms_spec (ws := wsX9_summersLeft) B0.pre
  have hown : s.vm.findClass RX9 = some m.cls := findClass_of_methodNamed B0.named
  have hlocks := B0.notSynchronized
  have S : CallFix p m c cX9_summersLeft 2 s _ wsX9_summersLeft RX9 := ⟨hx, hb, hml, hown, hts⟩
  have hiX9 : ∀ w ∈ u_ws RX9 TX9 10, w ∈ wsX9_summersLeft := by decide +kernel
  have hl := lv_entry [.ref (G.2.2 154)] (n := 2) (Nat.le_of_ble_eq_true rfl)
  rw [lg_entry_eq]
  generalize (lg_sl [.ref (G.2.2 154)] ++ List.replicate (2 - (lg_sl [.ref (G.2.2 154)]).length) Slot.unset).toArray = ls at hl ⊢
  have hl : lv_has ls 2 [(0, .ref (G.2.2 154))] := hl
  unfold f_X9_summersLeft at ho
  skip
  refine lv_iconst (v := 0) hx hb dX9_summersLeft_0 (by decide) ?_
  refine lv_istore_n (lv' := [(1, .int 0), (0, .ref (G.2.2 154))]) hx hb dX9_summersLeft_1 rfl hl (by decide) rfl (fun ls hl => ?_)
  have hloop2 : ∀ (n : Nat) (v3 : Int32) (H : Heap) (locs : List Loc) (ls : Array Slot), f_X9_summersLeft_l2  σ n v3 = some out → Bd G σ s H locs → lv_has ls 2 [(1, .int v3), (0, .ref (G.2.2 154))] → W p l e (headSpec wsX9_summersLeft { frames := 3, cells := 0, slots := 0, locals := 71 }).room s m #[.ref (G.2.2 154)] below meth c H locs 0 0 (MQ below (Qi G s.heap.size out σ) #[.ref (G.2.2 154)] s 0 0 (AA G s.heap.size)) (F0 m 2 ls []) := by
    intro n
    induction n with
    | zero => intro v3 H locs ls ho B hl; cases ho
    | succ n ih =>
      intro v3 H locs ls ho B hl
      refine lv_iload_n hx hb dX9_summersLeft_2 rfl (lv_at hl 0 rfl) ?_
      refine lv_iconst (v := 5) hx hb dX9_summersLeft_3 (by decide) ?_
      refine lv_icmp_ge (tgt := 29) hx hb dX9_summersLeft_4 (by decide) (fun c4 => ?_) (fun c4 => ?_)
      · have ho := ip_ c4 ho
        refine lv_iconst (v := 5) hx hb dX9_summersLeft_29 (by decide) ?_
        cases ho
        exact e_i B hx hb hr hlocks rfl rfl dX9_summersLeft_30
      · have ho := in_ c4 ho
        refine lv_aload_n hx hb dX9_summersLeft_7 rfl (lv_at hl 1 rfl) ?_
        refine r_get (ci := 13) (C := RX9) (T := TX9) (N := 10) S F B (kq (by decide) : kd 154 = 7 ∧ 154 < NN) rfl rfl hiX9 6 (by decide) (by decide +kernel) rfl dX9_summersLeft_8 ?_
        refine lv_iconst (v := 5) hx hb dX9_summersLeft_11 (by decide) ?_
        refine lv_iload_n hx hb dX9_summersLeft_12 rfl (lv_at hl 0 rfl) ?_
        refine lv_isub hx hb dX9_summersLeft_13 ?_
        refine lv_iconst (v := (-1)) hx hb dX9_summersLeft_14 (by decide) ?_
        obtain ⟨q5, hq5, ho⟩ := bnd_ ho
        refine k_iV (As := [.int (5 - v3), .int (-1)]) (rest := []) S F B (c_X8_leadsThrough l G σ _ (5 - v3) (-1) hq5) (kq (by decide) : kd 158 = 11 ∧ 158 < NN) rfl rfl (cwV 2 hts gX9_summersLeft_X8_leadsThrough rfl rfl rfl (by decide +kernel) ⟨Nat.le_of_ble_eq_true rfl, Nat.le_of_ble_eq_true rfl⟩) rfl hl.1 rfl (Nat.le_of_ble_eq_true rfl) dX9_summersLeft_15 ⟨Nat.le_of_ble_eq_true rfl, Nat.le_of_ble_eq_true rfl⟩ (fun H locs B => ?_)
        refine lv_if_ne (tgt := 23) hx hb dX9_summersLeft_18 (by decide) (fun c6 => ?_) (fun c6 => ?_)
        · have ho := in_ c6 ho
          obtain ⟨x7, ex7, ho⟩ := lt_ ho
          refine lv_iinc (v := x7) (lv' := [(1, .int x7), (0, .ref (G.2.2 154))]) hx hb dX9_summersLeft_23 hl (k := 0) rfl (by rw [ex7]; rfl) (by decide) rfl (fun ls hl => ?_)
          refine lv_goto (tgt := 2) hx hb dX9_summersLeft_26 (by decide) ?_
          exact ih _  _ _ _ ho B (lv_sub hl [0, 1] rfl)
        · have ho := ip_ c6 ho
          refine lv_iload_n hx hb dX9_summersLeft_21 rfl (lv_at hl 0 rfl) ?_
          cases ho
          exact e_i B hx hb hr hlocks rfl rfl dX9_summersLeft_22
  exact hloop2 8 _  _ _ _ ho B hl

set_option maxHeartbeats 4000000 in
set_option maxRecDepth 100000 in
theorem c_X9_gardenerAsked (l : Launch) (hl9 : l.stackTraces = false) (G : Gd) (σ : Mm) (sz : Nat) (a0 : Int32) {out : (Option Nat ⊕ Nat) × Mm} (ho : f_X9_gardenerAsked a0 σ = some out) : vx_Met l yX9_gardenerAsked wsX9_gardenerAsked { frames := 6, cells := 1, slots := 6, locals := 110 } (va_Pc [.ref (G.2.2 154), .int a0] (PW G σ sz)) (Xq G sz out) (XX G sz out) 1 6 (AA G sz) := by
  refine vx_ofW (cc := cX9_gardenerAsked) (maxL := 3) (ret := (some (.object "MazeBonds$Gardener"))) (by decide) rfl ?_
  intro p e s m args below meth c s₁ B0 hml ht9 hv
  obtain ⟨rfl, hpw⟩ := hv
  have hsz := hpw.1
  subst hsz
  obtain ⟨F, B⟩ := hpw.to
  have hx := B0.exec
  have hb := B0.bytes
  have hr := B0.returns
  have hts := atoms_spec (ws := wsX9_gardenerAsked) B0.pre
  have hown : s.vm.findClass RX9 = some m.cls := findClass_of_methodNamed B0.named
  have hlocks := B0.notSynchronized
  have S : CallFix p m c cX9_gardenerAsked 3 s _ wsX9_gardenerAsked RX9 := ⟨hx, hb, hml, hown, hts⟩
  have hiX9 : ∀ w ∈ u_ws RX9 TX9 10, w ∈ wsX9_gardenerAsked := by decide +kernel
  have hl := lv_entry [.ref (G.2.2 154), .int a0] (n := 3) (Nat.le_of_ble_eq_true rfl)
  rw [lg_entry_eq]
  generalize (lg_sl [.ref (G.2.2 154), .int a0] ++ List.replicate (3 - (lg_sl [.ref (G.2.2 154), .int a0]).length) Slot.unset).toArray = ls at hl ⊢
  have hl : lv_has ls 3 [(0, .ref (G.2.2 154)), (1, .int a0)] := hl
  unfold f_X9_gardenerAsked at ho
  refine lv_aload_n hx hb dX9_gardenerAsked_0 rfl (lv_at hl 0 rfl) ?_
  refine r_get (ci := 13) (C := RX9) (T := TX9) (N := 10) S F B (kq (by decide) : kd 154 = 7 ∧ 154 < NN) rfl rfl hiX9 0 (by decide) (by decide +kernel) rfl dX9_gardenerAsked_1 ?_
  refine lv_iload_n hx hb dX9_gardenerAsked_4 rfl (lv_at hl 1 rfl) ?_
  obtain ⟨q1, hq1, ho⟩ := bnd_ ho
  refine k_qV (As := [.int a0]) (rest := []) S F B (c_X6_findGardener l G σ _ a0 hq1) (kq (by decide) : kd 0 = 0 ∧ 0 < NN) rfl rfl (cwV 1 hts gX9_gardenerAsked_X6_findGardener rfl rfl rfl (by decide +kernel) ⟨Nat.le_of_ble_eq_true rfl, Nat.le_of_ble_eq_true rfl⟩) rfl hl.1 rfl (Nat.le_of_ble_eq_true rfl) dX9_gardenerAsked_5 ⟨Nat.le_of_ble_eq_true rfl, Nat.le_of_ble_eq_true rfl⟩ (fun H locs B => ?_)
  cases q1 with
  | none =>
    have ho := oc_n ho
    refine lv_astore_nN (lv' := [(2, .null), (0, .ref (G.2.2 154)), (1, .int a0)]) hx hb dX9_gardenerAsked_8 rfl hl (by decide) rfl (fun ls hl => ?_)
    refine lv_aload_nN hx hb dX9_gardenerAsked_9 rfl (lv_at hl 0 rfl) ?_
    refine lv_ifnonnullN hx hb dX9_gardenerAsked_10 ?_
    cases ho
    exact t_throwSg 1 5 (by decide) (by decide) S F B hl9 hlocks ht9 hl.1 rfl rfl (by decide +kernel) (by decide +kernel) (by decide +kernel) (by decide +kernel) (Nat.le_of_ble_eq_true rfl) (Nat.le_of_ble_eq_true rfl) (Nat.le_of_ble_eq_true rfl) (Nat.le_of_ble_eq_true rfl) (Nat.le_of_ble_eq_true rfl) (Nat.le_of_ble_eq_true rfl) dX9_gardenerAsked_13 dX9_gardenerAsked_16 dX9_gardenerAsked_17 dX9_gardenerAsked_19 dX9_gardenerAsked_22
  | some j2 =>
    have ho := oc_s ho
    have hj2 : kd j2 = 4 ∧ j2 < NN := kf_gard hq1
    refine lv_astore_n (lv' := [(2, .ref (G.2.2 j2)), (0, .ref (G.2.2 154)), (1, .int a0)]) hx hb dX9_gardenerAsked_8 rfl hl (by decide) rfl (fun ls hl => ?_)
    refine lv_aload_n hx hb dX9_gardenerAsked_9 rfl (lv_at hl 0 rfl) ?_
    refine lv_ifnonnull (tgt := 23) hx hb dX9_gardenerAsked_10 (by decide) ?_
    refine lv_aload_n hx hb dX9_gardenerAsked_23 rfl (lv_at hl 0 rfl) ?_
    refine W.widen (k := 1) (n := 6) (by decide) (by decide) ?_
    cases ho
    exact xe_q (w := (some j2)) B hx hb hr (Or.inl ⟨_, rfl⟩) hlocks rfl rfl dX9_gardenerAsked_24

set_option maxHeartbeats 4000000 in
set_option maxRecDepth 100000 in
theorem c_X9_visitorAsked (l : Launch) (hl9 : l.stackTraces = false) (G : Gd) (σ : Mm) (sz : Nat) (a0 : Int32) {out : (Option Nat ⊕ Nat) × Mm} (ho : f_X9_visitorAsked a0 σ = some out) : vx_Met l yX9_visitorAsked wsX9_visitorAsked { frames := 6, cells := 1, slots := 6, locals := 110 } (va_Pc [.ref (G.2.2 154), .int a0] (PW G σ sz)) (Xq G sz out) (XX G sz out) 1 6 (AA G sz) := by
  refine vx_ofW (cc := cX9_visitorAsked) (maxL := 3) (ret := (some (.object "MazeBonds$Visitor"))) (by decide) rfl ?_
  intro p e s m args below meth c s₁ B0 hml ht9 hv
  obtain ⟨rfl, hpw⟩ := hv
  have hsz := hpw.1
  subst hsz
  obtain ⟨F, B⟩ := hpw.to
  have hx := B0.exec
  have hb := B0.bytes
  have hr := B0.returns
  have hts := atoms_spec (ws := wsX9_visitorAsked) B0.pre
  have hown : s.vm.findClass RX9 = some m.cls := findClass_of_methodNamed B0.named
  have hlocks := B0.notSynchronized
  have S : CallFix p m c cX9_visitorAsked 3 s _ wsX9_visitorAsked RX9 := ⟨hx, hb, hml, hown, hts⟩
  have hiX9 : ∀ w ∈ u_ws RX9 TX9 10, w ∈ wsX9_visitorAsked := by decide +kernel
  have hl := lv_entry [.ref (G.2.2 154), .int a0] (n := 3) (Nat.le_of_ble_eq_true rfl)
  rw [lg_entry_eq]
  generalize (lg_sl [.ref (G.2.2 154), .int a0] ++ List.replicate (3 - (lg_sl [.ref (G.2.2 154), .int a0]).length) Slot.unset).toArray = ls at hl ⊢
  have hl : lv_has ls 3 [(0, .ref (G.2.2 154)), (1, .int a0)] := hl
  unfold f_X9_visitorAsked at ho
  refine lv_aload_n hx hb dX9_visitorAsked_0 rfl (lv_at hl 0 rfl) ?_
  refine r_get (ci := 13) (C := RX9) (T := TX9) (N := 10) S F B (kq (by decide) : kd 154 = 7 ∧ 154 < NN) rfl rfl hiX9 0 (by decide) (by decide +kernel) rfl dX9_visitorAsked_1 ?_
  refine lv_iload_n hx hb dX9_visitorAsked_4 rfl (lv_at hl 1 rfl) ?_
  obtain ⟨q1, hq1, ho⟩ := bnd_ ho
  refine k_qV (As := [.int a0]) (rest := []) S F B (c_X6_findVisitor l G σ _ a0 hq1) (kq (by decide) : kd 0 = 0 ∧ 0 < NN) rfl rfl (cwV 1 hts gX9_visitorAsked_X6_findVisitor rfl rfl rfl (by decide +kernel) ⟨Nat.le_of_ble_eq_true rfl, Nat.le_of_ble_eq_true rfl⟩) rfl hl.1 rfl (Nat.le_of_ble_eq_true rfl) dX9_visitorAsked_5 ⟨Nat.le_of_ble_eq_true rfl, Nat.le_of_ble_eq_true rfl⟩ (fun H locs B => ?_)
  cases q1 with
  | none =>
    have ho := oc_n ho
    refine lv_astore_nN (lv' := [(2, .null), (0, .ref (G.2.2 154)), (1, .int a0)]) hx hb dX9_visitorAsked_8 rfl hl (by decide) rfl (fun ls hl => ?_)
    refine lv_aload_nN hx hb dX9_visitorAsked_9 rfl (lv_at hl 0 rfl) ?_
    refine lv_ifnonnullN hx hb dX9_visitorAsked_10 ?_
    cases ho
    exact t_throwSW 1 7 (by decide) (by decide) S F B hl9 hlocks ht9 hl.1 rfl rfl (by decide +kernel) (by decide +kernel) (by decide +kernel) (by decide +kernel) (Nat.le_of_ble_eq_true rfl) (Nat.le_of_ble_eq_true rfl) (Nat.le_of_ble_eq_true rfl) (Nat.le_of_ble_eq_true rfl) (Nat.le_of_ble_eq_true rfl) (Nat.le_of_ble_eq_true rfl) dX9_visitorAsked_13 dX9_visitorAsked_16 dX9_visitorAsked_17 dX9_visitorAsked_20 dX9_visitorAsked_23
  | some j2 =>
    have ho := oc_s ho
    have hj2 : kd j2 = 6 ∧ j2 < NN := kf_vis hq1
    refine lv_astore_n (lv' := [(2, .ref (G.2.2 j2)), (0, .ref (G.2.2 154)), (1, .int a0)]) hx hb dX9_visitorAsked_8 rfl hl (by decide) rfl (fun ls hl => ?_)
    refine lv_aload_n hx hb dX9_visitorAsked_9 rfl (lv_at hl 0 rfl) ?_
    refine lv_ifnonnull (tgt := 24) hx hb dX9_visitorAsked_10 (by decide) ?_
    refine lv_aload_n hx hb dX9_visitorAsked_24 rfl (lv_at hl 0 rfl) ?_
    refine W.widen (k := 1) (n := 6) (by decide) (by decide) ?_
    cases ho
    exact xe_q (w := (some j2)) B hx hb hr (Or.inl ⟨_, rfl⟩) hlocks rfl rfl dX9_visitorAsked_25

set_option maxHeartbeats 4000000 in
set_option maxRecDepth 100000 in
theorem c_X9_gardenerOf (l : Launch) (hl9 : l.stackTraces = false) (G : Gd) (σ : Mm) (sz : Nat) (a0 : Int32) (a1 : Int32) {out : (Int32 ⊕ Nat) × Mm} (ho : f_X9_gardenerOf a0 a1 σ = some out) : vx_Met l yX9_gardenerOf wsX9_gardenerOf { frames := 7, cells := 2, slots := 12, locals := 132 } (va_Pc [.ref (G.2.2 154), .int a0, .int a1] (PW G σ sz)) (Xi G sz out) (XX G sz out) 2 12 (AA G sz) := by
  refine vx_ofW (cc := cX9_gardenerOf) (maxL := 4) (ret := (some .int)) (by decide) rfl ?_
  intro p e s m args below meth c s₁ B0 hml ht9 hv
  obtain ⟨rfl, hpw⟩ := hv
  have hsz := hpw.1
  subst hsz
  obtain ⟨F, B⟩ := hpw.to
  have hx := B0.exec
  have hb := B0.bytes
  have hr := B0.returns
  have hts := atoms_spec (ws := wsX9_gardenerOf) B0.pre
  have hown : s.vm.findClass RX9 = some m.cls := findClass_of_methodNamed B0.named
  have hlocks := B0.notSynchronized
  have S : CallFix p m c cX9_gardenerOf 4 s _ wsX9_gardenerOf RX9 := ⟨hx, hb, hml, hown, hts⟩
  have hiX9 : ∀ w ∈ u_ws RX9 TX9 10, w ∈ wsX9_gardenerOf := by decide +kernel
  have hiX1 : ∀ w ∈ u_ws RX1 TX1 4, w ∈ wsX9_gardenerOf := by decide +kernel
  have hl := lv_entry [.ref (G.2.2 154), .int a0, .int a1] (n := 4) (Nat.le_of_ble_eq_true rfl)
  rw [lg_entry_eq]
  generalize (lg_sl [.ref (G.2.2 154), .int a0, .int a1] ++ List.replicate (4 - (lg_sl [.ref (G.2.2 154), .int a0, .int a1]).length) Slot.unset).toArray = ls at hl ⊢
  have hl : lv_has ls 4 [(0, .ref (G.2.2 154)), (1, .int a0), (2, .int a1)] := hl
  unfold f_X9_gardenerOf at ho
  refine lv_aload_n hx hb dX9_gardenerOf_0 rfl (lv_at hl 0 rfl) ?_
  refine lv_iload_n hx hb dX9_gardenerOf_1 rfl (lv_at hl 1 rfl) ?_
  rcases xb_ ho with ⟨q1, σ2, hq1, ho⟩ | ⟨q1, σ2, hq1, rfl⟩
  rotate_left
  · exact xk_eV (As := [.int a0]) (rest := []) no_Xq S F B (c_X9_gardenerAsked l hl9 G σ _ a0 hq1) (kq (by decide) : kd 154 = 7 ∧ 154 < NN) rfl rfl (cwV 1 hts gX9_gardenerOf_X9_gardenerAsked rfl rfl rfl (by decide +kernel) ⟨Nat.le_of_ble_eq_true rfl, Nat.le_of_ble_eq_true rfl⟩) rfl hl.1 rfl (Nat.le_of_ble_eq_true rfl) dX9_gardenerOf_2 hlocks ht9 (Nat.le_of_ble_eq_true rfl) (Nat.le_of_ble_eq_true rfl) ⟨Nat.le_of_ble_eq_true rfl, Nat.le_of_ble_eq_true rfl⟩
  refine xk_qV (As := [.int a0]) (rest := []) S F B (c_X9_gardenerAsked l hl9 G σ _ a0 hq1) (kq (by decide) : kd 154 = 7 ∧ 154 < NN) rfl rfl (cwV 1 hts gX9_gardenerOf_X9_gardenerAsked rfl rfl rfl (by decide +kernel) ⟨Nat.le_of_ble_eq_true rfl, Nat.le_of_ble_eq_true rfl⟩) rfl hl.1 rfl (Nat.le_of_ble_eq_true rfl) dX9_gardenerOf_2 ⟨Nat.le_of_ble_eq_true rfl, Nat.le_of_ble_eq_true rfl⟩ (fun H locs B => ?_)
  cases q1 with
  | none =>
    have ho := oc_n ho
    cases ho
  | some j3 =>
    have ho := oc_s ho
    have hj3 : kd j3 = 4 ∧ j3 < NN := kf_gasked hq1
    refine lv_astore_n (lv' := [(3, .ref (G.2.2 j3)), (0, .ref (G.2.2 154)), (1, .int a0), (2, .int a1)]) hx hb dX9_gardenerOf_5 rfl hl (by decide) rfl (fun ls hl => ?_)
    refine lv_iload_n hx hb dX9_gardenerOf_6 rfl (lv_at hl 3 rfl) ?_
    by_cases c4 : a1 = 0
    · have ho := ip_ c4 ho
      refine lv_tableIn (off := 33) (tgt := 40) hx hb dX9_gardenerOf_7 (by rw [c4]; decide) (by rw [c4]; decide) (by rw [c4]; rfl) (by decide) ?_
      refine lv_aload_n hx hb dX9_gardenerOf_40 rfl (lv_at hl 0 rfl) ?_
      refine r_getN (ci := 5) (C := RX1) (T := TX1) (N := 4) S F B hj3 rfl rfl hiX1 0 (by decide) (by decide) rfl dX9_gardenerOf_41 ?_
      refine W.widen (k := 2) (n := 12) (by decide) (by decide) ?_
      cases ho
      exact xe_i B hx hb hr hlocks rfl rfl rfl dX9_gardenerOf_44
    · have ho := in_ c4 ho
      by_cases c5 : a1 = 1
      · have ho := ip_ c5 ho
        refine lv_tableIn (off := 38) (tgt := 45) hx hb dX9_gardenerOf_7 (by rw [c5]; decide) (by rw [c5]; decide) (by rw [c5]; rfl) (by decide) ?_
        refine lv_aload_n hx hb dX9_gardenerOf_45 rfl (lv_at hl 1 rfl) ?_
        refine r_get (ci := 13) (C := RX9) (T := TX9) (N := 10) S F B (kq (by decide) : kd 154 = 7 ∧ 154 < NN) rfl rfl hiX9 0 (by decide) (by decide +kernel) rfl dX9_gardenerOf_46 ?_
        refine lv_iload_n hx hb dX9_gardenerOf_49 rfl (lv_at hl 2 rfl) ?_
        obtain ⟨q6, hq6, ho⟩ := bnd_ ho
        refine k_iV (As := [.int a0]) (rest := []) S F B (c_X6_bondsOf l G σ2 _ a0 hq6) (kq (by decide) : kd 0 = 0 ∧ 0 < NN) rfl rfl (cwV 1 hts gX9_gardenerOf_X6_bondsOf rfl rfl rfl (by decide +kernel) ⟨Nat.le_of_ble_eq_true rfl, Nat.le_of_ble_eq_true rfl⟩) rfl hl.1 rfl (Nat.le_of_ble_eq_true rfl) dX9_gardenerOf_50 ⟨Nat.le_of_ble_eq_true rfl, Nat.le_of_ble_eq_true rfl⟩ (fun H locs B => ?_)
        refine W.widen (k := 2) (n := 12) (by decide) (by decide) ?_
        cases ho
        exact xe_i B hx hb hr hlocks rfl rfl rfl dX9_gardenerOf_53
      · have ho := in_ c5 ho
        by_cases c7 : a1 = 2
        · have ho := ip_ c7 ho
          refine lv_tableIn (off := 47) (tgt := 54) hx hb dX9_gardenerOf_7 (by rw [c7]; decide) (by rw [c7]; decide) (by rw [c7]; rfl) (by decide) ?_
          refine lv_aload_n hx hb dX9_gardenerOf_54 rfl (lv_at hl 0 rfl) ?_
          refine r_getN (ci := 5) (C := RX1) (T := TX1) (N := 4) S F B hj3 rfl rfl hiX1 1 (by decide) (by decide) rfl dX9_gardenerOf_55 ?_
          refine W.widen (k := 2) (n := 12) (by decide) (by decide) ?_
          cases ho
          exact xe_i B hx hb hr hlocks rfl rfl rfl dX9_gardenerOf_58
        · have ho := in_ c7 ho
          by_cases c8 : a1 = 3
          · have ho := ip_ c8 ho
            refine lv_tableIn (off := 52) (tgt := 59) hx hb dX9_gardenerOf_7 (by rw [c8]; decide) (by rw [c8]; decide) (by rw [c8]; rfl) (by decide) ?_
            refine lv_aload_n hx hb dX9_gardenerOf_59 rfl (lv_at hl 0 rfl) ?_
            refine r_getN (ci := 5) (C := RX1) (T := TX1) (N := 4) S F B hj3 rfl rfl hiX1 2 (by decide) (by decide) rfl dX9_gardenerOf_60 ?_
            refine W.widen (k := 2) (n := 12) (by decide) (by decide) ?_
            cases ho
            exact xe_i B hx hb hr hlocks rfl rfl rfl dX9_gardenerOf_63
          · have ho := in_ c8 ho
            by_cases c9 : a1 = 4
            · have ho := ip_ c9 ho
              refine lv_tableIn (off := 57) (tgt := 64) hx hb dX9_gardenerOf_7 (by rw [c9]; decide) (by rw [c9]; decide) (by rw [c9]; rfl) (by decide) ?_
              refine lv_aload_n hx hb dX9_gardenerOf_64 rfl (lv_at hl 0 rfl) ?_
              refine r_getN (ci := 5) (C := RX1) (T := TX1) (N := 4) S F B hj3 rfl rfl hiX1 3 (by decide) (by decide) rfl dX9_gardenerOf_65 ?_
              refine W.widen (k := 2) (n := 12) (by decide) (by decide) ?_
              cases ho
              exact xe_i B hx hb hr hlocks rfl rfl rfl dX9_gardenerOf_68
            · have ho := in_ c9 ho
              refine t_tableD (tgt := 69) hx hb dX9_gardenerOf_7 rfl (fun j hj => ?_) (by decide) ?_
              · have hj : j < 5 := hj
                rcases (show j = 0 ∨ j = 1 ∨ j = 2 ∨ j = 3 ∨ j = 4 by omega) with rfl | rfl | rfl | rfl | rfl
                · exact Or.inr (lv_neT c4 (by decide))
                · exact Or.inr (lv_neT c5 (by decide))
                · exact Or.inr (lv_neT c7 (by decide))
                · exact Or.inr (lv_neT c8 (by decide))
                · exact Or.inr (lv_neT c9 (by decide))
              · cases ho
                exact t_throwSg 3 6 (by decide) (by decide) S F B hl9 hlocks ht9 hl.1 rfl rfl (by decide +kernel) (by decide +kernel) (by decide +kernel) (by decide +kernel) (Nat.le_of_ble_eq_true rfl) (Nat.le_of_ble_eq_true rfl) (Nat.le_of_ble_eq_true rfl) (Nat.le_of_ble_eq_true rfl) (Nat.le_of_ble_eq_true rfl) (Nat.le_of_ble_eq_true rfl) dX9_gardenerOf_69 dX9_gardenerOf_72 dX9_gardenerOf_73 dX9_gardenerOf_75 dX9_gardenerOf_78

set_option maxHeartbeats 4000000 in
set_option maxRecDepth 100000 in
theorem c_X9_visitorOf (l : Launch) (hl9 : l.stackTraces = false) (G : Gd) (σ : Mm) (sz : Nat) (a0 : Int32) (a1 : Int32) {out : (Int32 ⊕ Nat) × Mm} (ho : f_X9_visitorOf a0 a1 σ = some out) : vx_Met l yX9_visitorOf wsX9_visitorOf { frames := 7, cells := 2, slots := 12, locals := 132 } (va_Pc [.ref (G.2.2 154), .int a0, .int a1] (PW G σ sz)) (Xi G sz out) (XX G sz out) 2 12 (AA G sz) := by
  refine vx_ofW (cc := cX9_visitorOf) (maxL := 4) (ret := (some .int)) (by decide) rfl ?_
  intro p e s m args below meth c s₁ B0 hml ht9 hv
  obtain ⟨rfl, hpw⟩ := hv
  have hsz := hpw.1
  subst hsz
  obtain ⟨F, B⟩ := hpw.to
  have hx := B0.exec
  have hb := B0.bytes
  have hr := B0.returns
  have hts := atoms_spec (ws := wsX9_visitorOf) B0.pre
  have hown : s.vm.findClass RX9 = some m.cls := findClass_of_methodNamed B0.named
  have hlocks := B0.notSynchronized
  have S : CallFix p m c cX9_visitorOf 4 s _ wsX9_visitorOf RX9 := ⟨hx, hb, hml, hown, hts⟩
  have hl := lv_entry [.ref (G.2.2 154), .int a0, .int a1] (n := 4) (Nat.le_of_ble_eq_true rfl)
  rw [lg_entry_eq]
  generalize (lg_sl [.ref (G.2.2 154), .int a0, .int a1] ++ List.replicate (4 - (lg_sl [.ref (G.2.2 154), .int a0, .int a1]).length) Slot.unset).toArray = ls at hl ⊢
  have hl : lv_has ls 4 [(0, .ref (G.2.2 154)), (1, .int a0), (2, .int a1)] := hl
  unfold f_X9_visitorOf at ho
  refine lv_aload_n hx hb dX9_visitorOf_0 rfl (lv_at hl 0 rfl) ?_
  refine lv_iload_n hx hb dX9_visitorOf_1 rfl (lv_at hl 1 rfl) ?_
  rcases xb_ ho with ⟨q1, σ2, hq1, ho⟩ | ⟨q1, σ2, hq1, rfl⟩
  rotate_left
  · exact xk_eV (As := [.int a0]) (rest := []) no_Xq S F B (c_X9_visitorAsked l hl9 G σ _ a0 hq1) (kq (by decide) : kd 154 = 7 ∧ 154 < NN) rfl rfl (cwV 1 hts gX9_visitorOf_X9_visitorAsked rfl rfl rfl (by decide +kernel) ⟨Nat.le_of_ble_eq_true rfl, Nat.le_of_ble_eq_true rfl⟩) rfl hl.1 rfl (Nat.le_of_ble_eq_true rfl) dX9_visitorOf_2 hlocks ht9 (Nat.le_of_ble_eq_true rfl) (Nat.le_of_ble_eq_true rfl) ⟨Nat.le_of_ble_eq_true rfl, Nat.le_of_ble_eq_true rfl⟩
  refine xk_qV (As := [.int a0]) (rest := []) S F B (c_X9_visitorAsked l hl9 G σ _ a0 hq1) (kq (by decide) : kd 154 = 7 ∧ 154 < NN) rfl rfl (cwV 1 hts gX9_visitorOf_X9_visitorAsked rfl rfl rfl (by decide +kernel) ⟨Nat.le_of_ble_eq_true rfl, Nat.le_of_ble_eq_true rfl⟩) rfl hl.1 rfl (Nat.le_of_ble_eq_true rfl) dX9_visitorOf_2 ⟨Nat.le_of_ble_eq_true rfl, Nat.le_of_ble_eq_true rfl⟩ (fun H locs B => ?_)
  cases q1 with
  | none =>
    have ho := oc_n ho
    cases ho
  | some j3 =>
    have ho := oc_s ho
    have hj3 : kd j3 = 6 ∧ j3 < NN := kf_vasked hq1
    refine lv_astore_n (lv' := [(3, .ref (G.2.2 j3)), (0, .ref (G.2.2 154)), (1, .int a0), (2, .int a1)]) hx hb dX9_visitorOf_5 rfl hl (by decide) rfl (fun ls hl => ?_)
    refine lv_iload_n hx hb dX9_visitorOf_6 rfl (lv_at hl 3 rfl) ?_
    refine lv_if_lt (tgt := 16) hx hb dX9_visitorOf_7 (by decide) (fun c4 => ?_) (fun c4 => ?_)
    · have ho := ip_ c4 ho
      cases ho
      exact t_throwSg 3 8 (by decide) (by decide) S F B hl9 hlocks ht9 hl.1 rfl rfl (by decide +kernel) (by decide +kernel) (by decide +kernel) (by decide +kernel) (Nat.le_of_ble_eq_true rfl) (Nat.le_of_ble_eq_true rfl) (Nat.le_of_ble_eq_true rfl) (Nat.le_of_ble_eq_true rfl) (Nat.le_of_ble_eq_true rfl) (Nat.le_of_ble_eq_true rfl) dX9_visitorOf_16 dX9_visitorOf_19 dX9_visitorOf_20 dX9_visitorOf_22 dX9_visitorOf_25
    · have ho := in_ c4 ho
      refine lv_iload_n hx hb dX9_visitorOf_10 rfl (lv_at hl 3 rfl) ?_
      refine lv_bipush (v := 8) hx hb dX9_visitorOf_11 (by decide) ?_
      refine lv_icmp_le (tgt := 26) hx hb dX9_visitorOf_13 (by decide) (fun c5 => ?_) (fun c5 => ?_)
      · have ho := ip_ c5 ho
        refine lv_aload_n hx hb dX9_visitorOf_26 rfl (lv_at hl 0 rfl) ?_
        refine lv_iload_n hx hb dX9_visitorOf_27 rfl (lv_at hl 3 rfl) ?_
        obtain ⟨q6, hq6, ho⟩ := bnd_ ho
        refine k_iV (As := [.int a1]) (rest := []) S F B (c_X7_numberFor l G σ2 _ j3 a1 hj3 hq6) hj3 rfl rfl (cwV 1 hts gX9_visitorOf_X7_numberFor rfl rfl rfl (by decide +kernel) ⟨Nat.le_of_ble_eq_true rfl, Nat.le_of_ble_eq_true rfl⟩) rfl hl.1 rfl (Nat.le_of_ble_eq_true rfl) dX9_visitorOf_28 ⟨Nat.le_of_ble_eq_true rfl, Nat.le_of_ble_eq_true rfl⟩ (fun H locs B => ?_)
        refine W.widen (k := 2) (n := 12) (by decide) (by decide) ?_
        cases ho
        exact xe_i B hx hb hr hlocks rfl rfl rfl dX9_visitorOf_31
      · have ho := in_ c5 ho
        cases ho
        exact t_throwSg 3 8 (by decide) (by decide) S F B hl9 hlocks ht9 hl.1 rfl rfl (by decide +kernel) (by decide +kernel) (by decide +kernel) (by decide +kernel) (Nat.le_of_ble_eq_true rfl) (Nat.le_of_ble_eq_true rfl) (Nat.le_of_ble_eq_true rfl) (Nat.le_of_ble_eq_true rfl) (Nat.le_of_ble_eq_true rfl) (Nat.le_of_ble_eq_true rfl) dX9_visitorOf_16 dX9_visitorOf_19 dX9_visitorOf_20 dX9_visitorOf_22 dX9_visitorOf_25

