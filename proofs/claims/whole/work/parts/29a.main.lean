set_option maxHeartbeats 4000000 in
set_option maxRecDepth 100000 in
theorem c_X9_settled (l : Launch) (hl9 : l.stackTraces = false) (G : Gd) (σ : Mm) (sz : Nat) (a0 : Int32) {out : (Int32 ⊕ Nat) × Mm} (ho : f_X9_settled a0 σ = some out) : vx_Met l yX9_settled wsX9_settled { frames := 6, cells := 1, slots := 6, locals := 110 } (va_Pc [.ref (G.2.2 154), .int a0] (PW G σ sz)) (Xi G sz out) (XX G sz out) 1 6 (AA G sz) := by
  refine vx_ofW (cc := cX9_settled) (maxL := 2) (ret := (some .int)) (by decide) rfl ?_
  intro p e s m args below meth c s₁ B0 hml ht9 hv
  obtain ⟨rfl, hpw⟩ := hv
  have hsz := hpw.1
  subst hsz
  obtain ⟨F, B⟩ := hpw.to
  have hx := B0.exec
  have hb := B0.bytes
  have hr := B0.returns
  have hts := atoms_spec (ws := wsX9_settled) B0.pre
  have hown : s.vm.findClass RX9 = some m.cls := findClass_of_methodNamed B0.named
  have hlocks := B0.notSynchronized
  have S : CallFix p m c cX9_settled 2 s _ wsX9_settled RX9 := ⟨hx, hb, hml, hown, hts⟩
  have hiX9 : ∀ w ∈ u_ws RX9 TX9 10, w ∈ wsX9_settled := by decide +kernel
  have hl := lv_entry [.ref (G.2.2 154), .int a0] (n := 2) (Nat.le_of_ble_eq_true rfl)
  rw [lg_entry_eq]
  generalize (lg_sl [.ref (G.2.2 154), .int a0] ++ List.replicate (2 - (lg_sl [.ref (G.2.2 154), .int a0]).length) Slot.unset).toArray = ls at hl ⊢
  have hl : lv_has ls 2 [(0, .ref (G.2.2 154)), (1, .int a0)] := hl
  unfold f_X9_settled at ho
  refine lv_iload_n hx hb dX9_settled_0 rfl (lv_at hl 1 rfl) ?_
  refine lv_iconst (v := (-1)) hx hb dX9_settled_1 (by decide) ?_
  refine lv_icmp_ne (tgt := 15) hx hb dX9_settled_2 (by decide) (fun c1 => ?_) (fun c1 => ?_)
  · have ho := in_ c1 ho
    refine lv_aload_n hx hb dX9_settled_15 rfl (lv_at hl 0 rfl) ?_
    refine r_get (ci := 13) (C := RX9) (T := TX9) (N := 10) S F B (kq (by decide) : kd 154 = 7 ∧ 154 < NN) rfl rfl hiX9 4 (by decide) (by decide +kernel) rfl dX9_settled_16 ?_
    refine lv_aload_n hx hb dX9_settled_19 rfl (lv_at hl 0 rfl) ?_
    refine r_get (ci := 13) (C := RX9) (T := TX9) (N := 10) S F B (kq (by decide) : kd 154 = 7 ∧ 154 < NN) rfl rfl hiX9 1 (by decide) (by decide +kernel) rfl dX9_settled_20 ?_
    obtain ⟨σ3, hq2, ho⟩ := bnd_ ho
    refine k_vV (As := [.ref (G.2.2 14)]) (rest := []) S F B (c_X2_keep l G σ _ hq2) (kq (by decide) : kd 155 = 8 ∧ 155 < NN) rfl rfl (cwV 1 hts gX9_settled_X2_keep rfl rfl rfl (by decide +kernel) ⟨Nat.le_of_ble_eq_true rfl, Nat.le_of_ble_eq_true rfl⟩) rfl hl.1 rfl (Nat.le_of_ble_eq_true rfl) dX9_settled_23 ⟨Nat.le_of_ble_eq_true rfl, Nat.le_of_ble_eq_true rfl⟩ (fun H locs B => ?_)
    refine lv_iload_n hx hb dX9_settled_26 rfl (lv_at hl 1 rfl) ?_
    refine W.widen (k := 1) (n := 6) (by decide) (by decide) ?_
    cases ho
    exact xe_i B hx hb hr hlocks rfl rfl rfl dX9_settled_27
  · have ho := ip_ c1 ho
    cases ho
    exact t_throwSg 0 0 (by decide) (by decide) S F B hl9 hlocks ht9 hl.1 rfl rfl (by decide +kernel) (by decide +kernel) (by decide +kernel) (by decide +kernel) (Nat.le_of_ble_eq_true rfl) (Nat.le_of_ble_eq_true rfl) (Nat.le_of_ble_eq_true rfl) (Nat.le_of_ble_eq_true rfl) (Nat.le_of_ble_eq_true rfl) (Nat.le_of_ble_eq_true rfl) dX9_settled_5 dX9_settled_8 dX9_settled_9 dX9_settled_11 dX9_settled_14

set_option maxHeartbeats 4000000 in
set_option maxRecDepth 100000 in
theorem c_X9_hedge (l : Launch) (hl9 : l.stackTraces = false) (G : Gd) (σ : Mm) (sz : Nat) (a0 : Int32) (a1 : Int32) (a2 : Int32) {out : (Int32 ⊕ Nat) × Mm} (ho : f_X9_hedge a0 a1 a2 σ = some out) : vx_Met l yX9_hedge wsX9_hedge { frames := 7, cells := 1, slots := 6, locals := 131 } (va_Pc [.ref (G.2.2 154), .int a0, .int a1, .int a2] (PW G σ sz)) (Xi G sz out) (XX G sz out) 1 6 (AA G sz) := by
  refine vx_ofW (cc := cX9_hedge) (maxL := 4) (ret := (some .int)) (by decide) rfl ?_
  intro p e s m args below meth c s₁ B0 hml ht9 hv
  obtain ⟨rfl, hpw⟩ := hv
  have hsz := hpw.1
  subst hsz
  obtain ⟨F, B⟩ := hpw.to
  have hx := B0.exec
  have hb := B0.bytes
  have hr := B0.returns
  have hts := atoms_spec (ws := wsX9_hedge) B0.pre
  have hown : s.vm.findClass RX9 = some m.cls := findClass_of_methodNamed B0.named
  have hlocks := B0.notSynchronized
  have S : CallFix p m c cX9_hedge 4 s _ wsX9_hedge RX9 := ⟨hx, hb, hml, hown, hts⟩
  have hiX9 : ∀ w ∈ u_ws RX9 TX9 10, w ∈ wsX9_hedge := by decide +kernel
  have hl := lv_entry [.ref (G.2.2 154), .int a0, .int a1, .int a2] (n := 4) (Nat.le_of_ble_eq_true rfl)
  rw [lg_entry_eq]
  generalize (lg_sl [.ref (G.2.2 154), .int a0, .int a1, .int a2] ++ List.replicate (4 - (lg_sl [.ref (G.2.2 154), .int a0, .int a1, .int a2]).length) Slot.unset).toArray = ls at hl ⊢
  have hl : lv_has ls 4 [(0, .ref (G.2.2 154)), (1, .int a0), (2, .int a1), (3, .int a2)] := hl
  unfold f_X9_hedge at ho
  refine lv_aload_n hx hb dX9_hedge_0 rfl (lv_at hl 0 rfl) ?_
  refine r_get (ci := 13) (C := RX9) (T := TX9) (N := 10) S F B (kq (by decide) : kd 154 = 7 ∧ 154 < NN) rfl rfl hiX9 1 (by decide) (by decide +kernel) rfl dX9_hedge_1 ?_
  refine lv_aload_n hx hb dX9_hedge_4 rfl (lv_at hl 0 rfl) ?_
  refine r_get (ci := 13) (C := RX9) (T := TX9) (N := 10) S F B (kq (by decide) : kd 154 = 7 ∧ 154 < NN) rfl rfl hiX9 0 (by decide) (by decide +kernel) rfl dX9_hedge_5 ?_
  obtain ⟨σ2, hq1, ho⟩ := bnd_ ho
  refine k_vV (As := [.ref (G.2.2 0)]) (rest := []) S F B (c_X6_copyFrom l G σ _ 14 0 isS14 isS0 hq1) (kq (by decide) : kd 14 = 0 ∧ 14 < NN) rfl rfl (cwV 1 hts gX9_hedge_X6_copyFrom rfl rfl rfl (by decide +kernel) ⟨Nat.le_of_ble_eq_true rfl, Nat.le_of_ble_eq_true rfl⟩) rfl hl.1 rfl (Nat.le_of_ble_eq_true rfl) dX9_hedge_8 ⟨Nat.le_of_ble_eq_true rfl, Nat.le_of_ble_eq_true rfl⟩ (fun H locs B => ?_)
  refine lv_aload_n hx hb dX9_hedge_11 rfl (lv_at hl 0 rfl) ?_
  refine lv_aload_n hx hb dX9_hedge_12 rfl (lv_at hl 0 rfl) ?_
  refine r_get (ci := 13) (C := RX9) (T := TX9) (N := 10) S F B (kq (by decide) : kd 154 = 7 ∧ 154 < NN) rfl rfl hiX9 7 (by decide) (by decide +kernel) rfl dX9_hedge_13 ?_
  refine lv_iload_n hx hb dX9_hedge_16 rfl (lv_at hl 1 rfl) ?_
  refine lv_iload_n hx hb dX9_hedge_17 rfl (lv_at hl 2 rfl) ?_
  refine lv_iload_n hx hb dX9_hedge_18 rfl (lv_at hl 3 rfl) ?_
  obtain ⟨q3, σ4, hq3, ho⟩ := bnm_ ho
  refine k_iV (As := [.int a0, .int a1, .int a2]) (rest := [.ref (G.2.2 154)]) S F B (c_X3_tellLeaves l G σ2 _ a0 a1 a2 hq3) (kq (by decide) : kd 161 = 13 ∧ 161 < NN) rfl rfl (cwV 3 hts gX9_hedge_X3_tellLeaves rfl rfl rfl (by decide +kernel) ⟨Nat.le_of_ble_eq_true rfl, Nat.le_of_ble_eq_true rfl⟩) rfl hl.1 rfl (Nat.le_of_ble_eq_true rfl) dX9_hedge_19 ⟨Nat.le_of_ble_eq_true rfl, Nat.le_of_ble_eq_true rfl⟩ (fun H locs B => ?_)
  rcases xb_ ho with ⟨q5, σ6, hq5, ho⟩ | ⟨q5, σ6, hq5, rfl⟩
  rotate_left
  · exact xk_eV (As := [.int q3]) (rest := []) no_Xi S F B (c_X9_settled l hl9 G σ4 _ q3 hq5) (kq (by decide) : kd 154 = 7 ∧ 154 < NN) rfl rfl (cwV 1 hts gX9_hedge_X9_settled rfl rfl rfl (by decide +kernel) ⟨Nat.le_of_ble_eq_true rfl, Nat.le_of_ble_eq_true rfl⟩) rfl hl.1 rfl (Nat.le_of_ble_eq_true rfl) dX9_hedge_22 hlocks ht9 (Nat.le_of_ble_eq_true rfl) (Nat.le_of_ble_eq_true rfl) ⟨Nat.le_of_ble_eq_true rfl, Nat.le_of_ble_eq_true rfl⟩
  refine xk_iV (As := [.int q3]) (rest := []) S F B (c_X9_settled l hl9 G σ4 _ q3 hq5) (kq (by decide) : kd 154 = 7 ∧ 154 < NN) rfl rfl (cwV 1 hts gX9_hedge_X9_settled rfl rfl rfl (by decide +kernel) ⟨Nat.le_of_ble_eq_true rfl, Nat.le_of_ble_eq_true rfl⟩) rfl hl.1 rfl (Nat.le_of_ble_eq_true rfl) dX9_hedge_22 ⟨Nat.le_of_ble_eq_true rfl, Nat.le_of_ble_eq_true rfl⟩ (fun H locs B => ?_)
  cases ho
  exact xe_i B hx hb hr hlocks rfl rfl rfl dX9_hedge_25

set_option maxHeartbeats 4000000 in
set_option maxRecDepth 100000 in
theorem c_X9_summer (l : Launch) (hl9 : l.stackTraces = false) (G : Gd) (σ : Mm) (sz : Nat) {out : (Int32 ⊕ Nat) × Mm} (ho : f_X9_summer σ = some out) : vx_Met l yX9_summer wsX9_summer { frames := 7, cells := 1, slots := 6, locals := 131 } (va_Pc [.ref (G.2.2 154)] (PW G σ sz)) (Xi G sz out) (XX G sz out) 1 6 (AA G sz) := by
  refine vx_ofW (cc := cX9_summer) (maxL := 1) (ret := (some .int)) (by decide) rfl ?_
  intro p e s m args below meth c s₁ B0 hml ht9 hv
  obtain ⟨rfl, hpw⟩ := hv
  have hsz := hpw.1
  subst hsz
  obtain ⟨F, B⟩ := hpw.to
  have hx := B0.exec
  have hb := B0.bytes
  have hr := B0.returns
  have hts := atoms_spec (ws := wsX9_summer) B0.pre
  have hown : s.vm.findClass RX9 = some m.cls := findClass_of_methodNamed B0.named
  have hlocks := B0.notSynchronized
  have S : CallFix p m c cX9_summer 1 s _ wsX9_summer RX9 := ⟨hx, hb, hml, hown, hts⟩
  have hiX9 : ∀ w ∈ u_ws RX9 TX9 10, w ∈ wsX9_summer := by decide +kernel
  have hl := lv_entry [.ref (G.2.2 154)] (n := 1) (Nat.le_of_ble_eq_true rfl)
  rw [lg_entry_eq]
  generalize (lg_sl [.ref (G.2.2 154)] ++ List.replicate (1 - (lg_sl [.ref (G.2.2 154)]).length) Slot.unset).toArray = ls at hl ⊢
  have hl : lv_has ls 1 [(0, .ref (G.2.2 154))] := hl
  unfold f_X9_summer at ho
  refine lv_aload_n hx hb dX9_summer_0 rfl (lv_at hl 0 rfl) ?_
  refine r_get (ci := 13) (C := RX9) (T := TX9) (N := 10) S F B (kq (by decide) : kd 154 = 7 ∧ 154 < NN) rfl rfl hiX9 1 (by decide) (by decide +kernel) rfl dX9_summer_1 ?_
  refine lv_aload_n hx hb dX9_summer_4 rfl (lv_at hl 0 rfl) ?_
  refine r_get (ci := 13) (C := RX9) (T := TX9) (N := 10) S F B (kq (by decide) : kd 154 = 7 ∧ 154 < NN) rfl rfl hiX9 0 (by decide) (by decide +kernel) rfl dX9_summer_5 ?_
  obtain ⟨σ2, hq1, ho⟩ := bnd_ ho
  refine k_vV (As := [.ref (G.2.2 0)]) (rest := []) S F B (c_X6_copyFrom l G σ _ 14 0 isS14 isS0 hq1) (kq (by decide) : kd 14 = 0 ∧ 14 < NN) rfl rfl (cwV 1 hts gX9_summer_X6_copyFrom rfl rfl rfl (by decide +kernel) ⟨Nat.le_of_ble_eq_true rfl, Nat.le_of_ble_eq_true rfl⟩) rfl hl.1 rfl (Nat.le_of_ble_eq_true rfl) dX9_summer_8 ⟨Nat.le_of_ble_eq_true rfl, Nat.le_of_ble_eq_true rfl⟩ (fun H locs B => ?_)
  refine lv_aload_n hx hb dX9_summer_11 rfl (lv_at hl 0 rfl) ?_
  refine lv_aload_n hx hb dX9_summer_12 rfl (lv_at hl 0 rfl) ?_
  refine r_get (ci := 13) (C := RX9) (T := TX9) (N := 10) S F B (kq (by decide) : kd 154 = 7 ∧ 154 < NN) rfl rfl hiX9 7 (by decide) (by decide +kernel) rfl dX9_summer_13 ?_
  obtain ⟨q3, σ4, hq3, ho⟩ := bnm_ ho
  refine k_iV (As := []) (rest := [.ref (G.2.2 154)]) S F B (c_X3_passSummer l G σ2 _ hq3) (kq (by decide) : kd 161 = 13 ∧ 161 < NN) rfl rfl (cwV 0 hts gX9_summer_X3_passSummer rfl rfl rfl (by decide +kernel) ⟨Nat.le_of_ble_eq_true rfl, Nat.le_of_ble_eq_true rfl⟩) rfl hl.1 rfl (Nat.le_of_ble_eq_true rfl) dX9_summer_16 ⟨Nat.le_of_ble_eq_true rfl, Nat.le_of_ble_eq_true rfl⟩ (fun H locs B => ?_)
  rcases xb_ ho with ⟨q5, σ6, hq5, ho⟩ | ⟨q5, σ6, hq5, rfl⟩
  rotate_left
  · exact xk_eV (As := [.int q3]) (rest := []) no_Xi S F B (c_X9_settled l hl9 G σ4 _ q3 hq5) (kq (by decide) : kd 154 = 7 ∧ 154 < NN) rfl rfl (cwV 1 hts gX9_summer_X9_settled rfl rfl rfl (by decide +kernel) ⟨Nat.le_of_ble_eq_true rfl, Nat.le_of_ble_eq_true rfl⟩) rfl hl.1 rfl (Nat.le_of_ble_eq_true rfl) dX9_summer_19 hlocks ht9 (Nat.le_of_ble_eq_true rfl) (Nat.le_of_ble_eq_true rfl) ⟨Nat.le_of_ble_eq_true rfl, Nat.le_of_ble_eq_true rfl⟩
  refine xk_iV (As := [.int q3]) (rest := []) S F B (c_X9_settled l hl9 G σ4 _ q3 hq5) (kq (by decide) : kd 154 = 7 ∧ 154 < NN) rfl rfl (cwV 1 hts gX9_summer_X9_settled rfl rfl rfl (by decide +kernel) ⟨Nat.le_of_ble_eq_true rfl, Nat.le_of_ble_eq_true rfl⟩) rfl hl.1 rfl (Nat.le_of_ble_eq_true rfl) dX9_summer_19 ⟨Nat.le_of_ble_eq_true rfl, Nat.le_of_ble_eq_true rfl⟩ (fun H locs B => ?_)
  cases ho
  exact xe_i B hx hb hr hlocks rfl rfl rfl dX9_summer_22

set_option maxHeartbeats 4000000 in
set_option maxRecDepth 100000 in
theorem c_X9_trim (l : Launch) (hl9 : l.stackTraces = false) (G : Gd) (σ : Mm) (sz : Nat) (a0 : Int32) (a1 : Int32) (a2 : Int32) {out : (Int32 ⊕ Nat) × Mm} (ho : f_X9_trim a0 a1 a2 σ = some out) : vx_Met l yX9_trim wsX9_trim { frames := 7, cells := 1, slots := 6, locals := 131 } (va_Pc [.ref (G.2.2 154), .int a0, .int a1, .int a2] (PW G σ sz)) (Xi G sz out) (XX G sz out) 1 6 (AA G sz) := by
  refine vx_ofW (cc := cX9_trim) (maxL := 4) (ret := (some .int)) (by decide) rfl ?_
  intro p e s m args below meth c s₁ B0 hml ht9 hv
  obtain ⟨rfl, hpw⟩ := hv
  have hsz := hpw.1
  subst hsz
  obtain ⟨F, B⟩ := hpw.to
  have hx := B0.exec
  have hb := B0.bytes
  have hr := B0.returns
  have hts := atoms_spec (ws := wsX9_trim) B0.pre
  have hown : s.vm.findClass RX9 = some m.cls := findClass_of_methodNamed B0.named
  have hlocks := B0.notSynchronized
  have S : CallFix p m c cX9_trim 4 s _ wsX9_trim RX9 := ⟨hx, hb, hml, hown, hts⟩
  have hiX9 : ∀ w ∈ u_ws RX9 TX9 10, w ∈ wsX9_trim := by decide +kernel
  have hl := lv_entry [.ref (G.2.2 154), .int a0, .int a1, .int a2] (n := 4) (Nat.le_of_ble_eq_true rfl)
  rw [lg_entry_eq]
  generalize (lg_sl [.ref (G.2.2 154), .int a0, .int a1, .int a2] ++ List.replicate (4 - (lg_sl [.ref (G.2.2 154), .int a0, .int a1, .int a2]).length) Slot.unset).toArray = ls at hl ⊢
  have hl : lv_has ls 4 [(0, .ref (G.2.2 154)), (1, .int a0), (2, .int a1), (3, .int a2)] := hl
  unfold f_X9_trim at ho
  refine lv_aload_n hx hb dX9_trim_0 rfl (lv_at hl 0 rfl) ?_
  refine r_get (ci := 13) (C := RX9) (T := TX9) (N := 10) S F B (kq (by decide) : kd 154 = 7 ∧ 154 < NN) rfl rfl hiX9 1 (by decide) (by decide +kernel) rfl dX9_trim_1 ?_
  refine lv_aload_n hx hb dX9_trim_4 rfl (lv_at hl 0 rfl) ?_
  refine r_get (ci := 13) (C := RX9) (T := TX9) (N := 10) S F B (kq (by decide) : kd 154 = 7 ∧ 154 < NN) rfl rfl hiX9 0 (by decide) (by decide +kernel) rfl dX9_trim_5 ?_
  obtain ⟨σ2, hq1, ho⟩ := bnd_ ho
  refine k_vV (As := [.ref (G.2.2 0)]) (rest := []) S F B (c_X6_copyFrom l G σ _ 14 0 isS14 isS0 hq1) (kq (by decide) : kd 14 = 0 ∧ 14 < NN) rfl rfl (cwV 1 hts gX9_trim_X6_copyFrom rfl rfl rfl (by decide +kernel) ⟨Nat.le_of_ble_eq_true rfl, Nat.le_of_ble_eq_true rfl⟩) rfl hl.1 rfl (Nat.le_of_ble_eq_true rfl) dX9_trim_8 ⟨Nat.le_of_ble_eq_true rfl, Nat.le_of_ble_eq_true rfl⟩ (fun H locs B => ?_)
  refine lv_aload_n hx hb dX9_trim_11 rfl (lv_at hl 0 rfl) ?_
  refine lv_aload_n hx hb dX9_trim_12 rfl (lv_at hl 0 rfl) ?_
  refine r_get (ci := 13) (C := RX9) (T := TX9) (N := 10) S F B (kq (by decide) : kd 154 = 7 ∧ 154 < NN) rfl rfl hiX9 7 (by decide) (by decide +kernel) rfl dX9_trim_13 ?_
  refine lv_iload_n hx hb dX9_trim_16 rfl (lv_at hl 1 rfl) ?_
  refine lv_iload_n hx hb dX9_trim_17 rfl (lv_at hl 2 rfl) ?_
  refine lv_iload_n hx hb dX9_trim_18 rfl (lv_at hl 3 rfl) ?_
  obtain ⟨q3, σ4, hq3, ho⟩ := bnm_ ho
  refine k_iV (As := [.int a0, .int a1, .int a2]) (rest := [.ref (G.2.2 154)]) S F B (c_X3_trimHedge l G σ2 _ a0 a1 a2 hq3) (kq (by decide) : kd 161 = 13 ∧ 161 < NN) rfl rfl (cwV 3 hts gX9_trim_X3_trimHedge rfl rfl rfl (by decide +kernel) ⟨Nat.le_of_ble_eq_true rfl, Nat.le_of_ble_eq_true rfl⟩) rfl hl.1 rfl (Nat.le_of_ble_eq_true rfl) dX9_trim_19 ⟨Nat.le_of_ble_eq_true rfl, Nat.le_of_ble_eq_true rfl⟩ (fun H locs B => ?_)
  rcases xb_ ho with ⟨q5, σ6, hq5, ho⟩ | ⟨q5, σ6, hq5, rfl⟩
  rotate_left
  · exact xk_eV (As := [.int q3]) (rest := []) no_Xi S F B (c_X9_settled l hl9 G σ4 _ q3 hq5) (kq (by decide) : kd 154 = 7 ∧ 154 < NN) rfl rfl (cwV 1 hts gX9_trim_X9_settled rfl rfl rfl (by decide +kernel) ⟨Nat.le_of_ble_eq_true rfl, Nat.le_of_ble_eq_true rfl⟩) rfl hl.1 rfl (Nat.le_of_ble_eq_true rfl) dX9_trim_22 hlocks ht9 (Nat.le_of_ble_eq_true rfl) (Nat.le_of_ble_eq_true rfl) ⟨Nat.le_of_ble_eq_true rfl, Nat.le_of_ble_eq_true rfl⟩
  refine xk_iV (As := [.int q3]) (rest := []) S F B (c_X9_settled l hl9 G σ4 _ q3 hq5) (kq (by decide) : kd 154 = 7 ∧ 154 < NN) rfl rfl (cwV 1 hts gX9_trim_X9_settled rfl rfl rfl (by decide +kernel) ⟨Nat.le_of_ble_eq_true rfl, Nat.le_of_ble_eq_true rfl⟩) rfl hl.1 rfl (Nat.le_of_ble_eq_true rfl) dX9_trim_22 ⟨Nat.le_of_ble_eq_true rfl, Nat.le_of_ble_eq_true rfl⟩ (fun H locs B => ?_)
  cases ho
  exact xe_i B hx hb hr hlocks rfl rfl rfl dX9_trim_25

set_option maxHeartbeats 4000000 in
set_option maxRecDepth 100000 in
theorem c_X9_minotaur (l : Launch) (hl9 : l.stackTraces = false) (G : Gd) (σ : Mm) (sz : Nat) (a0 : Int32) {out : (Int32 ⊕ Nat) × Mm} (ho : f_X9_minotaur a0 σ = some out) : vx_Met l yX9_minotaur wsX9_minotaur { frames := 7, cells := 1, slots := 6, locals := 131 } (va_Pc [.ref (G.2.2 154), .int a0] (PW G σ sz)) (Xi G sz out) (XX G sz out) 1 6 (AA G sz) := by
  refine vx_ofW (cc := cX9_minotaur) (maxL := 2) (ret := (some .int)) (by decide) rfl ?_
  intro p e s m args below meth c s₁ B0 hml ht9 hv
  obtain ⟨rfl, hpw⟩ := hv
  have hsz := hpw.1
  subst hsz
  obtain ⟨F, B⟩ := hpw.to
  have hx := B0.exec
  have hb := B0.bytes
  have hr := B0.returns
  have hts := atoms_spec (ws := wsX9_minotaur) B0.pre
  have hown : s.vm.findClass RX9 = some m.cls := findClass_of_methodNamed B0.named
  have hlocks := B0.notSynchronized
  have S : CallFix p m c cX9_minotaur 2 s _ wsX9_minotaur RX9 := ⟨hx, hb, hml, hown, hts⟩
  have hiX9 : ∀ w ∈ u_ws RX9 TX9 10, w ∈ wsX9_minotaur := by decide +kernel
  have hl := lv_entry [.ref (G.2.2 154), .int a0] (n := 2) (Nat.le_of_ble_eq_true rfl)
  rw [lg_entry_eq]
  generalize (lg_sl [.ref (G.2.2 154), .int a0] ++ List.replicate (2 - (lg_sl [.ref (G.2.2 154), .int a0]).length) Slot.unset).toArray = ls at hl ⊢
  have hl : lv_has ls 2 [(0, .ref (G.2.2 154)), (1, .int a0)] := hl
  unfold f_X9_minotaur at ho
  refine lv_aload_n hx hb dX9_minotaur_0 rfl (lv_at hl 0 rfl) ?_
  refine r_get (ci := 13) (C := RX9) (T := TX9) (N := 10) S F B (kq (by decide) : kd 154 = 7 ∧ 154 < NN) rfl rfl hiX9 1 (by decide) (by decide +kernel) rfl dX9_minotaur_1 ?_
  refine lv_aload_n hx hb dX9_minotaur_4 rfl (lv_at hl 0 rfl) ?_
  refine r_get (ci := 13) (C := RX9) (T := TX9) (N := 10) S F B (kq (by decide) : kd 154 = 7 ∧ 154 < NN) rfl rfl hiX9 0 (by decide) (by decide +kernel) rfl dX9_minotaur_5 ?_
  obtain ⟨σ2, hq1, ho⟩ := bnd_ ho
  refine k_vV (As := [.ref (G.2.2 0)]) (rest := []) S F B (c_X6_copyFrom l G σ _ 14 0 isS14 isS0 hq1) (kq (by decide) : kd 14 = 0 ∧ 14 < NN) rfl rfl (cwV 1 hts gX9_minotaur_X6_copyFrom rfl rfl rfl (by decide +kernel) ⟨Nat.le_of_ble_eq_true rfl, Nat.le_of_ble_eq_true rfl⟩) rfl hl.1 rfl (Nat.le_of_ble_eq_true rfl) dX9_minotaur_8 ⟨Nat.le_of_ble_eq_true rfl, Nat.le_of_ble_eq_true rfl⟩ (fun H locs B => ?_)
  refine lv_aload_n hx hb dX9_minotaur_11 rfl (lv_at hl 0 rfl) ?_
  refine lv_aload_n hx hb dX9_minotaur_12 rfl (lv_at hl 0 rfl) ?_
  refine r_get (ci := 13) (C := RX9) (T := TX9) (N := 10) S F B (kq (by decide) : kd 154 = 7 ∧ 154 < NN) rfl rfl hiX9 7 (by decide) (by decide +kernel) rfl dX9_minotaur_13 ?_
  refine lv_iload_n hx hb dX9_minotaur_16 rfl (lv_at hl 1 rfl) ?_
  obtain ⟨q3, σ4, hq3, ho⟩ := bnm_ ho
  refine k_iV (As := [.int a0]) (rest := [.ref (G.2.2 154)]) S F B (c_X3_placeMinotaur l G σ2 _ a0 hq3) (kq (by decide) : kd 161 = 13 ∧ 161 < NN) rfl rfl (cwV 1 hts gX9_minotaur_X3_placeMinotaur rfl rfl rfl (by decide +kernel) ⟨Nat.le_of_ble_eq_true rfl, Nat.le_of_ble_eq_true rfl⟩) rfl hl.1 rfl (Nat.le_of_ble_eq_true rfl) dX9_minotaur_17 ⟨Nat.le_of_ble_eq_true rfl, Nat.le_of_ble_eq_true rfl⟩ (fun H locs B => ?_)
  rcases xb_ ho with ⟨q5, σ6, hq5, ho⟩ | ⟨q5, σ6, hq5, rfl⟩
  rotate_left
  · exact xk_eV (As := [.int q3]) (rest := []) no_Xi S F B (c_X9_settled l hl9 G σ4 _ q3 hq5) (kq (by decide) : kd 154 = 7 ∧ 154 < NN) rfl rfl (cwV 1 hts gX9_minotaur_X9_settled rfl rfl rfl (by decide +kernel) ⟨Nat.le_of_ble_eq_true rfl, Nat.le_of_ble_eq_true rfl⟩) rfl hl.1 rfl (Nat.le_of_ble_eq_true rfl) dX9_minotaur_20 hlocks ht9 (Nat.le_of_ble_eq_true rfl) (Nat.le_of_ble_eq_true rfl) ⟨Nat.le_of_ble_eq_true rfl, Nat.le_of_ble_eq_true rfl⟩
  refine xk_iV (As := [.int q3]) (rest := []) S F B (c_X9_settled l hl9 G σ4 _ q3 hq5) (kq (by decide) : kd 154 = 7 ∧ 154 < NN) rfl rfl (cwV 1 hts gX9_minotaur_X9_settled rfl rfl rfl (by decide +kernel) ⟨Nat.le_of_ble_eq_true rfl, Nat.le_of_ble_eq_true rfl⟩) rfl hl.1 rfl (Nat.le_of_ble_eq_true rfl) dX9_minotaur_20 ⟨Nat.le_of_ble_eq_true rfl, Nat.le_of_ble_eq_true rfl⟩ (fun H locs B => ?_)
  cases ho
  exact xe_i B hx hb hr hlocks rfl rfl rfl dX9_minotaur_23

set_option maxHeartbeats 4000000 in
set_option maxRecDepth 100000 in
theorem c_X9_gardener (l : Launch) (hl9 : l.stackTraces = false) (G : Gd) (σ : Mm) (sz : Nat) (a0 : Int32) {out : (Int32 ⊕ Nat) × Mm} (ho : f_X9_gardener a0 σ = some out) : vx_Met l yX9_gardener wsX9_gardener { frames := 7, cells := 1, slots := 6, locals := 131 } (va_Pc [.ref (G.2.2 154), .int a0] (PW G σ sz)) (Xi G sz out) (XX G sz out) 1 6 (AA G sz) := by
  refine vx_ofW (cc := cX9_gardener) (maxL := 2) (ret := (some .int)) (by decide) rfl ?_
  intro p e s m args below meth c s₁ B0 hml ht9 hv
  obtain ⟨rfl, hpw⟩ := hv
  have hsz := hpw.1
  subst hsz
  obtain ⟨F, B⟩ := hpw.to
  have hx := B0.exec
  have hb := B0.bytes
  have hr := B0.returns
  have hts := atoms_spec (ws := wsX9_gardener) B0.pre
  have hown : s.vm.findClass RX9 = some m.cls := findClass_of_methodNamed B0.named
  have hlocks := B0.notSynchronized
  have S : CallFix p m c cX9_gardener 2 s _ wsX9_gardener RX9 := ⟨hx, hb, hml, hown, hts⟩
  have hiX9 : ∀ w ∈ u_ws RX9 TX9 10, w ∈ wsX9_gardener := by decide +kernel
  have hl := lv_entry [.ref (G.2.2 154), .int a0] (n := 2) (Nat.le_of_ble_eq_true rfl)
  rw [lg_entry_eq]
  generalize (lg_sl [.ref (G.2.2 154), .int a0] ++ List.replicate (2 - (lg_sl [.ref (G.2.2 154), .int a0]).length) Slot.unset).toArray = ls at hl ⊢
  have hl : lv_has ls 2 [(0, .ref (G.2.2 154)), (1, .int a0)] := hl
  unfold f_X9_gardener at ho
  refine lv_aload_n hx hb dX9_gardener_0 rfl (lv_at hl 0 rfl) ?_
  refine r_get (ci := 13) (C := RX9) (T := TX9) (N := 10) S F B (kq (by decide) : kd 154 = 7 ∧ 154 < NN) rfl rfl hiX9 1 (by decide) (by decide +kernel) rfl dX9_gardener_1 ?_
  refine lv_aload_n hx hb dX9_gardener_4 rfl (lv_at hl 0 rfl) ?_
  refine r_get (ci := 13) (C := RX9) (T := TX9) (N := 10) S F B (kq (by decide) : kd 154 = 7 ∧ 154 < NN) rfl rfl hiX9 0 (by decide) (by decide +kernel) rfl dX9_gardener_5 ?_
  obtain ⟨σ2, hq1, ho⟩ := bnd_ ho
  refine k_vV (As := [.ref (G.2.2 0)]) (rest := []) S F B (c_X6_copyFrom l G σ _ 14 0 isS14 isS0 hq1) (kq (by decide) : kd 14 = 0 ∧ 14 < NN) rfl rfl (cwV 1 hts gX9_gardener_X6_copyFrom rfl rfl rfl (by decide +kernel) ⟨Nat.le_of_ble_eq_true rfl, Nat.le_of_ble_eq_true rfl⟩) rfl hl.1 rfl (Nat.le_of_ble_eq_true rfl) dX9_gardener_8 ⟨Nat.le_of_ble_eq_true rfl, Nat.le_of_ble_eq_true rfl⟩ (fun H locs B => ?_)
  refine lv_aload_n hx hb dX9_gardener_11 rfl (lv_at hl 0 rfl) ?_
  refine lv_aload_n hx hb dX9_gardener_12 rfl (lv_at hl 0 rfl) ?_
  refine r_get (ci := 13) (C := RX9) (T := TX9) (N := 10) S F B (kq (by decide) : kd 154 = 7 ∧ 154 < NN) rfl rfl hiX9 7 (by decide) (by decide +kernel) rfl dX9_gardener_13 ?_
  refine lv_iload_n hx hb dX9_gardener_16 rfl (lv_at hl 1 rfl) ?_
  obtain ⟨q3, σ4, hq3, ho⟩ := bnm_ ho
  refine k_iV (As := [.int a0]) (rest := [.ref (G.2.2 154)]) S F B (c_X3_admitGardener l G σ2 _ a0 hq3) (kq (by decide) : kd 161 = 13 ∧ 161 < NN) rfl rfl (cwV 1 hts gX9_gardener_X3_admitGardener rfl rfl rfl (by decide +kernel) ⟨Nat.le_of_ble_eq_true rfl, Nat.le_of_ble_eq_true rfl⟩) rfl hl.1 rfl (Nat.le_of_ble_eq_true rfl) dX9_gardener_17 ⟨Nat.le_of_ble_eq_true rfl, Nat.le_of_ble_eq_true rfl⟩ (fun H locs B => ?_)
  rcases xb_ ho with ⟨q5, σ6, hq5, ho⟩ | ⟨q5, σ6, hq5, rfl⟩
  rotate_left
  · exact xk_eV (As := [.int q3]) (rest := []) no_Xi S F B (c_X9_settled l hl9 G σ4 _ q3 hq5) (kq (by decide) : kd 154 = 7 ∧ 154 < NN) rfl rfl (cwV 1 hts gX9_gardener_X9_settled rfl rfl rfl (by decide +kernel) ⟨Nat.le_of_ble_eq_true rfl, Nat.le_of_ble_eq_true rfl⟩) rfl hl.1 rfl (Nat.le_of_ble_eq_true rfl) dX9_gardener_20 hlocks ht9 (Nat.le_of_ble_eq_true rfl) (Nat.le_of_ble_eq_true rfl) ⟨Nat.le_of_ble_eq_true rfl, Nat.le_of_ble_eq_true rfl⟩
  refine xk_iV (As := [.int q3]) (rest := []) S F B (c_X9_settled l hl9 G σ4 _ q3 hq5) (kq (by decide) : kd 154 = 7 ∧ 154 < NN) rfl rfl (cwV 1 hts gX9_gardener_X9_settled rfl rfl rfl (by decide +kernel) ⟨Nat.le_of_ble_eq_true rfl, Nat.le_of_ble_eq_true rfl⟩) rfl hl.1 rfl (Nat.le_of_ble_eq_true rfl) dX9_gardener_20 ⟨Nat.le_of_ble_eq_true rfl, Nat.le_of_ble_eq_true rfl⟩ (fun H locs B => ?_)
  cases ho
  exact xe_i B hx hb hr hlocks rfl rfl rfl dX9_gardener_23

set_option maxHeartbeats 4000000 in
set_option maxRecDepth 100000 in
theorem c_X9_visitor (l : Launch) (hl9 : l.stackTraces = false) (G : Gd) (σ : Mm) (sz : Nat) (a0 : Int32) {out : (Int32 ⊕ Nat) × Mm} (ho : f_X9_visitor a0 σ = some out) : vx_Met l yX9_visitor wsX9_visitor { frames := 7, cells := 1, slots := 6, locals := 131 } (va_Pc [.ref (G.2.2 154), .int a0] (PW G σ sz)) (Xi G sz out) (XX G sz out) 1 6 (AA G sz) := by
  refine vx_ofW (cc := cX9_visitor) (maxL := 2) (ret := (some .int)) (by decide) rfl ?_
  intro p e s m args below meth c s₁ B0 hml ht9 hv
  obtain ⟨rfl, hpw⟩ := hv
  have hsz := hpw.1
  subst hsz
  obtain ⟨F, B⟩ := hpw.to
  have hx := B0.exec
  have hb := B0.bytes
  have hr := B0.returns
  have hts := atoms_spec (ws := wsX9_visitor) B0.pre
  have hown : s.vm.findClass RX9 = some m.cls := findClass_of_methodNamed B0.named
  have hlocks := B0.notSynchronized
  have S : CallFix p m c cX9_visitor 2 s _ wsX9_visitor RX9 := ⟨hx, hb, hml, hown, hts⟩
  have hiX9 : ∀ w ∈ u_ws RX9 TX9 10, w ∈ wsX9_visitor := by decide +kernel
  have hl := lv_entry [.ref (G.2.2 154), .int a0] (n := 2) (Nat.le_of_ble_eq_true rfl)
  rw [lg_entry_eq]
  generalize (lg_sl [.ref (G.2.2 154), .int a0] ++ List.replicate (2 - (lg_sl [.ref (G.2.2 154), .int a0]).length) Slot.unset).toArray = ls at hl ⊢
  have hl : lv_has ls 2 [(0, .ref (G.2.2 154)), (1, .int a0)] := hl
  unfold f_X9_visitor at ho
  refine lv_aload_n hx hb dX9_visitor_0 rfl (lv_at hl 0 rfl) ?_
  refine r_get (ci := 13) (C := RX9) (T := TX9) (N := 10) S F B (kq (by decide) : kd 154 = 7 ∧ 154 < NN) rfl rfl hiX9 1 (by decide) (by decide +kernel) rfl dX9_visitor_1 ?_
  refine lv_aload_n hx hb dX9_visitor_4 rfl (lv_at hl 0 rfl) ?_
  refine r_get (ci := 13) (C := RX9) (T := TX9) (N := 10) S F B (kq (by decide) : kd 154 = 7 ∧ 154 < NN) rfl rfl hiX9 0 (by decide) (by decide +kernel) rfl dX9_visitor_5 ?_
  obtain ⟨σ2, hq1, ho⟩ := bnd_ ho
  refine k_vV (As := [.ref (G.2.2 0)]) (rest := []) S F B (c_X6_copyFrom l G σ _ 14 0 isS14 isS0 hq1) (kq (by decide) : kd 14 = 0 ∧ 14 < NN) rfl rfl (cwV 1 hts gX9_visitor_X6_copyFrom rfl rfl rfl (by decide +kernel) ⟨Nat.le_of_ble_eq_true rfl, Nat.le_of_ble_eq_true rfl⟩) rfl hl.1 rfl (Nat.le_of_ble_eq_true rfl) dX9_visitor_8 ⟨Nat.le_of_ble_eq_true rfl, Nat.le_of_ble_eq_true rfl⟩ (fun H locs B => ?_)
  refine lv_aload_n hx hb dX9_visitor_11 rfl (lv_at hl 0 rfl) ?_
  refine lv_aload_n hx hb dX9_visitor_12 rfl (lv_at hl 0 rfl) ?_
  refine r_get (ci := 13) (C := RX9) (T := TX9) (N := 10) S F B (kq (by decide) : kd 154 = 7 ∧ 154 < NN) rfl rfl hiX9 7 (by decide) (by decide +kernel) rfl dX9_visitor_13 ?_
  refine lv_iload_n hx hb dX9_visitor_16 rfl (lv_at hl 1 rfl) ?_
  obtain ⟨q3, σ4, hq3, ho⟩ := bnm_ ho
  refine k_iV (As := [.int a0]) (rest := [.ref (G.2.2 154)]) S F B (c_X3_admitVisitor l G σ2 _ a0 hq3) (kq (by decide) : kd 161 = 13 ∧ 161 < NN) rfl rfl (cwV 1 hts gX9_visitor_X3_admitVisitor rfl rfl rfl (by decide +kernel) ⟨Nat.le_of_ble_eq_true rfl, Nat.le_of_ble_eq_true rfl⟩) rfl hl.1 rfl (Nat.le_of_ble_eq_true rfl) dX9_visitor_17 ⟨Nat.le_of_ble_eq_true rfl, Nat.le_of_ble_eq_true rfl⟩ (fun H locs B => ?_)
  rcases xb_ ho with ⟨q5, σ6, hq5, ho⟩ | ⟨q5, σ6, hq5, rfl⟩
  rotate_left
  · exact xk_eV (As := [.int q3]) (rest := []) no_Xi S F B (c_X9_settled l hl9 G σ4 _ q3 hq5) (kq (by decide) : kd 154 = 7 ∧ 154 < NN) rfl rfl (cwV 1 hts gX9_visitor_X9_settled rfl rfl rfl (by decide +kernel) ⟨Nat.le_of_ble_eq_true rfl, Nat.le_of_ble_eq_true rfl⟩) rfl hl.1 rfl (Nat.le_of_ble_eq_true rfl) dX9_visitor_20 hlocks ht9 (Nat.le_of_ble_eq_true rfl) (Nat.le_of_ble_eq_true rfl) ⟨Nat.le_of_ble_eq_true rfl, Nat.le_of_ble_eq_true rfl⟩
  refine xk_iV (As := [.int q3]) (rest := []) S F B (c_X9_settled l hl9 G σ4 _ q3 hq5) (kq (by decide) : kd 154 = 7 ∧ 154 < NN) rfl rfl (cwV 1 hts gX9_visitor_X9_settled rfl rfl rfl (by decide +kernel) ⟨Nat.le_of_ble_eq_true rfl, Nat.le_of_ble_eq_true rfl⟩) rfl hl.1 rfl (Nat.le_of_ble_eq_true rfl) dX9_visitor_20 ⟨Nat.le_of_ble_eq_true rfl, Nat.le_of_ble_eq_true rfl⟩ (fun H locs B => ?_)
  cases ho
  exact xe_i B hx hb hr hlocks rfl rfl rfl dX9_visitor_23

set_option maxHeartbeats 4000000 in
set_option maxRecDepth 100000 in
theorem c_X9_bond (l : Launch) (hl9 : l.stackTraces = false) (G : Gd) (σ : Mm) (sz : Nat) (a0 : Int32) (a1 : Int32) (a2 : Int32) {out : (Int32 ⊕ Nat) × Mm} (ho : f_X9_bond a0 a1 a2 σ = some out) : vx_Met l yX9_bond wsX9_bond { frames := 7, cells := 1, slots := 6, locals := 131 } (va_Pc [.ref (G.2.2 154), .int a0, .int a1, .int a2] (PW G σ sz)) (Xi G sz out) (XX G sz out) 1 6 (AA G sz) := by
  refine vx_ofW (cc := cX9_bond) (maxL := 4) (ret := (some .int)) (by decide) rfl ?_
  intro p e s m args below meth c s₁ B0 hml ht9 hv
  obtain ⟨rfl, hpw⟩ := hv
  have hsz := hpw.1
  subst hsz
  obtain ⟨F, B⟩ := hpw.to
  have hx := B0.exec
  have hb := B0.bytes
  have hr := B0.returns
  have hts := atoms_spec (ws := wsX9_bond) B0.pre
  have hown : s.vm.findClass RX9 = some m.cls := findClass_of_methodNamed B0.named
  have hlocks := B0.notSynchronized
  have S : CallFix p m c cX9_bond 4 s _ wsX9_bond RX9 := ⟨hx, hb, hml, hown, hts⟩
  have hiX9 : ∀ w ∈ u_ws RX9 TX9 10, w ∈ wsX9_bond := by decide +kernel
  have hl := lv_entry [.ref (G.2.2 154), .int a0, .int a1, .int a2] (n := 4) (Nat.le_of_ble_eq_true rfl)
  rw [lg_entry_eq]
  generalize (lg_sl [.ref (G.2.2 154), .int a0, .int a1, .int a2] ++ List.replicate (4 - (lg_sl [.ref (G.2.2 154), .int a0, .int a1, .int a2]).length) Slot.unset).toArray = ls at hl ⊢
  have hl : lv_has ls 4 [(0, .ref (G.2.2 154)), (1, .int a0), (2, .int a1), (3, .int a2)] := hl
  unfold f_X9_bond at ho
  refine lv_aload_n hx hb dX9_bond_0 rfl (lv_at hl 0 rfl) ?_
  refine r_get (ci := 13) (C := RX9) (T := TX9) (N := 10) S F B (kq (by decide) : kd 154 = 7 ∧ 154 < NN) rfl rfl hiX9 1 (by decide) (by decide +kernel) rfl dX9_bond_1 ?_
  refine lv_aload_n hx hb dX9_bond_4 rfl (lv_at hl 0 rfl) ?_
  refine r_get (ci := 13) (C := RX9) (T := TX9) (N := 10) S F B (kq (by decide) : kd 154 = 7 ∧ 154 < NN) rfl rfl hiX9 0 (by decide) (by decide +kernel) rfl dX9_bond_5 ?_
  obtain ⟨σ2, hq1, ho⟩ := bnd_ ho
  refine k_vV (As := [.ref (G.2.2 0)]) (rest := []) S F B (c_X6_copyFrom l G σ _ 14 0 isS14 isS0 hq1) (kq (by decide) : kd 14 = 0 ∧ 14 < NN) rfl rfl (cwV 1 hts gX9_bond_X6_copyFrom rfl rfl rfl (by decide +kernel) ⟨Nat.le_of_ble_eq_true rfl, Nat.le_of_ble_eq_true rfl⟩) rfl hl.1 rfl (Nat.le_of_ble_eq_true rfl) dX9_bond_8 ⟨Nat.le_of_ble_eq_true rfl, Nat.le_of_ble_eq_true rfl⟩ (fun H locs B => ?_)
  refine lv_aload_n hx hb dX9_bond_11 rfl (lv_at hl 0 rfl) ?_
  refine lv_aload_n hx hb dX9_bond_12 rfl (lv_at hl 0 rfl) ?_
  refine r_get (ci := 13) (C := RX9) (T := TX9) (N := 10) S F B (kq (by decide) : kd 154 = 7 ∧ 154 < NN) rfl rfl hiX9 7 (by decide) (by decide +kernel) rfl dX9_bond_13 ?_
  refine lv_iload_n hx hb dX9_bond_16 rfl (lv_at hl 1 rfl) ?_
  refine lv_iload_n hx hb dX9_bond_17 rfl (lv_at hl 2 rfl) ?_
  refine lv_iload_n hx hb dX9_bond_18 rfl (lv_at hl 3 rfl) ?_
  obtain ⟨q3, σ4, hq3, ho⟩ := bnm_ ho
  refine k_iV (As := [.int a0, .int a1, .int a2]) (rest := [.ref (G.2.2 154)]) S F B (c_X3_giveBond l G σ2 _ a0 a1 a2 hq3) (kq (by decide) : kd 161 = 13 ∧ 161 < NN) rfl rfl (cwV 3 hts gX9_bond_X3_giveBond rfl rfl rfl (by decide +kernel) ⟨Nat.le_of_ble_eq_true rfl, Nat.le_of_ble_eq_true rfl⟩) rfl hl.1 rfl (Nat.le_of_ble_eq_true rfl) dX9_bond_19 ⟨Nat.le_of_ble_eq_true rfl, Nat.le_of_ble_eq_true rfl⟩ (fun H locs B => ?_)
  rcases xb_ ho with ⟨q5, σ6, hq5, ho⟩ | ⟨q5, σ6, hq5, rfl⟩
  rotate_left
  · exact xk_eV (As := [.int q3]) (rest := []) no_Xi S F B (c_X9_settled l hl9 G σ4 _ q3 hq5) (kq (by decide) : kd 154 = 7 ∧ 154 < NN) rfl rfl (cwV 1 hts gX9_bond_X9_settled rfl rfl rfl (by decide +kernel) ⟨Nat.le_of_ble_eq_true rfl, Nat.le_of_ble_eq_true rfl⟩) rfl hl.1 rfl (Nat.le_of_ble_eq_true rfl) dX9_bond_22 hlocks ht9 (Nat.le_of_ble_eq_true rfl) (Nat.le_of_ble_eq_true rfl) ⟨Nat.le_of_ble_eq_true rfl, Nat.le_of_ble_eq_true rfl⟩
  refine xk_iV (As := [.int q3]) (rest := []) S F B (c_X9_settled l hl9 G σ4 _ q3 hq5) (kq (by decide) : kd 154 = 7 ∧ 154 < NN) rfl rfl (cwV 1 hts gX9_bond_X9_settled rfl rfl rfl (by decide +kernel) ⟨Nat.le_of_ble_eq_true rfl, Nat.le_of_ble_eq_true rfl⟩) rfl hl.1 rfl (Nat.le_of_ble_eq_true rfl) dX9_bond_22 ⟨Nat.le_of_ble_eq_true rfl, Nat.le_of_ble_eq_true rfl⟩ (fun H locs B => ?_)
  cases ho
  exact xe_i B hx hb hr hlocks rfl rfl rfl dX9_bond_25

set_option maxHeartbeats 4000000 in
set_option maxRecDepth 100000 in
theorem c_X9_walk (l : Launch) (hl9 : l.stackTraces = false) (G : Gd) (σ : Mm) (sz : Nat) (a0 : Int32) (a1 : Int32) {out : (Int32 ⊕ Nat) × Mm} (ho : f_X9_walk a0 a1 σ = some out) : vx_Met l yX9_walk wsX9_walk { frames := 7, cells := 1, slots := 6, locals := 131 } (va_Pc [.ref (G.2.2 154), .int a0, .int a1] (PW G σ sz)) (Xi G sz out) (XX G sz out) 1 6 (AA G sz) := by
  refine vx_ofW (cc := cX9_walk) (maxL := 3) (ret := (some .int)) (by decide) rfl ?_
  intro p e s m args below meth c s₁ B0 hml ht9 hv
  obtain ⟨rfl, hpw⟩ := hv
  have hsz := hpw.1
  subst hsz
  obtain ⟨F, B⟩ := hpw.to
  have hx := B0.exec
  have hb := B0.bytes
  have hr := B0.returns
  have hts := atoms_spec (ws := wsX9_walk) B0.pre
  have hown : s.vm.findClass RX9 = some m.cls := findClass_of_methodNamed B0.named
  have hlocks := B0.notSynchronized
  have S : CallFix p m c cX9_walk 3 s _ wsX9_walk RX9 := ⟨hx, hb, hml, hown, hts⟩
  have hiX9 : ∀ w ∈ u_ws RX9 TX9 10, w ∈ wsX9_walk := by decide +kernel
  have hl := lv_entry [.ref (G.2.2 154), .int a0, .int a1] (n := 3) (Nat.le_of_ble_eq_true rfl)
  rw [lg_entry_eq]
  generalize (lg_sl [.ref (G.2.2 154), .int a0, .int a1] ++ List.replicate (3 - (lg_sl [.ref (G.2.2 154), .int a0, .int a1]).length) Slot.unset).toArray = ls at hl ⊢
  have hl : lv_has ls 3 [(0, .ref (G.2.2 154)), (1, .int a0), (2, .int a1)] := hl
  unfold f_X9_walk at ho
  refine lv_aload_n hx hb dX9_walk_0 rfl (lv_at hl 0 rfl) ?_
  refine r_get (ci := 13) (C := RX9) (T := TX9) (N := 10) S F B (kq (by decide) : kd 154 = 7 ∧ 154 < NN) rfl rfl hiX9 1 (by decide) (by decide +kernel) rfl dX9_walk_1 ?_
  refine lv_aload_n hx hb dX9_walk_4 rfl (lv_at hl 0 rfl) ?_
  refine r_get (ci := 13) (C := RX9) (T := TX9) (N := 10) S F B (kq (by decide) : kd 154 = 7 ∧ 154 < NN) rfl rfl hiX9 0 (by decide) (by decide +kernel) rfl dX9_walk_5 ?_
  obtain ⟨σ2, hq1, ho⟩ := bnd_ ho
  refine k_vV (As := [.ref (G.2.2 0)]) (rest := []) S F B (c_X6_copyFrom l G σ _ 14 0 isS14 isS0 hq1) (kq (by decide) : kd 14 = 0 ∧ 14 < NN) rfl rfl (cwV 1 hts gX9_walk_X6_copyFrom rfl rfl rfl (by decide +kernel) ⟨Nat.le_of_ble_eq_true rfl, Nat.le_of_ble_eq_true rfl⟩) rfl hl.1 rfl (Nat.le_of_ble_eq_true rfl) dX9_walk_8 ⟨Nat.le_of_ble_eq_true rfl, Nat.le_of_ble_eq_true rfl⟩ (fun H locs B => ?_)
  refine lv_aload_n hx hb dX9_walk_11 rfl (lv_at hl 0 rfl) ?_
  refine lv_aload_n hx hb dX9_walk_12 rfl (lv_at hl 0 rfl) ?_
  refine r_get (ci := 13) (C := RX9) (T := TX9) (N := 10) S F B (kq (by decide) : kd 154 = 7 ∧ 154 < NN) rfl rfl hiX9 7 (by decide) (by decide +kernel) rfl dX9_walk_13 ?_
  refine lv_iload_n hx hb dX9_walk_16 rfl (lv_at hl 1 rfl) ?_
  refine lv_iload_n hx hb dX9_walk_17 rfl (lv_at hl 2 rfl) ?_
  obtain ⟨q3, σ4, hq3, ho⟩ := bnm_ ho
  refine k_iV (As := [.int a0, .int a1]) (rest := [.ref (G.2.2 154)]) S F B (c_X3_moveVisitor l G σ2 _ a0 a1 hq3) (kq (by decide) : kd 161 = 13 ∧ 161 < NN) rfl rfl (cwV 2 hts gX9_walk_X3_moveVisitor rfl rfl rfl (by decide +kernel) ⟨Nat.le_of_ble_eq_true rfl, Nat.le_of_ble_eq_true rfl⟩) rfl hl.1 rfl (Nat.le_of_ble_eq_true rfl) dX9_walk_18 ⟨Nat.le_of_ble_eq_true rfl, Nat.le_of_ble_eq_true rfl⟩ (fun H locs B => ?_)
  rcases xb_ ho with ⟨q5, σ6, hq5, ho⟩ | ⟨q5, σ6, hq5, rfl⟩
  rotate_left
  · exact xk_eV (As := [.int q3]) (rest := []) no_Xi S F B (c_X9_settled l hl9 G σ4 _ q3 hq5) (kq (by decide) : kd 154 = 7 ∧ 154 < NN) rfl rfl (cwV 1 hts gX9_walk_X9_settled rfl rfl rfl (by decide +kernel) ⟨Nat.le_of_ble_eq_true rfl, Nat.le_of_ble_eq_true rfl⟩) rfl hl.1 rfl (Nat.le_of_ble_eq_true rfl) dX9_walk_21 hlocks ht9 (Nat.le_of_ble_eq_true rfl) (Nat.le_of_ble_eq_true rfl) ⟨Nat.le_of_ble_eq_true rfl, Nat.le_of_ble_eq_true rfl⟩
  refine xk_iV (As := [.int q3]) (rest := []) S F B (c_X9_settled l hl9 G σ4 _ q3 hq5) (kq (by decide) : kd 154 = 7 ∧ 154 < NN) rfl rfl (cwV 1 hts gX9_walk_X9_settled rfl rfl rfl (by decide +kernel) ⟨Nat.le_of_ble_eq_true rfl, Nat.le_of_ble_eq_true rfl⟩) rfl hl.1 rfl (Nat.le_of_ble_eq_true rfl) dX9_walk_21 ⟨Nat.le_of_ble_eq_true rfl, Nat.le_of_ble_eq_true rfl⟩ (fun H locs B => ?_)
  cases ho
  exact xe_i B hx hb hr hlocks rfl rfl rfl dX9_walk_24

set_option maxHeartbeats 4000000 in
set_option maxRecDepth 100000 in
theorem c_X9_rest (l : Launch) (hl9 : l.stackTraces = false) (G : Gd) (σ : Mm) (sz : Nat) (a0 : Int32) (a1 : Int32) {out : (Int32 ⊕ Nat) × Mm} (ho : f_X9_rest a0 a1 σ = some out) : vx_Met l yX9_rest wsX9_rest { frames := 7, cells := 1, slots := 6, locals := 131 } (va_Pc [.ref (G.2.2 154), .int a0, .int a1] (PW G σ sz)) (Xi G sz out) (XX G sz out) 1 6 (AA G sz) := by
  refine vx_ofW (cc := cX9_rest) (maxL := 3) (ret := (some .int)) (by decide) rfl ?_
  intro p e s m args below meth c s₁ B0 hml ht9 hv
  obtain ⟨rfl, hpw⟩ := hv
  have hsz := hpw.1
  subst hsz
  obtain ⟨F, B⟩ := hpw.to
  have hx := B0.exec
  have hb := B0.bytes
  have hr := B0.returns
  have hts := atoms_spec (ws := wsX9_rest) B0.pre
  have hown : s.vm.findClass RX9 = some m.cls := findClass_of_methodNamed B0.named
  have hlocks := B0.notSynchronized
  have S : CallFix p m c cX9_rest 3 s _ wsX9_rest RX9 := ⟨hx, hb, hml, hown, hts⟩
  have hiX9 : ∀ w ∈ u_ws RX9 TX9 10, w ∈ wsX9_rest := by decide +kernel
  have hl := lv_entry [.ref (G.2.2 154), .int a0, .int a1] (n := 3) (Nat.le_of_ble_eq_true rfl)
  rw [lg_entry_eq]
  generalize (lg_sl [.ref (G.2.2 154), .int a0, .int a1] ++ List.replicate (3 - (lg_sl [.ref (G.2.2 154), .int a0, .int a1]).length) Slot.unset).toArray = ls at hl ⊢
  have hl : lv_has ls 3 [(0, .ref (G.2.2 154)), (1, .int a0), (2, .int a1)] := hl
  unfold f_X9_rest at ho
  refine lv_aload_n hx hb dX9_rest_0 rfl (lv_at hl 0 rfl) ?_
  refine r_get (ci := 13) (C := RX9) (T := TX9) (N := 10) S F B (kq (by decide) : kd 154 = 7 ∧ 154 < NN) rfl rfl hiX9 1 (by decide) (by decide +kernel) rfl dX9_rest_1 ?_
  refine lv_aload_n hx hb dX9_rest_4 rfl (lv_at hl 0 rfl) ?_
  refine r_get (ci := 13) (C := RX9) (T := TX9) (N := 10) S F B (kq (by decide) : kd 154 = 7 ∧ 154 < NN) rfl rfl hiX9 0 (by decide) (by decide +kernel) rfl dX9_rest_5 ?_
  obtain ⟨σ2, hq1, ho⟩ := bnd_ ho
  refine k_vV (As := [.ref (G.2.2 0)]) (rest := []) S F B (c_X6_copyFrom l G σ _ 14 0 isS14 isS0 hq1) (kq (by decide) : kd 14 = 0 ∧ 14 < NN) rfl rfl (cwV 1 hts gX9_rest_X6_copyFrom rfl rfl rfl (by decide +kernel) ⟨Nat.le_of_ble_eq_true rfl, Nat.le_of_ble_eq_true rfl⟩) rfl hl.1 rfl (Nat.le_of_ble_eq_true rfl) dX9_rest_8 ⟨Nat.le_of_ble_eq_true rfl, Nat.le_of_ble_eq_true rfl⟩ (fun H locs B => ?_)
  refine lv_aload_n hx hb dX9_rest_11 rfl (lv_at hl 0 rfl) ?_
  refine lv_aload_n hx hb dX9_rest_12 rfl (lv_at hl 0 rfl) ?_
  refine r_get (ci := 13) (C := RX9) (T := TX9) (N := 10) S F B (kq (by decide) : kd 154 = 7 ∧ 154 < NN) rfl rfl hiX9 7 (by decide) (by decide +kernel) rfl dX9_rest_13 ?_
  refine lv_iload_n hx hb dX9_rest_16 rfl (lv_at hl 1 rfl) ?_
  refine lv_iload_n hx hb dX9_rest_17 rfl (lv_at hl 2 rfl) ?_
  obtain ⟨q3, σ4, hq3, ho⟩ := bnm_ ho
  refine k_iV (As := [.int a0, .int a1]) (rest := [.ref (G.2.2 154)]) S F B (c_X3_restVisitor l G σ2 _ a0 a1 hq3) (kq (by decide) : kd 161 = 13 ∧ 161 < NN) rfl rfl (cwV 2 hts gX9_rest_X3_restVisitor rfl rfl rfl (by decide +kernel) ⟨Nat.le_of_ble_eq_true rfl, Nat.le_of_ble_eq_true rfl⟩) rfl hl.1 rfl (Nat.le_of_ble_eq_true rfl) dX9_rest_18 ⟨Nat.le_of_ble_eq_true rfl, Nat.le_of_ble_eq_true rfl⟩ (fun H locs B => ?_)
  rcases xb_ ho with ⟨q5, σ6, hq5, ho⟩ | ⟨q5, σ6, hq5, rfl⟩
  rotate_left
  · exact xk_eV (As := [.int q3]) (rest := []) no_Xi S F B (c_X9_settled l hl9 G σ4 _ q3 hq5) (kq (by decide) : kd 154 = 7 ∧ 154 < NN) rfl rfl (cwV 1 hts gX9_rest_X9_settled rfl rfl rfl (by decide +kernel) ⟨Nat.le_of_ble_eq_true rfl, Nat.le_of_ble_eq_true rfl⟩) rfl hl.1 rfl (Nat.le_of_ble_eq_true rfl) dX9_rest_21 hlocks ht9 (Nat.le_of_ble_eq_true rfl) (Nat.le_of_ble_eq_true rfl) ⟨Nat.le_of_ble_eq_true rfl, Nat.le_of_ble_eq_true rfl⟩
  refine xk_iV (As := [.int q3]) (rest := []) S F B (c_X9_settled l hl9 G σ4 _ q3 hq5) (kq (by decide) : kd 154 = 7 ∧ 154 < NN) rfl rfl (cwV 1 hts gX9_rest_X9_settled rfl rfl rfl (by decide +kernel) ⟨Nat.le_of_ble_eq_true rfl, Nat.le_of_ble_eq_true rfl⟩) rfl hl.1 rfl (Nat.le_of_ble_eq_true rfl) dX9_rest_21 ⟨Nat.le_of_ble_eq_true rfl, Nat.le_of_ble_eq_true rfl⟩ (fun H locs B => ?_)
  cases ho
  exact xe_i B hx hb hr hlocks rfl rfl rfl dX9_rest_24

set_option maxHeartbeats 4000000 in
set_option maxRecDepth 100000 in
theorem c_X9_demandCells (l : Launch) (hl9 : l.stackTraces = false) (G : Gd) (σ : Mm) (sz : Nat) (a0 : Int32) (a1 : Int32) {out : (Unit ⊕ Nat) × Mm} (ho : f_X9_demandCells a0 a1 σ = some out) : vx_Met l yX9_demandCells wsX9_demandCells { frames := 6, cells := 1, slots := 6, locals := 110 } (va_Pc [.int a0, .int a1] (PW G σ sz)) (Xv G sz out) (XX G sz out) 1 6 (AA G sz) := by
  refine vx_ofW (cc := cX9_demandCells) (maxL := 2) (ret := none) (by decide) rfl ?_
  intro p e s m args below meth c s₁ B0 hml ht9 hv
  obtain ⟨rfl, hpw⟩ := hv
  have hsz := hpw.1
  subst hsz
  obtain ⟨F, B⟩ := hpw.to
  have hx := B0.exec
  have hb := B0.bytes
  have hr := B0.returns
  have hts := atoms_spec (ws := wsX9_demandCells) B0.pre
  have hown : s.vm.findClass RX9 = some m.cls := findClass_of_methodNamed B0.named
  have hlocks := B0.notSynchronized
  have S : CallFix p m c cX9_demandCells 2 s _ wsX9_demandCells RX9 := ⟨hx, hb, hml, hown, hts⟩
  have hl := lv_entry [.int a0, .int a1] (n := 2) (Nat.le_of_ble_eq_true rfl)
  rw [lg_entry_eq]
  generalize (lg_sl [.int a0, .int a1] ++ List.replicate (2 - (lg_sl [.int a0, .int a1]).length) Slot.unset).toArray = ls at hl ⊢
  have hl : lv_has ls 2 [(0, .int a0), (1, .int a1)] := hl
  unfold f_X9_demandCells at ho
  refine lv_iload_n hx hb dX9_demandCells_0 rfl (lv_at hl 0 rfl) ?_
  obtain ⟨q1, hq1, ho⟩ := bnd_ ho
  refine k_iS (As := [.int a0]) (rest := []) S F B (c_X4_isCell l G σ _ a0 hq1) (va_cwS 1 hts gX9_demandCells_X4_isCell rfl rfl rfl (by decide +kernel) ⟨Nat.le_of_ble_eq_true rfl, Nat.le_of_ble_eq_true rfl⟩) rfl hl.1 rfl (Nat.le_of_ble_eq_true rfl) dX9_demandCells_1 ⟨Nat.le_of_ble_eq_true rfl, Nat.le_of_ble_eq_true rfl⟩ (fun H locs B => ?_)
  refine lv_if_eq (tgt := 14) hx hb dX9_demandCells_4 (by decide) (fun c2 => ?_) (fun c2 => ?_)
  · have ho := ip_ c2 ho
    cases ho
    exact t_throwSg 1 1 (by decide) (by decide) S F B hl9 hlocks ht9 hl.1 rfl rfl (by decide +kernel) (by decide +kernel) (by decide +kernel) (by decide +kernel) (Nat.le_of_ble_eq_true rfl) (Nat.le_of_ble_eq_true rfl) (Nat.le_of_ble_eq_true rfl) (Nat.le_of_ble_eq_true rfl) (Nat.le_of_ble_eq_true rfl) (Nat.le_of_ble_eq_true rfl) dX9_demandCells_14 dX9_demandCells_17 dX9_demandCells_18 dX9_demandCells_20 dX9_demandCells_23
  · have ho := in_ c2 ho
    refine lv_iload_n hx hb dX9_demandCells_7 rfl (lv_at hl 1 rfl) ?_
    obtain ⟨q3, hq3, ho⟩ := bnd_ ho
    refine k_iS (As := [.int a1]) (rest := []) S F B (c_X4_isCell l G σ _ a1 hq3) (va_cwS 1 hts gX9_demandCells_X4_isCell rfl rfl rfl (by decide +kernel) ⟨Nat.le_of_ble_eq_true rfl, Nat.le_of_ble_eq_true rfl⟩) rfl hl.1 rfl (Nat.le_of_ble_eq_true rfl) dX9_demandCells_8 ⟨Nat.le_of_ble_eq_true rfl, Nat.le_of_ble_eq_true rfl⟩ (fun H locs B => ?_)
    refine lv_if_ne (tgt := 24) hx hb dX9_demandCells_11 (by decide) (fun c4 => ?_) (fun c4 => ?_)
    · have ho := in_ c4 ho
      refine W.widen (k := 1) (n := 6) (by decide) (by decide) ?_
      cases ho
      exact xe_v B hx hb hr hlocks rfl rfl dX9_demandCells_24
    · have ho := ip_ c4 ho
      cases ho
      exact t_throwSg 1 1 (by decide) (by decide) S F B hl9 hlocks ht9 hl.1 rfl rfl (by decide +kernel) (by decide +kernel) (by decide +kernel) (by decide +kernel) (Nat.le_of_ble_eq_true rfl) (Nat.le_of_ble_eq_true rfl) (Nat.le_of_ble_eq_true rfl) (Nat.le_of_ble_eq_true rfl) (Nat.le_of_ble_eq_true rfl) (Nat.le_of_ble_eq_true rfl) dX9_demandCells_14 dX9_demandCells_17 dX9_demandCells_18 dX9_demandCells_20 dX9_demandCells_23

set_option maxHeartbeats 4000000 in
set_option maxRecDepth 100000 in
theorem c_X9_hedgeAsked (l : Launch) (hl9 : l.stackTraces = false) (G : Gd) (σ : Mm) (sz : Nat) (a0 : Int32) (a1 : Int32) {out : (Int32 ⊕ Nat) × Mm} (ho : f_X9_hedgeAsked a0 a1 σ = some out) : vx_Met l yX9_hedgeAsked wsX9_hedgeAsked { frames := 7, cells := 2, slots := 12, locals := 131 } (va_Pc [.int a0, .int a1] (PW G σ sz)) (Xi G sz out) (XX G sz out) 2 12 (AA G sz) := by
  refine vx_ofW (cc := cX9_hedgeAsked) (maxL := 3) (ret := (some .int)) (by decide) rfl ?_
  intro p e s m args below meth c s₁ B0 hml ht9 hv
  obtain ⟨rfl, hpw⟩ := hv
  have hsz := hpw.1
  subst hsz
  obtain ⟨F, B⟩ := hpw.to
  have hx := B0.exec
  have hb := B0.bytes
  have hr := B0.returns
  have hts := atoms_spec (ws := wsX9_hedgeAsked) B0.pre
  have hown : s.vm.findClass RX9 = some m.cls := findClass_of_methodNamed B0.named
  have hlocks := B0.notSynchronized
  have S : CallFix p m c cX9_hedgeAsked 3 s _ wsX9_hedgeAsked RX9 := ⟨hx, hb, hml, hown, hts⟩
  have hl := lv_entry [.int a0, .int a1] (n := 3) (Nat.le_of_ble_eq_true rfl)
  rw [lg_entry_eq]
  generalize (lg_sl [.int a0, .int a1] ++ List.replicate (3 - (lg_sl [.int a0, .int a1]).length) Slot.unset).toArray = ls at hl ⊢
  have hl : lv_has ls 3 [(0, .int a0), (1, .int a1)] := hl
  unfold f_X9_hedgeAsked at ho
  refine lv_iload_n hx hb dX9_hedgeAsked_0 rfl (lv_at hl 0 rfl) ?_
  refine lv_iload_n hx hb dX9_hedgeAsked_1 rfl (lv_at hl 1 rfl) ?_
  rcases xb_ ho with ⟨q1, σ2, hq1, ho⟩ | ⟨q1, σ2, hq1, rfl⟩
  rotate_left
  · exact xk_eS (As := [.int a0, .int a1]) (rest := []) no_Xv S F B (c_X9_demandCells l hl9 G σ _ a0 a1 hq1) (va_cwS 2 hts gX9_hedgeAsked_X9_demandCells rfl rfl rfl (by decide +kernel) ⟨Nat.le_of_ble_eq_true rfl, Nat.le_of_ble_eq_true rfl⟩) rfl hl.1 rfl (Nat.le_of_ble_eq_true rfl) dX9_hedgeAsked_2 hlocks ht9 (Nat.le_of_ble_eq_true rfl) (Nat.le_of_ble_eq_true rfl) ⟨Nat.le_of_ble_eq_true rfl, Nat.le_of_ble_eq_true rfl⟩
  refine xk_vS (As := [.int a0, .int a1]) (rest := []) S F B (c_X9_demandCells l hl9 G σ _ a0 a1 hq1) (va_cwS 2 hts gX9_hedgeAsked_X9_demandCells rfl rfl rfl (by decide +kernel) ⟨Nat.le_of_ble_eq_true rfl, Nat.le_of_ble_eq_true rfl⟩) rfl hl.1 rfl (Nat.le_of_ble_eq_true rfl) dX9_hedgeAsked_2 ⟨Nat.le_of_ble_eq_true rfl, Nat.le_of_ble_eq_true rfl⟩ (fun H locs B => ?_)
  refine lv_iload_n hx hb dX9_hedgeAsked_5 rfl (lv_at hl 0 rfl) ?_
  refine lv_iload_n hx hb dX9_hedgeAsked_6 rfl (lv_at hl 1 rfl) ?_
  obtain ⟨q3, hq3, ho⟩ := bnd_ ho
  refine k_iS (As := [.int a0, .int a1]) (rest := []) S F B (c_X4_hedgeBetween l G σ2 _ a0 a1 hq3) (va_cwS 2 hts gX9_hedgeAsked_X4_hedgeBetween rfl rfl rfl (by decide +kernel) ⟨Nat.le_of_ble_eq_true rfl, Nat.le_of_ble_eq_true rfl⟩) rfl hl.1 rfl (Nat.le_of_ble_eq_true rfl) dX9_hedgeAsked_7 ⟨Nat.le_of_ble_eq_true rfl, Nat.le_of_ble_eq_true rfl⟩ (fun H locs B => ?_)
  refine lv_istore_n (lv' := [(2, .int q3), (0, .int a0), (1, .int a1)]) hx hb dX9_hedgeAsked_10 rfl hl (by decide) rfl (fun ls hl => ?_)
  refine lv_iload_n hx hb dX9_hedgeAsked_11 rfl (lv_at hl 0 rfl) ?_
  refine lv_iconst (v := (-1)) hx hb dX9_hedgeAsked_12 (by decide) ?_
  refine lv_icmp_ne (tgt := 26) hx hb dX9_hedgeAsked_13 (by decide) (fun c4 => ?_) (fun c4 => ?_)
  · have ho := in_ c4 ho
    refine lv_iload_n hx hb dX9_hedgeAsked_26 rfl (lv_at hl 0 rfl) ?_
    refine W.widen (k := 2) (n := 12) (by decide) (by decide) ?_
    cases ho
    exact xe_i B hx hb hr hlocks rfl rfl rfl dX9_hedgeAsked_27
  · have ho := ip_ c4 ho
    cases ho
    exact t_throwNg 2 2 (by decide) (by decide) S F B hl9 hlocks ht9 hl.1 rfl rfl (by decide +kernel) (by decide +kernel) (by decide +kernel) (by decide +kernel) (Nat.le_of_ble_eq_true rfl) (Nat.le_of_ble_eq_true rfl) (Nat.le_of_ble_eq_true rfl) (Nat.le_of_ble_eq_true rfl) (Nat.le_of_ble_eq_true rfl) (Nat.le_of_ble_eq_true rfl) dX9_hedgeAsked_16 dX9_hedgeAsked_19 dX9_hedgeAsked_20 dX9_hedgeAsked_22 dX9_hedgeAsked_25

set_option maxHeartbeats 4000000 in
set_option maxRecDepth 100000 in
theorem c_X9_demandWay (l : Launch) (hl9 : l.stackTraces = false) (G : Gd) (σ : Mm) (sz : Nat) (a0 : Int32) {out : (Int32 ⊕ Nat) × Mm} (ho : f_X9_demandWay a0 σ = some out) : vx_Met l yX9_demandWay wsX9_demandWay { frames := 6, cells := 1, slots := 6, locals := 110 } (va_Pc [.int a0] (PW G σ sz)) (Xi G sz out) (XX G sz out) 1 6 (AA G sz) := by
  refine vx_ofW (cc := cX9_demandWay) (maxL := 1) (ret := (some .int)) (by decide) rfl ?_
  intro p e s m args below meth c s₁ B0 hml ht9 hv
  obtain ⟨rfl, hpw⟩ := hv
  have hsz := hpw.1
  subst hsz
  obtain ⟨F, B⟩ := hpw.to
  have hx := B0.exec
  have hb := B0.bytes
  have hr := B0.returns
  have hts := atoms_spec (ws := wsX9_demandWay) B0.pre
  have hown : s.vm.findClass RX9 = some m.cls := findClass_of_methodNamed B0.named
  have hlocks := B0.notSynchronized
  have S : CallFix p m c cX9_demandWay 1 s _ wsX9_demandWay RX9 := ⟨hx, hb, hml, hown, hts⟩
  have hl := lv_entry [.int a0] (n := 1) (Nat.le_of_ble_eq_true rfl)
  rw [lg_entry_eq]
  generalize (lg_sl [.int a0] ++ List.replicate (1 - (lg_sl [.int a0]).length) Slot.unset).toArray = ls at hl ⊢
  have hl : lv_has ls 1 [(0, .int a0)] := hl
  unfold f_X9_demandWay at ho
  refine lv_iload_n hx hb dX9_demandWay_0 rfl (lv_at hl 0 rfl) ?_
  refine lv_sipush (v := 1000) hx hb dX9_demandWay_1 (by decide) ?_
  refine lv_icmp_lt (tgt := 17) hx hb dX9_demandWay_4 (by decide) (fun c1 => ?_) (fun c1 => ?_)
  · have ho := ip_ c1 ho
    refine lv_iload_n hx hb dX9_demandWay_17 rfl (lv_at hl 0 rfl) ?_
    refine W.widen (k := 1) (n := 6) (by decide) (by decide) ?_
    cases ho
    exact xe_i B hx hb hr hlocks rfl rfl rfl dX9_demandWay_18
  · have ho := in_ c1 ho
    cases ho
    exact t_throwNg 2 3 (by decide) (by decide) S F B hl9 hlocks ht9 hl.1 rfl rfl (by decide +kernel) (by decide +kernel) (by decide +kernel) (by decide +kernel) (Nat.le_of_ble_eq_true rfl) (Nat.le_of_ble_eq_true rfl) (Nat.le_of_ble_eq_true rfl) (Nat.le_of_ble_eq_true rfl) (Nat.le_of_ble_eq_true rfl) (Nat.le_of_ble_eq_true rfl) dX9_demandWay_7 dX9_demandWay_10 dX9_demandWay_11 dX9_demandWay_13 dX9_demandWay_16

set_option maxHeartbeats 4000000 in
set_option maxRecDepth 100000 in
theorem c_X9_leaves (l : Launch) (hl9 : l.stackTraces = false) (G : Gd) (σ : Mm) (sz : Nat) (a0 : Int32) (a1 : Int32) {out : (Int32 ⊕ Nat) × Mm} (ho : f_X9_leaves a0 a1 σ = some out) : vx_Met l yX9_leaves wsX9_leaves { frames := 8, cells := 2, slots := 12, locals := 153 } (va_Pc [.ref (G.2.2 154), .int a0, .int a1] (PW G σ sz)) (Xi G sz out) (XX G sz out) 2 12 (AA G sz) := by
  refine vx_ofW (cc := cX9_leaves) (maxL := 3) (ret := (some .int)) (by decide) rfl ?_
  intro p e s m args below meth c s₁ B0 hml ht9 hv
  obtain ⟨rfl, hpw⟩ := hv
  have hsz := hpw.1
  subst hsz
  obtain ⟨F, B⟩ := hpw.to
  have hx := B0.exec
  have hb := B0.bytes
  have hr := B0.returns
  have hts := atoms_spec (ws := wsX9_leaves) B0.pre
  have hown : s.vm.findClass RX9 = some m.cls := findClass_of_methodNamed B0.named
  have hlocks := B0.notSynchronized
  have S : CallFix p m c cX9_leaves 3 s _ wsX9_leaves RX9 := ⟨hx, hb, hml, hown, hts⟩
  have hiX9 : ∀ w ∈ u_ws RX9 TX9 10, w ∈ wsX9_leaves := by decide +kernel
  have hiX6 : ∀ w ∈ u_ws RX6 TX6 9, w ∈ wsX9_leaves := by decide +kernel
  have hl := lv_entry [.ref (G.2.2 154), .int a0, .int a1] (n := 3) (Nat.le_of_ble_eq_true rfl)
  rw [lg_entry_eq]
  generalize (lg_sl [.ref (G.2.2 154), .int a0, .int a1] ++ List.replicate (3 - (lg_sl [.ref (G.2.2 154), .int a0, .int a1]).length) Slot.unset).toArray = ls at hl ⊢
  have hl : lv_has ls 3 [(0, .ref (G.2.2 154)), (1, .int a0), (2, .int a1)] := hl
  unfold f_X9_leaves at ho
  refine lv_aload_n hx hb dX9_leaves_0 rfl (lv_at hl 0 rfl) ?_
  refine r_get (ci := 13) (C := RX9) (T := TX9) (N := 10) S F B (kq (by decide) : kd 154 = 7 ∧ 154 < NN) rfl rfl hiX9 0 (by decide) (by decide +kernel) rfl dX9_leaves_1 ?_
  refine r_getN (ci := 10) (C := RX6) (T := TX6) (N := 9) S F B (kq (by decide) : kd 0 = 0 ∧ 0 < NN) rfl rfl hiX6 0 (by decide) (by decide) rfl dX9_leaves_4 ?_
  refine lv_iload_n hx hb dX9_leaves_7 rfl (lv_at hl 1 rfl) ?_
  refine lv_iload_n hx hb dX9_leaves_8 rfl (lv_at hl 2 rfl) ?_
  rcases xb_ ho with ⟨q1, σ2, hq1, ho⟩ | ⟨q1, σ2, hq1, rfl⟩
  rotate_left
  · exact xk_eS (As := [.int a0, .int a1]) (rest := [.ref (G.2.2 1)]) no_Xi S F B (c_X9_hedgeAsked l hl9 G σ _ a0 a1 hq1) (va_cwS 2 hts gX9_leaves_X9_hedgeAsked rfl rfl rfl (by decide +kernel) ⟨Nat.le_of_ble_eq_true rfl, Nat.le_of_ble_eq_true rfl⟩) rfl hl.1 rfl (Nat.le_of_ble_eq_true rfl) dX9_leaves_9 hlocks ht9 (Nat.le_of_ble_eq_true rfl) (Nat.le_of_ble_eq_true rfl) ⟨Nat.le_of_ble_eq_true rfl, Nat.le_of_ble_eq_true rfl⟩
  refine xk_iS (As := [.int a0, .int a1]) (rest := [.ref (G.2.2 1)]) S F B (c_X9_hedgeAsked l hl9 G σ _ a0 a1 hq1) (va_cwS 2 hts gX9_leaves_X9_hedgeAsked rfl rfl rfl (by decide +kernel) ⟨Nat.le_of_ble_eq_true rfl, Nat.le_of_ble_eq_true rfl⟩) rfl hl.1 rfl (Nat.le_of_ble_eq_true rfl) dX9_leaves_9 ⟨Nat.le_of_ble_eq_true rfl, Nat.le_of_ble_eq_true rfl⟩ (fun H locs B => ?_)
  obtain ⟨q3, hq3, ho⟩ := bnd_ ho
  refine k_iV (As := [.int q1]) (rest := []) S F B (c_X4_leavesOf l G σ2 _ q1 hq3) (kq (by decide) : kd 1 = 1 ∧ 1 < NN) rfl rfl (cwV 1 hts gX9_leaves_X4_leavesOf rfl rfl rfl (by decide +kernel) ⟨Nat.le_of_ble_eq_true rfl, Nat.le_of_ble_eq_true rfl⟩) rfl hl.1 rfl (Nat.le_of_ble_eq_true rfl) dX9_leaves_12 ⟨Nat.le_of_ble_eq_true rfl, Nat.le_of_ble_eq_true rfl⟩ (fun H locs B => ?_)
  cases ho
  exact xe_i B hx hb hr hlocks rfl rfl rfl dX9_leaves_15

set_option maxHeartbeats 4000000 in
set_option maxRecDepth 100000 in
theorem c_X9_isGap (l : Launch) (hl9 : l.stackTraces = false) (G : Gd) (σ : Mm) (sz : Nat) (a0 : Int32) (a1 : Int32) {out : (Int32 ⊕ Nat) × Mm} (ho : f_X9_isGap a0 a1 σ = some out) : vx_Met l yX9_isGap wsX9_isGap { frames := 7, cells := 1, slots := 6, locals := 131 } (va_Pc [.ref (G.2.2 154), .int a0, .int a1] (PW G σ sz)) (Xi G sz out) (XX G sz out) 1 6 (AA G sz) := by
  refine vx_ofW (cc := cX9_isGap) (maxL := 3) (ret := (some .boolean)) (by decide) rfl ?_
  intro p e s m args below meth c s₁ B0 hml ht9 hv
  obtain ⟨rfl, hpw⟩ := hv
  have hsz := hpw.1
  subst hsz
  obtain ⟨F, B⟩ := hpw.to
  have hx := B0.exec
  have hb := B0.bytes
  have hr := B0.returns
  have hts := atoms_spec (ws := wsX9_isGap) B0.pre
  have hown : s.vm.findClass RX9 = some m.cls := findClass_of_methodNamed B0.named
  have hlocks := B0.notSynchronized
  have S : CallFix p m c cX9_isGap 3 s _ wsX9_isGap RX9 := ⟨hx, hb, hml, hown, hts⟩
  have hiX9 : ∀ w ∈ u_ws RX9 TX9 10, w ∈ wsX9_isGap := by decide +kernel
  have hiX6 : ∀ w ∈ u_ws RX6 TX6 9, w ∈ wsX9_isGap := by decide +kernel
  have hl := lv_entry [.ref (G.2.2 154), .int a0, .int a1] (n := 3) (Nat.le_of_ble_eq_true rfl)
  rw [lg_entry_eq]
  generalize (lg_sl [.ref (G.2.2 154), .int a0, .int a1] ++ List.replicate (3 - (lg_sl [.ref (G.2.2 154), .int a0, .int a1]).length) Slot.unset).toArray = ls at hl ⊢
  have hl : lv_has ls 3 [(0, .ref (G.2.2 154)), (1, .int a0), (2, .int a1)] := hl
  unfold f_X9_isGap at ho
  refine lv_iload_n hx hb dX9_isGap_0 rfl (lv_at hl 1 rfl) ?_
  refine lv_iload_n hx hb dX9_isGap_1 rfl (lv_at hl 2 rfl) ?_
  rcases xb_ ho with ⟨q1, σ2, hq1, ho⟩ | ⟨q1, σ2, hq1, rfl⟩
  rotate_left
  · exact xk_eS (As := [.int a0, .int a1]) (rest := []) no_Xv S F B (c_X9_demandCells l hl9 G σ _ a0 a1 hq1) (va_cwS 2 hts gX9_isGap_X9_demandCells rfl rfl rfl (by decide +kernel) ⟨Nat.le_of_ble_eq_true rfl, Nat.le_of_ble_eq_true rfl⟩) rfl hl.1 rfl (Nat.le_of_ble_eq_true rfl) dX9_isGap_2 hlocks ht9 (Nat.le_of_ble_eq_true rfl) (Nat.le_of_ble_eq_true rfl) ⟨Nat.le_of_ble_eq_true rfl, Nat.le_of_ble_eq_true rfl⟩
  refine xk_vS (As := [.int a0, .int a1]) (rest := []) S F B (c_X9_demandCells l hl9 G σ _ a0 a1 hq1) (va_cwS 2 hts gX9_isGap_X9_demandCells rfl rfl rfl (by decide +kernel) ⟨Nat.le_of_ble_eq_true rfl, Nat.le_of_ble_eq_true rfl⟩) rfl hl.1 rfl (Nat.le_of_ble_eq_true rfl) dX9_isGap_2 ⟨Nat.le_of_ble_eq_true rfl, Nat.le_of_ble_eq_true rfl⟩ (fun H locs B => ?_)
  refine lv_aload_n hx hb dX9_isGap_5 rfl (lv_at hl 0 rfl) ?_
  refine r_get (ci := 13) (C := RX9) (T := TX9) (N := 10) S F B (kq (by decide) : kd 154 = 7 ∧ 154 < NN) rfl rfl hiX9 0 (by decide) (by decide +kernel) rfl dX9_isGap_6 ?_
  refine r_getN (ci := 10) (C := RX6) (T := TX6) (N := 9) S F B (kq (by decide) : kd 0 = 0 ∧ 0 < NN) rfl rfl hiX6 0 (by decide) (by decide) rfl dX9_isGap_9 ?_
  refine lv_iload_n hx hb dX9_isGap_12 rfl (lv_at hl 1 rfl) ?_
  refine lv_iload_n hx hb dX9_isGap_13 rfl (lv_at hl 2 rfl) ?_
  obtain ⟨q3, hq3, ho⟩ := bnd_ ho
  refine k_iS (As := [.int a0, .int a1]) (rest := [.ref (G.2.2 1)]) S F B (c_X4_hedgeBetween l G σ2 _ a0 a1 hq3) (va_cwS 2 hts gX9_isGap_X4_hedgeBetween rfl rfl rfl (by decide +kernel) ⟨Nat.le_of_ble_eq_true rfl, Nat.le_of_ble_eq_true rfl⟩) rfl hl.1 rfl (Nat.le_of_ble_eq_true rfl) dX9_isGap_14 ⟨Nat.le_of_ble_eq_true rfl, Nat.le_of_ble_eq_true rfl⟩ (fun H locs B => ?_)
  obtain ⟨q4, hq4, ho⟩ := bnd_ ho
  refine k_iV (As := [.int q3]) (rest := []) S F B (c_X4_isOpen l G σ2 _ q3 hq4) (kq (by decide) : kd 1 = 1 ∧ 1 < NN) rfl rfl (cwV 1 hts gX9_isGap_X4_isOpen rfl rfl rfl (by decide +kernel) ⟨Nat.le_of_ble_eq_true rfl, Nat.le_of_ble_eq_true rfl⟩) rfl hl.1 rfl (Nat.le_of_ble_eq_true rfl) dX9_isGap_17 ⟨Nat.le_of_ble_eq_true rfl, Nat.le_of_ble_eq_true rfl⟩ (fun H locs B => ?_)
  obtain ⟨hz, ho⟩ := bz_ ho
  cases ho
  exact xe_i B hx hb hr hlocks hz rfl rfl dX9_isGap_20

