set_option maxHeartbeats 4000000 in
set_option maxRecDepth 100000 in
theorem c_X7_hasBond (l : Launch) (G : Gd) (σ : Mm) (sz : Nat) (i : Nat) (hi9 : kd i = 6 ∧ i < NN) {out : Int32} (ho : f_X7_hasBond i σ = some out) : Met l yX7_hasBond wsX7_hasBond { frames := 0, cells := 0, slots := 0, locals := 0 } (va_Pc [.ref (G.2.2 i)] (PW G σ sz)) (Qi G sz out σ) 0 0 (AA G sz) := by
  refine Met.ofW (cc := cX7_hasBond) (maxL := 1) (ret := (some .boolean)) (by decide) rfl ?_
  intro p e s m args below meth c s₁ B0 hml hv
  obtain ⟨rfl, hpw⟩ := hv
  have hsz := hpw.1
  subst hsz
  obtain ⟨F, B⟩ := hpw.to
  have hx := B0.exec
  have hb := B0.bytes
  have hr := B0.returns
  have hts := atoms_spec (ws := wsX7_hasBond) B0.pre
  have hown : s.vm.findClass RX7 = some m.cls := findClass_of_methodNamed B0.named
  have hlocks := B0.notSynchronized
  have S : CallFix p m c cX7_hasBond 1 s _ wsX7_hasBond RX7 := ⟨hx, hb, hml, hown, hts⟩
  have hiX7 : ∀ w ∈ u_ws RX7 TX7 8, w ∈ wsX7_hasBond := by decide +kernel
  have hl := lv_entry [.ref (G.2.2 i)] (n := 1) (Nat.le_of_ble_eq_true rfl)
  rw [lg_entry_eq]
  generalize (lg_sl [.ref (G.2.2 i)] ++ List.replicate (1 - (lg_sl [.ref (G.2.2 i)]).length) Slot.unset).toArray = ls at hl ⊢
  have hl : lv_has ls 1 [(0, .ref (G.2.2 i))] := hl
  unfold f_X7_hasBond at ho
  refine lv_aload_n hx hb dX7_hasBond_0 rfl (lv_at hl 0 rfl) ?_
  refine r_get (ci := 11) (C := RX7) (T := TX7) (N := 8) S F B hi9 rfl rfl hiX7 4 (by decide) (by decide +kernel) rfl dX7_hasBond_1 ?_
  refine lv_iconst (v := (-1)) hx hb dX7_hasBond_4 (by decide) ?_
  refine lv_icmp_eq (tgt := 12) hx hb dX7_hasBond_5 (by decide) (fun c1 => ?_) (fun c1 => ?_)
  · have ho := ip_ c1 ho
    refine lv_iconst (v := 0) hx hb dX7_hasBond_12 (by decide) ?_
    cases ho
    exact e_i B hx hb hr hlocks rfl rfl dX7_hasBond_13
  · have ho := in_ c1 ho
    refine lv_iconst (v := 1) hx hb dX7_hasBond_8 (by decide) ?_
    refine lv_goto (tgt := 13) hx hb dX7_hasBond_9 (by decide) ?_
    cases ho
    exact e_i B hx hb hr hlocks rfl rfl dX7_hasBond_13

set_option maxHeartbeats 4000000 in
set_option maxRecDepth 100000 in
theorem c_X7_endBond (l : Launch) (G : Gd) (σ : Mm) (sz : Nat) (i : Nat) (hi9 : kd i = 6 ∧ i < NN) {out : Mm} (ho : f_X7_endBond i σ = some out) : Met l yX7_endBond wsX7_endBond { frames := 0, cells := 0, slots := 0, locals := 0 } (va_Pc [.ref (G.2.2 i)] (PW G σ sz)) (Qv G sz out) 0 0 (AA G sz) := by
  refine Met.ofW (cc := cX7_endBond) (maxL := 1) (ret := none) (by decide) rfl ?_
  intro p e s m args below meth c s₁ B0 hml hv
  obtain ⟨rfl, hpw⟩ := hv
  have hsz := hpw.1
  subst hsz
  obtain ⟨F, B⟩ := hpw.to
  have hx := B0.exec
  have hb := B0.bytes
  have hr := B0.returns
  have hts := atoms_spec (ws := wsX7_endBond) B0.pre
  have hown : s.vm.findClass RX7 = some m.cls := findClass_of_methodNamed B0.named
  have hlocks := B0.notSynchronized
  have S : CallFix p m c cX7_endBond 1 s _ wsX7_endBond RX7 := ⟨hx, hb, hml, hown, hts⟩
  have hiX7 : ∀ w ∈ u_ws RX7 TX7 8, w ∈ wsX7_endBond := by decide +kernel
  have hl := lv_entry [.ref (G.2.2 i)] (n := 1) (Nat.le_of_ble_eq_true rfl)
  rw [lg_entry_eq]
  generalize (lg_sl [.ref (G.2.2 i)] ++ List.replicate (1 - (lg_sl [.ref (G.2.2 i)]).length) Slot.unset).toArray = ls at hl ⊢
  have hl : lv_has ls 1 [(0, .ref (G.2.2 i))] := hl
  unfold f_X7_endBond at ho
  refine lv_aload_n hx hb dX7_endBond_0 rfl (lv_at hl 0 rfl) ?_
  refine lv_iconst (v := (-1)) hx hb dX7_endBond_1 (by decide) ?_
  refine r_put (ci := 11) (C := RX7) (T := TX7) (N := 8) (ty := .int) S F B tyX7 tyX7_ok nmX7 hi9 (fun _ => rfl) rfl hiX7 4 (by decide) (by decide +kernel) rfl rfl rfl rfl (fun _ => Nat.le_of_ble_eq_true rfl) (fun _ => rfl) dX7_endBond_2 (fun H locs B => ?_)
  obtain ⟨σ1, eσ1, ho⟩ := lt_ ho
  rw [← eσ1] at B
  refine lv_aload_n hx hb dX7_endBond_5 rfl (lv_at hl 0 rfl) ?_
  refine lv_iconst (v := 0) hx hb dX7_endBond_6 (by decide) ?_
  refine r_put (ci := 11) (C := RX7) (T := TX7) (N := 8) (ty := .int) S F B tyX7 tyX7_ok nmX7 hi9 (fun _ => rfl) rfl hiX7 5 (by decide) (by decide +kernel) rfl rfl rfl rfl (fun _ => Nat.le_of_ble_eq_true rfl) (fun _ => rfl) dX7_endBond_7 (fun H locs B => ?_)
  obtain ⟨σ2, eσ2, ho⟩ := lt_ ho
  rw [← eσ2] at B
  refine lv_aload_n hx hb dX7_endBond_10 rfl (lv_at hl 0 rfl) ?_
  refine lv_iconst (v := 0) hx hb dX7_endBond_11 (by decide) ?_
  refine r_put (ci := 11) (C := RX7) (T := TX7) (N := 8) (ty := .boolean) S F B tyX7 tyX7_ok nmX7 hi9 (fun _ => rfl) rfl hiX7 6 (by decide) (by decide +kernel) rfl rfl rfl rfl (fun _ => Nat.le_of_ble_eq_true rfl) (fun _ => rfl) dX7_endBond_12 (fun H locs B => ?_)
  obtain ⟨σ3, eσ3, ho⟩ := lt_ ho
  rw [← eσ3] at B
  cases ho
  exact e_v B hx hb hr hlocks dX7_endBond_15

set_option maxHeartbeats 4000000 in
set_option maxRecDepth 100000 in
theorem c_X7_takeBond (l : Launch) (G : Gd) (σ : Mm) (sz : Nat) (i : Nat) (a0 : Int32) (a1 : Int32) (hi9 : kd i = 6 ∧ i < NN) {out : Mm} (ho : f_X7_takeBond i a0 a1 σ = some out) : Met l yX7_takeBond wsX7_takeBond { frames := 0, cells := 0, slots := 0, locals := 0 } (va_Pc [.ref (G.2.2 i), .int a0, .int a1] (PW G σ sz)) (Qv G sz out) 0 0 (AA G sz) := by
  refine Met.ofW (cc := cX7_takeBond) (maxL := 3) (ret := none) (by decide) rfl ?_
  intro p e s m args below meth c s₁ B0 hml hv
  obtain ⟨rfl, hpw⟩ := hv
  have hsz := hpw.1
  subst hsz
  obtain ⟨F, B⟩ := hpw.to
  have hx := B0.exec
  have hb := B0.bytes
  have hr := B0.returns
  have hts := atoms_spec (ws := wsX7_takeBond) B0.pre
  have hown : s.vm.findClass RX7 = some m.cls := findClass_of_methodNamed B0.named
  have hlocks := B0.notSynchronized
  have S : CallFix p m c cX7_takeBond 3 s _ wsX7_takeBond RX7 := ⟨hx, hb, hml, hown, hts⟩
  have hiX7 : ∀ w ∈ u_ws RX7 TX7 8, w ∈ wsX7_takeBond := by decide +kernel
  have hl := lv_entry [.ref (G.2.2 i), .int a0, .int a1] (n := 3) (Nat.le_of_ble_eq_true rfl)
  rw [lg_entry_eq]
  generalize (lg_sl [.ref (G.2.2 i), .int a0, .int a1] ++ List.replicate (3 - (lg_sl [.ref (G.2.2 i), .int a0, .int a1]).length) Slot.unset).toArray = ls at hl ⊢
  have hl : lv_has ls 3 [(0, .ref (G.2.2 i)), (1, .int a0), (2, .int a1)] := hl
  unfold f_X7_takeBond at ho
  refine lv_aload_n hx hb dX7_takeBond_0 rfl (lv_at hl 0 rfl) ?_
  refine lv_iload_n hx hb dX7_takeBond_1 rfl (lv_at hl 1 rfl) ?_
  refine r_put (ci := 11) (C := RX7) (T := TX7) (N := 8) (ty := .int) S F B tyX7 tyX7_ok nmX7 hi9 (fun _ => rfl) rfl hiX7 4 (by decide) (by decide +kernel) rfl rfl rfl rfl (fun _ => Nat.le_of_ble_eq_true rfl) (fun _ => rfl) dX7_takeBond_2 (fun H locs B => ?_)
  obtain ⟨σ1, eσ1, ho⟩ := lt_ ho
  rw [← eσ1] at B
  refine lv_aload_n hx hb dX7_takeBond_5 rfl (lv_at hl 0 rfl) ?_
  refine lv_iload_n hx hb dX7_takeBond_6 rfl (lv_at hl 2 rfl) ?_
  refine r_put (ci := 11) (C := RX7) (T := TX7) (N := 8) (ty := .int) S F B tyX7 tyX7_ok nmX7 hi9 (fun _ => rfl) rfl hiX7 5 (by decide) (by decide +kernel) rfl rfl rfl rfl (fun _ => Nat.le_of_ble_eq_true rfl) (fun _ => rfl) dX7_takeBond_7 (fun H locs B => ?_)
  obtain ⟨σ2, eσ2, ho⟩ := lt_ ho
  rw [← eσ2] at B
  refine lv_aload_n hx hb dX7_takeBond_10 rfl (lv_at hl 0 rfl) ?_
  refine lv_iconst (v := 0) hx hb dX7_takeBond_11 (by decide) ?_
  refine r_put (ci := 11) (C := RX7) (T := TX7) (N := 8) (ty := .boolean) S F B tyX7 tyX7_ok nmX7 hi9 (fun _ => rfl) rfl hiX7 6 (by decide) (by decide +kernel) rfl rfl rfl rfl (fun _ => Nat.le_of_ble_eq_true rfl) (fun _ => rfl) dX7_takeBond_12 (fun H locs B => ?_)
  obtain ⟨σ3, eσ3, ho⟩ := lt_ ho
  rw [← eσ3] at B
  cases ho
  exact e_v B hx hb hr hlocks dX7_takeBond_15

set_option maxHeartbeats 4000000 in
set_option maxRecDepth 100000 in
theorem c_X7_meetMinotaur (l : Launch) (G : Gd) (σ : Mm) (sz : Nat) (i : Nat) (hi9 : kd i = 6 ∧ i < NN) {out : Mm} (ho : f_X7_meetMinotaur i σ = some out) : Met l yX7_meetMinotaur wsX7_meetMinotaur { frames := 1, cells := 0, slots := 0, locals := 20 } (va_Pc [.ref (G.2.2 i)] (PW G σ sz)) (Qv G sz out) 0 0 (AA G sz) := by
  refine Met.ofW (cc := cX7_meetMinotaur) (maxL := 1) (ret := none) (by decide) rfl ?_
  intro p e s m args below meth c s₁ B0 hml hv
  obtain ⟨rfl, hpw⟩ := hv
  have hsz := hpw.1
  subst hsz
  obtain ⟨F, B⟩ := hpw.to
  have hx := B0.exec
  have hb := B0.bytes
  have hr := B0.returns
  have hts := atoms_spec (ws := wsX7_meetMinotaur) B0.pre
  have hown : s.vm.findClass RX7 = some m.cls := findClass_of_methodNamed B0.named
  have hlocks := B0.notSynchronized
  have S : CallFix p m c cX7_meetMinotaur 1 s _ wsX7_meetMinotaur RX7 := ⟨hx, hb, hml, hown, hts⟩
  have hiX7 : ∀ w ∈ u_ws RX7 TX7 8, w ∈ wsX7_meetMinotaur := by decide +kernel
  have hl := lv_entry [.ref (G.2.2 i)] (n := 1) (Nat.le_of_ble_eq_true rfl)
  rw [lg_entry_eq]
  generalize (lg_sl [.ref (G.2.2 i)] ++ List.replicate (1 - (lg_sl [.ref (G.2.2 i)]).length) Slot.unset).toArray = ls at hl ⊢
  have hl : lv_has ls 1 [(0, .ref (G.2.2 i))] := hl
  unfold f_X7_meetMinotaur at ho
  refine lv_aload_n hx hb dX7_meetMinotaur_0 rfl (lv_at hl 0 rfl) ?_
  refine lv_aload_n hx hb dX7_meetMinotaur_1 rfl (lv_at hl 0 rfl) ?_
  obtain ⟨q1, hq1, ho⟩ := bnd_ ho
  refine k_iV (As := []) (rest := [.ref (G.2.2 i)]) S F B (c_X7_hasBond l G σ _ i hi9 hq1) hi9 rfl rfl (cwV 0 hts gX7_meetMinotaur_X7_hasBond rfl rfl rfl (by decide +kernel) ⟨Nat.le_of_ble_eq_true rfl, Nat.le_of_ble_eq_true rfl⟩) rfl hl.1 rfl (Nat.le_of_ble_eq_true rfl) dX7_meetMinotaur_2 ⟨Nat.le_of_ble_eq_true rfl, Nat.le_of_ble_eq_true rfl⟩ (fun H locs B => ?_)
  obtain ⟨hz, ho⟩ := bz_ ho
  refine r_put (ci := 11) (C := RX7) (T := TX7) (N := 8) (ty := .boolean) S F B tyX7 tyX7_ok nmX7 hi9 (fun _ => rfl) rfl hiX7 6 (by decide) (by decide +kernel) rfl rfl hz (fz_ hz) (fun _ => Nat.le_of_ble_eq_true rfl) (fun _ => rfl) dX7_meetMinotaur_5 (fun H locs B => ?_)
  obtain ⟨σ2, eσ2, ho⟩ := lt_ ho
  rw [← eσ2] at B
  cases ho
  exact e_v B hx hb hr hlocks dX7_meetMinotaur_8

set_option maxHeartbeats 4000000 in
set_option maxRecDepth 100000 in
theorem c_X7_isIn (l : Launch) (G : Gd) (σ : Mm) (sz : Nat) (i : Nat) (a0 : Int32) (hi9 : kd i = 6 ∧ i < NN) {out : Int32} (ho : f_X7_isIn i a0 σ = some out) : Met l yX7_isIn wsX7_isIn { frames := 0, cells := 0, slots := 0, locals := 0 } (va_Pc [.ref (G.2.2 i), .int a0] (PW G σ sz)) (Qi G sz out σ) 0 0 (AA G sz) := by
  refine Met.ofW (cc := cX7_isIn) (maxL := 2) (ret := (some .boolean)) (by decide) rfl ?_
  intro p e s m args below meth c s₁ B0 hml hv
  obtain ⟨rfl, hpw⟩ := hv
  have hsz := hpw.1
  subst hsz
  obtain ⟨F, B⟩ := hpw.to
  have hx := B0.exec
  have hb := B0.bytes
  have hr := B0.returns
  have hts := atoms_spec (ws := wsX7_isIn) B0.pre
  have hown : s.vm.findClass RX7 = some m.cls := findClass_of_methodNamed B0.named
  have hlocks := B0.notSynchronized
  have S : CallFix p m c cX7_isIn 2 s _ wsX7_isIn RX7 := ⟨hx, hb, hml, hown, hts⟩
  have hiX7 : ∀ w ∈ u_ws RX7 TX7 8, w ∈ wsX7_isIn := by decide +kernel
  have hl := lv_entry [.ref (G.2.2 i), .int a0] (n := 2) (Nat.le_of_ble_eq_true rfl)
  rw [lg_entry_eq]
  generalize (lg_sl [.ref (G.2.2 i), .int a0] ++ List.replicate (2 - (lg_sl [.ref (G.2.2 i), .int a0]).length) Slot.unset).toArray = ls at hl ⊢
  have hl : lv_has ls 2 [(0, .ref (G.2.2 i)), (1, .int a0)] := hl
  unfold f_X7_isIn at ho
  refine lv_aload_n hx hb dX7_isIn_0 rfl (lv_at hl 0 rfl) ?_
  refine r_get (ci := 11) (C := RX7) (T := TX7) (N := 8) S F B hi9 rfl rfl hiX7 7 (by decide) (by decide +kernel) rfl dX7_isIn_1 ?_
  refine lv_if_ne (tgt := 19) hx hb dX7_isIn_4 (by decide) (fun c1 => ?_) (fun c1 => ?_)
  · have ho := in_ c1 ho
    refine lv_iconst (v := 0) hx hb dX7_isIn_19 (by decide) ?_
    cases ho
    exact e_i B hx hb hr hlocks rfl rfl dX7_isIn_20
  · have ho := ip_ c1 ho
    refine lv_aload_n hx hb dX7_isIn_7 rfl (lv_at hl 0 rfl) ?_
    refine r_get (ci := 11) (C := RX7) (T := TX7) (N := 8) S F B hi9 rfl rfl hiX7 1 (by decide) (by decide +kernel) rfl dX7_isIn_8 ?_
    refine lv_iload_n hx hb dX7_isIn_11 rfl (lv_at hl 1 rfl) ?_
    refine lv_icmp_ne (tgt := 19) hx hb dX7_isIn_12 (by decide) (fun c2 => ?_) (fun c2 => ?_)
    · have ho := in_ c2 ho
      refine lv_iconst (v := 0) hx hb dX7_isIn_19 (by decide) ?_
      cases ho
      exact e_i B hx hb hr hlocks rfl rfl dX7_isIn_20
    · have ho := ip_ c2 ho
      refine lv_iconst (v := 1) hx hb dX7_isIn_15 (by decide) ?_
      refine lv_goto (tgt := 20) hx hb dX7_isIn_16 (by decide) ?_
      cases ho
      exact e_i B hx hb hr hlocks rfl rfl dX7_isIn_20

set_option maxHeartbeats 4000000 in
set_option maxRecDepth 100000 in
theorem c_X7_lostAfter (l : Launch) (G : Gd) (σ : Mm) (sz : Nat) (i : Nat) (a0 : Int32) (hi9 : kd i = 6 ∧ i < NN) {out : Int32} (ho : f_X7_lostAfter i a0 σ = some out) : Met l yX7_lostAfter wsX7_lostAfter { frames := 1, cells := 0, slots := 0, locals := 32 } (va_Pc [.ref (G.2.2 i), .int a0] (PW G σ sz)) (Qi G sz out σ) 0 0 (AA G sz) := by
  refine Met.ofW (cc := cX7_lostAfter) (maxL := 2) (ret := (some .int)) (by decide) rfl ?_
  intro p e s m args below meth c s₁ B0 hml hv
  obtain ⟨rfl, hpw⟩ := hv
  have hsz := hpw.1
  subst hsz
  obtain ⟨F, B⟩ := hpw.to
  have hx := B0.exec
  have hb := B0.bytes
  have hr := B0.returns
  have hts := atoms_spec (ws := wsX7_lostAfter) B0.pre
  have hown : s.vm.findClass RX7 = some m.cls := findClass_of_methodNamed B0.named
  have hlocks := B0.notSynchronized
  have S : CallFix p m c cX7_lostAfter 2 s _ wsX7_lostAfter RX7 := ⟨hx, hb, hml, hown, hts⟩
  have hiX7 : ∀ w ∈ u_ws RX7 TX7 8, w ∈ wsX7_lostAfter := by decide +kernel
  have hl := lv_entry [.ref (G.2.2 i), .int a0] (n := 2) (Nat.le_of_ble_eq_true rfl)
  rw [lg_entry_eq]
  generalize (lg_sl [.ref (G.2.2 i), .int a0] ++ List.replicate (2 - (lg_sl [.ref (G.2.2 i), .int a0]).length) Slot.unset).toArray = ls at hl ⊢
  have hl : lv_has ls 2 [(0, .ref (G.2.2 i)), (1, .int a0)] := hl
  unfold f_X7_lostAfter at ho
  refine lv_iconst (v := 0) hx hb dX7_lostAfter_0 (by decide) ?_
  refine lv_aload_n hx hb dX7_lostAfter_1 rfl (lv_at hl 0 rfl) ?_
  refine r_get (ci := 11) (C := RX7) (T := TX7) (N := 8) S F B hi9 rfl rfl hiX7 2 (by decide) (by decide +kernel) rfl dX7_lostAfter_2 ?_
  refine lv_iload_n hx hb dX7_lostAfter_5 rfl (lv_at hl 1 rfl) ?_
  refine lv_iadd hx hb dX7_lostAfter_6 ?_
  refine lv_aload_n hx hb dX7_lostAfter_7 rfl (lv_at hl 0 rfl) ?_
  refine r_get (ci := 11) (C := RX7) (T := TX7) (N := 8) S F B hi9 rfl rfl hiX7 3 (by decide) (by decide +kernel) rfl dX7_lostAfter_8 ?_
  refine lv_isub hx hb dX7_lostAfter_11 ?_
  refine va_mmax hx hb (hml.trans hl.1.symm) hown (hts _ (by decide +kernel)) (hts _ (by decide +kernel)) (hts _ (by decide +kernel)) (hts _ (by decide +kernel)) (Nat.le_of_ble_eq_true rfl) (Nat.le_of_ble_eq_true rfl) (Nat.le_of_ble_eq_true rfl) (Nat.le_of_ble_eq_true rfl) dX7_lostAfter_12 ?_
  cases ho
  exact e_i B hx hb hr hlocks rfl rfl dX7_lostAfter_15

set_option maxHeartbeats 4000000 in
set_option maxRecDepth 100000 in
theorem c_X7_dueAfter (l : Launch) (G : Gd) (σ : Mm) (sz : Nat) (i : Nat) (a0 : Int32) (hi9 : kd i = 6 ∧ i < NN) {out : Int32} (ho : f_X7_dueAfter i a0 σ = some out) : Met l yX7_dueAfter wsX7_dueAfter { frames := 2, cells := 0, slots := 0, locals := 53 } (va_Pc [.ref (G.2.2 i), .int a0] (PW G σ sz)) (Qi G sz out σ) 0 0 (AA G sz) := by
  refine Met.ofW (cc := cX7_dueAfter) (maxL := 2) (ret := (some .int)) (by decide) rfl ?_
  intro p e s m args below meth c s₁ B0 hml hv
  obtain ⟨rfl, hpw⟩ := hv
  have hsz := hpw.1
  subst hsz
  obtain ⟨F, B⟩ := hpw.to
  have hx := B0.exec
  have hb := B0.bytes
  have hr := B0.returns
  have hts := atoms_spec (ws := wsX7_dueAfter) B0.pre
  have hown : s.vm.findClass RX7 = some m.cls := findClass_of_methodNamed B0.named
  have hlocks := B0.notSynchronized
  have S : CallFix p m c cX7_dueAfter 2 s _ wsX7_dueAfter RX7 := ⟨hx, hb, hml, hown, hts⟩
  have hiX7 : ∀ w ∈ u_ws RX7 TX7 8, w ∈ wsX7_dueAfter := by decide +kernel
  have hl := lv_entry [.ref (G.2.2 i), .int a0] (n := 2) (Nat.le_of_ble_eq_true rfl)
  rw [lg_entry_eq]
  generalize (lg_sl [.ref (G.2.2 i), .int a0] ++ List.replicate (2 - (lg_sl [.ref (G.2.2 i), .int a0]).length) Slot.unset).toArray = ls at hl ⊢
  have hl : lv_has ls 2 [(0, .ref (G.2.2 i)), (1, .int a0)] := hl
  unfold f_X7_dueAfter at ho
  refine lv_aload_n hx hb dX7_dueAfter_0 rfl (lv_at hl 0 rfl) ?_
  refine r_get (ci := 11) (C := RX7) (T := TX7) (N := 8) S F B hi9 rfl rfl hiX7 6 (by decide) (by decide +kernel) rfl dX7_dueAfter_1 ?_
  refine lv_if_eq (tgt := 11) hx hb dX7_dueAfter_4 (by decide) (fun c1 => ?_) (fun c1 => ?_)
  · have ho := ip_ c1 ho
    refine lv_aload_n hx hb dX7_dueAfter_11 rfl (lv_at hl 0 rfl) ?_
    refine r_get (ci := 11) (C := RX7) (T := TX7) (N := 8) S F B hi9 rfl rfl hiX7 5 (by decide) (by decide +kernel) rfl dX7_dueAfter_12 ?_
    refine lv_aload_n hx hb dX7_dueAfter_15 rfl (lv_at hl 0 rfl) ?_
    refine lv_iload_n hx hb dX7_dueAfter_16 rfl (lv_at hl 1 rfl) ?_
    obtain ⟨q2, hq2, ho⟩ := bnd_ ho
    refine k_iV (As := [.int a0]) (rest := [.int (σ i 5)]) S F B (c_X7_lostAfter l G σ _ i a0 hi9 hq2) hi9 rfl rfl (cwV 1 hts gX7_dueAfter_X7_lostAfter rfl rfl rfl (by decide +kernel) ⟨Nat.le_of_ble_eq_true rfl, Nat.le_of_ble_eq_true rfl⟩) rfl hl.1 rfl (Nat.le_of_ble_eq_true rfl) dX7_dueAfter_17 ⟨Nat.le_of_ble_eq_true rfl, Nat.le_of_ble_eq_true rfl⟩ (fun H locs B => ?_)
    refine lv_imul hx hb dX7_dueAfter_20 ?_
    cases ho
    exact e_i B hx hb hr hlocks rfl rfl dX7_dueAfter_21
  · have ho := in_ c1 ho
    refine lv_iconst (v := 0) hx hb dX7_dueAfter_7 (by decide) ?_
    refine lv_goto (tgt := 21) hx hb dX7_dueAfter_8 (by decide) ?_
    cases ho
    exact e_i B hx hb hr hlocks rfl rfl dX7_dueAfter_21

set_option maxHeartbeats 4000000 in
set_option maxRecDepth 100000 in
theorem c_X7_numberFor (l : Launch) (G : Gd) (σ : Mm) (sz : Nat) (i : Nat) (a0 : Int32) (hi9 : kd i = 6 ∧ i < NN) {out : Int32} (ho : f_X7_numberFor i a0 σ = some out) : Met l yX7_numberFor wsX7_numberFor { frames := 2, cells := 0, slots := 0, locals := 53 } (va_Pc [.ref (G.2.2 i), .int a0] (PW G σ sz)) (Qi G sz out σ) 0 0 (AA G sz) := by
  refine Met.ofW (cc := cX7_numberFor) (maxL := 2) (ret := (some .int)) (by decide) rfl ?_
  intro p e s m args below meth c s₁ B0 hml hv
  obtain ⟨rfl, hpw⟩ := hv
  have hsz := hpw.1
  subst hsz
  obtain ⟨F, B⟩ := hpw.to
  have hx := B0.exec
  have hb := B0.bytes
  have hr := B0.returns
  have hts := atoms_spec (ws := wsX7_numberFor) B0.pre
  have hown : s.vm.findClass RX7 = some m.cls := findClass_of_methodNamed B0.named
  have hlocks := B0.notSynchronized
  have S : CallFix p m c cX7_numberFor 2 s _ wsX7_numberFor RX7 := ⟨hx, hb, hml, hown, hts⟩
  have hiX7 : ∀ w ∈ u_ws RX7 TX7 8, w ∈ wsX7_numberFor := by decide +kernel
  have hl := lv_entry [.ref (G.2.2 i), .int a0] (n := 2) (Nat.le_of_ble_eq_true rfl)
  rw [lg_entry_eq]
  generalize (lg_sl [.ref (G.2.2 i), .int a0] ++ List.replicate (2 - (lg_sl [.ref (G.2.2 i), .int a0]).length) Slot.unset).toArray = ls at hl ⊢
  have hl : lv_has ls 2 [(0, .ref (G.2.2 i)), (1, .int a0)] := hl
  unfold f_X7_numberFor at ho
  refine lv_iload_n hx hb dX7_numberFor_0 rfl (lv_at hl 1 rfl) ?_
  by_cases c1 : a0 = 0
  · have ho := ip_ c1 ho
    refine lv_tableIn (off := 47) (tgt := 48) hx hb dX7_numberFor_1 (by rw [c1]; decide) (by rw [c1]; decide) (by rw [c1]; rfl) (by decide) ?_
    refine lv_aload_n hx hb dX7_numberFor_48 rfl (lv_at hl 0 rfl) ?_
    refine r_get (ci := 11) (C := RX7) (T := TX7) (N := 8) S F B hi9 rfl rfl hiX7 0 (by decide) (by decide +kernel) rfl dX7_numberFor_49 ?_
    cases ho
    exact e_i B hx hb hr hlocks rfl rfl dX7_numberFor_52
  · have ho := in_ c1 ho
    by_cases c2 : a0 = 1
    · have ho := ip_ c2 ho
      refine lv_tableIn (off := 52) (tgt := 53) hx hb dX7_numberFor_1 (by rw [c2]; decide) (by rw [c2]; decide) (by rw [c2]; rfl) (by decide) ?_
      refine lv_aload_n hx hb dX7_numberFor_53 rfl (lv_at hl 0 rfl) ?_
      refine r_get (ci := 11) (C := RX7) (T := TX7) (N := 8) S F B hi9 rfl rfl hiX7 1 (by decide) (by decide +kernel) rfl dX7_numberFor_54 ?_
      cases ho
      exact e_i B hx hb hr hlocks rfl rfl dX7_numberFor_57
    · have ho := in_ c2 ho
      by_cases c3 : a0 = 2
      · have ho := ip_ c3 ho
        refine lv_tableIn (off := 57) (tgt := 58) hx hb dX7_numberFor_1 (by rw [c3]; decide) (by rw [c3]; decide) (by rw [c3]; rfl) (by decide) ?_
        refine lv_aload_n hx hb dX7_numberFor_58 rfl (lv_at hl 0 rfl) ?_
        refine r_get (ci := 11) (C := RX7) (T := TX7) (N := 8) S F B hi9 rfl rfl hiX7 2 (by decide) (by decide +kernel) rfl dX7_numberFor_59 ?_
        cases ho
        exact e_i B hx hb hr hlocks rfl rfl dX7_numberFor_62
      · have ho := in_ c3 ho
        by_cases c4 : a0 = 3
        · have ho := ip_ c4 ho
          refine lv_tableIn (off := 62) (tgt := 63) hx hb dX7_numberFor_1 (by rw [c4]; decide) (by rw [c4]; decide) (by rw [c4]; rfl) (by decide) ?_
          refine lv_aload_n hx hb dX7_numberFor_63 rfl (lv_at hl 0 rfl) ?_
          refine r_get (ci := 11) (C := RX7) (T := TX7) (N := 8) S F B hi9 rfl rfl hiX7 3 (by decide) (by decide +kernel) rfl dX7_numberFor_64 ?_
          cases ho
          exact e_i B hx hb hr hlocks rfl rfl dX7_numberFor_67
        · have ho := in_ c4 ho
          by_cases c5 : a0 = 4
          · have ho := ip_ c5 ho
            refine lv_tableIn (off := 67) (tgt := 68) hx hb dX7_numberFor_1 (by rw [c5]; decide) (by rw [c5]; decide) (by rw [c5]; rfl) (by decide) ?_
            refine lv_aload_n hx hb dX7_numberFor_68 rfl (lv_at hl 0 rfl) ?_
            refine lv_iconst (v := 0) hx hb dX7_numberFor_69 (by decide) ?_
            obtain ⟨q6, hq6, ho⟩ := bnd_ ho
            refine k_iV (As := [.int 0]) (rest := []) S F B (c_X7_lostAfter l G σ _ i 0 hi9 hq6) hi9 rfl rfl (cwV 1 hts gX7_numberFor_X7_lostAfter rfl rfl rfl (by decide +kernel) ⟨Nat.le_of_ble_eq_true rfl, Nat.le_of_ble_eq_true rfl⟩) rfl hl.1 rfl (Nat.le_of_ble_eq_true rfl) dX7_numberFor_70 ⟨Nat.le_of_ble_eq_true rfl, Nat.le_of_ble_eq_true rfl⟩ (fun H locs B => ?_)
            cases ho
            exact e_i B hx hb hr hlocks rfl rfl dX7_numberFor_73
          · have ho := in_ c5 ho
            by_cases c7 : a0 = 5
            · have ho := ip_ c7 ho
              refine lv_tableIn (off := 73) (tgt := 74) hx hb dX7_numberFor_1 (by rw [c7]; decide) (by rw [c7]; decide) (by rw [c7]; rfl) (by decide) ?_
              refine lv_aload_n hx hb dX7_numberFor_74 rfl (lv_at hl 0 rfl) ?_
              refine r_get (ci := 11) (C := RX7) (T := TX7) (N := 8) S F B hi9 rfl rfl hiX7 4 (by decide) (by decide +kernel) rfl dX7_numberFor_75 ?_
              cases ho
              exact e_i B hx hb hr hlocks rfl rfl dX7_numberFor_78
            · have ho := in_ c7 ho
              by_cases c8 : a0 = 6
              · have ho := ip_ c8 ho
                refine lv_tableIn (off := 78) (tgt := 79) hx hb dX7_numberFor_1 (by rw [c8]; decide) (by rw [c8]; decide) (by rw [c8]; rfl) (by decide) ?_
                refine lv_aload_n hx hb dX7_numberFor_79 rfl (lv_at hl 0 rfl) ?_
                refine r_get (ci := 11) (C := RX7) (T := TX7) (N := 8) S F B hi9 rfl rfl hiX7 5 (by decide) (by decide +kernel) rfl dX7_numberFor_80 ?_
                cases ho
                exact e_i B hx hb hr hlocks rfl rfl dX7_numberFor_83
              · have ho := in_ c8 ho
                by_cases c9 : a0 = 7
                · have ho := ip_ c9 ho
                  refine lv_tableIn (off := 83) (tgt := 84) hx hb dX7_numberFor_1 (by rw [c9]; decide) (by rw [c9]; decide) (by rw [c9]; rfl) (by decide) ?_
                  refine lv_aload_n hx hb dX7_numberFor_84 rfl (lv_at hl 0 rfl) ?_
                  refine r_get (ci := 11) (C := RX7) (T := TX7) (N := 8) S F B hi9 rfl rfl hiX7 6 (by decide) (by decide +kernel) rfl dX7_numberFor_85 ?_
                  refine lv_if_eq (tgt := 95) hx hb dX7_numberFor_88 (by decide) (fun c10 => ?_) (fun c10 => ?_)
                  · have ho := ip_ c10 ho
                    refine lv_iconst (v := 0) hx hb dX7_numberFor_95 (by decide) ?_
                    cases ho
                    exact e_i B hx hb hr hlocks rfl rfl dX7_numberFor_96
                  · have ho := in_ c10 ho
                    refine lv_iconst (v := 1) hx hb dX7_numberFor_91 (by decide) ?_
                    refine lv_goto (tgt := 96) hx hb dX7_numberFor_92 (by decide) ?_
                    cases ho
                    exact e_i B hx hb hr hlocks rfl rfl dX7_numberFor_96
                · have ho := in_ c9 ho
                  refine t_tableD (tgt := 97) hx hb dX7_numberFor_1 rfl (fun j hj => ?_) (by decide) ?_
                  · have hj : j < 8 := hj
                    rcases (show j = 0 ∨ j = 1 ∨ j = 2 ∨ j = 3 ∨ j = 4 ∨ j = 5 ∨ j = 6 ∨ j = 7 by omega) with rfl | rfl | rfl | rfl | rfl | rfl | rfl | rfl
                    · exact Or.inr (lv_neT c1 (by decide))
                    · exact Or.inr (lv_neT c2 (by decide))
                    · exact Or.inr (lv_neT c3 (by decide))
                    · exact Or.inr (lv_neT c4 (by decide))
                    · exact Or.inr (lv_neT c5 (by decide))
                    · exact Or.inr (lv_neT c7 (by decide))
                    · exact Or.inr (lv_neT c8 (by decide))
                    · exact Or.inr (lv_neT c9 (by decide))
                  · refine lv_aload_n hx hb dX7_numberFor_97 rfl (lv_at hl 0 rfl) ?_
                    refine r_get (ci := 11) (C := RX7) (T := TX7) (N := 8) S F B hi9 rfl rfl hiX7 7 (by decide) (by decide +kernel) rfl dX7_numberFor_98 ?_
                    refine lv_if_eq (tgt := 108) hx hb dX7_numberFor_101 (by decide) (fun c11 => ?_) (fun c11 => ?_)
                    · have ho := ip_ c11 ho
                      refine lv_iconst (v := 0) hx hb dX7_numberFor_108 (by decide) ?_
                      cases ho
                      exact e_i B hx hb hr hlocks rfl rfl dX7_numberFor_109
                    · have ho := in_ c11 ho
                      refine lv_iconst (v := 1) hx hb dX7_numberFor_104 (by decide) ?_
                      refine lv_goto (tgt := 109) hx hb dX7_numberFor_105 (by decide) ?_
                      cases ho
                      exact e_i B hx hb hr hlocks rfl rfl dX7_numberFor_109

set_option maxHeartbeats 4000000 in
set_option maxRecDepth 100000 in
theorem c_X7_arrive (l : Launch) (G : Gd) (σ : Mm) (sz : Nat) (i : Nat) (a0 : Int32) (a1 : Int32) (hi9 : kd i = 6 ∧ i < NN) {out : Mm} (ho : f_X7_arrive i a0 a1 σ = some out) : Met l yX7_arrive wsX7_arrive { frames := 1, cells := 0, slots := 0, locals := 20 } (va_Pc [.ref (G.2.2 i), .int a0, .int a1] (PW G σ sz)) (Qv G sz out) 0 0 (AA G sz) := by
  refine Met.ofW (cc := cX7_arrive) (maxL := 3) (ret := none) (by decide) rfl ?_
  intro p e s m args below meth c s₁ B0 hml hv
  obtain ⟨rfl, hpw⟩ := hv
  have hsz := hpw.1
  subst hsz
  obtain ⟨F, B⟩ := hpw.to
  have hx := B0.exec
  have hb := B0.bytes
  have hr := B0.returns
  have hts := atoms_spec (ws := wsX7_arrive) B0.pre
  have hown : s.vm.findClass RX7 = some m.cls := findClass_of_methodNamed B0.named
  have hlocks := B0.notSynchronized
  have S : CallFix p m c cX7_arrive 3 s _ wsX7_arrive RX7 := ⟨hx, hb, hml, hown, hts⟩
  have hiX7 : ∀ w ∈ u_ws RX7 TX7 8, w ∈ wsX7_arrive := by decide +kernel
  have hl := lv_entry [.ref (G.2.2 i), .int a0, .int a1] (n := 3) (Nat.le_of_ble_eq_true rfl)
  rw [lg_entry_eq]
  generalize (lg_sl [.ref (G.2.2 i), .int a0, .int a1] ++ List.replicate (3 - (lg_sl [.ref (G.2.2 i), .int a0, .int a1]).length) Slot.unset).toArray = ls at hl ⊢
  have hl : lv_has ls 3 [(0, .ref (G.2.2 i)), (1, .int a0), (2, .int a1)] := hl
  unfold f_X7_arrive at ho
  refine lv_aload_n hx hb dX7_arrive_0 rfl (lv_at hl 0 rfl) ?_
  refine lv_iload_n hx hb dX7_arrive_1 rfl (lv_at hl 1 rfl) ?_
  refine r_put (ci := 11) (C := RX7) (T := TX7) (N := 8) (ty := .int) S F B tyX7 tyX7_ok nmX7 hi9 (fun _ => rfl) rfl hiX7 0 (by decide) (by decide +kernel) rfl rfl rfl rfl (fun _ => Nat.le_of_ble_eq_true rfl) (fun _ => rfl) dX7_arrive_2 (fun H locs B => ?_)
  obtain ⟨σ1, eσ1, ho⟩ := lt_ ho
  rw [← eσ1] at B
  refine lv_aload_n hx hb dX7_arrive_5 rfl (lv_at hl 0 rfl) ?_
  refine lv_iconst (v := 0) hx hb dX7_arrive_6 (by decide) ?_
  refine r_put (ci := 11) (C := RX7) (T := TX7) (N := 8) (ty := .int) S F B tyX7 tyX7_ok nmX7 hi9 (fun _ => rfl) rfl hiX7 1 (by decide) (by decide +kernel) rfl rfl rfl rfl (fun _ => Nat.le_of_ble_eq_true rfl) (fun _ => rfl) dX7_arrive_7 (fun H locs B => ?_)
  obtain ⟨σ2, eσ2, ho⟩ := lt_ ho
  rw [← eσ2] at B
  refine lv_aload_n hx hb dX7_arrive_10 rfl (lv_at hl 0 rfl) ?_
  refine lv_iconst (v := 0) hx hb dX7_arrive_11 (by decide) ?_
  refine r_put (ci := 11) (C := RX7) (T := TX7) (N := 8) (ty := .int) S F B tyX7 tyX7_ok nmX7 hi9 (fun _ => rfl) rfl hiX7 2 (by decide) (by decide +kernel) rfl rfl rfl rfl (fun _ => Nat.le_of_ble_eq_true rfl) (fun _ => rfl) dX7_arrive_12 (fun H locs B => ?_)
  obtain ⟨σ3, eσ3, ho⟩ := lt_ ho
  rw [← eσ3] at B
  refine lv_aload_n hx hb dX7_arrive_15 rfl (lv_at hl 0 rfl) ?_
  refine lv_iload_n hx hb dX7_arrive_16 rfl (lv_at hl 2 rfl) ?_
  refine r_put (ci := 11) (C := RX7) (T := TX7) (N := 8) (ty := .int) S F B tyX7 tyX7_ok nmX7 hi9 (fun _ => rfl) rfl hiX7 3 (by decide) (by decide +kernel) rfl rfl rfl rfl (fun _ => Nat.le_of_ble_eq_true rfl) (fun _ => rfl) dX7_arrive_17 (fun H locs B => ?_)
  obtain ⟨σ4, eσ4, ho⟩ := lt_ ho
  rw [← eσ4] at B
  refine lv_aload_n hx hb dX7_arrive_20 rfl (lv_at hl 0 rfl) ?_
  refine lv_iconst (v := 0) hx hb dX7_arrive_21 (by decide) ?_
  refine r_put (ci := 11) (C := RX7) (T := TX7) (N := 8) (ty := .boolean) S F B tyX7 tyX7_ok nmX7 hi9 (fun _ => rfl) rfl hiX7 7 (by decide) (by decide +kernel) rfl rfl rfl rfl (fun _ => Nat.le_of_ble_eq_true rfl) (fun _ => rfl) dX7_arrive_22 (fun H locs B => ?_)
  obtain ⟨σ5, eσ5, ho⟩ := lt_ ho
  rw [← eσ5] at B
  refine lv_aload_n hx hb dX7_arrive_25 rfl (lv_at hl 0 rfl) ?_
  obtain ⟨σ7, hq6, ho⟩ := bnd_ ho
  refine k_vV (As := []) (rest := []) S F B (c_X7_endBond l G σ5 _ i hi9 hq6) hi9 rfl rfl (cwV 0 hts gX7_arrive_X7_endBond rfl rfl rfl (by decide +kernel) ⟨Nat.le_of_ble_eq_true rfl, Nat.le_of_ble_eq_true rfl⟩) rfl hl.1 rfl (Nat.le_of_ble_eq_true rfl) dX7_arrive_26 ⟨Nat.le_of_ble_eq_true rfl, Nat.le_of_ble_eq_true rfl⟩ (fun H locs B => ?_)
  cases ho
  exact e_v B hx hb hr hlocks dX7_arrive_29

set_option maxHeartbeats 4000000 in
set_option maxRecDepth 100000 in
theorem c_X7_copyFrom (l : Launch) (G : Gd) (σ : Mm) (sz : Nat) (i : Nat) (o0 : Nat) (hi9 : kd i = 6 ∧ i < NN) (ho0 : kd o0 = 6 ∧ o0 < NN) {out : Mm} (ho : f_X7_copyFrom i o0 σ = some out) : Met l yX7_copyFrom wsX7_copyFrom { frames := 0, cells := 0, slots := 0, locals := 0 } (va_Pc [.ref (G.2.2 i), .ref (G.2.2 o0)] (PW G σ sz)) (Qv G sz out) 0 0 (AA G sz) := by
  refine Met.ofW (cc := cX7_copyFrom) (maxL := 2) (ret := none) (by decide) rfl ?_
  intro p e s m args below meth c s₁ B0 hml hv
  obtain ⟨rfl, hpw⟩ := hv
  have hsz := hpw.1
  subst hsz
  obtain ⟨F, B⟩ := hpw.to
  have hx := B0.exec
  have hb := B0.bytes
  have hr := B0.returns
  have hts := atoms_spec (ws := wsX7_copyFrom) B0.pre
  have hown : s.vm.findClass RX7 = some m.cls := findClass_of_methodNamed B0.named
  have hlocks := B0.notSynchronized
  have S : CallFix p m c cX7_copyFrom 2 s _ wsX7_copyFrom RX7 := ⟨hx, hb, hml, hown, hts⟩
  have hiX7 : ∀ w ∈ u_ws RX7 TX7 8, w ∈ wsX7_copyFrom := by decide +kernel
  have hl := lv_entry [.ref (G.2.2 i), .ref (G.2.2 o0)] (n := 2) (Nat.le_of_ble_eq_true rfl)
  rw [lg_entry_eq]
  generalize (lg_sl [.ref (G.2.2 i), .ref (G.2.2 o0)] ++ List.replicate (2 - (lg_sl [.ref (G.2.2 i), .ref (G.2.2 o0)]).length) Slot.unset).toArray = ls at hl ⊢
  have hl : lv_has ls 2 [(0, .ref (G.2.2 i)), (1, .ref (G.2.2 o0))] := hl
  unfold f_X7_copyFrom at ho
  refine lv_aload_n hx hb dX7_copyFrom_0 rfl (lv_at hl 0 rfl) ?_
  refine lv_aload_n hx hb dX7_copyFrom_1 rfl (lv_at hl 1 rfl) ?_
  refine r_get (ci := 11) (C := RX7) (T := TX7) (N := 8) S F B ho0 rfl rfl hiX7 0 (by decide) (by decide +kernel) rfl dX7_copyFrom_2 ?_
  refine r_put (ci := 11) (C := RX7) (T := TX7) (N := 8) (ty := .int) S F B tyX7 tyX7_ok nmX7 hi9 (fun _ => rfl) rfl hiX7 0 (by decide) (by decide +kernel) rfl rfl rfl rfl (fun _ => Nat.le_of_ble_eq_true rfl) (fun _ => rfl) dX7_copyFrom_5 (fun H locs B => ?_)
  obtain ⟨σ1, eσ1, ho⟩ := lt_ ho
  rw [← eσ1] at B
  refine lv_aload_n hx hb dX7_copyFrom_8 rfl (lv_at hl 0 rfl) ?_
  refine lv_aload_n hx hb dX7_copyFrom_9 rfl (lv_at hl 1 rfl) ?_
  refine r_get (ci := 11) (C := RX7) (T := TX7) (N := 8) S F B ho0 rfl rfl hiX7 1 (by decide) (by decide +kernel) rfl dX7_copyFrom_10 ?_
  refine r_put (ci := 11) (C := RX7) (T := TX7) (N := 8) (ty := .int) S F B tyX7 tyX7_ok nmX7 hi9 (fun _ => rfl) rfl hiX7 1 (by decide) (by decide +kernel) rfl rfl rfl rfl (fun _ => Nat.le_of_ble_eq_true rfl) (fun _ => rfl) dX7_copyFrom_13 (fun H locs B => ?_)
  obtain ⟨σ2, eσ2, ho⟩ := lt_ ho
  rw [← eσ2] at B
  refine lv_aload_n hx hb dX7_copyFrom_16 rfl (lv_at hl 0 rfl) ?_
  refine lv_aload_n hx hb dX7_copyFrom_17 rfl (lv_at hl 1 rfl) ?_
  refine r_get (ci := 11) (C := RX7) (T := TX7) (N := 8) S F B ho0 rfl rfl hiX7 2 (by decide) (by decide +kernel) rfl dX7_copyFrom_18 ?_
  refine r_put (ci := 11) (C := RX7) (T := TX7) (N := 8) (ty := .int) S F B tyX7 tyX7_ok nmX7 hi9 (fun _ => rfl) rfl hiX7 2 (by decide) (by decide +kernel) rfl rfl rfl rfl (fun _ => Nat.le_of_ble_eq_true rfl) (fun _ => rfl) dX7_copyFrom_21 (fun H locs B => ?_)
  obtain ⟨σ3, eσ3, ho⟩ := lt_ ho
  rw [← eσ3] at B
  refine lv_aload_n hx hb dX7_copyFrom_24 rfl (lv_at hl 0 rfl) ?_
  refine lv_aload_n hx hb dX7_copyFrom_25 rfl (lv_at hl 1 rfl) ?_
  refine r_get (ci := 11) (C := RX7) (T := TX7) (N := 8) S F B ho0 rfl rfl hiX7 3 (by decide) (by decide +kernel) rfl dX7_copyFrom_26 ?_
  refine r_put (ci := 11) (C := RX7) (T := TX7) (N := 8) (ty := .int) S F B tyX7 tyX7_ok nmX7 hi9 (fun _ => rfl) rfl hiX7 3 (by decide) (by decide +kernel) rfl rfl rfl rfl (fun _ => Nat.le_of_ble_eq_true rfl) (fun _ => rfl) dX7_copyFrom_29 (fun H locs B => ?_)
  obtain ⟨σ4, eσ4, ho⟩ := lt_ ho
  rw [← eσ4] at B
  refine lv_aload_n hx hb dX7_copyFrom_32 rfl (lv_at hl 0 rfl) ?_
  refine lv_aload_n hx hb dX7_copyFrom_33 rfl (lv_at hl 1 rfl) ?_
  refine r_get (ci := 11) (C := RX7) (T := TX7) (N := 8) S F B ho0 rfl rfl hiX7 4 (by decide) (by decide +kernel) rfl dX7_copyFrom_34 ?_
  refine r_put (ci := 11) (C := RX7) (T := TX7) (N := 8) (ty := .int) S F B tyX7 tyX7_ok nmX7 hi9 (fun _ => rfl) rfl hiX7 4 (by decide) (by decide +kernel) rfl rfl rfl rfl (fun _ => Nat.le_of_ble_eq_true rfl) (fun _ => rfl) dX7_copyFrom_37 (fun H locs B => ?_)
  obtain ⟨σ5, eσ5, ho⟩ := lt_ ho
  rw [← eσ5] at B
  refine lv_aload_n hx hb dX7_copyFrom_40 rfl (lv_at hl 0 rfl) ?_
  refine lv_aload_n hx hb dX7_copyFrom_41 rfl (lv_at hl 1 rfl) ?_
  refine r_get (ci := 11) (C := RX7) (T := TX7) (N := 8) S F B ho0 rfl rfl hiX7 5 (by decide) (by decide +kernel) rfl dX7_copyFrom_42 ?_
  refine r_put (ci := 11) (C := RX7) (T := TX7) (N := 8) (ty := .int) S F B tyX7 tyX7_ok nmX7 hi9 (fun _ => rfl) rfl hiX7 5 (by decide) (by decide +kernel) rfl rfl rfl rfl (fun _ => Nat.le_of_ble_eq_true rfl) (fun _ => rfl) dX7_copyFrom_45 (fun H locs B => ?_)
  obtain ⟨σ6, eσ6, ho⟩ := lt_ ho
  rw [← eσ6] at B
  refine lv_aload_n hx hb dX7_copyFrom_48 rfl (lv_at hl 0 rfl) ?_
  refine lv_aload_n hx hb dX7_copyFrom_49 rfl (lv_at hl 1 rfl) ?_
  refine r_get (ci := 11) (C := RX7) (T := TX7) (N := 8) S F B ho0 rfl rfl hiX7 6 (by decide) (by decide +kernel) rfl dX7_copyFrom_50 ?_
  obtain ⟨hz, ho⟩ := bz_ ho
  refine r_put (ci := 11) (C := RX7) (T := TX7) (N := 8) (ty := .boolean) S F B tyX7 tyX7_ok nmX7 hi9 (fun _ => rfl) rfl hiX7 6 (by decide) (by decide +kernel) rfl rfl hz (fz_ hz) (fun _ => Nat.le_of_ble_eq_true rfl) (fun _ => rfl) dX7_copyFrom_53 (fun H locs B => ?_)
  obtain ⟨σ7, eσ7, ho⟩ := lt_ ho
  rw [← eσ7] at B
  refine lv_aload_n hx hb dX7_copyFrom_56 rfl (lv_at hl 0 rfl) ?_
  refine lv_aload_n hx hb dX7_copyFrom_57 rfl (lv_at hl 1 rfl) ?_
  refine r_get (ci := 11) (C := RX7) (T := TX7) (N := 8) S F B ho0 rfl rfl hiX7 7 (by decide) (by decide +kernel) rfl dX7_copyFrom_58 ?_
  obtain ⟨hz, ho⟩ := bz_ ho
  refine r_put (ci := 11) (C := RX7) (T := TX7) (N := 8) (ty := .boolean) S F B tyX7 tyX7_ok nmX7 hi9 (fun _ => rfl) rfl hiX7 7 (by decide) (by decide +kernel) rfl rfl hz (fz_ hz) (fun _ => Nat.le_of_ble_eq_true rfl) (fun _ => rfl) dX7_copyFrom_61 (fun H locs B => ?_)
  obtain ⟨σ8, eσ8, ho⟩ := lt_ ho
  rw [← eσ8] at B
  cases ho
  exact e_v B hx hb hr hlocks dX7_copyFrom_64

set_option maxHeartbeats 4000000 in
set_option maxRecDepth 100000 in
theorem c_X1_arrive (l : Launch) (G : Gd) (σ : Mm) (sz : Nat) (i : Nat) (a0 : Int32) (hi9 : kd i = 4 ∧ i < NN) {out : Mm} (ho : f_X1_arrive i a0 σ = some out) : Met l yX1_arrive wsX1_arrive { frames := 0, cells := 0, slots := 0, locals := 0 } (va_Pc [.ref (G.2.2 i), .int a0] (PW G σ sz)) (Qv G sz out) 0 0 (AA G sz) := by
  refine Met.ofW (cc := cX1_arrive) (maxL := 2) (ret := none) (by decide) rfl ?_
  intro p e s m args below meth c s₁ B0 hml hv
  obtain ⟨rfl, hpw⟩ := hv
  have hsz := hpw.1
  subst hsz
  obtain ⟨F, B⟩ := hpw.to
  have hx := B0.exec
  have hb := B0.bytes
  have hr := B0.returns
  have hts := atoms_spec (ws := wsX1_arrive) B0.pre
  have hown : s.vm.findClass RX1 = some m.cls := findClass_of_methodNamed B0.named
  have hlocks := B0.notSynchronized
  have S : CallFix p m c cX1_arrive 2 s _ wsX1_arrive RX1 := ⟨hx, hb, hml, hown, hts⟩
  have hiX1 : ∀ w ∈ u_ws RX1 TX1 4, w ∈ wsX1_arrive := by decide +kernel
  have hl := lv_entry [.ref (G.2.2 i), .int a0] (n := 2) (Nat.le_of_ble_eq_true rfl)
  rw [lg_entry_eq]
  generalize (lg_sl [.ref (G.2.2 i), .int a0] ++ List.replicate (2 - (lg_sl [.ref (G.2.2 i), .int a0]).length) Slot.unset).toArray = ls at hl ⊢
  have hl : lv_has ls 2 [(0, .ref (G.2.2 i)), (1, .int a0)] := hl
  unfold f_X1_arrive at ho
  refine lv_aload_n hx hb dX1_arrive_0 rfl (lv_at hl 0 rfl) ?_
  refine lv_iload_n hx hb dX1_arrive_1 rfl (lv_at hl 1 rfl) ?_
  refine r_put (ci := 5) (C := RX1) (T := TX1) (N := 4) (ty := .int) S F B tyX1 tyX1_ok nmX1 hi9 (fun _ => rfl) rfl hiX1 0 (by decide) (by decide +kernel) rfl rfl rfl rfl (fun _ => Nat.le_of_ble_eq_true rfl) (fun _ => rfl) dX1_arrive_2 (fun H locs B => ?_)
  obtain ⟨σ1, eσ1, ho⟩ := lt_ ho
  rw [← eσ1] at B
  refine lv_aload_n hx hb dX1_arrive_5 rfl (lv_at hl 0 rfl) ?_
  refine lv_iconst (v := 0) hx hb dX1_arrive_6 (by decide) ?_
  refine r_put (ci := 5) (C := RX1) (T := TX1) (N := 4) (ty := .int) S F B tyX1 tyX1_ok nmX1 hi9 (fun _ => rfl) rfl hiX1 1 (by decide) (by decide +kernel) rfl rfl rfl rfl (fun _ => Nat.le_of_ble_eq_true rfl) (fun _ => rfl) dX1_arrive_7 (fun H locs B => ?_)
  obtain ⟨σ2, eσ2, ho⟩ := lt_ ho
  rw [← eσ2] at B
  refine lv_aload_n hx hb dX1_arrive_10 rfl (lv_at hl 0 rfl) ?_
  refine lv_iconst (v := 0) hx hb dX1_arrive_11 (by decide) ?_
  refine r_put (ci := 5) (C := RX1) (T := TX1) (N := 4) (ty := .int) S F B tyX1 tyX1_ok nmX1 hi9 (fun _ => rfl) rfl hiX1 2 (by decide) (by decide +kernel) rfl rfl rfl rfl (fun _ => Nat.le_of_ble_eq_true rfl) (fun _ => rfl) dX1_arrive_12 (fun H locs B => ?_)
  obtain ⟨σ3, eσ3, ho⟩ := lt_ ho
  rw [← eσ3] at B
  refine lv_aload_n hx hb dX1_arrive_15 rfl (lv_at hl 0 rfl) ?_
  refine lv_iconst (v := 0) hx hb dX1_arrive_16 (by decide) ?_
  refine r_put (ci := 5) (C := RX1) (T := TX1) (N := 4) (ty := .int) S F B tyX1 tyX1_ok nmX1 hi9 (fun _ => rfl) rfl hiX1 3 (by decide) (by decide +kernel) rfl rfl rfl rfl (fun _ => Nat.le_of_ble_eq_true rfl) (fun _ => rfl) dX1_arrive_17 (fun H locs B => ?_)
  obtain ⟨σ4, eσ4, ho⟩ := lt_ ho
  rw [← eσ4] at B
  cases ho
  exact e_v B hx hb hr hlocks dX1_arrive_20

set_option maxHeartbeats 4000000 in
set_option maxRecDepth 100000 in
theorem c_X1_copyFrom (l : Launch) (G : Gd) (σ : Mm) (sz : Nat) (i : Nat) (o0 : Nat) (hi9 : kd i = 4 ∧ i < NN) (ho0 : kd o0 = 4 ∧ o0 < NN) {out : Mm} (ho : f_X1_copyFrom i o0 σ = some out) : Met l yX1_copyFrom wsX1_copyFrom { frames := 0, cells := 0, slots := 0, locals := 0 } (va_Pc [.ref (G.2.2 i), .ref (G.2.2 o0)] (PW G σ sz)) (Qv G sz out) 0 0 (AA G sz) := by
  refine Met.ofW (cc := cX1_copyFrom) (maxL := 2) (ret := none) (by decide) rfl ?_
  intro p e s m args below meth c s₁ B0 hml hv
  obtain ⟨rfl, hpw⟩ := hv
  have hsz := hpw.1
  subst hsz
  obtain ⟨F, B⟩ := hpw.to
  have hx := B0.exec
  have hb := B0.bytes
  have hr := B0.returns
  have hts := atoms_spec (ws := wsX1_copyFrom) B0.pre
  have hown : s.vm.findClass RX1 = some m.cls := findClass_of_methodNamed B0.named
  have hlocks := B0.notSynchronized
  have S : CallFix p m c cX1_copyFrom 2 s _ wsX1_copyFrom RX1 := ⟨hx, hb, hml, hown, hts⟩
  have hiX1 : ∀ w ∈ u_ws RX1 TX1 4, w ∈ wsX1_copyFrom := by decide +kernel
  have hl := lv_entry [.ref (G.2.2 i), .ref (G.2.2 o0)] (n := 2) (Nat.le_of_ble_eq_true rfl)
  rw [lg_entry_eq]
  generalize (lg_sl [.ref (G.2.2 i), .ref (G.2.2 o0)] ++ List.replicate (2 - (lg_sl [.ref (G.2.2 i), .ref (G.2.2 o0)]).length) Slot.unset).toArray = ls at hl ⊢
  have hl : lv_has ls 2 [(0, .ref (G.2.2 i)), (1, .ref (G.2.2 o0))] := hl
  unfold f_X1_copyFrom at ho
  refine lv_aload_n hx hb dX1_copyFrom_0 rfl (lv_at hl 0 rfl) ?_
  refine lv_aload_n hx hb dX1_copyFrom_1 rfl (lv_at hl 1 rfl) ?_
  refine r_get (ci := 5) (C := RX1) (T := TX1) (N := 4) S F B ho0 rfl rfl hiX1 0 (by decide) (by decide +kernel) rfl dX1_copyFrom_2 ?_
  refine r_put (ci := 5) (C := RX1) (T := TX1) (N := 4) (ty := .int) S F B tyX1 tyX1_ok nmX1 hi9 (fun _ => rfl) rfl hiX1 0 (by decide) (by decide +kernel) rfl rfl rfl rfl (fun _ => Nat.le_of_ble_eq_true rfl) (fun _ => rfl) dX1_copyFrom_5 (fun H locs B => ?_)
  obtain ⟨σ1, eσ1, ho⟩ := lt_ ho
  rw [← eσ1] at B
  refine lv_aload_n hx hb dX1_copyFrom_8 rfl (lv_at hl 0 rfl) ?_
  refine lv_aload_n hx hb dX1_copyFrom_9 rfl (lv_at hl 1 rfl) ?_
  refine r_get (ci := 5) (C := RX1) (T := TX1) (N := 4) S F B ho0 rfl rfl hiX1 1 (by decide) (by decide +kernel) rfl dX1_copyFrom_10 ?_
  refine r_put (ci := 5) (C := RX1) (T := TX1) (N := 4) (ty := .int) S F B tyX1 tyX1_ok nmX1 hi9 (fun _ => rfl) rfl hiX1 1 (by decide) (by decide +kernel) rfl rfl rfl rfl (fun _ => Nat.le_of_ble_eq_true rfl) (fun _ => rfl) dX1_copyFrom_13 (fun H locs B => ?_)
  obtain ⟨σ2, eσ2, ho⟩ := lt_ ho
  rw [← eσ2] at B
  refine lv_aload_n hx hb dX1_copyFrom_16 rfl (lv_at hl 0 rfl) ?_
  refine lv_aload_n hx hb dX1_copyFrom_17 rfl (lv_at hl 1 rfl) ?_
  refine r_get (ci := 5) (C := RX1) (T := TX1) (N := 4) S F B ho0 rfl rfl hiX1 2 (by decide) (by decide +kernel) rfl dX1_copyFrom_18 ?_
  refine r_put (ci := 5) (C := RX1) (T := TX1) (N := 4) (ty := .int) S F B tyX1 tyX1_ok nmX1 hi9 (fun _ => rfl) rfl hiX1 2 (by decide) (by decide +kernel) rfl rfl rfl rfl (fun _ => Nat.le_of_ble_eq_true rfl) (fun _ => rfl) dX1_copyFrom_21 (fun H locs B => ?_)
  obtain ⟨σ3, eσ3, ho⟩ := lt_ ho
  rw [← eσ3] at B
  refine lv_aload_n hx hb dX1_copyFrom_24 rfl (lv_at hl 0 rfl) ?_
  refine lv_aload_n hx hb dX1_copyFrom_25 rfl (lv_at hl 1 rfl) ?_
  refine r_get (ci := 5) (C := RX1) (T := TX1) (N := 4) S F B ho0 rfl rfl hiX1 3 (by decide) (by decide +kernel) rfl dX1_copyFrom_26 ?_
  refine r_put (ci := 5) (C := RX1) (T := TX1) (N := 4) (ty := .int) S F B tyX1 tyX1_ok nmX1 hi9 (fun _ => rfl) rfl hiX1 3 (by decide) (by decide +kernel) rfl rfl rfl rfl (fun _ => Nat.le_of_ble_eq_true rfl) (fun _ => rfl) dX1_copyFrom_29 (fun H locs B => ?_)
  obtain ⟨σ4, eσ4, ho⟩ := lt_ ho
  rw [← eσ4] at B
  cases ho
  exact e_v B hx hb hr hlocks dX1_copyFrom_32

set_option maxHeartbeats 4000000 in
set_option maxRecDepth 100000 in
theorem c_X5_because (l : Launch) (G : Gd) (σ : Mm) (sz : Nat) (a0 : Int32) (a1 : Int32) {out : Int32 × Mm} (ho : f_X5_because a0 a1 σ = some out) : Met l yX5_because wsX5_because { frames := 0, cells := 0, slots := 0, locals := 0 } (va_Pc [.ref (G.2.2 157), .int a0, .int a1] (PW G σ sz)) (Qi G sz out.1 out.2) 0 0 (AA G sz) := by
  refine Met.ofW (cc := cX5_because) (maxL := 3) (ret := (some .int)) (by decide) rfl ?_
  intro p e s m args below meth c s₁ B0 hml hv
  obtain ⟨rfl, hpw⟩ := hv
  have hsz := hpw.1
  subst hsz
  obtain ⟨F, B⟩ := hpw.to
  have hx := B0.exec
  have hb := B0.bytes
  have hr := B0.returns
  have hts := atoms_spec (ws := wsX5_because) B0.pre
  have hown : s.vm.findClass RX5 = some m.cls := findClass_of_methodNamed B0.named
  have hlocks := B0.notSynchronized
  have S : CallFix p m c cX5_because 3 s _ wsX5_because RX5 := ⟨hx, hb, hml, hown, hts⟩
  have hiX5 : ∀ w ∈ u_ws RX5 TX5 3, w ∈ wsX5_because := by decide +kernel
  have hl := lv_entry [.ref (G.2.2 157), .int a0, .int a1] (n := 3) (Nat.le_of_ble_eq_true rfl)
  rw [lg_entry_eq]
  generalize (lg_sl [.ref (G.2.2 157), .int a0, .int a1] ++ List.replicate (3 - (lg_sl [.ref (G.2.2 157), .int a0, .int a1]).length) Slot.unset).toArray = ls at hl ⊢
  have hl : lv_has ls 3 [(0, .ref (G.2.2 157)), (1, .int a0), (2, .int a1)] := hl
  unfold f_X5_because at ho
  refine lv_aload_n hx hb dX5_because_0 rfl (lv_at hl 0 rfl) ?_
  refine lv_iload_n hx hb dX5_because_1 rfl (lv_at hl 1 rfl) ?_
  refine r_put (ci := 9) (C := RX5) (T := TX5) (N := 3) (ty := .int) S F B tyX5 tyX5_ok nmX5 (kq (by decide) : kd 157 = 10 ∧ 157 < NN) (fun _ => rfl) rfl hiX5 0 (by decide) (by decide +kernel) rfl rfl rfl rfl (fun _ => Nat.le_of_ble_eq_true rfl) (fun _ => rfl) dX5_because_2 (fun H locs B => ?_)
  obtain ⟨σ1, eσ1, ho⟩ := lt_ ho
  rw [← eσ1] at B
  refine lv_aload_n hx hb dX5_because_5 rfl (lv_at hl 0 rfl) ?_
  refine lv_iload_n hx hb dX5_because_6 rfl (lv_at hl 2 rfl) ?_
  refine r_put (ci := 9) (C := RX5) (T := TX5) (N := 3) (ty := .int) S F B tyX5 tyX5_ok nmX5 (kq (by decide) : kd 157 = 10 ∧ 157 < NN) (fun _ => rfl) rfl hiX5 1 (by decide) (by decide +kernel) rfl rfl rfl rfl (fun _ => Nat.le_of_ble_eq_true rfl) (fun _ => rfl) dX5_because_7 (fun H locs B => ?_)
  obtain ⟨σ2, eσ2, ho⟩ := lt_ ho
  rw [← eσ2] at B
  refine lv_aload_n hx hb dX5_because_10 rfl (lv_at hl 0 rfl) ?_
  refine lv_iconst (v := 0) hx hb dX5_because_11 (by decide) ?_
  refine r_put (ci := 9) (C := RX5) (T := TX5) (N := 3) (ty := .int) S F B tyX5 tyX5_ok nmX5 (kq (by decide) : kd 157 = 10 ∧ 157 < NN) (fun _ => rfl) rfl hiX5 2 (by decide) (by decide +kernel) rfl rfl rfl rfl (fun _ => Nat.le_of_ble_eq_true rfl) (fun _ => rfl) dX5_because_12 (fun H locs B => ?_)
  obtain ⟨σ3, eσ3, ho⟩ := lt_ ho
  rw [← eσ3] at B
  refine lv_iconst (v := (-1)) hx hb dX5_because_15 (by decide) ?_
  cases ho
  exact e_i B hx hb hr hlocks rfl rfl dX5_because_16
