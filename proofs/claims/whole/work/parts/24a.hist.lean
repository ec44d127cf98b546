set_option maxHeartbeats 4000000 in
set_option maxRecDepth 100000 in
theorem c_X2_forget (l : Launch) (G : Gd) (σ : Mm) (sz : Nat) {out : Mm} (ho : f_X2_forget σ = some out) : Met l yX2_forget wsX2_forget { frames := 0, cells := 0, slots := 0, locals := 0 } (va_Pc [.ref (G.2.2 155)] (PW G σ sz)) (Qv G sz out) 0 0 (AA G sz) := by
  refine Met.ofW (cc := cX2_forget) (maxL := 1) (ret := none) (by decide) rfl ?_
  intro p e s m args below meth c s₁ B0 hml hv
  obtain ⟨rfl, hpw⟩ := hv
  have hsz := hpw.1
  subst hsz
  obtain ⟨F, B⟩ := hpw.to
  have hx := B0.exec
  have hb := B0.bytes
  have hr := B0.returns
  have hts := atoms_spec (ws := wsX2_forget) B0.pre
  have hown : s.vm.findClass RX2 = some m.cls := findClass_of_methodNamed B0.named
  have hlocks := B0.notSynchronized
  have S : CallFix p m c cX2_forget 1 s _ wsX2_forget RX2 := ⟨hx, hb, hml, hown, hts⟩
  have hiX2 : ∀ w ∈ u_ws RX2 TX2 3, w ∈ wsX2_forget := by decide +kernel
  have hl := lv_entry [.ref (G.2.2 155)] (n := 1) (Nat.le_of_ble_eq_true rfl)
  rw [lg_entry_eq]
  generalize (lg_sl [.ref (G.2.2 155)] ++ List.replicate (1 - (lg_sl [.ref (G.2.2 155)]).length) Slot.unset).toArray = ls at hl ⊢
  have hl : lv_has ls 1 [(0, .ref (G.2.2 155))] := hl
  unfold f_X2_forget at ho
  refine lv_aload_n hx hb dX2_forget_0 rfl (lv_at hl 0 rfl) ?_
  refine lv_iconst (v := 0) hx hb dX2_forget_1 (by decide) ?_
  refine r_put (ci := 6) (C := RX2) (T := TX2) (N := 3) (ty := .int) S F B tyX2 tyX2_ok nmX2 (kq (by decide) : kd 155 = 8 ∧ 155 < NN) (fun _ => rfl) rfl hiX2 2 (by decide) (by decide +kernel) rfl rfl rfl rfl (fun _ => Nat.le_of_ble_eq_true rfl) (fun _ => rfl) dX2_forget_2 (fun H locs B => ?_)
  obtain ⟨σ1, eσ1, ho⟩ := lt_ ho
  rw [← eσ1] at B
  cases ho
  exact e_v B hx hb hr hlocks dX2_forget_5

set_option maxHeartbeats 4000000 in
set_option maxRecDepth 100000 in
theorem c_X2_keep (l : Launch) (G : Gd) (σ : Mm) (sz : Nat) {out : Mm} (ho : f_X2_keep σ = some out) : Met l yX2_keep wsX2_keep { frames := 3, cells := 0, slots := 0, locals := 83 } (va_Pc [.ref (G.2.2 155), .ref (G.2.2 14)] (PW G σ sz)) (Qv G sz out) 0 0 (AA G sz) := by
  refine Met.ofW (cc := cX2_keep) (maxL := 2) (ret := none) (by decide) rfl ?_
  intro p e s m args below meth c s₁ B0 hml hv
  obtain ⟨rfl, hpw⟩ := hv
  have hsz := hpw.1
  subst hsz
  obtain ⟨F, B⟩ := hpw.to
  have hx := B0.exec
  have hb := B0.bytes
  have hr := B0.returns
  have hts := atoms_spec (ws := wsX2_keep) B0.pre
  have hown : s.vm.findClass RX2 = some m.cls := findClass_of_methodNamed B0.named
  have hlocks := B0.notSynchronized
  have S : CallFix p m c cX2_keep 2 s _ wsX2_keep RX2 := ⟨hx, hb, hml, hown, hts⟩
  have hiX2 : ∀ w ∈ u_ws RX2 TX2 3, w ∈ wsX2_keep := by decide +kernel
  have hl := lv_entry [.ref (G.2.2 155), .ref (G.2.2 14)] (n := 2) (Nat.le_of_ble_eq_true rfl)
  rw [lg_entry_eq]
  generalize (lg_sl [.ref (G.2.2 155), .ref (G.2.2 14)] ++ List.replicate (2 - (lg_sl [.ref (G.2.2 155), .ref (G.2.2 14)]).length) Slot.unset).toArray = ls at hl ⊢
  have hl : lv_has ls 2 [(0, .ref (G.2.2 155)), (1, .ref (G.2.2 14))] := hl
  unfold f_X2_keep at ho
  refine lv_aload_n hx hb dX2_keep_0 rfl (lv_at hl 0 rfl) ?_
  refine lv_aload_n hx hb dX2_keep_1 rfl (lv_at hl 0 rfl) ?_
  refine r_get (ci := 6) (C := RX2) (T := TX2) (N := 3) S F B (kq (by decide) : kd 155 = 8 ∧ 155 < NN) rfl rfl hiX2 1 (by decide) (by decide +kernel) rfl dX2_keep_2 ?_
  refine lv_iconst (v := 1) hx hb dX2_keep_5 (by decide) ?_
  refine lv_iadd hx hb dX2_keep_6 ?_
  refine lv_bipush (v := 8) hx hb dX2_keep_7 (by decide) ?_
  refine lv_irem hx hb dX2_keep_9 (by decide) ?_
  refine r_put (ci := 6) (C := RX2) (T := TX2) (N := 3) (ty := .int) S F B tyX2 tyX2_ok nmX2 (kq (by decide) : kd 155 = 8 ∧ 155 < NN) (fun _ => rfl) rfl hiX2 1 (by decide) (by decide +kernel) rfl rfl rfl rfl (fun _ => Nat.le_of_ble_eq_true rfl) (fun _ => rfl) dX2_keep_10 (fun H locs B => ?_)
  obtain ⟨σ1, eσ1, ho⟩ := lt_ ho
  rw [← eσ1] at B
  refine lv_aload_n hx hb dX2_keep_13 rfl (lv_at hl 0 rfl) ?_
  refine r_get (ci := 6) (C := RX2) (T := TX2) (N := 3) S F B (kq (by decide) : kd 155 = 8 ∧ 155 < NN) rfl rfl hiX2 0 (by decide) (by decide +kernel) rfl dX2_keep_14 ?_
  refine lv_aload_n hx hb dX2_keep_17 rfl (lv_at hl 0 rfl) ?_
  refine r_get (ci := 6) (C := RX2) (T := TX2) (N := 3) S F B (kq (by decide) : kd 155 = 8 ∧ 155 < NN) rfl rfl hiX2 1 (by decide) (by decide +kernel) rfl dX2_keep_18 ?_
  obtain ⟨i2, ho⟩ := gd_ ho
  refine r_aald (t := 5) S F B (kq (by decide) : kd 156 = 9 ∧ 156 < NN) rfl rfl i2 dX2_keep_21 ?_
  refine lv_aload_n hx hb dX2_keep_22 rfl (lv_at hl 1 rfl) ?_
  obtain ⟨σ4, hq3, ho⟩ := bnd_ ho
  refine k_vV (As := [.ref (G.2.2 14)]) (rest := []) S F B (c_X6_copyFrom l G σ1 _ (42 + 14 * (σ1 155 1).toNatClampNeg) 14 (kgS i2) isS14 hq3) (kgS i2).k0 rfl rfl (cwV 1 hts gX2_keep_X6_copyFrom rfl rfl rfl (by decide +kernel) ⟨Nat.le_of_ble_eq_true rfl, Nat.le_of_ble_eq_true rfl⟩) rfl hl.1 rfl (Nat.le_of_ble_eq_true rfl) dX2_keep_23 ⟨Nat.le_of_ble_eq_true rfl, Nat.le_of_ble_eq_true rfl⟩ (fun H locs B => ?_)
  refine lv_aload_n hx hb dX2_keep_26 rfl (lv_at hl 0 rfl) ?_
  refine lv_bipush (v := 8) hx hb dX2_keep_27 (by decide) ?_
  refine lv_aload_n hx hb dX2_keep_29 rfl (lv_at hl 0 rfl) ?_
  refine r_get (ci := 6) (C := RX2) (T := TX2) (N := 3) S F B (kq (by decide) : kd 155 = 8 ∧ 155 < NN) rfl rfl hiX2 2 (by decide) (by decide +kernel) rfl dX2_keep_30 ?_
  refine lv_iconst (v := 1) hx hb dX2_keep_33 (by decide) ?_
  refine lv_iadd hx hb dX2_keep_34 ?_
  refine va_mmin hx hb (hml.trans hl.1.symm) hown (hts _ (by decide +kernel)) (hts _ (by decide +kernel)) (hts _ (by decide +kernel)) (hts _ (by decide +kernel)) (Nat.le_of_ble_eq_true rfl) (Nat.le_of_ble_eq_true rfl) (Nat.le_of_ble_eq_true rfl) (Nat.le_of_ble_eq_true rfl) dX2_keep_35 ?_
  refine r_put (ci := 6) (C := RX2) (T := TX2) (N := 3) (ty := .int) S F B tyX2 tyX2_ok nmX2 (kq (by decide) : kd 155 = 8 ∧ 155 < NN) (fun _ => rfl) rfl hiX2 2 (by decide) (by decide +kernel) rfl rfl rfl rfl (fun _ => Nat.le_of_ble_eq_true rfl) (fun _ => rfl) dX2_keep_38 (fun H locs B => ?_)
  obtain ⟨σ5, eσ5, ho⟩ := lt_ ho
  rw [← eσ5] at B
  cases ho
  exact e_v B hx hb hr hlocks dX2_keep_41

set_option maxHeartbeats 4000000 in
set_option maxRecDepth 100000 in
theorem c_X2_takeBack (l : Launch) (G : Gd) (σ : Mm) (sz : Nat) {out : Mm} (ho : f_X2_takeBack σ = some out) : Met l yX2_takeBack wsX2_takeBack { frames := 3, cells := 0, slots := 0, locals := 83 } (va_Pc [.ref (G.2.2 155), .ref (G.2.2 0)] (PW G σ sz)) (Qv G sz out) 0 0 (AA G sz) := by
  refine Met.ofW (cc := cX2_takeBack) (maxL := 2) (ret := none) (by decide) rfl ?_
  intro p e s m args below meth c s₁ B0 hml hv
  obtain ⟨rfl, hpw⟩ := hv
  have hsz := hpw.1
  subst hsz
  obtain ⟨F, B⟩ := hpw.to
  have hx := B0.exec
  have hb := B0.bytes
  have hr := B0.returns
  have hts := atoms_spec (ws := wsX2_takeBack) B0.pre
  have hown : s.vm.findClass RX2 = some m.cls := findClass_of_methodNamed B0.named
  have hlocks := B0.notSynchronized
  have S : CallFix p m c cX2_takeBack 2 s _ wsX2_takeBack RX2 := ⟨hx, hb, hml, hown, hts⟩
  have hiX2 : ∀ w ∈ u_ws RX2 TX2 3, w ∈ wsX2_takeBack := by decide +kernel
  have hl := lv_entry [.ref (G.2.2 155), .ref (G.2.2 0)] (n := 2) (Nat.le_of_ble_eq_true rfl)
  rw [lg_entry_eq]
  generalize (lg_sl [.ref (G.2.2 155), .ref (G.2.2 0)] ++ List.replicate (2 - (lg_sl [.ref (G.2.2 155), .ref (G.2.2 0)]).length) Slot.unset).toArray = ls at hl ⊢
  have hl : lv_has ls 2 [(0, .ref (G.2.2 155)), (1, .ref (G.2.2 0))] := hl
  unfold f_X2_takeBack at ho
  refine lv_aload_n hx hb dX2_takeBack_0 rfl (lv_at hl 0 rfl) ?_
  refine r_get (ci := 6) (C := RX2) (T := TX2) (N := 3) S F B (kq (by decide) : kd 155 = 8 ∧ 155 < NN) rfl rfl hiX2 2 (by decide) (by decide +kernel) rfl dX2_takeBack_1 ?_
  refine lv_if_le (tgt := 46) hx hb dX2_takeBack_4 (by decide) (fun c1 => ?_) (fun c1 => ?_)
  · have ho := ip_ c1 ho
    cases ho
    exact e_v B hx hb hr hlocks dX2_takeBack_46
  · have ho := in_ c1 ho
    refine lv_aload_n hx hb dX2_takeBack_7 rfl (lv_at hl 1 rfl) ?_
    refine lv_aload_n hx hb dX2_takeBack_8 rfl (lv_at hl 0 rfl) ?_
    refine r_get (ci := 6) (C := RX2) (T := TX2) (N := 3) S F B (kq (by decide) : kd 155 = 8 ∧ 155 < NN) rfl rfl hiX2 0 (by decide) (by decide +kernel) rfl dX2_takeBack_9 ?_
    refine lv_aload_n hx hb dX2_takeBack_12 rfl (lv_at hl 0 rfl) ?_
    refine r_get (ci := 6) (C := RX2) (T := TX2) (N := 3) S F B (kq (by decide) : kd 155 = 8 ∧ 155 < NN) rfl rfl hiX2 1 (by decide) (by decide +kernel) rfl dX2_takeBack_13 ?_
    obtain ⟨i2, ho⟩ := gd_ ho
    refine r_aald (t := 5) S F B (kq (by decide) : kd 156 = 9 ∧ 156 < NN) rfl rfl i2 dX2_takeBack_16 ?_
    obtain ⟨σ4, hq3, ho⟩ := bnd_ ho
    refine k_vV (As := [.ref (G.2.2 (42 + 14 * (σ 155 1).toNatClampNeg))]) (rest := []) S F B (c_X6_copyFrom l G σ _ 0 (42 + 14 * (σ 155 1).toNatClampNeg) isS0 (kgS i2) hq3) (kq (by decide) : kd 0 = 0 ∧ 0 < NN) rfl rfl (cwV 1 hts gX2_takeBack_X6_copyFrom rfl rfl rfl (by decide +kernel) ⟨Nat.le_of_ble_eq_true rfl, Nat.le_of_ble_eq_true rfl⟩) rfl hl.1 rfl (Nat.le_of_ble_eq_true rfl) dX2_takeBack_17 ⟨Nat.le_of_ble_eq_true rfl, Nat.le_of_ble_eq_true rfl⟩ (fun H locs B => ?_)
    refine lv_aload_n hx hb dX2_takeBack_20 rfl (lv_at hl 0 rfl) ?_
    refine lv_aload_n hx hb dX2_takeBack_21 rfl (lv_at hl 0 rfl) ?_
    refine r_get (ci := 6) (C := RX2) (T := TX2) (N := 3) S F B (kq (by decide) : kd 155 = 8 ∧ 155 < NN) rfl rfl hiX2 1 (by decide) (by decide +kernel) rfl dX2_takeBack_22 ?_
    refine lv_bipush (v := 8) hx hb dX2_takeBack_25 (by decide) ?_
    refine lv_iadd hx hb dX2_takeBack_27 ?_
    refine lv_iconst (v := 1) hx hb dX2_takeBack_28 (by decide) ?_
    refine lv_isub hx hb dX2_takeBack_29 ?_
    refine lv_bipush (v := 8) hx hb dX2_takeBack_30 (by decide) ?_
    refine lv_irem hx hb dX2_takeBack_32 (by decide) ?_
    refine r_put (ci := 6) (C := RX2) (T := TX2) (N := 3) (ty := .int) S F B tyX2 tyX2_ok nmX2 (kq (by decide) : kd 155 = 8 ∧ 155 < NN) (fun _ => rfl) rfl hiX2 1 (by decide) (by decide +kernel) rfl rfl rfl rfl (fun _ => Nat.le_of_ble_eq_true rfl) (fun _ => rfl) dX2_takeBack_33 (fun H locs B => ?_)
    obtain ⟨σ5, eσ5, ho⟩ := lt_ ho
    rw [← eσ5] at B
    refine lv_aload_n hx hb dX2_takeBack_36 rfl (lv_at hl 0 rfl) ?_
    refine lv_dup hx hb dX2_takeBack_37 rfl ?_
    refine r_get (ci := 6) (C := RX2) (T := TX2) (N := 3) S F B (kq (by decide) : kd 155 = 8 ∧ 155 < NN) rfl rfl hiX2 2 (by decide) (by decide +kernel) rfl dX2_takeBack_38 ?_
    refine lv_iconst (v := 1) hx hb dX2_takeBack_41 (by decide) ?_
    refine lv_isub hx hb dX2_takeBack_42 ?_
    refine r_put (ci := 6) (C := RX2) (T := TX2) (N := 3) (ty := .int) S F B tyX2 tyX2_ok nmX2 (kq (by decide) : kd 155 = 8 ∧ 155 < NN) (fun _ => rfl) rfl hiX2 2 (by decide) (by decide +kernel) rfl rfl rfl rfl (fun _ => Nat.le_of_ble_eq_true rfl) (fun _ => rfl) dX2_takeBack_43 (fun H locs B => ?_)
    obtain ⟨σ6, eσ6, ho⟩ := lt_ ho
    rw [← eσ6] at B
    cases ho
    exact e_v B hx hb hr hlocks dX2_takeBack_46
