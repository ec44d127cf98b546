set_option maxHeartbeats 4000000 in
set_option maxRecDepth 100000 in
theorem c_X3_admitGardener (l : Launch) (G : Gd) (σ : Mm) (sz : Nat) (a0 : Int32) {out : Int32 × Mm} (ho : f_X3_admitGardener a0 σ = some out) : Met l yX3_admitGardener wsX3_admitGardener { frames := 1, cells := 0, slots := 0, locals := 22 } (va_Pc [.ref (G.2.2 161), .int a0] (PW G σ sz)) (Qi G sz out.1 out.2) 0 0 (AA G sz) := by
  refine Met.ofW (cc := cX3_admitGardener) (maxL := 3) (ret := (some .int)) (by decide) rfl ?_
  intro p e s m args below meth c s₁ B0 hml hv
  obtain ⟨rfl, hpw⟩ := hv
  have hsz := hpw.1
  subst hsz
  obtain ⟨F, B⟩ := hpw.to
  have hx := B0.exec
  have hb := B0.bytes
  have hr := B0.returns
  have hts := atoms_spec (ws := wsX3_admitGardener) B0.pre
  have hown : s.vm.findClass RX3 = some m.cls := findClass_of_methodNamed B0.named
  have hlocks := B0.notSynchronized
  have S : CallFix p m c cX3_admitGardener 3 s _ wsX3_admitGardener RX3 := ⟨hx, hb, hml, hown, hts⟩
  have hiX3 : ∀ w ∈ u_ws RX3 TX3 3, w ∈ wsX3_admitGardener := by decide +kernel
  have hiX6 : ∀ w ∈ u_ws RX6 TX6 9, w ∈ wsX3_admitGardener := by decide +kernel
  have hl := lv_entry [.ref (G.2.2 161), .int a0] (n := 3) (Nat.le_of_ble_eq_true rfl)
  rw [lg_entry_eq]
  generalize (lg_sl [.ref (G.2.2 161), .int a0] ++ List.replicate (3 - (lg_sl [.ref (G.2.2 161), .int a0]).length) Slot.unset).toArray = ls at hl ⊢
  have hl : lv_has ls 3 [(0, .ref (G.2.2 161)), (1, .int a0)] := hl
  unfold f_X3_admitGardener at ho
  refine lv_iload_n hx hb dX3_admitGardener_0 rfl (lv_at hl 1 rfl) ?_
  refine lv_if_lt (tgt := 10) hx hb dX3_admitGardener_1 (by decide) (fun c1 => ?_) (fun c1 => ?_)
  · have ho := ip_ c1 ho
    refine lv_aload_n hx hb dX3_admitGardener_10 rfl (lv_at hl 0 rfl) ?_
    refine r_get (ci := 7) (C := RX3) (T := TX3) (N := 3) S F B (kq (by decide) : kd 161 = 13 ∧ 161 < NN) rfl rfl hiX3 2 (by decide) (by decide +kernel) rfl dX3_admitGardener_11 ?_
    refine lv_iconst (v := 1) hx hb dX3_admitGardener_14 (by decide) ?_
    refine lv_iconst (v := 0) hx hb dX3_admitGardener_15 (by decide) ?_
    obtain ⟨q2, σ3, hq2, ho⟩ := bnm_ ho
    refine k_iV (As := [.int 1, .int 0]) (rest := []) S F B (c_X5_because l G σ _ 1 0 hq2) (kq (by decide) : kd 157 = 10 ∧ 157 < NN) rfl rfl (cwV 2 hts gX3_admitGardener_X5_because rfl rfl rfl (by decide +kernel) ⟨Nat.le_of_ble_eq_true rfl, Nat.le_of_ble_eq_true rfl⟩) rfl hl.1 rfl (Nat.le_of_ble_eq_true rfl) dX3_admitGardener_16 ⟨Nat.le_of_ble_eq_true rfl, Nat.le_of_ble_eq_true rfl⟩ (fun H locs B => ?_)
    cases ho
    exact e_i B hx hb hr hlocks rfl rfl dX3_admitGardener_19
  · have ho := in_ c1 ho
    refine lv_iload_n hx hb dX3_admitGardener_4 rfl (lv_at hl 1 rfl) ?_
    refine lv_bipush (v := 99) hx hb dX3_admitGardener_5 (by decide) ?_
    refine lv_icmp_le (tgt := 20) hx hb dX3_admitGardener_7 (by decide) (fun c4 => ?_) (fun c4 => ?_)
    · have ho := ip_ c4 ho
      refine lv_aload_n hx hb dX3_admitGardener_20 rfl (lv_at hl 0 rfl) ?_
      refine r_get (ci := 7) (C := RX3) (T := TX3) (N := 3) S F B (kq (by decide) : kd 161 = 13 ∧ 161 < NN) rfl rfl hiX3 0 (by decide) (by decide +kernel) rfl dX3_admitGardener_21 ?_
      refine r_getN (ci := 10) (C := RX6) (T := TX6) (N := 9) S F B (kq (by decide) : kd 0 = 0 ∧ 0 < NN) rfl rfl hiX6 3 (by decide) (by decide) rfl dX3_admitGardener_24 ?_
      obtain ⟨x5, ex5, ho⟩ := lt_ ho
      refine lv_nm ex5 ?_
      refine lv_istore_n (lv' := [(2, .int x5), (0, .ref (G.2.2 161)), (1, .int a0)]) hx hb dX3_admitGardener_27 rfl hl (by decide) rfl (fun ls hl => ?_)
      refine lv_iload_n hx hb dX3_admitGardener_28 rfl (lv_at hl 0 rfl) ?_
      refine lv_iconst (v := 4) hx hb dX3_admitGardener_29 (by decide) ?_
      refine lv_icmp_lt (tgt := 44) hx hb dX3_admitGardener_30 (by decide) (fun c6 => ?_) (fun c6 => ?_)
      · have ho := ip_ c6 ho
        refine lv_aload_n hx hb dX3_admitGardener_44 rfl (lv_at hl 1 rfl) ?_
        refine r_get (ci := 7) (C := RX3) (T := TX3) (N := 3) S F B (kq (by decide) : kd 161 = 13 ∧ 161 < NN) rfl rfl hiX3 0 (by decide) (by decide +kernel) rfl dX3_admitGardener_45 ?_
        refine r_getN (ci := 10) (C := RX6) (T := TX6) (N := 9) S F B (kq (by decide) : kd 0 = 0 ∧ 0 < NN) rfl rfl hiX6 1 (by decide) (by decide) rfl dX3_admitGardener_48 ?_
        refine lv_iload_n hx hb dX3_admitGardener_51 rfl (lv_at hl 0 rfl) ?_
        obtain ⟨i7, ho⟩ := gd_ ho
        refine r_aald (t := 3) S F B (kq (by decide) : kd 3 = 3 ∧ 3 < NN) rfl rfl i7 dX3_admitGardener_52 ?_
        refine lv_iload_n hx hb dX3_admitGardener_53 rfl (lv_at hl 2 rfl) ?_
        obtain ⟨σ9, hq8, ho⟩ := bnd_ ho
        refine k_vV (As := [.int a0]) (rest := []) S F B (c_X1_arrive l G σ _ (3 + 1 + x5.toNatClampNeg) a0 (kgG i7 : kd (3 + 1 + x5.toNatClampNeg) = 4 ∧ (3 + 1 + x5.toNatClampNeg) < NN) hq8) (kgG i7 : kd (3 + 1 + x5.toNatClampNeg) = 4 ∧ (3 + 1 + x5.toNatClampNeg) < NN) rfl rfl (cwV 1 hts gX3_admitGardener_X1_arrive rfl rfl rfl (by decide +kernel) ⟨Nat.le_of_ble_eq_true rfl, Nat.le_of_ble_eq_true rfl⟩) rfl hl.1 rfl (Nat.le_of_ble_eq_true rfl) dX3_admitGardener_54 ⟨Nat.le_of_ble_eq_true rfl, Nat.le_of_ble_eq_true rfl⟩ (fun H locs B => ?_)
        refine lv_aload_n hx hb dX3_admitGardener_57 rfl (lv_at hl 1 rfl) ?_
        refine r_get (ci := 7) (C := RX3) (T := TX3) (N := 3) S F B (kq (by decide) : kd 161 = 13 ∧ 161 < NN) rfl rfl hiX3 0 (by decide) (by decide +kernel) rfl dX3_admitGardener_58 ?_
        refine lv_dup hx hb dX3_admitGardener_61 rfl ?_
        refine r_getN (ci := 10) (C := RX6) (T := TX6) (N := 9) S F B (kq (by decide) : kd 0 = 0 ∧ 0 < NN) rfl rfl hiX6 3 (by decide) (by decide) rfl dX3_admitGardener_62 ?_
        refine lv_iconst (v := 1) hx hb dX3_admitGardener_65 (by decide) ?_
        refine lv_iadd hx hb dX3_admitGardener_66 ?_
        refine r_putN (ci := 10) (C := RX6) (T := TX6) (N := 9) (ty := .int) S F B tyX6 tyX6_ok nmX6 (kq (by decide) : kd 0 = 0 ∧ 0 < NN) (fun _ => rfl) rfl hiX6 3 (by decide) (by decide) rfl rfl rfl rfl (fun _ => Nat.le_of_ble_eq_true rfl) (fun _ => rfl) dX3_admitGardener_67 (fun H locs B => ?_)
        obtain ⟨σ10, eσ10, ho⟩ := lt_ ho
        rw [← eσ10] at B
        refine lv_aload_n hx hb dX3_admitGardener_70 rfl (lv_at hl 1 rfl) ?_
        refine r_get (ci := 7) (C := RX3) (T := TX3) (N := 3) S F B (kq (by decide) : kd 161 = 13 ∧ 161 < NN) rfl rfl hiX3 0 (by decide) (by decide +kernel) rfl dX3_admitGardener_71 ?_
        refine lv_dup hx hb dX3_admitGardener_74 rfl ?_
        refine r_getN (ci := 10) (C := RX6) (T := TX6) (N := 9) S F B (kq (by decide) : kd 0 = 0 ∧ 0 < NN) rfl rfl hiX6 7 (by decide) (by decide) rfl dX3_admitGardener_75 ?_
        refine lv_iload_n hx hb dX3_admitGardener_78 rfl (lv_at hl 2 rfl) ?_
        refine lv_iadd hx hb dX3_admitGardener_79 ?_
        refine r_putN (ci := 10) (C := RX6) (T := TX6) (N := 9) (ty := .int) S F B tyX6 tyX6_ok nmX6 (kq (by decide) : kd 0 = 0 ∧ 0 < NN) (fun _ => rfl) rfl hiX6 7 (by decide) (by decide) rfl rfl rfl rfl (fun _ => Nat.le_of_ble_eq_true rfl) (fun _ => rfl) dX3_admitGardener_80 (fun H locs B => ?_)
        obtain ⟨σ11, eσ11, ho⟩ := lt_ ho
        rw [← eσ11] at B
        refine lv_iload_n hx hb dX3_admitGardener_83 rfl (lv_at hl 0 rfl) ?_
        cases ho
        exact e_i B hx hb hr hlocks rfl rfl dX3_admitGardener_84
      · have ho := in_ c6 ho
        refine lv_aload_n hx hb dX3_admitGardener_33 rfl (lv_at hl 1 rfl) ?_
        refine r_get (ci := 7) (C := RX3) (T := TX3) (N := 3) S F B (kq (by decide) : kd 161 = 13 ∧ 161 < NN) rfl rfl hiX3 2 (by decide) (by decide +kernel) rfl dX3_admitGardener_34 ?_
        refine lv_bipush (v := 13) hx hb dX3_admitGardener_37 (by decide) ?_
        refine lv_iconst (v := 4) hx hb dX3_admitGardener_39 (by decide) ?_
        obtain ⟨q12, σ13, hq12, ho⟩ := bnm_ ho
        refine k_iV (As := [.int 13, .int 4]) (rest := []) S F B (c_X5_because l G σ _ 13 4 hq12) (kq (by decide) : kd 157 = 10 ∧ 157 < NN) rfl rfl (cwV 2 hts gX3_admitGardener_X5_because rfl rfl rfl (by decide +kernel) ⟨Nat.le_of_ble_eq_true rfl, Nat.le_of_ble_eq_true rfl⟩) rfl hl.1 rfl (Nat.le_of_ble_eq_true rfl) dX3_admitGardener_40 ⟨Nat.le_of_ble_eq_true rfl, Nat.le_of_ble_eq_true rfl⟩ (fun H locs B => ?_)
        cases ho
        exact e_i B hx hb hr hlocks rfl rfl dX3_admitGardener_43
    · have ho := in_ c4 ho
      refine lv_aload_n hx hb dX3_admitGardener_10 rfl (lv_at hl 0 rfl) ?_
      refine r_get (ci := 7) (C := RX3) (T := TX3) (N := 3) S F B (kq (by decide) : kd 161 = 13 ∧ 161 < NN) rfl rfl hiX3 2 (by decide) (by decide +kernel) rfl dX3_admitGardener_11 ?_
      refine lv_iconst (v := 1) hx hb dX3_admitGardener_14 (by decide) ?_
      refine lv_iconst (v := 0) hx hb dX3_admitGardener_15 (by decide) ?_
      obtain ⟨q14, σ15, hq14, ho⟩ := bnm_ ho
      refine k_iV (As := [.int 1, .int 0]) (rest := []) S F B (c_X5_because l G σ _ 1 0 hq14) (kq (by decide) : kd 157 = 10 ∧ 157 < NN) rfl rfl (cwV 2 hts gX3_admitGardener_X5_because rfl rfl rfl (by decide +kernel) ⟨Nat.le_of_ble_eq_true rfl, Nat.le_of_ble_eq_true rfl⟩) rfl hl.1 rfl (Nat.le_of_ble_eq_true rfl) dX3_admitGardener_16 ⟨Nat.le_of_ble_eq_true rfl, Nat.le_of_ble_eq_true rfl⟩ (fun H locs B => ?_)
      cases ho
      exact e_i B hx hb hr hlocks rfl rfl dX3_admitGardener_19

set_option maxHeartbeats 4000000 in
set_option maxRecDepth 100000 in
theorem c_J6_bitCount_0f7a4 (l : Launch) (G : Gd) (σ : Mm) (sz : Nat) (a0 : Int32) {out : Int32} (ho : f_J6_bitCount_0f7a4 a0 σ = some out) : Met l yJ6_bitCount_0f7a4 wsJ6_bitCount_0f7a4 { frames := 0, cells := 0, slots := 0, locals := 0 } (va_Pc [.int a0] (PW G σ sz)) (Qi G sz out σ) 0 0 (AA G sz) := by
  refine Met.ofW (cc := cJ6_bitCount_0f7a4) (maxL := 1) (ret := (some .int)) (by decide) rfl ?_
  intro p e s m args below meth c s₁ B0 hml hv
  obtain ⟨rfl, hpw⟩ := hv
  have hsz := hpw.1
  subst hsz
  obtain ⟨F, B⟩ := hpw.to
  have hx := B0.exec
  have hb := B0.bytes
  have hr := B0.returns
  have hts := atoms_spec (ws := wsJ6_bitCount_0f7a4) B0.pre
  have hown : s.vm.findClass RJ6 = some m.cls := findClass_of_methodNamed B0.named
  have hlocks := B0.notSynchronized
  have S : CallFix p m c cJ6_bitCount_0f7a4 1 s _ wsJ6_bitCount_0f7a4 RJ6 := ⟨hx, hb, hml, hown, hts⟩
  have hl := lv_entry [.int a0] (n := 1) (Nat.le_of_ble_eq_true rfl)
  rw [lg_entry_eq]
  generalize (lg_sl [.int a0] ++ List.replicate (1 - (lg_sl [.int a0]).length) Slot.unset).toArray = ls at hl ⊢
  have hl : lv_has ls 1 [(0, .int a0)] := hl
  unfold f_J6_bitCount_0f7a4 at ho
  refine lv_iload_n hx hb dJ6_bitCount_0f7a4_0 rfl (lv_at hl 0 rfl) ?_
  refine lv_iload_n hx hb dJ6_bitCount_0f7a4_1 rfl (lv_at hl 0 rfl) ?_
  refine lv_iconst (v := 1) hx hb dJ6_bitCount_0f7a4_2 (by decide) ?_
  refine lv_iushr (v := ush a0 1) hx hb dJ6_bitCount_0f7a4_3 rfl ?_
  refine lv_ldcw (v := 1431655765) hx hb hown (hts _ (by decide +kernel)) dJ6_bitCount_0f7a4_4 ?_
  refine lv_iand hx hb dJ6_bitCount_0f7a4_7 ?_
  refine lv_isub hx hb dJ6_bitCount_0f7a4_8 ?_
  obtain ⟨x1, ex1, ho⟩ := lt_ ho
  refine lv_nm ex1 ?_
  refine lv_istore_n (lv' := [(0, .int x1)]) hx hb dJ6_bitCount_0f7a4_9 rfl hl (by decide) rfl (fun ls hl => ?_)
  refine lv_iload_n hx hb dJ6_bitCount_0f7a4_10 rfl (lv_at hl 0 rfl) ?_
  refine lv_ldcw (v := 858993459) hx hb hown (hts _ (by decide +kernel)) dJ6_bitCount_0f7a4_11 ?_
  refine lv_iand hx hb dJ6_bitCount_0f7a4_14 ?_
  refine lv_iload_n hx hb dJ6_bitCount_0f7a4_15 rfl (lv_at hl 0 rfl) ?_
  refine lv_iconst (v := 2) hx hb dJ6_bitCount_0f7a4_16 (by decide) ?_
  refine lv_iushr (v := ush x1 2) hx hb dJ6_bitCount_0f7a4_17 rfl ?_
  refine lv_ldcw (v := 858993459) hx hb hown (hts _ (by decide +kernel)) dJ6_bitCount_0f7a4_18 ?_
  refine lv_iand hx hb dJ6_bitCount_0f7a4_21 ?_
  refine lv_iadd hx hb dJ6_bitCount_0f7a4_22 ?_
  obtain ⟨x2, ex2, ho⟩ := lt_ ho
  refine lv_nm ex2 ?_
  refine lv_istore_n (lv' := [(0, .int x2)]) hx hb dJ6_bitCount_0f7a4_23 rfl hl (by decide) rfl (fun ls hl => ?_)
  refine lv_iload_n hx hb dJ6_bitCount_0f7a4_24 rfl (lv_at hl 0 rfl) ?_
  refine lv_iload_n hx hb dJ6_bitCount_0f7a4_25 rfl (lv_at hl 0 rfl) ?_
  refine lv_iconst (v := 4) hx hb dJ6_bitCount_0f7a4_26 (by decide) ?_
  refine lv_iushr (v := ush x2 4) hx hb dJ6_bitCount_0f7a4_27 rfl ?_
  refine lv_iadd hx hb dJ6_bitCount_0f7a4_28 ?_
  refine lv_ldcw (v := 252645135) hx hb hown (hts _ (by decide +kernel)) dJ6_bitCount_0f7a4_29 ?_
  refine lv_iand hx hb dJ6_bitCount_0f7a4_32 ?_
  obtain ⟨x3, ex3, ho⟩ := lt_ ho
  refine lv_nm ex3 ?_
  refine lv_istore_n (lv' := [(0, .int x3)]) hx hb dJ6_bitCount_0f7a4_33 rfl hl (by decide) rfl (fun ls hl => ?_)
  refine lv_iload_n hx hb dJ6_bitCount_0f7a4_34 rfl (lv_at hl 0 rfl) ?_
  refine lv_iload_n hx hb dJ6_bitCount_0f7a4_35 rfl (lv_at hl 0 rfl) ?_
  refine lv_bipush (v := 8) hx hb dJ6_bitCount_0f7a4_36 (by decide) ?_
  refine lv_iushr (v := ush x3 8) hx hb dJ6_bitCount_0f7a4_38 rfl ?_
  refine lv_iadd hx hb dJ6_bitCount_0f7a4_39 ?_
  obtain ⟨x4, ex4, ho⟩ := lt_ ho
  refine lv_nm ex4 ?_
  refine lv_istore_n (lv' := [(0, .int x4)]) hx hb dJ6_bitCount_0f7a4_40 rfl hl (by decide) rfl (fun ls hl => ?_)
  refine lv_iload_n hx hb dJ6_bitCount_0f7a4_41 rfl (lv_at hl 0 rfl) ?_
  refine lv_iload_n hx hb dJ6_bitCount_0f7a4_42 rfl (lv_at hl 0 rfl) ?_
  refine lv_bipush (v := 16) hx hb dJ6_bitCount_0f7a4_43 (by decide) ?_
  refine lv_iushr (v := ush x4 16) hx hb dJ6_bitCount_0f7a4_45 rfl ?_
  refine lv_iadd hx hb dJ6_bitCount_0f7a4_46 ?_
  obtain ⟨x5, ex5, ho⟩ := lt_ ho
  refine lv_nm ex5 ?_
  refine lv_istore_n (lv' := [(0, .int x5)]) hx hb dJ6_bitCount_0f7a4_47 rfl hl (by decide) rfl (fun ls hl => ?_)
  refine lv_iload_n hx hb dJ6_bitCount_0f7a4_48 rfl (lv_at hl 0 rfl) ?_
  refine lv_bipush (v := 63) hx hb dJ6_bitCount_0f7a4_49 (by decide) ?_
  refine lv_iand hx hb dJ6_bitCount_0f7a4_51 ?_
  cases ho
  exact e_i B hx hb hr hlocks rfl rfl dJ6_bitCount_0f7a4_52

set_option maxHeartbeats 4000000 in
set_option maxRecDepth 100000 in
theorem c_X3_admitVisitor (l : Launch) (G : Gd) (σ : Mm) (sz : Nat) (a0 : Int32) {out : Int32 × Mm} (ho : f_X3_admitVisitor a0 σ = some out) : Met l yX3_admitVisitor wsX3_admitVisitor { frames := 4, cells := 0, slots := 0, locals := 93 } (va_Pc [.ref (G.2.2 161), .int a0] (PW G σ sz)) (Qi G sz out.1 out.2) 0 0 (AA G sz) := by
  refine Met.ofW (cc := cX3_admitVisitor) (maxL := 4) (ret := (some .int)) (by decide) rfl ?_
  intro p e s m args below meth c s₁ B0 hml hv
  obtain ⟨rfl, hpw⟩ := hv
  have hsz := hpw.1
  subst hsz
  obtain ⟨F, B⟩ := hpw.to
  have hx := B0.exec
  have hb := B0.bytes
  have hr := B0.returns
  have hts := atoms_spec (ws := wsX3_admitVisitor) B0.pre
  have hown : s.vm.findClass RX3 = some m.cls := findClass_of_methodNamed B0.named
  have hlocks := B0.notSynchronized
  have S : CallFix p m c cX3_admitVisitor 4 s _ wsX3_admitVisitor RX3 := ⟨hx, hb, hml, hown, hts⟩
  have hiX3 : ∀ w ∈ u_ws RX3 TX3 3, w ∈ wsX3_admitVisitor := by decide +kernel
  have hiX6 : ∀ w ∈ u_ws RX6 TX6 9, w ∈ wsX3_admitVisitor := by decide +kernel
  have hl := lv_entry [.ref (G.2.2 161), .int a0] (n := 4) (Nat.le_of_ble_eq_true rfl)
  rw [lg_entry_eq]
  generalize (lg_sl [.ref (G.2.2 161), .int a0] ++ List.replicate (4 - (lg_sl [.ref (G.2.2 161), .int a0]).length) Slot.unset).toArray = ls at hl ⊢
  have hl : lv_has ls 4 [(0, .ref (G.2.2 161)), (1, .int a0)] := hl
  unfold f_X3_admitVisitor at ho
  refine lv_iload_n hx hb dX3_admitVisitor_0 rfl (lv_at hl 1 rfl) ?_
  refine lv_if_lt (tgt := 10) hx hb dX3_admitVisitor_1 (by decide) (fun c1 => ?_) (fun c1 => ?_)
  · have ho := ip_ c1 ho
    refine lv_aload_n hx hb dX3_admitVisitor_10 rfl (lv_at hl 0 rfl) ?_
    refine r_get (ci := 7) (C := RX3) (T := TX3) (N := 3) S F B (kq (by decide) : kd 161 = 13 ∧ 161 < NN) rfl rfl hiX3 2 (by decide) (by decide +kernel) rfl dX3_admitVisitor_11 ?_
    refine lv_iconst (v := 1) hx hb dX3_admitVisitor_14 (by decide) ?_
    refine lv_iconst (v := 0) hx hb dX3_admitVisitor_15 (by decide) ?_
    obtain ⟨q2, σ3, hq2, ho⟩ := bnm_ ho
    refine k_iV (As := [.int 1, .int 0]) (rest := []) S F B (c_X5_because l G σ _ 1 0 hq2) (kq (by decide) : kd 157 = 10 ∧ 157 < NN) rfl rfl (cwV 2 hts gX3_admitVisitor_X5_because rfl rfl rfl (by decide +kernel) ⟨Nat.le_of_ble_eq_true rfl, Nat.le_of_ble_eq_true rfl⟩) rfl hl.1 rfl (Nat.le_of_ble_eq_true rfl) dX3_admitVisitor_16 ⟨Nat.le_of_ble_eq_true rfl, Nat.le_of_ble_eq_true rfl⟩ (fun H locs B => ?_)
    cases ho
    exact e_i B hx hb hr hlocks rfl rfl dX3_admitVisitor_19
  · have ho := in_ c1 ho
    refine lv_iload_n hx hb dX3_admitVisitor_4 rfl (lv_at hl 1 rfl) ?_
    refine lv_bipush (v := 99) hx hb dX3_admitVisitor_5 (by decide) ?_
    refine lv_icmp_le (tgt := 20) hx hb dX3_admitVisitor_7 (by decide) (fun c4 => ?_) (fun c4 => ?_)
    · have ho := ip_ c4 ho
      refine lv_aload_n hx hb dX3_admitVisitor_20 rfl (lv_at hl 0 rfl) ?_
      refine r_get (ci := 7) (C := RX3) (T := TX3) (N := 3) S F B (kq (by decide) : kd 161 = 13 ∧ 161 < NN) rfl rfl hiX3 0 (by decide) (by decide +kernel) rfl dX3_admitVisitor_21 ?_
      refine r_getN (ci := 10) (C := RX6) (T := TX6) (N := 9) S F B (kq (by decide) : kd 0 = 0 ∧ 0 < NN) rfl rfl hiX6 4 (by decide) (by decide) rfl dX3_admitVisitor_24 ?_
      obtain ⟨x5, ex5, ho⟩ := lt_ ho
      refine lv_nm ex5 ?_
      refine lv_istore_n (lv' := [(2, .int x5), (0, .ref (G.2.2 161)), (1, .int a0)]) hx hb dX3_admitVisitor_27 rfl hl (by decide) rfl (fun ls hl => ?_)
      refine lv_iload_n hx hb dX3_admitVisitor_28 rfl (lv_at hl 0 rfl) ?_
      refine lv_iconst (v := 5) hx hb dX3_admitVisitor_29 (by decide) ?_
      refine lv_icmp_lt (tgt := 44) hx hb dX3_admitVisitor_30 (by decide) (fun c6 => ?_) (fun c6 => ?_)
      · have ho := ip_ c6 ho
        refine lv_aload_n hx hb dX3_admitVisitor_44 rfl (lv_at hl 1 rfl) ?_
        refine r_get (ci := 7) (C := RX3) (T := TX3) (N := 3) S F B (kq (by decide) : kd 161 = 13 ∧ 161 < NN) rfl rfl hiX3 1 (by decide) (by decide +kernel) rfl dX3_admitVisitor_45 ?_
        refine lv_iconst (v := 0) hx hb dX3_admitVisitor_48 (by decide) ?_
        refine lv_bipush (v := 15) hx hb dX3_admitVisitor_49 (by decide) ?_
        obtain ⟨q7, σ8, hq7, ho⟩ := bnm_ ho
        refine k_iV (As := [.int 0, .int 15]) (rest := []) S F B (c_X8_hoursByDistance l G σ _ 0 15 hq7) (kq (by decide) : kd 158 = 11 ∧ 158 < NN) rfl rfl (cwV 2 hts gX3_admitVisitor_X8_hoursByDistance rfl rfl rfl (by decide +kernel) ⟨Nat.le_of_ble_eq_true rfl, Nat.le_of_ble_eq_true rfl⟩) rfl hl.1 rfl (Nat.le_of_ble_eq_true rfl) dX3_admitVisitor_51 ⟨Nat.le_of_ble_eq_true rfl, Nat.le_of_ble_eq_true rfl⟩ (fun H locs B => ?_)
        refine lv_istore_n (lv' := [(3, .int q7), (2, .int x5), (0, .ref (G.2.2 161)), (1, .int a0)]) hx hb dX3_admitVisitor_54 rfl hl (by decide) rfl (fun ls hl => ?_)
        refine lv_iload_n hx hb dX3_admitVisitor_55 rfl (lv_at hl 0 rfl) ?_
        refine lv_sipush (v := 1000) hx hb dX3_admitVisitor_56 (by decide) ?_
        refine lv_icmp_lt (tgt := 83) hx hb dX3_admitVisitor_59 (by decide) (fun c9 => ?_) (fun c9 => ?_)
        · have ho := ip_ c9 ho
          refine lv_aload_n hx hb dX3_admitVisitor_83 rfl (lv_at hl 2 rfl) ?_
          refine r_get (ci := 7) (C := RX3) (T := TX3) (N := 3) S F B (kq (by decide) : kd 161 = 13 ∧ 161 < NN) rfl rfl hiX3 0 (by decide) (by decide +kernel) rfl dX3_admitVisitor_84 ?_
          refine r_getN (ci := 10) (C := RX6) (T := TX6) (N := 9) S F B (kq (by decide) : kd 0 = 0 ∧ 0 < NN) rfl rfl hiX6 2 (by decide) (by decide) rfl dX3_admitVisitor_87 ?_
          refine lv_iload_n hx hb dX3_admitVisitor_90 rfl (lv_at hl 1 rfl) ?_
          obtain ⟨i10, ho⟩ := gd_ ho
          refine r_aald (t := 4) S F B (kq (by decide) : kd 8 = 5 ∧ 8 < NN) rfl rfl i10 dX3_admitVisitor_91 ?_
          refine lv_iload_n hx hb dX3_admitVisitor_92 rfl (lv_at hl 3 rfl) ?_
          refine lv_iload_n hx hb dX3_admitVisitor_93 rfl (lv_at hl 0 rfl) ?_
          obtain ⟨σ12, hq11, ho⟩ := bnd_ ho
          refine k_vV (As := [.int a0, .int q7]) (rest := []) S F B (c_X7_arrive l G σ8 _ (8 + 1 + x5.toNatClampNeg) a0 q7 (kgV i10 : kd (8 + 1 + x5.toNatClampNeg) = 6 ∧ (8 + 1 + x5.toNatClampNeg) < NN) hq11) (kgV i10 : kd (8 + 1 + x5.toNatClampNeg) = 6 ∧ (8 + 1 + x5.toNatClampNeg) < NN) rfl rfl (cwV 2 hts gX3_admitVisitor_X7_arrive rfl rfl rfl (by decide +kernel) ⟨Nat.le_of_ble_eq_true rfl, Nat.le_of_ble_eq_true rfl⟩) rfl hl.1 rfl (Nat.le_of_ble_eq_true rfl) dX3_admitVisitor_94 ⟨Nat.le_of_ble_eq_true rfl, Nat.le_of_ble_eq_true rfl⟩ (fun H locs B => ?_)
          refine lv_aload_n hx hb dX3_admitVisitor_97 rfl (lv_at hl 2 rfl) ?_
          refine r_get (ci := 7) (C := RX3) (T := TX3) (N := 3) S F B (kq (by decide) : kd 161 = 13 ∧ 161 < NN) rfl rfl hiX3 0 (by decide) (by decide +kernel) rfl dX3_admitVisitor_98 ?_
          refine lv_dup hx hb dX3_admitVisitor_101 rfl ?_
          refine r_getN (ci := 10) (C := RX6) (T := TX6) (N := 9) S F B (kq (by decide) : kd 0 = 0 ∧ 0 < NN) rfl rfl hiX6 4 (by decide) (by decide) rfl dX3_admitVisitor_102 ?_
          refine lv_iconst (v := 1) hx hb dX3_admitVisitor_105 (by decide) ?_
          refine lv_iadd hx hb dX3_admitVisitor_106 ?_
          refine r_putN (ci := 10) (C := RX6) (T := TX6) (N := 9) (ty := .int) S F B tyX6 tyX6_ok nmX6 (kq (by decide) : kd 0 = 0 ∧ 0 < NN) (fun _ => rfl) rfl hiX6 4 (by decide) (by decide) rfl rfl rfl rfl (fun _ => Nat.le_of_ble_eq_true rfl) (fun _ => rfl) dX3_admitVisitor_107 (fun H locs B => ?_)
          obtain ⟨σ13, eσ13, ho⟩ := lt_ ho
          rw [← eσ13] at B
          refine lv_aload_n hx hb dX3_admitVisitor_110 rfl (lv_at hl 2 rfl) ?_
          refine r_get (ci := 7) (C := RX3) (T := TX3) (N := 3) S F B (kq (by decide) : kd 161 = 13 ∧ 161 < NN) rfl rfl hiX3 0 (by decide) (by decide +kernel) rfl dX3_admitVisitor_111 ?_
          refine lv_dup hx hb dX3_admitVisitor_114 rfl ?_
          refine r_getN (ci := 10) (C := RX6) (T := TX6) (N := 9) S F B (kq (by decide) : kd 0 = 0 ∧ 0 < NN) rfl rfl hiX6 7 (by decide) (by decide) rfl dX3_admitVisitor_115 ?_
          refine lv_iload_n hx hb dX3_admitVisitor_118 rfl (lv_at hl 3 rfl) ?_
          refine lv_iadd hx hb dX3_admitVisitor_119 ?_
          refine r_putN (ci := 10) (C := RX6) (T := TX6) (N := 9) (ty := .int) S F B tyX6 tyX6_ok nmX6 (kq (by decide) : kd 0 = 0 ∧ 0 < NN) (fun _ => rfl) rfl hiX6 7 (by decide) (by decide) rfl rfl rfl rfl (fun _ => Nat.le_of_ble_eq_true rfl) (fun _ => rfl) dX3_admitVisitor_120 (fun H locs B => ?_)
          obtain ⟨σ14, eσ14, ho⟩ := lt_ ho
          rw [← eσ14] at B
          refine lv_iload_n hx hb dX3_admitVisitor_123 rfl (lv_at hl 1 rfl) ?_
          cases ho
          exact e_i B hx hb hr hlocks rfl rfl dX3_admitVisitor_124
        · have ho := in_ c9 ho
          refine lv_aload_n hx hb dX3_admitVisitor_62 rfl (lv_at hl 2 rfl) ?_
          refine r_get (ci := 7) (C := RX3) (T := TX3) (N := 3) S F B (kq (by decide) : kd 161 = 13 ∧ 161 < NN) rfl rfl hiX3 2 (by decide) (by decide +kernel) rfl dX3_admitVisitor_63 ?_
          refine lv_bipush (v := 6) hx hb dX3_admitVisitor_66 (by decide) ?_
          refine lv_aload_n hx hb dX3_admitVisitor_68 rfl (lv_at hl 2 rfl) ?_
          refine r_get (ci := 7) (C := RX3) (T := TX3) (N := 3) S F B (kq (by decide) : kd 161 = 13 ∧ 161 < NN) rfl rfl hiX3 1 (by decide) (by decide +kernel) rfl dX3_admitVisitor_69 ?_
          refine lv_iconst (v := 0) hx hb dX3_admitVisitor_72 (by decide) ?_
          obtain ⟨q15, hq15, ho⟩ := bnd_ ho
          refine k_iV (As := [.int 0]) (rest := [.int 6, .ref (G.2.2 157)]) S F B (c_X8_cellsReached l G σ8 _ 0 hq15) (kq (by decide) : kd 158 = 11 ∧ 158 < NN) rfl rfl (cwV 1 hts gX3_admitVisitor_X8_cellsReached rfl rfl rfl (by decide +kernel) ⟨Nat.le_of_ble_eq_true rfl, Nat.le_of_ble_eq_true rfl⟩) rfl hl.1 rfl (Nat.le_of_ble_eq_true rfl) dX3_admitVisitor_73 ⟨Nat.le_of_ble_eq_true rfl, Nat.le_of_ble_eq_true rfl⟩ (fun H locs B => ?_)
          obtain ⟨q16, hq16, ho⟩ := bnd_ ho
          refine k_iS (As := [.int q15]) (rest := [.int 6, .ref (G.2.2 157)]) S F B (c_J6_bitCount_0f7a4 l G σ8 _ q15 hq16) (va_cwS 1 hts gX3_admitVisitor_J6_bitCount_0f7a4 rfl rfl rfl (by decide +kernel) ⟨Nat.le_of_ble_eq_true rfl, Nat.le_of_ble_eq_true rfl⟩) rfl hl.1 rfl (Nat.le_of_ble_eq_true rfl) dX3_admitVisitor_76 ⟨Nat.le_of_ble_eq_true rfl, Nat.le_of_ble_eq_true rfl⟩ (fun H locs B => ?_)
          obtain ⟨q17, σ18, hq17, ho⟩ := bnm_ ho
          refine k_iV (As := [.int 6, .int q16]) (rest := []) S F B (c_X5_because l G σ8 _ 6 q16 hq17) (kq (by decide) : kd 157 = 10 ∧ 157 < NN) rfl rfl (cwV 2 hts gX3_admitVisitor_X5_because rfl rfl rfl (by decide +kernel) ⟨Nat.le_of_ble_eq_true rfl, Nat.le_of_ble_eq_true rfl⟩) rfl hl.1 rfl (Nat.le_of_ble_eq_true rfl) dX3_admitVisitor_79 ⟨Nat.le_of_ble_eq_true rfl, Nat.le_of_ble_eq_true rfl⟩ (fun H locs B => ?_)
          cases ho
          exact e_i B hx hb hr hlocks rfl rfl dX3_admitVisitor_82
      · have ho := in_ c6 ho
        refine lv_aload_n hx hb dX3_admitVisitor_33 rfl (lv_at hl 1 rfl) ?_
        refine r_get (ci := 7) (C := RX3) (T := TX3) (N := 3) S F B (kq (by decide) : kd 161 = 13 ∧ 161 < NN) rfl rfl hiX3 2 (by decide) (by decide +kernel) rfl dX3_admitVisitor_34 ?_
        refine lv_bipush (v := 13) hx hb dX3_admitVisitor_37 (by decide) ?_
        refine lv_iconst (v := 5) hx hb dX3_admitVisitor_39 (by decide) ?_
        obtain ⟨q19, σ20, hq19, ho⟩ := bnm_ ho
        refine k_iV (As := [.int 13, .int 5]) (rest := []) S F B (c_X5_because l G σ _ 13 5 hq19) (kq (by decide) : kd 157 = 10 ∧ 157 < NN) rfl rfl (cwV 2 hts gX3_admitVisitor_X5_because rfl rfl rfl (by decide +kernel) ⟨Nat.le_of_ble_eq_true rfl, Nat.le_of_ble_eq_true rfl⟩) rfl hl.1 rfl (Nat.le_of_ble_eq_true rfl) dX3_admitVisitor_40 ⟨Nat.le_of_ble_eq_true rfl, Nat.le_of_ble_eq_true rfl⟩ (fun H locs B => ?_)
        cases ho
        exact e_i B hx hb hr hlocks rfl rfl dX3_admitVisitor_43
    · have ho := in_ c4 ho
      refine lv_aload_n hx hb dX3_admitVisitor_10 rfl (lv_at hl 0 rfl) ?_
      refine r_get (ci := 7) (C := RX3) (T := TX3) (N := 3) S F B (kq (by decide) : kd 161 = 13 ∧ 161 < NN) rfl rfl hiX3 2 (by decide) (by decide +kernel) rfl dX3_admitVisitor_11 ?_
      refine lv_iconst (v := 1) hx hb dX3_admitVisitor_14 (by decide) ?_
      refine lv_iconst (v := 0) hx hb dX3_admitVisitor_15 (by decide) ?_
      obtain ⟨q21, σ22, hq21, ho⟩ := bnm_ ho
      refine k_iV (As := [.int 1, .int 0]) (rest := []) S F B (c_X5_because l G σ _ 1 0 hq21) (kq (by decide) : kd 157 = 10 ∧ 157 < NN) rfl rfl (cwV 2 hts gX3_admitVisitor_X5_because rfl rfl rfl (by decide +kernel) ⟨Nat.le_of_ble_eq_true rfl, Nat.le_of_ble_eq_true rfl⟩) rfl hl.1 rfl (Nat.le_of_ble_eq_true rfl) dX3_admitVisitor_16 ⟨Nat.le_of_ble_eq_true rfl, Nat.le_of_ble_eq_true rfl⟩ (fun H locs B => ?_)
      cases ho
      exact e_i B hx hb hr hlocks rfl rfl dX3_admitVisitor_19

set_option maxHeartbeats 4000000 in
set_option maxRecDepth 100000 in
theorem c_X3_giveBond (l : Launch) (G : Gd) (σ : Mm) (sz : Nat) (a0 : Int32) (a1 : Int32) (a2 : Int32) {out : Int32 × Mm} (ho : f_X3_giveBond a0 a1 a2 σ = some out) : Met l yX3_giveBond wsX3_giveBond { frames := 1, cells := 0, slots := 0, locals := 22 } (va_Pc [.ref (G.2.2 161), .int a0, .int a1, .int a2] (PW G σ sz)) (Qi G sz out.1 out.2) 0 0 (AA G sz) := by
  refine Met.ofW (cc := cX3_giveBond) (maxL := 7) (ret := (some .int)) (by decide) rfl ?_
  intro p e s m args below meth c s₁ B0 hml hv
  obtain ⟨rfl, hpw⟩ := hv
  have hsz := hpw.1
  subst hsz
  obtain ⟨F, B⟩ := hpw.to
  have hx := B0.exec
  have hb := B0.bytes
  have hr := B0.returns
  have hts := atoms_spec (ws := wsX3_giveBond) B0.pre
  have hown : s.vm.findClass RX3 = some m.cls := findClass_of_methodNamed B0.named
  have hlocks := B0.notSynchronized
  have S : CallFix p m c cX3_giveBond 7 s _ wsX3_giveBond RX3 := ⟨hx, hb, hml, hown, hts⟩
  have hiX1 : ∀ w ∈ u_ws RX1 TX1 4, w ∈ wsX3_giveBond := by decide +kernel
  have hiX3 : ∀ w ∈ u_ws RX3 TX3 3, w ∈ wsX3_giveBond := by decide +kernel
  have hiX6 : ∀ w ∈ u_ws RX6 TX6 9, w ∈ wsX3_giveBond := by decide +kernel
  have hiX7 : ∀ w ∈ u_ws RX7 TX7 8, w ∈ wsX3_giveBond := by decide +kernel
  have hl := lv_entry [.ref (G.2.2 161), .int a0, .int a1, .int a2] (n := 7) (Nat.le_of_ble_eq_true rfl)
  rw [lg_entry_eq]
  generalize (lg_sl [.ref (G.2.2 161), .int a0, .int a1, .int a2] ++ List.replicate (7 - (lg_sl [.ref (G.2.2 161), .int a0, .int a1, .int a2]).length) Slot.unset).toArray = ls at hl ⊢
  have hl : lv_has ls 7 [(0, .ref (G.2.2 161)), (1, .int a0), (2, .int a1), (3, .int a2)] := hl
  unfold f_X3_giveBond at ho
  refine lv_aload_n hx hb dX3_giveBond_0 rfl (lv_at hl 0 rfl) ?_
  refine r_get (ci := 7) (C := RX3) (T := TX3) (N := 3) S F B (kq (by decide) : kd 161 = 13 ∧ 161 < NN) rfl rfl hiX3 0 (by decide) (by decide +kernel) rfl dX3_giveBond_1 ?_
  refine lv_iload_n hx hb dX3_giveBond_4 rfl (lv_at hl 1 rfl) ?_
  obtain ⟨q1, hq1, ho⟩ := bnd_ ho
  refine k_qV (As := [.int a0]) (rest := []) S F B (c_X6_findGardener l G σ _ a0 hq1) (kq (by decide) : kd 0 = 0 ∧ 0 < NN) rfl rfl (cwV 1 hts gX3_giveBond_X6_findGardener rfl rfl rfl (by decide +kernel) ⟨Nat.le_of_ble_eq_true rfl, Nat.le_of_ble_eq_true rfl⟩) rfl hl.1 rfl (Nat.le_of_ble_eq_true rfl) dX3_giveBond_5 ⟨Nat.le_of_ble_eq_true rfl, Nat.le_of_ble_eq_true rfl⟩ (fun H locs B => ?_)
  cases q1 with
  | none =>
    have ho := oc_n ho
    refine lv_astoreN (lv' := [(4, .null), (0, .ref (G.2.2 161)), (1, .int a0), (2, .int a1), (3, .int a2)]) hx hb dX3_giveBond_8 hl (by decide) rfl (fun ls hl => ?_)
    refine lv_aloadN hx hb dX3_giveBond_10 (lv_at hl 0 rfl) ?_
    refine lv_ifnonnullN hx hb dX3_giveBond_12 ?_
    refine lv_aload_n hx hb dX3_giveBond_15 rfl (lv_at hl 1 rfl) ?_
    refine r_get (ci := 7) (C := RX3) (T := TX3) (N := 3) S F B (kq (by decide) : kd 161 = 13 ∧ 161 < NN) rfl rfl hiX3 2 (by decide) (by decide +kernel) rfl dX3_giveBond_16 ?_
    refine lv_iconst (v := 4) hx hb dX3_giveBond_19 (by decide) ?_
    refine lv_aload_n hx hb dX3_giveBond_20 rfl (lv_at hl 1 rfl) ?_
    refine r_get (ci := 7) (C := RX3) (T := TX3) (N := 3) S F B (kq (by decide) : kd 161 = 13 ∧ 161 < NN) rfl rfl hiX3 0 (by decide) (by decide +kernel) rfl dX3_giveBond_21 ?_
    refine r_getN (ci := 10) (C := RX6) (T := TX6) (N := 9) S F B (kq (by decide) : kd 0 = 0 ∧ 0 < NN) rfl rfl hiX6 3 (by decide) (by decide) rfl dX3_giveBond_24 ?_
    obtain ⟨q3, σ4, hq3, ho⟩ := bnm_ ho
    refine k_iV (As := [.int 4, .int (σ 0 3)]) (rest := []) S F B (c_X5_because l G σ _ 4 (σ 0 3) hq3) (kq (by decide) : kd 157 = 10 ∧ 157 < NN) rfl rfl (cwV 2 hts gX3_giveBond_X5_because rfl rfl rfl (by decide +kernel) ⟨Nat.le_of_ble_eq_true rfl, Nat.le_of_ble_eq_true rfl⟩) rfl hl.1 rfl (Nat.le_of_ble_eq_true rfl) dX3_giveBond_27 ⟨Nat.le_of_ble_eq_true rfl, Nat.le_of_ble_eq_true rfl⟩ (fun H locs B => ?_)
    cases ho
    exact e_i B hx hb hr hlocks rfl rfl dX3_giveBond_30
  | some j2 =>
    have ho := oc_s ho
    have hj2 : kd j2 = 4 ∧ j2 < NN := kf_gard hq1
    refine lv_astore (lv' := [(4, .ref (G.2.2 j2)), (0, .ref (G.2.2 161)), (1, .int a0), (2, .int a1), (3, .int a2)]) hx hb dX3_giveBond_8 hl (by decide) rfl (fun ls hl => ?_)
    refine lv_aload hx hb dX3_giveBond_10 (lv_at hl 0 rfl) ?_
    refine lv_ifnonnull (tgt := 31) hx hb dX3_giveBond_12 (by decide) ?_
    refine lv_aload_n hx hb dX3_giveBond_31 rfl (lv_at hl 1 rfl) ?_
    refine r_get (ci := 7) (C := RX3) (T := TX3) (N := 3) S F B (kq (by decide) : kd 161 = 13 ∧ 161 < NN) rfl rfl hiX3 0 (by decide) (by decide +kernel) rfl dX3_giveBond_32 ?_
    refine lv_iload_n hx hb dX3_giveBond_35 rfl (lv_at hl 3 rfl) ?_
    obtain ⟨q5, hq5, ho⟩ := bnd_ ho
    refine k_qV (As := [.int a1]) (rest := []) S F B (c_X6_findVisitor l G σ _ a1 hq5) (kq (by decide) : kd 0 = 0 ∧ 0 < NN) rfl rfl (cwV 1 hts gX3_giveBond_X6_findVisitor rfl rfl rfl (by decide +kernel) ⟨Nat.le_of_ble_eq_true rfl, Nat.le_of_ble_eq_true rfl⟩) rfl hl.1 rfl (Nat.le_of_ble_eq_true rfl) dX3_giveBond_36 ⟨Nat.le_of_ble_eq_true rfl, Nat.le_of_ble_eq_true rfl⟩ (fun H locs B => ?_)
    cases q5 with
    | none =>
      have ho := oc_n ho
      refine lv_astoreN (lv' := [(5, .null), (4, .ref (G.2.2 j2)), (0, .ref (G.2.2 161)), (1, .int a0), (2, .int a1), (3, .int a2)]) hx hb dX3_giveBond_39 hl (by decide) rfl (fun ls hl => ?_)
      refine lv_aloadN hx hb dX3_giveBond_41 (lv_at hl 0 rfl) ?_
      refine lv_ifnonnullN hx hb dX3_giveBond_43 ?_
      refine lv_aload_n hx hb dX3_giveBond_46 rfl (lv_at hl 2 rfl) ?_
      refine r_get (ci := 7) (C := RX3) (T := TX3) (N := 3) S F B (kq (by decide) : kd 161 = 13 ∧ 161 < NN) rfl rfl hiX3 2 (by decide) (by decide +kernel) rfl dX3_giveBond_47 ?_
      refine lv_bipush (v := 7) hx hb dX3_giveBond_50 (by decide) ?_
      refine lv_aload_n hx hb dX3_giveBond_52 rfl (lv_at hl 2 rfl) ?_
      refine r_get (ci := 7) (C := RX3) (T := TX3) (N := 3) S F B (kq (by decide) : kd 161 = 13 ∧ 161 < NN) rfl rfl hiX3 0 (by decide) (by decide +kernel) rfl dX3_giveBond_53 ?_
      refine r_getN (ci := 10) (C := RX6) (T := TX6) (N := 9) S F B (kq (by decide) : kd 0 = 0 ∧ 0 < NN) rfl rfl hiX6 4 (by decide) (by decide) rfl dX3_giveBond_56 ?_
      obtain ⟨q7, σ8, hq7, ho⟩ := bnm_ ho
      refine k_iV (As := [.int 7, .int (σ 0 4)]) (rest := []) S F B (c_X5_because l G σ _ 7 (σ 0 4) hq7) (kq (by decide) : kd 157 = 10 ∧ 157 < NN) rfl rfl (cwV 2 hts gX3_giveBond_X5_because rfl rfl rfl (by decide +kernel) ⟨Nat.le_of_ble_eq_true rfl, Nat.le_of_ble_eq_true rfl⟩) rfl hl.1 rfl (Nat.le_of_ble_eq_true rfl) dX3_giveBond_59 ⟨Nat.le_of_ble_eq_true rfl, Nat.le_of_ble_eq_true rfl⟩ (fun H locs B => ?_)
      cases ho
      exact e_i B hx hb hr hlocks rfl rfl dX3_giveBond_62
    | some j6 =>
      have ho := oc_s ho
      have hj6 : kd j6 = 6 ∧ j6 < NN := kf_vis hq5
      refine lv_astore (lv' := [(5, .ref (G.2.2 j6)), (4, .ref (G.2.2 j2)), (0, .ref (G.2.2 161)), (1, .int a0), (2, .int a1), (3, .int a2)]) hx hb dX3_giveBond_39 hl (by decide) rfl (fun ls hl => ?_)
      refine lv_aload hx hb dX3_giveBond_41 (lv_at hl 0 rfl) ?_
      refine lv_ifnonnull (tgt := 63) hx hb dX3_giveBond_43 (by decide) ?_
      refine lv_iload_n hx hb dX3_giveBond_63 rfl (lv_at hl 5 rfl) ?_
      refine lv_iconst (v := 1) hx hb dX3_giveBond_64 (by decide) ?_
      refine lv_icmp_lt (tgt := 73) hx hb dX3_giveBond_65 (by decide) (fun c9 => ?_) (fun c9 => ?_)
      · have ho := ip_ c9 ho
        refine lv_aload_n hx hb dX3_giveBond_73 rfl (lv_at hl 2 rfl) ?_
        refine r_get (ci := 7) (C := RX3) (T := TX3) (N := 3) S F B (kq (by decide) : kd 161 = 13 ∧ 161 < NN) rfl rfl hiX3 2 (by decide) (by decide +kernel) rfl dX3_giveBond_74 ?_
        refine lv_iconst (v := 1) hx hb dX3_giveBond_77 (by decide) ?_
        refine lv_iconst (v := 0) hx hb dX3_giveBond_78 (by decide) ?_
        obtain ⟨q10, σ11, hq10, ho⟩ := bnm_ ho
        refine k_iV (As := [.int 1, .int 0]) (rest := []) S F B (c_X5_because l G σ _ 1 0 hq10) (kq (by decide) : kd 157 = 10 ∧ 157 < NN) rfl rfl (cwV 2 hts gX3_giveBond_X5_because rfl rfl rfl (by decide +kernel) ⟨Nat.le_of_ble_eq_true rfl, Nat.le_of_ble_eq_true rfl⟩) rfl hl.1 rfl (Nat.le_of_ble_eq_true rfl) dX3_giveBond_79 ⟨Nat.le_of_ble_eq_true rfl, Nat.le_of_ble_eq_true rfl⟩ (fun H locs B => ?_)
        cases ho
        exact e_i B hx hb hr hlocks rfl rfl dX3_giveBond_82
      · have ho := in_ c9 ho
        refine lv_iload_n hx hb dX3_giveBond_68 rfl (lv_at hl 5 rfl) ?_
        refine lv_iconst (v := 5) hx hb dX3_giveBond_69 (by decide) ?_
        refine lv_icmp_le (tgt := 83) hx hb dX3_giveBond_70 (by decide) (fun c12 => ?_) (fun c12 => ?_)
        · have ho := ip_ c12 ho
          refine lv_aload hx hb dX3_giveBond_83 (lv_at hl 0 rfl) ?_
          refine r_getN (ci := 11) (C := RX7) (T := TX7) (N := 8) S F B hj6 rfl rfl hiX7 7 (by decide) (by decide) rfl dX3_giveBond_85 ?_
          refine lv_if_eq (tgt := 106) hx hb dX3_giveBond_88 (by decide) (fun c13 => ?_) (fun c13 => ?_)
          · have ho := ip_ c13 ho
            refine lv_aload hx hb dX3_giveBond_106 (lv_at hl 0 rfl) ?_
            obtain ⟨q14, hq14, ho⟩ := bnd_ ho
            refine k_iV (As := []) (rest := []) S F B (c_X7_hasBond l G σ _ j6 hj6 hq14) hj6 rfl rfl (cwV 0 hts gX3_giveBond_X7_hasBond rfl rfl rfl (by decide +kernel) ⟨Nat.le_of_ble_eq_true rfl, Nat.le_of_ble_eq_true rfl⟩) rfl hl.1 rfl (Nat.le_of_ble_eq_true rfl) dX3_giveBond_108 ⟨Nat.le_of_ble_eq_true rfl, Nat.le_of_ble_eq_true rfl⟩ (fun H locs B => ?_)
            refine lv_if_eq (tgt := 129) hx hb dX3_giveBond_111 (by decide) (fun c15 => ?_) (fun c15 => ?_)
            · have ho := ip_ c15 ho
              refine lv_aload hx hb dX3_giveBond_129 (lv_at hl 0 rfl) ?_
              refine lv_aload_n hx hb dX3_giveBond_131 rfl (lv_at hl 2 rfl) ?_
              refine r_get (ci := 7) (C := RX3) (T := TX3) (N := 3) S F B (kq (by decide) : kd 161 = 13 ∧ 161 < NN) rfl rfl hiX3 0 (by decide) (by decide +kernel) rfl dX3_giveBond_132 ?_
              refine r_getN (ci := 10) (C := RX6) (T := TX6) (N := 9) S F B (kq (by decide) : kd 0 = 0 ∧ 0 < NN) rfl rfl hiX6 5 (by decide) (by decide) rfl dX3_giveBond_135 ?_
              obtain ⟨q16, hq16, ho⟩ := bnd_ ho
              refine k_iV (As := [.int (σ 0 5)]) (rest := []) S F B (c_X7_isIn l G σ _ j6 (σ 0 5) hj6 hq16) hj6 rfl rfl (cwV 1 hts gX3_giveBond_X7_isIn rfl rfl rfl (by decide +kernel) ⟨Nat.le_of_ble_eq_true rfl, Nat.le_of_ble_eq_true rfl⟩) rfl hl.1 rfl (Nat.le_of_ble_eq_true rfl) dX3_giveBond_138 ⟨Nat.le_of_ble_eq_true rfl, Nat.le_of_ble_eq_true rfl⟩ (fun H locs B => ?_)
              refine lv_if_eq (tgt := 161) hx hb dX3_giveBond_141 (by decide) (fun c17 => ?_) (fun c17 => ?_)
              · have ho := ip_ c17 ho
                refine lv_iconst (v := 2) hx hb dX3_giveBond_161 (by decide) ?_
                refine lv_iload_n hx hb dX3_giveBond_162 rfl (lv_at hl 5 rfl) ?_
                refine lv_imul hx hb dX3_giveBond_163 ?_
                obtain ⟨x18, ex18, ho⟩ := lt_ ho
                refine lv_nm ex18 ?_
                refine lv_istore (lv' := [(6, .int x18), (5, .ref (G.2.2 j6)), (4, .ref (G.2.2 j2)), (0, .ref (G.2.2 161)), (1, .int a0), (2, .int a1), (3, .int a2)]) hx hb dX3_giveBond_164 hl (by decide) rfl (fun ls hl => ?_)
                refine lv_aload hx hb dX3_giveBond_166 (lv_at hl 1 rfl) ?_
                refine r_getN (ci := 11) (C := RX7) (T := TX7) (N := 8) S F B hj6 rfl rfl hiX7 0 (by decide) (by decide) rfl dX3_giveBond_168 ?_
                refine lv_iload hx hb dX3_giveBond_171 (lv_at hl 0 rfl) ?_
                refine lv_icmp_ge (tgt := 193) hx hb dX3_giveBond_173 (by decide) (fun c19 => ?_) (fun c19 => ?_)
                · have ho := ip_ c19 ho
                  refine lv_aload hx hb dX3_giveBond_193 (lv_at hl 1 rfl) ?_
                  refine lv_dup hx hb dX3_giveBond_195 rfl ?_
                  refine r_getN (ci := 11) (C := RX7) (T := TX7) (N := 8) S F B hj6 rfl rfl hiX7 0 (by decide) (by decide) rfl dX3_giveBond_196 ?_
                  refine lv_iload hx hb dX3_giveBond_199 (lv_at hl 0 rfl) ?_
                  refine lv_isub hx hb dX3_giveBond_201 ?_
                  refine r_putN (ci := 11) (C := RX7) (T := TX7) (N := 8) (ty := .int) S F B tyX7 tyX7_ok nmX7 hj6 (fun _ => rfl) rfl hiX7 0 (by decide) (by decide) rfl rfl rfl rfl (fun _ => Nat.le_of_ble_eq_true rfl) (fun _ => rfl) dX3_giveBond_202 (fun H locs B => ?_)
                  obtain ⟨σ20, eσ20, ho⟩ := lt_ ho
                  rw [← eσ20] at B
                  refine lv_aload hx hb dX3_giveBond_205 (lv_at hl 1 rfl) ?_
                  refine lv_iload_n hx hb dX3_giveBond_207 rfl (lv_at hl 4 rfl) ?_
                  refine lv_iload_n hx hb dX3_giveBond_208 rfl (lv_at hl 6 rfl) ?_
                  obtain ⟨σ22, hq21, ho⟩ := bnd_ ho
                  refine k_vV (As := [.int a0, .int a2]) (rest := []) S F B (c_X7_takeBond l G σ20 _ j6 a0 a2 hj6 hq21) hj6 rfl rfl (cwV 2 hts gX3_giveBond_X7_takeBond rfl rfl rfl (by decide +kernel) ⟨Nat.le_of_ble_eq_true rfl, Nat.le_of_ble_eq_true rfl⟩) rfl hl.1 rfl (Nat.le_of_ble_eq_true rfl) dX3_giveBond_209 ⟨Nat.le_of_ble_eq_true rfl, Nat.le_of_ble_eq_true rfl⟩ (fun H locs B => ?_)
                  refine lv_aload hx hb dX3_giveBond_212 (lv_at hl 2 rfl) ?_
                  refine lv_dup hx hb dX3_giveBond_214 rfl ?_
                  refine r_getN (ci := 5) (C := RX1) (T := TX1) (N := 4) S F B hj2 rfl rfl hiX1 0 (by decide) (by decide) rfl dX3_giveBond_215 ?_
                  refine lv_iload hx hb dX3_giveBond_218 (lv_at hl 0 rfl) ?_
                  refine lv_iadd hx hb dX3_giveBond_220 ?_
                  refine r_putN (ci := 5) (C := RX1) (T := TX1) (N := 4) (ty := .int) S F B tyX1 tyX1_ok nmX1 hj2 (fun _ => rfl) rfl hiX1 0 (by decide) (by decide) rfl rfl rfl rfl (fun _ => Nat.le_of_ble_eq_true rfl) (fun _ => rfl) dX3_giveBond_221 (fun H locs B => ?_)
                  obtain ⟨σ23, eσ23, ho⟩ := lt_ ho
                  rw [← eσ23] at B
                  refine lv_aload hx hb dX3_giveBond_224 (lv_at hl 2 rfl) ?_
                  refine lv_dup hx hb dX3_giveBond_226 rfl ?_
                  refine r_getN (ci := 5) (C := RX1) (T := TX1) (N := 4) S F B hj2 rfl rfl hiX1 1 (by decide) (by decide) rfl dX3_giveBond_227 ?_
                  refine lv_iload hx hb dX3_giveBond_230 (lv_at hl 0 rfl) ?_
                  refine lv_iadd hx hb dX3_giveBond_232 ?_
                  refine r_putN (ci := 5) (C := RX1) (T := TX1) (N := 4) (ty := .int) S F B tyX1 tyX1_ok nmX1 hj2 (fun _ => rfl) rfl hiX1 1 (by decide) (by decide) rfl rfl rfl rfl (fun _ => Nat.le_of_ble_eq_true rfl) (fun _ => rfl) dX3_giveBond_233 (fun H locs B => ?_)
                  obtain ⟨σ24, eσ24, ho⟩ := lt_ ho
                  rw [← eσ24] at B
                  refine lv_aload hx hb dX3_giveBond_236 (lv_at hl 1 rfl) ?_
                  refine r_getN (ci := 11) (C := RX7) (T := TX7) (N := 8) S F B hj6 rfl rfl hiX7 0 (by decide) (by decide) rfl dX3_giveBond_238 ?_
                  cases ho
                  exact e_i B hx hb hr hlocks rfl rfl dX3_giveBond_241
                · have ho := in_ c19 ho
                  refine lv_aload_n hx hb dX3_giveBond_176 rfl (lv_at hl 3 rfl) ?_
                  refine r_get (ci := 7) (C := RX3) (T := TX3) (N := 3) S F B (kq (by decide) : kd 161 = 13 ∧ 161 < NN) rfl rfl hiX3 2 (by decide) (by decide +kernel) rfl dX3_giveBond_177 ?_
                  refine lv_iconst (v := 5) hx hb dX3_giveBond_180 (by decide) ?_
                  refine lv_iload hx hb dX3_giveBond_181 (lv_at hl 0 rfl) ?_
                  refine lv_aload hx hb dX3_giveBond_183 (lv_at hl 1 rfl) ?_
                  refine r_getN (ci := 11) (C := RX7) (T := TX7) (N := 8) S F B hj6 rfl rfl hiX7 0 (by decide) (by decide) rfl dX3_giveBond_185 ?_
                  refine lv_isub hx hb dX3_giveBond_188 ?_
                  obtain ⟨q25, σ26, hq25, ho⟩ := bnm_ ho
                  refine k_iV (As := [.int 5, .int (x18 - (σ j6 0))]) (rest := []) S F B (c_X5_because l G σ _ 5 (x18 - (σ j6 0)) hq25) (kq (by decide) : kd 157 = 10 ∧ 157 < NN) rfl rfl (cwV 2 hts gX3_giveBond_X5_because rfl rfl rfl (by decide +kernel) ⟨Nat.le_of_ble_eq_true rfl, Nat.le_of_ble_eq_true rfl⟩) rfl hl.1 rfl (Nat.le_of_ble_eq_true rfl) dX3_giveBond_189 ⟨Nat.le_of_ble_eq_true rfl, Nat.le_of_ble_eq_true rfl⟩ (fun H locs B => ?_)
                  cases ho
                  exact e_i B hx hb hr hlocks rfl rfl dX3_giveBond_192
              · have ho := in_ c17 ho
                refine lv_aload_n hx hb dX3_giveBond_144 rfl (lv_at hl 2 rfl) ?_
                refine r_get (ci := 7) (C := RX3) (T := TX3) (N := 3) S F B (kq (by decide) : kd 161 = 13 ∧ 161 < NN) rfl rfl hiX3 2 (by decide) (by decide +kernel) rfl dX3_giveBond_145 ?_
                refine lv_bipush (v := 10) hx hb dX3_giveBond_148 (by decide) ?_
                refine lv_aload_n hx hb dX3_giveBond_150 rfl (lv_at hl 2 rfl) ?_
                refine r_get (ci := 7) (C := RX3) (T := TX3) (N := 3) S F B (kq (by decide) : kd 161 = 13 ∧ 161 < NN) rfl rfl hiX3 0 (by decide) (by decide +kernel) rfl dX3_giveBond_151 ?_
                refine r_getN (ci := 10) (C := RX6) (T := TX6) (N := 9) S F B (kq (by decide) : kd 0 = 0 ∧ 0 < NN) rfl rfl hiX6 5 (by decide) (by decide) rfl dX3_giveBond_154 ?_
                obtain ⟨q27, σ28, hq27, ho⟩ := bnm_ ho
                refine k_iV (As := [.int 10, .int (σ 0 5)]) (rest := []) S F B (c_X5_because l G σ _ 10 (σ 0 5) hq27) (kq (by decide) : kd 157 = 10 ∧ 157 < NN) rfl rfl (cwV 2 hts gX3_giveBond_X5_because rfl rfl rfl (by decide +kernel) ⟨Nat.le_of_ble_eq_true rfl, Nat.le_of_ble_eq_true rfl⟩) rfl hl.1 rfl (Nat.le_of_ble_eq_true rfl) dX3_giveBond_157 ⟨Nat.le_of_ble_eq_true rfl, Nat.le_of_ble_eq_true rfl⟩ (fun H locs B => ?_)
                cases ho
                exact e_i B hx hb hr hlocks rfl rfl dX3_giveBond_160
            · have ho := in_ c15 ho
              refine lv_aload_n hx hb dX3_giveBond_114 rfl (lv_at hl 2 rfl) ?_
              refine r_get (ci := 7) (C := RX3) (T := TX3) (N := 3) S F B (kq (by decide) : kd 161 = 13 ∧ 161 < NN) rfl rfl hiX3 2 (by decide) (by decide +kernel) rfl dX3_giveBond_115 ?_
              refine lv_bipush (v := 8) hx hb dX3_giveBond_118 (by decide) ?_
              refine lv_aload hx hb dX3_giveBond_120 (lv_at hl 0 rfl) ?_
              refine r_getN (ci := 11) (C := RX7) (T := TX7) (N := 8) S F B hj6 rfl rfl hiX7 4 (by decide) (by decide) rfl dX3_giveBond_122 ?_
              obtain ⟨q29, σ30, hq29, ho⟩ := bnm_ ho
              refine k_iV (As := [.int 8, .int (σ j6 4)]) (rest := []) S F B (c_X5_because l G σ _ 8 (σ j6 4) hq29) (kq (by decide) : kd 157 = 10 ∧ 157 < NN) rfl rfl (cwV 2 hts gX3_giveBond_X5_because rfl rfl rfl (by decide +kernel) ⟨Nat.le_of_ble_eq_true rfl, Nat.le_of_ble_eq_true rfl⟩) rfl hl.1 rfl (Nat.le_of_ble_eq_true rfl) dX3_giveBond_125 ⟨Nat.le_of_ble_eq_true rfl, Nat.le_of_ble_eq_true rfl⟩ (fun H locs B => ?_)
              cases ho
              exact e_i B hx hb hr hlocks rfl rfl dX3_giveBond_128
          · have ho := in_ c13 ho
            refine lv_aload_n hx hb dX3_giveBond_91 rfl (lv_at hl 2 rfl) ?_
            refine r_get (ci := 7) (C := RX3) (T := TX3) (N := 3) S F B (kq (by decide) : kd 161 = 13 ∧ 161 < NN) rfl rfl hiX3 2 (by decide) (by decide +kernel) rfl dX3_giveBond_92 ?_
            refine lv_bipush (v := 9) hx hb dX3_giveBond_95 (by decide) ?_
            refine lv_aload hx hb dX3_giveBond_97 (lv_at hl 0 rfl) ?_
            refine r_getN (ci := 11) (C := RX7) (T := TX7) (N := 8) S F B hj6 rfl rfl hiX7 2 (by decide) (by decide) rfl dX3_giveBond_99 ?_
            obtain ⟨q31, σ32, hq31, ho⟩ := bnm_ ho
            refine k_iV (As := [.int 9, .int (σ j6 2)]) (rest := []) S F B (c_X5_because l G σ _ 9 (σ j6 2) hq31) (kq (by decide) : kd 157 = 10 ∧ 157 < NN) rfl rfl (cwV 2 hts gX3_giveBond_X5_because rfl rfl rfl (by decide +kernel) ⟨Nat.le_of_ble_eq_true rfl, Nat.le_of_ble_eq_true rfl⟩) rfl hl.1 rfl (Nat.le_of_ble_eq_true rfl) dX3_giveBond_102 ⟨Nat.le_of_ble_eq_true rfl, Nat.le_of_ble_eq_true rfl⟩ (fun H locs B => ?_)
            cases ho
            exact e_i B hx hb hr hlocks rfl rfl dX3_giveBond_105
        · have ho := in_ c12 ho
          refine lv_aload_n hx hb dX3_giveBond_73 rfl (lv_at hl 2 rfl) ?_
          refine r_get (ci := 7) (C := RX3) (T := TX3) (N := 3) S F B (kq (by decide) : kd 161 = 13 ∧ 161 < NN) rfl rfl hiX3 2 (by decide) (by decide +kernel) rfl dX3_giveBond_74 ?_
          refine lv_iconst (v := 1) hx hb dX3_giveBond_77 (by decide) ?_
          refine lv_iconst (v := 0) hx hb dX3_giveBond_78 (by decide) ?_
          obtain ⟨q33, σ34, hq33, ho⟩ := bnm_ ho
          refine k_iV (As := [.int 1, .int 0]) (rest := []) S F B (c_X5_because l G σ _ 1 0 hq33) (kq (by decide) : kd 157 = 10 ∧ 157 < NN) rfl rfl (cwV 2 hts gX3_giveBond_X5_because rfl rfl rfl (by decide +kernel) ⟨Nat.le_of_ble_eq_true rfl, Nat.le_of_ble_eq_true rfl⟩) rfl hl.1 rfl (Nat.le_of_ble_eq_true rfl) dX3_giveBond_79 ⟨Nat.le_of_ble_eq_true rfl, Nat.le_of_ble_eq_true rfl⟩ (fun H locs B => ?_)
          cases ho
          exact e_i B hx hb hr hlocks rfl rfl dX3_giveBond_82

set_option maxHeartbeats 4000000 in
set_option maxRecDepth 100000 in
theorem c_X3_leaveMaze (l : Launch) (G : Gd) (σ : Mm) (sz : Nat) (o0 : Nat) (ho0 : kd o0 = 6 ∧ o0 < NN) {out : Mm} (ho : f_X3_leaveMaze o0 σ = some out) : Met l yX3_leaveMaze wsX3_leaveMaze { frames := 3, cells := 0, slots := 0, locals := 74 } (va_Pc [.ref (G.2.2 161), .ref (G.2.2 o0)] (PW G σ sz)) (Qv G sz out) 0 0 (AA G sz) := by
  refine Met.ofW (cc := cX3_leaveMaze) (maxL := 4) (ret := none) (by decide) rfl ?_
  intro p e s m args below meth c s₁ B0 hml hv
  obtain ⟨rfl, hpw⟩ := hv
  have hsz := hpw.1
  subst hsz
  obtain ⟨F, B⟩ := hpw.to
  have hx := B0.exec
  have hb := B0.bytes
  have hr := B0.returns
  have hts := atoms_spec (ws := wsX3_leaveMaze) B0.pre
  have hown : s.vm.findClass RX3 = some m.cls := findClass_of_methodNamed B0.named
  have hlocks := B0.notSynchronized
  have S : CallFix p m c cX3_leaveMaze 4 s _ wsX3_leaveMaze RX3 := ⟨hx, hb, hml, hown, hts⟩
  have hiX1 : ∀ w ∈ u_ws RX1 TX1 4, w ∈ wsX3_leaveMaze := by decide +kernel
  have hiX3 : ∀ w ∈ u_ws RX3 TX3 3, w ∈ wsX3_leaveMaze := by decide +kernel
  have hiX7 : ∀ w ∈ u_ws RX7 TX7 8, w ∈ wsX3_leaveMaze := by decide +kernel
  have hl := lv_entry [.ref (G.2.2 161), .ref (G.2.2 o0)] (n := 4) (Nat.le_of_ble_eq_true rfl)
  rw [lg_entry_eq]
  generalize (lg_sl [.ref (G.2.2 161), .ref (G.2.2 o0)] ++ List.replicate (4 - (lg_sl [.ref (G.2.2 161), .ref (G.2.2 o0)]).length) Slot.unset).toArray = ls at hl ⊢
  have hl : lv_has ls 4 [(0, .ref (G.2.2 161)), (1, .ref (G.2.2 o0))] := hl
  unfold f_X3_leaveMaze at ho
  refine lv_aload_n hx hb dX3_leaveMaze_0 rfl (lv_at hl 0 rfl) ?_
  refine r_get (ci := 7) (C := RX3) (T := TX3) (N := 3) S F B (kq (by decide) : kd 161 = 13 ∧ 161 < NN) rfl rfl hiX3 0 (by decide) (by decide +kernel) rfl dX3_leaveMaze_1 ?_
  refine lv_aload_n hx hb dX3_leaveMaze_4 rfl (lv_at hl 1 rfl) ?_
  refine r_getN (ci := 11) (C := RX7) (T := TX7) (N := 8) S F B ho0 rfl rfl hiX7 4 (by decide) (by decide) rfl dX3_leaveMaze_5 ?_
  obtain ⟨q1, hq1, ho⟩ := bnd_ ho
  refine k_qV (As := [.int (σ o0 4)]) (rest := []) S F B (c_X6_findGardener l G σ _ (σ o0 4) hq1) (kq (by decide) : kd 0 = 0 ∧ 0 < NN) rfl rfl (cwV 1 hts gX3_leaveMaze_X6_findGardener rfl rfl rfl (by decide +kernel) ⟨Nat.le_of_ble_eq_true rfl, Nat.le_of_ble_eq_true rfl⟩) rfl hl.1 rfl (Nat.le_of_ble_eq_true rfl) dX3_leaveMaze_8 ⟨Nat.le_of_ble_eq_true rfl, Nat.le_of_ble_eq_true rfl⟩ (fun H locs B => ?_)
  cases q1 with
  | none =>
    have ho := oc_n ho
    refine lv_astore_nN (lv' := [(2, .null), (0, .ref (G.2.2 161)), (1, .ref (G.2.2 o0))]) hx hb dX3_leaveMaze_11 rfl hl (by decide) rfl (fun ls hl => ?_)
    refine lv_aload_nN hx hb dX3_leaveMaze_12 rfl (lv_at hl 0 rfl) ?_
    refine lv_ifnullN (tgt := 59) hx hb dX3_leaveMaze_13 (by decide) ?_
    refine lv_aload_n hx hb dX3_leaveMaze_59 rfl (lv_at hl 2 rfl) ?_
    obtain ⟨σ4, hq3, ho⟩ := bnd_ ho
    refine k_vV (As := []) (rest := []) S F B (c_X7_endBond l G σ _ o0 ho0 hq3) ho0 rfl rfl (cwV 0 hts gX3_leaveMaze_X7_endBond rfl rfl rfl (by decide +kernel) ⟨Nat.le_of_ble_eq_true rfl, Nat.le_of_ble_eq_true rfl⟩) rfl hl.1 rfl (Nat.le_of_ble_eq_true rfl) dX3_leaveMaze_60 ⟨Nat.le_of_ble_eq_true rfl, Nat.le_of_ble_eq_true rfl⟩ (fun H locs B => ?_)
    refine lv_aload_n hx hb dX3_leaveMaze_63 rfl (lv_at hl 2 rfl) ?_
    refine lv_iconst (v := 1) hx hb dX3_leaveMaze_64 (by decide) ?_
    refine r_putN (ci := 11) (C := RX7) (T := TX7) (N := 8) (ty := .boolean) S F B tyX7 tyX7_ok nmX7 ho0 (fun _ => rfl) rfl hiX7 7 (by decide) (by decide) rfl rfl rfl rfl (fun _ => Nat.le_of_ble_eq_true rfl) (fun _ => rfl) dX3_leaveMaze_65 (fun H locs B => ?_)
    obtain ⟨σ5, eσ5, ho⟩ := lt_ ho
    rw [← eσ5] at B
    cases ho
    exact e_v B hx hb hr hlocks dX3_leaveMaze_68
  | some j2 =>
    have ho := oc_s ho
    have hj2 : kd j2 = 4 ∧ j2 < NN := kf_gard hq1
    refine lv_astore_n (lv' := [(2, .ref (G.2.2 j2)), (0, .ref (G.2.2 161)), (1, .ref (G.2.2 o0))]) hx hb dX3_leaveMaze_11 rfl hl (by decide) rfl (fun ls hl => ?_)
    refine lv_aload_n hx hb dX3_leaveMaze_12 rfl (lv_at hl 0 rfl) ?_
    refine lv_ifnull hx hb dX3_leaveMaze_13 ?_
    refine lv_aload_n hx hb dX3_leaveMaze_16 rfl (lv_at hl 2 rfl) ?_
    refine lv_iconst (v := 0) hx hb dX3_leaveMaze_17 (by decide) ?_
    obtain ⟨q6, hq6, ho⟩ := bnd_ ho
    refine k_iV (As := [.int 0]) (rest := []) S F B (c_X7_dueAfter l G σ _ o0 0 ho0 hq6) ho0 rfl rfl (cwV 1 hts gX3_leaveMaze_X7_dueAfter rfl rfl rfl (by decide +kernel) ⟨Nat.le_of_ble_eq_true rfl, Nat.le_of_ble_eq_true rfl⟩) rfl hl.1 rfl (Nat.le_of_ble_eq_true rfl) dX3_leaveMaze_18 ⟨Nat.le_of_ble_eq_true rfl, Nat.le_of_ble_eq_true rfl⟩ (fun H locs B => ?_)
    refine lv_aload_n hx hb dX3_leaveMaze_21 rfl (lv_at hl 0 rfl) ?_
    refine r_getN (ci := 5) (C := RX1) (T := TX1) (N := 4) S F B hj2 rfl rfl hiX1 0 (by decide) (by decide) rfl dX3_leaveMaze_22 ?_
    refine va_mmin hx hb (hml.trans hl.1.symm) hown (hts _ (by decide +kernel)) (hts _ (by decide +kernel)) (hts _ (by decide +kernel)) (hts _ (by decide +kernel)) (Nat.le_of_ble_eq_true rfl) (Nat.le_of_ble_eq_true rfl) (Nat.le_of_ble_eq_true rfl) (Nat.le_of_ble_eq_true rfl) dX3_leaveMaze_25 ?_
    obtain ⟨x7, ex7, ho⟩ := lt_ ho
    refine lv_nm ex7 ?_
    refine lv_istore_n (lv' := [(3, .int x7), (2, .ref (G.2.2 j2)), (0, .ref (G.2.2 161)), (1, .ref (G.2.2 o0))]) hx hb dX3_leaveMaze_28 rfl hl (by decide) rfl (fun ls hl => ?_)
    refine lv_aload_n hx hb dX3_leaveMaze_29 rfl (lv_at hl 1 rfl) ?_
    refine lv_dup hx hb dX3_leaveMaze_30 rfl ?_
    refine r_getN (ci := 5) (C := RX1) (T := TX1) (N := 4) S F B hj2 rfl rfl hiX1 0 (by decide) (by decide) rfl dX3_leaveMaze_31 ?_
    refine lv_iload_n hx hb dX3_leaveMaze_34 rfl (lv_at hl 0 rfl) ?_
    refine lv_isub hx hb dX3_leaveMaze_35 ?_
    refine r_putN (ci := 5) (C := RX1) (T := TX1) (N := 4) (ty := .int) S F B tyX1 tyX1_ok nmX1 hj2 (fun _ => rfl) rfl hiX1 0 (by decide) (by decide) rfl rfl rfl rfl (fun _ => Nat.le_of_ble_eq_true rfl) (fun _ => rfl) dX3_leaveMaze_36 (fun H locs B => ?_)
    obtain ⟨σ8, eσ8, ho⟩ := lt_ ho
    rw [← eσ8] at B
    refine lv_aload_n hx hb dX3_leaveMaze_39 rfl (lv_at hl 1 rfl) ?_
    refine lv_dup hx hb dX3_leaveMaze_40 rfl ?_
    refine r_getN (ci := 5) (C := RX1) (T := TX1) (N := 4) S F B hj2 rfl rfl hiX1 2 (by decide) (by decide) rfl dX3_leaveMaze_41 ?_
    refine lv_iload_n hx hb dX3_leaveMaze_44 rfl (lv_at hl 0 rfl) ?_
    refine lv_iadd hx hb dX3_leaveMaze_45 ?_
    refine r_putN (ci := 5) (C := RX1) (T := TX1) (N := 4) (ty := .int) S F B tyX1 tyX1_ok nmX1 hj2 (fun _ => rfl) rfl hiX1 2 (by decide) (by decide) rfl rfl rfl rfl (fun _ => Nat.le_of_ble_eq_true rfl) (fun _ => rfl) dX3_leaveMaze_46 (fun H locs B => ?_)
    obtain ⟨σ9, eσ9, ho⟩ := lt_ ho
    rw [← eσ9] at B
    refine lv_aload_n hx hb dX3_leaveMaze_49 rfl (lv_at hl 3 rfl) ?_
    refine lv_dup hx hb dX3_leaveMaze_50 rfl ?_
    refine r_getN (ci := 11) (C := RX7) (T := TX7) (N := 8) S F B ho0 rfl rfl hiX7 0 (by decide) (by decide) rfl dX3_leaveMaze_51 ?_
    refine lv_iload_n hx hb dX3_leaveMaze_54 rfl (lv_at hl 0 rfl) ?_
    refine lv_iadd hx hb dX3_leaveMaze_55 ?_
    refine r_putN (ci := 11) (C := RX7) (T := TX7) (N := 8) (ty := .int) S F B tyX7 tyX7_ok nmX7 ho0 (fun _ => rfl) rfl hiX7 0 (by decide) (by decide) rfl rfl rfl rfl (fun _ => Nat.le_of_ble_eq_true rfl) (fun _ => rfl) dX3_leaveMaze_56 (fun H locs B => ?_)
    obtain ⟨σ10, eσ10, ho⟩ := lt_ ho
    rw [← eσ10] at B
    refine lv_aload_n hx hb dX3_leaveMaze_59 rfl (lv_at hl 3 rfl) ?_
    obtain ⟨σ12, hq11, ho⟩ := bnd_ ho
    refine k_vV (As := []) (rest := []) S F B (c_X7_endBond l G σ10 _ o0 ho0 hq11) ho0 rfl rfl (cwV 0 hts gX3_leaveMaze_X7_endBond rfl rfl rfl (by decide +kernel) ⟨Nat.le_of_ble_eq_true rfl, Nat.le_of_ble_eq_true rfl⟩) rfl hl.1 rfl (Nat.le_of_ble_eq_true rfl) dX3_leaveMaze_60 ⟨Nat.le_of_ble_eq_true rfl, Nat.le_of_ble_eq_true rfl⟩ (fun H locs B => ?_)
    refine lv_aload_n hx hb dX3_leaveMaze_63 rfl (lv_at hl 3 rfl) ?_
    refine lv_iconst (v := 1) hx hb dX3_leaveMaze_64 (by decide) ?_
    refine r_putN (ci := 11) (C := RX7) (T := TX7) (N := 8) (ty := .boolean) S F B tyX7 tyX7_ok nmX7 ho0 (fun _ => rfl) rfl hiX7 7 (by decide) (by decide) rfl rfl rfl rfl (fun _ => Nat.le_of_ble_eq_true rfl) (fun _ => rfl) dX3_leaveMaze_65 (fun H locs B => ?_)
    obtain ⟨σ13, eσ13, ho⟩ := lt_ ho
    rw [← eσ13] at B
    cases ho
    exact e_v B hx hb hr hlocks dX3_leaveMaze_68

