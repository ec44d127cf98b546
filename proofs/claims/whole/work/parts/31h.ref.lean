set_option maxHeartbeats 4000000 in
set_option maxRecDepth 100000 in
theorem c_X10_walk (l : Launch) (G : Gd) (σ : Mm) (sz : Nat) (a0 : Int32) (a1 : Int32) {out : Int32 × Mm} (ho : f_X10_walk a0 a1 σ = some out) : Met l yX10_walk wsX10_walk { frames := 3, cells := 0, slots := 0, locals := 82 } (va_Pc [.ref (G.2.2 198), .int a0, .int a1] (PW G σ sz)) (Qi G sz out.1 out.2) 0 0 (AA G sz) := by
  refine Met.ofW (cc := cX10_walk) (maxL := 3) (ret := (some .int)) (by decide) rfl ?_
  intro p e s m args below meth c s₁ B0 hml hv
  obtain ⟨rfl, hpw⟩ := hv
  have hsz := hpw.1
  subst hsz
  obtain ⟨F, B⟩ := hpw.to
  have hx := B0.exec
  have hb := B0.bytes
  have hr := B0.returns
  have hts := atoms_spec (ws := wsX10_walk) B0.pre
  have hown : s.vm.findClass RX10 = some m.cls := findClass_of_methodNamed B0.named
  have hlocks := B0.notSynchronized
  have S : CallFix p m c cX10_walk 3 s _ wsX10_walk RX10 := ⟨hx, hb, hml, hown, hts⟩
  have hl := lv_entry [.ref (G.2.2 198), .int a0, .int a1] (n := 3) (Nat.le_of_ble_eq_true rfl)
  rw [lg_entry_eq]
  generalize (lg_sl [.ref (G.2.2 198), .int a0, .int a1] ++ List.replicate (3 - (lg_sl [.ref (G.2.2 198), .int a0, .int a1]).length) Slot.unset).toArray = ls at hl ⊢
  have hl : lv_has ls 3 [(0, .ref (G.2.2 198)), (1, .int a0), (2, .int a1)] := hl
  unfold f_X10_walk at ho
  refine lv_aload_n hx hb dX10_walk_0 rfl (lv_at hl 0 rfl) ?_
  obtain ⟨σ2, hq1, ho⟩ := bnd_ ho
  refine k_vV (As := []) (rest := []) S F B (c_X10_starts l G σ _ hq1) (kq (by decide) : kd 198 = 21 ∧ 198 < NN) rfl rfl (cwV 0 hts gX10_walk_X10_starts rfl rfl rfl (by decide +kernel) ⟨Nat.le_of_ble_eq_true rfl, Nat.le_of_ble_eq_true rfl⟩) rfl hl.1 rfl (Nat.le_of_ble_eq_true rfl) dX10_walk_1 ⟨Nat.le_of_ble_eq_true rfl, Nat.le_of_ble_eq_true rfl⟩ (fun H locs B => ?_)
  refine lv_aload_n hx hb dX10_walk_4 rfl (lv_at hl 0 rfl) ?_
  refine lv_aload_n hx hb dX10_walk_5 rfl (lv_at hl 0 rfl) ?_
  refine lv_iload_n hx hb dX10_walk_6 rfl (lv_at hl 1 rfl) ?_
  refine lv_iload_n hx hb dX10_walk_7 rfl (lv_at hl 2 rfl) ?_
  obtain ⟨q3, σ4, hq3, ho⟩ := bnm_ ho
  refine k_iV (As := [.int a0, .int a1]) (rest := [.ref (G.2.2 198)]) S F B (c_X10_walkIt l G σ2 _ a0 a1 hq3) (kq (by decide) : kd 198 = 21 ∧ 198 < NN) rfl rfl (cwV 2 hts gX10_walk_X10_walkIt rfl rfl rfl (by decide +kernel) ⟨Nat.le_of_ble_eq_true rfl, Nat.le_of_ble_eq_true rfl⟩) rfl hl.1 rfl (Nat.le_of_ble_eq_true rfl) dX10_walk_8 ⟨Nat.le_of_ble_eq_true rfl, Nat.le_of_ble_eq_true rfl⟩ (fun H locs B => ?_)
  obtain ⟨q5, σ6, hq5, ho⟩ := bnm_ ho
  refine k_iV (As := [.int q3]) (rest := []) S F B (c_X10_changed l G σ4 _ q3 hq5) (kq (by decide) : kd 198 = 21 ∧ 198 < NN) rfl rfl (cwV 1 hts gX10_walk_X10_changed rfl rfl rfl (by decide +kernel) ⟨Nat.le_of_ble_eq_true rfl, Nat.le_of_ble_eq_true rfl⟩) rfl hl.1 rfl (Nat.le_of_ble_eq_true rfl) dX10_walk_11 ⟨Nat.le_of_ble_eq_true rfl, Nat.le_of_ble_eq_true rfl⟩ (fun H locs B => ?_)
  cases ho
  exact e_i B hx hb hr hlocks rfl rfl dX10_walk_14

set_option maxHeartbeats 4000000 in
set_option maxRecDepth 100000 in
theorem c_X10_restIt (l : Launch) (G : Gd) (σ : Mm) (sz : Nat) (a0 : Int32) (a1 : Int32) {out : Int32 × Mm} (ho : f_X10_restIt a0 a1 σ = some out) : Met l yX10_restIt wsX10_restIt { frames := 2, cells := 0, slots := 0, locals := 46 } (va_Pc [.ref (G.2.2 198), .int a0, .int a1] (PW G σ sz)) (Qi G sz out.1 out.2) 0 0 (AA G sz) := by
  refine Met.ofW (cc := cX10_restIt) (maxL := 4) (ret := (some .int)) (by decide) rfl ?_
  intro p e s m args below meth c s₁ B0 hml hv
  obtain ⟨rfl, hpw⟩ := hv
  have hsz := hpw.1
  subst hsz
  obtain ⟨F, B⟩ := hpw.to
  have hx := B0.exec
  have hb := B0.bytes
  have hr := B0.returns
  have hts := atoms_spec (ws := wsX10_restIt) B0.pre
  have hown : s.vm.findClass RX10 = some m.cls := findClass_of_methodNamed B0.named
  have hlocks := B0.notSynchronized
  have S : CallFix p m c cX10_restIt 4 s _ wsX10_restIt RX10 := ⟨hx, hb, hml, hown, hts⟩
  have hiX10 : ∀ w ∈ u_ws RX10 TX10 21, w ∈ wsX10_restIt := by decide +kernel
  have hl := lv_entry [.ref (G.2.2 198), .int a0, .int a1] (n := 4) (Nat.le_of_ble_eq_true rfl)
  rw [lg_entry_eq]
  generalize (lg_sl [.ref (G.2.2 198), .int a0, .int a1] ++ List.replicate (4 - (lg_sl [.ref (G.2.2 198), .int a0, .int a1]).length) Slot.unset).toArray = ls at hl ⊢
  have hl : lv_has ls 4 [(0, .ref (G.2.2 198)), (1, .int a0), (2, .int a1)] := hl
  unfold f_X10_restIt at ho
  refine lv_aload_n hx hb dX10_restIt_0 rfl (lv_at hl 0 rfl) ?_
  refine lv_iload_n hx hb dX10_restIt_1 rfl (lv_at hl 1 rfl) ?_
  obtain ⟨q1, hq1, ho⟩ := bnd_ ho
  refine k_iV (As := [.int a0]) (rest := []) S F B (c_X10_isVisitor l G σ _ a0 hq1) (kq (by decide) : kd 198 = 21 ∧ 198 < NN) rfl rfl (cwV 1 hts gX10_restIt_X10_isVisitor rfl rfl rfl (by decide +kernel) ⟨Nat.le_of_ble_eq_true rfl, Nat.le_of_ble_eq_true rfl⟩) rfl hl.1 rfl (Nat.le_of_ble_eq_true rfl) dX10_restIt_2 ⟨Nat.le_of_ble_eq_true rfl, Nat.le_of_ble_eq_true rfl⟩ (fun H locs B => ?_)
  refine lv_if_ne (tgt := 21) hx hb dX10_restIt_5 (by decide) (fun c2 => ?_) (fun c2 => ?_)
  · have ho := in_ c2 ho
    refine lv_iload_n hx hb dX10_restIt_21 rfl (lv_at hl 2 rfl) ?_
    refine lv_i2l hx hb dX10_restIt_22 rfl ?_
    refine lv_lconst (v := 1) hx hb dX10_restIt_23 (by decide) ?_
    refine lv_ldc2 (v := 9) hx hb hown (hts _ (by decide +kernel)) dX10_restIt_24 ?_
    obtain ⟨q3, hq3, ho⟩ := bnd_ ho
    refine k_iS (As := [.long a1.toInt64, .long 1, .long 9]) (rest := []) S F B (c_X10_in l G σ _ a1.toInt64 1 9 hq3) (va_cwS 3 hts gX10_restIt_X10_in rfl rfl rfl (by decide +kernel) ⟨Nat.le_of_ble_eq_true rfl, Nat.le_of_ble_eq_true rfl⟩) rfl hl.1 rfl (Nat.le_of_ble_eq_true rfl) dX10_restIt_27 ⟨Nat.le_of_ble_eq_true rfl, Nat.le_of_ble_eq_true rfl⟩ (fun H locs B => ?_)
    refine lv_if_ne (tgt := 40) hx hb dX10_restIt_30 (by decide) (fun c4 => ?_) (fun c4 => ?_)
    · have ho := in_ c4 ho
      refine lv_iload_n hx hb dX10_restIt_40 rfl (lv_at hl 1 rfl) ?_
      obtain ⟨q5, hq5, ho⟩ := bnd_ ho
      refine k_iS (As := [.int a0]) (rest := []) S F B (c_X10_visitorAt l G σ _ a0 hq5) (va_cwS 1 hts gX10_restIt_X10_visitorAt rfl rfl rfl (by decide +kernel) ⟨Nat.le_of_ble_eq_true rfl, Nat.le_of_ble_eq_true rfl⟩) rfl hl.1 rfl (Nat.le_of_ble_eq_true rfl) dX10_restIt_41 ⟨Nat.le_of_ble_eq_true rfl, Nat.le_of_ble_eq_true rfl⟩ (fun H locs B => ?_)
      refine lv_istore_n (lv' := [(3, .int q5), (0, .ref (G.2.2 198)), (1, .int a0), (2, .int a1)]) hx hb dX10_restIt_44 rfl hl (by decide) rfl (fun ls hl => ?_)
      refine lv_aload_n hx hb dX10_restIt_45 rfl (lv_at hl 1 rfl) ?_
      refine r_get (ci := 14) (C := RX10) (T := TX10) (N := 21) S F B (kq (by decide) : kd 198 = 21 ∧ 198 < NN) rfl rfl hiX10 0 (by decide) (by decide +kernel) rfl dX10_restIt_46 ?_
      refine lv_iload_n hx hb dX10_restIt_49 rfl (lv_at hl 0 rfl) ?_
      refine lv_bipush (v := 7) hx hb dX10_restIt_50 (by decide) ?_
      refine lv_iadd hx hb dX10_restIt_52 ?_
      obtain ⟨hi, ho⟩ := gd_ ho
      refine r_iald S F B (kq (by decide) : kd 199 = 22 ∧ 199 < NN) rfl hi dX10_restIt_53 ?_
      refine lv_iconst (v := 1) hx hb dX10_restIt_54 (by decide) ?_
      refine lv_icmp_ne (tgt := 73) hx hb dX10_restIt_55 (by decide) (fun c6 => ?_) (fun c6 => ?_)
      · have ho := in_ c6 ho
        refine lv_aload_n hx hb dX10_restIt_73 rfl (lv_at hl 1 rfl) ?_
        refine r_get (ci := 14) (C := RX10) (T := TX10) (N := 21) S F B (kq (by decide) : kd 198 = 21 ∧ 198 < NN) rfl rfl hiX10 0 (by decide) (by decide +kernel) rfl dX10_restIt_74 ?_
        refine lv_iload_n hx hb dX10_restIt_77 rfl (lv_at hl 0 rfl) ?_
        refine lv_iconst (v := 2) hx hb dX10_restIt_78 (by decide) ?_
        refine lv_iadd hx hb dX10_restIt_79 ?_
        refine lv_dup2_11 hx hb dX10_restIt_80 rfl rfl ?_
        obtain ⟨hi, ho⟩ := gd_ ho
        refine r_iald S F B (kq (by decide) : kd 199 = 22 ∧ 199 < NN) rfl hi dX10_restIt_81 ?_
        refine lv_iload_n hx hb dX10_restIt_82 rfl (lv_at hl 3 rfl) ?_
        refine lv_iadd hx hb dX10_restIt_83 ?_
        obtain ⟨hi, ho⟩ := gd_ ho
        refine r_iast S F B (kq (by decide) : kd 199 = 22 ∧ 199 < NN) (fun _ => rfl) hi dX10_restIt_84 (fun H locs B => ?_)
        obtain ⟨σ7, eσ7, ho⟩ := lt_ ho
        rw [← eσ7] at B
        refine lv_aload_n hx hb dX10_restIt_85 rfl (lv_at hl 1 rfl) ?_
        refine r_get (ci := 14) (C := RX10) (T := TX10) (N := 21) S F B (kq (by decide) : kd 198 = 21 ∧ 198 < NN) rfl rfl hiX10 0 (by decide) (by decide +kernel) rfl dX10_restIt_86 ?_
        refine lv_iload_n hx hb dX10_restIt_89 rfl (lv_at hl 0 rfl) ?_
        refine lv_iconst (v := 2) hx hb dX10_restIt_90 (by decide) ?_
        refine lv_iadd hx hb dX10_restIt_91 ?_
        obtain ⟨hi, ho⟩ := gd_ ho
        refine r_iald S F B (kq (by decide) : kd 199 = 22 ∧ 199 < NN) rfl hi dX10_restIt_92 ?_
        cases ho
        exact e_i B hx hb hr hlocks rfl rfl dX10_restIt_93
      · have ho := ip_ c6 ho
        refine lv_aload_n hx hb dX10_restIt_58 rfl (lv_at hl 1 rfl) ?_
        refine lv_bipush (v := 9) hx hb dX10_restIt_59 (by decide) ?_
        refine lv_aload_n hx hb dX10_restIt_61 rfl (lv_at hl 1 rfl) ?_
        refine r_get (ci := 14) (C := RX10) (T := TX10) (N := 21) S F B (kq (by decide) : kd 198 = 21 ∧ 198 < NN) rfl rfl hiX10 0 (by decide) (by decide +kernel) rfl dX10_restIt_62 ?_
        refine lv_iload_n hx hb dX10_restIt_65 rfl (lv_at hl 0 rfl) ?_
        refine lv_iconst (v := 2) hx hb dX10_restIt_66 (by decide) ?_
        refine lv_iadd hx hb dX10_restIt_67 ?_
        obtain ⟨hi, ho⟩ := gd_ ho
        refine r_iald S F B (kq (by decide) : kd 199 = 22 ∧ 199 < NN) rfl hi dX10_restIt_68 ?_
        obtain ⟨q8, σ9, hq8, ho⟩ := bnm_ ho
        refine k_iV (As := [.int 9, .int (σ 199 (q5 + 2).toNatClampNeg)]) (rest := []) S F B (c_X10_refuse l G σ _ 9 (σ 199 (q5 + 2).toNatClampNeg) hq8) (kq (by decide) : kd 198 = 21 ∧ 198 < NN) rfl rfl (cwV 2 hts gX10_restIt_X10_refuse rfl rfl rfl (by decide +kernel) ⟨Nat.le_of_ble_eq_true rfl, Nat.le_of_ble_eq_true rfl⟩) rfl hl.1 rfl (Nat.le_of_ble_eq_true rfl) dX10_restIt_69 ⟨Nat.le_of_ble_eq_true rfl, Nat.le_of_ble_eq_true rfl⟩ (fun H locs B => ?_)
        cases ho
        exact e_i B hx hb hr hlocks rfl rfl dX10_restIt_72
    · have ho := ip_ c4 ho
      refine lv_aload_n hx hb dX10_restIt_33 rfl (lv_at hl 0 rfl) ?_
      refine lv_iconst (v := 1) hx hb dX10_restIt_34 (by decide) ?_
      refine lv_iconst (v := 0) hx hb dX10_restIt_35 (by decide) ?_
      obtain ⟨q10, σ11, hq10, ho⟩ := bnm_ ho
      refine k_iV (As := [.int 1, .int 0]) (rest := []) S F B (c_X10_refuse l G σ _ 1 0 hq10) (kq (by decide) : kd 198 = 21 ∧ 198 < NN) rfl rfl (cwV 2 hts gX10_restIt_X10_refuse rfl rfl rfl (by decide +kernel) ⟨Nat.le_of_ble_eq_true rfl, Nat.le_of_ble_eq_true rfl⟩) rfl hl.1 rfl (Nat.le_of_ble_eq_true rfl) dX10_restIt_36 ⟨Nat.le_of_ble_eq_true rfl, Nat.le_of_ble_eq_true rfl⟩ (fun H locs B => ?_)
      cases ho
      exact e_i B hx hb hr hlocks rfl rfl dX10_restIt_39
  · have ho := ip_ c2 ho
    refine lv_aload_n hx hb dX10_restIt_8 rfl (lv_at hl 0 rfl) ?_
    refine lv_bipush (v := 7) hx hb dX10_restIt_9 (by decide) ?_
    refine lv_aload_n hx hb dX10_restIt_11 rfl (lv_at hl 0 rfl) ?_
    refine r_get (ci := 14) (C := RX10) (T := TX10) (N := 21) S F B (kq (by decide) : kd 198 = 21 ∧ 198 < NN) rfl rfl hiX10 0 (by decide) (by decide +kernel) rfl dX10_restIt_12 ?_
    refine lv_iconst (v := 1) hx hb dX10_restIt_15 (by decide) ?_
    refine r_ialdc (j := 1) S F B (kq (by decide) : kd 199 = 22 ∧ 199 < NN) rfl (vpc (by decide)) (by decide) dX10_restIt_16 ?_
    obtain ⟨q12, σ13, hq12, ho⟩ := bnm_ ho
    refine k_iV (As := [.int 7, .int (σ 199 1)]) (rest := []) S F B (c_X10_refuse l G σ _ 7 (σ 199 1) hq12) (kq (by decide) : kd 198 = 21 ∧ 198 < NN) rfl rfl (cwV 2 hts gX10_restIt_X10_refuse rfl rfl rfl (by decide +kernel) ⟨Nat.le_of_ble_eq_true rfl, Nat.le_of_ble_eq_true rfl⟩) rfl hl.1 rfl (Nat.le_of_ble_eq_true rfl) dX10_restIt_17 ⟨Nat.le_of_ble_eq_true rfl, Nat.le_of_ble_eq_true rfl⟩ (fun H locs B => ?_)
    cases ho
    exact e_i B hx hb hr hlocks rfl rfl dX10_restIt_20

set_option maxHeartbeats 4000000 in
set_option maxRecDepth 100000 in
theorem c_X10_rest (l : Launch) (G : Gd) (σ : Mm) (sz : Nat) (a0 : Int32) (a1 : Int32) {out : Int32 × Mm} (ho : f_X10_rest a0 a1 σ = some out) : Met l yX10_rest wsX10_rest { frames := 3, cells := 0, slots := 0, locals := 69 } (va_Pc [.ref (G.2.2 198), .int a0, .int a1] (PW G σ sz)) (Qi G sz out.1 out.2) 0 0 (AA G sz) := by
  refine Met.ofW (cc := cX10_rest) (maxL := 3) (ret := (some .int)) (by decide) rfl ?_
  intro p e s m args below meth c s₁ B0 hml hv
  obtain ⟨rfl, hpw⟩ := hv
  have hsz := hpw.1
  subst hsz
  obtain ⟨F, B⟩ := hpw.to
  have hx := B0.exec
  have hb := B0.bytes
  have hr := B0.returns
  have hts := atoms_spec (ws := wsX10_rest) B0.pre
  have hown : s.vm.findClass RX10 = some m.cls := findClass_of_methodNamed B0.named
  have hlocks := B0.notSynchronized
  have S : CallFix p m c cX10_rest 3 s _ wsX10_rest RX10 := ⟨hx, hb, hml, hown, hts⟩
  have hl := lv_entry [.ref (G.2.2 198), .int a0, .int a1] (n := 3) (Nat.le_of_ble_eq_true rfl)
  rw [lg_entry_eq]
  generalize (lg_sl [.ref (G.2.2 198), .int a0, .int a1] ++ List.replicate (3 - (lg_sl [.ref (G.2.2 198), .int a0, .int a1]).length) Slot.unset).toArray = ls at hl ⊢
  have hl : lv_has ls 3 [(0, .ref (G.2.2 198)), (1, .int a0), (2, .int a1)] := hl
  unfold f_X10_rest at ho
  refine lv_aload_n hx hb dX10_rest_0 rfl (lv_at hl 0 rfl) ?_
  obtain ⟨σ2, hq1, ho⟩ := bnd_ ho
  refine k_vV (As := []) (rest := []) S F B (c_X10_starts l G σ _ hq1) (kq (by decide) : kd 198 = 21 ∧ 198 < NN) rfl rfl (cwV 0 hts gX10_rest_X10_starts rfl rfl rfl (by decide +kernel) ⟨Nat.le_of_ble_eq_true rfl, Nat.le_of_ble_eq_true rfl⟩) rfl hl.1 rfl (Nat.le_of_ble_eq_true rfl) dX10_rest_1 ⟨Nat.le_of_ble_eq_true rfl, Nat.le_of_ble_eq_true rfl⟩ (fun H locs B => ?_)
  refine lv_aload_n hx hb dX10_rest_4 rfl (lv_at hl 0 rfl) ?_
  refine lv_aload_n hx hb dX10_rest_5 rfl (lv_at hl 0 rfl) ?_
  refine lv_iload_n hx hb dX10_rest_6 rfl (lv_at hl 1 rfl) ?_
  refine lv_iload_n hx hb dX10_rest_7 rfl (lv_at hl 2 rfl) ?_
  obtain ⟨q3, σ4, hq3, ho⟩ := bnm_ ho
  refine k_iV (As := [.int a0, .int a1]) (rest := [.ref (G.2.2 198)]) S F B (c_X10_restIt l G σ2 _ a0 a1 hq3) (kq (by decide) : kd 198 = 21 ∧ 198 < NN) rfl rfl (cwV 2 hts gX10_rest_X10_restIt rfl rfl rfl (by decide +kernel) ⟨Nat.le_of_ble_eq_true rfl, Nat.le_of_ble_eq_true rfl⟩) rfl hl.1 rfl (Nat.le_of_ble_eq_true rfl) dX10_rest_8 ⟨Nat.le_of_ble_eq_true rfl, Nat.le_of_ble_eq_true rfl⟩ (fun H locs B => ?_)
  obtain ⟨q5, σ6, hq5, ho⟩ := bnm_ ho
  refine k_iV (As := [.int q3]) (rest := []) S F B (c_X10_changed l G σ4 _ q3 hq5) (kq (by decide) : kd 198 = 21 ∧ 198 < NN) rfl rfl (cwV 1 hts gX10_rest_X10_changed rfl rfl rfl (by decide +kernel) ⟨Nat.le_of_ble_eq_true rfl, Nat.le_of_ble_eq_true rfl⟩) rfl hl.1 rfl (Nat.le_of_ble_eq_true rfl) dX10_rest_11 ⟨Nat.le_of_ble_eq_true rfl, Nat.le_of_ble_eq_true rfl⟩ (fun H locs B => ?_)
  cases ho
  exact e_i B hx hb hr hlocks rfl rfl dX10_rest_14
