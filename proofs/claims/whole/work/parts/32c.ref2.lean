set_option maxHeartbeats 4000000 in
set_option maxRecDepth 100000 in
theorem c_X10_wouldPay (l : Launch) (G : Gd) (σ : Mm) (sz : Nat) (a0 : Int32) {out : Int32 × Mm} (ho : f_X10_wouldPay a0 σ = some out) : Met l yX10_wouldPay wsX10_wouldPay { frames := 4, cells := 0, slots := 0, locals := 105 } (va_Pc [.ref (G.2.2 198), .int a0] (PW G σ sz)) (Qi G sz out.1 out.2) 0 0 (AA G sz) := by
  refine Met.ofW (cc := cX10_wouldPay) (maxL := 4) (ret := (some .int)) (by decide) rfl ?_
  intro p e s m args below meth c s₁ B0 hml hv
  obtain ⟨rfl, hpw⟩ := hv
  have hsz := hpw.1
  subst hsz
  obtain ⟨F, B⟩ := hpw.to
  have hx := B0.exec
  have hb := B0.bytes
  have hr := B0.returns
  have hts := atoms_spec (ws := wsX10_wouldPay) B0.pre
  have hown : s.vm.findClass RX10 = some m.cls := findClass_of_methodNamed B0.named
  have hlocks := B0.notSynchronized
  have S : CallFix p m c cX10_wouldPay 4 s _ wsX10_wouldPay RX10 := ⟨hx, hb, hml, hown, hts⟩
  have hiX10 : ∀ w ∈ u_ws RX10 TX10 21, w ∈ wsX10_wouldPay := by decide +kernel
  have hl := lv_entry [.ref (G.2.2 198), .int a0] (n := 4) (Nat.le_of_ble_eq_true rfl)
  rw [lg_entry_eq]
  generalize (lg_sl [.ref (G.2.2 198), .int a0] ++ List.replicate (4 - (lg_sl [.ref (G.2.2 198), .int a0]).length) Slot.unset).toArray = ls at hl ⊢
  have hl : lv_has ls 4 [(0, .ref (G.2.2 198)), (1, .int a0)] := hl
  unfold f_X10_wouldPay at ho
  refine lv_aload_n hx hb dX10_wouldPay_0 rfl (lv_at hl 0 rfl) ?_
  refine lv_iconst (v := 0) hx hb dX10_wouldPay_1 (by decide) ?_
  refine r_put (ci := 14) (C := RX10) (T := TX10) (N := 21) (ty := .int) S F B tyX10 tyX10_ok nmX10 (kq (by decide) : kd 198 = 21 ∧ 198 < NN) (fun _ => rfl) rfl hiX10 12 (by decide) (by decide +kernel) rfl rfl rfl rfl (fun _ => Nat.le_of_ble_eq_true rfl) (fun _ => rfl) dX10_wouldPay_2 (fun H locs B => ?_)
  obtain ⟨σ1, eσ1, ho⟩ := lt_ ho
  rw [← eσ1] at B
  refine lv_aload_n hx hb dX10_wouldPay_5 rfl (lv_at hl 0 rfl) ?_
  refine lv_iload_n hx hb dX10_wouldPay_6 rfl (lv_at hl 1 rfl) ?_
  obtain ⟨q2, hq2, ho⟩ := bnd_ ho
  refine k_iV (As := [.int a0]) (rest := []) S F B (c_X10_isVisitor l G σ1 _ a0 hq2) (kq (by decide) : kd 198 = 21 ∧ 198 < NN) rfl rfl (cwV 1 hts gX10_wouldPay_X10_isVisitor rfl rfl rfl (by decide +kernel) ⟨Nat.le_of_ble_eq_true rfl, Nat.le_of_ble_eq_true rfl⟩) rfl hl.1 rfl (Nat.le_of_ble_eq_true rfl) dX10_wouldPay_7 ⟨Nat.le_of_ble_eq_true rfl, Nat.le_of_ble_eq_true rfl⟩ (fun H locs B => ?_)
  refine lv_if_ne (tgt := 19) hx hb dX10_wouldPay_10 (by decide) (fun c3 => ?_) (fun c3 => ?_)
  · have ho := in_ c3 ho
    refine lv_iload_n hx hb dX10_wouldPay_19 rfl (lv_at hl 1 rfl) ?_
    obtain ⟨q4, hq4, ho⟩ := bnd_ ho
    refine k_iS (As := [.int a0]) (rest := []) S F B (c_X10_visitorAt l G σ1 _ a0 hq4) (va_cwS 1 hts gX10_wouldPay_X10_visitorAt rfl rfl rfl (by decide +kernel) ⟨Nat.le_of_ble_eq_true rfl, Nat.le_of_ble_eq_true rfl⟩) rfl hl.1 rfl (Nat.le_of_ble_eq_true rfl) dX10_wouldPay_20 ⟨Nat.le_of_ble_eq_true rfl, Nat.le_of_ble_eq_true rfl⟩ (fun H locs B => ?_)
    refine lv_istore_n (lv' := [(2, .int q4), (0, .ref (G.2.2 198)), (1, .int a0)]) hx hb dX10_wouldPay_23 rfl hl (by decide) rfl (fun ls hl => ?_)
    refine lv_aload_n hx hb dX10_wouldPay_24 rfl (lv_at hl 1 rfl) ?_
    refine lv_aload_n hx hb dX10_wouldPay_25 rfl (lv_at hl 1 rfl) ?_
    refine r_get (ci := 14) (C := RX10) (T := TX10) (N := 21) S F B (kq (by decide) : kd 198 = 21 ∧ 198 < NN) rfl rfl hiX10 0 (by decide) (by decide +kernel) rfl dX10_wouldPay_26 ?_
    refine lv_iload_n hx hb dX10_wouldPay_29 rfl (lv_at hl 0 rfl) ?_
    refine lv_iconst (v := 1) hx hb dX10_wouldPay_30 (by decide) ?_
    refine lv_iadd hx hb dX10_wouldPay_31 ?_
    obtain ⟨hi, ho⟩ := gd_ ho
    refine r_iald S F B (kq (by decide) : kd 199 = 22 ∧ 199 < NN) rfl hi dX10_wouldPay_32 ?_
    refine lv_bipush (v := 15) hx hb dX10_wouldPay_33 (by decide) ?_
    obtain ⟨q5, σ6, hq5, ho⟩ := bnm_ ho
    refine k_iV (As := [.int (σ1 199 (q4 + 1).toNatClampNeg), .int 15]) (rest := []) S F B (c_X10_hoursOf l G σ1 _ (σ1 199 (q4 + 1).toNatClampNeg) 15 hq5) (kq (by decide) : kd 198 = 21 ∧ 198 < NN) rfl rfl (cwV 2 hts gX10_wouldPay_X10_hoursOf rfl rfl rfl (by decide +kernel) ⟨Nat.le_of_ble_eq_true rfl, Nat.le_of_ble_eq_true rfl⟩) rfl hl.1 rfl (Nat.le_of_ble_eq_true rfl) dX10_wouldPay_35 ⟨Nat.le_of_ble_eq_true rfl, Nat.le_of_ble_eq_true rfl⟩ (fun H locs B => ?_)
    refine lv_istore_n (lv' := [(3, .int q5), (2, .int q4), (0, .ref (G.2.2 198)), (1, .int a0)]) hx hb dX10_wouldPay_38 rfl hl (by decide) rfl (fun ls hl => ?_)
    refine lv_aload_n hx hb dX10_wouldPay_39 rfl (lv_at hl 2 rfl) ?_
    refine lv_iload_n hx hb dX10_wouldPay_40 rfl (lv_at hl 3 rfl) ?_
    obtain ⟨q7, hq7, ho⟩ := bnd_ ho
    refine k_iV (As := [.int a0]) (rest := []) S F B (c_X10_lasts l G σ6 _ a0 hq7) (kq (by decide) : kd 198 = 21 ∧ 198 < NN) rfl rfl (cwV 1 hts gX10_wouldPay_X10_lasts rfl rfl rfl (by decide +kernel) ⟨Nat.le_of_ble_eq_true rfl, Nat.le_of_ble_eq_true rfl⟩) rfl hl.1 rfl (Nat.le_of_ble_eq_true rfl) dX10_wouldPay_41 ⟨Nat.le_of_ble_eq_true rfl, Nat.le_of_ble_eq_true rfl⟩ (fun H locs B => ?_)
    refine lv_if_eq (tgt := 52) hx hb dX10_wouldPay_44 (by decide) (fun c8 => ?_) (fun c8 => ?_)
    · have ho := ip_ c8 ho
      refine lv_aload_n hx hb dX10_wouldPay_52 rfl (lv_at hl 2 rfl) ?_
      refine lv_iconst (v := 2) hx hb dX10_wouldPay_53 (by decide) ?_
      obtain ⟨q9, σ10, hq9, ho⟩ := bnm_ ho
      refine k_iV (As := [.int 2]) (rest := []) S F B (c_X10_throwing l G σ6 _ 2 hq9) (kq (by decide) : kd 198 = 21 ∧ 198 < NN) rfl rfl (cwV 1 hts gX10_wouldPay_X10_throwing rfl rfl rfl (by decide +kernel) ⟨Nat.le_of_ble_eq_true rfl, Nat.le_of_ble_eq_true rfl⟩) rfl hl.1 rfl (Nat.le_of_ble_eq_true rfl) dX10_wouldPay_54 ⟨Nat.le_of_ble_eq_true rfl, Nat.le_of_ble_eq_true rfl⟩ (fun H locs B => ?_)
      cases ho
      exact e_i B hx hb hr hlocks rfl rfl dX10_wouldPay_57
    · have ho := in_ c8 ho
      refine lv_iload_n hx hb dX10_wouldPay_47 rfl (lv_at hl 0 rfl) ?_
      refine lv_iconst (v := (-1)) hx hb dX10_wouldPay_48 (by decide) ?_
      refine lv_icmp_ne (tgt := 58) hx hb dX10_wouldPay_49 (by decide) (fun c11 => ?_) (fun c11 => ?_)
      · have ho := in_ c11 ho
        refine lv_aload_n hx hb dX10_wouldPay_58 rfl (lv_at hl 2 rfl) ?_
        refine lv_iload_n hx hb dX10_wouldPay_59 rfl (lv_at hl 3 rfl) ?_
        refine lv_iconst (v := 0) hx hb dX10_wouldPay_60 (by decide) ?_
        refine lv_aload_n hx hb dX10_wouldPay_61 rfl (lv_at hl 2 rfl) ?_
        refine r_get (ci := 14) (C := RX10) (T := TX10) (N := 21) S F B (kq (by decide) : kd 198 = 21 ∧ 198 < NN) rfl rfl hiX10 0 (by decide) (by decide +kernel) rfl dX10_wouldPay_62 ?_
        refine lv_iload_n hx hb dX10_wouldPay_65 rfl (lv_at hl 1 rfl) ?_
        refine lv_iconst (v := 2) hx hb dX10_wouldPay_66 (by decide) ?_
        refine lv_iadd hx hb dX10_wouldPay_67 ?_
        obtain ⟨hi, ho⟩ := gd_ ho
        refine r_iald S F B (kq (by decide) : kd 199 = 22 ∧ 199 < NN) rfl hi dX10_wouldPay_68 ?_
        refine lv_iload_n hx hb dX10_wouldPay_69 rfl (lv_at hl 0 rfl) ?_
        refine lv_iadd hx hb dX10_wouldPay_70 ?_
        refine lv_aload_n hx hb dX10_wouldPay_71 rfl (lv_at hl 2 rfl) ?_
        refine r_get (ci := 14) (C := RX10) (T := TX10) (N := 21) S F B (kq (by decide) : kd 198 = 21 ∧ 198 < NN) rfl rfl hiX10 0 (by decide) (by decide +kernel) rfl dX10_wouldPay_72 ?_
        refine lv_iload_n hx hb dX10_wouldPay_75 rfl (lv_at hl 1 rfl) ?_
        refine lv_iconst (v := 3) hx hb dX10_wouldPay_76 (by decide) ?_
        refine lv_iadd hx hb dX10_wouldPay_77 ?_
        obtain ⟨hi, ho⟩ := gd_ ho
        refine r_iald S F B (kq (by decide) : kd 199 = 22 ∧ 199 < NN) rfl hi dX10_wouldPay_78 ?_
        refine lv_isub hx hb dX10_wouldPay_79 ?_
        refine va_mmax hx hb (hml.trans hl.1.symm) hown (hts _ (by decide +kernel)) (hts _ (by decide +kernel)) (hts _ (by decide +kernel)) (hts _ (by decide +kernel)) (Nat.le_of_ble_eq_true rfl) (Nat.le_of_ble_eq_true rfl) (Nat.le_of_ble_eq_true rfl) (Nat.le_of_ble_eq_true rfl) dX10_wouldPay_80 ?_
        obtain ⟨q12, hq12, ho⟩ := bnd_ ho
        refine k_iV (As := [.int a0, .int (if 0 < (((σ6 199 (q4 + 2).toNatClampNeg) + q5) - (σ6 199 (q4 + 3).toNatClampNeg)) then (((σ6 199 (q4 + 2).toNatClampNeg) + q5) - (σ6 199 (q4 + 3).toNatClampNeg)) else 0)]) (rest := []) S F B (c_X10_pays l G σ6 _ a0 (if 0 < (((σ6 199 (q4 + 2).toNatClampNeg) + q5) - (σ6 199 (q4 + 3).toNatClampNeg)) then (((σ6 199 (q4 + 2).toNatClampNeg) + q5) - (σ6 199 (q4 + 3).toNatClampNeg)) else 0) hq12) (kq (by decide) : kd 198 = 21 ∧ 198 < NN) rfl rfl (cwV 2 hts gX10_wouldPay_X10_pays rfl rfl rfl (by decide +kernel) ⟨Nat.le_of_ble_eq_true rfl, Nat.le_of_ble_eq_true rfl⟩) rfl hl.1 rfl (Nat.le_of_ble_eq_true rfl) dX10_wouldPay_83 ⟨Nat.le_of_ble_eq_true rfl, Nat.le_of_ble_eq_true rfl⟩ (fun H locs B => ?_)
        cases ho
        exact e_i B hx hb hr hlocks rfl rfl dX10_wouldPay_86
      · have ho := ip_ c11 ho
        refine lv_aload_n hx hb dX10_wouldPay_52 rfl (lv_at hl 2 rfl) ?_
        refine lv_iconst (v := 2) hx hb dX10_wouldPay_53 (by decide) ?_
        obtain ⟨q13, σ14, hq13, ho⟩ := bnm_ ho
        refine k_iV (As := [.int 2]) (rest := []) S F B (c_X10_throwing l G σ6 _ 2 hq13) (kq (by decide) : kd 198 = 21 ∧ 198 < NN) rfl rfl (cwV 1 hts gX10_wouldPay_X10_throwing rfl rfl rfl (by decide +kernel) ⟨Nat.le_of_ble_eq_true rfl, Nat.le_of_ble_eq_true rfl⟩) rfl hl.1 rfl (Nat.le_of_ble_eq_true rfl) dX10_wouldPay_54 ⟨Nat.le_of_ble_eq_true rfl, Nat.le_of_ble_eq_true rfl⟩ (fun H locs B => ?_)
        cases ho
        exact e_i B hx hb hr hlocks rfl rfl dX10_wouldPay_57
  · have ho := ip_ c3 ho
    refine lv_aload_n hx hb dX10_wouldPay_13 rfl (lv_at hl 0 rfl) ?_
    refine lv_iconst (v := 1) hx hb dX10_wouldPay_14 (by decide) ?_
    obtain ⟨q15, σ16, hq15, ho⟩ := bnm_ ho
    refine k_iV (As := [.int 1]) (rest := []) S F B (c_X10_throwing l G σ1 _ 1 hq15) (kq (by decide) : kd 198 = 21 ∧ 198 < NN) rfl rfl (cwV 1 hts gX10_wouldPay_X10_throwing rfl rfl rfl (by decide +kernel) ⟨Nat.le_of_ble_eq_true rfl, Nat.le_of_ble_eq_true rfl⟩) rfl hl.1 rfl (Nat.le_of_ble_eq_true rfl) dX10_wouldPay_15 ⟨Nat.le_of_ble_eq_true rfl, Nat.le_of_ble_eq_true rfl⟩ (fun H locs B => ?_)
    cases ho
    exact e_i B hx hb hr hlocks rfl rfl dX10_wouldPay_18

set_option maxHeartbeats 4000000 in
set_option maxRecDepth 100000 in
theorem c_X10_owedBy (l : Launch) (G : Gd) (σ : Mm) (sz : Nat) (a0 : Int32) {out : Int32} (ho : f_X10_owedBy a0 σ = some out) : Met l yX10_owedBy wsX10_owedBy { frames := 2, cells := 0, slots := 0, locals := 54 } (va_Pc [.ref (G.2.2 198), .int a0] (PW G σ sz)) (Qi G sz out σ) 0 0 (AA G sz) := by
  refine Met.ofW (cc := cX10_owedBy) (maxL := 6) (ret := (some .int)) (by decide) rfl ?_
  intro p e s m args below meth c s₁ B0 hml hv
  obtain ⟨rfl, hpw⟩ := hv
  have hsz := hpw.1
  subst hsz
  obtain ⟨F, B⟩ := hpw.to
  have hx := B0.exec
  have hb := B0.bytes
  have hr := B0.returns
  have hts := atoms_spec (ws := wsX10_owedBy) B0.pre
  have hown : s.vm.findClass RX10 = some m.cls := findClass_of_methodNamed B0.named
  have hlocks := B0.notSynchronized
  have S : CallFix p m c cX10_owedBy 6 s _ wsX10_owedBy RX10 := ⟨hx, hb, hml, hown, hts⟩
  have hiX10 : ∀ w ∈ u_ws RX10 TX10 21, w ∈ wsX10_owedBy := by decide +kernel
  have hl := lv_entry [.ref (G.2.2 198), .int a0] (n := 6) (Nat.le_of_ble_eq_true rfl)
  rw [lg_entry_eq]
  generalize (lg_sl [.ref (G.2.2 198), .int a0] ++ List.replicate (6 - (lg_sl [.ref (G.2.2 198), .int a0]).length) Slot.unset).toArray = ls at hl ⊢
  have hl : lv_has ls 6 [(0, .ref (G.2.2 198)), (1, .int a0)] := hl
  unfold f_X10_owedBy at ho
  skip
  refine lv_iconst (v := 0) hx hb dX10_owedBy_0 (by decide) ?_
  refine lv_istore_n (lv' := [(2, .int 0), (0, .ref (G.2.2 198)), (1, .int a0)]) hx hb dX10_owedBy_1 rfl hl (by decide) rfl (fun ls hl => ?_)
  refine lv_iconst (v := 0) hx hb dX10_owedBy_2 (by decide) ?_
  refine lv_istore_n (lv' := [(3, .int 0), (2, .int 0), (0, .ref (G.2.2 198)), (1, .int a0)]) hx hb dX10_owedBy_3 rfl hl (by decide) rfl (fun ls hl => ?_)
  have hloop4 : ∀ (n : Nat) (v4 : Int32) (v5 : Int32) (H : Heap) (locs : List Loc) (ls : Array Slot), f_X10_owedBy_l4  a0 σ n v4 v5 = some out → Bd G σ s H locs → lv_has ls 6 [(3, .int v4), (2, .int v5), (0, .ref (G.2.2 198)), (1, .int a0)] → W p l e (headSpec wsX10_owedBy { frames := 2, cells := 0, slots := 0, locals := 54 }).room s m #[.ref (G.2.2 198), .int a0] below meth c H locs 0 0 (MQ below (Qi G s.heap.size out σ) #[.ref (G.2.2 198), .int a0] s 0 0 (AA G s.heap.size)) (F0 m 4 ls []) := by
    intro n
    induction n with
    | zero => intro v4 v5 H locs ls ho B hl; cases ho
    | succ n ih =>
      intro v4 v5 H locs ls ho B hl
      refine lv_iload_n hx hb dX10_owedBy_4 rfl (lv_at hl 0 rfl) ?_
      refine lv_aload_n hx hb dX10_owedBy_5 rfl (lv_at hl 2 rfl) ?_
      refine r_get (ci := 14) (C := RX10) (T := TX10) (N := 21) S F B (kq (by decide) : kd 198 = 21 ∧ 198 < NN) rfl rfl hiX10 0 (by decide) (by decide +kernel) rfl dX10_owedBy_6 ?_
      refine lv_iconst (v := 1) hx hb dX10_owedBy_9 (by decide) ?_
      refine r_ialdc (j := 1) S F B (kq (by decide) : kd 199 = 22 ∧ 199 < NN) rfl (vpc (by decide)) (by decide) dX10_owedBy_10 ?_
      refine lv_icmp_ge (tgt := 94) hx hb dX10_owedBy_11 (by decide) (fun c6 => ?_) (fun c6 => ?_)
      · have ho := ip_ c6 ho
        refine lv_iload_n hx hb dX10_owedBy_94 rfl (lv_at hl 1 rfl) ?_
        cases ho
        exact e_i B hx hb hr hlocks rfl rfl dX10_owedBy_95
      · have ho := in_ c6 ho
        refine lv_iload_n hx hb dX10_owedBy_14 rfl (lv_at hl 0 rfl) ?_
        obtain ⟨q7, hq7, ho⟩ := bnd_ ho
        refine k_iS (As := [.int v4]) (rest := []) S F B (c_X10_visitorAt l G σ _ v4 hq7) (va_cwS 1 hts gX10_owedBy_X10_visitorAt rfl rfl rfl (by decide +kernel) ⟨Nat.le_of_ble_eq_true rfl, Nat.le_of_ble_eq_true rfl⟩) rfl hl.1 rfl (Nat.le_of_ble_eq_true rfl) dX10_owedBy_15 ⟨Nat.le_of_ble_eq_true rfl, Nat.le_of_ble_eq_true rfl⟩ (fun H locs B => ?_)
        refine lv_istore (lv' := [(4, .int q7), (3, .int v4), (2, .int v5), (0, .ref (G.2.2 198)), (1, .int a0)]) hx hb dX10_owedBy_18 hl (by decide) rfl (fun ls hl => ?_)
        refine lv_aload_n hx hb dX10_owedBy_20 rfl (lv_at hl 3 rfl) ?_
        refine lv_iload_n hx hb dX10_owedBy_21 rfl (lv_at hl 1 rfl) ?_
        obtain ⟨q8, hq8, ho⟩ := bnd_ ho
        refine k_iV (As := [.int v4]) (rest := []) S F B (c_X10_lasts l G σ _ v4 hq8) (kq (by decide) : kd 198 = 21 ∧ 198 < NN) rfl rfl (cwV 1 hts gX10_owedBy_X10_lasts rfl rfl rfl (by decide +kernel) ⟨Nat.le_of_ble_eq_true rfl, Nat.le_of_ble_eq_true rfl⟩) rfl hl.1 rfl (Nat.le_of_ble_eq_true rfl) dX10_owedBy_22 ⟨Nat.le_of_ble_eq_true rfl, Nat.le_of_ble_eq_true rfl⟩ (fun H locs B => ?_)
        refine lv_if_eq (tgt := 58) hx hb dX10_owedBy_25 (by decide) (fun c9 => ?_) (fun c9 => ?_)
        · have ho := ip_ c9 ho
          refine lv_iconst (v := 0) hx hb dX10_owedBy_58 (by decide) ?_
          refine lv_istore (lv' := [(5, .int 0), (4, .int q7), (3, .int v4), (2, .int v5), (0, .ref (G.2.2 198)), (1, .int a0)]) hx hb dX10_owedBy_59 hl (by decide) rfl (fun ls hl => ?_)
          refine lv_iload_n hx hb dX10_owedBy_61 rfl (lv_at hl 3 rfl) ?_
          refine lv_iload hx hb dX10_owedBy_62 (lv_at hl 0 rfl) ?_
          refine lv_if_eq (tgt := 85) hx hb dX10_owedBy_64 (by decide) (fun _ => ?_) (fun h => absurd h (by decide))
          refine lv_iconst (v := 0) hx hb dX10_owedBy_85 (by decide) ?_
          refine lv_iadd hx hb dX10_owedBy_86 ?_
          obtain ⟨x10, ex10, ho⟩ := lt_ ho
          refine lv_nm ex10 ?_
          refine lv_istore_n (lv' := [(2, .int x10), (5, .int 0), (4, .int q7), (3, .int v4), (0, .ref (G.2.2 198)), (1, .int a0)]) hx hb dX10_owedBy_87 rfl hl (by decide) rfl (fun ls hl => ?_)
          obtain ⟨x11, ex11, ho⟩ := lt_ ho
          refine lv_iinc (v := x11) (lv' := [(3, .int x11), (2, .int x10), (5, .int 0), (4, .int q7), (0, .ref (G.2.2 198)), (1, .int a0)]) hx hb dX10_owedBy_88 hl (k := 3) rfl (by rw [ex11]; rfl) (by decide) rfl (fun ls hl => ?_)
          refine lv_goto (tgt := 4) hx hb dX10_owedBy_91 (by decide) ?_
          exact ih _ _  _ _ _ ho B (lv_sub hl [0, 1, 4, 5] rfl)
        · have ho := in_ c9 ho
          refine lv_aload_n hx hb dX10_owedBy_28 rfl (lv_at hl 3 rfl) ?_
          refine r_get (ci := 14) (C := RX10) (T := TX10) (N := 21) S F B (kq (by decide) : kd 198 = 21 ∧ 198 < NN) rfl rfl hiX10 0 (by decide) (by decide +kernel) rfl dX10_owedBy_29 ?_
          refine lv_iload hx hb dX10_owedBy_32 (lv_at hl 0 rfl) ?_
          refine lv_iconst (v := 4) hx hb dX10_owedBy_34 (by decide) ?_
          refine lv_iadd hx hb dX10_owedBy_35 ?_
          obtain ⟨hi, ho⟩ := gd_ ho
          refine r_iald S F B (kq (by decide) : kd 199 = 22 ∧ 199 < NN) rfl hi dX10_owedBy_36 ?_
          refine lv_iload_n hx hb dX10_owedBy_37 rfl (lv_at hl 4 rfl) ?_
          refine lv_icmp_ne (tgt := 58) hx hb dX10_owedBy_38 (by decide) (fun c12 => ?_) (fun c12 => ?_)
          · have ho := in_ c12 ho
            refine lv_iconst (v := 0) hx hb dX10_owedBy_58 (by decide) ?_
            refine lv_istore (lv' := [(5, .int 0), (4, .int q7), (3, .int v4), (2, .int v5), (0, .ref (G.2.2 198)), (1, .int a0)]) hx hb dX10_owedBy_59 hl (by decide) rfl (fun ls hl => ?_)
            refine lv_iload_n hx hb dX10_owedBy_61 rfl (lv_at hl 3 rfl) ?_
            refine lv_iload hx hb dX10_owedBy_62 (lv_at hl 0 rfl) ?_
            refine lv_if_eq (tgt := 85) hx hb dX10_owedBy_64 (by decide) (fun _ => ?_) (fun h => absurd h (by decide))
            refine lv_iconst (v := 0) hx hb dX10_owedBy_85 (by decide) ?_
            refine lv_iadd hx hb dX10_owedBy_86 ?_
            obtain ⟨x13, ex13, ho⟩ := lt_ ho
            refine lv_nm ex13 ?_
            refine lv_istore_n (lv' := [(2, .int x13), (5, .int 0), (4, .int q7), (3, .int v4), (0, .ref (G.2.2 198)), (1, .int a0)]) hx hb dX10_owedBy_87 rfl hl (by decide) rfl (fun ls hl => ?_)
            obtain ⟨x14, ex14, ho⟩ := lt_ ho
            refine lv_iinc (v := x14) (lv' := [(3, .int x14), (2, .int x13), (5, .int 0), (4, .int q7), (0, .ref (G.2.2 198)), (1, .int a0)]) hx hb dX10_owedBy_88 hl (k := 3) rfl (by rw [ex14]; rfl) (by decide) rfl (fun ls hl => ?_)
            refine lv_goto (tgt := 4) hx hb dX10_owedBy_91 (by decide) ?_
            exact ih _ _  _ _ _ ho B (lv_sub hl [0, 1, 4, 5] rfl)
          · have ho := ip_ c12 ho
            refine lv_aload_n hx hb dX10_owedBy_41 rfl (lv_at hl 3 rfl) ?_
            refine r_get (ci := 14) (C := RX10) (T := TX10) (N := 21) S F B (kq (by decide) : kd 198 = 21 ∧ 198 < NN) rfl rfl hiX10 0 (by decide) (by decide +kernel) rfl dX10_owedBy_42 ?_
            refine lv_iload hx hb dX10_owedBy_45 (lv_at hl 0 rfl) ?_
            refine lv_bipush (v := 6) hx hb dX10_owedBy_47 (by decide) ?_
            refine lv_iadd hx hb dX10_owedBy_49 ?_
            obtain ⟨hi, ho⟩ := gd_ ho
            refine r_iald S F B (kq (by decide) : kd 199 = 22 ∧ 199 < NN) rfl hi dX10_owedBy_50 ?_
            refine lv_if_ne (tgt := 58) hx hb dX10_owedBy_51 (by decide) (fun c15 => ?_) (fun c15 => ?_)
            · have ho := in_ c15 ho
              refine lv_iconst (v := 0) hx hb dX10_owedBy_58 (by decide) ?_
              refine lv_istore (lv' := [(5, .int 0), (4, .int q7), (3, .int v4), (2, .int v5), (0, .ref (G.2.2 198)), (1, .int a0)]) hx hb dX10_owedBy_59 hl (by decide) rfl (fun ls hl => ?_)
              refine lv_iload_n hx hb dX10_owedBy_61 rfl (lv_at hl 3 rfl) ?_
              refine lv_iload hx hb dX10_owedBy_62 (lv_at hl 0 rfl) ?_
              refine lv_if_eq (tgt := 85) hx hb dX10_owedBy_64 (by decide) (fun _ => ?_) (fun h => absurd h (by decide))
              refine lv_iconst (v := 0) hx hb dX10_owedBy_85 (by decide) ?_
              refine lv_iadd hx hb dX10_owedBy_86 ?_
              obtain ⟨x16, ex16, ho⟩ := lt_ ho
              refine lv_nm ex16 ?_
              refine lv_istore_n (lv' := [(2, .int x16), (5, .int 0), (4, .int q7), (3, .int v4), (0, .ref (G.2.2 198)), (1, .int a0)]) hx hb dX10_owedBy_87 rfl hl (by decide) rfl (fun ls hl => ?_)
              obtain ⟨x17, ex17, ho⟩ := lt_ ho
              refine lv_iinc (v := x17) (lv' := [(3, .int x17), (2, .int x16), (5, .int 0), (4, .int q7), (0, .ref (G.2.2 198)), (1, .int a0)]) hx hb dX10_owedBy_88 hl (k := 3) rfl (by rw [ex17]; rfl) (by decide) rfl (fun ls hl => ?_)
              refine lv_goto (tgt := 4) hx hb dX10_owedBy_91 (by decide) ?_
              exact ih _ _  _ _ _ ho B (lv_sub hl [0, 1, 4, 5] rfl)
            · have ho := ip_ c15 ho
              refine lv_iconst (v := 1) hx hb dX10_owedBy_54 (by decide) ?_
              refine lv_goto (tgt := 59) hx hb dX10_owedBy_55 (by decide) ?_
              refine lv_istore (lv' := [(5, .int 1), (4, .int q7), (3, .int v4), (2, .int v5), (0, .ref (G.2.2 198)), (1, .int a0)]) hx hb dX10_owedBy_59 hl (by decide) rfl (fun ls hl => ?_)
              refine lv_iload_n hx hb dX10_owedBy_61 rfl (lv_at hl 3 rfl) ?_
              refine lv_iload hx hb dX10_owedBy_62 (lv_at hl 0 rfl) ?_
              refine lv_if_eq (tgt := 85) hx hb dX10_owedBy_64 (by decide) (fun h => absurd h (by decide)) (fun _ => ?_)
              refine lv_aload_n hx hb dX10_owedBy_67 rfl (lv_at hl 4 rfl) ?_
              refine r_get (ci := 14) (C := RX10) (T := TX10) (N := 21) S F B (kq (by decide) : kd 198 = 21 ∧ 198 < NN) rfl rfl hiX10 0 (by decide) (by decide +kernel) rfl dX10_owedBy_68 ?_
              refine lv_iload hx hb dX10_owedBy_71 (lv_at hl 1 rfl) ?_
              refine lv_iconst (v := 5) hx hb dX10_owedBy_73 (by decide) ?_
              refine lv_iadd hx hb dX10_owedBy_74 ?_
              obtain ⟨hi, ho⟩ := gd_ ho
              refine r_iald S F B (kq (by decide) : kd 199 = 22 ∧ 199 < NN) rfl hi dX10_owedBy_75 ?_
              refine lv_aload_n hx hb dX10_owedBy_76 rfl (lv_at hl 4 rfl) ?_
              refine lv_iload_n hx hb dX10_owedBy_77 rfl (lv_at hl 2 rfl) ?_
              obtain ⟨q18, hq18, ho⟩ := bnd_ ho
              refine k_iV (As := [.int v4]) (rest := [.int (σ 199 (q7 + 5).toNatClampNeg), .int v5]) S F B (c_X10_lostOf l G σ _ v4 hq18) (kq (by decide) : kd 198 = 21 ∧ 198 < NN) rfl rfl (cwV 1 hts gX10_owedBy_X10_lostOf rfl rfl rfl (by decide +kernel) ⟨Nat.le_of_ble_eq_true rfl, Nat.le_of_ble_eq_true rfl⟩) rfl hl.1 rfl (Nat.le_of_ble_eq_true rfl) dX10_owedBy_78 ⟨Nat.le_of_ble_eq_true rfl, Nat.le_of_ble_eq_true rfl⟩ (fun H locs B => ?_)
              refine lv_imul hx hb dX10_owedBy_81 ?_
              refine lv_goto (tgt := 86) hx hb dX10_owedBy_82 (by decide) ?_
              refine lv_iadd hx hb dX10_owedBy_86 ?_
              obtain ⟨x19, ex19, ho⟩ := lt_ ho
              refine lv_nm ex19 ?_
              refine lv_istore_n (lv' := [(2, .int x19), (5, .int 1), (4, .int q7), (3, .int v4), (0, .ref (G.2.2 198)), (1, .int a0)]) hx hb dX10_owedBy_87 rfl hl (by decide) rfl (fun ls hl => ?_)
              obtain ⟨x20, ex20, ho⟩ := lt_ ho
              refine lv_iinc (v := x20) (lv' := [(3, .int x20), (2, .int x19), (5, .int 1), (4, .int q7), (0, .ref (G.2.2 198)), (1, .int a0)]) hx hb dX10_owedBy_88 hl (k := 3) rfl (by rw [ex20]; rfl) (by decide) rfl (fun ls hl => ?_)
              refine lv_goto (tgt := 4) hx hb dX10_owedBy_91 (by decide) ?_
              exact ih _ _  _ _ _ ho B (lv_sub hl [0, 1, 4, 5] rfl)
  exact hloop4 8 _ _  _ _ _ ho B hl

set_option maxHeartbeats 4000000 in
set_option maxRecDepth 100000 in
theorem c_X10_owed (l : Launch) (G : Gd) (σ : Mm) (sz : Nat) (a0 : Int32) {out : Int32 × Mm} (ho : f_X10_owed a0 σ = some out) : Met l yX10_owed wsX10_owed { frames := 3, cells := 0, slots := 0, locals := 79 } (va_Pc [.ref (G.2.2 198), .int a0] (PW G σ sz)) (Qi G sz out.1 out.2) 0 0 (AA G sz) := by
  refine Met.ofW (cc := cX10_owed) (maxL := 2) (ret := (some .int)) (by decide) rfl ?_
  intro p e s m args below meth c s₁ B0 hml hv
  obtain ⟨rfl, hpw⟩ := hv
  have hsz := hpw.1
  subst hsz
  obtain ⟨F, B⟩ := hpw.to
  have hx := B0.exec
  have hb := B0.bytes
  have hr := B0.returns
  have hts := atoms_spec (ws := wsX10_owed) B0.pre
  have hown : s.vm.findClass RX10 = some m.cls := findClass_of_methodNamed B0.named
  have hlocks := B0.notSynchronized
  have S : CallFix p m c cX10_owed 2 s _ wsX10_owed RX10 := ⟨hx, hb, hml, hown, hts⟩
  have hiX10 : ∀ w ∈ u_ws RX10 TX10 21, w ∈ wsX10_owed := by decide +kernel
  have hl := lv_entry [.ref (G.2.2 198), .int a0] (n := 2) (Nat.le_of_ble_eq_true rfl)
  rw [lg_entry_eq]
  generalize (lg_sl [.ref (G.2.2 198), .int a0] ++ List.replicate (2 - (lg_sl [.ref (G.2.2 198), .int a0]).length) Slot.unset).toArray = ls at hl ⊢
  have hl : lv_has ls 2 [(0, .ref (G.2.2 198)), (1, .int a0)] := hl
  unfold f_X10_owed at ho
  refine lv_aload_n hx hb dX10_owed_0 rfl (lv_at hl 0 rfl) ?_
  refine lv_iconst (v := 0) hx hb dX10_owed_1 (by decide) ?_
  refine r_put (ci := 14) (C := RX10) (T := TX10) (N := 21) (ty := .int) S F B tyX10 tyX10_ok nmX10 (kq (by decide) : kd 198 = 21 ∧ 198 < NN) (fun _ => rfl) rfl hiX10 12 (by decide) (by decide +kernel) rfl rfl rfl rfl (fun _ => Nat.le_of_ble_eq_true rfl) (fun _ => rfl) dX10_owed_2 (fun H locs B => ?_)
  obtain ⟨σ1, eσ1, ho⟩ := lt_ ho
  rw [← eσ1] at B
  refine lv_aload_n hx hb dX10_owed_5 rfl (lv_at hl 0 rfl) ?_
  refine lv_iload_n hx hb dX10_owed_6 rfl (lv_at hl 1 rfl) ?_
  obtain ⟨q2, hq2, ho⟩ := bnd_ ho
  refine k_iV (As := [.int a0]) (rest := []) S F B (c_X10_isGardener l G σ1 _ a0 hq2) (kq (by decide) : kd 198 = 21 ∧ 198 < NN) rfl rfl (cwV 1 hts gX10_owed_X10_isGardener rfl rfl rfl (by decide +kernel) ⟨Nat.le_of_ble_eq_true rfl, Nat.le_of_ble_eq_true rfl⟩) rfl hl.1 rfl (Nat.le_of_ble_eq_true rfl) dX10_owed_7 ⟨Nat.le_of_ble_eq_true rfl, Nat.le_of_ble_eq_true rfl⟩ (fun H locs B => ?_)
  refine lv_if_eq (tgt := 21) hx hb dX10_owed_10 (by decide) (fun c3 => ?_) (fun c3 => ?_)
  · have ho := ip_ c3 ho
    refine lv_aload_n hx hb dX10_owed_21 rfl (lv_at hl 0 rfl) ?_
    refine lv_iconst (v := 1) hx hb dX10_owed_22 (by decide) ?_
    obtain ⟨q4, σ5, hq4, ho⟩ := bnm_ ho
    refine k_iV (As := [.int 1]) (rest := []) S F B (c_X10_throwing l G σ1 _ 1 hq4) (kq (by decide) : kd 198 = 21 ∧ 198 < NN) rfl rfl (cwV 1 hts gX10_owed_X10_throwing rfl rfl rfl (by decide +kernel) ⟨Nat.le_of_ble_eq_true rfl, Nat.le_of_ble_eq_true rfl⟩) rfl hl.1 rfl (Nat.le_of_ble_eq_true rfl) dX10_owed_23 ⟨Nat.le_of_ble_eq_true rfl, Nat.le_of_ble_eq_true rfl⟩ (fun H locs B => ?_)
    cases ho
    exact e_i B hx hb hr hlocks rfl rfl dX10_owed_26
  · have ho := in_ c3 ho
    refine lv_aload_n hx hb dX10_owed_13 rfl (lv_at hl 0 rfl) ?_
    refine lv_iload_n hx hb dX10_owed_14 rfl (lv_at hl 1 rfl) ?_
    obtain ⟨q6, hq6, ho⟩ := bnd_ ho
    refine k_iV (As := [.int a0]) (rest := []) S F B (c_X10_owedBy l G σ1 _ a0 hq6) (kq (by decide) : kd 198 = 21 ∧ 198 < NN) rfl rfl (cwV 1 hts gX10_owed_X10_owedBy rfl rfl rfl (by decide +kernel) ⟨Nat.le_of_ble_eq_true rfl, Nat.le_of_ble_eq_true rfl⟩) rfl hl.1 rfl (Nat.le_of_ble_eq_true rfl) dX10_owed_15 ⟨Nat.le_of_ble_eq_true rfl, Nat.le_of_ble_eq_true rfl⟩ (fun H locs B => ?_)
    refine lv_goto (tgt := 26) hx hb dX10_owed_18 (by decide) ?_
    cases ho
    exact e_i B hx hb hr hlocks rfl rfl dX10_owed_26

set_option maxHeartbeats 4000000 in
set_option maxRecDepth 100000 in
theorem c_X10_measured (l : Launch) (G : Gd) (σ : Mm) (sz : Nat) (a0 : Int32) (a1 : Int32) {out : Int32} (ho : f_X10_measured a0 a1 σ = some out) : Met l yX10_measured wsX10_measured { frames := 2, cells := 0, slots := 0, locals := 54 } (va_Pc [.ref (G.2.2 198), .int a0, .int a1] (PW G σ sz)) (Qi G sz out σ) 0 0 (AA G sz) := by
  refine Met.ofW (cc := cX10_measured) (maxL := 4) (ret := (some .int)) (by decide) rfl ?_
  intro p e s m args below meth c s₁ B0 hml hv
  obtain ⟨rfl, hpw⟩ := hv
  have hsz := hpw.1
  subst hsz
  obtain ⟨F, B⟩ := hpw.to
  have hx := B0.exec
  have hb := B0.bytes
  have hr := B0.returns
  have hts := atoms_spec (ws := wsX10_measured) B0.pre
  have hown : s.vm.findClass RX10 = some m.cls := findClass_of_methodNamed B0.named
  have hlocks := B0.notSynchronized
  have S : CallFix p m c cX10_measured 4 s _ wsX10_measured RX10 := ⟨hx, hb, hml, hown, hts⟩
  have hiX10 : ∀ w ∈ u_ws RX10 TX10 21, w ∈ wsX10_measured := by decide +kernel
  have hl := lv_entry [.ref (G.2.2 198), .int a0, .int a1] (n := 4) (Nat.le_of_ble_eq_true rfl)
  rw [lg_entry_eq]
  generalize (lg_sl [.ref (G.2.2 198), .int a0, .int a1] ++ List.replicate (4 - (lg_sl [.ref (G.2.2 198), .int a0, .int a1]).length) Slot.unset).toArray = ls at hl ⊢
  have hl : lv_has ls 4 [(0, .ref (G.2.2 198)), (1, .int a0), (2, .int a1)] := hl
  unfold f_X10_measured at ho
  refine lv_iload_n hx hb dX10_measured_0 rfl (lv_at hl 2 rfl) ?_
  obtain ⟨q1, hq1, ho⟩ := bnd_ ho
  refine k_iS (As := [.int a1]) (rest := []) S F B (c_X10_visitorAt l G σ _ a1 hq1) (va_cwS 1 hts gX10_measured_X10_visitorAt rfl rfl rfl (by decide +kernel) ⟨Nat.le_of_ble_eq_true rfl, Nat.le_of_ble_eq_true rfl⟩) rfl hl.1 rfl (Nat.le_of_ble_eq_true rfl) dX10_measured_1 ⟨Nat.le_of_ble_eq_true rfl, Nat.le_of_ble_eq_true rfl⟩ (fun H locs B => ?_)
  refine lv_istore_n (lv' := [(3, .int q1), (0, .ref (G.2.2 198)), (1, .int a0), (2, .int a1)]) hx hb dX10_measured_4 rfl hl (by decide) rfl (fun ls hl => ?_)
  refine lv_iload_n hx hb dX10_measured_5 rfl (lv_at hl 2 rfl) ?_
  by_cases c2 : a0 = 0
  · have ho := ip_ c2 ho
    refine lv_tableIn (off := 26) (tgt := 32) hx hb dX10_measured_6 (by rw [c2]; decide) (by rw [c2]; decide) (by rw [c2]; rfl) (by decide) ?_
    refine lv_aload_n hx hb dX10_measured_32 rfl (lv_at hl 1 rfl) ?_
    refine r_get (ci := 14) (C := RX10) (T := TX10) (N := 21) S F B (kq (by decide) : kd 198 = 21 ∧ 198 < NN) rfl rfl hiX10 0 (by decide) (by decide +kernel) rfl dX10_measured_33 ?_
    refine lv_iload_n hx hb dX10_measured_36 rfl (lv_at hl 0 rfl) ?_
    obtain ⟨hi, ho⟩ := gd_ ho
    refine r_iald S F B (kq (by decide) : kd 199 = 22 ∧ 199 < NN) rfl hi dX10_measured_37 ?_
    cases ho
    exact e_i B hx hb hr hlocks rfl rfl dX10_measured_38
  · have ho := in_ c2 ho
    by_cases c3 : a0 = 1
    · have ho := ip_ c3 ho
      refine lv_tableIn (off := 33) (tgt := 39) hx hb dX10_measured_6 (by rw [c3]; decide) (by rw [c3]; decide) (by rw [c3]; rfl) (by decide) ?_
      refine lv_aload_n hx hb dX10_measured_39 rfl (lv_at hl 1 rfl) ?_
      refine r_get (ci := 14) (C := RX10) (T := TX10) (N := 21) S F B (kq (by decide) : kd 198 = 21 ∧ 198 < NN) rfl rfl hiX10 0 (by decide) (by decide +kernel) rfl dX10_measured_40 ?_
      refine lv_iload_n hx hb dX10_measured_43 rfl (lv_at hl 0 rfl) ?_
      refine lv_iconst (v := 2) hx hb dX10_measured_44 (by decide) ?_
      refine lv_iadd hx hb dX10_measured_45 ?_
      obtain ⟨hi, ho⟩ := gd_ ho
      refine r_iald S F B (kq (by decide) : kd 199 = 22 ∧ 199 < NN) rfl hi dX10_measured_46 ?_
      cases ho
      exact e_i B hx hb hr hlocks rfl rfl dX10_measured_47
    · have ho := in_ c3 ho
      by_cases c4 : a0 = 2
      · have ho := ip_ c4 ho
        refine lv_tableIn (off := 42) (tgt := 48) hx hb dX10_measured_6 (by rw [c4]; decide) (by rw [c4]; decide) (by rw [c4]; rfl) (by decide) ?_
        refine lv_aload_n hx hb dX10_measured_48 rfl (lv_at hl 1 rfl) ?_
        refine lv_iload_n hx hb dX10_measured_49 rfl (lv_at hl 3 rfl) ?_
        obtain ⟨q5, hq5, ho⟩ := bnd_ ho
        refine k_iV (As := [.int a1]) (rest := []) S F B (c_X10_lostOf l G σ _ a1 hq5) (kq (by decide) : kd 198 = 21 ∧ 198 < NN) rfl rfl (cwV 1 hts gX10_measured_X10_lostOf rfl rfl rfl (by decide +kernel) ⟨Nat.le_of_ble_eq_true rfl, Nat.le_of_ble_eq_true rfl⟩) rfl hl.1 rfl (Nat.le_of_ble_eq_true rfl) dX10_measured_50 ⟨Nat.le_of_ble_eq_true rfl, Nat.le_of_ble_eq_true rfl⟩ (fun H locs B => ?_)
        cases ho
        exact e_i B hx hb hr hlocks rfl rfl dX10_measured_53
      · have ho := in_ c4 ho
        refine t_tableD (tgt := 54) hx hb dX10_measured_6 rfl (fun j hj => ?_) (by decide) ?_
        · have hj : j < 3 := hj
          rcases (show j = 0 ∨ j = 1 ∨ j = 2 by omega) with rfl | rfl | rfl
          · exact Or.inr (lv_neT c2 (by decide))
          · exact Or.inr (lv_neT c3 (by decide))
          · exact Or.inr (lv_neT c4 (by decide))
        · refine lv_aload_n hx hb dX10_measured_54 rfl (lv_at hl 1 rfl) ?_
          refine r_get (ci := 14) (C := RX10) (T := TX10) (N := 21) S F B (kq (by decide) : kd 198 = 21 ∧ 198 < NN) rfl rfl hiX10 0 (by decide) (by decide +kernel) rfl dX10_measured_55 ?_
          refine lv_iload_n hx hb dX10_measured_58 rfl (lv_at hl 0 rfl) ?_
          refine lv_iconst (v := 5) hx hb dX10_measured_59 (by decide) ?_
          refine lv_iadd hx hb dX10_measured_60 ?_
          obtain ⟨hi, ho⟩ := gd_ ho
          refine r_iald S F B (kq (by decide) : kd 199 = 22 ∧ 199 < NN) rfl hi dX10_measured_61 ?_
          cases ho
          exact e_i B hx hb hr hlocks rfl rfl dX10_measured_62

set_option maxHeartbeats 4000000 in
set_option maxRecDepth 100000 in
theorem c_X10_ranked (l : Launch) (G : Gd) (σ : Mm) (sz : Nat) (a0 : Int32) (a1 : Int32) {out : Int32 × Mm} (ho : f_X10_ranked a0 a1 σ = some out) : Met l yX10_ranked wsX10_ranked { frames := 3, cells := 0, slots := 0, locals := 77 } (va_Pc [.ref (G.2.2 198), .int a0, .int a1] (PW G σ sz)) (Qi G sz out.1 out.2) 0 0 (AA G sz) := by
  refine Met.ofW (cc := cX10_ranked) (maxL := 7) (ret := (some .int)) (by decide) rfl ?_
  intro p e s m args below meth c s₁ B0 hml hv
  obtain ⟨rfl, hpw⟩ := hv
  have hsz := hpw.1
  subst hsz
  obtain ⟨F, B⟩ := hpw.to
  have hx := B0.exec
  have hb := B0.bytes
  have hr := B0.returns
  have hts := atoms_spec (ws := wsX10_ranked) B0.pre
  have hown : s.vm.findClass RX10 = some m.cls := findClass_of_methodNamed B0.named
  have hlocks := B0.notSynchronized
  have S : CallFix p m c cX10_ranked 7 s _ wsX10_ranked RX10 := ⟨hx, hb, hml, hown, hts⟩
  have hiX10 : ∀ w ∈ u_ws RX10 TX10 21, w ∈ wsX10_ranked := by decide +kernel
  have hl := lv_entry [.ref (G.2.2 198), .int a0, .int a1] (n := 7) (Nat.le_of_ble_eq_true rfl)
  rw [lg_entry_eq]
  generalize (lg_sl [.ref (G.2.2 198), .int a0, .int a1] ++ List.replicate (7 - (lg_sl [.ref (G.2.2 198), .int a0, .int a1]).length) Slot.unset).toArray = ls at hl ⊢
  have hl : lv_has ls 7 [(0, .ref (G.2.2 198)), (1, .int a0), (2, .int a1)] := hl
  unfold f_X10_ranked at ho
  skip
  refine lv_aload_n hx hb dX10_ranked_0 rfl (lv_at hl 0 rfl) ?_
  refine lv_iconst (v := 0) hx hb dX10_ranked_1 (by decide) ?_
  refine r_put (ci := 14) (C := RX10) (T := TX10) (N := 21) (ty := .int) S F B tyX10 tyX10_ok nmX10 (kq (by decide) : kd 198 = 21 ∧ 198 < NN) (fun _ => rfl) rfl hiX10 12 (by decide) (by decide +kernel) rfl rfl rfl rfl (fun _ => Nat.le_of_ble_eq_true rfl) (fun _ => rfl) dX10_ranked_2 (fun H locs B => ?_)
  obtain ⟨σ1, eσ1, ho⟩ := lt_ ho
  rw [← eσ1] at B
  refine lv_iload_n hx hb dX10_ranked_5 rfl (lv_at hl 1 rfl) ?_
  refine lv_i2l hx hb dX10_ranked_6 rfl ?_
  refine lv_lconst (v := 0) hx hb dX10_ranked_7 (by decide) ?_
  refine lv_ldc2 (v := 3) hx hb hown (hts _ (by decide +kernel)) dX10_ranked_8 ?_
  obtain ⟨q2, hq2, ho⟩ := bnd_ ho
  refine k_iS (As := [.long a0.toInt64, .long 0, .long 3]) (rest := []) S F B (c_X10_in l G σ1 _ a0.toInt64 0 3 hq2) (va_cwS 3 hts gX10_ranked_X10_in rfl rfl rfl (by decide +kernel) ⟨Nat.le_of_ble_eq_true rfl, Nat.le_of_ble_eq_true rfl⟩) rfl hl.1 rfl (Nat.le_of_ble_eq_true rfl) dX10_ranked_11 ⟨Nat.le_of_ble_eq_true rfl, Nat.le_of_ble_eq_true rfl⟩ (fun H locs B => ?_)
  refine lv_if_ne (tgt := 23) hx hb dX10_ranked_14 (by decide) (fun c3 => ?_) (fun c3 => ?_)
  · have ho := in_ c3 ho
    refine lv_iconst (v := 0) hx hb dX10_ranked_23 (by decide) ?_
    refine lv_istore_n (lv' := [(3, .int 0), (0, .ref (G.2.2 198)), (1, .int a0), (2, .int a1)]) hx hb dX10_ranked_24 rfl hl (by decide) rfl (fun ls hl => ?_)
    have hloop25 : ∀ (n : Nat) (v6 : Int32) (H : Heap) (locs : List Loc) (ls : Array Slot), f_X10_ranked_l25  a0 a1 σ1 n v6 = some out → Bd G σ1 s H locs → lv_has ls 7 [(3, .int v6), (0, .ref (G.2.2 198)), (1, .int a0), (2, .int a1)] → W p l e (headSpec wsX10_ranked { frames := 3, cells := 0, slots := 0, locals := 77 }).room s m #[.ref (G.2.2 198), .int a0, .int a1] below meth c H locs 0 0 (MQ below (Qi G s.heap.size out.1 out.2) #[.ref (G.2.2 198), .int a0, .int a1] s 0 0 (AA G s.heap.size)) (F0 m 25 ls []) := by
      intro n
      induction n with
      | zero => intro v6 H locs ls ho B hl; cases ho
      | succ n ih =>
        intro v6 H locs ls ho B hl
        refine lv_iload_n hx hb dX10_ranked_25 rfl (lv_at hl 0 rfl) ?_
        refine lv_aload_n hx hb dX10_ranked_26 rfl (lv_at hl 1 rfl) ?_
        refine r_get (ci := 14) (C := RX10) (T := TX10) (N := 21) S F B (kq (by decide) : kd 198 = 21 ∧ 198 < NN) rfl rfl hiX10 0 (by decide) (by decide +kernel) rfl dX10_ranked_27 ?_
        refine lv_iconst (v := 1) hx hb dX10_ranked_30 (by decide) ?_
        refine r_ialdc (j := 1) S F B (kq (by decide) : kd 199 = 22 ∧ 199 < NN) rfl (vpc (by decide)) (by decide) dX10_ranked_31 ?_
        refine lv_icmp_ge (tgt := 114) hx hb dX10_ranked_32 (by decide) (fun c7 => ?_) (fun c7 => ?_)
        · have ho := ip_ c7 ho
          refine lv_aload_n hx hb dX10_ranked_114 rfl (lv_at hl 1 rfl) ?_
          refine lv_iconst (v := 2) hx hb dX10_ranked_115 (by decide) ?_
          obtain ⟨q8, σ9, hq8, ho⟩ := bnm_ ho
          refine k_iV (As := [.int 2]) (rest := []) S F B (c_X10_throwing l G σ1 _ 2 hq8) (kq (by decide) : kd 198 = 21 ∧ 198 < NN) rfl rfl (cwV 1 hts gX10_ranked_X10_throwing rfl rfl rfl (by decide +kernel) ⟨Nat.le_of_ble_eq_true rfl, Nat.le_of_ble_eq_true rfl⟩) rfl hl.1 rfl (Nat.le_of_ble_eq_true rfl) dX10_ranked_116 ⟨Nat.le_of_ble_eq_true rfl, Nat.le_of_ble_eq_true rfl⟩ (fun H locs B => ?_)
          cases ho
          exact e_i B hx hb hr hlocks rfl rfl dX10_ranked_119
        · have ho := in_ c7 ho
          refine lv_iconst (v := 0) hx hb dX10_ranked_35 (by decide) ?_
          refine lv_istore (lv' := [(4, .int 0), (3, .int v6), (0, .ref (G.2.2 198)), (1, .int a0), (2, .int a1)]) hx hb dX10_ranked_36 hl (by decide) rfl (fun ls hl => ?_)
          refine lv_iconst (v := 0) hx hb dX10_ranked_38 (by decide) ?_
          refine lv_istore (lv' := [(5, .int 0), (4, .int 0), (3, .int v6), (0, .ref (G.2.2 198)), (1, .int a0), (2, .int a1)]) hx hb dX10_ranked_39 hl (by decide) rfl (fun ls hl => ?_)
          obtain ⟨K, hK, ho⟩ := lt_ ho
          have hexit41 : ∀ (v10 : Int32) (v11 : Int32) (H : Heap) (locs : List Loc) (ls : Array Slot), K v10 v11 = some out → Bd G σ1 s H locs → lv_has ls 7 [(5, .int v10), (4, .int v11), (3, .int v6), (0, .ref (G.2.2 198)), (1, .int a0), (2, .int a1)] → W p l e (headSpec wsX10_ranked { frames := 3, cells := 0, slots := 0, locals := 77 }).room s m #[.ref (G.2.2 198), .int a0, .int a1] below meth c H locs 0 0 (MQ below (Qi G s.heap.size out.1 out.2) #[.ref (G.2.2 198), .int a0, .int a1] s 0 0 (AA G s.heap.size)) (F0 m 100 ls []) := by
            intro v10 v11 H locs ls ho B hl
            subst hK
            refine lv_iload hx hb dX10_ranked_100 (lv_at hl 1 rfl) ?_
            refine lv_iload_n hx hb dX10_ranked_102 rfl (lv_at hl 5 rfl) ?_
            refine lv_icmp_ne (tgt := 108) hx hb dX10_ranked_103 (by decide) (fun c13 => ?_) (fun c13 => ?_)
            · have ho := in_ c13 ho
              obtain ⟨x14, ex14, ho⟩ := lt_ ho
              refine lv_iinc (v := x14) (lv' := [(3, .int x14), (5, .int v10), (4, .int v11), (0, .ref (G.2.2 198)), (1, .int a0), (2, .int a1)]) hx hb dX10_ranked_108 hl (k := 2) rfl (by rw [ex14]; rfl) (by decide) rfl (fun ls hl => ?_)
              refine lv_goto (tgt := 25) hx hb dX10_ranked_111 (by decide) ?_
              exact ih _  _ _ _ ho B (lv_sub hl [0, 3, 4, 5] rfl)
            · have ho := ip_ c13 ho
              refine lv_iload_n hx hb dX10_ranked_106 rfl (lv_at hl 2 rfl) ?_
              cases ho
              exact e_i B hx hb hr hlocks rfl rfl dX10_ranked_107
          have hloop41 : ∀ (n : Nat) (v15 : Int32) (v16 : Int32) (H : Heap) (locs : List Loc) (ls : Array Slot), f_X10_ranked_l41 K v6 a0 a1 σ1 n v15 v16 = some out → Bd G σ1 s H locs → lv_has ls 7 [(5, .int v15), (4, .int v16), (3, .int v6), (0, .ref (G.2.2 198)), (1, .int a0), (2, .int a1)] → W p l e (headSpec wsX10_ranked { frames := 3, cells := 0, slots := 0, locals := 77 }).room s m #[.ref (G.2.2 198), .int a0, .int a1] below meth c H locs 0 0 (MQ below (Qi G s.heap.size out.1 out.2) #[.ref (G.2.2 198), .int a0, .int a1] s 0 0 (AA G s.heap.size)) (F0 m 41 ls []) := by
            intro n
            induction n with
            | zero => intro v15 v16 H locs ls ho B hl; cases ho
            | succ n ih =>
              intro v15 v16 H locs ls ho B hl
              refine lv_iload hx hb dX10_ranked_41 (lv_at hl 0 rfl) ?_
              refine lv_aload_n hx hb dX10_ranked_43 rfl (lv_at hl 3 rfl) ?_
              refine r_get (ci := 14) (C := RX10) (T := TX10) (N := 21) S F B (kq (by decide) : kd 198 = 21 ∧ 198 < NN) rfl rfl hiX10 0 (by decide) (by decide +kernel) rfl dX10_ranked_44 ?_
              refine lv_iconst (v := 1) hx hb dX10_ranked_47 (by decide) ?_
              refine r_ialdc (j := 1) S F B (kq (by decide) : kd 199 = 22 ∧ 199 < NN) rfl (vpc (by decide)) (by decide) dX10_ranked_48 ?_
              refine lv_icmp_ge (tgt := 100) hx hb dX10_ranked_49 (by decide) (fun c17 => ?_) (fun c17 => ?_)
              · have ho := ip_ c17 ho
                exact hexit41 _ _  _ _ _ ho B (lv_sub hl [0, 1, 2, 3, 4, 5] rfl)
              · have ho := in_ c17 ho
                refine lv_aload_n hx hb dX10_ranked_52 rfl (lv_at hl 3 rfl) ?_
                refine lv_iload_n hx hb dX10_ranked_53 rfl (lv_at hl 4 rfl) ?_
                refine lv_iload hx hb dX10_ranked_54 (lv_at hl 0 rfl) ?_
                obtain ⟨q18, hq18, ho⟩ := bnd_ ho
                refine k_iV (As := [.int a0, .int v15]) (rest := []) S F B (c_X10_measured l G σ1 _ a0 v15 hq18) (kq (by decide) : kd 198 = 21 ∧ 198 < NN) rfl rfl (cwV 2 hts gX10_ranked_X10_measured rfl rfl rfl (by decide +kernel) ⟨Nat.le_of_ble_eq_true rfl, Nat.le_of_ble_eq_true rfl⟩) rfl hl.1 rfl (Nat.le_of_ble_eq_true rfl) dX10_ranked_56 ⟨Nat.le_of_ble_eq_true rfl, Nat.le_of_ble_eq_true rfl⟩ (fun H locs B => ?_)
                refine lv_aload_n hx hb dX10_ranked_59 rfl (lv_at hl 3 rfl) ?_
                refine lv_iload_n hx hb dX10_ranked_60 rfl (lv_at hl 4 rfl) ?_
                refine lv_iload_n hx hb dX10_ranked_61 rfl (lv_at hl 2 rfl) ?_
                obtain ⟨q19, hq19, ho⟩ := bnd_ ho
                refine k_iV (As := [.int a0, .int v6]) (rest := [.int q18]) S F B (c_X10_measured l G σ1 _ a0 v6 hq19) (kq (by decide) : kd 198 = 21 ∧ 198 < NN) rfl rfl (cwV 2 hts gX10_ranked_X10_measured rfl rfl rfl (by decide +kernel) ⟨Nat.le_of_ble_eq_true rfl, Nat.le_of_ble_eq_true rfl⟩) rfl hl.1 rfl (Nat.le_of_ble_eq_true rfl) dX10_ranked_62 ⟨Nat.le_of_ble_eq_true rfl, Nat.le_of_ble_eq_true rfl⟩ (fun H locs B => ?_)
                refine lv_isub hx hb dX10_ranked_65 ?_
                obtain ⟨x20, ex20, ho⟩ := lt_ ho
                refine lv_nm ex20 ?_
                refine lv_istore (lv' := [(6, .int x20), (5, .int v15), (4, .int v16), (3, .int v6), (0, .ref (G.2.2 198)), (1, .int a0), (2, .int a1)]) hx hb dX10_ranked_66 hl (by decide) rfl (fun ls hl => ?_)
                refine lv_iload hx hb dX10_ranked_68 (lv_at hl 2 rfl) ?_
                refine lv_iload hx hb dX10_ranked_70 (lv_at hl 0 rfl) ?_
                refine lv_if_gt (tgt := 86) hx hb dX10_ranked_72 (by decide) (fun c21 => ?_) (fun c21 => ?_)
                · have ho := ip_ c21 ho
                  refine lv_iconst (v := 1) hx hb dX10_ranked_86 (by decide) ?_
                  refine lv_goto (tgt := 91) hx hb dX10_ranked_87 (by decide) ?_
                  refine lv_iadd hx hb dX10_ranked_91 ?_
                  obtain ⟨x22, ex22, ho⟩ := lt_ ho
                  refine lv_nm ex22 ?_
                  refine lv_istore (lv' := [(4, .int x22), (6, .int x20), (5, .int v15), (3, .int v6), (0, .ref (G.2.2 198)), (1, .int a0), (2, .int a1)]) hx hb dX10_ranked_92 hl (by decide) rfl (fun ls hl => ?_)
                  obtain ⟨x23, ex23, ho⟩ := lt_ ho
                  refine lv_iinc (v := x23) (lv' := [(5, .int x23), (4, .int x22), (6, .int x20), (3, .int v6), (0, .ref (G.2.2 198)), (1, .int a0), (2, .int a1)]) hx hb dX10_ranked_94 hl (k := 2) rfl (by rw [ex23]; rfl) (by decide) rfl (fun ls hl => ?_)
                  refine lv_goto (tgt := 41) hx hb dX10_ranked_97 (by decide) ?_
                  exact ih _ _  _ _ _ ho B (lv_sub hl [0, 1, 3, 4, 5, 6] rfl)
                · have ho := in_ c21 ho
                  refine lv_iload hx hb dX10_ranked_75 (lv_at hl 0 rfl) ?_
                  refine lv_if_ne (tgt := 90) hx hb dX10_ranked_77 (by decide) (fun c24 => ?_) (fun c24 => ?_)
                  · have ho := in_ c24 ho
                    refine lv_iconst (v := 0) hx hb dX10_ranked_90 (by decide) ?_
                    refine lv_iadd hx hb dX10_ranked_91 ?_
                    obtain ⟨x25, ex25, ho⟩ := lt_ ho
                    refine lv_nm ex25 ?_
                    refine lv_istore (lv' := [(4, .int x25), (6, .int x20), (5, .int v15), (3, .int v6), (0, .ref (G.2.2 198)), (1, .int a0), (2, .int a1)]) hx hb dX10_ranked_92 hl (by decide) rfl (fun ls hl => ?_)
                    obtain ⟨x26, ex26, ho⟩ := lt_ ho
                    refine lv_iinc (v := x26) (lv' := [(5, .int x26), (4, .int x25), (6, .int x20), (3, .int v6), (0, .ref (G.2.2 198)), (1, .int a0), (2, .int a1)]) hx hb dX10_ranked_94 hl (k := 2) rfl (by rw [ex26]; rfl) (by decide) rfl (fun ls hl => ?_)
                    refine lv_goto (tgt := 41) hx hb dX10_ranked_97 (by decide) ?_
                    exact ih _ _  _ _ _ ho B (lv_sub hl [0, 1, 3, 4, 5, 6] rfl)
                  · have ho := ip_ c24 ho
                    refine lv_iload hx hb dX10_ranked_80 (lv_at hl 1 rfl) ?_
                    refine lv_iload_n hx hb dX10_ranked_82 rfl (lv_at hl 3 rfl) ?_
                    refine lv_icmp_ge (tgt := 90) hx hb dX10_ranked_83 (by decide) (fun c27 => ?_) (fun c27 => ?_)
                    · have ho := ip_ c27 ho
                      refine lv_iconst (v := 0) hx hb dX10_ranked_90 (by decide) ?_
                      refine lv_iadd hx hb dX10_ranked_91 ?_
                      obtain ⟨x28, ex28, ho⟩ := lt_ ho
                      refine lv_nm ex28 ?_
                      refine lv_istore (lv' := [(4, .int x28), (6, .int x20), (5, .int v15), (3, .int v6), (0, .ref (G.2.2 198)), (1, .int a0), (2, .int a1)]) hx hb dX10_ranked_92 hl (by decide) rfl (fun ls hl => ?_)
                      obtain ⟨x29, ex29, ho⟩ := lt_ ho
                      refine lv_iinc (v := x29) (lv' := [(5, .int x29), (4, .int x28), (6, .int x20), (3, .int v6), (0, .ref (G.2.2 198)), (1, .int a0), (2, .int a1)]) hx hb dX10_ranked_94 hl (k := 2) rfl (by rw [ex29]; rfl) (by decide) rfl (fun ls hl => ?_)
                      refine lv_goto (tgt := 41) hx hb dX10_ranked_97 (by decide) ?_
                      exact ih _ _  _ _ _ ho B (lv_sub hl [0, 1, 3, 4, 5, 6] rfl)
                    · have ho := in_ c27 ho
                      refine lv_iconst (v := 1) hx hb dX10_ranked_86 (by decide) ?_
                      refine lv_goto (tgt := 91) hx hb dX10_ranked_87 (by decide) ?_
                      refine lv_iadd hx hb dX10_ranked_91 ?_
                      obtain ⟨x30, ex30, ho⟩ := lt_ ho
                      refine lv_nm ex30 ?_
                      refine lv_istore (lv' := [(4, .int x30), (6, .int x20), (5, .int v15), (3, .int v6), (0, .ref (G.2.2 198)), (1, .int a0), (2, .int a1)]) hx hb dX10_ranked_92 hl (by decide) rfl (fun ls hl => ?_)
                      obtain ⟨x31, ex31, ho⟩ := lt_ ho
                      refine lv_iinc (v := x31) (lv' := [(5, .int x31), (4, .int x30), (6, .int x20), (3, .int v6), (0, .ref (G.2.2 198)), (1, .int a0), (2, .int a1)]) hx hb dX10_ranked_94 hl (k := 2) rfl (by rw [ex31]; rfl) (by decide) rfl (fun ls hl => ?_)
                      refine lv_goto (tgt := 41) hx hb dX10_ranked_97 (by decide) ?_
                      exact ih _ _  _ _ _ ho B (lv_sub hl [0, 1, 3, 4, 5, 6] rfl)
          exact hloop41 8 _ _  _ _ _ ho B hl
    exact hloop25 8 _  _ _ _ ho B hl
  · have ho := ip_ c3 ho
    refine lv_aload_n hx hb dX10_ranked_17 rfl (lv_at hl 0 rfl) ?_
    refine lv_iconst (v := 1) hx hb dX10_ranked_18 (by decide) ?_
    obtain ⟨q32, σ33, hq32, ho⟩ := bnm_ ho
    refine k_iV (As := [.int 1]) (rest := []) S F B (c_X10_throwing l G σ1 _ 1 hq32) (kq (by decide) : kd 198 = 21 ∧ 198 < NN) rfl rfl (cwV 1 hts gX10_ranked_X10_throwing rfl rfl rfl (by decide +kernel) ⟨Nat.le_of_ble_eq_true rfl, Nat.le_of_ble_eq_true rfl⟩) rfl hl.1 rfl (Nat.le_of_ble_eq_true rfl) dX10_ranked_19 ⟨Nat.le_of_ble_eq_true rfl, Nat.le_of_ble_eq_true rfl⟩ (fun H locs B => ?_)
    cases ho
    exact e_i B hx hb hr hlocks rfl rfl dX10_ranked_22

