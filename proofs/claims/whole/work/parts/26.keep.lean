set_option maxHeartbeats 4000000 in
set_option maxRecDepth 100000 in
theorem c_X3_hedgeOrRefusal (l : Launch) (G : Gd) (σ : Mm) (sz : Nat) (a0 : Int32) (a1 : Int32) {out : Int32 × Mm} (ho : f_X3_hedgeOrRefusal a0 a1 σ = some out) : Met l yX3_hedgeOrRefusal wsX3_hedgeOrRefusal { frames := 2, cells := 0, slots := 0, locals := 56 } (va_Pc [.ref (G.2.2 161), .int a0, .int a1] (PW G σ sz)) (Qi G sz out.1 out.2) 0 0 (AA G sz) := by
  refine Met.ofW (cc := cX3_hedgeOrRefusal) (maxL := 4) (ret := (some .int)) (by decide) rfl ?_
  intro p e s m args below meth c s₁ B0 hml hv
  obtain ⟨rfl, hpw⟩ := hv
  have hsz := hpw.1
  subst hsz
  obtain ⟨F, B⟩ := hpw.to
  have hx := B0.exec
  have hb := B0.bytes
  have hr := B0.returns
  have hts := atoms_spec (ws := wsX3_hedgeOrRefusal) B0.pre
  have hown : s.vm.findClass RX3 = some m.cls := findClass_of_methodNamed B0.named
  have hlocks := B0.notSynchronized
  have S : CallFix p m c cX3_hedgeOrRefusal 4 s _ wsX3_hedgeOrRefusal RX3 := ⟨hx, hb, hml, hown, hts⟩
  have hiX3 : ∀ w ∈ u_ws RX3 TX3 3, w ∈ wsX3_hedgeOrRefusal := by decide +kernel
  have hl := lv_entry [.ref (G.2.2 161), .int a0, .int a1] (n := 4) (Nat.le_of_ble_eq_true rfl)
  rw [lg_entry_eq]
  generalize (lg_sl [.ref (G.2.2 161), .int a0, .int a1] ++ List.replicate (4 - (lg_sl [.ref (G.2.2 161), .int a0, .int a1]).length) Slot.unset).toArray = ls at hl ⊢
  have hl : lv_has ls 4 [(0, .ref (G.2.2 161)), (1, .int a0), (2, .int a1)] := hl
  unfold f_X3_hedgeOrRefusal at ho
  refine lv_iload_n hx hb dX3_hedgeOrRefusal_0 rfl (lv_at hl 1 rfl) ?_
  obtain ⟨q1, hq1, ho⟩ := bnd_ ho
  refine k_iS (As := [.int a0]) (rest := []) S F B (c_X4_isCell l G σ _ a0 hq1) (va_cwS 1 hts gX3_hedgeOrRefusal_X4_isCell rfl rfl rfl (by decide +kernel) ⟨Nat.le_of_ble_eq_true rfl, Nat.le_of_ble_eq_true rfl⟩) rfl hl.1 rfl (Nat.le_of_ble_eq_true rfl) dX3_hedgeOrRefusal_1 ⟨Nat.le_of_ble_eq_true rfl, Nat.le_of_ble_eq_true rfl⟩ (fun H locs B => ?_)
  refine lv_if_eq (tgt := 14) hx hb dX3_hedgeOrRefusal_4 (by decide) (fun c2 => ?_) (fun c2 => ?_)
  · have ho := ip_ c2 ho
    refine lv_aload_n hx hb dX3_hedgeOrRefusal_14 rfl (lv_at hl 0 rfl) ?_
    refine r_get (ci := 7) (C := RX3) (T := TX3) (N := 3) S F B (kq (by decide) : kd 161 = 13 ∧ 161 < NN) rfl rfl hiX3 2 (by decide) (by decide +kernel) rfl dX3_hedgeOrRefusal_15 ?_
    refine lv_iconst (v := 1) hx hb dX3_hedgeOrRefusal_18 (by decide) ?_
    refine lv_iconst (v := 0) hx hb dX3_hedgeOrRefusal_19 (by decide) ?_
    obtain ⟨q3, σ4, hq3, ho⟩ := bnm_ ho
    refine k_iV (As := [.int 1, .int 0]) (rest := []) S F B (c_X5_because l G σ _ 1 0 hq3) (kq (by decide) : kd 157 = 10 ∧ 157 < NN) rfl rfl (cwV 2 hts gX3_hedgeOrRefusal_X5_because rfl rfl rfl (by decide +kernel) ⟨Nat.le_of_ble_eq_true rfl, Nat.le_of_ble_eq_true rfl⟩) rfl hl.1 rfl (Nat.le_of_ble_eq_true rfl) dX3_hedgeOrRefusal_20 ⟨Nat.le_of_ble_eq_true rfl, Nat.le_of_ble_eq_true rfl⟩ (fun H locs B => ?_)
    refine lv_pop hx hb dX3_hedgeOrRefusal_23 rfl ?_
    refine lv_iconst (v := (-1)) hx hb dX3_hedgeOrRefusal_24 (by decide) ?_
    cases ho
    exact e_i B hx hb hr hlocks rfl rfl dX3_hedgeOrRefusal_25
  · have ho := in_ c2 ho
    refine lv_iload_n hx hb dX3_hedgeOrRefusal_7 rfl (lv_at hl 2 rfl) ?_
    obtain ⟨q5, hq5, ho⟩ := bnd_ ho
    refine k_iS (As := [.int a1]) (rest := []) S F B (c_X4_isCell l G σ _ a1 hq5) (va_cwS 1 hts gX3_hedgeOrRefusal_X4_isCell rfl rfl rfl (by decide +kernel) ⟨Nat.le_of_ble_eq_true rfl, Nat.le_of_ble_eq_true rfl⟩) rfl hl.1 rfl (Nat.le_of_ble_eq_true rfl) dX3_hedgeOrRefusal_8 ⟨Nat.le_of_ble_eq_true rfl, Nat.le_of_ble_eq_true rfl⟩ (fun H locs B => ?_)
    refine lv_if_ne (tgt := 26) hx hb dX3_hedgeOrRefusal_11 (by decide) (fun c6 => ?_) (fun c6 => ?_)
    · have ho := in_ c6 ho
      refine lv_iload_n hx hb dX3_hedgeOrRefusal_26 rfl (lv_at hl 1 rfl) ?_
      refine lv_iload_n hx hb dX3_hedgeOrRefusal_27 rfl (lv_at hl 2 rfl) ?_
      obtain ⟨q7, hq7, ho⟩ := bnd_ ho
      refine k_iS (As := [.int a0, .int a1]) (rest := []) S F B (c_X4_hedgeBetween l G σ _ a0 a1 hq7) (va_cwS 2 hts gX3_hedgeOrRefusal_X4_hedgeBetween rfl rfl rfl (by decide +kernel) ⟨Nat.le_of_ble_eq_true rfl, Nat.le_of_ble_eq_true rfl⟩) rfl hl.1 rfl (Nat.le_of_ble_eq_true rfl) dX3_hedgeOrRefusal_28 ⟨Nat.le_of_ble_eq_true rfl, Nat.le_of_ble_eq_true rfl⟩ (fun H locs B => ?_)
      refine lv_istore_n (lv' := [(3, .int q7), (0, .ref (G.2.2 161)), (1, .int a0), (2, .int a1)]) hx hb dX3_hedgeOrRefusal_31 rfl hl (by decide) rfl (fun ls hl => ?_)
      refine lv_iload_n hx hb dX3_hedgeOrRefusal_32 rfl (lv_at hl 0 rfl) ?_
      refine lv_iconst (v := (-1)) hx hb dX3_hedgeOrRefusal_33 (by decide) ?_
      refine lv_icmp_ne (tgt := 51) hx hb dX3_hedgeOrRefusal_34 (by decide) (fun c8 => ?_) (fun c8 => ?_)
      · have ho := in_ c8 ho
        refine lv_iload_n hx hb dX3_hedgeOrRefusal_51 rfl (lv_at hl 0 rfl) ?_
        cases ho
        exact e_i B hx hb hr hlocks rfl rfl dX3_hedgeOrRefusal_52
      · have ho := ip_ c8 ho
        refine lv_aload_n hx hb dX3_hedgeOrRefusal_37 rfl (lv_at hl 1 rfl) ?_
        refine r_get (ci := 7) (C := RX3) (T := TX3) (N := 3) S F B (kq (by decide) : kd 161 = 13 ∧ 161 < NN) rfl rfl hiX3 2 (by decide) (by decide +kernel) rfl dX3_hedgeOrRefusal_38 ?_
        refine lv_iconst (v := 2) hx hb dX3_hedgeOrRefusal_41 (by decide) ?_
        refine lv_iload_n hx hb dX3_hedgeOrRefusal_42 rfl (lv_at hl 2 rfl) ?_
        refine lv_iload_n hx hb dX3_hedgeOrRefusal_43 rfl (lv_at hl 3 rfl) ?_
        refine va_mmax hx hb (hml.trans hl.1.symm) hown (hts _ (by decide +kernel)) (hts _ (by decide +kernel)) (hts _ (by decide +kernel)) (hts _ (by decide +kernel)) (Nat.le_of_ble_eq_true rfl) (Nat.le_of_ble_eq_true rfl) (Nat.le_of_ble_eq_true rfl) (Nat.le_of_ble_eq_true rfl) dX3_hedgeOrRefusal_44 ?_
        obtain ⟨q9, σ10, hq9, ho⟩ := bnm_ ho
        refine k_iV (As := [.int 2, .int (if a0 < a1 then a1 else a0)]) (rest := []) S F B (c_X5_because l G σ _ 2 (if a0 < a1 then a1 else a0) hq9) (kq (by decide) : kd 157 = 10 ∧ 157 < NN) rfl rfl (cwV 2 hts gX3_hedgeOrRefusal_X5_because rfl rfl rfl (by decide +kernel) ⟨Nat.le_of_ble_eq_true rfl, Nat.le_of_ble_eq_true rfl⟩) rfl hl.1 rfl (Nat.le_of_ble_eq_true rfl) dX3_hedgeOrRefusal_47 ⟨Nat.le_of_ble_eq_true rfl, Nat.le_of_ble_eq_true rfl⟩ (fun H locs B => ?_)
        refine lv_pop hx hb dX3_hedgeOrRefusal_50 rfl ?_
        refine lv_iload_n hx hb dX3_hedgeOrRefusal_51 rfl (lv_at hl 0 rfl) ?_
        cases ho
        exact e_i B hx hb hr hlocks rfl rfl dX3_hedgeOrRefusal_52
    · have ho := ip_ c6 ho
      refine lv_aload_n hx hb dX3_hedgeOrRefusal_14 rfl (lv_at hl 0 rfl) ?_
      refine r_get (ci := 7) (C := RX3) (T := TX3) (N := 3) S F B (kq (by decide) : kd 161 = 13 ∧ 161 < NN) rfl rfl hiX3 2 (by decide) (by decide +kernel) rfl dX3_hedgeOrRefusal_15 ?_
      refine lv_iconst (v := 1) hx hb dX3_hedgeOrRefusal_18 (by decide) ?_
      refine lv_iconst (v := 0) hx hb dX3_hedgeOrRefusal_19 (by decide) ?_
      obtain ⟨q11, σ12, hq11, ho⟩ := bnm_ ho
      refine k_iV (As := [.int 1, .int 0]) (rest := []) S F B (c_X5_because l G σ _ 1 0 hq11) (kq (by decide) : kd 157 = 10 ∧ 157 < NN) rfl rfl (cwV 2 hts gX3_hedgeOrRefusal_X5_because rfl rfl rfl (by decide +kernel) ⟨Nat.le_of_ble_eq_true rfl, Nat.le_of_ble_eq_true rfl⟩) rfl hl.1 rfl (Nat.le_of_ble_eq_true rfl) dX3_hedgeOrRefusal_20 ⟨Nat.le_of_ble_eq_true rfl, Nat.le_of_ble_eq_true rfl⟩ (fun H locs B => ?_)
      refine lv_pop hx hb dX3_hedgeOrRefusal_23 rfl ?_
      refine lv_iconst (v := (-1)) hx hb dX3_hedgeOrRefusal_24 (by decide) ?_
      cases ho
      exact e_i B hx hb hr hlocks rfl rfl dX3_hedgeOrRefusal_25

set_option maxHeartbeats 4000000 in
set_option maxRecDepth 100000 in
theorem c_X3_tellLeaves (l : Launch) (G : Gd) (σ : Mm) (sz : Nat) (a0 : Int32) (a1 : Int32) (a2 : Int32) {out : Int32 × Mm} (ho : f_X3_tellLeaves a0 a1 a2 σ = some out) : Met l yX3_tellLeaves wsX3_tellLeaves { frames := 3, cells := 0, slots := 0, locals := 79 } (va_Pc [.ref (G.2.2 161), .int a0, .int a1, .int a2] (PW G σ sz)) (Qi G sz out.1 out.2) 0 0 (AA G sz) := by
  refine Met.ofW (cc := cX3_tellLeaves) (maxL := 6) (ret := (some .int)) (by decide) rfl ?_
  intro p e s m args below meth c s₁ B0 hml hv
  obtain ⟨rfl, hpw⟩ := hv
  have hsz := hpw.1
  subst hsz
  obtain ⟨F, B⟩ := hpw.to
  have hx := B0.exec
  have hb := B0.bytes
  have hr := B0.returns
  have hts := atoms_spec (ws := wsX3_tellLeaves) B0.pre
  have hown : s.vm.findClass RX3 = some m.cls := findClass_of_methodNamed B0.named
  have hlocks := B0.notSynchronized
  have S : CallFix p m c cX3_tellLeaves 6 s _ wsX3_tellLeaves RX3 := ⟨hx, hb, hml, hown, hts⟩
  have hiX3 : ∀ w ∈ u_ws RX3 TX3 3, w ∈ wsX3_tellLeaves := by decide +kernel
  have hiX6 : ∀ w ∈ u_ws RX6 TX6 9, w ∈ wsX3_tellLeaves := by decide +kernel
  have hl := lv_entry [.ref (G.2.2 161), .int a0, .int a1, .int a2] (n := 6) (Nat.le_of_ble_eq_true rfl)
  rw [lg_entry_eq]
  generalize (lg_sl [.ref (G.2.2 161), .int a0, .int a1, .int a2] ++ List.replicate (6 - (lg_sl [.ref (G.2.2 161), .int a0, .int a1, .int a2]).length) Slot.unset).toArray = ls at hl ⊢
  have hl : lv_has ls 6 [(0, .ref (G.2.2 161)), (1, .int a0), (2, .int a1), (3, .int a2)] := hl
  unfold f_X3_tellLeaves at ho
  refine lv_iload_n hx hb dX3_tellLeaves_0 rfl (lv_at hl 3 rfl) ?_
  refine lv_if_lt (tgt := 10) hx hb dX3_tellLeaves_1 (by decide) (fun c1 => ?_) (fun c1 => ?_)
  · have ho := ip_ c1 ho
    refine lv_aload_n hx hb dX3_tellLeaves_10 rfl (lv_at hl 0 rfl) ?_
    refine r_get (ci := 7) (C := RX3) (T := TX3) (N := 3) S F B (kq (by decide) : kd 161 = 13 ∧ 161 < NN) rfl rfl hiX3 2 (by decide) (by decide +kernel) rfl dX3_tellLeaves_11 ?_
    refine lv_iconst (v := 1) hx hb dX3_tellLeaves_14 (by decide) ?_
    refine lv_iconst (v := 0) hx hb dX3_tellLeaves_15 (by decide) ?_
    obtain ⟨q2, σ3, hq2, ho⟩ := bnm_ ho
    refine k_iV (As := [.int 1, .int 0]) (rest := []) S F B (c_X5_because l G σ _ 1 0 hq2) (kq (by decide) : kd 157 = 10 ∧ 157 < NN) rfl rfl (cwV 2 hts gX3_tellLeaves_X5_because rfl rfl rfl (by decide +kernel) ⟨Nat.le_of_ble_eq_true rfl, Nat.le_of_ble_eq_true rfl⟩) rfl hl.1 rfl (Nat.le_of_ble_eq_true rfl) dX3_tellLeaves_16 ⟨Nat.le_of_ble_eq_true rfl, Nat.le_of_ble_eq_true rfl⟩ (fun H locs B => ?_)
    cases ho
    exact e_i B hx hb hr hlocks rfl rfl dX3_tellLeaves_19
  · have ho := in_ c1 ho
    refine lv_iload_n hx hb dX3_tellLeaves_4 rfl (lv_at hl 3 rfl) ?_
    refine lv_bipush (v := 9) hx hb dX3_tellLeaves_5 (by decide) ?_
    refine lv_icmp_le (tgt := 20) hx hb dX3_tellLeaves_7 (by decide) (fun c4 => ?_) (fun c4 => ?_)
    · have ho := ip_ c4 ho
      refine lv_aload_n hx hb dX3_tellLeaves_20 rfl (lv_at hl 0 rfl) ?_
      refine lv_iload_n hx hb dX3_tellLeaves_21 rfl (lv_at hl 1 rfl) ?_
      refine lv_iload_n hx hb dX3_tellLeaves_22 rfl (lv_at hl 2 rfl) ?_
      obtain ⟨q5, σ6, hq5, ho⟩ := bnm_ ho
      refine k_iV (As := [.int a0, .int a1]) (rest := []) S F B (c_X3_hedgeOrRefusal l G σ _ a0 a1 hq5) (kq (by decide) : kd 161 = 13 ∧ 161 < NN) rfl rfl (cwV 2 hts gX3_tellLeaves_X3_hedgeOrRefusal rfl rfl rfl (by decide +kernel) ⟨Nat.le_of_ble_eq_true rfl, Nat.le_of_ble_eq_true rfl⟩) rfl hl.1 rfl (Nat.le_of_ble_eq_true rfl) dX3_tellLeaves_23 ⟨Nat.le_of_ble_eq_true rfl, Nat.le_of_ble_eq_true rfl⟩ (fun H locs B => ?_)
      refine lv_istore (lv' := [(4, .int q5), (0, .ref (G.2.2 161)), (1, .int a0), (2, .int a1), (3, .int a2)]) hx hb dX3_tellLeaves_26 hl (by decide) rfl (fun ls hl => ?_)
      refine lv_iload hx hb dX3_tellLeaves_28 (lv_at hl 0 rfl) ?_
      refine lv_iconst (v := (-1)) hx hb dX3_tellLeaves_30 (by decide) ?_
      refine lv_icmp_ne (tgt := 36) hx hb dX3_tellLeaves_31 (by decide) (fun c7 => ?_) (fun c7 => ?_)
      · have ho := in_ c7 ho
        refine lv_aload_n hx hb dX3_tellLeaves_36 rfl (lv_at hl 1 rfl) ?_
        refine r_get (ci := 7) (C := RX3) (T := TX3) (N := 3) S F B (kq (by decide) : kd 161 = 13 ∧ 161 < NN) rfl rfl hiX3 0 (by decide) (by decide +kernel) rfl dX3_tellLeaves_37 ?_
        refine r_getN (ci := 10) (C := RX6) (T := TX6) (N := 9) S F B (kq (by decide) : kd 0 = 0 ∧ 0 < NN) rfl rfl hiX6 0 (by decide) (by decide) rfl dX3_tellLeaves_40 ?_
        refine lv_iload hx hb dX3_tellLeaves_43 (lv_at hl 0 rfl) ?_
        obtain ⟨q8, hq8, ho⟩ := bnd_ ho
        refine k_iV (As := [.int q5]) (rest := []) S F B (c_X4_leavesOf l G σ6 _ q5 hq8) (kq (by decide) : kd 1 = 1 ∧ 1 < NN) rfl rfl (cwV 1 hts gX3_tellLeaves_X4_leavesOf rfl rfl rfl (by decide +kernel) ⟨Nat.le_of_ble_eq_true rfl, Nat.le_of_ble_eq_true rfl⟩) rfl hl.1 rfl (Nat.le_of_ble_eq_true rfl) dX3_tellLeaves_45 ⟨Nat.le_of_ble_eq_true rfl, Nat.le_of_ble_eq_true rfl⟩ (fun H locs B => ?_)
        refine lv_istore (lv' := [(5, .int q8), (4, .int q5), (0, .ref (G.2.2 161)), (1, .int a0), (2, .int a1), (3, .int a2)]) hx hb dX3_tellLeaves_48 hl (by decide) rfl (fun ls hl => ?_)
        refine lv_iload hx hb dX3_tellLeaves_50 (lv_at hl 0 rfl) ?_
        refine lv_iload_n hx hb dX3_tellLeaves_52 rfl (lv_at hl 5 rfl) ?_
        refine lv_icmp_ne (tgt := 66) hx hb dX3_tellLeaves_53 (by decide) (fun c9 => ?_) (fun c9 => ?_)
        · have ho := in_ c9 ho
          refine lv_aload_n hx hb dX3_tellLeaves_66 rfl (lv_at hl 2 rfl) ?_
          refine r_get (ci := 7) (C := RX3) (T := TX3) (N := 3) S F B (kq (by decide) : kd 161 = 13 ∧ 161 < NN) rfl rfl hiX3 0 (by decide) (by decide +kernel) rfl dX3_tellLeaves_67 ?_
          refine r_getN (ci := 10) (C := RX6) (T := TX6) (N := 9) S F B (kq (by decide) : kd 0 = 0 ∧ 0 < NN) rfl rfl hiX6 0 (by decide) (by decide) rfl dX3_tellLeaves_70 ?_
          refine lv_iload hx hb dX3_tellLeaves_73 (lv_at hl 1 rfl) ?_
          refine lv_iload_n hx hb dX3_tellLeaves_75 rfl (lv_at hl 5 rfl) ?_
          obtain ⟨σ11, hq10, ho⟩ := bnd_ ho
          refine k_vV (As := [.int q5, .int a2]) (rest := []) S F B (c_X4_putLeaves l G σ6 _ q5 a2 hq10) (kq (by decide) : kd 1 = 1 ∧ 1 < NN) rfl rfl (cwV 2 hts gX3_tellLeaves_X4_putLeaves rfl rfl rfl (by decide +kernel) ⟨Nat.le_of_ble_eq_true rfl, Nat.le_of_ble_eq_true rfl⟩) rfl hl.1 rfl (Nat.le_of_ble_eq_true rfl) dX3_tellLeaves_76 ⟨Nat.le_of_ble_eq_true rfl, Nat.le_of_ble_eq_true rfl⟩ (fun H locs B => ?_)
          refine lv_iload hx hb dX3_tellLeaves_79 (lv_at hl 0 rfl) ?_
          cases ho
          exact e_i B hx hb hr hlocks rfl rfl dX3_tellLeaves_81
        · have ho := ip_ c9 ho
          refine lv_aload_n hx hb dX3_tellLeaves_56 rfl (lv_at hl 2 rfl) ?_
          refine r_get (ci := 7) (C := RX3) (T := TX3) (N := 3) S F B (kq (by decide) : kd 161 = 13 ∧ 161 < NN) rfl rfl hiX3 2 (by decide) (by decide +kernel) rfl dX3_tellLeaves_57 ?_
          refine lv_iconst (v := 3) hx hb dX3_tellLeaves_60 (by decide) ?_
          refine lv_iload_n hx hb dX3_tellLeaves_61 rfl (lv_at hl 5 rfl) ?_
          obtain ⟨q12, σ13, hq12, ho⟩ := bnm_ ho
          refine k_iV (As := [.int 3, .int a2]) (rest := []) S F B (c_X5_because l G σ6 _ 3 a2 hq12) (kq (by decide) : kd 157 = 10 ∧ 157 < NN) rfl rfl (cwV 2 hts gX3_tellLeaves_X5_because rfl rfl rfl (by decide +kernel) ⟨Nat.le_of_ble_eq_true rfl, Nat.le_of_ble_eq_true rfl⟩) rfl hl.1 rfl (Nat.le_of_ble_eq_true rfl) dX3_tellLeaves_62 ⟨Nat.le_of_ble_eq_true rfl, Nat.le_of_ble_eq_true rfl⟩ (fun H locs B => ?_)
          cases ho
          exact e_i B hx hb hr hlocks rfl rfl dX3_tellLeaves_65
      · have ho := ip_ c7 ho
        refine lv_iconst (v := (-1)) hx hb dX3_tellLeaves_34 (by decide) ?_
        cases ho
        exact e_i B hx hb hr hlocks rfl rfl dX3_tellLeaves_35
    · have ho := in_ c4 ho
      refine lv_aload_n hx hb dX3_tellLeaves_10 rfl (lv_at hl 0 rfl) ?_
      refine r_get (ci := 7) (C := RX3) (T := TX3) (N := 3) S F B (kq (by decide) : kd 161 = 13 ∧ 161 < NN) rfl rfl hiX3 2 (by decide) (by decide +kernel) rfl dX3_tellLeaves_11 ?_
      refine lv_iconst (v := 1) hx hb dX3_tellLeaves_14 (by decide) ?_
      refine lv_iconst (v := 0) hx hb dX3_tellLeaves_15 (by decide) ?_
      obtain ⟨q14, σ15, hq14, ho⟩ := bnm_ ho
      refine k_iV (As := [.int 1, .int 0]) (rest := []) S F B (c_X5_because l G σ _ 1 0 hq14) (kq (by decide) : kd 157 = 10 ∧ 157 < NN) rfl rfl (cwV 2 hts gX3_tellLeaves_X5_because rfl rfl rfl (by decide +kernel) ⟨Nat.le_of_ble_eq_true rfl, Nat.le_of_ble_eq_true rfl⟩) rfl hl.1 rfl (Nat.le_of_ble_eq_true rfl) dX3_tellLeaves_16 ⟨Nat.le_of_ble_eq_true rfl, Nat.le_of_ble_eq_true rfl⟩ (fun H locs B => ?_)
      cases ho
      exact e_i B hx hb hr hlocks rfl rfl dX3_tellLeaves_19

set_option maxHeartbeats 4000000 in
set_option maxRecDepth 100000 in
theorem c_X3_passSummer (l : Launch) (G : Gd) (σ : Mm) (sz : Nat) {out : Int32 × Mm} (ho : f_X3_passSummer σ = some out) : Met l yX3_passSummer wsX3_passSummer { frames := 3, cells := 0, slots := 0, locals := 64 } (va_Pc [.ref (G.2.2 161)] (PW G σ sz)) (Qi G sz out.1 out.2) 0 0 (AA G sz) := by
  refine Met.ofW (cc := cX3_passSummer) (maxL := 2) (ret := (some .int)) (by decide) rfl ?_
  intro p e s m args below meth c s₁ B0 hml hv
  obtain ⟨rfl, hpw⟩ := hv
  have hsz := hpw.1
  subst hsz
  obtain ⟨F, B⟩ := hpw.to
  have hx := B0.exec
  have hb := B0.bytes
  have hr := B0.returns
  have hts := atoms_spec (ws := wsX3_passSummer) B0.pre
  have hown : s.vm.findClass RX3 = some m.cls := findClass_of_methodNamed B0.named
  have hlocks := B0.notSynchronized
  have S : CallFix p m c cX3_passSummer 2 s _ wsX3_passSummer RX3 := ⟨hx, hb, hml, hown, hts⟩
  have hiX3 : ∀ w ∈ u_ws RX3 TX3 3, w ∈ wsX3_passSummer := by decide +kernel
  have hiX6 : ∀ w ∈ u_ws RX6 TX6 9, w ∈ wsX3_passSummer := by decide +kernel
  have hl := lv_entry [.ref (G.2.2 161)] (n := 2) (Nat.le_of_ble_eq_true rfl)
  rw [lg_entry_eq]
  generalize (lg_sl [.ref (G.2.2 161)] ++ List.replicate (2 - (lg_sl [.ref (G.2.2 161)]).length) Slot.unset).toArray = ls at hl ⊢
  have hl : lv_has ls 2 [(0, .ref (G.2.2 161))] := hl
  unfold f_X3_passSummer at ho
  refine lv_aload_n hx hb dX3_passSummer_0 rfl (lv_at hl 0 rfl) ?_
  refine r_get (ci := 7) (C := RX3) (T := TX3) (N := 3) S F B (kq (by decide) : kd 161 = 13 ∧ 161 < NN) rfl rfl hiX3 0 (by decide) (by decide +kernel) rfl dX3_passSummer_1 ?_
  refine r_getN (ci := 10) (C := RX6) (T := TX6) (N := 9) S F B (kq (by decide) : kd 0 = 0 ∧ 0 < NN) rfl rfl hiX6 0 (by decide) (by decide) rfl dX3_passSummer_4 ?_
  obtain ⟨q1, hq1, ho⟩ := bnd_ ho
  refine k_iV (As := []) (rest := []) S F B (c_X4_gaps l G σ _ hq1) (kq (by decide) : kd 1 = 1 ∧ 1 < NN) rfl rfl (cwV 0 hts gX3_passSummer_X4_gaps rfl rfl rfl (by decide +kernel) ⟨Nat.le_of_ble_eq_true rfl, Nat.le_of_ble_eq_true rfl⟩) rfl hl.1 rfl (Nat.le_of_ble_eq_true rfl) dX3_passSummer_7 ⟨Nat.le_of_ble_eq_true rfl, Nat.le_of_ble_eq_true rfl⟩ (fun H locs B => ?_)
  refine lv_istore_n (lv' := [(1, .int q1), (0, .ref (G.2.2 161))]) hx hb dX3_passSummer_10 rfl hl (by decide) rfl (fun ls hl => ?_)
  refine lv_aload_n hx hb dX3_passSummer_11 rfl (lv_at hl 1 rfl) ?_
  refine r_get (ci := 7) (C := RX3) (T := TX3) (N := 3) S F B (kq (by decide) : kd 161 = 13 ∧ 161 < NN) rfl rfl hiX3 0 (by decide) (by decide +kernel) rfl dX3_passSummer_12 ?_
  refine r_getN (ci := 10) (C := RX6) (T := TX6) (N := 9) S F B (kq (by decide) : kd 0 = 0 ∧ 0 < NN) rfl rfl hiX6 0 (by decide) (by decide) rfl dX3_passSummer_15 ?_
  obtain ⟨σ3, hq2, ho⟩ := bnd_ ho
  refine k_vV (As := []) (rest := []) S F B (c_X4_grow l G σ _ hq2) (kq (by decide) : kd 1 = 1 ∧ 1 < NN) rfl rfl (cwV 0 hts gX3_passSummer_X4_grow rfl rfl rfl (by decide +kernel) ⟨Nat.le_of_ble_eq_true rfl, Nat.le_of_ble_eq_true rfl⟩) rfl hl.1 rfl (Nat.le_of_ble_eq_true rfl) dX3_passSummer_18 ⟨Nat.le_of_ble_eq_true rfl, Nat.le_of_ble_eq_true rfl⟩ (fun H locs B => ?_)
  refine lv_aload_n hx hb dX3_passSummer_21 rfl (lv_at hl 1 rfl) ?_
  refine r_get (ci := 7) (C := RX3) (T := TX3) (N := 3) S F B (kq (by decide) : kd 161 = 13 ∧ 161 < NN) rfl rfl hiX3 0 (by decide) (by decide +kernel) rfl dX3_passSummer_22 ?_
  refine lv_dup hx hb dX3_passSummer_25 rfl ?_
  refine r_getN (ci := 10) (C := RX6) (T := TX6) (N := 9) S F B (kq (by decide) : kd 0 = 0 ∧ 0 < NN) rfl rfl hiX6 6 (by decide) (by decide) rfl dX3_passSummer_26 ?_
  refine lv_iconst (v := 1) hx hb dX3_passSummer_29 (by decide) ?_
  refine lv_iadd hx hb dX3_passSummer_30 ?_
  refine r_putN (ci := 10) (C := RX6) (T := TX6) (N := 9) (ty := .int) S F B tyX6 tyX6_ok nmX6 (kq (by decide) : kd 0 = 0 ∧ 0 < NN) (fun _ => rfl) rfl hiX6 6 (by decide) (by decide) rfl rfl rfl rfl (fun _ => Nat.le_of_ble_eq_true rfl) (fun _ => rfl) dX3_passSummer_31 (fun H locs B => ?_)
  obtain ⟨σ4, eσ4, ho⟩ := lt_ ho
  rw [← eσ4] at B
  refine lv_iload_n hx hb dX3_passSummer_34 rfl (lv_at hl 0 rfl) ?_
  refine lv_aload_n hx hb dX3_passSummer_35 rfl (lv_at hl 1 rfl) ?_
  refine r_get (ci := 7) (C := RX3) (T := TX3) (N := 3) S F B (kq (by decide) : kd 161 = 13 ∧ 161 < NN) rfl rfl hiX3 0 (by decide) (by decide +kernel) rfl dX3_passSummer_36 ?_
  refine r_getN (ci := 10) (C := RX6) (T := TX6) (N := 9) S F B (kq (by decide) : kd 0 = 0 ∧ 0 < NN) rfl rfl hiX6 0 (by decide) (by decide) rfl dX3_passSummer_39 ?_
  obtain ⟨q5, hq5, ho⟩ := bnd_ ho
  refine k_iV (As := []) (rest := [.int q1]) S F B (c_X4_gaps l G σ4 _ hq5) (kq (by decide) : kd 1 = 1 ∧ 1 < NN) rfl rfl (cwV 0 hts gX3_passSummer_X4_gaps rfl rfl rfl (by decide +kernel) ⟨Nat.le_of_ble_eq_true rfl, Nat.le_of_ble_eq_true rfl⟩) rfl hl.1 rfl (Nat.le_of_ble_eq_true rfl) dX3_passSummer_42 ⟨Nat.le_of_ble_eq_true rfl, Nat.le_of_ble_eq_true rfl⟩ (fun H locs B => ?_)
  refine lv_isub hx hb dX3_passSummer_45 ?_
  cases ho
  exact e_i B hx hb hr hlocks rfl rfl dX3_passSummer_46

set_option maxHeartbeats 4000000 in
set_option maxRecDepth 100000 in
theorem c_X3_trimHedge (l : Launch) (G : Gd) (σ : Mm) (sz : Nat) (a0 : Int32) (a1 : Int32) (a2 : Int32) {out : Int32 × Mm} (ho : f_X3_trimHedge a0 a1 a2 σ = some out) : Met l yX3_trimHedge wsX3_trimHedge { frames := 3, cells := 0, slots := 0, locals := 79 } (va_Pc [.ref (G.2.2 161), .int a0, .int a1, .int a2] (PW G σ sz)) (Qi G sz out.1 out.2) 0 0 (AA G sz) := by
  refine Met.ofW (cc := cX3_trimHedge) (maxL := 6) (ret := (some .int)) (by decide) rfl ?_
  intro p e s m args below meth c s₁ B0 hml hv
  obtain ⟨rfl, hpw⟩ := hv
  have hsz := hpw.1
  subst hsz
  obtain ⟨F, B⟩ := hpw.to
  have hx := B0.exec
  have hb := B0.bytes
  have hr := B0.returns
  have hts := atoms_spec (ws := wsX3_trimHedge) B0.pre
  have hown : s.vm.findClass RX3 = some m.cls := findClass_of_methodNamed B0.named
  have hlocks := B0.notSynchronized
  have S : CallFix p m c cX3_trimHedge 6 s _ wsX3_trimHedge RX3 := ⟨hx, hb, hml, hown, hts⟩
  have hiX1 : ∀ w ∈ u_ws RX1 TX1 4, w ∈ wsX3_trimHedge := by decide +kernel
  have hiX3 : ∀ w ∈ u_ws RX3 TX3 3, w ∈ wsX3_trimHedge := by decide +kernel
  have hiX6 : ∀ w ∈ u_ws RX6 TX6 9, w ∈ wsX3_trimHedge := by decide +kernel
  have hl := lv_entry [.ref (G.2.2 161), .int a0, .int a1, .int a2] (n := 6) (Nat.le_of_ble_eq_true rfl)
  rw [lg_entry_eq]
  generalize (lg_sl [.ref (G.2.2 161), .int a0, .int a1, .int a2] ++ List.replicate (6 - (lg_sl [.ref (G.2.2 161), .int a0, .int a1, .int a2]).length) Slot.unset).toArray = ls at hl ⊢
  have hl : lv_has ls 6 [(0, .ref (G.2.2 161)), (1, .int a0), (2, .int a1), (3, .int a2)] := hl
  unfold f_X3_trimHedge at ho
  refine lv_aload_n hx hb dX3_trimHedge_0 rfl (lv_at hl 0 rfl) ?_
  refine r_get (ci := 7) (C := RX3) (T := TX3) (N := 3) S F B (kq (by decide) : kd 161 = 13 ∧ 161 < NN) rfl rfl hiX3 0 (by decide) (by decide +kernel) rfl dX3_trimHedge_1 ?_
  refine lv_iload_n hx hb dX3_trimHedge_4 rfl (lv_at hl 1 rfl) ?_
  obtain ⟨q1, hq1, ho⟩ := bnd_ ho
  refine k_qV (As := [.int a0]) (rest := []) S F B (c_X6_findGardener l G σ _ a0 hq1) (kq (by decide) : kd 0 = 0 ∧ 0 < NN) rfl rfl (cwV 1 hts gX3_trimHedge_X6_findGardener rfl rfl rfl (by decide +kernel) ⟨Nat.le_of_ble_eq_true rfl, Nat.le_of_ble_eq_true rfl⟩) rfl hl.1 rfl (Nat.le_of_ble_eq_true rfl) dX3_trimHedge_5 ⟨Nat.le_of_ble_eq_true rfl, Nat.le_of_ble_eq_true rfl⟩ (fun H locs B => ?_)
  cases q1 with
  | none =>
    have ho := oc_n ho
    refine lv_astoreN (lv' := [(4, .null), (0, .ref (G.2.2 161)), (1, .int a0), (2, .int a1), (3, .int a2)]) hx hb dX3_trimHedge_8 hl (by decide) rfl (fun ls hl => ?_)
    refine lv_aloadN hx hb dX3_trimHedge_10 (lv_at hl 0 rfl) ?_
    refine lv_ifnonnullN hx hb dX3_trimHedge_12 ?_
    refine lv_aload_n hx hb dX3_trimHedge_15 rfl (lv_at hl 1 rfl) ?_
    refine r_get (ci := 7) (C := RX3) (T := TX3) (N := 3) S F B (kq (by decide) : kd 161 = 13 ∧ 161 < NN) rfl rfl hiX3 2 (by decide) (by decide +kernel) rfl dX3_trimHedge_16 ?_
    refine lv_iconst (v := 4) hx hb dX3_trimHedge_19 (by decide) ?_
    refine lv_aload_n hx hb dX3_trimHedge_20 rfl (lv_at hl 1 rfl) ?_
    refine r_get (ci := 7) (C := RX3) (T := TX3) (N := 3) S F B (kq (by decide) : kd 161 = 13 ∧ 161 < NN) rfl rfl hiX3 0 (by decide) (by decide +kernel) rfl dX3_trimHedge_21 ?_
    refine r_getN (ci := 10) (C := RX6) (T := TX6) (N := 9) S F B (kq (by decide) : kd 0 = 0 ∧ 0 < NN) rfl rfl hiX6 3 (by decide) (by decide) rfl dX3_trimHedge_24 ?_
    obtain ⟨q3, σ4, hq3, ho⟩ := bnm_ ho
    refine k_iV (As := [.int 4, .int (σ 0 3)]) (rest := []) S F B (c_X5_because l G σ _ 4 (σ 0 3) hq3) (kq (by decide) : kd 157 = 10 ∧ 157 < NN) rfl rfl (cwV 2 hts gX3_trimHedge_X5_because rfl rfl rfl (by decide +kernel) ⟨Nat.le_of_ble_eq_true rfl, Nat.le_of_ble_eq_true rfl⟩) rfl hl.1 rfl (Nat.le_of_ble_eq_true rfl) dX3_trimHedge_27 ⟨Nat.le_of_ble_eq_true rfl, Nat.le_of_ble_eq_true rfl⟩ (fun H locs B => ?_)
    cases ho
    exact e_i B hx hb hr hlocks rfl rfl dX3_trimHedge_30
  | some j2 =>
    have ho := oc_s ho
    have hj2 : kd j2 = 4 ∧ j2 < NN := kf_gard hq1
    refine lv_astore (lv' := [(4, .ref (G.2.2 j2)), (0, .ref (G.2.2 161)), (1, .int a0), (2, .int a1), (3, .int a2)]) hx hb dX3_trimHedge_8 hl (by decide) rfl (fun ls hl => ?_)
    refine lv_aload hx hb dX3_trimHedge_10 (lv_at hl 0 rfl) ?_
    refine lv_ifnonnull (tgt := 31) hx hb dX3_trimHedge_12 (by decide) ?_
    refine lv_aload_n hx hb dX3_trimHedge_31 rfl (lv_at hl 1 rfl) ?_
    refine lv_iload_n hx hb dX3_trimHedge_32 rfl (lv_at hl 3 rfl) ?_
    refine lv_iload_n hx hb dX3_trimHedge_33 rfl (lv_at hl 4 rfl) ?_
    obtain ⟨q5, σ6, hq5, ho⟩ := bnm_ ho
    refine k_iV (As := [.int a1, .int a2]) (rest := []) S F B (c_X3_hedgeOrRefusal l G σ _ a1 a2 hq5) (kq (by decide) : kd 161 = 13 ∧ 161 < NN) rfl rfl (cwV 2 hts gX3_trimHedge_X3_hedgeOrRefusal rfl rfl rfl (by decide +kernel) ⟨Nat.le_of_ble_eq_true rfl, Nat.le_of_ble_eq_true rfl⟩) rfl hl.1 rfl (Nat.le_of_ble_eq_true rfl) dX3_trimHedge_34 ⟨Nat.le_of_ble_eq_true rfl, Nat.le_of_ble_eq_true rfl⟩ (fun H locs B => ?_)
    refine lv_istore (lv' := [(5, .int q5), (4, .ref (G.2.2 j2)), (0, .ref (G.2.2 161)), (1, .int a0), (2, .int a1), (3, .int a2)]) hx hb dX3_trimHedge_37 hl (by decide) rfl (fun ls hl => ?_)
    refine lv_iload hx hb dX3_trimHedge_39 (lv_at hl 0 rfl) ?_
    refine lv_iconst (v := (-1)) hx hb dX3_trimHedge_41 (by decide) ?_
    refine lv_icmp_ne (tgt := 47) hx hb dX3_trimHedge_42 (by decide) (fun c7 => ?_) (fun c7 => ?_)
    · have ho := in_ c7 ho
      refine lv_aload_n hx hb dX3_trimHedge_47 rfl (lv_at hl 2 rfl) ?_
      refine r_get (ci := 7) (C := RX3) (T := TX3) (N := 3) S F B (kq (by decide) : kd 161 = 13 ∧ 161 < NN) rfl rfl hiX3 0 (by decide) (by decide +kernel) rfl dX3_trimHedge_48 ?_
      refine r_getN (ci := 10) (C := RX6) (T := TX6) (N := 9) S F B (kq (by decide) : kd 0 = 0 ∧ 0 < NN) rfl rfl hiX6 0 (by decide) (by decide) rfl dX3_trimHedge_51 ?_
      refine lv_iload hx hb dX3_trimHedge_54 (lv_at hl 0 rfl) ?_
      obtain ⟨q8, hq8, ho⟩ := bnd_ ho
      refine k_iV (As := [.int q5]) (rest := []) S F B (c_X4_leavesOf l G σ6 _ q5 hq8) (kq (by decide) : kd 1 = 1 ∧ 1 < NN) rfl rfl (cwV 1 hts gX3_trimHedge_X4_leavesOf rfl rfl rfl (by decide +kernel) ⟨Nat.le_of_ble_eq_true rfl, Nat.le_of_ble_eq_true rfl⟩) rfl hl.1 rfl (Nat.le_of_ble_eq_true rfl) dX3_trimHedge_56 ⟨Nat.le_of_ble_eq_true rfl, Nat.le_of_ble_eq_true rfl⟩ (fun H locs B => ?_)
      refine lv_if_ne (tgt := 72) hx hb dX3_trimHedge_59 (by decide) (fun c9 => ?_) (fun c9 => ?_)
      · have ho := in_ c9 ho
        refine lv_aload hx hb dX3_trimHedge_72 (lv_at hl 1 rfl) ?_
        refine r_getN (ci := 5) (C := RX1) (T := TX1) (N := 4) S F B hj2 rfl rfl hiX1 0 (by decide) (by decide) rfl dX3_trimHedge_74 ?_
        refine lv_iconst (v := 2) hx hb dX3_trimHedge_77 (by decide) ?_
        refine lv_icmp_ge (tgt := 97) hx hb dX3_trimHedge_78 (by decide) (fun c10 => ?_) (fun c10 => ?_)
        · have ho := ip_ c10 ho
          refine lv_aload_n hx hb dX3_trimHedge_97 rfl (lv_at hl 2 rfl) ?_
          refine r_get (ci := 7) (C := RX3) (T := TX3) (N := 3) S F B (kq (by decide) : kd 161 = 13 ∧ 161 < NN) rfl rfl hiX3 0 (by decide) (by decide +kernel) rfl dX3_trimHedge_98 ?_
          refine r_getN (ci := 10) (C := RX6) (T := TX6) (N := 9) S F B (kq (by decide) : kd 0 = 0 ∧ 0 < NN) rfl rfl hiX6 0 (by decide) (by decide) rfl dX3_trimHedge_101 ?_
          refine lv_iload hx hb dX3_trimHedge_104 (lv_at hl 0 rfl) ?_
          refine lv_iconst (v := 0) hx hb dX3_trimHedge_106 (by decide) ?_
          obtain ⟨σ12, hq11, ho⟩ := bnd_ ho
          refine k_vV (As := [.int q5, .int 0]) (rest := []) S F B (c_X4_putLeaves l G σ6 _ q5 0 hq11) (kq (by decide) : kd 1 = 1 ∧ 1 < NN) rfl rfl (cwV 2 hts gX3_trimHedge_X4_putLeaves rfl rfl rfl (by decide +kernel) ⟨Nat.le_of_ble_eq_true rfl, Nat.le_of_ble_eq_true rfl⟩) rfl hl.1 rfl (Nat.le_of_ble_eq_true rfl) dX3_trimHedge_107 ⟨Nat.le_of_ble_eq_true rfl, Nat.le_of_ble_eq_true rfl⟩ (fun H locs B => ?_)
          refine lv_aload hx hb dX3_trimHedge_110 (lv_at hl 1 rfl) ?_
          refine lv_dup hx hb dX3_trimHedge_112 rfl ?_
          refine r_getN (ci := 5) (C := RX1) (T := TX1) (N := 4) S F B hj2 rfl rfl hiX1 0 (by decide) (by decide) rfl dX3_trimHedge_113 ?_
          refine lv_iconst (v := 2) hx hb dX3_trimHedge_116 (by decide) ?_
          refine lv_isub hx hb dX3_trimHedge_117 ?_
          refine r_putN (ci := 5) (C := RX1) (T := TX1) (N := 4) (ty := .int) S F B tyX1 tyX1_ok nmX1 hj2 (fun _ => rfl) rfl hiX1 0 (by decide) (by decide) rfl rfl rfl rfl (fun _ => Nat.le_of_ble_eq_true rfl) (fun _ => rfl) dX3_trimHedge_118 (fun H locs B => ?_)
          obtain ⟨σ13, eσ13, ho⟩ := lt_ ho
          rw [← eσ13] at B
          refine lv_aload hx hb dX3_trimHedge_121 (lv_at hl 1 rfl) ?_
          refine lv_dup hx hb dX3_trimHedge_123 rfl ?_
          refine r_getN (ci := 5) (C := RX1) (T := TX1) (N := 4) S F B hj2 rfl rfl hiX1 3 (by decide) (by decide) rfl dX3_trimHedge_124 ?_
          refine lv_iconst (v := 1) hx hb dX3_trimHedge_127 (by decide) ?_
          refine lv_iadd hx hb dX3_trimHedge_128 ?_
          refine r_putN (ci := 5) (C := RX1) (T := TX1) (N := 4) (ty := .int) S F B tyX1 tyX1_ok nmX1 hj2 (fun _ => rfl) rfl hiX1 3 (by decide) (by decide) rfl rfl rfl rfl (fun _ => Nat.le_of_ble_eq_true rfl) (fun _ => rfl) dX3_trimHedge_129 (fun H locs B => ?_)
          obtain ⟨σ14, eσ14, ho⟩ := lt_ ho
          rw [← eσ14] at B
          refine lv_aload_n hx hb dX3_trimHedge_132 rfl (lv_at hl 2 rfl) ?_
          refine r_get (ci := 7) (C := RX3) (T := TX3) (N := 3) S F B (kq (by decide) : kd 161 = 13 ∧ 161 < NN) rfl rfl hiX3 0 (by decide) (by decide +kernel) rfl dX3_trimHedge_133 ?_
          refine lv_dup hx hb dX3_trimHedge_136 rfl ?_
          refine r_getN (ci := 10) (C := RX6) (T := TX6) (N := 9) S F B (kq (by decide) : kd 0 = 0 ∧ 0 < NN) rfl rfl hiX6 8 (by decide) (by decide) rfl dX3_trimHedge_137 ?_
          refine lv_iconst (v := 2) hx hb dX3_trimHedge_140 (by decide) ?_
          refine lv_iadd hx hb dX3_trimHedge_141 ?_
          refine r_putN (ci := 10) (C := RX6) (T := TX6) (N := 9) (ty := .int) S F B tyX6 tyX6_ok nmX6 (kq (by decide) : kd 0 = 0 ∧ 0 < NN) (fun _ => rfl) rfl hiX6 8 (by decide) (by decide) rfl rfl rfl rfl (fun _ => Nat.le_of_ble_eq_true rfl) (fun _ => rfl) dX3_trimHedge_142 (fun H locs B => ?_)
          obtain ⟨σ15, eσ15, ho⟩ := lt_ ho
          rw [← eσ15] at B
          refine lv_aload hx hb dX3_trimHedge_145 (lv_at hl 1 rfl) ?_
          refine r_getN (ci := 5) (C := RX1) (T := TX1) (N := 4) S F B hj2 rfl rfl hiX1 0 (by decide) (by decide) rfl dX3_trimHedge_147 ?_
          cases ho
          exact e_i B hx hb hr hlocks rfl rfl dX3_trimHedge_150
        · have ho := in_ c10 ho
          refine lv_aload_n hx hb dX3_trimHedge_81 rfl (lv_at hl 2 rfl) ?_
          refine r_get (ci := 7) (C := RX3) (T := TX3) (N := 3) S F B (kq (by decide) : kd 161 = 13 ∧ 161 < NN) rfl rfl hiX3 2 (by decide) (by decide +kernel) rfl dX3_trimHedge_82 ?_
          refine lv_iconst (v := 5) hx hb dX3_trimHedge_85 (by decide) ?_
          refine lv_iconst (v := 2) hx hb dX3_trimHedge_86 (by decide) ?_
          refine lv_aload hx hb dX3_trimHedge_87 (lv_at hl 1 rfl) ?_
          refine r_getN (ci := 5) (C := RX1) (T := TX1) (N := 4) S F B hj2 rfl rfl hiX1 0 (by decide) (by decide) rfl dX3_trimHedge_89 ?_
          refine lv_isub hx hb dX3_trimHedge_92 ?_
          obtain ⟨q16, σ17, hq16, ho⟩ := bnm_ ho
          refine k_iV (As := [.int 5, .int (2 - (σ6 j2 0))]) (rest := []) S F B (c_X5_because l G σ6 _ 5 (2 - (σ6 j2 0)) hq16) (kq (by decide) : kd 157 = 10 ∧ 157 < NN) rfl rfl (cwV 2 hts gX3_trimHedge_X5_because rfl rfl rfl (by decide +kernel) ⟨Nat.le_of_ble_eq_true rfl, Nat.le_of_ble_eq_true rfl⟩) rfl hl.1 rfl (Nat.le_of_ble_eq_true rfl) dX3_trimHedge_93 ⟨Nat.le_of_ble_eq_true rfl, Nat.le_of_ble_eq_true rfl⟩ (fun H locs B => ?_)
          cases ho
          exact e_i B hx hb hr hlocks rfl rfl dX3_trimHedge_96
      · have ho := ip_ c9 ho
        refine lv_aload_n hx hb dX3_trimHedge_62 rfl (lv_at hl 2 rfl) ?_
        refine r_get (ci := 7) (C := RX3) (T := TX3) (N := 3) S F B (kq (by decide) : kd 161 = 13 ∧ 161 < NN) rfl rfl hiX3 2 (by decide) (by decide +kernel) rfl dX3_trimHedge_63 ?_
        refine lv_iconst (v := 3) hx hb dX3_trimHedge_66 (by decide) ?_
        refine lv_iconst (v := 0) hx hb dX3_trimHedge_67 (by decide) ?_
        obtain ⟨q18, σ19, hq18, ho⟩ := bnm_ ho
        refine k_iV (As := [.int 3, .int 0]) (rest := []) S F B (c_X5_because l G σ6 _ 3 0 hq18) (kq (by decide) : kd 157 = 10 ∧ 157 < NN) rfl rfl (cwV 2 hts gX3_trimHedge_X5_because rfl rfl rfl (by decide +kernel) ⟨Nat.le_of_ble_eq_true rfl, Nat.le_of_ble_eq_true rfl⟩) rfl hl.1 rfl (Nat.le_of_ble_eq_true rfl) dX3_trimHedge_68 ⟨Nat.le_of_ble_eq_true rfl, Nat.le_of_ble_eq_true rfl⟩ (fun H locs B => ?_)
        cases ho
        exact e_i B hx hb hr hlocks rfl rfl dX3_trimHedge_71
    · have ho := ip_ c7 ho
      refine lv_iconst (v := (-1)) hx hb dX3_trimHedge_45 (by decide) ?_
      cases ho
      exact e_i B hx hb hr hlocks rfl rfl dX3_trimHedge_46

set_option maxHeartbeats 4000000 in
set_option maxRecDepth 100000 in
theorem c_X3_meetIfThere (l : Launch) (G : Gd) (σ : Mm) (sz : Nat) (o0 : Nat) (ho0 : kd o0 = 6 ∧ o0 < NN) {out : Mm} (ho : f_X3_meetIfThere o0 σ = some out) : Met l yX3_meetIfThere wsX3_meetIfThere { frames := 2, cells := 0, slots := 0, locals := 40 } (va_Pc [.ref (G.2.2 161), .ref (G.2.2 o0)] (PW G σ sz)) (Qv G sz out) 0 0 (AA G sz) := by
  refine Met.ofW (cc := cX3_meetIfThere) (maxL := 2) (ret := none) (by decide) rfl ?_
  intro p e s m args below meth c s₁ B0 hml hv
  obtain ⟨rfl, hpw⟩ := hv
  have hsz := hpw.1
  subst hsz
  obtain ⟨F, B⟩ := hpw.to
  have hx := B0.exec
  have hb := B0.bytes
  have hr := B0.returns
  have hts := atoms_spec (ws := wsX3_meetIfThere) B0.pre
  have hown : s.vm.findClass RX3 = some m.cls := findClass_of_methodNamed B0.named
  have hlocks := B0.notSynchronized
  have S : CallFix p m c cX3_meetIfThere 2 s _ wsX3_meetIfThere RX3 := ⟨hx, hb, hml, hown, hts⟩
  have hiX3 : ∀ w ∈ u_ws RX3 TX3 3, w ∈ wsX3_meetIfThere := by decide +kernel
  have hiX6 : ∀ w ∈ u_ws RX6 TX6 9, w ∈ wsX3_meetIfThere := by decide +kernel
  have hl := lv_entry [.ref (G.2.2 161), .ref (G.2.2 o0)] (n := 2) (Nat.le_of_ble_eq_true rfl)
  rw [lg_entry_eq]
  generalize (lg_sl [.ref (G.2.2 161), .ref (G.2.2 o0)] ++ List.replicate (2 - (lg_sl [.ref (G.2.2 161), .ref (G.2.2 o0)]).length) Slot.unset).toArray = ls at hl ⊢
  have hl : lv_has ls 2 [(0, .ref (G.2.2 161)), (1, .ref (G.2.2 o0))] := hl
  unfold f_X3_meetIfThere at ho
  refine lv_aload_n hx hb dX3_meetIfThere_0 rfl (lv_at hl 1 rfl) ?_
  refine lv_aload_n hx hb dX3_meetIfThere_1 rfl (lv_at hl 0 rfl) ?_
  refine r_get (ci := 7) (C := RX3) (T := TX3) (N := 3) S F B (kq (by decide) : kd 161 = 13 ∧ 161 < NN) rfl rfl hiX3 0 (by decide) (by decide +kernel) rfl dX3_meetIfThere_2 ?_
  refine r_getN (ci := 10) (C := RX6) (T := TX6) (N := 9) S F B (kq (by decide) : kd 0 = 0 ∧ 0 < NN) rfl rfl hiX6 5 (by decide) (by decide) rfl dX3_meetIfThere_5 ?_
  obtain ⟨q1, hq1, ho⟩ := bnd_ ho
  refine k_iV (As := [.int (σ 0 5)]) (rest := []) S F B (c_X7_isIn l G σ _ o0 (σ 0 5) ho0 hq1) ho0 rfl rfl (cwV 1 hts gX3_meetIfThere_X7_isIn rfl rfl rfl (by decide +kernel) ⟨Nat.le_of_ble_eq_true rfl, Nat.le_of_ble_eq_true rfl⟩) rfl hl.1 rfl (Nat.le_of_ble_eq_true rfl) dX3_meetIfThere_8 ⟨Nat.le_of_ble_eq_true rfl, Nat.le_of_ble_eq_true rfl⟩ (fun H locs B => ?_)
  refine lv_if_eq (tgt := 18) hx hb dX3_meetIfThere_11 (by decide) (fun c2 => ?_) (fun c2 => ?_)
  · have ho := ip_ c2 ho
    cases ho
    exact e_v B hx hb hr hlocks dX3_meetIfThere_18
  · have ho := in_ c2 ho
    refine lv_aload_n hx hb dX3_meetIfThere_14 rfl (lv_at hl 1 rfl) ?_
    obtain ⟨σ4, hq3, ho⟩ := bnd_ ho
    refine k_vV (As := []) (rest := []) S F B (c_X7_meetMinotaur l G σ _ o0 ho0 hq3) ho0 rfl rfl (cwV 0 hts gX3_meetIfThere_X7_meetMinotaur rfl rfl rfl (by decide +kernel) ⟨Nat.le_of_ble_eq_true rfl, Nat.le_of_ble_eq_true rfl⟩) rfl hl.1 rfl (Nat.le_of_ble_eq_true rfl) dX3_meetIfThere_15 ⟨Nat.le_of_ble_eq_true rfl, Nat.le_of_ble_eq_true rfl⟩ (fun H locs B => ?_)
    cases ho
    exact e_v B hx hb hr hlocks dX3_meetIfThere_18

set_option maxHeartbeats 4000000 in
set_option maxRecDepth 100000 in
theorem c_X3_placeMinotaur (l : Launch) (G : Gd) (σ : Mm) (sz : Nat) (a0 : Int32) {out : Int32 × Mm} (ho : f_X3_placeMinotaur a0 σ = some out) : Met l yX3_placeMinotaur wsX3_placeMinotaur { frames := 3, cells := 0, slots := 0, locals := 61 } (va_Pc [.ref (G.2.2 161), .int a0] (PW G σ sz)) (Qi G sz out.1 out.2) 0 0 (AA G sz) := by
  refine Met.ofW (cc := cX3_placeMinotaur) (maxL := 3) (ret := (some .int)) (by decide) rfl ?_
  intro p e s m args below meth c s₁ B0 hml hv
  obtain ⟨rfl, hpw⟩ := hv
  have hsz := hpw.1
  subst hsz
  obtain ⟨F, B⟩ := hpw.to
  have hx := B0.exec
  have hb := B0.bytes
  have hr := B0.returns
  have hts := atoms_spec (ws := wsX3_placeMinotaur) B0.pre
  have hown : s.vm.findClass RX3 = some m.cls := findClass_of_methodNamed B0.named
  have hlocks := B0.notSynchronized
  have S : CallFix p m c cX3_placeMinotaur 3 s _ wsX3_placeMinotaur RX3 := ⟨hx, hb, hml, hown, hts⟩
  have hiX3 : ∀ w ∈ u_ws RX3 TX3 3, w ∈ wsX3_placeMinotaur := by decide +kernel
  have hiX6 : ∀ w ∈ u_ws RX6 TX6 9, w ∈ wsX3_placeMinotaur := by decide +kernel
  have hl := lv_entry [.ref (G.2.2 161), .int a0] (n := 3) (Nat.le_of_ble_eq_true rfl)
  rw [lg_entry_eq]
  generalize (lg_sl [.ref (G.2.2 161), .int a0] ++ List.replicate (3 - (lg_sl [.ref (G.2.2 161), .int a0]).length) Slot.unset).toArray = ls at hl ⊢
  have hl : lv_has ls 3 [(0, .ref (G.2.2 161)), (1, .int a0)] := hl
  unfold f_X3_placeMinotaur at ho
  skip
  refine lv_iload_n hx hb dX3_placeMinotaur_0 rfl (lv_at hl 1 rfl) ?_
  refine lv_iconst (v := (-1)) hx hb dX3_placeMinotaur_1 (by decide) ?_
  refine lv_icmp_eq (tgt := 22) hx hb dX3_placeMinotaur_2 (by decide) (fun c1 => ?_) (fun c1 => ?_)
  · have ho := ip_ c1 ho
    refine lv_iload_n hx hb dX3_placeMinotaur_22 rfl (lv_at hl 1 rfl) ?_
    refine lv_aload_n hx hb dX3_placeMinotaur_23 rfl (lv_at hl 0 rfl) ?_
    refine r_get (ci := 7) (C := RX3) (T := TX3) (N := 3) S F B (kq (by decide) : kd 161 = 13 ∧ 161 < NN) rfl rfl hiX3 0 (by decide) (by decide +kernel) rfl dX3_placeMinotaur_24 ?_
    refine r_getN (ci := 10) (C := RX6) (T := TX6) (N := 9) S F B (kq (by decide) : kd 0 = 0 ∧ 0 < NN) rfl rfl hiX6 5 (by decide) (by decide) rfl dX3_placeMinotaur_27 ?_
    refine lv_icmp_ne (tgt := 43) hx hb dX3_placeMinotaur_30 (by decide) (fun c2 => ?_) (fun c2 => ?_)
    · have ho := in_ c2 ho
      refine lv_aload_n hx hb dX3_placeMinotaur_43 rfl (lv_at hl 0 rfl) ?_
      refine r_get (ci := 7) (C := RX3) (T := TX3) (N := 3) S F B (kq (by decide) : kd 161 = 13 ∧ 161 < NN) rfl rfl hiX3 0 (by decide) (by decide +kernel) rfl dX3_placeMinotaur_44 ?_
      refine lv_iload_n hx hb dX3_placeMinotaur_47 rfl (lv_at hl 1 rfl) ?_
      refine r_putN (ci := 10) (C := RX6) (T := TX6) (N := 9) (ty := .int) S F B tyX6 tyX6_ok nmX6 (kq (by decide) : kd 0 = 0 ∧ 0 < NN) (fun _ => rfl) rfl hiX6 5 (by decide) (by decide) rfl rfl rfl rfl (fun _ => Nat.le_of_ble_eq_true rfl) (fun _ => rfl) dX3_placeMinotaur_48 (fun H locs B => ?_)
      obtain ⟨σ3, eσ3, ho⟩ := lt_ ho
      rw [← eσ3] at B
      refine lv_iconst (v := 0) hx hb dX3_placeMinotaur_51 (by decide) ?_
      refine lv_istore_n (lv' := [(2, .int 0), (0, .ref (G.2.2 161)), (1, .int a0)]) hx hb dX3_placeMinotaur_52 rfl hl (by decide) rfl (fun ls hl => ?_)
      have hloop53 : ∀ (n : Nat) (v7 : Int32) (σ8 : Mm) (H : Heap) (locs : List Loc) (ls : Array Slot), f_X3_placeMinotaur_l53  a0 n v7 σ8 = some out → Bd G σ8 s H locs → lv_has ls 3 [(2, .int v7), (0, .ref (G.2.2 161)), (1, .int a0)] → W p l e (headSpec wsX3_placeMinotaur { frames := 3, cells := 0, slots := 0, locals := 61 }).room s m #[.ref (G.2.2 161), .int a0] below meth c H locs 0 0 (MQ below (Qi G s.heap.size out.1 out.2) #[.ref (G.2.2 161), .int a0] s 0 0 (AA G s.heap.size)) (F0 m 53 ls []) := by
        intro n
        induction n with
        | zero => intro v7 σ8 H locs ls ho B hl; cases ho
        | succ n ih =>
          intro v7 σ8 H locs ls ho B hl
          refine lv_iload_n hx hb dX3_placeMinotaur_53 rfl (lv_at hl 0 rfl) ?_
          refine lv_aload_n hx hb dX3_placeMinotaur_54 rfl (lv_at hl 1 rfl) ?_
          refine r_get (ci := 7) (C := RX3) (T := TX3) (N := 3) S F B (kq (by decide) : kd 161 = 13 ∧ 161 < NN) rfl rfl hiX3 0 (by decide) (by decide +kernel) rfl dX3_placeMinotaur_55 ?_
          refine r_getN (ci := 10) (C := RX6) (T := TX6) (N := 9) S F B (kq (by decide) : kd 0 = 0 ∧ 0 < NN) rfl rfl hiX6 4 (by decide) (by decide) rfl dX3_placeMinotaur_58 ?_
          refine lv_icmp_ge (tgt := 83) hx hb dX3_placeMinotaur_61 (by decide) (fun c9 => ?_) (fun c9 => ?_)
          · have ho := ip_ c9 ho
            refine lv_aload_n hx hb dX3_placeMinotaur_83 rfl (lv_at hl 1 rfl) ?_
            refine r_get (ci := 7) (C := RX3) (T := TX3) (N := 3) S F B (kq (by decide) : kd 161 = 13 ∧ 161 < NN) rfl rfl hiX3 0 (by decide) (by decide +kernel) rfl dX3_placeMinotaur_84 ?_
            refine lv_iload_n hx hb dX3_placeMinotaur_87 rfl (lv_at hl 2 rfl) ?_
            obtain ⟨q10, hq10, ho⟩ := bnd_ ho
            refine k_iV (As := [.int a0]) (rest := []) S F B (c_X6_visitorsIn l G σ8 _ a0 hq10) (kq (by decide) : kd 0 = 0 ∧ 0 < NN) rfl rfl (cwV 1 hts gX3_placeMinotaur_X6_visitorsIn rfl rfl rfl (by decide +kernel) ⟨Nat.le_of_ble_eq_true rfl, Nat.le_of_ble_eq_true rfl⟩) rfl hl.1 rfl (Nat.le_of_ble_eq_true rfl) dX3_placeMinotaur_88 ⟨Nat.le_of_ble_eq_true rfl, Nat.le_of_ble_eq_true rfl⟩ (fun H locs B => ?_)
            cases ho
            exact e_i B hx hb hr hlocks rfl rfl dX3_placeMinotaur_91
          · have ho := in_ c9 ho
            refine lv_aload_n hx hb dX3_placeMinotaur_64 rfl (lv_at hl 1 rfl) ?_
            refine lv_aload_n hx hb dX3_placeMinotaur_65 rfl (lv_at hl 1 rfl) ?_
            refine r_get (ci := 7) (C := RX3) (T := TX3) (N := 3) S F B (kq (by decide) : kd 161 = 13 ∧ 161 < NN) rfl rfl hiX3 0 (by decide) (by decide +kernel) rfl dX3_placeMinotaur_66 ?_
            refine r_getN (ci := 10) (C := RX6) (T := TX6) (N := 9) S F B (kq (by decide) : kd 0 = 0 ∧ 0 < NN) rfl rfl hiX6 2 (by decide) (by decide) rfl dX3_placeMinotaur_69 ?_
            refine lv_iload_n hx hb dX3_placeMinotaur_72 rfl (lv_at hl 0 rfl) ?_
            obtain ⟨i11, ho⟩ := gd_ ho
            refine r_aald (t := 4) S F B (kq (by decide) : kd 8 = 5 ∧ 8 < NN) rfl rfl i11 dX3_placeMinotaur_73 ?_
            obtain ⟨σ13, hq12, ho⟩ := bnd_ ho
            refine k_vV (As := [.ref (G.2.2 (8 + 1 + v7.toNatClampNeg))]) (rest := []) S F B (c_X3_meetIfThere l G σ8 _ (8 + 1 + v7.toNatClampNeg) (kgV i11 : kd (8 + 1 + v7.toNatClampNeg) = 6 ∧ (8 + 1 + v7.toNatClampNeg) < NN) hq12) (kq (by decide) : kd 161 = 13 ∧ 161 < NN) rfl rfl (cwV 1 hts gX3_placeMinotaur_X3_meetIfThere rfl rfl rfl (by decide +kernel) ⟨Nat.le_of_ble_eq_true rfl, Nat.le_of_ble_eq_true rfl⟩) rfl hl.1 rfl (Nat.le_of_ble_eq_true rfl) dX3_placeMinotaur_74 ⟨Nat.le_of_ble_eq_true rfl, Nat.le_of_ble_eq_true rfl⟩ (fun H locs B => ?_)
            obtain ⟨x14, ex14, ho⟩ := lt_ ho
            refine lv_iinc (v := x14) (lv' := [(2, .int x14), (0, .ref (G.2.2 161)), (1, .int a0)]) hx hb dX3_placeMinotaur_77 hl (k := 0) rfl (by rw [ex14]; rfl) (by decide) rfl (fun ls hl => ?_)
            refine lv_goto (tgt := 53) hx hb dX3_placeMinotaur_80 (by decide) ?_
            exact ih _ _ _ _ _ ho B (lv_sub hl [0, 1, 2] rfl)
      exact hloop53 8 _ _ _ _ _ ho B hl
    · have ho := ip_ c2 ho
      refine lv_aload_n hx hb dX3_placeMinotaur_33 rfl (lv_at hl 0 rfl) ?_
      refine r_get (ci := 7) (C := RX3) (T := TX3) (N := 3) S F B (kq (by decide) : kd 161 = 13 ∧ 161 < NN) rfl rfl hiX3 2 (by decide) (by decide +kernel) rfl dX3_placeMinotaur_34 ?_
      refine lv_iconst (v := 3) hx hb dX3_placeMinotaur_37 (by decide) ?_
      refine lv_iload_n hx hb dX3_placeMinotaur_38 rfl (lv_at hl 1 rfl) ?_
      obtain ⟨q15, σ16, hq15, ho⟩ := bnm_ ho
      refine k_iV (As := [.int 3, .int a0]) (rest := []) S F B (c_X5_because l G σ _ 3 a0 hq15) (kq (by decide) : kd 157 = 10 ∧ 157 < NN) rfl rfl (cwV 2 hts gX3_placeMinotaur_X5_because rfl rfl rfl (by decide +kernel) ⟨Nat.le_of_ble_eq_true rfl, Nat.le_of_ble_eq_true rfl⟩) rfl hl.1 rfl (Nat.le_of_ble_eq_true rfl) dX3_placeMinotaur_39 ⟨Nat.le_of_ble_eq_true rfl, Nat.le_of_ble_eq_true rfl⟩ (fun H locs B => ?_)
      cases ho
      exact e_i B hx hb hr hlocks rfl rfl dX3_placeMinotaur_42
  · have ho := in_ c1 ho
    refine lv_iload_n hx hb dX3_placeMinotaur_5 rfl (lv_at hl 1 rfl) ?_
    obtain ⟨q17, hq17, ho⟩ := bnd_ ho
    refine k_iS (As := [.int a0]) (rest := []) S F B (c_X4_isCell l G σ _ a0 hq17) (va_cwS 1 hts gX3_placeMinotaur_X4_isCell rfl rfl rfl (by decide +kernel) ⟨Nat.le_of_ble_eq_true rfl, Nat.le_of_ble_eq_true rfl⟩) rfl hl.1 rfl (Nat.le_of_ble_eq_true rfl) dX3_placeMinotaur_6 ⟨Nat.le_of_ble_eq_true rfl, Nat.le_of_ble_eq_true rfl⟩ (fun H locs B => ?_)
    refine lv_if_ne (tgt := 22) hx hb dX3_placeMinotaur_9 (by decide) (fun c18 => ?_) (fun c18 => ?_)
    · have ho := in_ c18 ho
      refine lv_iload_n hx hb dX3_placeMinotaur_22 rfl (lv_at hl 1 rfl) ?_
      refine lv_aload_n hx hb dX3_placeMinotaur_23 rfl (lv_at hl 0 rfl) ?_
      refine r_get (ci := 7) (C := RX3) (T := TX3) (N := 3) S F B (kq (by decide) : kd 161 = 13 ∧ 161 < NN) rfl rfl hiX3 0 (by decide) (by decide +kernel) rfl dX3_placeMinotaur_24 ?_
      refine r_getN (ci := 10) (C := RX6) (T := TX6) (N := 9) S F B (kq (by decide) : kd 0 = 0 ∧ 0 < NN) rfl rfl hiX6 5 (by decide) (by decide) rfl dX3_placeMinotaur_27 ?_
      refine lv_icmp_ne (tgt := 43) hx hb dX3_placeMinotaur_30 (by decide) (fun c19 => ?_) (fun c19 => ?_)
      · have ho := in_ c19 ho
        refine lv_aload_n hx hb dX3_placeMinotaur_43 rfl (lv_at hl 0 rfl) ?_
        refine r_get (ci := 7) (C := RX3) (T := TX3) (N := 3) S F B (kq (by decide) : kd 161 = 13 ∧ 161 < NN) rfl rfl hiX3 0 (by decide) (by decide +kernel) rfl dX3_placeMinotaur_44 ?_
        refine lv_iload_n hx hb dX3_placeMinotaur_47 rfl (lv_at hl 1 rfl) ?_
        refine r_putN (ci := 10) (C := RX6) (T := TX6) (N := 9) (ty := .int) S F B tyX6 tyX6_ok nmX6 (kq (by decide) : kd 0 = 0 ∧ 0 < NN) (fun _ => rfl) rfl hiX6 5 (by decide) (by decide) rfl rfl rfl rfl (fun _ => Nat.le_of_ble_eq_true rfl) (fun _ => rfl) dX3_placeMinotaur_48 (fun H locs B => ?_)
        obtain ⟨σ20, eσ20, ho⟩ := lt_ ho
        rw [← eσ20] at B
        refine lv_iconst (v := 0) hx hb dX3_placeMinotaur_51 (by decide) ?_
        refine lv_istore_n (lv' := [(2, .int 0), (0, .ref (G.2.2 161)), (1, .int a0)]) hx hb dX3_placeMinotaur_52 rfl hl (by decide) rfl (fun ls hl => ?_)
        have hloop53 : ∀ (n : Nat) (v24 : Int32) (σ25 : Mm) (H : Heap) (locs : List Loc) (ls : Array Slot), f_X3_placeMinotaur_l53b  a0 n v24 σ25 = some out → Bd G σ25 s H locs → lv_has ls 3 [(2, .int v24), (0, .ref (G.2.2 161)), (1, .int a0)] → W p l e (headSpec wsX3_placeMinotaur { frames := 3, cells := 0, slots := 0, locals := 61 }).room s m #[.ref (G.2.2 161), .int a0] below meth c H locs 0 0 (MQ below (Qi G s.heap.size out.1 out.2) #[.ref (G.2.2 161), .int a0] s 0 0 (AA G s.heap.size)) (F0 m 53 ls []) := by
          intro n
          induction n with
          | zero => intro v24 σ25 H locs ls ho B hl; cases ho
          | succ n ih =>
            intro v24 σ25 H locs ls ho B hl
            refine lv_iload_n hx hb dX3_placeMinotaur_53 rfl (lv_at hl 0 rfl) ?_
            refine lv_aload_n hx hb dX3_placeMinotaur_54 rfl (lv_at hl 1 rfl) ?_
            refine r_get (ci := 7) (C := RX3) (T := TX3) (N := 3) S F B (kq (by decide) : kd 161 = 13 ∧ 161 < NN) rfl rfl hiX3 0 (by decide) (by decide +kernel) rfl dX3_placeMinotaur_55 ?_
            refine r_getN (ci := 10) (C := RX6) (T := TX6) (N := 9) S F B (kq (by decide) : kd 0 = 0 ∧ 0 < NN) rfl rfl hiX6 4 (by decide) (by decide) rfl dX3_placeMinotaur_58 ?_
            refine lv_icmp_ge (tgt := 83) hx hb dX3_placeMinotaur_61 (by decide) (fun c26 => ?_) (fun c26 => ?_)
            · have ho := ip_ c26 ho
              refine lv_aload_n hx hb dX3_placeMinotaur_83 rfl (lv_at hl 1 rfl) ?_
              refine r_get (ci := 7) (C := RX3) (T := TX3) (N := 3) S F B (kq (by decide) : kd 161 = 13 ∧ 161 < NN) rfl rfl hiX3 0 (by decide) (by decide +kernel) rfl dX3_placeMinotaur_84 ?_
              refine lv_iload_n hx hb dX3_placeMinotaur_87 rfl (lv_at hl 2 rfl) ?_
              obtain ⟨q27, hq27, ho⟩ := bnd_ ho
              refine k_iV (As := [.int a0]) (rest := []) S F B (c_X6_visitorsIn l G σ25 _ a0 hq27) (kq (by decide) : kd 0 = 0 ∧ 0 < NN) rfl rfl (cwV 1 hts gX3_placeMinotaur_X6_visitorsIn rfl rfl rfl (by decide +kernel) ⟨Nat.le_of_ble_eq_true rfl, Nat.le_of_ble_eq_true rfl⟩) rfl hl.1 rfl (Nat.le_of_ble_eq_true rfl) dX3_placeMinotaur_88 ⟨Nat.le_of_ble_eq_true rfl, Nat.le_of_ble_eq_true rfl⟩ (fun H locs B => ?_)
              cases ho
              exact e_i B hx hb hr hlocks rfl rfl dX3_placeMinotaur_91
            · have ho := in_ c26 ho
              refine lv_aload_n hx hb dX3_placeMinotaur_64 rfl (lv_at hl 1 rfl) ?_
              refine lv_aload_n hx hb dX3_placeMinotaur_65 rfl (lv_at hl 1 rfl) ?_
              refine r_get (ci := 7) (C := RX3) (T := TX3) (N := 3) S F B (kq (by decide) : kd 161 = 13 ∧ 161 < NN) rfl rfl hiX3 0 (by decide) (by decide +kernel) rfl dX3_placeMinotaur_66 ?_
              refine r_getN (ci := 10) (C := RX6) (T := TX6) (N := 9) S F B (kq (by decide) : kd 0 = 0 ∧ 0 < NN) rfl rfl hiX6 2 (by decide) (by decide) rfl dX3_placeMinotaur_69 ?_
              refine lv_iload_n hx hb dX3_placeMinotaur_72 rfl (lv_at hl 0 rfl) ?_
              obtain ⟨i28, ho⟩ := gd_ ho
              refine r_aald (t := 4) S F B (kq (by decide) : kd 8 = 5 ∧ 8 < NN) rfl rfl i28 dX3_placeMinotaur_73 ?_
              obtain ⟨σ30, hq29, ho⟩ := bnd_ ho
              refine k_vV (As := [.ref (G.2.2 (8 + 1 + v24.toNatClampNeg))]) (rest := []) S F B (c_X3_meetIfThere l G σ25 _ (8 + 1 + v24.toNatClampNeg) (kgV i28 : kd (8 + 1 + v24.toNatClampNeg) = 6 ∧ (8 + 1 + v24.toNatClampNeg) < NN) hq29) (kq (by decide) : kd 161 = 13 ∧ 161 < NN) rfl rfl (cwV 1 hts gX3_placeMinotaur_X3_meetIfThere rfl rfl rfl (by decide +kernel) ⟨Nat.le_of_ble_eq_true rfl, Nat.le_of_ble_eq_true rfl⟩) rfl hl.1 rfl (Nat.le_of_ble_eq_true rfl) dX3_placeMinotaur_74 ⟨Nat.le_of_ble_eq_true rfl, Nat.le_of_ble_eq_true rfl⟩ (fun H locs B => ?_)
              obtain ⟨x31, ex31, ho⟩ := lt_ ho
              refine lv_iinc (v := x31) (lv' := [(2, .int x31), (0, .ref (G.2.2 161)), (1, .int a0)]) hx hb dX3_placeMinotaur_77 hl (k := 0) rfl (by rw [ex31]; rfl) (by decide) rfl (fun ls hl => ?_)
              refine lv_goto (tgt := 53) hx hb dX3_placeMinotaur_80 (by decide) ?_
              exact ih _ _ _ _ _ ho B (lv_sub hl [0, 1, 2] rfl)
        exact hloop53 8 _ _ _ _ _ ho B hl
      · have ho := ip_ c19 ho
        refine lv_aload_n hx hb dX3_placeMinotaur_33 rfl (lv_at hl 0 rfl) ?_
        refine r_get (ci := 7) (C := RX3) (T := TX3) (N := 3) S F B (kq (by decide) : kd 161 = 13 ∧ 161 < NN) rfl rfl hiX3 2 (by decide) (by decide +kernel) rfl dX3_placeMinotaur_34 ?_
        refine lv_iconst (v := 3) hx hb dX3_placeMinotaur_37 (by decide) ?_
        refine lv_iload_n hx hb dX3_placeMinotaur_38 rfl (lv_at hl 1 rfl) ?_
        obtain ⟨q32, σ33, hq32, ho⟩ := bnm_ ho
        refine k_iV (As := [.int 3, .int a0]) (rest := []) S F B (c_X5_because l G σ _ 3 a0 hq32) (kq (by decide) : kd 157 = 10 ∧ 157 < NN) rfl rfl (cwV 2 hts gX3_placeMinotaur_X5_because rfl rfl rfl (by decide +kernel) ⟨Nat.le_of_ble_eq_true rfl, Nat.le_of_ble_eq_true rfl⟩) rfl hl.1 rfl (Nat.le_of_ble_eq_true rfl) dX3_placeMinotaur_39 ⟨Nat.le_of_ble_eq_true rfl, Nat.le_of_ble_eq_true rfl⟩ (fun H locs B => ?_)
        cases ho
        exact e_i B hx hb hr hlocks rfl rfl dX3_placeMinotaur_42
    · have ho := ip_ c18 ho
      refine lv_aload_n hx hb dX3_placeMinotaur_12 rfl (lv_at hl 0 rfl) ?_
      refine r_get (ci := 7) (C := RX3) (T := TX3) (N := 3) S F B (kq (by decide) : kd 161 = 13 ∧ 161 < NN) rfl rfl hiX3 2 (by decide) (by decide +kernel) rfl dX3_placeMinotaur_13 ?_
      refine lv_iconst (v := 1) hx hb dX3_placeMinotaur_16 (by decide) ?_
      refine lv_iconst (v := 0) hx hb dX3_placeMinotaur_17 (by decide) ?_
      obtain ⟨q34, σ35, hq34, ho⟩ := bnm_ ho
      refine k_iV (As := [.int 1, .int 0]) (rest := []) S F B (c_X5_because l G σ _ 1 0 hq34) (kq (by decide) : kd 157 = 10 ∧ 157 < NN) rfl rfl (cwV 2 hts gX3_placeMinotaur_X5_because rfl rfl rfl (by decide +kernel) ⟨Nat.le_of_ble_eq_true rfl, Nat.le_of_ble_eq_true rfl⟩) rfl hl.1 rfl (Nat.le_of_ble_eq_true rfl) dX3_placeMinotaur_18 ⟨Nat.le_of_ble_eq_true rfl, Nat.le_of_ble_eq_true rfl⟩ (fun H locs B => ?_)
      cases ho
      exact e_i B hx hb hr hlocks rfl rfl dX3_placeMinotaur_21

set_option maxHeartbeats 4000000 in
set_option maxRecDepth 100000 in
theorem c_X3_admitGardener (l : Launch) (G : Gd) (σ : Mm) (sz : Nat) (a0 : Int32) {out : Int32 × Mm} (ho : f_X3_admitGardener a0 σ = some out) : Met l yX3_admitGardener wsX3_admitGardener { frames := 1, cells := 0, slots := 0, locals := 22 } (va_Pc [.ref (G.2.2 161), .int a0] (PW G σ sz)) (Qi G sz out.1 out.2) 0 0 (AA G sz) := by
  refine Met.ofW (cc := cX3_admitGardener) (maxL := 3) (ret := (some .int)) (by decide) rfl ?_
  intro p e s m args below meth c s₁ B0 hml hv
  obtain ⟨rfl, hpw⟩ := hv
  have hsz := hpw.1
  subst hsz
  obtain ⟨F, B⟩ := hpw.to
  have hx := B0.exec
  have hb := B0.bytes
  have hr := B0.returns
  have hts := atoms_spec (ws := wsX3_admitGardener) B0.pre
  have hown : s.vm.findClass RX3 = some m.cls := findClass_of_methodNamed B0.named
  have hlocks := B0.notSynchronized
  have S : CallFix p m c cX3_admitGardener 3 s _ wsX3_admitGardener RX3 := ⟨hx, hb, hml, hown, hts⟩
  have hiX3 : ∀ w ∈ u_ws RX3 TX3 3, w ∈ wsX3_admitGardener := by decide +kernel
  have hiX6 : ∀ w ∈ u_ws RX6 TX6 9, w ∈ wsX3_admitGardener := by decide +kernel
  have hl := lv_entry [.ref (G.2.2 161), .int a0] (n := 3) (Nat.le_of_ble_eq_true rfl)
  rw [lg_entry_eq]
  generalize (lg_sl [.ref (G.2.2 161), .int a0] ++ List.replicate (3 - (lg_sl [.ref (G.2.2 161), .int a0]).length) Slot.unset).toArray = ls at hl ⊢
  have hl : lv_has ls 3 [(0, .ref (G.2.2 161)), (1, .int a0)] := hl
  unfold f_X3_admitGardener at ho
  refine lv_iload_n hx hb dX3_admitGardener_0 rfl (lv_at hl 1 rfl) ?_
  refine lv_if_lt (tgt := 10) hx hb dX3_admitGardener_1 (by decide) (fun c1 => ?_) (fun c1 => ?_)
  · have ho := ip_ c1 ho
    refine lv_aload_n hx hb dX3_admitGardener_10 rfl (lv_at hl 0 rfl) ?_
    refine r_get (ci := 7) (C := RX3) (T := TX3) (N := 3) S F B (kq (by decide) : kd 161 = 13 ∧ 161 < NN) rfl rfl hiX3 2 (by decide) (by decide +kernel) rfl dX3_admitGardener_11 ?_
    refine lv_iconst (v := 1) hx hb dX3_admitGardener_14 (by decide) ?_
    refine lv_iconst (v := 0) hx hb dX3_admitGardener_15 (by decide) ?_
    obtain ⟨q2, σ3, hq2, ho⟩ := bnm_ ho
    refine k_iV (As := [.int 1, .int 0]) (rest := []) S F B (c_X5_because l G σ _ 1 0 hq2) (kq (by decide) : kd 157 = 10 ∧ 157 < NN) rfl rfl (cwV 2 hts gX3_admitGardener_X5_because rfl rfl rfl (by decide +kernel) ⟨Nat.le_of_ble_eq_true rfl, Nat.le_of_ble_eq_true rfl⟩) rfl hl.1 rfl (Nat.le_of_ble_eq_true rfl) dX3_admitGardener_16 ⟨Nat.le_of_ble_eq_true rfl, Nat.le_of_ble_eq_true rfl⟩ (fun H locs B => ?_)
    cases ho
    exact e_i B hx hb hr hlocks rfl rfl dX3_admitGardener_19
  · have ho := in_ c1 ho
    refine lv_iload_n hx hb dX3_admitGardener_4 rfl (lv_at hl 1 rfl) ?_
    refine lv_bipush (v := 99) hx hb dX3_admitGardener_5 (by decide) ?_
    refine lv_icmp_le (tgt := 20) hx hb dX3_admitGardener_7 (by decide) (fun c4 => ?_) (fun c4 => ?_)
    · have ho := ip_ c4 ho
      refine lv_aload_n hx hb dX3_admitGardener_20 rfl (lv_at hl 0 rfl) ?_
      refine r_get (ci := 7) (C := RX3) (T := TX3) (N := 3) S F B (kq (by decide) : kd 161 = 13 ∧ 161 < NN) rfl rfl hiX3 0 (by decide) (by decide +kernel) rfl dX3_admitGardener_21 ?_
      refine r_getN (ci := 10) (C := RX6) (T := TX6) (N := 9) S F B (kq (by decide) : kd 0 = 0 ∧ 0 < NN) rfl rfl hiX6 3 (by decide) (by decide) rfl dX3_admitGardener_24 ?_
      obtain ⟨x5, ex5, ho⟩ := lt_ ho
      refine lv_nm ex5 ?_
      refine lv_istore_n (lv' := [(2, .int x5), (0, .ref (G.2.2 161)), (1, .int a0)]) hx hb dX3_admitGardener_27 rfl hl (by decide) rfl (fun ls hl => ?_)
      refine lv_iload_n hx hb dX3_admitGardener_28 rfl (lv_at hl 0 rfl) ?_
      refine lv_iconst (v := 4) hx hb dX3_admitGardener_29 (by decide) ?_
      refine lv_icmp_lt (tgt := 44) hx hb dX3_admitGardener_30 (by decide) (fun c6 => ?_) (fun c6 => ?_)
      · have ho := ip_ c6 ho
        refine lv_aload_n hx hb dX3_admitGardener_44 rfl (lv_at hl 1 rfl) ?_
        refine r_get (ci := 7) (C := RX3) (T := TX3) (N := 3) S F B (kq (by decide) : kd 161 = 13 ∧ 161 < NN) rfl rfl hiX3 0 (by decide) (by decide +kernel) rfl dX3_admitGardener_45 ?_
        refine r_getN (ci := 10) (C := RX6) (T := TX6) (N := 9) S F B (kq (by decide) : kd 0 = 0 ∧ 0 < NN) rfl rfl hiX6 1 (by decide) (by decide) rfl dX3_admitGardener_48 ?_
        refine lv_iload_n hx hb dX3_admitGardener_51 rfl (lv_at hl 0 rfl) ?_
        obtain ⟨i7, ho⟩ := gd_ ho
        refine r_aald (t := 3) S F B (kq (by decide) : kd 3 = 3 ∧ 3 < NN) rfl rfl i7 dX3_admitGardener_52 ?_
        refine lv_iload_n hx hb dX3_admitGardener_53 rfl (lv_at hl 2 rfl) ?_
        obtain ⟨σ9, hq8, ho⟩ := bnd_ ho
        refine k_vV (As := [.int a0]) (rest := []) S F B (c_X1_arrive l G σ _ (3 + 1 + x5.toNatClampNeg) a0 (kgG i7 : kd (3 + 1 + x5.toNatClampNeg) = 4 ∧ (3 + 1 + x5.toNatClampNeg) < NN) hq8) (kgG i7 : kd (3 + 1 + x5.toNatClampNeg) = 4 ∧ (3 + 1 + x5.toNatClampNeg) < NN) rfl rfl (cwV 1 hts gX3_admitGardener_X1_arrive rfl rfl rfl (by decide +kernel) ⟨Nat.le_of_ble_eq_true rfl, Nat.le_of_ble_eq_true rfl⟩) rfl hl.1 rfl (Nat.le_of_ble_eq_true rfl) dX3_admitGardener_54 ⟨Nat.le_of_ble_eq_true rfl, Nat.le_of_ble_eq_true rfl⟩ (fun H locs B => ?_)
        refine lv_aload_n hx hb dX3_admitGardener_57 rfl (lv_at hl 1 rfl) ?_
        refine r_get (ci := 7) (C := RX3) (T := TX3) (N := 3) S F B (kq (by decide) : kd 161 = 13 ∧ 161 < NN) rfl rfl hiX3 0 (by decide) (by decide +kernel) rfl dX3_admitGardener_58 ?_
        refine lv_dup hx hb dX3_admitGardener_61 rfl ?_
        refine r_getN (ci := 10) (C := RX6) (T := TX6) (N := 9) S F B (kq (by decide) : kd 0 = 0 ∧ 0 < NN) rfl rfl hiX6 3 (by decide) (by decide) rfl dX3_admitGardener_62 ?_
        refine lv_iconst (v := 1) hx hb dX3_admitGardener_65 (by decide) ?_
        refine lv_iadd hx hb dX3_admitGardener_66 ?_
        refine r_putN (ci := 10) (C := RX6) (T := TX6) (N := 9) (ty := .int) S F B tyX6 tyX6_ok nmX6 (kq (by decide) : kd 0 = 0 ∧ 0 < NN) (fun _ => rfl) rfl hiX6 3 (by decide) (by decide) rfl rfl rfl rfl (fun _ => Nat.le_of_ble_eq_true rfl) (fun _ => rfl) dX3_admitGardener_67 (fun H locs B => ?_)
        obtain ⟨σ10, eσ10, ho⟩ := lt_ ho
        rw [← eσ10] at B
        refine lv_aload_n hx hb dX3_admitGardener_70 rfl (lv_at hl 1 rfl) ?_
        refine r_get (ci := 7) (C := RX3) (T := TX3) (N := 3) S F B (kq (by decide) : kd 161 = 13 ∧ 161 < NN) rfl rfl hiX3 0 (by decide) (by decide +kernel) rfl dX3_admitGardener_71 ?_
        refine lv_dup hx hb dX3_admitGardener_74 rfl ?_
        refine r_getN (ci := 10) (C := RX6) (T := TX6) (N := 9) S F B (kq (by decide) : kd 0 = 0 ∧ 0 < NN) rfl rfl hiX6 7 (by decide) (by decide) rfl dX3_admitGardener_75 ?_
        refine lv_iload_n hx hb dX3_admitGardener_78 rfl (lv_at hl 2 rfl) ?_
        refine lv_iadd hx hb dX3_admitGardener_79 ?_
        refine r_putN (ci := 10) (C := RX6) (T := TX6) (N := 9) (ty := .int) S F B tyX6 tyX6_ok nmX6 (kq (by decide) : kd 0 = 0 ∧ 0 < NN) (fun _ => rfl) rfl hiX6 7 (by decide) (by decide) rfl rfl rfl rfl (fun _ => Nat.le_of_ble_eq_true rfl) (fun _ => rfl) dX3_admitGardener_80 (fun H locs B => ?_)
        obtain ⟨σ11, eσ11, ho⟩ := lt_ ho
        rw [← eσ11] at B
        refine lv_iload_n hx hb dX3_admitGardener_83 rfl (lv_at hl 0 rfl) ?_
        cases ho
        exact e_i B hx hb hr hlocks rfl rfl dX3_admitGardener_84
      · have ho := in_ c6 ho
        refine lv_aload_n hx hb dX3_admitGardener_33 rfl (lv_at hl 1 rfl) ?_
        refine r_get (ci := 7) (C := RX3) (T := TX3) (N := 3) S F B (kq (by decide) : kd 161 = 13 ∧ 161 < NN) rfl rfl hiX3 2 (by decide) (by decide +kernel) rfl dX3_admitGardener_34 ?_
        refine lv_bipush (v := 13) hx hb dX3_admitGardener_37 (by decide) ?_
        refine lv_iconst (v := 4) hx hb dX3_admitGardener_39 (by decide) ?_
        obtain ⟨q12, σ13, hq12, ho⟩ := bnm_ ho
        refine k_iV (As := [.int 13, .int 4]) (rest := []) S F B (c_X5_because l G σ _ 13 4 hq12) (kq (by decide) : kd 157 = 10 ∧ 157 < NN) rfl rfl (cwV 2 hts gX3_admitGardener_X5_because rfl rfl rfl (by decide +kernel) ⟨Nat.le_of_ble_eq_true rfl, Nat.le_of_ble_eq_true rfl⟩) rfl hl.1 rfl (Nat.le_of_ble_eq_true rfl) dX3_admitGardener_40 ⟨Nat.le_of_ble_eq_true rfl, Nat.le_of_ble_eq_true rfl⟩ (fun H locs B => ?_)
        cases ho
        exact e_i B hx hb hr hlocks rfl rfl dX3_admitGardener_43
    · have ho := in_ c4 ho
      refine lv_aload_n hx hb dX3_admitGardener_10 rfl (lv_at hl 0 rfl) ?_
      refine r_get (ci := 7) (C := RX3) (T := TX3) (N := 3) S F B (kq (by decide) : kd 161 = 13 ∧ 161 < NN) rfl rfl hiX3 2 (by decide) (by decide +kernel) rfl dX3_admitGardener_11 ?_
      refine lv_iconst (v := 1) hx hb dX3_admitGardener_14 (by decide) ?_
      refine lv_iconst (v := 0) hx hb dX3_admitGardener_15 (by decide) ?_
      obtain ⟨q14, σ15, hq14, ho⟩ := bnm_ ho
      refine k_iV (As := [.int 1, .int 0]) (rest := []) S F B (c_X5_because l G σ _ 1 0 hq14) (kq (by decide) : kd 157 = 10 ∧ 157 < NN) rfl rfl (cwV 2 hts gX3_admitGardener_X5_because rfl rfl rfl (by decide +kernel) ⟨Nat.le_of_ble_eq_true rfl, Nat.le_of_ble_eq_true rfl⟩) rfl hl.1 rfl (Nat.le_of_ble_eq_true rfl) dX3_admitGardener_16 ⟨Nat.le_of_ble_eq_true rfl, Nat.le_of_ble_eq_true rfl⟩ (fun H locs B => ?_)
      cases ho
      exact e_i B hx hb hr hlocks rfl rfl dX3_admitGardener_19

set_option maxHeartbeats 4000000 in
set_option maxRecDepth 100000 in
theorem c_J6_bitCount_0f7a4 (l : Launch) (G : Gd) (σ : Mm) (sz : Nat) (a0 : Int32) {out : Int32} (ho : f_J6_bitCount_0f7a4 a0 σ = some out) : Met l yJ6_bitCount_0f7a4 wsJ6_bitCount_0f7a4 { frames := 0, cells := 0, slots := 0, locals := 0 } (va_Pc [.int a0] (PW G σ sz)) (Qi G sz out σ) 0 0 (AA G sz) := by
  refine Met.ofW (cc := cJ6_bitCount_0f7a4) (maxL := 1) (ret := (some .int)) (by decide) rfl ?_
  intro p e s m args below meth c s₁ B0 hml hv
  obtain ⟨rfl, hpw⟩ := hv
  have hsz := hpw.1
  subst hsz
  obtain ⟨F, B⟩ := hpw.to
  have hx := B0.exec
  have hb := B0.bytes
  have hr := B0.returns
  have hts := atoms_spec (ws := wsJ6_bitCount_0f7a4) B0.pre
  have hown : s.vm.findClass RJ6 = some m.cls := findClass_of_methodNamed B0.named
  have hlocks := B0.notSynchronized
  have S : CallFix p m c cJ6_bitCount_0f7a4 1 s _ wsJ6_bitCount_0f7a4 RJ6 := ⟨hx, hb, hml, hown, hts⟩
  have hl := lv_entry [.int a0] (n := 1) (Nat.le_of_ble_eq_true rfl)
  rw [lg_entry_eq]
  generalize (lg_sl [.int a0] ++ List.replicate (1 - (lg_sl [.int a0]).length) Slot.unset).toArray = ls at hl ⊢
  have hl : lv_has ls 1 [(0, .int a0)] := hl
  unfold f_J6_bitCount_0f7a4 at ho
  refine lv_iload_n hx hb dJ6_bitCount_0f7a4_0 rfl (lv_at hl 0 rfl) ?_
  refine lv_iload_n hx hb dJ6_bitCount_0f7a4_1 rfl (lv_at hl 0 rfl) ?_
  refine lv_iconst (v := 1) hx hb dJ6_bitCount_0f7a4_2 (by decide) ?_
  refine lv_iushr (v := ush a0 1) hx hb dJ6_bitCount_0f7a4_3 rfl ?_
  refine lv_ldcw (v := 1431655765) hx hb hown (hts _ (by decide +kernel)) dJ6_bitCount_0f7a4_4 ?_
  refine lv_iand hx hb dJ6_bitCount_0f7a4_7 ?_
  refine lv_isub hx hb dJ6_bitCount_0f7a4_8 ?_
  obtain ⟨x1, ex1, ho⟩ := lt_ ho
  refine lv_nm ex1 ?_
  refine lv_istore_n (lv' := [(0, .int x1)]) hx hb dJ6_bitCount_0f7a4_9 rfl hl (by decide) rfl (fun ls hl => ?_)
  refine lv_iload_n hx hb dJ6_bitCount_0f7a4_10 rfl (lv_at hl 0 rfl) ?_
  refine lv_ldcw (v := 858993459) hx hb hown (hts _ (by decide +kernel)) dJ6_bitCount_0f7a4_11 ?_
  refine lv_iand hx hb dJ6_bitCount_0f7a4_14 ?_
  refine lv_iload_n hx hb dJ6_bitCount_0f7a4_15 rfl (lv_at hl 0 rfl) ?_
  refine lv_iconst (v := 2) hx hb dJ6_bitCount_0f7a4_16 (by decide) ?_
  refine lv_iushr (v := ush x1 2) hx hb dJ6_bitCount_0f7a4_17 rfl ?_
  refine lv_ldcw (v := 858993459) hx hb hown (hts _ (by decide +kernel)) dJ6_bitCount_0f7a4_18 ?_
  refine lv_iand hx hb dJ6_bitCount_0f7a4_21 ?_
  refine lv_iadd hx hb dJ6_bitCount_0f7a4_22 ?_
  obtain ⟨x2, ex2, ho⟩ := lt_ ho
  refine lv_nm ex2 ?_
  refine lv_istore_n (lv' := [(0, .int x2)]) hx hb dJ6_bitCount_0f7a4_23 rfl hl (by decide) rfl (fun ls hl => ?_)
  refine lv_iload_n hx hb dJ6_bitCount_0f7a4_24 rfl (lv_at hl 0 rfl) ?_
  refine lv_iload_n hx hb dJ6_bitCount_0f7a4_25 rfl (lv_at hl 0 rfl) ?_
  refine lv_iconst (v := 4) hx hb dJ6_bitCount_0f7a4_26 (by decide) ?_
  refine lv_iushr (v := ush x2 4) hx hb dJ6_bitCount_0f7a4_27 rfl ?_
  refine lv_iadd hx hb dJ6_bitCount_0f7a4_28 ?_
  refine lv_ldcw (v := 252645135) hx hb hown (hts _ (by decide +kernel)) dJ6_bitCount_0f7a4_29 ?_
  refine lv_iand hx hb dJ6_bitCount_0f7a4_32 ?_
  obtain ⟨x3, ex3, ho⟩ := lt_ ho
  refine lv_nm ex3 ?_
  refine lv_istore_n (lv' := [(0, .int x3)]) hx hb dJ6_bitCount_0f7a4_33 rfl hl (by decide) rfl (fun ls hl => ?_)
  refine lv_iload_n hx hb dJ6_bitCount_0f7a4_34 rfl (lv_at hl 0 rfl) ?_
  refine lv_iload_n hx hb dJ6_bitCount_0f7a4_35 rfl (lv_at hl 0 rfl) ?_
  refine lv_bipush (v := 8) hx hb dJ6_bitCount_0f7a4_36 (by decide) ?_
  refine lv_iushr (v := ush x3 8) hx hb dJ6_bitCount_0f7a4_38 rfl ?_
  refine lv_iadd hx hb dJ6_bitCount_0f7a4_39 ?_
  obtain ⟨x4, ex4, ho⟩ := lt_ ho
  refine lv_nm ex4 ?_
  refine lv_istore_n (lv' := [(0, .int x4)]) hx hb dJ6_bitCount_0f7a4_40 rfl hl (by decide) rfl (fun ls hl => ?_)
  refine lv_iload_n hx hb dJ6_bitCount_0f7a4_41 rfl (lv_at hl 0 rfl) ?_
  refine lv_iload_n hx hb dJ6_bitCount_0f7a4_42 rfl (lv_at hl 0 rfl) ?_
  refine lv_bipush (v := 16) hx hb dJ6_bitCount_0f7a4_43 (by decide) ?_
  refine lv_iushr (v := ush x4 16) hx hb dJ6_bitCount_0f7a4_45 rfl ?_
  refine lv_iadd hx hb dJ6_bitCount_0f7a4_46 ?_
  obtain ⟨x5, ex5, ho⟩ := lt_ ho
  refine lv_nm ex5 ?_
  refine lv_istore_n (lv' := [(0, .int x5)]) hx hb dJ6_bitCount_0f7a4_47 rfl hl (by decide) rfl (fun ls hl => ?_)
  refine lv_iload_n hx hb dJ6_bitCount_0f7a4_48 rfl (lv_at hl 0 rfl) ?_
  refine lv_bipush (v := 63) hx hb dJ6_bitCount_0f7a4_49 (by decide) ?_
  refine lv_iand hx hb dJ6_bitCount_0f7a4_51 ?_
  cases ho
  exact e_i B hx hb hr hlocks rfl rfl dJ6_bitCount_0f7a4_52

set_option maxHeartbeats 4000000 in
set_option maxRecDepth 100000 in
theorem c_X3_admitVisitor (l : Launch) (G : Gd) (σ : Mm) (sz : Nat) (a0 : Int32) {out : Int32 × Mm} (ho : f_X3_admitVisitor a0 σ = some out) : Met l yX3_admitVisitor wsX3_admitVisitor { frames := 4, cells := 0, slots := 0, locals := 93 } (va_Pc [.ref (G.2.2 161), .int a0] (PW G σ sz)) (Qi G sz out.1 out.2) 0 0 (AA G sz) := by
  refine Met.ofW (cc := cX3_admitVisitor) (maxL := 4) (ret := (some .int)) (by decide) rfl ?_
  intro p e s m args below meth c s₁ B0 hml hv
  obtain ⟨rfl, hpw⟩ := hv
  have hsz := hpw.1
  subst hsz
  obtain ⟨F, B⟩ := hpw.to
  have hx := B0.exec
  have hb := B0.bytes
  have hr := B0.returns
  have hts := atoms_spec (ws := wsX3_admitVisitor) B0.pre
  have hown : s.vm.findClass RX3 = some m.cls := findClass_of_methodNamed B0.named
  have hlocks := B0.notSynchronized
  have S : CallFix p m c cX3_admitVisitor 4 s _ wsX3_admitVisitor RX3 := ⟨hx, hb, hml, hown, hts⟩
  have hiX3 : ∀ w ∈ u_ws RX3 TX3 3, w ∈ wsX3_admitVisitor := by decide +kernel
  have hiX6 : ∀ w ∈ u_ws RX6 TX6 9, w ∈ wsX3_admitVisitor := by decide +kernel
  have hl := lv_entry [.ref (G.2.2 161), .int a0] (n := 4) (Nat.le_of_ble_eq_true rfl)
  rw [lg_entry_eq]
  generalize (lg_sl [.ref (G.2.2 161), .int a0] ++ List.replicate (4 - (lg_sl [.ref (G.2.2 161), .int a0]).length) Slot.unset).toArray = ls at hl ⊢
  have hl : lv_has ls 4 [(0, .ref (G.2.2 161)), (1, .int a0)] := hl
  unfold f_X3_admitVisitor at ho
  refine lv_iload_n hx hb dX3_admitVisitor_0 rfl (lv_at hl 1 rfl) ?_
  refine lv_if_lt (tgt := 10) hx hb dX3_admitVisitor_1 (by decide) (fun c1 => ?_) (fun c1 => ?_)
  · have ho := ip_ c1 ho
    refine lv_aload_n hx hb dX3_admitVisitor_10 rfl (lv_at hl 0 rfl) ?_
    refine r_get (ci := 7) (C := RX3) (T := TX3) (N := 3) S F B (kq (by decide) : kd 161 = 13 ∧ 161 < NN) rfl rfl hiX3 2 (by decide) (by decide +kernel) rfl dX3_admitVisitor_11 ?_
    refine lv_iconst (v := 1) hx hb dX3_admitVisitor_14 (by decide) ?_
    refine lv_iconst (v := 0) hx hb dX3_admitVisitor_15 (by decide) ?_
    obtain ⟨q2, σ3, hq2, ho⟩ := bnm_ ho
    refine k_iV (As := [.int 1, .int 0]) (rest := []) S F B (c_X5_because l G σ _ 1 0 hq2) (kq (by decide) : kd 157 = 10 ∧ 157 < NN) rfl rfl (cwV 2 hts gX3_admitVisitor_X5_because rfl rfl rfl (by decide +kernel) ⟨Nat.le_of_ble_eq_true rfl, Nat.le_of_ble_eq_true rfl⟩) rfl hl.1 rfl (Nat.le_of_ble_eq_true rfl) dX3_admitVisitor_16 ⟨Nat.le_of_ble_eq_true rfl, Nat.le_of_ble_eq_true rfl⟩ (fun H locs B => ?_)
    cases ho
    exact e_i B hx hb hr hlocks rfl rfl dX3_admitVisitor_19
  · have ho := in_ c1 ho
    refine lv_iload_n hx hb dX3_admitVisitor_4 rfl (lv_at hl 1 rfl) ?_
    refine lv_bipush (v := 99) hx hb dX3_admitVisitor_5 (by decide) ?_
    refine lv_icmp_le (tgt := 20) hx hb dX3_admitVisitor_7 (by decide) (fun c4 => ?_) (fun c4 => ?_)
    · have ho := ip_ c4 ho
      refine lv_aload_n hx hb dX3_admitVisitor_20 rfl (lv_at hl 0 rfl) ?_
      refine r_get (ci := 7) (C := RX3) (T := TX3) (N := 3) S F B (kq (by decide) : kd 161 = 13 ∧ 161 < NN) rfl rfl hiX3 0 (by decide) (by decide +kernel) rfl dX3_admitVisitor_21 ?_
      refine r_getN (ci := 10) (C := RX6) (T := TX6) (N := 9) S F B (kq (by decide) : kd 0 = 0 ∧ 0 < NN) rfl rfl hiX6 4 (by decide) (by decide) rfl dX3_admitVisitor_24 ?_
      obtain ⟨x5, ex5, ho⟩ := lt_ ho
      refine lv_nm ex5 ?_
      refine lv_istore_n (lv' := [(2, .int x5), (0, .ref (G.2.2 161)), (1, .int a0)]) hx hb dX3_admitVisitor_27 rfl hl (by decide) rfl (fun ls hl => ?_)
      refine lv_iload_n hx hb dX3_admitVisitor_28 rfl (lv_at hl 0 rfl) ?_
      refine lv_iconst (v := 5) hx hb dX3_admitVisitor_29 (by decide) ?_
      refine lv_icmp_lt (tgt := 44) hx hb dX3_admitVisitor_30 (by decide) (fun c6 => ?_) (fun c6 => ?_)
      · have ho := ip_ c6 ho
        refine lv_aload_n hx hb dX3_admitVisitor_44 rfl (lv_at hl 1 rfl) ?_
        refine r_get (ci := 7) (C := RX3) (T := TX3) (N := 3) S F B (kq (by decide) : kd 161 = 13 ∧ 161 < NN) rfl rfl hiX3 1 (by decide) (by decide +kernel) rfl dX3_admitVisitor_45 ?_
        refine lv_iconst (v := 0) hx hb dX3_admitVisitor_48 (by decide) ?_
        refine lv_bipush (v := 15) hx hb dX3_admitVisitor_49 (by decide) ?_
        obtain ⟨q7, σ8, hq7, ho⟩ := bnm_ ho
        refine k_iV (As := [.int 0, .int 15]) (rest := []) S F B (c_X8_hoursByDistance l G σ _ 0 15 hq7) (kq (by decide) : kd 158 = 11 ∧ 158 < NN) rfl rfl (cwV 2 hts gX3_admitVisitor_X8_hoursByDistance rfl rfl rfl (by decide +kernel) ⟨Nat.le_of_ble_eq_true rfl, Nat.le_of_ble_eq_true rfl⟩) rfl hl.1 rfl (Nat.le_of_ble_eq_true rfl) dX3_admitVisitor_51 ⟨Nat.le_of_ble_eq_true rfl, Nat.le_of_ble_eq_true rfl⟩ (fun H locs B => ?_)
        refine lv_istore_n (lv' := [(3, .int q7), (2, .int x5), (0, .ref (G.2.2 161)), (1, .int a0)]) hx hb dX3_admitVisitor_54 rfl hl (by decide) rfl (fun ls hl => ?_)
        refine lv_iload_n hx hb dX3_admitVisitor_55 rfl (lv_at hl 0 rfl) ?_
        refine lv_sipush (v := 1000) hx hb dX3_admitVisitor_56 (by decide) ?_
        refine lv_icmp_lt (tgt := 83) hx hb dX3_admitVisitor_59 (by decide) (fun c9 => ?_) (fun c9 => ?_)
        · have ho := ip_ c9 ho
          refine lv_aload_n hx hb dX3_admitVisitor_83 rfl (lv_at hl 2 rfl) ?_
          refine r_get (ci := 7) (C := RX3) (T := TX3) (N := 3) S F B (kq (by decide) : kd 161 = 13 ∧ 161 < NN) rfl rfl hiX3 0 (by decide) (by decide +kernel) rfl dX3_admitVisitor_84 ?_
          refine r_getN (ci := 10) (C := RX6) (T := TX6) (N := 9) S F B (kq (by decide) : kd 0 = 0 ∧ 0 < NN) rfl rfl hiX6 2 (by decide) (by decide) rfl dX3_admitVisitor_87 ?_
          refine lv_iload_n hx hb dX3_admitVisitor_90 rfl (lv_at hl 1 rfl) ?_
          obtain ⟨i10, ho⟩ := gd_ ho
          refine r_aald (t := 4) S F B (kq (by decide) : kd 8 = 5 ∧ 8 < NN) rfl rfl i10 dX3_admitVisitor_91 ?_
          refine lv_iload_n hx hb dX3_admitVisitor_92 rfl (lv_at hl 3 rfl) ?_
          refine lv_iload_n hx hb dX3_admitVisitor_93 rfl (lv_at hl 0 rfl) ?_
          obtain ⟨σ12, hq11, ho⟩ := bnd_ ho
          refine k_vV (As := [.int a0, .int q7]) (rest := []) S F B (c_X7_arrive l G σ8 _ (8 + 1 + x5.toNatClampNeg) a0 q7 (kgV i10 : kd (8 + 1 + x5.toNatClampNeg) = 6 ∧ (8 + 1 + x5.toNatClampNeg) < NN) hq11) (kgV i10 : kd (8 + 1 + x5.toNatClampNeg) = 6 ∧ (8 + 1 + x5.toNatClampNeg) < NN) rfl rfl (cwV 2 hts gX3_admitVisitor_X7_arrive rfl rfl rfl (by decide +kernel) ⟨Nat.le_of_ble_eq_true rfl, Nat.le_of_ble_eq_true rfl⟩) rfl hl.1 rfl (Nat.le_of_ble_eq_true rfl) dX3_admitVisitor_94 ⟨Nat.le_of_ble_eq_true rfl, Nat.le_of_ble_eq_true rfl⟩ (fun H locs B => ?_)
          refine lv_aload_n hx hb dX3_admitVisitor_97 rfl (lv_at hl 2 rfl) ?_
          refine r_get (ci := 7) (C := RX3) (T := TX3) (N := 3) S F B (kq (by decide) : kd 161 = 13 ∧ 161 < NN) rfl rfl hiX3 0 (by decide) (by decide +kernel) rfl dX3_admitVisitor_98 ?_
          refine lv_dup hx hb dX3_admitVisitor_101 rfl ?_
          refine r_getN (ci := 10) (C := RX6) (T := TX6) (N := 9) S F B (kq (by decide) : kd 0 = 0 ∧ 0 < NN) rfl rfl hiX6 4 (by decide) (by decide) rfl dX3_admitVisitor_102 ?_
          refine lv_iconst (v := 1) hx hb dX3_admitVisitor_105 (by decide) ?_
          refine lv_iadd hx hb dX3_admitVisitor_106 ?_
          refine r_putN (ci := 10) (C := RX6) (T := TX6) (N := 9) (ty := .int) S F B tyX6 tyX6_ok nmX6 (kq (by decide) : kd 0 = 0 ∧ 0 < NN) (fun _ => rfl) rfl hiX6 4 (by decide) (by decide) rfl rfl rfl rfl (fun _ => Nat.le_of_ble_eq_true rfl) (fun _ => rfl) dX3_admitVisitor_107 (fun H locs B => ?_)
          obtain ⟨σ13, eσ13, ho⟩ := lt_ ho
          rw [← eσ13] at B
          refine lv_aload_n hx hb dX3_admitVisitor_110 rfl (lv_at hl 2 rfl) ?_
          refine r_get (ci := 7) (C := RX3) (T := TX3) (N := 3) S F B (kq (by decide) : kd 161 = 13 ∧ 161 < NN) rfl rfl hiX3 0 (by decide) (by decide +kernel) rfl dX3_admitVisitor_111 ?_
          refine lv_dup hx hb dX3_admitVisitor_114 rfl ?_
          refine r_getN (ci := 10) (C := RX6) (T := TX6) (N := 9) S F B (kq (by decide) : kd 0 = 0 ∧ 0 < NN) rfl rfl hiX6 7 (by decide) (by decide) rfl dX3_admitVisitor_115 ?_
          refine lv_iload_n hx hb dX3_admitVisitor_118 rfl (lv_at hl 3 rfl) ?_
          refine lv_iadd hx hb dX3_admitVisitor_119 ?_
          refine r_putN (ci := 10) (C := RX6) (T := TX6) (N := 9) (ty := .int) S F B tyX6 tyX6_ok nmX6 (kq (by decide) : kd 0 = 0 ∧ 0 < NN) (fun _ => rfl) rfl hiX6 7 (by decide) (by decide) rfl rfl rfl rfl (fun _ => Nat.le_of_ble_eq_true rfl) (fun _ => rfl) dX3_admitVisitor_120 (fun H locs B => ?_)
          obtain ⟨σ14, eσ14, ho⟩ := lt_ ho
          rw [← eσ14] at B
          refine lv_iload_n hx hb dX3_admitVisitor_123 rfl (lv_at hl 1 rfl) ?_
          cases ho
          exact e_i B hx hb hr hlocks rfl rfl dX3_admitVisitor_124
        · have ho := in_ c9 ho
          refine lv_aload_n hx hb dX3_admitVisitor_62 rfl (lv_at hl 2 rfl) ?_
          refine r_get (ci := 7) (C := RX3) (T := TX3) (N := 3) S F B (kq (by decide) : kd 161 = 13 ∧ 161 < NN) rfl rfl hiX3 2 (by decide) (by decide +kernel) rfl dX3_admitVisitor_63 ?_
          refine lv_bipush (v := 6) hx hb dX3_admitVisitor_66 (by decide) ?_
          refine lv_aload_n hx hb dX3_admitVisitor_68 rfl (lv_at hl 2 rfl) ?_
          refine r_get (ci := 7) (C := RX3) (T := TX3) (N := 3) S F B (kq (by decide) : kd 161 = 13 ∧ 161 < NN) rfl rfl hiX3 1 (by decide) (by decide +kernel) rfl dX3_admitVisitor_69 ?_
          refine lv_iconst (v := 0) hx hb dX3_admitVisitor_72 (by decide) ?_
          obtain ⟨q15, hq15, ho⟩ := bnd_ ho
          refine k_iV (As := [.int 0]) (rest := [.int 6, .ref (G.2.2 157)]) S F B (c_X8_cellsReached l G σ8 _ 0 hq15) (kq (by decide) : kd 158 = 11 ∧ 158 < NN) rfl rfl (cwV 1 hts gX3_admitVisitor_X8_cellsReached rfl rfl rfl (by decide +kernel) ⟨Nat.le_of_ble_eq_true rfl, Nat.le_of_ble_eq_true rfl⟩) rfl hl.1 rfl (Nat.le_of_ble_eq_true rfl) dX3_admitVisitor_73 ⟨Nat.le_of_ble_eq_true rfl, Nat.le_of_ble_eq_true rfl⟩ (fun H locs B => ?_)
          obtain ⟨q16, hq16, ho⟩ := bnd_ ho
          refine k_iS (As := [.int q15]) (rest := [.int 6, .ref (G.2.2 157)]) S F B (c_J6_bitCount_0f7a4 l G σ8 _ q15 hq16) (va_cwS 1 hts gX3_admitVisitor_J6_bitCount_0f7a4 rfl rfl rfl (by decide +kernel) ⟨Nat.le_of_ble_eq_true rfl, Nat.le_of_ble_eq_true rfl⟩) rfl hl.1 rfl (Nat.le_of_ble_eq_true rfl) dX3_admitVisitor_76 ⟨Nat.le_of_ble_eq_true rfl, Nat.le_of_ble_eq_true rfl⟩ (fun H locs B => ?_)
          obtain ⟨q17, σ18, hq17, ho⟩ := bnm_ ho
          refine k_iV (As := [.int 6, .int q16]) (rest := []) S F B (c_X5_because l G σ8 _ 6 q16 hq17) (kq (by decide) : kd 157 = 10 ∧ 157 < NN) rfl rfl (cwV 2 hts gX3_admitVisitor_X5_because rfl rfl rfl (by decide +kernel) ⟨Nat.le_of_ble_eq_true rfl, Nat.le_of_ble_eq_true rfl⟩) rfl hl.1 rfl (Nat.le_of_ble_eq_true rfl) dX3_admitVisitor_79 ⟨Nat.le_of_ble_eq_true rfl, Nat.le_of_ble_eq_true rfl⟩ (fun H locs B => ?_)
          cases ho
          exact e_i B hx hb hr hlocks rfl rfl dX3_admitVisitor_82
      · have ho := in_ c6 ho
        refine lv_aload_n hx hb dX3_admitVisitor_33 rfl (lv_at hl 1 rfl) ?_
        refine r_get (ci := 7) (C := RX3) (T := TX3) (N := 3) S F B (kq (by decide) : kd 161 = 13 ∧ 161 < NN) rfl rfl hiX3 2 (by decide) (by decide +kernel) rfl dX3_admitVisitor_34 ?_
        refine lv_bipush (v := 13) hx hb dX3_admitVisitor_37 (by decide) ?_
        refine lv_iconst (v := 5) hx hb dX3_admitVisitor_39 (by decide) ?_
        obtain ⟨q19, σ20, hq19, ho⟩ := bnm_ ho
        refine k_iV (As := [.int 13, .int 5]) (rest := []) S F B (c_X5_because l G σ _ 13 5 hq19) (kq (by decide) : kd 157 = 10 ∧ 157 < NN) rfl rfl (cwV 2 hts gX3_admitVisitor_X5_because rfl rfl rfl (by decide +kernel) ⟨Nat.le_of_ble_eq_true rfl, Nat.le_of_ble_eq_true rfl⟩) rfl hl.1 rfl (Nat.le_of_ble_eq_true rfl) dX3_admitVisitor_40 ⟨Nat.le_of_ble_eq_true rfl, Nat.le_of_ble_eq_true rfl⟩ (fun H locs B => ?_)
        cases ho
        exact e_i B hx hb hr hlocks rfl rfl dX3_admitVisitor_43
    · have ho := in_ c4 ho
      refine lv_aload_n hx hb dX3_admitVisitor_10 rfl (lv_at hl 0 rfl) ?_
      refine r_get (ci := 7) (C := RX3) (T := TX3) (N := 3) S F B (kq (by decide) : kd 161 = 13 ∧ 161 < NN) rfl rfl hiX3 2 (by decide) (by decide +kernel) rfl dX3_admitVisitor_11 ?_
      refine lv_iconst (v := 1) hx hb dX3_admitVisitor_14 (by decide) ?_
      refine lv_iconst (v := 0) hx hb dX3_admitVisitor_15 (by decide) ?_
      obtain ⟨q21, σ22, hq21, ho⟩ := bnm_ ho
      refine k_iV (As := [.int 1, .int 0]) (rest := []) S F B (c_X5_because l G σ _ 1 0 hq21) (kq (by decide) : kd 157 = 10 ∧ 157 < NN) rfl rfl (cwV 2 hts gX3_admitVisitor_X5_because rfl rfl rfl (by decide +kernel) ⟨Nat.le_of_ble_eq_true rfl, Nat.le_of_ble_eq_true rfl⟩) rfl hl.1 rfl (Nat.le_of_ble_eq_true rfl) dX3_admitVisitor_16 ⟨Nat.le_of_ble_eq_true rfl, Nat.le_of_ble_eq_true rfl⟩ (fun H locs B => ?_)
      cases ho
      exact e_i B hx hb hr hlocks rfl rfl dX3_admitVisitor_19

set_option maxHeartbeats 4000000 in
set_option maxRecDepth 100000 in
theorem c_X3_giveBond (l : Launch) (G : Gd) (σ : Mm) (sz : Nat) (a0 : Int32) (a1 : Int32) (a2 : Int32) {out : Int32 × Mm} (ho : f_X3_giveBond a0 a1 a2 σ = some out) : Met l yX3_giveBond wsX3_giveBond { frames := 1, cells := 0, slots := 0, locals := 22 } (va_Pc [.ref (G.2.2 161), .int a0, .int a1, .int a2] (PW G σ sz)) (Qi G sz out.1 out.2) 0 0 (AA G sz) := by
  refine Met.ofW (cc := cX3_giveBond) (maxL := 7) (ret := (some .int)) (by decide) rfl ?_
  intro p e s m args below meth c s₁ B0 hml hv
  obtain ⟨rfl, hpw⟩ := hv
  have hsz := hpw.1
  subst hsz
  obtain ⟨F, B⟩ := hpw.to
  have hx := B0.exec
  have hb := B0.bytes
  have hr := B0.returns
  have hts := atoms_spec (ws := wsX3_giveBond) B0.pre
  have hown : s.vm.findClass RX3 = some m.cls := findClass_of_methodNamed B0.named
  have hlocks := B0.notSynchronized
  have S : CallFix p m c cX3_giveBond 7 s _ wsX3_giveBond RX3 := ⟨hx, hb, hml, hown, hts⟩
  have hiX1 : ∀ w ∈ u_ws RX1 TX1 4, w ∈ wsX3_giveBond := by decide +kernel
  have hiX3 : ∀ w ∈ u_ws RX3 TX3 3, w ∈ wsX3_giveBond := by decide +kernel
  have hiX6 : ∀ w ∈ u_ws RX6 TX6 9, w ∈ wsX3_giveBond := by decide +kernel
  have hiX7 : ∀ w ∈ u_ws RX7 TX7 8, w ∈ wsX3_giveBond := by decide +kernel
  have hl := lv_entry [.ref (G.2.2 161), .int a0, .int a1, .int a2] (n := 7) (Nat.le_of_ble_eq_true rfl)
  rw [lg_entry_eq]
  generalize (lg_sl [.ref (G.2.2 161), .int a0, .int a1, .int a2] ++ List.replicate (7 - (lg_sl [.ref (G.2.2 161), .int a0, .int a1, .int a2]).length) Slot.unset).toArray = ls at hl ⊢
  have hl : lv_has ls 7 [(0, .ref (G.2.2 161)), (1, .int a0), (2, .int a1), (3, .int a2)] := hl
  unfold f_X3_giveBond at ho
  refine lv_aload_n hx hb dX3_giveBond_0 rfl (lv_at hl 0 rfl) ?_
  refine r_get (ci := 7) (C := RX3) (T := TX3) (N := 3) S F B (kq (by decide) : kd 161 = 13 ∧ 161 < NN) rfl rfl hiX3 0 (by decide) (by decide +kernel) rfl dX3_giveBond_1 ?_
  refine lv_iload_n hx hb dX3_giveBond_4 rfl (lv_at hl 1 rfl) ?_
  obtain ⟨q1, hq1, ho⟩ := bnd_ ho
  refine k_qV (As := [.int a0]) (rest := []) S F B (c_X6_findGardener l G σ _ a0 hq1) (kq (by decide) : kd 0 = 0 ∧ 0 < NN) rfl rfl (cwV 1 hts gX3_giveBond_X6_findGardener rfl rfl rfl (by decide +kernel) ⟨Nat.le_of_ble_eq_true rfl, Nat.le_of_ble_eq_true rfl⟩) rfl hl.1 rfl (Nat.le_of_ble_eq_true rfl) dX3_giveBond_5 ⟨Nat.le_of_ble_eq_true rfl, Nat.le_of_ble_eq_true rfl⟩ (fun H locs B => ?_)
  cases q1 with
  | none =>
    have ho := oc_n ho
    refine lv_astoreN (lv' := [(4, .null), (0, .ref (G.2.2 161)), (1, .int a0), (2, .int a1), (3, .int a2)]) hx hb dX3_giveBond_8 hl (by decide) rfl (fun ls hl => ?_)
    refine lv_aloadN hx hb dX3_giveBond_10 (lv_at hl 0 rfl) ?_
    refine lv_ifnonnullN hx hb dX3_giveBond_12 ?_
    refine lv_aload_n hx hb dX3_giveBond_15 rfl (lv_at hl 1 rfl) ?_
    refine r_get (ci := 7) (C := RX3) (T := TX3) (N := 3) S F B (kq (by decide) : kd 161 = 13 ∧ 161 < NN) rfl rfl hiX3 2 (by decide) (by decide +kernel) rfl dX3_giveBond_16 ?_
    refine lv_iconst (v := 4) hx hb dX3_giveBond_19 (by decide) ?_
    refine lv_aload_n hx hb dX3_giveBond_20 rfl (lv_at hl 1 rfl) ?_
    refine r_get (ci := 7) (C := RX3) (T := TX3) (N := 3) S F B (kq (by decide) : kd 161 = 13 ∧ 161 < NN) rfl rfl hiX3 0 (by decide) (by decide +kernel) rfl dX3_giveBond_21 ?_
    refine r_getN (ci := 10) (C := RX6) (T := TX6) (N := 9) S F B (kq (by decide) : kd 0 = 0 ∧ 0 < NN) rfl rfl hiX6 3 (by decide) (by decide) rfl dX3_giveBond_24 ?_
    obtain ⟨q3, σ4, hq3, ho⟩ := bnm_ ho
    refine k_iV (As := [.int 4, .int (σ 0 3)]) (rest := []) S F B (c_X5_because l G σ _ 4 (σ 0 3) hq3) (kq (by decide) : kd 157 = 10 ∧ 157 < NN) rfl rfl (cwV 2 hts gX3_giveBond_X5_because rfl rfl rfl (by decide +kernel) ⟨Nat.le_of_ble_eq_true rfl, Nat.le_of_ble_eq_true rfl⟩) rfl hl.1 rfl (Nat.le_of_ble_eq_true rfl) dX3_giveBond_27 ⟨Nat.le_of_ble_eq_true rfl, Nat.le_of_ble_eq_true rfl⟩ (fun H locs B => ?_)
    cases ho
    exact e_i B hx hb hr hlocks rfl rfl dX3_giveBond_30
  | some j2 =>
    have ho := oc_s ho
    have hj2 : kd j2 = 4 ∧ j2 < NN := kf_gard hq1
    refine lv_astore (lv' := [(4, .ref (G.2.2 j2)), (0, .ref (G.2.2 161)), (1, .int a0), (2, .int a1), (3, .int a2)]) hx hb dX3_giveBond_8 hl (by decide) rfl (fun ls hl => ?_)
    refine lv_aload hx hb dX3_giveBond_10 (lv_at hl 0 rfl) ?_
    refine lv_ifnonnull (tgt := 31) hx hb dX3_giveBond_12 (by decide) ?_
    refine lv_aload_n hx hb dX3_giveBond_31 rfl (lv_at hl 1 rfl) ?_
    refine r_get (ci := 7) (C := RX3) (T := TX3) (N := 3) S F B (kq (by decide) : kd 161 = 13 ∧ 161 < NN) rfl rfl hiX3 0 (by decide) (by decide +kernel) rfl dX3_giveBond_32 ?_
    refine lv_iload_n hx hb dX3_giveBond_35 rfl (lv_at hl 3 rfl) ?_
    obtain ⟨q5, hq5, ho⟩ := bnd_ ho
    refine k_qV (As := [.int a1]) (rest := []) S F B (c_X6_findVisitor l G σ _ a1 hq5) (kq (by decide) : kd 0 = 0 ∧ 0 < NN) rfl rfl (cwV 1 hts gX3_giveBond_X6_findVisitor rfl rfl rfl (by decide +kernel) ⟨Nat.le_of_ble_eq_true rfl, Nat.le_of_ble_eq_true rfl⟩) rfl hl.1 rfl (Nat.le_of_ble_eq_true rfl) dX3_giveBond_36 ⟨Nat.le_of_ble_eq_true rfl, Nat.le_of_ble_eq_true rfl⟩ (fun H locs B => ?_)
    cases q5 with
    | none =>
      have ho := oc_n ho
      refine lv_astoreN (lv' := [(5, .null), (4, .ref (G.2.2 j2)), (0, .ref (G.2.2 161)), (1, .int a0), (2, .int a1), (3, .int a2)]) hx hb dX3_giveBond_39 hl (by decide) rfl (fun ls hl => ?_)
      refine lv_aloadN hx hb dX3_giveBond_41 (lv_at hl 0 rfl) ?_
      refine lv_ifnonnullN hx hb dX3_giveBond_43 ?_
      refine lv_aload_n hx hb dX3_giveBond_46 rfl (lv_at hl 2 rfl) ?_
      refine r_get (ci := 7) (C := RX3) (T := TX3) (N := 3) S F B (kq (by decide) : kd 161 = 13 ∧ 161 < NN) rfl rfl hiX3 2 (by decide) (by decide +kernel) rfl dX3_giveBond_47 ?_
      refine lv_bipush (v := 7) hx hb dX3_giveBond_50 (by decide) ?_
      refine lv_aload_n hx hb dX3_giveBond_52 rfl (lv_at hl 2 rfl) ?_
      refine r_get (ci := 7) (C := RX3) (T := TX3) (N := 3) S F B (kq (by decide) : kd 161 = 13 ∧ 161 < NN) rfl rfl hiX3 0 (by decide) (by decide +kernel) rfl dX3_giveBond_53 ?_
      refine r_getN (ci := 10) (C := RX6) (T := TX6) (N := 9) S F B (kq (by decide) : kd 0 = 0 ∧ 0 < NN) rfl rfl hiX6 4 (by decide) (by decide) rfl dX3_giveBond_56 ?_
      obtain ⟨q7, σ8, hq7, ho⟩ := bnm_ ho
      refine k_iV (As := [.int 7, .int (σ 0 4)]) (rest := []) S F B (c_X5_because l G σ _ 7 (σ 0 4) hq7) (kq (by decide) : kd 157 = 10 ∧ 157 < NN) rfl rfl (cwV 2 hts gX3_giveBond_X5_because rfl rfl rfl (by decide +kernel) ⟨Nat.le_of_ble_eq_true rfl, Nat.le_of_ble_eq_true rfl⟩) rfl hl.1 rfl (Nat.le_of_ble_eq_true rfl) dX3_giveBond_59 ⟨Nat.le_of_ble_eq_true rfl, Nat.le_of_ble_eq_true rfl⟩ (fun H locs B => ?_)
      cases ho
      exact e_i B hx hb hr hlocks rfl rfl dX3_giveBond_62
    | some j6 =>
      have ho := oc_s ho
      have hj6 : kd j6 = 6 ∧ j6 < NN := kf_vis hq5
      refine lv_astore (lv' := [(5, .ref (G.2.2 j6)), (4, .ref (G.2.2 j2)), (0, .ref (G.2.2 161)), (1, .int a0), (2, .int a1), (3, .int a2)]) hx hb dX3_giveBond_39 hl (by decide) rfl (fun ls hl => ?_)
      refine lv_aload hx hb dX3_giveBond_41 (lv_at hl 0 rfl) ?_
      refine lv_ifnonnull (tgt := 63) hx hb dX3_giveBond_43 (by decide) ?_
      refine lv_iload_n hx hb dX3_giveBond_63 rfl (lv_at hl 5 rfl) ?_
      refine lv_iconst (v := 1) hx hb dX3_giveBond_64 (by decide) ?_
      refine lv_icmp_lt (tgt := 73) hx hb dX3_giveBond_65 (by decide) (fun c9 => ?_) (fun c9 => ?_)
      · have ho := ip_ c9 ho
        refine lv_aload_n hx hb dX3_giveBond_73 rfl (lv_at hl 2 rfl) ?_
        refine r_get (ci := 7) (C := RX3) (T := TX3) (N := 3) S F B (kq (by decide) : kd 161 = 13 ∧ 161 < NN) rfl rfl hiX3 2 (by decide) (by decide +kernel) rfl dX3_giveBond_74 ?_
        refine lv_iconst (v := 1) hx hb dX3_giveBond_77 (by decide) ?_
        refine lv_iconst (v := 0) hx hb dX3_giveBond_78 (by decide) ?_
        obtain ⟨q10, σ11, hq10, ho⟩ := bnm_ ho
        refine k_iV (As := [.int 1, .int 0]) (rest := []) S F B (c_X5_because l G σ _ 1 0 hq10) (kq (by decide) : kd 157 = 10 ∧ 157 < NN) rfl rfl (cwV 2 hts gX3_giveBond_X5_because rfl rfl rfl (by decide +kernel) ⟨Nat.le_of_ble_eq_true rfl, Nat.le_of_ble_eq_true rfl⟩) rfl hl.1 rfl (Nat.le_of_ble_eq_true rfl) dX3_giveBond_79 ⟨Nat.le_of_ble_eq_true rfl, Nat.le_of_ble_eq_true rfl⟩ (fun H locs B => ?_)
        cases ho
        exact e_i B hx hb hr hlocks rfl rfl dX3_giveBond_82
      · have ho := in_ c9 ho
        refine lv_iload_n hx hb dX3_giveBond_68 rfl (lv_at hl 5 rfl) ?_
        refine lv_iconst (v := 5) hx hb dX3_giveBond_69 (by decide) ?_
        refine lv_icmp_le (tgt := 83) hx hb dX3_giveBond_70 (by decide) (fun c12 => ?_) (fun c12 => ?_)
        · have ho := ip_ c12 ho
          refine lv_aload hx hb dX3_giveBond_83 (lv_at hl 0 rfl) ?_
          refine r_getN (ci := 11) (C := RX7) (T := TX7) (N := 8) S F B hj6 rfl rfl hiX7 7 (by decide) (by decide) rfl dX3_giveBond_85 ?_
          refine lv_if_eq (tgt := 106) hx hb dX3_giveBond_88 (by decide) (fun c13 => ?_) (fun c13 => ?_)
          · have ho := ip_ c13 ho
            refine lv_aload hx hb dX3_giveBond_106 (lv_at hl 0 rfl) ?_
            obtain ⟨q14, hq14, ho⟩ := bnd_ ho
            refine k_iV (As := []) (rest := []) S F B (c_X7_hasBond l G σ _ j6 hj6 hq14) hj6 rfl rfl (cwV 0 hts gX3_giveBond_X7_hasBond rfl rfl rfl (by decide +kernel) ⟨Nat.le_of_ble_eq_true rfl, Nat.le_of_ble_eq_true rfl⟩) rfl hl.1 rfl (Nat.le_of_ble_eq_true rfl) dX3_giveBond_108 ⟨Nat.le_of_ble_eq_true rfl, Nat.le_of_ble_eq_true rfl⟩ (fun H locs B => ?_)
            refine lv_if_eq (tgt := 129) hx hb dX3_giveBond_111 (by decide) (fun c15 => ?_) (fun c15 => ?_)
            · have ho := ip_ c15 ho
              refine lv_aload hx hb dX3_giveBond_129 (lv_at hl 0 rfl) ?_
              refine lv_aload_n hx hb dX3_giveBond_131 rfl (lv_at hl 2 rfl) ?_
              refine r_get (ci := 7) (C := RX3) (T := TX3) (N := 3) S F B (kq (by decide) : kd 161 = 13 ∧ 161 < NN) rfl rfl hiX3 0 (by decide) (by decide +kernel) rfl dX3_giveBond_132 ?_
              refine r_getN (ci := 10) (C := RX6) (T := TX6) (N := 9) S F B (kq (by decide) : kd 0 = 0 ∧ 0 < NN) rfl rfl hiX6 5 (by decide) (by decide) rfl dX3_giveBond_135 ?_
              obtain ⟨q16, hq16, ho⟩ := bnd_ ho
              refine k_iV (As := [.int (σ 0 5)]) (rest := []) S F B (c_X7_isIn l G σ _ j6 (σ 0 5) hj6 hq16) hj6 rfl rfl (cwV 1 hts gX3_giveBond_X7_isIn rfl rfl rfl (by decide +kernel) ⟨Nat.le_of_ble_eq_true rfl, Nat.le_of_ble_eq_true rfl⟩) rfl hl.1 rfl (Nat.le_of_ble_eq_true rfl) dX3_giveBond_138 ⟨Nat.le_of_ble_eq_true rfl, Nat.le_of_ble_eq_true rfl⟩ (fun H locs B => ?_)
              refine lv_if_eq (tgt := 161) hx hb dX3_giveBond_141 (by decide) (fun c17 => ?_) (fun c17 => ?_)
              · have ho := ip_ c17 ho
                refine lv_iconst (v := 2) hx hb dX3_giveBond_161 (by decide) ?_
                refine lv_iload_n hx hb dX3_giveBond_162 rfl (lv_at hl 5 rfl) ?_
                refine lv_imul hx hb dX3_giveBond_163 ?_
                obtain ⟨x18, ex18, ho⟩ := lt_ ho
                refine lv_nm ex18 ?_
                refine lv_istore (lv' := [(6, .int x18), (5, .ref (G.2.2 j6)), (4, .ref (G.2.2 j2)), (0, .ref (G.2.2 161)), (1, .int a0), (2, .int a1), (3, .int a2)]) hx hb dX3_giveBond_164 hl (by decide) rfl (fun ls hl => ?_)
                refine lv_aload hx hb dX3_giveBond_166 (lv_at hl 1 rfl) ?_
                refine r_getN (ci := 11) (C := RX7) (T := TX7) (N := 8) S F B hj6 rfl rfl hiX7 0 (by decide) (by decide) rfl dX3_giveBond_168 ?_
                refine lv_iload hx hb dX3_giveBond_171 (lv_at hl 0 rfl) ?_
                refine lv_icmp_ge (tgt := 193) hx hb dX3_giveBond_173 (by decide) (fun c19 => ?_) (fun c19 => ?_)
                · have ho := ip_ c19 ho
                  refine lv_aload hx hb dX3_giveBond_193 (lv_at hl 1 rfl) ?_
                  refine lv_dup hx hb dX3_giveBond_195 rfl ?_
                  refine r_getN (ci := 11) (C := RX7) (T := TX7) (N := 8) S F B hj6 rfl rfl hiX7 0 (by decide) (by decide) rfl dX3_giveBond_196 ?_
                  refine lv_iload hx hb dX3_giveBond_199 (lv_at hl 0 rfl) ?_
                  refine lv_isub hx hb dX3_giveBond_201 ?_
                  refine r_putN (ci := 11) (C := RX7) (T := TX7) (N := 8) (ty := .int) S F B tyX7 tyX7_ok nmX7 hj6 (fun _ => rfl) rfl hiX7 0 (by decide) (by decide) rfl rfl rfl rfl (fun _ => Nat.le_of_ble_eq_true rfl) (fun _ => rfl) dX3_giveBond_202 (fun H locs B => ?_)
                  obtain ⟨σ20, eσ20, ho⟩ := lt_ ho
                  rw [← eσ20] at B
                  refine lv_aload hx hb dX3_giveBond_205 (lv_at hl 1 rfl) ?_
                  refine lv_iload_n hx hb dX3_giveBond_207 rfl (lv_at hl 4 rfl) ?_
                  refine lv_iload_n hx hb dX3_giveBond_208 rfl (lv_at hl 6 rfl) ?_
                  obtain ⟨σ22, hq21, ho⟩ := bnd_ ho
                  refine k_vV (As := [.int a0, .int a2]) (rest := []) S F B (c_X7_takeBond l G σ20 _ j6 a0 a2 hj6 hq21) hj6 rfl rfl (cwV 2 hts gX3_giveBond_X7_takeBond rfl rfl rfl (by decide +kernel) ⟨Nat.le_of_ble_eq_true rfl, Nat.le_of_ble_eq_true rfl⟩) rfl hl.1 rfl (Nat.le_of_ble_eq_true rfl) dX3_giveBond_209 ⟨Nat.le_of_ble_eq_true rfl, Nat.le_of_ble_eq_true rfl⟩ (fun H locs B => ?_)
                  refine lv_aload hx hb dX3_giveBond_212 (lv_at hl 2 rfl) ?_
                  refine lv_dup hx hb dX3_giveBond_214 rfl ?_
                  refine r_getN (ci := 5) (C := RX1) (T := TX1) (N := 4) S F B hj2 rfl rfl hiX1 0 (by decide) (by decide) rfl dX3_giveBond_215 ?_
                  refine lv_iload hx hb dX3_giveBond_218 (lv_at hl 0 rfl) ?_
                  refine lv_iadd hx hb dX3_giveBond_220 ?_
                  refine r_putN (ci := 5) (C := RX1) (T := TX1) (N := 4) (ty := .int) S F B tyX1 tyX1_ok nmX1 hj2 (fun _ => rfl) rfl hiX1 0 (by decide) (by decide) rfl rfl rfl rfl (fun _ => Nat.le_of_ble_eq_true rfl) (fun _ => rfl) dX3_giveBond_221 (fun H locs B => ?_)
                  obtain ⟨σ23, eσ23, ho⟩ := lt_ ho
                  rw [← eσ23] at B
                  refine lv_aload hx hb dX3_giveBond_224 (lv_at hl 2 rfl) ?_
                  refine lv_dup hx hb dX3_giveBond_226 rfl ?_
                  refine r_getN (ci := 5) (C := RX1) (T := TX1) (N := 4) S F B hj2 rfl rfl hiX1 1 (by decide) (by decide) rfl dX3_giveBond_227 ?_
                  refine lv_iload hx hb dX3_giveBond_230 (lv_at hl 0 rfl) ?_
                  refine lv_iadd hx hb dX3_giveBond_232 ?_
                  refine r_putN (ci := 5) (C := RX1) (T := TX1) (N := 4) (ty := .int) S F B tyX1 tyX1_ok nmX1 hj2 (fun _ => rfl) rfl hiX1 1 (by decide) (by decide) rfl rfl rfl rfl (fun _ => Nat.le_of_ble_eq_true rfl) (fun _ => rfl) dX3_giveBond_233 (fun H locs B => ?_)
                  obtain ⟨σ24, eσ24, ho⟩ := lt_ ho
                  rw [← eσ24] at B
                  refine lv_aload hx hb dX3_giveBond_236 (lv_at hl 1 rfl) ?_
                  refine r_getN (ci := 11) (C := RX7) (T := TX7) (N := 8) S F B hj6 rfl rfl hiX7 0 (by decide) (by decide) rfl dX3_giveBond_238 ?_
                  cases ho
                  exact e_i B hx hb hr hlocks rfl rfl dX3_giveBond_241
                · have ho := in_ c19 ho
                  refine lv_aload_n hx hb dX3_giveBond_176 rfl (lv_at hl 3 rfl) ?_
                  refine r_get (ci := 7) (C := RX3) (T := TX3) (N := 3) S F B (kq (by decide) : kd 161 = 13 ∧ 161 < NN) rfl rfl hiX3 2 (by decide) (by decide +kernel) rfl dX3_giveBond_177 ?_
                  refine lv_iconst (v := 5) hx hb dX3_giveBond_180 (by decide) ?_
                  refine lv_iload hx hb dX3_giveBond_181 (lv_at hl 0 rfl) ?_
                  refine lv_aload hx hb dX3_giveBond_183 (lv_at hl 1 rfl) ?_
                  refine r_getN (ci := 11) (C := RX7) (T := TX7) (N := 8) S F B hj6 rfl rfl hiX7 0 (by decide) (by decide) rfl dX3_giveBond_185 ?_
                  refine lv_isub hx hb dX3_giveBond_188 ?_
                  obtain ⟨q25, σ26, hq25, ho⟩ := bnm_ ho
                  refine k_iV (As := [.int 5, .int (x18 - (σ j6 0))]) (rest := []) S F B (c_X5_because l G σ _ 5 (x18 - (σ j6 0)) hq25) (kq (by decide) : kd 157 = 10 ∧ 157 < NN) rfl rfl (cwV 2 hts gX3_giveBond_X5_because rfl rfl rfl (by decide +kernel) ⟨Nat.le_of_ble_eq_true rfl, Nat.le_of_ble_eq_true rfl⟩) rfl hl.1 rfl (Nat.le_of_ble_eq_true rfl) dX3_giveBond_189 ⟨Nat.le_of_ble_eq_true rfl, Nat.le_of_ble_eq_true rfl⟩ (fun H locs B => ?_)
                  cases ho
                  exact e_i B hx hb hr hlocks rfl rfl dX3_giveBond_192
              · have ho := in_ c17 ho
                refine lv_aload_n hx hb dX3_giveBond_144 rfl (lv_at hl 2 rfl) ?_
                refine r_get (ci := 7) (C := RX3) (T := TX3) (N := 3) S F B (kq (by decide) : kd 161 = 13 ∧ 161 < NN) rfl rfl hiX3 2 (by decide) (by decide +kernel) rfl dX3_giveBond_145 ?_
                refine lv_bipush (v := 10) hx hb dX3_giveBond_148 (by decide) ?_
                refine lv_aload_n hx hb dX3_giveBond_150 rfl (lv_at hl 2 rfl) ?_
                refine r_get (ci := 7) (C := RX3) (T := TX3) (N := 3) S F B (kq (by decide) : kd 161 = 13 ∧ 161 < NN) rfl rfl hiX3 0 (by decide) (by decide +kernel) rfl dX3_giveBond_151 ?_
                refine r_getN (ci := 10) (C := RX6) (T := TX6) (N := 9) S F B (kq (by decide) : kd 0 = 0 ∧ 0 < NN) rfl rfl hiX6 5 (by decide) (by decide) rfl dX3_giveBond_154 ?_
                obtain ⟨q27, σ28, hq27, ho⟩ := bnm_ ho
                refine k_iV (As := [.int 10, .int (σ 0 5)]) (rest := []) S F B (c_X5_because l G σ _ 10 (σ 0 5) hq27) (kq (by decide) : kd 157 = 10 ∧ 157 < NN) rfl rfl (cwV 2 hts gX3_giveBond_X5_because rfl rfl rfl (by decide +kernel) ⟨Nat.le_of_ble_eq_true rfl, Nat.le_of_ble_eq_true rfl⟩) rfl hl.1 rfl (Nat.le_of_ble_eq_true rfl) dX3_giveBond_157 ⟨Nat.le_of_ble_eq_true rfl, Nat.le_of_ble_eq_true rfl⟩ (fun H locs B => ?_)
                cases ho
                exact e_i B hx hb hr hlocks rfl rfl dX3_giveBond_160
            · have ho := in_ c15 ho
              refine lv_aload_n hx hb dX3_giveBond_114 rfl (lv_at hl 2 rfl) ?_
              refine r_get (ci := 7) (C := RX3) (T := TX3) (N := 3) S F B (kq (by decide) : kd 161 = 13 ∧ 161 < NN) rfl rfl hiX3 2 (by decide) (by decide +kernel) rfl dX3_giveBond_115 ?_
              refine lv_bipush (v := 8) hx hb dX3_giveBond_118 (by decide) ?_
              refine lv_aload hx hb dX3_giveBond_120 (lv_at hl 0 rfl) ?_
              refine r_getN (ci := 11) (C := RX7) (T := TX7) (N := 8) S F B hj6 rfl rfl hiX7 4 (by decide) (by decide) rfl dX3_giveBond_122 ?_
              obtain ⟨q29, σ30, hq29, ho⟩ := bnm_ ho
              refine k_iV (As := [.int 8, .int (σ j6 4)]) (rest := []) S F B (c_X5_because l G σ _ 8 (σ j6 4) hq29) (kq (by decide) : kd 157 = 10 ∧ 157 < NN) rfl rfl (cwV 2 hts gX3_giveBond_X5_because rfl rfl rfl (by decide +kernel) ⟨Nat.le_of_ble_eq_true rfl, Nat.le_of_ble_eq_true rfl⟩) rfl hl.1 rfl (Nat.le_of_ble_eq_true rfl) dX3_giveBond_125 ⟨Nat.le_of_ble_eq_true rfl, Nat.le_of_ble_eq_true rfl⟩ (fun H locs B => ?_)
              cases ho
              exact e_i B hx hb hr hlocks rfl rfl dX3_giveBond_128
          · have ho := in_ c13 ho
            refine lv_aload_n hx hb dX3_giveBond_91 rfl (lv_at hl 2 rfl) ?_
            refine r_get (ci := 7) (C := RX3) (T := TX3) (N := 3) S F B (kq (by decide) : kd 161 = 13 ∧ 161 < NN) rfl rfl hiX3 2 (by decide) (by decide +kernel) rfl dX3_giveBond_92 ?_
            refine lv_bipush (v := 9) hx hb dX3_giveBond_95 (by decide) ?_
            refine lv_aload hx hb dX3_giveBond_97 (lv_at hl 0 rfl) ?_
            refine r_getN (ci := 11) (C := RX7) (T := TX7) (N := 8) S F B hj6 rfl rfl hiX7 2 (by decide) (by decide) rfl dX3_giveBond_99 ?_
            obtain ⟨q31, σ32, hq31, ho⟩ := bnm_ ho
            refine k_iV (As := [.int 9, .int (σ j6 2)]) (rest := []) S F B (c_X5_because l G σ _ 9 (σ j6 2) hq31) (kq (by decide) : kd 157 = 10 ∧ 157 < NN) rfl rfl (cwV 2 hts gX3_giveBond_X5_because rfl rfl rfl (by decide +kernel) ⟨Nat.le_of_ble_eq_true rfl, Nat.le_of_ble_eq_true rfl⟩) rfl hl.1 rfl (Nat.le_of_ble_eq_true rfl) dX3_giveBond_102 ⟨Nat.le_of_ble_eq_true rfl, Nat.le_of_ble_eq_true rfl⟩ (fun H locs B => ?_)
            cases ho
            exact e_i B hx hb hr hlocks rfl rfl dX3_giveBond_105
        · have ho := in_ c12 ho
          refine lv_aload_n hx hb dX3_giveBond_73 rfl (lv_at hl 2 rfl) ?_
          refine r_get (ci := 7) (C := RX3) (T := TX3) (N := 3) S F B (kq (by decide) : kd 161 = 13 ∧ 161 < NN) rfl rfl hiX3 2 (by decide) (by decide +kernel) rfl dX3_giveBond_74 ?_
          refine lv_iconst (v := 1) hx hb dX3_giveBond_77 (by decide) ?_
          refine lv_iconst (v := 0) hx hb dX3_giveBond_78 (by decide) ?_
          obtain ⟨q33, σ34, hq33, ho⟩ := bnm_ ho
          refine k_iV (As := [.int 1, .int 0]) (rest := []) S F B (c_X5_because l G σ _ 1 0 hq33) (kq (by decide) : kd 157 = 10 ∧ 157 < NN) rfl rfl (cwV 2 hts gX3_giveBond_X5_because rfl rfl rfl (by decide +kernel) ⟨Nat.le_of_ble_eq_true rfl, Nat.le_of_ble_eq_true rfl⟩) rfl hl.1 rfl (Nat.le_of_ble_eq_true rfl) dX3_giveBond_79 ⟨Nat.le_of_ble_eq_true rfl, Nat.le_of_ble_eq_true rfl⟩ (fun H locs B => ?_)
          cases ho
          exact e_i B hx hb hr hlocks rfl rfl dX3_giveBond_82

set_option maxHeartbeats 4000000 in
set_option maxRecDepth 100000 in
theorem c_X3_leaveMaze (l : Launch) (G : Gd) (σ : Mm) (sz : Nat) (o0 : Nat) (ho0 : kd o0 = 6 ∧ o0 < NN) {out : Mm} (ho : f_X3_leaveMaze o0 σ = some out) : Met l yX3_leaveMaze wsX3_leaveMaze { frames := 3, cells := 0, slots := 0, locals := 74 } (va_Pc [.ref (G.2.2 161), .ref (G.2.2 o0)] (PW G σ sz)) (Qv G sz out) 0 0 (AA G sz) := by
  refine Met.ofW (cc := cX3_leaveMaze) (maxL := 4) (ret := none) (by decide) rfl ?_
  intro p e s m args below meth c s₁ B0 hml hv
  obtain ⟨rfl, hpw⟩ := hv
  have hsz := hpw.1
  subst hsz
  obtain ⟨F, B⟩ := hpw.to
  have hx := B0.exec
  have hb := B0.bytes
  have hr := B0.returns
  have hts := atoms_spec (ws := wsX3_leaveMaze) B0.pre
  have hown : s.vm.findClass RX3 = some m.cls := findClass_of_methodNamed B0.named
  have hlocks := B0.notSynchronized
  have S : CallFix p m c cX3_leaveMaze 4 s _ wsX3_leaveMaze RX3 := ⟨hx, hb, hml, hown, hts⟩
  have hiX1 : ∀ w ∈ u_ws RX1 TX1 4, w ∈ wsX3_leaveMaze := by decide +kernel
  have hiX3 : ∀ w ∈ u_ws RX3 TX3 3, w ∈ wsX3_leaveMaze := by decide +kernel
  have hiX7 : ∀ w ∈ u_ws RX7 TX7 8, w ∈ wsX3_leaveMaze := by decide +kernel
  have hl := lv_entry [.ref (G.2.2 161), .ref (G.2.2 o0)] (n := 4) (Nat.le_of_ble_eq_true rfl)
  rw [lg_entry_eq]
  generalize (lg_sl [.ref (G.2.2 161), .ref (G.2.2 o0)] ++ List.replicate (4 - (lg_sl [.ref (G.2.2 161), .ref (G.2.2 o0)]).length) Slot.unset).toArray = ls at hl ⊢
  have hl : lv_has ls 4 [(0, .ref (G.2.2 161)), (1, .ref (G.2.2 o0))] := hl
  unfold f_X3_leaveMaze at ho
  refine lv_aload_n hx hb dX3_leaveMaze_0 rfl (lv_at hl 0 rfl) ?_
  refine r_get (ci := 7) (C := RX3) (T := TX3) (N := 3) S F B (kq (by decide) : kd 161 = 13 ∧ 161 < NN) rfl rfl hiX3 0 (by decide) (by decide +kernel) rfl dX3_leaveMaze_1 ?_
  refine lv_aload_n hx hb dX3_leaveMaze_4 rfl (lv_at hl 1 rfl) ?_
  refine r_getN (ci := 11) (C := RX7) (T := TX7) (N := 8) S F B ho0 rfl rfl hiX7 4 (by decide) (by decide) rfl dX3_leaveMaze_5 ?_
  obtain ⟨q1, hq1, ho⟩ := bnd_ ho
  refine k_qV (As := [.int (σ o0 4)]) (rest := []) S F B (c_X6_findGardener l G σ _ (σ o0 4) hq1) (kq (by decide) : kd 0 = 0 ∧ 0 < NN) rfl rfl (cwV 1 hts gX3_leaveMaze_X6_findGardener rfl rfl rfl (by decide +kernel) ⟨Nat.le_of_ble_eq_true rfl, Nat.le_of_ble_eq_true rfl⟩) rfl hl.1 rfl (Nat.le_of_ble_eq_true rfl) dX3_leaveMaze_8 ⟨Nat.le_of_ble_eq_true rfl, Nat.le_of_ble_eq_true rfl⟩ (fun H locs B => ?_)
  cases q1 with
  | none =>
    have ho := oc_n ho
    refine lv_astore_nN (lv' := [(2, .null), (0, .ref (G.2.2 161)), (1, .ref (G.2.2 o0))]) hx hb dX3_leaveMaze_11 rfl hl (by decide) rfl (fun ls hl => ?_)
    refine lv_aload_nN hx hb dX3_leaveMaze_12 rfl (lv_at hl 0 rfl) ?_
    refine lv_ifnullN (tgt := 59) hx hb dX3_leaveMaze_13 (by decide) ?_
    refine lv_aload_n hx hb dX3_leaveMaze_59 rfl (lv_at hl 2 rfl) ?_
    obtain ⟨σ4, hq3, ho⟩ := bnd_ ho
    refine k_vV (As := []) (rest := []) S F B (c_X7_endBond l G σ _ o0 ho0 hq3) ho0 rfl rfl (cwV 0 hts gX3_leaveMaze_X7_endBond rfl rfl rfl (by decide +kernel) ⟨Nat.le_of_ble_eq_true rfl, Nat.le_of_ble_eq_true rfl⟩) rfl hl.1 rfl (Nat.le_of_ble_eq_true rfl) dX3_leaveMaze_60 ⟨Nat.le_of_ble_eq_true rfl, Nat.le_of_ble_eq_true rfl⟩ (fun H locs B => ?_)
    refine lv_aload_n hx hb dX3_leaveMaze_63 rfl (lv_at hl 2 rfl) ?_
    refine lv_iconst (v := 1) hx hb dX3_leaveMaze_64 (by decide) ?_
    refine r_putN (ci := 11) (C := RX7) (T := TX7) (N := 8) (ty := .boolean) S F B tyX7 tyX7_ok nmX7 ho0 (fun _ => rfl) rfl hiX7 7 (by decide) (by decide) rfl rfl rfl rfl (fun _ => Nat.le_of_ble_eq_true rfl) (fun _ => rfl) dX3_leaveMaze_65 (fun H locs B => ?_)
    obtain ⟨σ5, eσ5, ho⟩ := lt_ ho
    rw [← eσ5] at B
    cases ho
    exact e_v B hx hb hr hlocks dX3_leaveMaze_68
  | some j2 =>
    have ho := oc_s ho
    have hj2 : kd j2 = 4 ∧ j2 < NN := kf_gard hq1
    refine lv_astore_n (lv' := [(2, .ref (G.2.2 j2)), (0, .ref (G.2.2 161)), (1, .ref (G.2.2 o0))]) hx hb dX3_leaveMaze_11 rfl hl (by decide) rfl (fun ls hl => ?_)
    refine lv_aload_n hx hb dX3_leaveMaze_12 rfl (lv_at hl 0 rfl) ?_
    refine lv_ifnull hx hb dX3_leaveMaze_13 ?_
    refine lv_aload_n hx hb dX3_leaveMaze_16 rfl (lv_at hl 2 rfl) ?_
    refine lv_iconst (v := 0) hx hb dX3_leaveMaze_17 (by decide) ?_
    obtain ⟨q6, hq6, ho⟩ := bnd_ ho
    refine k_iV (As := [.int 0]) (rest := []) S F B (c_X7_dueAfter l G σ _ o0 0 ho0 hq6) ho0 rfl rfl (cwV 1 hts gX3_leaveMaze_X7_dueAfter rfl rfl rfl (by decide +kernel) ⟨Nat.le_of_ble_eq_true rfl, Nat.le_of_ble_eq_true rfl⟩) rfl hl.1 rfl (Nat.le_of_ble_eq_true rfl) dX3_leaveMaze_18 ⟨Nat.le_of_ble_eq_true rfl, Nat.le_of_ble_eq_true rfl⟩ (fun H locs B => ?_)
    refine lv_aload_n hx hb dX3_leaveMaze_21 rfl (lv_at hl 0 rfl) ?_
    refine r_getN (ci := 5) (C := RX1) (T := TX1) (N := 4) S F B hj2 rfl rfl hiX1 0 (by decide) (by decide) rfl dX3_leaveMaze_22 ?_
    refine va_mmin hx hb (hml.trans hl.1.symm) hown (hts _ (by decide +kernel)) (hts _ (by decide +kernel)) (hts _ (by decide +kernel)) (hts _ (by decide +kernel)) (Nat.le_of_ble_eq_true rfl) (Nat.le_of_ble_eq_true rfl) (Nat.le_of_ble_eq_true rfl) (Nat.le_of_ble_eq_true rfl) dX3_leaveMaze_25 ?_
    obtain ⟨x7, ex7, ho⟩ := lt_ ho
    refine lv_nm ex7 ?_
    refine lv_istore_n (lv' := [(3, .int x7), (2, .ref (G.2.2 j2)), (0, .ref (G.2.2 161)), (1, .ref (G.2.2 o0))]) hx hb dX3_leaveMaze_28 rfl hl (by decide) rfl (fun ls hl => ?_)
    refine lv_aload_n hx hb dX3_leaveMaze_29 rfl (lv_at hl 1 rfl) ?_
    refine lv_dup hx hb dX3_leaveMaze_30 rfl ?_
    refine r_getN (ci := 5) (C := RX1) (T := TX1) (N := 4) S F B hj2 rfl rfl hiX1 0 (by decide) (by decide) rfl dX3_leaveMaze_31 ?_
    refine lv_iload_n hx hb dX3_leaveMaze_34 rfl (lv_at hl 0 rfl) ?_
    refine lv_isub hx hb dX3_leaveMaze_35 ?_
    refine r_putN (ci := 5) (C := RX1) (T := TX1) (N := 4) (ty := .int) S F B tyX1 tyX1_ok nmX1 hj2 (fun _ => rfl) rfl hiX1 0 (by decide) (by decide) rfl rfl rfl rfl (fun _ => Nat.le_of_ble_eq_true rfl) (fun _ => rfl) dX3_leaveMaze_36 (fun H locs B => ?_)
    obtain ⟨σ8, eσ8, ho⟩ := lt_ ho
    rw [← eσ8] at B
    refine lv_aload_n hx hb dX3_leaveMaze_39 rfl (lv_at hl 1 rfl) ?_
    refine lv_dup hx hb dX3_leaveMaze_40 rfl ?_
    refine r_getN (ci := 5) (C := RX1) (T := TX1) (N := 4) S F B hj2 rfl rfl hiX1 2 (by decide) (by decide) rfl dX3_leaveMaze_41 ?_
    refine lv_iload_n hx hb dX3_leaveMaze_44 rfl (lv_at hl 0 rfl) ?_
    refine lv_iadd hx hb dX3_leaveMaze_45 ?_
    refine r_putN (ci := 5) (C := RX1) (T := TX1) (N := 4) (ty := .int) S F B tyX1 tyX1_ok nmX1 hj2 (fun _ => rfl) rfl hiX1 2 (by decide) (by decide) rfl rfl rfl rfl (fun _ => Nat.le_of_ble_eq_true rfl) (fun _ => rfl) dX3_leaveMaze_46 (fun H locs B => ?_)
    obtain ⟨σ9, eσ9, ho⟩ := lt_ ho
    rw [← eσ9] at B
    refine lv_aload_n hx hb dX3_leaveMaze_49 rfl (lv_at hl 3 rfl) ?_
    refine lv_dup hx hb dX3_leaveMaze_50 rfl ?_
    refine r_getN (ci := 11) (C := RX7) (T := TX7) (N := 8) S F B ho0 rfl rfl hiX7 0 (by decide) (by decide) rfl dX3_leaveMaze_51 ?_
    refine lv_iload_n hx hb dX3_leaveMaze_54 rfl (lv_at hl 0 rfl) ?_
    refine lv_iadd hx hb dX3_leaveMaze_55 ?_
    refine r_putN (ci := 11) (C := RX7) (T := TX7) (N := 8) (ty := .int) S F B tyX7 tyX7_ok nmX7 ho0 (fun _ => rfl) rfl hiX7 0 (by decide) (by decide) rfl rfl rfl rfl (fun _ => Nat.le_of_ble_eq_true rfl) (fun _ => rfl) dX3_leaveMaze_56 (fun H locs B => ?_)
    obtain ⟨σ10, eσ10, ho⟩ := lt_ ho
    rw [← eσ10] at B
    refine lv_aload_n hx hb dX3_leaveMaze_59 rfl (lv_at hl 3 rfl) ?_
    obtain ⟨σ12, hq11, ho⟩ := bnd_ ho
    refine k_vV (As := []) (rest := []) S F B (c_X7_endBond l G σ10 _ o0 ho0 hq11) ho0 rfl rfl (cwV 0 hts gX3_leaveMaze_X7_endBond rfl rfl rfl (by decide +kernel) ⟨Nat.le_of_ble_eq_true rfl, Nat.le_of_ble_eq_true rfl⟩) rfl hl.1 rfl (Nat.le_of_ble_eq_true rfl) dX3_leaveMaze_60 ⟨Nat.le_of_ble_eq_true rfl, Nat.le_of_ble_eq_true rfl⟩ (fun H locs B => ?_)
    refine lv_aload_n hx hb dX3_leaveMaze_63 rfl (lv_at hl 3 rfl) ?_
    refine lv_iconst (v := 1) hx hb dX3_leaveMaze_64 (by decide) ?_
    refine r_putN (ci := 11) (C := RX7) (T := TX7) (N := 8) (ty := .boolean) S F B tyX7 tyX7_ok nmX7 ho0 (fun _ => rfl) rfl hiX7 7 (by decide) (by decide) rfl rfl rfl rfl (fun _ => Nat.le_of_ble_eq_true rfl) (fun _ => rfl) dX3_leaveMaze_65 (fun H locs B => ?_)
    obtain ⟨σ13, eσ13, ho⟩ := lt_ ho
    rw [← eσ13] at B
    cases ho
    exact e_v B hx hb hr hlocks dX3_leaveMaze_68

set_option maxHeartbeats 4000000 in
set_option maxRecDepth 100000 in
theorem c_X3_moveVisitor (l : Launch) (G : Gd) (σ : Mm) (sz : Nat) (a0 : Int32) (a1 : Int32) {out : Int32 × Mm} (ho : f_X3_moveVisitor a0 a1 σ = some out) : Met l yX3_moveVisitor wsX3_moveVisitor { frames := 4, cells := 0, slots := 0, locals := 97 } (va_Pc [.ref (G.2.2 161), .int a0, .int a1] (PW G σ sz)) (Qi G sz out.1 out.2) 0 0 (AA G sz) := by
  refine Met.ofW (cc := cX3_moveVisitor) (maxL := 6) (ret := (some .int)) (by decide) rfl ?_
  intro p e s m args below meth c s₁ B0 hml hv
  obtain ⟨rfl, hpw⟩ := hv
  have hsz := hpw.1
  subst hsz
  obtain ⟨F, B⟩ := hpw.to
  have hx := B0.exec
  have hb := B0.bytes
  have hr := B0.returns
  have hts := atoms_spec (ws := wsX3_moveVisitor) B0.pre
  have hown : s.vm.findClass RX3 = some m.cls := findClass_of_methodNamed B0.named
  have hlocks := B0.notSynchronized
  have S : CallFix p m c cX3_moveVisitor 6 s _ wsX3_moveVisitor RX3 := ⟨hx, hb, hml, hown, hts⟩
  have hiX3 : ∀ w ∈ u_ws RX3 TX3 3, w ∈ wsX3_moveVisitor := by decide +kernel
  have hiX6 : ∀ w ∈ u_ws RX6 TX6 9, w ∈ wsX3_moveVisitor := by decide +kernel
  have hiX7 : ∀ w ∈ u_ws RX7 TX7 8, w ∈ wsX3_moveVisitor := by decide +kernel
  have hl := lv_entry [.ref (G.2.2 161), .int a0, .int a1] (n := 6) (Nat.le_of_ble_eq_true rfl)
  rw [lg_entry_eq]
  generalize (lg_sl [.ref (G.2.2 161), .int a0, .int a1] ++ List.replicate (6 - (lg_sl [.ref (G.2.2 161), .int a0, .int a1]).length) Slot.unset).toArray = ls at hl ⊢
  have hl : lv_has ls 6 [(0, .ref (G.2.2 161)), (1, .int a0), (2, .int a1)] := hl
  unfold f_X3_moveVisitor at ho
  refine lv_aload_n hx hb dX3_moveVisitor_0 rfl (lv_at hl 0 rfl) ?_
  refine r_get (ci := 7) (C := RX3) (T := TX3) (N := 3) S F B (kq (by decide) : kd 161 = 13 ∧ 161 < NN) rfl rfl hiX3 0 (by decide) (by decide +kernel) rfl dX3_moveVisitor_1 ?_
  refine lv_iload_n hx hb dX3_moveVisitor_4 rfl (lv_at hl 1 rfl) ?_
  obtain ⟨q1, hq1, ho⟩ := bnd_ ho
  refine k_qV (As := [.int a0]) (rest := []) S F B (c_X6_findVisitor l G σ _ a0 hq1) (kq (by decide) : kd 0 = 0 ∧ 0 < NN) rfl rfl (cwV 1 hts gX3_moveVisitor_X6_findVisitor rfl rfl rfl (by decide +kernel) ⟨Nat.le_of_ble_eq_true rfl, Nat.le_of_ble_eq_true rfl⟩) rfl hl.1 rfl (Nat.le_of_ble_eq_true rfl) dX3_moveVisitor_5 ⟨Nat.le_of_ble_eq_true rfl, Nat.le_of_ble_eq_true rfl⟩ (fun H locs B => ?_)
  cases q1 with
  | none =>
    have ho := oc_n ho
    refine lv_astore_nN (lv' := [(3, .null), (0, .ref (G.2.2 161)), (1, .int a0), (2, .int a1)]) hx hb dX3_moveVisitor_8 rfl hl (by decide) rfl (fun ls hl => ?_)
    refine lv_aload_nN hx hb dX3_moveVisitor_9 rfl (lv_at hl 0 rfl) ?_
    refine lv_ifnonnullN hx hb dX3_moveVisitor_10 ?_
    refine lv_aload_n hx hb dX3_moveVisitor_13 rfl (lv_at hl 1 rfl) ?_
    refine r_get (ci := 7) (C := RX3) (T := TX3) (N := 3) S F B (kq (by decide) : kd 161 = 13 ∧ 161 < NN) rfl rfl hiX3 2 (by decide) (by decide +kernel) rfl dX3_moveVisitor_14 ?_
    refine lv_bipush (v := 7) hx hb dX3_moveVisitor_17 (by decide) ?_
    refine lv_aload_n hx hb dX3_moveVisitor_19 rfl (lv_at hl 1 rfl) ?_
    refine r_get (ci := 7) (C := RX3) (T := TX3) (N := 3) S F B (kq (by decide) : kd 161 = 13 ∧ 161 < NN) rfl rfl hiX3 0 (by decide) (by decide +kernel) rfl dX3_moveVisitor_20 ?_
    refine r_getN (ci := 10) (C := RX6) (T := TX6) (N := 9) S F B (kq (by decide) : kd 0 = 0 ∧ 0 < NN) rfl rfl hiX6 4 (by decide) (by decide) rfl dX3_moveVisitor_23 ?_
    obtain ⟨q3, σ4, hq3, ho⟩ := bnm_ ho
    refine k_iV (As := [.int 7, .int (σ 0 4)]) (rest := []) S F B (c_X5_because l G σ _ 7 (σ 0 4) hq3) (kq (by decide) : kd 157 = 10 ∧ 157 < NN) rfl rfl (cwV 2 hts gX3_moveVisitor_X5_because rfl rfl rfl (by decide +kernel) ⟨Nat.le_of_ble_eq_true rfl, Nat.le_of_ble_eq_true rfl⟩) rfl hl.1 rfl (Nat.le_of_ble_eq_true rfl) dX3_moveVisitor_26 ⟨Nat.le_of_ble_eq_true rfl, Nat.le_of_ble_eq_true rfl⟩ (fun H locs B => ?_)
    cases ho
    exact e_i B hx hb hr hlocks rfl rfl dX3_moveVisitor_29
  | some j2 =>
    have ho := oc_s ho
    have hj2 : kd j2 = 6 ∧ j2 < NN := kf_vis hq1
    refine lv_astore_n (lv' := [(3, .ref (G.2.2 j2)), (0, .ref (G.2.2 161)), (1, .int a0), (2, .int a1)]) hx hb dX3_moveVisitor_8 rfl hl (by decide) rfl (fun ls hl => ?_)
    refine lv_aload_n hx hb dX3_moveVisitor_9 rfl (lv_at hl 0 rfl) ?_
    refine lv_ifnonnull (tgt := 30) hx hb dX3_moveVisitor_10 (by decide) ?_
    refine lv_iload_n hx hb dX3_moveVisitor_30 rfl (lv_at hl 3 rfl) ?_
    refine lv_if_lt (tgt := 39) hx hb dX3_moveVisitor_31 (by decide) (fun c5 => ?_) (fun c5 => ?_)
    · have ho := ip_ c5 ho
      refine lv_aload_n hx hb dX3_moveVisitor_39 rfl (lv_at hl 1 rfl) ?_
      refine r_get (ci := 7) (C := RX3) (T := TX3) (N := 3) S F B (kq (by decide) : kd 161 = 13 ∧ 161 < NN) rfl rfl hiX3 2 (by decide) (by decide +kernel) rfl dX3_moveVisitor_40 ?_
      refine lv_iconst (v := 1) hx hb dX3_moveVisitor_43 (by decide) ?_
      refine lv_iconst (v := 0) hx hb dX3_moveVisitor_44 (by decide) ?_
      obtain ⟨q6, σ7, hq6, ho⟩ := bnm_ ho
      refine k_iV (As := [.int 1, .int 0]) (rest := []) S F B (c_X5_because l G σ _ 1 0 hq6) (kq (by decide) : kd 157 = 10 ∧ 157 < NN) rfl rfl (cwV 2 hts gX3_moveVisitor_X5_because rfl rfl rfl (by decide +kernel) ⟨Nat.le_of_ble_eq_true rfl, Nat.le_of_ble_eq_true rfl⟩) rfl hl.1 rfl (Nat.le_of_ble_eq_true rfl) dX3_moveVisitor_45 ⟨Nat.le_of_ble_eq_true rfl, Nat.le_of_ble_eq_true rfl⟩ (fun H locs B => ?_)
      cases ho
      exact e_i B hx hb hr hlocks rfl rfl dX3_moveVisitor_48
    · have ho := in_ c5 ho
      refine lv_iload_n hx hb dX3_moveVisitor_34 rfl (lv_at hl 3 rfl) ?_
      refine lv_iconst (v := 3) hx hb dX3_moveVisitor_35 (by decide) ?_
      refine lv_icmp_le (tgt := 49) hx hb dX3_moveVisitor_36 (by decide) (fun c8 => ?_) (fun c8 => ?_)
      · have ho := ip_ c8 ho
        refine lv_aload_n hx hb dX3_moveVisitor_49 rfl (lv_at hl 0 rfl) ?_
        refine r_getN (ci := 11) (C := RX7) (T := TX7) (N := 8) S F B hj2 rfl rfl hiX7 7 (by decide) (by decide) rfl dX3_moveVisitor_50 ?_
        refine lv_if_eq (tgt := 70) hx hb dX3_moveVisitor_53 (by decide) (fun c9 => ?_) (fun c9 => ?_)
        · have ho := ip_ c9 ho
          refine lv_aload_n hx hb dX3_moveVisitor_70 rfl (lv_at hl 0 rfl) ?_
          refine r_getN (ci := 11) (C := RX7) (T := TX7) (N := 8) S F B hj2 rfl rfl hiX7 1 (by decide) (by decide) rfl dX3_moveVisitor_71 ?_
          refine lv_iload_n hx hb dX3_moveVisitor_74 rfl (lv_at hl 3 rfl) ?_
          obtain ⟨q10, hq10, ho⟩ := bnd_ ho
          refine k_iS (As := [.int (σ j2 1), .int a1]) (rest := []) S F B (c_X4_cellTowards l G σ _ (σ j2 1) a1 hq10) (va_cwS 2 hts gX3_moveVisitor_X4_cellTowards rfl rfl rfl (by decide +kernel) ⟨Nat.le_of_ble_eq_true rfl, Nat.le_of_ble_eq_true rfl⟩) rfl hl.1 rfl (Nat.le_of_ble_eq_true rfl) dX3_moveVisitor_75 ⟨Nat.le_of_ble_eq_true rfl, Nat.le_of_ble_eq_true rfl⟩ (fun H locs B => ?_)
          refine lv_istore (lv' := [(4, .int q10), (3, .ref (G.2.2 j2)), (0, .ref (G.2.2 161)), (1, .int a0), (2, .int a1)]) hx hb dX3_moveVisitor_78 hl (by decide) rfl (fun ls hl => ?_)
          refine lv_iload hx hb dX3_moveVisitor_80 (lv_at hl 0 rfl) ?_
          refine lv_iconst (v := (-1)) hx hb dX3_moveVisitor_82 (by decide) ?_
          refine lv_icmp_ne (tgt := 100) hx hb dX3_moveVisitor_83 (by decide) (fun c11 => ?_) (fun c11 => ?_)
          · have ho := in_ c11 ho
            refine lv_aload_n hx hb dX3_moveVisitor_100 rfl (lv_at hl 1 rfl) ?_
            refine r_getN (ci := 11) (C := RX7) (T := TX7) (N := 8) S F B hj2 rfl rfl hiX7 1 (by decide) (by decide) rfl dX3_moveVisitor_101 ?_
            refine lv_iload hx hb dX3_moveVisitor_104 (lv_at hl 0 rfl) ?_
            obtain ⟨q12, hq12, ho⟩ := bnd_ ho
            refine k_iS (As := [.int (σ j2 1), .int q10]) (rest := []) S F B (c_X4_hedgeBetween l G σ _ (σ j2 1) q10 hq12) (va_cwS 2 hts gX3_moveVisitor_X4_hedgeBetween rfl rfl rfl (by decide +kernel) ⟨Nat.le_of_ble_eq_true rfl, Nat.le_of_ble_eq_true rfl⟩) rfl hl.1 rfl (Nat.le_of_ble_eq_true rfl) dX3_moveVisitor_106 ⟨Nat.le_of_ble_eq_true rfl, Nat.le_of_ble_eq_true rfl⟩ (fun H locs B => ?_)
            refine lv_istore (lv' := [(5, .int q12), (4, .int q10), (3, .ref (G.2.2 j2)), (0, .ref (G.2.2 161)), (1, .int a0), (2, .int a1)]) hx hb dX3_moveVisitor_109 hl (by decide) rfl (fun ls hl => ?_)
            refine lv_aload_n hx hb dX3_moveVisitor_111 rfl (lv_at hl 3 rfl) ?_
            refine r_get (ci := 7) (C := RX3) (T := TX3) (N := 3) S F B (kq (by decide) : kd 161 = 13 ∧ 161 < NN) rfl rfl hiX3 0 (by decide) (by decide +kernel) rfl dX3_moveVisitor_112 ?_
            refine r_getN (ci := 10) (C := RX6) (T := TX6) (N := 9) S F B (kq (by decide) : kd 0 = 0 ∧ 0 < NN) rfl rfl hiX6 0 (by decide) (by decide) rfl dX3_moveVisitor_115 ?_
            refine lv_iload hx hb dX3_moveVisitor_118 (lv_at hl 0 rfl) ?_
            obtain ⟨q13, hq13, ho⟩ := bnd_ ho
            refine k_iV (As := [.int q12]) (rest := []) S F B (c_X4_isOpen l G σ _ q12 hq13) (kq (by decide) : kd 1 = 1 ∧ 1 < NN) rfl rfl (cwV 1 hts gX3_moveVisitor_X4_isOpen rfl rfl rfl (by decide +kernel) ⟨Nat.le_of_ble_eq_true rfl, Nat.le_of_ble_eq_true rfl⟩) rfl hl.1 rfl (Nat.le_of_ble_eq_true rfl) dX3_moveVisitor_120 ⟨Nat.le_of_ble_eq_true rfl, Nat.le_of_ble_eq_true rfl⟩ (fun H locs B => ?_)
            refine lv_if_ne (tgt := 148) hx hb dX3_moveVisitor_123 (by decide) (fun c14 => ?_) (fun c14 => ?_)
            · have ho := in_ c14 ho
              refine lv_aload_n hx hb dX3_moveVisitor_148 rfl (lv_at hl 2 rfl) ?_
              refine lv_iload hx hb dX3_moveVisitor_149 (lv_at hl 1 rfl) ?_
              refine r_putN (ci := 11) (C := RX7) (T := TX7) (N := 8) (ty := .int) S F B tyX7 tyX7_ok nmX7 hj2 (fun _ => rfl) rfl hiX7 1 (by decide) (by decide) rfl rfl rfl rfl (fun _ => Nat.le_of_ble_eq_true rfl) (fun _ => rfl) dX3_moveVisitor_151 (fun H locs B => ?_)
              obtain ⟨σ15, eσ15, ho⟩ := lt_ ho
              rw [← eσ15] at B
              refine lv_aload_n hx hb dX3_moveVisitor_154 rfl (lv_at hl 2 rfl) ?_
              refine lv_dup hx hb dX3_moveVisitor_155 rfl ?_
              refine r_getN (ci := 11) (C := RX7) (T := TX7) (N := 8) S F B hj2 rfl rfl hiX7 2 (by decide) (by decide) rfl dX3_moveVisitor_156 ?_
              refine lv_iconst (v := 1) hx hb dX3_moveVisitor_159 (by decide) ?_
              refine lv_iadd hx hb dX3_moveVisitor_160 ?_
              refine r_putN (ci := 11) (C := RX7) (T := TX7) (N := 8) (ty := .int) S F B tyX7 tyX7_ok nmX7 hj2 (fun _ => rfl) rfl hiX7 2 (by decide) (by decide) rfl rfl rfl rfl (fun _ => Nat.le_of_ble_eq_true rfl) (fun _ => rfl) dX3_moveVisitor_161 (fun H locs B => ?_)
              obtain ⟨σ16, eσ16, ho⟩ := lt_ ho
              rw [← eσ16] at B
              refine lv_aload_n hx hb dX3_moveVisitor_164 rfl (lv_at hl 3 rfl) ?_
              refine lv_aload_n hx hb dX3_moveVisitor_165 rfl (lv_at hl 2 rfl) ?_
              obtain ⟨σ18, hq17, ho⟩ := bnd_ ho
              refine k_vV (As := [.ref (G.2.2 j2)]) (rest := []) S F B (c_X3_meetIfThere l G σ16 _ j2 hj2 hq17) (kq (by decide) : kd 161 = 13 ∧ 161 < NN) rfl rfl (cwV 1 hts gX3_moveVisitor_X3_meetIfThere rfl rfl rfl (by decide +kernel) ⟨Nat.le_of_ble_eq_true rfl, Nat.le_of_ble_eq_true rfl⟩) rfl hl.1 rfl (Nat.le_of_ble_eq_true rfl) dX3_moveVisitor_166 ⟨Nat.le_of_ble_eq_true rfl, Nat.le_of_ble_eq_true rfl⟩ (fun H locs B => ?_)
              refine lv_iload hx hb dX3_moveVisitor_169 (lv_at hl 1 rfl) ?_
              refine lv_bipush (v := 15) hx hb dX3_moveVisitor_171 (by decide) ?_
              refine lv_icmp_ne (tgt := 181) hx hb dX3_moveVisitor_173 (by decide) (fun c19 => ?_) (fun c19 => ?_)
              · have ho := in_ c19 ho
                refine lv_iload hx hb dX3_moveVisitor_181 (lv_at hl 1 rfl) ?_
                cases ho
                exact e_i B hx hb hr hlocks rfl rfl dX3_moveVisitor_183
              · have ho := ip_ c19 ho
                refine lv_aload_n hx hb dX3_moveVisitor_176 rfl (lv_at hl 3 rfl) ?_
                refine lv_aload_n hx hb dX3_moveVisitor_177 rfl (lv_at hl 2 rfl) ?_
                obtain ⟨σ21, hq20, ho⟩ := bnd_ ho
                refine k_vV (As := [.ref (G.2.2 j2)]) (rest := []) S F B (c_X3_leaveMaze l G σ18 _ j2 hj2 hq20) (kq (by decide) : kd 161 = 13 ∧ 161 < NN) rfl rfl (cwV 1 hts gX3_moveVisitor_X3_leaveMaze rfl rfl rfl (by decide +kernel) ⟨Nat.le_of_ble_eq_true rfl, Nat.le_of_ble_eq_true rfl⟩) rfl hl.1 rfl (Nat.le_of_ble_eq_true rfl) dX3_moveVisitor_178 ⟨Nat.le_of_ble_eq_true rfl, Nat.le_of_ble_eq_true rfl⟩ (fun H locs B => ?_)
                refine lv_iload hx hb dX3_moveVisitor_181 (lv_at hl 1 rfl) ?_
                cases ho
                exact e_i B hx hb hr hlocks rfl rfl dX3_moveVisitor_183
            · have ho := ip_ c14 ho
              refine lv_aload_n hx hb dX3_moveVisitor_126 rfl (lv_at hl 3 rfl) ?_
              refine r_get (ci := 7) (C := RX3) (T := TX3) (N := 3) S F B (kq (by decide) : kd 161 = 13 ∧ 161 < NN) rfl rfl hiX3 2 (by decide) (by decide +kernel) rfl dX3_moveVisitor_127 ?_
              refine lv_bipush (v := 12) hx hb dX3_moveVisitor_130 (by decide) ?_
              refine lv_aload_n hx hb dX3_moveVisitor_132 rfl (lv_at hl 3 rfl) ?_
              refine r_get (ci := 7) (C := RX3) (T := TX3) (N := 3) S F B (kq (by decide) : kd 161 = 13 ∧ 161 < NN) rfl rfl hiX3 0 (by decide) (by decide +kernel) rfl dX3_moveVisitor_133 ?_
              refine r_getN (ci := 10) (C := RX6) (T := TX6) (N := 9) S F B (kq (by decide) : kd 0 = 0 ∧ 0 < NN) rfl rfl hiX6 0 (by decide) (by decide) rfl dX3_moveVisitor_136 ?_
              refine lv_iload hx hb dX3_moveVisitor_139 (lv_at hl 0 rfl) ?_
              obtain ⟨q22, hq22, ho⟩ := bnd_ ho
              refine k_iV (As := [.int q12]) (rest := [.int 12, .ref (G.2.2 157)]) S F B (c_X4_leavesOf l G σ _ q12 hq22) (kq (by decide) : kd 1 = 1 ∧ 1 < NN) rfl rfl (cwV 1 hts gX3_moveVisitor_X4_leavesOf rfl rfl rfl (by decide +kernel) ⟨Nat.le_of_ble_eq_true rfl, Nat.le_of_ble_eq_true rfl⟩) rfl hl.1 rfl (Nat.le_of_ble_eq_true rfl) dX3_moveVisitor_141 ⟨Nat.le_of_ble_eq_true rfl, Nat.le_of_ble_eq_true rfl⟩ (fun H locs B => ?_)
              obtain ⟨q23, σ24, hq23, ho⟩ := bnm_ ho
              refine k_iV (As := [.int 12, .int q22]) (rest := []) S F B (c_X5_because l G σ _ 12 q22 hq23) (kq (by decide) : kd 157 = 10 ∧ 157 < NN) rfl rfl (cwV 2 hts gX3_moveVisitor_X5_because rfl rfl rfl (by decide +kernel) ⟨Nat.le_of_ble_eq_true rfl, Nat.le_of_ble_eq_true rfl⟩) rfl hl.1 rfl (Nat.le_of_ble_eq_true rfl) dX3_moveVisitor_144 ⟨Nat.le_of_ble_eq_true rfl, Nat.le_of_ble_eq_true rfl⟩ (fun H locs B => ?_)
              cases ho
              exact e_i B hx hb hr hlocks rfl rfl dX3_moveVisitor_147
          · have ho := ip_ c11 ho
            refine lv_aload_n hx hb dX3_moveVisitor_86 rfl (lv_at hl 2 rfl) ?_
            refine r_get (ci := 7) (C := RX3) (T := TX3) (N := 3) S F B (kq (by decide) : kd 161 = 13 ∧ 161 < NN) rfl rfl hiX3 2 (by decide) (by decide +kernel) rfl dX3_moveVisitor_87 ?_
            refine lv_bipush (v := 11) hx hb dX3_moveVisitor_90 (by decide) ?_
            refine lv_aload_n hx hb dX3_moveVisitor_92 rfl (lv_at hl 1 rfl) ?_
            refine r_getN (ci := 11) (C := RX7) (T := TX7) (N := 8) S F B hj2 rfl rfl hiX7 1 (by decide) (by decide) rfl dX3_moveVisitor_93 ?_
            obtain ⟨q25, σ26, hq25, ho⟩ := bnm_ ho
            refine k_iV (As := [.int 11, .int (σ j2 1)]) (rest := []) S F B (c_X5_because l G σ _ 11 (σ j2 1) hq25) (kq (by decide) : kd 157 = 10 ∧ 157 < NN) rfl rfl (cwV 2 hts gX3_moveVisitor_X5_because rfl rfl rfl (by decide +kernel) ⟨Nat.le_of_ble_eq_true rfl, Nat.le_of_ble_eq_true rfl⟩) rfl hl.1 rfl (Nat.le_of_ble_eq_true rfl) dX3_moveVisitor_96 ⟨Nat.le_of_ble_eq_true rfl, Nat.le_of_ble_eq_true rfl⟩ (fun H locs B => ?_)
            cases ho
            exact e_i B hx hb hr hlocks rfl rfl dX3_moveVisitor_99
        · have ho := in_ c9 ho
          refine lv_aload_n hx hb dX3_moveVisitor_56 rfl (lv_at hl 1 rfl) ?_
          refine r_get (ci := 7) (C := RX3) (T := TX3) (N := 3) S F B (kq (by decide) : kd 161 = 13 ∧ 161 < NN) rfl rfl hiX3 2 (by decide) (by decide +kernel) rfl dX3_moveVisitor_57 ?_
          refine lv_bipush (v := 9) hx hb dX3_moveVisitor_60 (by decide) ?_
          refine lv_aload_n hx hb dX3_moveVisitor_62 rfl (lv_at hl 0 rfl) ?_
          refine r_getN (ci := 11) (C := RX7) (T := TX7) (N := 8) S F B hj2 rfl rfl hiX7 2 (by decide) (by decide) rfl dX3_moveVisitor_63 ?_
          obtain ⟨q27, σ28, hq27, ho⟩ := bnm_ ho
          refine k_iV (As := [.int 9, .int (σ j2 2)]) (rest := []) S F B (c_X5_because l G σ _ 9 (σ j2 2) hq27) (kq (by decide) : kd 157 = 10 ∧ 157 < NN) rfl rfl (cwV 2 hts gX3_moveVisitor_X5_because rfl rfl rfl (by decide +kernel) ⟨Nat.le_of_ble_eq_true rfl, Nat.le_of_ble_eq_true rfl⟩) rfl hl.1 rfl (Nat.le_of_ble_eq_true rfl) dX3_moveVisitor_66 ⟨Nat.le_of_ble_eq_true rfl, Nat.le_of_ble_eq_true rfl⟩ (fun H locs B => ?_)
          cases ho
          exact e_i B hx hb hr hlocks rfl rfl dX3_moveVisitor_69
      · have ho := in_ c8 ho
        refine lv_aload_n hx hb dX3_moveVisitor_39 rfl (lv_at hl 1 rfl) ?_
        refine r_get (ci := 7) (C := RX3) (T := TX3) (N := 3) S F B (kq (by decide) : kd 161 = 13 ∧ 161 < NN) rfl rfl hiX3 2 (by decide) (by decide +kernel) rfl dX3_moveVisitor_40 ?_
        refine lv_iconst (v := 1) hx hb dX3_moveVisitor_43 (by decide) ?_
        refine lv_iconst (v := 0) hx hb dX3_moveVisitor_44 (by decide) ?_
        obtain ⟨q29, σ30, hq29, ho⟩ := bnm_ ho
        refine k_iV (As := [.int 1, .int 0]) (rest := []) S F B (c_X5_because l G σ _ 1 0 hq29) (kq (by decide) : kd 157 = 10 ∧ 157 < NN) rfl rfl (cwV 2 hts gX3_moveVisitor_X5_because rfl rfl rfl (by decide +kernel) ⟨Nat.le_of_ble_eq_true rfl, Nat.le_of_ble_eq_true rfl⟩) rfl hl.1 rfl (Nat.le_of_ble_eq_true rfl) dX3_moveVisitor_45 ⟨Nat.le_of_ble_eq_true rfl, Nat.le_of_ble_eq_true rfl⟩ (fun H locs B => ?_)
        cases ho
        exact e_i B hx hb hr hlocks rfl rfl dX3_moveVisitor_48

set_option maxHeartbeats 4000000 in
set_option maxRecDepth 100000 in
theorem c_X3_restVisitor (l : Launch) (G : Gd) (σ : Mm) (sz : Nat) (a0 : Int32) (a1 : Int32) {out : Int32 × Mm} (ho : f_X3_restVisitor a0 a1 σ = some out) : Met l yX3_restVisitor wsX3_restVisitor { frames := 1, cells := 0, slots := 0, locals := 22 } (va_Pc [.ref (G.2.2 161), .int a0, .int a1] (PW G σ sz)) (Qi G sz out.1 out.2) 0 0 (AA G sz) := by
  refine Met.ofW (cc := cX3_restVisitor) (maxL := 4) (ret := (some .int)) (by decide) rfl ?_
  intro p e s m args below meth c s₁ B0 hml hv
  obtain ⟨rfl, hpw⟩ := hv
  have hsz := hpw.1
  subst hsz
  obtain ⟨F, B⟩ := hpw.to
  have hx := B0.exec
  have hb := B0.bytes
  have hr := B0.returns
  have hts := atoms_spec (ws := wsX3_restVisitor) B0.pre
  have hown : s.vm.findClass RX3 = some m.cls := findClass_of_methodNamed B0.named
  have hlocks := B0.notSynchronized
  have S : CallFix p m c cX3_restVisitor 4 s _ wsX3_restVisitor RX3 := ⟨hx, hb, hml, hown, hts⟩
  have hiX3 : ∀ w ∈ u_ws RX3 TX3 3, w ∈ wsX3_restVisitor := by decide +kernel
  have hiX6 : ∀ w ∈ u_ws RX6 TX6 9, w ∈ wsX3_restVisitor := by decide +kernel
  have hiX7 : ∀ w ∈ u_ws RX7 TX7 8, w ∈ wsX3_restVisitor := by decide +kernel
  have hl := lv_entry [.ref (G.2.2 161), .int a0, .int a1] (n := 4) (Nat.le_of_ble_eq_true rfl)
  rw [lg_entry_eq]
  generalize (lg_sl [.ref (G.2.2 161), .int a0, .int a1] ++ List.replicate (4 - (lg_sl [.ref (G.2.2 161), .int a0, .int a1]).length) Slot.unset).toArray = ls at hl ⊢
  have hl : lv_has ls 4 [(0, .ref (G.2.2 161)), (1, .int a0), (2, .int a1)] := hl
  unfold f_X3_restVisitor at ho
  refine lv_aload_n hx hb dX3_restVisitor_0 rfl (lv_at hl 0 rfl) ?_
  refine r_get (ci := 7) (C := RX3) (T := TX3) (N := 3) S F B (kq (by decide) : kd 161 = 13 ∧ 161 < NN) rfl rfl hiX3 0 (by decide) (by decide +kernel) rfl dX3_restVisitor_1 ?_
  refine lv_iload_n hx hb dX3_restVisitor_4 rfl (lv_at hl 1 rfl) ?_
  obtain ⟨q1, hq1, ho⟩ := bnd_ ho
  refine k_qV (As := [.int a0]) (rest := []) S F B (c_X6_findVisitor l G σ _ a0 hq1) (kq (by decide) : kd 0 = 0 ∧ 0 < NN) rfl rfl (cwV 1 hts gX3_restVisitor_X6_findVisitor rfl rfl rfl (by decide +kernel) ⟨Nat.le_of_ble_eq_true rfl, Nat.le_of_ble_eq_true rfl⟩) rfl hl.1 rfl (Nat.le_of_ble_eq_true rfl) dX3_restVisitor_5 ⟨Nat.le_of_ble_eq_true rfl, Nat.le_of_ble_eq_true rfl⟩ (fun H locs B => ?_)
  cases q1 with
  | none =>
    have ho := oc_n ho
    refine lv_astore_nN (lv' := [(3, .null), (0, .ref (G.2.2 161)), (1, .int a0), (2, .int a1)]) hx hb dX3_restVisitor_8 rfl hl (by decide) rfl (fun ls hl => ?_)
    refine lv_aload_nN hx hb dX3_restVisitor_9 rfl (lv_at hl 0 rfl) ?_
    refine lv_ifnonnullN hx hb dX3_restVisitor_10 ?_
    refine lv_aload_n hx hb dX3_restVisitor_13 rfl (lv_at hl 1 rfl) ?_
    refine r_get (ci := 7) (C := RX3) (T := TX3) (N := 3) S F B (kq (by decide) : kd 161 = 13 ∧ 161 < NN) rfl rfl hiX3 2 (by decide) (by decide +kernel) rfl dX3_restVisitor_14 ?_
    refine lv_bipush (v := 7) hx hb dX3_restVisitor_17 (by decide) ?_
    refine lv_aload_n hx hb dX3_restVisitor_19 rfl (lv_at hl 1 rfl) ?_
    refine r_get (ci := 7) (C := RX3) (T := TX3) (N := 3) S F B (kq (by decide) : kd 161 = 13 ∧ 161 < NN) rfl rfl hiX3 0 (by decide) (by decide +kernel) rfl dX3_restVisitor_20 ?_
    refine r_getN (ci := 10) (C := RX6) (T := TX6) (N := 9) S F B (kq (by decide) : kd 0 = 0 ∧ 0 < NN) rfl rfl hiX6 4 (by decide) (by decide) rfl dX3_restVisitor_23 ?_
    obtain ⟨q3, σ4, hq3, ho⟩ := bnm_ ho
    refine k_iV (As := [.int 7, .int (σ 0 4)]) (rest := []) S F B (c_X5_because l G σ _ 7 (σ 0 4) hq3) (kq (by decide) : kd 157 = 10 ∧ 157 < NN) rfl rfl (cwV 2 hts gX3_restVisitor_X5_because rfl rfl rfl (by decide +kernel) ⟨Nat.le_of_ble_eq_true rfl, Nat.le_of_ble_eq_true rfl⟩) rfl hl.1 rfl (Nat.le_of_ble_eq_true rfl) dX3_restVisitor_26 ⟨Nat.le_of_ble_eq_true rfl, Nat.le_of_ble_eq_true rfl⟩ (fun H locs B => ?_)
    cases ho
    exact e_i B hx hb hr hlocks rfl rfl dX3_restVisitor_29
  | some j2 =>
    have ho := oc_s ho
    have hj2 : kd j2 = 6 ∧ j2 < NN := kf_vis hq1
    refine lv_astore_n (lv' := [(3, .ref (G.2.2 j2)), (0, .ref (G.2.2 161)), (1, .int a0), (2, .int a1)]) hx hb dX3_restVisitor_8 rfl hl (by decide) rfl (fun ls hl => ?_)
    refine lv_aload_n hx hb dX3_restVisitor_9 rfl (lv_at hl 0 rfl) ?_
    refine lv_ifnonnull (tgt := 30) hx hb dX3_restVisitor_10 (by decide) ?_
    refine lv_iload_n hx hb dX3_restVisitor_30 rfl (lv_at hl 3 rfl) ?_
    refine lv_iconst (v := 1) hx hb dX3_restVisitor_31 (by decide) ?_
    refine lv_icmp_lt (tgt := 41) hx hb dX3_restVisitor_32 (by decide) (fun c5 => ?_) (fun c5 => ?_)
    · have ho := ip_ c5 ho
      refine lv_aload_n hx hb dX3_restVisitor_41 rfl (lv_at hl 1 rfl) ?_
      refine r_get (ci := 7) (C := RX3) (T := TX3) (N := 3) S F B (kq (by decide) : kd 161 = 13 ∧ 161 < NN) rfl rfl hiX3 2 (by decide) (by decide +kernel) rfl dX3_restVisitor_42 ?_
      refine lv_iconst (v := 1) hx hb dX3_restVisitor_45 (by decide) ?_
      refine lv_iconst (v := 0) hx hb dX3_restVisitor_46 (by decide) ?_
      obtain ⟨q6, σ7, hq6, ho⟩ := bnm_ ho
      refine k_iV (As := [.int 1, .int 0]) (rest := []) S F B (c_X5_because l G σ _ 1 0 hq6) (kq (by decide) : kd 157 = 10 ∧ 157 < NN) rfl rfl (cwV 2 hts gX3_restVisitor_X5_because rfl rfl rfl (by decide +kernel) ⟨Nat.le_of_ble_eq_true rfl, Nat.le_of_ble_eq_true rfl⟩) rfl hl.1 rfl (Nat.le_of_ble_eq_true rfl) dX3_restVisitor_47 ⟨Nat.le_of_ble_eq_true rfl, Nat.le_of_ble_eq_true rfl⟩ (fun H locs B => ?_)
      cases ho
      exact e_i B hx hb hr hlocks rfl rfl dX3_restVisitor_50
    · have ho := in_ c5 ho
      refine lv_iload_n hx hb dX3_restVisitor_35 rfl (lv_at hl 3 rfl) ?_
      refine lv_bipush (v := 9) hx hb dX3_restVisitor_36 (by decide) ?_
      refine lv_icmp_le (tgt := 51) hx hb dX3_restVisitor_38 (by decide) (fun c8 => ?_) (fun c8 => ?_)
      · have ho := ip_ c8 ho
        refine lv_aload_n hx hb dX3_restVisitor_51 rfl (lv_at hl 0 rfl) ?_
        refine r_getN (ci := 11) (C := RX7) (T := TX7) (N := 8) S F B hj2 rfl rfl hiX7 7 (by decide) (by decide) rfl dX3_restVisitor_52 ?_
        refine lv_if_eq (tgt := 72) hx hb dX3_restVisitor_55 (by decide) (fun c9 => ?_) (fun c9 => ?_)
        · have ho := ip_ c9 ho
          refine lv_aload_n hx hb dX3_restVisitor_72 rfl (lv_at hl 0 rfl) ?_
          refine lv_dup hx hb dX3_restVisitor_73 rfl ?_
          refine r_getN (ci := 11) (C := RX7) (T := TX7) (N := 8) S F B hj2 rfl rfl hiX7 2 (by decide) (by decide) rfl dX3_restVisitor_74 ?_
          refine lv_iload_n hx hb dX3_restVisitor_77 rfl (lv_at hl 3 rfl) ?_
          refine lv_iadd hx hb dX3_restVisitor_78 ?_
          refine r_putN (ci := 11) (C := RX7) (T := TX7) (N := 8) (ty := .int) S F B tyX7 tyX7_ok nmX7 hj2 (fun _ => rfl) rfl hiX7 2 (by decide) (by decide) rfl rfl rfl rfl (fun _ => Nat.le_of_ble_eq_true rfl) (fun _ => rfl) dX3_restVisitor_79 (fun H locs B => ?_)
          obtain ⟨σ10, eσ10, ho⟩ := lt_ ho
          rw [← eσ10] at B
          refine lv_aload_n hx hb dX3_restVisitor_82 rfl (lv_at hl 0 rfl) ?_
          refine r_getN (ci := 11) (C := RX7) (T := TX7) (N := 8) S F B hj2 rfl rfl hiX7 2 (by decide) (by decide) rfl dX3_restVisitor_83 ?_
          cases ho
          exact e_i B hx hb hr hlocks rfl rfl dX3_restVisitor_86
        · have ho := in_ c9 ho
          refine lv_aload_n hx hb dX3_restVisitor_58 rfl (lv_at hl 1 rfl) ?_
          refine r_get (ci := 7) (C := RX3) (T := TX3) (N := 3) S F B (kq (by decide) : kd 161 = 13 ∧ 161 < NN) rfl rfl hiX3 2 (by decide) (by decide +kernel) rfl dX3_restVisitor_59 ?_
          refine lv_bipush (v := 9) hx hb dX3_restVisitor_62 (by decide) ?_
          refine lv_aload_n hx hb dX3_restVisitor_64 rfl (lv_at hl 0 rfl) ?_
          refine r_getN (ci := 11) (C := RX7) (T := TX7) (N := 8) S F B hj2 rfl rfl hiX7 2 (by decide) (by decide) rfl dX3_restVisitor_65 ?_
          obtain ⟨q11, σ12, hq11, ho⟩ := bnm_ ho
          refine k_iV (As := [.int 9, .int (σ j2 2)]) (rest := []) S F B (c_X5_because l G σ _ 9 (σ j2 2) hq11) (kq (by decide) : kd 157 = 10 ∧ 157 < NN) rfl rfl (cwV 2 hts gX3_restVisitor_X5_because rfl rfl rfl (by decide +kernel) ⟨Nat.le_of_ble_eq_true rfl, Nat.le_of_ble_eq_true rfl⟩) rfl hl.1 rfl (Nat.le_of_ble_eq_true rfl) dX3_restVisitor_68 ⟨Nat.le_of_ble_eq_true rfl, Nat.le_of_ble_eq_true rfl⟩ (fun H locs B => ?_)
          cases ho
          exact e_i B hx hb hr hlocks rfl rfl dX3_restVisitor_71
      · have ho := in_ c8 ho
        refine lv_aload_n hx hb dX3_restVisitor_41 rfl (lv_at hl 1 rfl) ?_
        refine r_get (ci := 7) (C := RX3) (T := TX3) (N := 3) S F B (kq (by decide) : kd 161 = 13 ∧ 161 < NN) rfl rfl hiX3 2 (by decide) (by decide +kernel) rfl dX3_restVisitor_42 ?_
        refine lv_iconst (v := 1) hx hb dX3_restVisitor_45 (by decide) ?_
        refine lv_iconst (v := 0) hx hb dX3_restVisitor_46 (by decide) ?_
        obtain ⟨q13, σ14, hq13, ho⟩ := bnm_ ho
        refine k_iV (As := [.int 1, .int 0]) (rest := []) S F B (c_X5_because l G σ _ 1 0 hq13) (kq (by decide) : kd 157 = 10 ∧ 157 < NN) rfl rfl (cwV 2 hts gX3_restVisitor_X5_because rfl rfl rfl (by decide +kernel) ⟨Nat.le_of_ble_eq_true rfl, Nat.le_of_ble_eq_true rfl⟩) rfl hl.1 rfl (Nat.le_of_ble_eq_true rfl) dX3_restVisitor_47 ⟨Nat.le_of_ble_eq_true rfl, Nat.le_of_ble_eq_true rfl⟩ (fun H locs B => ?_)
        cases ho
        exact e_i B hx hb hr hlocks rfl rfl dX3_restVisitor_50
