set_option maxHeartbeats 4000000 in
set_option maxRecDepth 100000 in
theorem c_X3_hedgeOrRefusal (l : Launch) (G : Gd) (σ : Mm) (sz : Nat) (a0 : Int32) (a1 : Int32) {out : Int32 × Mm} (ho : f_X3_hedgeOrRefusal a0 a1 σ = some out) : Met l yX3_hedgeOrRefusal wsX3_hedgeOrRefusal { frames := 2, cells := 0, slots := 0, locals := 56 } (va_Pc [.ref (G.2.2 161), .int a0, .int a1] (PW G σ sz)) (Qi G sz out.1 out.2) 0 0 (AA G sz) := by
  refine Met.ofW (cc := cX3_hedgeOrRefusal) (maxL := 4) (ret := (some .int)) (by decide) rfl ?_
  intro p e s m args below meth c s₁ B0 hml hv
  obtain ⟨rfl, hpw⟩ := hv
  have hsz := hpw.1
  subst hsz
  obtain ⟨F, B⟩ := hpw.to
  have hx := B0.exec
  have hb := B0.bytes
  have hr := B0.returns
  have hts := atoms_spec (ws := wsX3_hedgeOrRefusal) B0.pre
  have hown : s.vm.findClass RX3 = some m.cls := findClass_of_methodNamed B0.named
  have hlocks := B0.notSynchronized
  have S : CallFix p m c cX3_hedgeOrRefusal 4 s _ wsX3_hedgeOrRefusal RX3 := ⟨hx, hb, hml, hown, hts⟩
  have hiX3 : ∀ w ∈ u_ws RX3 TX3 3, w ∈ wsX3_hedgeOrRefusal := by decide +kernel
  have hl := lv_entry [.ref (G.2.2 161), .int a0, .int a1] (n := 4) (Nat.le_of_ble_eq_true rfl)
  rw [lg_entry_eq]
  generalize (lg_sl [.ref (G.2.2 161), .int a0, .int a1] ++ List.replicate (4 - (lg_sl [.ref (G.2.2 161), .int a0, .int a1]).length) Slot.unset).toArray = ls at hl ⊢
  have hl : lv_has ls 4 [(0, .ref (G.2.2 161)), (1, .int a0), (2, .int a1)] := hl
  unfold f_X3_hedgeOrRefusal at ho
  refine lv_iload_n hx hb dX3_hedgeOrRefusal_0 rfl (lv_at hl 1 rfl) ?_
  obtain ⟨q1, hq1, ho⟩ := bnd_ ho
  refine k_iS (As := [.int a0]) (rest := []) S F B (c_X4_isCell l G σ _ a0 hq1) (va_cwS 1 hts gX3_hedgeOrRefusal_X4_isCell rfl rfl rfl (by decide +kernel) ⟨Nat.le_of_ble_eq_true rfl, Nat.le_of_ble_eq_true rfl⟩) rfl hl.1 rfl (Nat.le_of_ble_eq_true rfl) dX3_hedgeOrRefusal_1 ⟨Nat.le_of_ble_eq_true rfl, Nat.le_of_ble_eq_true rfl⟩ (fun H locs B => ?_)
  refine lv_if_eq (tgt := 14) hx hb dX3_hedgeOrRefusal_4 (by decide) (fun c2 => ?_) (fun c2 => ?_)
  · have ho := ip_ c2 ho
    refine lv_aload_n hx hb dX3_hedgeOrRefusal_14 rfl (lv_at hl 0 rfl) ?_
    refine r_get (ci := 7) (C := RX3) (T := TX3) (N := 3) S F B (kq (by decide) : kd 161 = 13 ∧ 161 < NN) rfl rfl hiX3 2 (by decide) (by decide +kernel) rfl dX3_hedgeOrRefusal_15 ?_
    refine lv_iconst (v := 1) hx hb dX3_hedgeOrRefusal_18 (by decide) ?_
    refine lv_iconst (v := 0) hx hb dX3_hedgeOrRefusal_19 (by decide) ?_
    obtain ⟨q3, σ4, hq3, ho⟩ := bnm_ ho
    refine k_iV (As := [.int 1, .int 0]) (rest := []) S F B (c_X5_because l G σ _ 1 0 hq3) (kq (by decide) : kd 157 = 10 ∧ 157 < NN) rfl rfl (cwV 2 hts gX3_hedgeOrRefusal_X5_because rfl rfl rfl (by decide +kernel) ⟨Nat.le_of_ble_eq_true rfl, Nat.le_of_ble_eq_true rfl⟩) rfl hl.1 rfl (Nat.le_of_ble_eq_true rfl) dX3_hedgeOrRefusal_20 ⟨Nat.le_of_ble_eq_true rfl, Nat.le_of_ble_eq_true rfl⟩ (fun H locs B => ?_)
    refine lv_pop hx hb dX3_hedgeOrRefusal_23 rfl ?_
    refine lv_iconst (v := (-1)) hx hb dX3_hedgeOrRefusal_24 (by decide) ?_
    cases ho
    exact e_i B hx hb hr hlocks rfl rfl dX3_hedgeOrRefusal_25
  · have ho := in_ c2 ho
    refine lv_iload_n hx hb dX3_hedgeOrRefusal_7 rfl (lv_at hl 2 rfl) ?_
    obtain ⟨q5, hq5, ho⟩ := bnd_ ho
    refine k_iS (As := [.int a1]) (rest := []) S F B (c_X4_isCell l G σ _ a1 hq5) (va_cwS 1 hts gX3_hedgeOrRefusal_X4_isCell rfl rfl rfl (by decide +kernel) ⟨Nat.le_of_ble_eq_true rfl, Nat.le_of_ble_eq_true rfl⟩) rfl hl.1 rfl (Nat.le_of_ble_eq_true rfl) dX3_hedgeOrRefusal_8 ⟨Nat.le_of_ble_eq_true rfl, Nat.le_of_ble_eq_true rfl⟩ (fun H locs B => ?_)
    refine lv_if_ne (tgt := 26) hx hb dX3_hedgeOrRefusal_11 (by decide) (fun c6 => ?_) (fun c6 => ?_)
    · have ho := in_ c6 ho
      refine lv_iload_n hx hb dX3_hedgeOrRefusal_26 rfl (lv_at hl 1 rfl) ?_
      refine lv_iload_n hx hb dX3_hedgeOrRefusal_27 rfl (lv_at hl 2 rfl) ?_
      obtain ⟨q7, hq7, ho⟩ := bnd_ ho
      refine k_iS (As := [.int a0, .int a1]) (rest := []) S F B (c_X4_hedgeBetween l G σ _ a0 a1 hq7) (va_cwS 2 hts gX3_hedgeOrRefusal_X4_hedgeBetween rfl rfl rfl (by decide +kernel) ⟨Nat.le_of_ble_eq_true rfl, Nat.le_of_ble_eq_true rfl⟩) rfl hl.1 rfl (Nat.le_of_ble_eq_true rfl) dX3_hedgeOrRefusal_28 ⟨Nat.le_of_ble_eq_true rfl, Nat.le_of_ble_eq_true rfl⟩ (fun H locs B => ?_)
      refine lv_istore_n (lv' := [(3, .int q7), (0, .ref (G.2.2 161)), (1, .int a0), (2, .int a1)]) hx hb dX3_hedgeOrRefusal_31 rfl hl (by decide) rfl (fun ls hl => ?_)
      refine lv_iload_n hx hb dX3_hedgeOrRefusal_32 rfl (lv_at hl 0 rfl) ?_
      refine lv_iconst (v := (-1)) hx hb dX3_hedgeOrRefusal_33 (by decide) ?_
      refine lv_icmp_ne (tgt := 51) hx hb dX3_hedgeOrRefusal_34 (by decide) (fun c8 => ?_) (fun c8 => ?_)
      · have ho := in_ c8 ho
        refine lv_iload_n hx hb dX3_hedgeOrRefusal_51 rfl (lv_at hl 0 rfl) ?_
        cases ho
        exact e_i B hx hb hr hlocks rfl rfl dX3_hedgeOrRefusal_52
      · have ho := ip_ c8 ho
        refine lv_aload_n hx hb dX3_hedgeOrRefusal_37 rfl (lv_at hl 1 rfl) ?_
        refine r_get (ci := 7) (C := RX3) (T := TX3) (N := 3) S F B (kq (by decide) : kd 161 = 13 ∧ 161 < NN) rfl rfl hiX3 2 (by decide) (by decide +kernel) rfl dX3_hedgeOrRefusal_38 ?_
        refine lv_iconst (v := 2) hx hb dX3_hedgeOrRefusal_41 (by decide) ?_
        refine lv_iload_n hx hb dX3_hedgeOrRefusal_42 rfl (lv_at hl 2 rfl) ?_
        refine lv_iload_n hx hb dX3_hedgeOrRefusal_43 rfl (lv_at hl 3 rfl) ?_
        refine va_mmax hx hb (hml.trans hl.1.symm) hown (hts _ (by decide +kernel)) (hts _ (by decide +kernel)) (hts _ (by decide +kernel)) (hts _ (by decide +kernel)) (Nat.le_of_ble_eq_true rfl) (Nat.le_of_ble_eq_true rfl) (Nat.le_of_ble_eq_true rfl) (Nat.le_of_ble_eq_true rfl) dX3_hedgeOrRefusal_44 ?_
        obtain ⟨q9, σ10, hq9, ho⟩ := bnm_ ho
        refine k_iV (As := [.int 2, .int (if a0 < a1 then a1 else a0)]) (rest := []) S F B (c_X5_because l G σ _ 2 (if a0 < a1 then a1 else a0) hq9) (kq (by decide) : kd 157 = 10 ∧ 157 < NN) rfl rfl (cwV 2 hts gX3_hedgeOrRefusal_X5_because rfl rfl rfl (by decide +kernel) ⟨Nat.le_of_ble_eq_true rfl, Nat.le_of_ble_eq_true rfl⟩) rfl hl.1 rfl (Nat.le_of_ble_eq_true rfl) dX3_hedgeOrRefusal_47 ⟨Nat.le_of_ble_eq_true rfl, Nat.le_of_ble_eq_true rfl⟩ (fun H locs B => ?_)
        refine lv_pop hx hb dX3_hedgeOrRefusal_50 rfl ?_
        refine lv_iload_n hx hb dX3_hedgeOrRefusal_51 rfl (lv_at hl 0 rfl) ?_
        cases ho
        exact e_i B hx hb hr hlocks rfl rfl dX3_hedgeOrRefusal_52
    · have ho := ip_ c6 ho
      refine lv_aload_n hx hb dX3_hedgeOrRefusal_14 rfl (lv_at hl 0 rfl) ?_
      refine r_get (ci := 7) (C := RX3) (T := TX3) (N := 3) S F B (kq (by decide) : kd 161 = 13 ∧ 161 < NN) rfl rfl hiX3 2 (by decide) (by decide +kernel) rfl dX3_hedgeOrRefusal_15 ?_
      refine lv_iconst (v := 1) hx hb dX3_hedgeOrRefusal_18 (by decide) ?_
      refine lv_iconst (v := 0) hx hb dX3_hedgeOrRefusal_19 (by decide) ?_
      obtain ⟨q11, σ12, hq11, ho⟩ := bnm_ ho
      refine k_iV (As := [.int 1, .int 0]) (rest := []) S F B (c_X5_because l G σ _ 1 0 hq11) (kq (by decide) : kd 157 = 10 ∧ 157 < NN) rfl rfl (cwV 2 hts gX3_hedgeOrRefusal_X5_because rfl rfl rfl (by decide +kernel) ⟨Nat.le_of_ble_eq_true rfl, Nat.le_of_ble_eq_true rfl⟩) rfl hl.1 rfl (Nat.le_of_ble_eq_true rfl) dX3_hedgeOrRefusal_20 ⟨Nat.le_of_ble_eq_true rfl, Nat.le_of_ble_eq_true rfl⟩ (fun H locs B => ?_)
      refine lv_pop hx hb dX3_hedgeOrRefusal_23 rfl ?_
      refine lv_iconst (v := (-1)) hx hb dX3_hedgeOrRefusal_24 (by decide) ?_
      cases ho
      exact e_i B hx hb hr hlocks rfl rfl dX3_hedgeOrRefusal_25

set_option maxHeartbeats 4000000 in
set_option maxRecDepth 100000 in
theorem c_X3_tellLeaves (l : Launch) (G : Gd) (σ : Mm) (sz : Nat) (a0 : Int32) (a1 : Int32) (a2 : Int32) {out : Int32 × Mm} (ho : f_X3_tellLeaves a0 a1 a2 σ = some out) : Met l yX3_tellLeaves wsX3_tellLeaves { frames := 3, cells := 0, slots := 0, locals := 79 } (va_Pc [.ref (G.2.2 161), .int a0, .int a1, .int a2] (PW G σ sz)) (Qi G sz out.1 out.2) 0 0 (AA G sz) := by
  refine Met.ofW (cc := cX3_tellLeaves) (maxL := 6) (ret := (some .int)) (by decide) rfl ?_
  intro p e s m args below meth c s₁ B0 hml hv
  obtain ⟨rfl, hpw⟩ := hv
  have hsz := hpw.1
  subst hsz
  obtain ⟨F, B⟩ := hpw.to
  have hx := B0.exec
  have hb := B0.bytes
  have hr := B0.returns
  have hts := atoms_spec (ws := wsX3_tellLeaves) B0.pre
  have hown : s.vm.findClass RX3 = some m.cls := findClass_of_methodNamed B0.named
  have hlocks := B0.notSynchronized
  have S : CallFix p m c cX3_tellLeaves 6 s _ wsX3_tellLeaves RX3 := ⟨hx, hb, hml, hown, hts⟩
  have hiX3 : ∀ w ∈ u_ws RX3 TX3 3, w ∈ wsX3_tellLeaves := by decide +kernel
  have hiX6 : ∀ w ∈ u_ws RX6 TX6 9, w ∈ wsX3_tellLeaves := by decide +kernel
  have hl := lv_entry [.ref (G.2.2 161), .int a0, .int a1, .int a2] (n := 6) (Nat.le_of_ble_eq_true rfl)
  rw [lg_entry_eq]
  generalize (lg_sl [.ref (G.2.2 161), .int a0, .int a1, .int a2] ++ List.replicate (6 - (lg_sl [.ref (G.2.2 161), .int a0, .int a1, .int a2]).length) Slot.unset).toArray = ls at hl ⊢
  have hl : lv_has ls 6 [(0, .ref (G.2.2 161)), (1, .int a0), (2, .int a1), (3, .int a2)] := hl
  unfold f_X3_tellLeaves at ho
  refine lv_iload_n hx hb dX3_tellLeaves_0 rfl (lv_at hl 3 rfl) ?_
  refine lv_if_lt (tgt := 10) hx hb dX3_tellLeaves_1 (by decide) (fun c1 => ?_) (fun c1 => ?_)
  · have ho := ip_ c1 ho
    refine lv_aload_n hx hb dX3_tellLeaves_10 rfl (lv_at hl 0 rfl) ?_
    refine r_get (ci := 7) (C := RX3) (T := TX3) (N := 3) S F B (kq (by decide) : kd 161 = 13 ∧ 161 < NN) rfl rfl hiX3 2 (by decide) (by decide +kernel) rfl dX3_tellLeaves_11 ?_
    refine lv_iconst (v := 1) hx hb dX3_tellLeaves_14 (by decide) ?_
    refine lv_iconst (v := 0) hx hb dX3_tellLeaves_15 (by decide) ?_
    obtain ⟨q2, σ3, hq2, ho⟩ := bnm_ ho
    refine k_iV (As := [.int 1, .int 0]) (rest := []) S F B (c_X5_because l G σ _ 1 0 hq2) (kq (by decide) : kd 157 = 10 ∧ 157 < NN) rfl rfl (cwV 2 hts gX3_tellLeaves_X5_because rfl rfl rfl (by decide +kernel) ⟨Nat.le_of_ble_eq_true rfl, Nat.le_of_ble_eq_true rfl⟩) rfl hl.1 rfl (Nat.le_of_ble_eq_true rfl) dX3_tellLeaves_16 ⟨Nat.le_of_ble_eq_true rfl, Nat.le_of_ble_eq_true rfl⟩ (fun H locs B => ?_)
    cases ho
    exact e_i B hx hb hr hlocks rfl rfl dX3_tellLeaves_19
  · have ho := in_ c1 ho
    refine lv_iload_n hx hb dX3_tellLeaves_4 rfl (lv_at hl 3 rfl) ?_
    refine lv_bipush (v := 9) hx hb dX3_tellLeaves_5 (by decide) ?_
    refine lv_icmp_le (tgt := 20) hx hb dX3_tellLeaves_7 (by decide) (fun c4 => ?_) (fun c4 => ?_)
    · have ho := ip_ c4 ho
      refine lv_aload_n hx hb dX3_tellLeaves_20 rfl (lv_at hl 0 rfl) ?_
      refine lv_iload_n hx hb dX3_tellLeaves_21 rfl (lv_at hl 1 rfl) ?_
      refine lv_iload_n hx hb dX3_tellLeaves_22 rfl (lv_at hl 2 rfl) ?_
      obtain ⟨q5, σ6, hq5, ho⟩ := bnm_ ho
      refine k_iV (As := [.int a0, .int a1]) (rest := []) S F B (c_X3_hedgeOrRefusal l G σ _ a0 a1 hq5) (kq (by decide) : kd 161 = 13 ∧ 161 < NN) rfl rfl (cwV 2 hts gX3_tellLeaves_X3_hedgeOrRefusal rfl rfl rfl (by decide +kernel) ⟨Nat.le_of_ble_eq_true rfl, Nat.le_of_ble_eq_true rfl⟩) rfl hl.1 rfl (Nat.le_of_ble_eq_true rfl) dX3_tellLeaves_23 ⟨Nat.le_of_ble_eq_true rfl, Nat.le_of_ble_eq_true rfl⟩ (fun H locs B => ?_)
      refine lv_istore (lv' := [(4, .int q5), (0, .ref (G.2.2 161)), (1, .int a0), (2, .int a1), (3, .int a2)]) hx hb dX3_tellLeaves_26 hl (by decide) rfl (fun ls hl => ?_)
      refine lv_iload hx hb dX3_tellLeaves_28 (lv_at hl 0 rfl) ?_
      refine lv_iconst (v := (-1)) hx hb dX3_tellLeaves_30 (by decide) ?_
      refine lv_icmp_ne (tgt := 36) hx hb dX3_tellLeaves_31 (by decide) (fun c7 => ?_) (fun c7 => ?_)
      · have ho := in_ c7 ho
        refine lv_aload_n hx hb dX3_tellLeaves_36 rfl (lv_at hl 1 rfl) ?_
        refine r_get (ci := 7) (C := RX3) (T := TX3) (N := 3) S F B (kq (by decide) : kd 161 = 13 ∧ 161 < NN) rfl rfl hiX3 0 (by decide) (by decide +kernel) rfl dX3_tellLeaves_37 ?_
        refine r_getN (ci := 10) (C := RX6) (T := TX6) (N := 9) S F B (kq (by decide) : kd 0 = 0 ∧ 0 < NN) rfl rfl hiX6 0 (by decide) (by decide) rfl dX3_tellLeaves_40 ?_
        refine lv_iload hx hb dX3_tellLeaves_43 (lv_at hl 0 rfl) ?_
        obtain ⟨q8, hq8, ho⟩ := bnd_ ho
        refine k_iV (As := [.int q5]) (rest := []) S F B (c_X4_leavesOf l G σ6 _ q5 hq8) (kq (by decide) : kd 1 = 1 ∧ 1 < NN) rfl rfl (cwV 1 hts gX3_tellLeaves_X4_leavesOf rfl rfl rfl (by decide +kernel) ⟨Nat.le_of_ble_eq_true rfl, Nat.le_of_ble_eq_true rfl⟩) rfl hl.1 rfl (Nat.le_of_ble_eq_true rfl) dX3_tellLeaves_45 ⟨Nat.le_of_ble_eq_true rfl, Nat.le_of_ble_eq_true rfl⟩ (fun H locs B => ?_)
        refine lv_istore (lv' := [(5, .int q8), (4, .int q5), (0, .ref (G.2.2 161)), (1, .int a0), (2, .int a1), (3, .int a2)]) hx hb dX3_tellLeaves_48 hl (by decide) rfl (fun ls hl => ?_)
        refine lv_iload hx hb dX3_tellLeaves_50 (lv_at hl 0 rfl) ?_
        refine lv_iload_n hx hb dX3_tellLeaves_52 rfl (lv_at hl 5 rfl) ?_
        refine lv_icmp_ne (tgt := 66) hx hb dX3_tellLeaves_53 (by decide) (fun c9 => ?_) (fun c9 => ?_)
        · have ho := in_ c9 ho
          refine lv_aload_n hx hb dX3_tellLeaves_66 rfl (lv_at hl 2 rfl) ?_
          refine r_get (ci := 7) (C := RX3) (T := TX3) (N := 3) S F B (kq (by decide) : kd 161 = 13 ∧ 161 < NN) rfl rfl hiX3 0 (by decide) (by decide +kernel) rfl dX3_tellLeaves_67 ?_
          refine r_getN (ci := 10) (C := RX6) (T := TX6) (N := 9) S F B (kq (by decide) : kd 0 = 0 ∧ 0 < NN) rfl rfl hiX6 0 (by decide) (by decide) rfl dX3_tellLeaves_70 ?_
          refine lv_iload hx hb dX3_tellLeaves_73 (lv_at hl 1 rfl) ?_
          refine lv_iload_n hx hb dX3_tellLeaves_75 rfl (lv_at hl 5 rfl) ?_
          obtain ⟨σ11, hq10, ho⟩ := bnd_ ho
          refine k_vV (As := [.int q5, .int a2]) (rest := []) S F B (c_X4_putLeaves l G σ6 _ q5 a2 hq10) (kq (by decide) : kd 1 = 1 ∧ 1 < NN) rfl rfl (cwV 2 hts gX3_tellLeaves_X4_putLeaves rfl rfl rfl (by decide +kernel) ⟨Nat.le_of_ble_eq_true rfl, Nat.le_of_ble_eq_true rfl⟩) rfl hl.1 rfl (Nat.le_of_ble_eq_true rfl) dX3_tellLeaves_76 ⟨Nat.le_of_ble_eq_true rfl, Nat.le_of_ble_eq_true rfl⟩ (fun H locs B => ?_)
          refine lv_iload hx hb dX3_tellLeaves_79 (lv_at hl 0 rfl) ?_
          cases ho
          exact e_i B hx hb hr hlocks rfl rfl dX3_tellLeaves_81
        · have ho := ip_ c9 ho
          refine lv_aload_n hx hb dX3_tellLeaves_56 rfl (lv_at hl 2 rfl) ?_
          refine r_get (ci := 7) (C := RX3) (T := TX3) (N := 3) S F B (kq (by decide) : kd 161 = 13 ∧ 161 < NN) rfl rfl hiX3 2 (by decide) (by decide +kernel) rfl dX3_tellLeaves_57 ?_
          refine lv_iconst (v := 3) hx hb dX3_tellLeaves_60 (by decide) ?_
          refine lv_iload_n hx hb dX3_tellLeaves_61 rfl (lv_at hl 5 rfl) ?_
          obtain ⟨q12, σ13, hq12, ho⟩ := bnm_ ho
          refine k_iV (As := [.int 3, .int a2]) (rest := []) S F B (c_X5_because l G σ6 _ 3 a2 hq12) (kq (by decide) : kd 157 = 10 ∧ 157 < NN) rfl rfl (cwV 2 hts gX3_tellLeaves_X5_because rfl rfl rfl (by decide +kernel) ⟨Nat.le_of_ble_eq_true rfl, Nat.le_of_ble_eq_true rfl⟩) rfl hl.1 rfl (Nat.le_of_ble_eq_true rfl) dX3_tellLeaves_62 ⟨Nat.le_of_ble_eq_true rfl, Nat.le_of_ble_eq_true rfl⟩ (fun H locs B => ?_)
          cases ho
          exact e_i B hx hb hr hlocks rfl rfl dX3_tellLeaves_65
      · have ho := ip_ c7 ho
        refine lv_iconst (v := (-1)) hx hb dX3_tellLeaves_34 (by decide) ?_
        cases ho
        exact e_i B hx hb hr hlocks rfl rfl dX3_tellLeaves_35
    · have ho := in_ c4 ho
      refine lv_aload_n hx hb dX3_tellLeaves_10 rfl (lv_at hl 0 rfl) ?_
      refine r_get (ci := 7) (C := RX3) (T := TX3) (N := 3) S F B (kq (by decide) : kd 161 = 13 ∧ 161 < NN) rfl rfl hiX3 2 (by decide) (by decide +kernel) rfl dX3_tellLeaves_11 ?_
      refine lv_iconst (v := 1) hx hb dX3_tellLeaves_14 (by decide) ?_
      refine lv_iconst (v := 0) hx hb dX3_tellLeaves_15 (by decide) ?_
      obtain ⟨q14, σ15, hq14, ho⟩ := bnm_ ho
      refine k_iV (As := [.int 1, .int 0]) (rest := []) S F B (c_X5_because l G σ _ 1 0 hq14) (kq (by decide) : kd 157 = 10 ∧ 157 < NN) rfl rfl (cwV 2 hts gX3_tellLeaves_X5_because rfl rfl rfl (by decide +kernel) ⟨Nat.le_of_ble_eq_true rfl, Nat.le_of_ble_eq_true rfl⟩) rfl hl.1 rfl (Nat.le_of_ble_eq_true rfl) dX3_tellLeaves_16 ⟨Nat.le_of_ble_eq_true rfl, Nat.le_of_ble_eq_true rfl⟩ (fun H locs B => ?_)
      cases ho
      exact e_i B hx hb hr hlocks rfl rfl dX3_tellLeaves_19

set_option maxHeartbeats 4000000 in
set_option maxRecDepth 100000 in
theorem c_X3_passSummer (l : Launch) (G : Gd) (σ : Mm) (sz : Nat) {out : Int32 × Mm} (ho : f_X3_passSummer σ = some out) : Met l yX3_passSummer wsX3_passSummer { frames := 3, cells := 0, slots := 0, locals := 64 } (va_Pc [.ref (G.2.2 161)] (PW G σ sz)) (Qi G sz out.1 out.2) 0 0 (AA G sz) := by
  refine Met.ofW (cc := cX3_passSummer) (maxL := 2) (ret := (some .int)) (by decide) rfl ?_
  intro p e s m args below meth c s₁ B0 hml hv
  obtain ⟨rfl, hpw⟩ := hv
  have hsz := hpw.1
  subst hsz
  obtain ⟨F, B⟩ := hpw.to
  have hx := B0.exec
  have hb := B0.bytes
  have hr := B0.returns
  have hts := atoms_spec (ws := wsX3_passSummer) B0.pre
  have hown : s.vm.findClass RX3 = some m.cls := findClass_of_methodNamed B0.named
  have hlocks := B0.notSynchronized
  have S : CallFix p m c cX3_passSummer 2 s _ wsX3_passSummer RX3 := ⟨hx, hb, hml, hown, hts⟩
  have hiX3 : ∀ w ∈ u_ws RX3 TX3 3, w ∈ wsX3_passSummer := by decide +kernel
  have hiX6 : ∀ w ∈ u_ws RX6 TX6 9, w ∈ wsX3_passSummer := by decide +kernel
  have hl := lv_entry [.ref (G.2.2 161)] (n := 2) (Nat.le_of_ble_eq_true rfl)
  rw [lg_entry_eq]
  generalize (lg_sl [.ref (G.2.2 161)] ++ List.replicate (2 - (lg_sl [.ref (G.2.2 161)]).length) Slot.unset).toArray = ls at hl ⊢
  have hl : lv_has ls 2 [(0, .ref (G.2.2 161))] := hl
  unfold f_X3_passSummer at ho
  refine lv_aload_n hx hb dX3_passSummer_0 rfl (lv_at hl 0 rfl) ?_
  refine r_get (ci := 7) (C := RX3) (T := TX3) (N := 3) S F B (kq (by decide) : kd 161 = 13 ∧ 161 < NN) rfl rfl hiX3 0 (by decide) (by decide +kernel) rfl dX3_passSummer_1 ?_
  refine r_getN (ci := 10) (C := RX6) (T := TX6) (N := 9) S F B (kq (by decide) : kd 0 = 0 ∧ 0 < NN) rfl rfl hiX6 0 (by decide) (by decide) rfl dX3_passSummer_4 ?_
  obtain ⟨q1, hq1, ho⟩ := bnd_ ho
  refine k_iV (As := []) (rest := []) S F B (c_X4_gaps l G σ _ hq1) (kq (by decide) : kd 1 = 1 ∧ 1 < NN) rfl rfl (cwV 0 hts gX3_passSummer_X4_gaps rfl rfl rfl (by decide +kernel) ⟨Nat.le_of_ble_eq_true rfl, Nat.le_of_ble_eq_true rfl⟩) rfl hl.1 rfl (Nat.le_of_ble_eq_true rfl) dX3_passSummer_7 ⟨Nat.le_of_ble_eq_true rfl, Nat.le_of_ble_eq_true rfl⟩ (fun H locs B => ?_)
  refine lv_istore_n (lv' := [(1, .int q1), (0, .ref (G.2.2 161))]) hx hb dX3_passSummer_10 rfl hl (by decide) rfl (fun ls hl => ?_)
  refine lv_aload_n hx hb dX3_passSummer_11 rfl (lv_at hl 1 rfl) ?_
  refine r_get (ci := 7) (C := RX3) (T := TX3) (N := 3) S F B (kq (by decide) : kd 161 = 13 ∧ 161 < NN) rfl rfl hiX3 0 (by decide) (by decide +kernel) rfl dX3_passSummer_12 ?_
  refine r_getN (ci := 10) (C := RX6) (T := TX6) (N := 9) S F B (kq (by decide) : kd 0 = 0 ∧ 0 < NN) rfl rfl hiX6 0 (by decide) (by decide) rfl dX3_passSummer_15 ?_
  obtain ⟨σ3, hq2, ho⟩ := bnd_ ho
  refine k_vV (As := []) (rest := []) S F B (c_X4_grow l G σ _ hq2) (kq (by decide) : kd 1 = 1 ∧ 1 < NN) rfl rfl (cwV 0 hts gX3_passSummer_X4_grow rfl rfl rfl (by decide +kernel) ⟨Nat.le_of_ble_eq_true rfl, Nat.le_of_ble_eq_true rfl⟩) rfl hl.1 rfl (Nat.le_of_ble_eq_true rfl) dX3_passSummer_18 ⟨Nat.le_of_ble_eq_true rfl, Nat.le_of_ble_eq_true rfl⟩ (fun H locs B => ?_)
  refine lv_aload_n hx hb dX3_passSummer_21 rfl (lv_at hl 1 rfl) ?_
  refine r_get (ci := 7) (C := RX3) (T := TX3) (N := 3) S F B (kq (by decide) : kd 161 = 13 ∧ 161 < NN) rfl rfl hiX3 0 (by decide) (by decide +kernel) rfl dX3_passSummer_22 ?_
  refine lv_dup hx hb dX3_passSummer_25 rfl ?_
  refine r_getN (ci := 10) (C := RX6) (T := TX6) (N := 9) S F B (kq (by decide) : kd 0 = 0 ∧ 0 < NN) rfl rfl hiX6 6 (by decide) (by decide) rfl dX3_passSummer_26 ?_
  refine lv_iconst (v := 1) hx hb dX3_passSummer_29 (by decide) ?_
  refine lv_iadd hx hb dX3_passSummer_30 ?_
  refine r_putN (ci := 10) (C := RX6) (T := TX6) (N := 9) (ty := .int) S F B tyX6 tyX6_ok nmX6 (kq (by decide) : kd 0 = 0 ∧ 0 < NN) (fun _ => rfl) rfl hiX6 6 (by decide) (by decide) rfl rfl rfl rfl (fun _ => Nat.le_of_ble_eq_true rfl) (fun _ => rfl) dX3_passSummer_31 (fun H locs B => ?_)
  obtain ⟨σ4, eσ4, ho⟩ := lt_ ho
  rw [← eσ4] at B
  refine lv_iload_n hx hb dX3_passSummer_34 rfl (lv_at hl 0 rfl) ?_
  refine lv_aload_n hx hb dX3_passSummer_35 rfl (lv_at hl 1 rfl) ?_
  refine r_get (ci := 7) (C := RX3) (T := TX3) (N := 3) S F B (kq (by decide) : kd 161 = 13 ∧ 161 < NN) rfl rfl hiX3 0 (by decide) (by decide +kernel) rfl dX3_passSummer_36 ?_
  refine r_getN (ci := 10) (C := RX6) (T := TX6) (N := 9) S F B (kq (by decide) : kd 0 = 0 ∧ 0 < NN) rfl rfl hiX6 0 (by decide) (by decide) rfl dX3_passSummer_39 ?_
  obtain ⟨q5, hq5, ho⟩ := bnd_ ho
  refine k_iV (As := []) (rest := [.int q1]) S F B (c_X4_gaps l G σ4 _ hq5) (kq (by decide) : kd 1 = 1 ∧ 1 < NN) rfl rfl (cwV 0 hts gX3_passSummer_X4_gaps rfl rfl rfl (by decide +kernel) ⟨Nat.le_of_ble_eq_true rfl, Nat.le_of_ble_eq_true rfl⟩) rfl hl.1 rfl (Nat.le_of_ble_eq_true rfl) dX3_passSummer_42 ⟨Nat.le_of_ble_eq_true rfl, Nat.le_of_ble_eq_true rfl⟩ (fun H locs B => ?_)
  refine lv_isub hx hb dX3_passSummer_45 ?_
  cases ho
  exact e_i B hx hb hr hlocks rfl rfl dX3_passSummer_46

set_option maxHeartbeats 4000000 in
set_option maxRecDepth 100000 in
theorem c_X3_trimHedge (l : Launch) (G : Gd) (σ : Mm) (sz : Nat) (a0 : Int32) (a1 : Int32) (a2 : Int32) {out : Int32 × Mm} (ho : f_X3_trimHedge a0 a1 a2 σ = some out) : Met l yX3_trimHedge wsX3_trimHedge { frames := 3, cells := 0, slots := 0, locals := 79 } (va_Pc [.ref (G.2.2 161), .int a0, .int a1, .int a2] (PW G σ sz)) (Qi G sz out.1 out.2) 0 0 (AA G sz) := by
  refine Met.ofW (cc := cX3_trimHedge) (maxL := 6) (ret := (some .int)) (by decide) rfl ?_
  intro p e s m args below meth c s₁ B0 hml hv
  obtain ⟨rfl, hpw⟩ := hv
  have hsz := hpw.1
  subst hsz
  obtain ⟨F, B⟩ := hpw.to
  have hx := B0.exec
  have hb := B0.bytes
  have hr := B0.returns
  have hts := atoms_spec (ws := wsX3_trimHedge) B0.pre
  have hown : s.vm.findClass RX3 = some m.cls := findClass_of_methodNamed B0.named
  have hlocks := B0.notSynchronized
  have S : CallFix p m c cX3_trimHedge 6 s _ wsX3_trimHedge RX3 := ⟨hx, hb, hml, hown, hts⟩
  have hiX1 : ∀ w ∈ u_ws RX1 TX1 4, w ∈ wsX3_trimHedge := by decide +kernel
  have hiX3 : ∀ w ∈ u_ws RX3 TX3 3, w ∈ wsX3_trimHedge := by decide +kernel
  have hiX6 : ∀ w ∈ u_ws RX6 TX6 9, w ∈ wsX3_trimHedge := by decide +kernel
  have hl := lv_entry [.ref (G.2.2 161), .int a0, .int a1, .int a2] (n := 6) (Nat.le_of_ble_eq_true rfl)
  rw [lg_entry_eq]
  generalize (lg_sl [.ref (G.2.2 161), .int a0, .int a1, .int a2] ++ List.replicate (6 - (lg_sl [.ref (G.2.2 161), .int a0, .int a1, .int a2]).length) Slot.unset).toArray = ls at hl ⊢
  have hl : lv_has ls 6 [(0, .ref (G.2.2 161)), (1, .int a0), (2, .int a1), (3, .int a2)] := hl
  unfold f_X3_trimHedge at ho
  refine lv_aload_n hx hb dX3_trimHedge_0 rfl (lv_at hl 0 rfl) ?_
  refine r_get (ci := 7) (C := RX3) (T := TX3) (N := 3) S F B (kq (by decide) : kd 161 = 13 ∧ 161 < NN) rfl rfl hiX3 0 (by decide) (by decide +kernel) rfl dX3_trimHedge_1 ?_
  refine lv_iload_n hx hb dX3_trimHedge_4 rfl (lv_at hl 1 rfl) ?_
  obtain ⟨q1, hq1, ho⟩ := bnd_ ho
  refine k_qV (As := [.int a0]) (rest := []) S F B (c_X6_findGardener l G σ _ a0 hq1) (kq (by decide) : kd 0 = 0 ∧ 0 < NN) rfl rfl (cwV 1 hts gX3_trimHedge_X6_findGardener rfl rfl rfl (by decide +kernel) ⟨Nat.le_of_ble_eq_true rfl, Nat.le_of_ble_eq_true rfl⟩) rfl hl.1 rfl (Nat.le_of_ble_eq_true rfl) dX3_trimHedge_5 ⟨Nat.le_of_ble_eq_true rfl, Nat.le_of_ble_eq_true rfl⟩ (fun H locs B => ?_)
  cases q1 with
  | none =>
    have ho := oc_n ho
    refine lv_astoreN (lv' := [(4, .null), (0, .ref (G.2.2 161)), (1, .int a0), (2, .int a1), (3, .int a2)]) hx hb dX3_trimHedge_8 hl (by decide) rfl (fun ls hl => ?_)
    refine lv_aloadN hx hb dX3_trimHedge_10 (lv_at hl 0 rfl) ?_
    refine lv_ifnonnullN hx hb dX3_trimHedge_12 ?_
    refine lv_aload_n hx hb dX3_trimHedge_15 rfl (lv_at hl 1 rfl) ?_
    refine r_get (ci := 7) (C := RX3) (T := TX3) (N := 3) S F B (kq (by decide) : kd 161 = 13 ∧ 161 < NN) rfl rfl hiX3 2 (by decide) (by decide +kernel) rfl dX3_trimHedge_16 ?_
    refine lv_iconst (v := 4) hx hb dX3_trimHedge_19 (by decide) ?_
    refine lv_aload_n hx hb dX3_trimHedge_20 rfl (lv_at hl 1 rfl) ?_
    refine r_get (ci := 7) (C := RX3) (T := TX3) (N := 3) S F B (kq (by decide) : kd 161 = 13 ∧ 161 < NN) rfl rfl hiX3 0 (by decide) (by decide +kernel) rfl dX3_trimHedge_21 ?_
    refine r_getN (ci := 10) (C := RX6) (T := TX6) (N := 9) S F B (kq (by decide) : kd 0 = 0 ∧ 0 < NN) rfl rfl hiX6 3 (by decide) (by decide) rfl dX3_trimHedge_24 ?_
    obtain ⟨q3, σ4, hq3, ho⟩ := bnm_ ho
    refine k_iV (As := [.int 4, .int (σ 0 3)]) (rest := []) S F B (c_X5_because l G σ _ 4 (σ 0 3) hq3) (kq (by decide) : kd 157 = 10 ∧ 157 < NN) rfl rfl (cwV 2 hts gX3_trimHedge_X5_because rfl rfl rfl (by decide +kernel) ⟨Nat.le_of_ble_eq_true rfl, Nat.le_of_ble_eq_true rfl⟩) rfl hl.1 rfl (Nat.le_of_ble_eq_true rfl) dX3_trimHedge_27 ⟨Nat.le_of_ble_eq_true rfl, Nat.le_of_ble_eq_true rfl⟩ (fun H locs B => ?_)
    cases ho
    exact e_i B hx hb hr hlocks rfl rfl dX3_trimHedge_30
  | some j2 =>
    have ho := oc_s ho
    have hj2 : kd j2 = 4 ∧ j2 < NN := kf_gard hq1
    refine lv_astore (lv' := [(4, .ref (G.2.2 j2)), (0, .ref (G.2.2 161)), (1, .int a0), (2, .int a1), (3, .int a2)]) hx hb dX3_trimHedge_8 hl (by decide) rfl (fun ls hl => ?_)
    refine lv_aload hx hb dX3_trimHedge_10 (lv_at hl 0 rfl) ?_
    refine lv_ifnonnull (tgt := 31) hx hb dX3_trimHedge_12 (by decide) ?_
    refine lv_aload_n hx hb dX3_trimHedge_31 rfl (lv_at hl 1 rfl) ?_
    refine lv_iload_n hx hb dX3_trimHedge_32 rfl (lv_at hl 3 rfl) ?_
    refine lv_iload_n hx hb dX3_trimHedge_33 rfl (lv_at hl 4 rfl) ?_
    obtain ⟨q5, σ6, hq5, ho⟩ := bnm_ ho
    refine k_iV (As := [.int a1, .int a2]) (rest := []) S F B (c_X3_hedgeOrRefusal l G σ _ a1 a2 hq5) (kq (by decide) : kd 161 = 13 ∧ 161 < NN) rfl rfl (cwV 2 hts gX3_trimHedge_X3_hedgeOrRefusal rfl rfl rfl (by decide +kernel) ⟨Nat.le_of_ble_eq_true rfl, Nat.le_of_ble_eq_true rfl⟩) rfl hl.1 rfl (Nat.le_of_ble_eq_true rfl) dX3_trimHedge_34 ⟨Nat.le_of_ble_eq_true rfl, Nat.le_of_ble_eq_true rfl⟩ (fun H locs B => ?_)
    refine lv_istore (lv' := [(5, .int q5), (4, .ref (G.2.2 j2)), (0, .ref (G.2.2 161)), (1, .int a0), (2, .int a1), (3, .int a2)]) hx hb dX3_trimHedge_37 hl (by decide) rfl (fun ls hl => ?_)
    refine lv_iload hx hb dX3_trimHedge_39 (lv_at hl 0 rfl) ?_
    refine lv_iconst (v := (-1)) hx hb dX3_trimHedge_41 (by decide) ?_
    refine lv_icmp_ne (tgt := 47) hx hb dX3_trimHedge_42 (by decide) (fun c7 => ?_) (fun c7 => ?_)
    · have ho := in_ c7 ho
      refine lv_aload_n hx hb dX3_trimHedge_47 rfl (lv_at hl 2 rfl) ?_
      refine r_get (ci := 7) (C := RX3) (T := TX3) (N := 3) S F B (kq (by decide) : kd 161 = 13 ∧ 161 < NN) rfl rfl hiX3 0 (by decide) (by decide +kernel) rfl dX3_trimHedge_48 ?_
      refine r_getN (ci := 10) (C := RX6) (T := TX6) (N := 9) S F B (kq (by decide) : kd 0 = 0 ∧ 0 < NN) rfl rfl hiX6 0 (by decide) (by decide) rfl dX3_trimHedge_51 ?_
      refine lv_iload hx hb dX3_trimHedge_54 (lv_at hl 0 rfl) ?_
      obtain ⟨q8, hq8, ho⟩ := bnd_ ho
      refine k_iV (As := [.int q5]) (rest := []) S F B (c_X4_leavesOf l G σ6 _ q5 hq8) (kq (by decide) : kd 1 = 1 ∧ 1 < NN) rfl rfl (cwV 1 hts gX3_trimHedge_X4_leavesOf rfl rfl rfl (by decide +kernel) ⟨Nat.le_of_ble_eq_true rfl, Nat.le_of_ble_eq_true rfl⟩) rfl hl.1 rfl (Nat.le_of_ble_eq_true rfl) dX3_trimHedge_56 ⟨Nat.le_of_ble_eq_true rfl, Nat.le_of_ble_eq_true rfl⟩ (fun H locs B => ?_)
      refine lv_if_ne (tgt := 72) hx hb dX3_trimHedge_59 (by decide) (fun c9 => ?_) (fun c9 => ?_)
      · have ho := in_ c9 ho
        refine lv_aload hx hb dX3_trimHedge_72 (lv_at hl 1 rfl) ?_
        refine r_getN (ci := 5) (C := RX1) (T := TX1) (N := 4) S F B hj2 rfl rfl hiX1 0 (by decide) (by decide) rfl dX3_trimHedge_74 ?_
        refine lv_iconst (v := 2) hx hb dX3_trimHedge_77 (by decide) ?_
        refine lv_icmp_ge (tgt := 97) hx hb dX3_trimHedge_78 (by decide) (fun c10 => ?_) (fun c10 => ?_)
        · have ho := ip_ c10 ho
          refine lv_aload_n hx hb dX3_trimHedge_97 rfl (lv_at hl 2 rfl) ?_
          refine r_get (ci := 7) (C := RX3) (T := TX3) (N := 3) S F B (kq (by decide) : kd 161 = 13 ∧ 161 < NN) rfl rfl hiX3 0 (by decide) (by decide +kernel) rfl dX3_trimHedge_98 ?_
          refine r_getN (ci := 10) (C := RX6) (T := TX6) (N := 9) S F B (kq (by decide) : kd 0 = 0 ∧ 0 < NN) rfl rfl hiX6 0 (by decide) (by decide) rfl dX3_trimHedge_101 ?_
          refine lv_iload hx hb dX3_trimHedge_104 (lv_at hl 0 rfl) ?_
          refine lv_iconst (v := 0) hx hb dX3_trimHedge_106 (by decide) ?_
          obtain ⟨σ12, hq11, ho⟩ := bnd_ ho
          refine k_vV (As := [.int q5, .int 0]) (rest := []) S F B (c_X4_putLeaves l G σ6 _ q5 0 hq11) (kq (by decide) : kd 1 = 1 ∧ 1 < NN) rfl rfl (cwV 2 hts gX3_trimHedge_X4_putLeaves rfl rfl rfl (by decide +kernel) ⟨Nat.le_of_ble_eq_true rfl, Nat.le_of_ble_eq_true rfl⟩) rfl hl.1 rfl (Nat.le_of_ble_eq_true rfl) dX3_trimHedge_107 ⟨Nat.le_of_ble_eq_true rfl, Nat.le_of_ble_eq_true rfl⟩ (fun H locs B => ?_)
          refine lv_aload hx hb dX3_trimHedge_110 (lv_at hl 1 rfl) ?_
          refine lv_dup hx hb dX3_trimHedge_112 rfl ?_
          refine r_getN (ci := 5) (C := RX1) (T := TX1) (N := 4) S F B hj2 rfl rfl hiX1 0 (by decide) (by decide) rfl dX3_trimHedge_113 ?_
          refine lv_iconst (v := 2) hx hb dX3_trimHedge_116 (by decide) ?_
          refine lv_isub hx hb dX3_trimHedge_117 ?_
          refine r_putN (ci := 5) (C := RX1) (T := TX1) (N := 4) (ty := .int) S F B tyX1 tyX1_ok nmX1 hj2 (fun _ => rfl) rfl hiX1 0 (by decide) (by decide) rfl rfl rfl rfl (fun _ => Nat.le_of_ble_eq_true rfl) (fun _ => rfl) dX3_trimHedge_118 (fun H locs B => ?_)
          obtain ⟨σ13, eσ13, ho⟩ := lt_ ho
          rw [← eσ13] at B
          refine lv_aload hx hb dX3_trimHedge_121 (lv_at hl 1 rfl) ?_
          refine lv_dup hx hb dX3_trimHedge_123 rfl ?_
          refine r_getN (ci := 5) (C := RX1) (T := TX1) (N := 4) S F B hj2 rfl rfl hiX1 3 (by decide) (by decide) rfl dX3_trimHedge_124 ?_
          refine lv_iconst (v := 1) hx hb dX3_trimHedge_127 (by decide) ?_
          refine lv_iadd hx hb dX3_trimHedge_128 ?_
          refine r_putN (ci := 5) (C := RX1) (T := TX1) (N := 4) (ty := .int) S F B tyX1 tyX1_ok nmX1 hj2 (fun _ => rfl) rfl hiX1 3 (by decide) (by decide) rfl rfl rfl rfl (fun _ => Nat.le_of_ble_eq_true rfl) (fun _ => rfl) dX3_trimHedge_129 (fun H locs B => ?_)
          obtain ⟨σ14, eσ14, ho⟩ := lt_ ho
          rw [← eσ14] at B
          refine lv_aload_n hx hb dX3_trimHedge_132 rfl (lv_at hl 2 rfl) ?_
          refine r_get (ci := 7) (C := RX3) (T := TX3) (N := 3) S F B (kq (by decide) : kd 161 = 13 ∧ 161 < NN) rfl rfl hiX3 0 (by decide) (by decide +kernel) rfl dX3_trimHedge_133 ?_
          refine lv_dup hx hb dX3_trimHedge_136 rfl ?_
          refine r_getN (ci := 10) (C := RX6) (T := TX6) (N := 9) S F B (kq (by decide) : kd 0 = 0 ∧ 0 < NN) rfl rfl hiX6 8 (by decide) (by decide) rfl dX3_trimHedge_137 ?_
          refine lv_iconst (v := 2) hx hb dX3_trimHedge_140 (by decide) ?_
          refine lv_iadd hx hb dX3_trimHedge_141 ?_
          refine r_putN (ci := 10) (C := RX6) (T := TX6) (N := 9) (ty := .int) S F B tyX6 tyX6_ok nmX6 (kq (by decide) : kd 0 = 0 ∧ 0 < NN) (fun _ => rfl) rfl hiX6 8 (by decide) (by decide) rfl rfl rfl rfl (fun _ => Nat.le_of_ble_eq_true rfl) (fun _ => rfl) dX3_trimHedge_142 (fun H locs B => ?_)
          obtain ⟨σ15, eσ15, ho⟩ := lt_ ho
          rw [← eσ15] at B
          refine lv_aload hx hb dX3_trimHedge_145 (lv_at hl 1 rfl) ?_
          refine r_getN (ci := 5) (C := RX1) (T := TX1) (N := 4) S F B hj2 rfl rfl hiX1 0 (by decide) (by decide) rfl dX3_trimHedge_147 ?_
          cases ho
          exact e_i B hx hb hr hlocks rfl rfl dX3_trimHedge_150
        · have ho := in_ c10 ho
          refine lv_aload_n hx hb dX3_trimHedge_81 rfl (lv_at hl 2 rfl) ?_
          refine r_get (ci := 7) (C := RX3) (T := TX3) (N := 3) S F B (kq (by decide) : kd 161 = 13 ∧ 161 < NN) rfl rfl hiX3 2 (by decide) (by decide +kernel) rfl dX3_trimHedge_82 ?_
          refine lv_iconst (v := 5) hx hb dX3_trimHedge_85 (by decide) ?_
          refine lv_iconst (v := 2) hx hb dX3_trimHedge_86 (by decide) ?_
          refine lv_aload hx hb dX3_trimHedge_87 (lv_at hl 1 rfl) ?_
          refine r_getN (ci := 5) (C := RX1) (T := TX1) (N := 4) S F B hj2 rfl rfl hiX1 0 (by decide) (by decide) rfl dX3_trimHedge_89 ?_
          refine lv_isub hx hb dX3_trimHedge_92 ?_
          obtain ⟨q16, σ17, hq16, ho⟩ := bnm_ ho
          refine k_iV (As := [.int 5, .int (2 - (σ6 j2 0))]) (rest := []) S F B (c_X5_because l G σ6 _ 5 (2 - (σ6 j2 0)) hq16) (kq (by decide) : kd 157 = 10 ∧ 157 < NN) rfl rfl (cwV 2 hts gX3_trimHedge_X5_because rfl rfl rfl (by decide +kernel) ⟨Nat.le_of_ble_eq_true rfl, Nat.le_of_ble_eq_true rfl⟩) rfl hl.1 rfl (Nat.le_of_ble_eq_true rfl) dX3_trimHedge_93 ⟨Nat.le_of_ble_eq_true rfl, Nat.le_of_ble_eq_true rfl⟩ (fun H locs B => ?_)
          cases ho
          exact e_i B hx hb hr hlocks rfl rfl dX3_trimHedge_96
      · have ho := ip_ c9 ho
        refine lv_aload_n hx hb dX3_trimHedge_62 rfl (lv_at hl 2 rfl) ?_
        refine r_get (ci := 7) (C := RX3) (T := TX3) (N := 3) S F B (kq (by decide) : kd 161 = 13 ∧ 161 < NN) rfl rfl hiX3 2 (by decide) (by decide +kernel) rfl dX3_trimHedge_63 ?_
        refine lv_iconst (v := 3) hx hb dX3_trimHedge_66 (by decide) ?_
        refine lv_iconst (v := 0) hx hb dX3_trimHedge_67 (by decide) ?_
        obtain ⟨q18, σ19, hq18, ho⟩ := bnm_ ho
        refine k_iV (As := [.int 3, .int 0]) (rest := []) S F B (c_X5_because l G σ6 _ 3 0 hq18) (kq (by decide) : kd 157 = 10 ∧ 157 < NN) rfl rfl (cwV 2 hts gX3_trimHedge_X5_because rfl rfl rfl (by decide +kernel) ⟨Nat.le_of_ble_eq_true rfl, Nat.le_of_ble_eq_true rfl⟩) rfl hl.1 rfl (Nat.le_of_ble_eq_true rfl) dX3_trimHedge_68 ⟨Nat.le_of_ble_eq_true rfl, Nat.le_of_ble_eq_true rfl⟩ (fun H locs B => ?_)
        cases ho
        exact e_i B hx hb hr hlocks rfl rfl dX3_trimHedge_71
    · have ho := ip_ c7 ho
      refine lv_iconst (v := (-1)) hx hb dX3_trimHedge_45 (by decide) ?_
      cases ho
      exact e_i B hx hb hr hlocks rfl rfl dX3_trimHedge_46

set_option maxHeartbeats 4000000 in
set_option maxRecDepth 100000 in
theorem c_X3_meetIfThere (l : Launch) (G : Gd) (σ : Mm) (sz : Nat) (o0 : Nat) (ho0 : kd o0 = 6 ∧ o0 < NN) {out : Mm} (ho : f_X3_meetIfThere o0 σ = some out) : Met l yX3_meetIfThere wsX3_meetIfThere { frames := 2, cells := 0, slots := 0, locals := 40 } (va_Pc [.ref (G.2.2 161), .ref (G.2.2 o0)] (PW G σ sz)) (Qv G sz out) 0 0 (AA G sz) := by
  refine Met.ofW (cc := cX3_meetIfThere) (maxL := 2) (ret := none) (by decide) rfl ?_
  intro p e s m args below meth c s₁ B0 hml hv
  obtain ⟨rfl, hpw⟩ := hv
  have hsz := hpw.1
  subst hsz
  obtain ⟨F, B⟩ := hpw.to
  have hx := B0.exec
  have hb := B0.bytes
  have hr := B0.returns
  have hts := atoms_spec (ws := wsX3_meetIfThere) B0.pre
  have hown : s.vm.findClass RX3 = some m.cls := findClass_of_methodNamed B0.named
  have hlocks := B0.notSynchronized
  have S : CallFix p m c cX3_meetIfThere 2 s _ wsX3_meetIfThere RX3 := ⟨hx, hb, hml, hown, hts⟩
  have hiX3 : ∀ w ∈ u_ws RX3 TX3 3, w ∈ wsX3_meetIfThere := by decide +kernel
  have hiX6 : ∀ w ∈ u_ws RX6 TX6 9, w ∈ wsX3_meetIfThere := by decide +kernel
  have hl := lv_entry [.ref (G.2.2 161), .ref (G.2.2 o0)] (n := 2) (Nat.le_of_ble_eq_true rfl)
  rw [lg_entry_eq]
  generalize (lg_sl [.ref (G.2.2 161), .ref (G.2.2 o0)] ++ List.replicate (2 - (lg_sl [.ref (G.2.2 161), .ref (G.2.2 o0)]).length) Slot.unset).toArray = ls at hl ⊢
  have hl : lv_has ls 2 [(0, .ref (G.2.2 161)), (1, .ref (G.2.2 o0))] := hl
  unfold f_X3_meetIfThere at ho
  refine lv_aload_n hx hb dX3_meetIfThere_0 rfl (lv_at hl 1 rfl) ?_
  refine lv_aload_n hx hb dX3_meetIfThere_1 rfl (lv_at hl 0 rfl) ?_
  refine r_get (ci := 7) (C := RX3) (T := TX3) (N := 3) S F B (kq (by decide) : kd 161 = 13 ∧ 161 < NN) rfl rfl hiX3 0 (by decide) (by decide +kernel) rfl dX3_meetIfThere_2 ?_
  refine r_getN (ci := 10) (C := RX6) (T := TX6) (N := 9) S F B (kq (by decide) : kd 0 = 0 ∧ 0 < NN) rfl rfl hiX6 5 (by decide) (by decide) rfl dX3_meetIfThere_5 ?_
  obtain ⟨q1, hq1, ho⟩ := bnd_ ho
  refine k_iV (As := [.int (σ 0 5)]) (rest := []) S F B (c_X7_isIn l G σ _ o0 (σ 0 5) ho0 hq1) ho0 rfl rfl (cwV 1 hts gX3_meetIfThere_X7_isIn rfl rfl rfl (by decide +kernel) ⟨Nat.le_of_ble_eq_true rfl, Nat.le_of_ble_eq_true rfl⟩) rfl hl.1 rfl (Nat.le_of_ble_eq_true rfl) dX3_meetIfThere_8 ⟨Nat.le_of_ble_eq_true rfl, Nat.le_of_ble_eq_true rfl⟩ (fun H locs B => ?_)
  refine lv_if_eq (tgt := 18) hx hb dX3_meetIfThere_11 (by decide) (fun c2 => ?_) (fun c2 => ?_)
  · have ho := ip_ c2 ho
    cases ho
    exact e_v B hx hb hr hlocks dX3_meetIfThere_18
  · have ho := in_ c2 ho
    refine lv_aload_n hx hb dX3_meetIfThere_14 rfl (lv_at hl 1 rfl) ?_
    obtain ⟨σ4, hq3, ho⟩ := bnd_ ho
    refine k_vV (As := []) (rest := []) S F B (c_X7_meetMinotaur l G σ _ o0 ho0 hq3) ho0 rfl rfl (cwV 0 hts gX3_meetIfThere_X7_meetMinotaur rfl rfl rfl (by decide +kernel) ⟨Nat.le_of_ble_eq_true rfl, Nat.le_of_ble_eq_true rfl⟩) rfl hl.1 rfl (Nat.le_of_ble_eq_true rfl) dX3_meetIfThere_15 ⟨Nat.le_of_ble_eq_true rfl, Nat.le_of_ble_eq_true rfl⟩ (fun H locs B => ?_)
    cases ho
    exact e_v B hx hb hr hlocks dX3_meetIfThere_18

set_option maxHeartbeats 4000000 in
set_option maxRecDepth 100000 in
theorem c_X3_placeMinotaur (l : Launch) (G : Gd) (σ : Mm) (sz : Nat) (a0 : Int32) {out : Int32 × Mm} (ho : f_X3_placeMinotaur a0 σ = some out) : Met l yX3_placeMinotaur wsX3_placeMinotaur { frames := 3, cells := 0, slots := 0, locals := 61 } (va_Pc [.ref (G.2.2 161), .int a0] (PW G σ sz)) (Qi G sz out.1 out.2) 0 0 (AA G sz) := by
  refine Met.ofW (cc := cX3_placeMinotaur) (maxL := 3) (ret := (some .int)) (by decide) rfl ?_
  intro p e s m args below meth c s₁ B0 hml hv
  obtain ⟨rfl, hpw⟩ := hv
  have hsz := hpw.1
  subst hsz
  obtain ⟨F, B⟩ := hpw.to
  have hx := B0.exec
  have hb := B0.bytes
  have hr := B0.returns
  have hts := atoms_spec (ws := wsX3_placeMinotaur) B0.pre
  have hown : s.vm.findClass RX3 = some m.cls := findClass_of_methodNamed B0.named
  have hlocks := B0.notSynchronized
  have S : CallFix p m c cX3_placeMinotaur 3 s _ wsX3_placeMinotaur RX3 := ⟨hx, hb, hml, hown, hts⟩
  have hiX3 : ∀ w ∈ u_ws RX3 TX3 3, w ∈ wsX3_placeMinotaur := by decide +kernel
  have hiX6 : ∀ w ∈ u_ws RX6 TX6 9, w ∈ wsX3_placeMinotaur := by decide +kernel
  have hl := lv_entry [.ref (G.2.2 161), .int a0] (n := 3) (Nat.le_of_ble_eq_true rfl)
  rw [lg_entry_eq]
  generalize (lg_sl [.ref (G.2.2 161), .int a0] ++ List.replicate (3 - (lg_sl [.ref (G.2.2 161), .int a0]).length) Slot.unset).toArray = ls at hl ⊢
  have hl : lv_has ls 3 [(0, .ref (G.2.2 161)), (1, .int a0)] := hl
  unfold f_X3_placeMinotaur at ho
  skip
  refine lv_iload_n hx hb dX3_placeMinotaur_0 rfl (lv_at hl 1 rfl) ?_
  refine lv_iconst (v := (-1)) hx hb dX3_placeMinotaur_1 (by decide) ?_
  refine lv_icmp_eq (tgt := 22) hx hb dX3_placeMinotaur_2 (by decide) (fun c1 => ?_) (fun c1 => ?_)
  · have ho := ip_ c1 ho
    refine lv_iload_n hx hb dX3_placeMinotaur_22 rfl (lv_at hl 1 rfl) ?_
    refine lv_aload_n hx hb dX3_placeMinotaur_23 rfl (lv_at hl 0 rfl) ?_
    refine r_get (ci := 7) (C := RX3) (T := TX3) (N := 3) S F B (kq (by decide) : kd 161 = 13 ∧ 161 < NN) rfl rfl hiX3 0 (by decide) (by decide +kernel) rfl dX3_placeMinotaur_24 ?_
    refine r_getN (ci := 10) (C := RX6) (T := TX6) (N := 9) S F B (kq (by decide) : kd 0 = 0 ∧ 0 < NN) rfl rfl hiX6 5 (by decide) (by decide) rfl dX3_placeMinotaur_27 ?_
    refine lv_icmp_ne (tgt := 43) hx hb dX3_placeMinotaur_30 (by decide) (fun c2 => ?_) (fun c2 => ?_)
    · have ho := in_ c2 ho
      refine lv_aload_n hx hb dX3_placeMinotaur_43 rfl (lv_at hl 0 rfl) ?_
      refine r_get (ci := 7) (C := RX3) (T := TX3) (N := 3) S F B (kq (by decide) : kd 161 = 13 ∧ 161 < NN) rfl rfl hiX3 0 (by decide) (by decide +kernel) rfl dX3_placeMinotaur_44 ?_
      refine lv_iload_n hx hb dX3_placeMinotaur_47 rfl (lv_at hl 1 rfl) ?_
      refine r_putN (ci := 10) (C := RX6) (T := TX6) (N := 9) (ty := .int) S F B tyX6 tyX6_ok nmX6 (kq (by decide) : kd 0 = 0 ∧ 0 < NN) (fun _ => rfl) rfl hiX6 5 (by decide) (by decide) rfl rfl rfl rfl (fun _ => Nat.le_of_ble_eq_true rfl) (fun _ => rfl) dX3_placeMinotaur_48 (fun H locs B => ?_)
      obtain ⟨σ3, eσ3, ho⟩ := lt_ ho
      rw [← eσ3] at B
      refine lv_iconst (v := 0) hx hb dX3_placeMinotaur_51 (by decide) ?_
      refine lv_istore_n (lv' := [(2, .int 0), (0, .ref (G.2.2 161)), (1, .int a0)]) hx hb dX3_placeMinotaur_52 rfl hl (by decide) rfl (fun ls hl => ?_)
      have hloop53 : ∀ (n : Nat) (v7 : Int32) (σ8 : Mm) (H : Heap) (locs : List Loc) (ls : Array Slot), f_X3_placeMinotaur_l53  a0 n v7 σ8 = some out → Bd G σ8 s H locs → lv_has ls 3 [(2, .int v7), (0, .ref (G.2.2 161)), (1, .int a0)] → W p l e (headSpec wsX3_placeMinotaur { frames := 3, cells := 0, slots := 0, locals := 61 }).room s m #[.ref (G.2.2 161), .int a0] below meth c H locs 0 0 (MQ below (Qi G s.heap.size out.1 out.2) #[.ref (G.2.2 161), .int a0] s 0 0 (AA G s.heap.size)) (F0 m 53 ls []) := by
        intro n
        induction n with
        | zero => intro v7 σ8 H locs ls ho B hl; cases ho
        | succ n ih =>
          intro v7 σ8 H locs ls ho B hl
          refine lv_iload_n hx hb dX3_placeMinotaur_53 rfl (lv_at hl 0 rfl) ?_
          refine lv_aload_n hx hb dX3_placeMinotaur_54 rfl (lv_at hl 1 rfl) ?_
          refine r_get (ci := 7) (C := RX3) (T := TX3) (N := 3) S F B (kq (by decide) : kd 161 = 13 ∧ 161 < NN) rfl rfl hiX3 0 (by decide) (by decide +kernel) rfl dX3_placeMinotaur_55 ?_
          refine r_getN (ci := 10) (C := RX6) (T := TX6) (N := 9) S F B (kq (by decide) : kd 0 = 0 ∧ 0 < NN) rfl rfl hiX6 4 (by decide) (by decide) rfl dX3_placeMinotaur_58 ?_
          refine lv_icmp_ge (tgt := 83) hx hb dX3_placeMinotaur_61 (by decide) (fun c9 => ?_) (fun c9 => ?_)
          · have ho := ip_ c9 ho
            refine lv_aload_n hx hb dX3_placeMinotaur_83 rfl (lv_at hl 1 rfl) ?_
            refine r_get (ci := 7) (C := RX3) (T := TX3) (N := 3) S F B (kq (by decide) : kd 161 = 13 ∧ 161 < NN) rfl rfl hiX3 0 (by decide) (by decide +kernel) rfl dX3_placeMinotaur_84 ?_
            refine lv_iload_n hx hb dX3_placeMinotaur_87 rfl (lv_at hl 2 rfl) ?_
            obtain ⟨q10, hq10, ho⟩ := bnd_ ho
            refine k_iV (As := [.int a0]) (rest := []) S F B (c_X6_visitorsIn l G σ8 _ a0 hq10) (kq (by decide) : kd 0 = 0 ∧ 0 < NN) rfl rfl (cwV 1 hts gX3_placeMinotaur_X6_visitorsIn rfl rfl rfl (by decide +kernel) ⟨Nat.le_of_ble_eq_true rfl, Nat.le_of_ble_eq_true rfl⟩) rfl hl.1 rfl (Nat.le_of_ble_eq_true rfl) dX3_placeMinotaur_88 ⟨Nat.le_of_ble_eq_true rfl, Nat.le_of_ble_eq_true rfl⟩ (fun H locs B => ?_)
            cases ho
            exact e_i B hx hb hr hlocks rfl rfl dX3_placeMinotaur_91
          · have ho := in_ c9 ho
            refine lv_aload_n hx hb dX3_placeMinotaur_64 rfl (lv_at hl 1 rfl) ?_
            refine lv_aload_n hx hb dX3_placeMinotaur_65 rfl (lv_at hl 1 rfl) ?_
            refine r_get (ci := 7) (C := RX3) (T := TX3) (N := 3) S F B (kq (by decide) : kd 161 = 13 ∧ 161 < NN) rfl rfl hiX3 0 (by decide) (by decide +kernel) rfl dX3_placeMinotaur_66 ?_
            refine r_getN (ci := 10) (C := RX6) (T := TX6) (N := 9) S F B (kq (by decide) : kd 0 = 0 ∧ 0 < NN) rfl rfl hiX6 2 (by decide) (by decide) rfl dX3_placeMinotaur_69 ?_
            refine lv_iload_n hx hb dX3_placeMinotaur_72 rfl (lv_at hl 0 rfl) ?_
            obtain ⟨i11, ho⟩ := gd_ ho
            refine r_aald (t := 4) S F B (kq (by decide) : kd 8 = 5 ∧ 8 < NN) rfl rfl i11 dX3_placeMinotaur_73 ?_
            obtain ⟨σ13, hq12, ho⟩ := bnd_ ho
            refine k_vV (As := [.ref (G.2.2 (8 + 1 + v7.toNatClampNeg))]) (rest := []) S F B (c_X3_meetIfThere l G σ8 _ (8 + 1 + v7.toNatClampNeg) (kgV i11 : kd (8 + 1 + v7.toNatClampNeg) = 6 ∧ (8 + 1 + v7.toNatClampNeg) < NN) hq12) (kq (by decide) : kd 161 = 13 ∧ 161 < NN) rfl rfl (cwV 1 hts gX3_placeMinotaur_X3_meetIfThere rfl rfl rfl (by decide +kernel) ⟨Nat.le_of_ble_eq_true rfl, Nat.le_of_ble_eq_true rfl⟩) rfl hl.1 rfl (Nat.le_of_ble_eq_true rfl) dX3_placeMinotaur_74 ⟨Nat.le_of_ble_eq_true rfl, Nat.le_of_ble_eq_true rfl⟩ (fun H locs B => ?_)
            obtain ⟨x14, ex14, ho⟩ := lt_ ho
            refine lv_iinc (v := x14) (lv' := [(2, .int x14), (0, .ref (G.2.2 161)), (1, .int a0)]) hx hb dX3_placeMinotaur_77 hl (k := 0) rfl (by rw [ex14]; rfl) (by decide) rfl (fun ls hl => ?_)
            refine lv_goto (tgt := 53) hx hb dX3_placeMinotaur_80 (by decide) ?_
            exact ih _ _ _ _ _ ho B (lv_sub hl [0, 1, 2] rfl)
      exact hloop53 8 _ _ _ _ _ ho B hl
    · have ho := ip_ c2 ho
      refine lv_aload_n hx hb dX3_placeMinotaur_33 rfl (lv_at hl 0 rfl) ?_
      refine r_get (ci := 7) (C := RX3) (T := TX3) (N := 3) S F B (kq (by decide) : kd 161 = 13 ∧ 161 < NN) rfl rfl hiX3 2 (by decide) (by decide +kernel) rfl dX3_placeMinotaur_34 ?_
      refine lv_iconst (v := 3) hx hb dX3_placeMinotaur_37 (by decide) ?_
      refine lv_iload_n hx hb dX3_placeMinotaur_38 rfl (lv_at hl 1 rfl) ?_
      obtain ⟨q15, σ16, hq15, ho⟩ := bnm_ ho
      refine k_iV (As := [.int 3, .int a0]) (rest := []) S F B (c_X5_because l G σ _ 3 a0 hq15) (kq (by decide) : kd 157 = 10 ∧ 157 < NN) rfl rfl (cwV 2 hts gX3_placeMinotaur_X5_because rfl rfl rfl (by decide +kernel) ⟨Nat.le_of_ble_eq_true rfl, Nat.le_of_ble_eq_true rfl⟩) rfl hl.1 rfl (Nat.le_of_ble_eq_true rfl) dX3_placeMinotaur_39 ⟨Nat.le_of_ble_eq_true rfl, Nat.le_of_ble_eq_true rfl⟩ (fun H locs B => ?_)
      cases ho
      exact e_i B hx hb hr hlocks rfl rfl dX3_placeMinotaur_42
  · have ho := in_ c1 ho
    refine lv_iload_n hx hb dX3_placeMinotaur_5 rfl (lv_at hl 1 rfl) ?_
    obtain ⟨q17, hq17, ho⟩ := bnd_ ho
    refine k_iS (As := [.int a0]) (rest := []) S F B (c_X4_isCell l G σ _ a0 hq17) (va_cwS 1 hts gX3_placeMinotaur_X4_isCell rfl rfl rfl (by decide +kernel) ⟨Nat.le_of_ble_eq_true rfl, Nat.le_of_ble_eq_true rfl⟩) rfl hl.1 rfl (Nat.le_of_ble_eq_true rfl) dX3_placeMinotaur_6 ⟨Nat.le_of_ble_eq_true rfl, Nat.le_of_ble_eq_true rfl⟩ (fun H locs B => ?_)
    refine lv_if_ne (tgt := 22) hx hb dX3_placeMinotaur_9 (by decide) (fun c18 => ?_) (fun c18 => ?_)
    · have ho := in_ c18 ho
      refine lv_iload_n hx hb dX3_placeMinotaur_22 rfl (lv_at hl 1 rfl) ?_
      refine lv_aload_n hx hb dX3_placeMinotaur_23 rfl (lv_at hl 0 rfl) ?_
      refine r_get (ci := 7) (C := RX3) (T := TX3) (N := 3) S F B (kq (by decide) : kd 161 = 13 ∧ 161 < NN) rfl rfl hiX3 0 (by decide) (by decide +kernel) rfl dX3_placeMinotaur_24 ?_
      refine r_getN (ci := 10) (C := RX6) (T := TX6) (N := 9) S F B (kq (by decide) : kd 0 = 0 ∧ 0 < NN) rfl rfl hiX6 5 (by decide) (by decide) rfl dX3_placeMinotaur_27 ?_
      refine lv_icmp_ne (tgt := 43) hx hb dX3_placeMinotaur_30 (by decide) (fun c19 => ?_) (fun c19 => ?_)
      · have ho := in_ c19 ho
        refine lv_aload_n hx hb dX3_placeMinotaur_43 rfl (lv_at hl 0 rfl) ?_
        refine r_get (ci := 7) (C := RX3) (T := TX3) (N := 3) S F B (kq (by decide) : kd 161 = 13 ∧ 161 < NN) rfl rfl hiX3 0 (by decide) (by decide +kernel) rfl dX3_placeMinotaur_44 ?_
        refine lv_iload_n hx hb dX3_placeMinotaur_47 rfl (lv_at hl 1 rfl) ?_
        refine r_putN (ci := 10) (C := RX6) (T := TX6) (N := 9) (ty := .int) S F B tyX6 tyX6_ok nmX6 (kq (by decide) : kd 0 = 0 ∧ 0 < NN) (fun _ => rfl) rfl hiX6 5 (by decide) (by decide) rfl rfl rfl rfl (fun _ => Nat.le_of_ble_eq_true rfl) (fun _ => rfl) dX3_placeMinotaur_48 (fun H locs B => ?_)
        obtain ⟨σ20, eσ20, ho⟩ := lt_ ho
        rw [← eσ20] at B
        refine lv_iconst (v := 0) hx hb dX3_placeMinotaur_51 (by decide) ?_
        refine lv_istore_n (lv' := [(2, .int 0), (0, .ref (G.2.2 161)), (1, .int a0)]) hx hb dX3_placeMinotaur_52 rfl hl (by decide) rfl (fun ls hl => ?_)
        have hloop53 : ∀ (n : Nat) (v24 : Int32) (σ25 : Mm) (H : Heap) (locs : List Loc) (ls : Array Slot), f_X3_placeMinotaur_l53b  a0 n v24 σ25 = some out → Bd G σ25 s H locs → lv_has ls 3 [(2, .int v24), (0, .ref (G.2.2 161)), (1, .int a0)] → W p l e (headSpec wsX3_placeMinotaur { frames := 3, cells := 0, slots := 0, locals := 61 }).room s m #[.ref (G.2.2 161), .int a0] below meth c H locs 0 0 (MQ below (Qi G s.heap.size out.1 out.2) #[.ref (G.2.2 161), .int a0] s 0 0 (AA G s.heap.size)) (F0 m 53 ls []) := by
          intro n
          induction n with
          | zero => intro v24 σ25 H locs ls ho B hl; cases ho
          | succ n ih =>
            intro v24 σ25 H locs ls ho B hl
            refine lv_iload_n hx hb dX3_placeMinotaur_53 rfl (lv_at hl 0 rfl) ?_
            refine lv_aload_n hx hb dX3_placeMinotaur_54 rfl (lv_at hl 1 rfl) ?_
            refine r_get (ci := 7) (C := RX3) (T := TX3) (N := 3) S F B (kq (by decide) : kd 161 = 13 ∧ 161 < NN) rfl rfl hiX3 0 (by decide) (by decide +kernel) rfl dX3_placeMinotaur_55 ?_
            refine r_getN (ci := 10) (C := RX6) (T := TX6) (N := 9) S F B (kq (by decide) : kd 0 = 0 ∧ 0 < NN) rfl rfl hiX6 4 (by decide) (by decide) rfl dX3_placeMinotaur_58 ?_
            refine lv_icmp_ge (tgt := 83) hx hb dX3_placeMinotaur_61 (by decide) (fun c26 => ?_) (fun c26 => ?_)
            · have ho := ip_ c26 ho
              refine lv_aload_n hx hb dX3_placeMinotaur_83 rfl (lv_at hl 1 rfl) ?_
              refine r_get (ci := 7) (C := RX3) (T := TX3) (N := 3) S F B (kq (by decide) : kd 161 = 13 ∧ 161 < NN) rfl rfl hiX3 0 (by decide) (by decide +kernel) rfl dX3_placeMinotaur_84 ?_
              refine lv_iload_n hx hb dX3_placeMinotaur_87 rfl (lv_at hl 2 rfl) ?_
              obtain ⟨q27, hq27, ho⟩ := bnd_ ho
              refine k_iV (As := [.int a0]) (rest := []) S F B (c_X6_visitorsIn l G σ25 _ a0 hq27) (kq (by decide) : kd 0 = 0 ∧ 0 < NN) rfl rfl (cwV 1 hts gX3_placeMinotaur_X6_visitorsIn rfl rfl rfl (by decide +kernel) ⟨Nat.le_of_ble_eq_true rfl, Nat.le_of_ble_eq_true rfl⟩) rfl hl.1 rfl (Nat.le_of_ble_eq_true rfl) dX3_placeMinotaur_88 ⟨Nat.le_of_ble_eq_true rfl, Nat.le_of_ble_eq_true rfl⟩ (fun H locs B => ?_)
              cases ho
              exact e_i B hx hb hr hlocks rfl rfl dX3_placeMinotaur_91
            · have ho := in_ c26 ho
              refine lv_aload_n hx hb dX3_placeMinotaur_64 rfl (lv_at hl 1 rfl) ?_
              refine lv_aload_n hx hb dX3_placeMinotaur_65 rfl (lv_at hl 1 rfl) ?_
              refine r_get (ci := 7) (C := RX3) (T := TX3) (N := 3) S F B (kq (by decide) : kd 161 = 13 ∧ 161 < NN) rfl rfl hiX3 0 (by decide) (by decide +kernel) rfl dX3_placeMinotaur_66 ?_
              refine r_getN (ci := 10) (C := RX6) (T := TX6) (N := 9) S F B (kq (by decide) : kd 0 = 0 ∧ 0 < NN) rfl rfl hiX6 2 (by decide) (by decide) rfl dX3_placeMinotaur_69 ?_
              refine lv_iload_n hx hb dX3_placeMinotaur_72 rfl (lv_at hl 0 rfl) ?_
              obtain ⟨i28, ho⟩ := gd_ ho
              refine r_aald (t := 4) S F B (kq (by decide) : kd 8 = 5 ∧ 8 < NN) rfl rfl i28 dX3_placeMinotaur_73 ?_
              obtain ⟨σ30, hq29, ho⟩ := bnd_ ho
              refine k_vV (As := [.ref (G.2.2 (8 + 1 + v24.toNatClampNeg))]) (rest := []) S F B (c_X3_meetIfThere l G σ25 _ (8 + 1 + v24.toNatClampNeg) (kgV i28 : kd (8 + 1 + v24.toNatClampNeg) = 6 ∧ (8 + 1 + v24.toNatClampNeg) < NN) hq29) (kq (by decide) : kd 161 = 13 ∧ 161 < NN) rfl rfl (cwV 1 hts gX3_placeMinotaur_X3_meetIfThere rfl rfl rfl (by decide +kernel) ⟨Nat.le_of_ble_eq_true rfl, Nat.le_of_ble_eq_true rfl⟩) rfl hl.1 rfl (Nat.le_of_ble_eq_true rfl) dX3_placeMinotaur_74 ⟨Nat.le_of_ble_eq_true rfl, Nat.le_of_ble_eq_true rfl⟩ (fun H locs B => ?_)
              obtain ⟨x31, ex31, ho⟩ := lt_ ho
              refine lv_iinc (v := x31) (lv' := [(2, .int x31), (0, .ref (G.2.2 161)), (1, .int a0)]) hx hb dX3_placeMinotaur_77 hl (k := 0) rfl (by rw [ex31]; rfl) (by decide) rfl (fun ls hl => ?_)
              refine lv_goto (tgt := 53) hx hb dX3_placeMinotaur_80 (by decide) ?_
              exact ih _ _ _ _ _ ho B (lv_sub hl [0, 1, 2] rfl)
        exact hloop53 8 _ _ _ _ _ ho B hl
      · have ho := ip_ c19 ho
        refine lv_aload_n hx hb dX3_placeMinotaur_33 rfl (lv_at hl 0 rfl) ?_
        refine r_get (ci := 7) (C := RX3) (T := TX3) (N := 3) S F B (kq (by decide) : kd 161 = 13 ∧ 161 < NN) rfl rfl hiX3 2 (by decide) (by decide +kernel) rfl dX3_placeMinotaur_34 ?_
        refine lv_iconst (v := 3) hx hb dX3_placeMinotaur_37 (by decide) ?_
        refine lv_iload_n hx hb dX3_placeMinotaur_38 rfl (lv_at hl 1 rfl) ?_
        obtain ⟨q32, σ33, hq32, ho⟩ := bnm_ ho
        refine k_iV (As := [.int 3, .int a0]) (rest := []) S F B (c_X5_because l G σ _ 3 a0 hq32) (kq (by decide) : kd 157 = 10 ∧ 157 < NN) rfl rfl (cwV 2 hts gX3_placeMinotaur_X5_because rfl rfl rfl (by decide +kernel) ⟨Nat.le_of_ble_eq_true rfl, Nat.le_of_ble_eq_true rfl⟩) rfl hl.1 rfl (Nat.le_of_ble_eq_true rfl) dX3_placeMinotaur_39 ⟨Nat.le_of_ble_eq_true rfl, Nat.le_of_ble_eq_true rfl⟩ (fun H locs B => ?_)
        cases ho
        exact e_i B hx hb hr hlocks rfl rfl dX3_placeMinotaur_42
    · have ho := ip_ c18 ho
      refine lv_aload_n hx hb dX3_placeMinotaur_12 rfl (lv_at hl 0 rfl) ?_
      refine r_get (ci := 7) (C := RX3) (T := TX3) (N := 3) S F B (kq (by decide) : kd 161 = 13 ∧ 161 < NN) rfl rfl hiX3 2 (by decide) (by decide +kernel) rfl dX3_placeMinotaur_13 ?_
      refine lv_iconst (v := 1) hx hb dX3_placeMinotaur_16 (by decide) ?_
      refine lv_iconst (v := 0) hx hb dX3_placeMinotaur_17 (by decide) ?_
      obtain ⟨q34, σ35, hq34, ho⟩ := bnm_ ho
      refine k_iV (As := [.int 1, .int 0]) (rest := []) S F B (c_X5_because l G σ _ 1 0 hq34) (kq (by decide) : kd 157 = 10 ∧ 157 < NN) rfl rfl (cwV 2 hts gX3_placeMinotaur_X5_because rfl rfl rfl (by decide +kernel) ⟨Nat.le_of_ble_eq_true rfl, Nat.le_of_ble_eq_true rfl⟩) rfl hl.1 rfl (Nat.le_of_ble_eq_true rfl) dX3_placeMinotaur_18 ⟨Nat.le_of_ble_eq_true rfl, Nat.le_of_ble_eq_true rfl⟩ (fun H locs B => ?_)
      cases ho
      exact e_i B hx hb hr hlocks rfl rfl dX3_placeMinotaur_21

