set_option maxHeartbeats 4000000 in
set_option maxRecDepth 100000 in
theorem c_X10_areCells (l : Launch) (G : Gd) (σ : Mm) (sz : Nat) (a0 : Int32) (a1 : Int32) {out : Int32 × Mm} (ho : f_X10_areCells a0 a1 σ = some out) : Met l yX10_areCells wsX10_areCells { frames := 2, cells := 0, slots := 0, locals := 45 } (va_Pc [.ref (G.2.2 198), .int a0, .int a1] (PW G σ sz)) (Qi G sz out.1 out.2) 0 0 (AA G sz) := by
  refine Met.ofW (cc := cX10_areCells) (maxL := 3) (ret := (some .boolean)) (by decide) rfl ?_
  intro p e s m args below meth c s₁ B0 hml hv
  obtain ⟨rfl, hpw⟩ := hv
  have hsz := hpw.1
  subst hsz
  obtain ⟨F, B⟩ := hpw.to
  have hx := B0.exec
  have hb := B0.bytes
  have hr := B0.returns
  have hts := atoms_spec (ws := wsX10_areCells) B0.pre
  have hown : s.vm.findClass RX10 = some m.cls := findClass_of_methodNamed B0.named
  have hlocks := B0.notSynchronized
  have S : CallFix p m c cX10_areCells 3 s _ wsX10_areCells RX10 := ⟨hx, hb, hml, hown, hts⟩
  have hiX10 : ∀ w ∈ u_ws RX10 TX10 21, w ∈ wsX10_areCells := by decide +kernel
  have hl := lv_entry [.ref (G.2.2 198), .int a0, .int a1] (n := 3) (Nat.le_of_ble_eq_true rfl)
  rw [lg_entry_eq]
  generalize (lg_sl [.ref (G.2.2 198), .int a0, .int a1] ++ List.replicate (3 - (lg_sl [.ref (G.2.2 198), .int a0, .int a1]).length) Slot.unset).toArray = ls at hl ⊢
  have hl : lv_has ls 3 [(0, .ref (G.2.2 198)), (1, .int a0), (2, .int a1)] := hl
  unfold f_X10_areCells at ho
  refine lv_aload_n hx hb dX10_areCells_0 rfl (lv_at hl 0 rfl) ?_
  refine lv_iload_n hx hb dX10_areCells_1 rfl (lv_at hl 1 rfl) ?_
  obtain ⟨q1, hq1, ho⟩ := bnd_ ho
  refine k_iS (As := [.int a0]) (rest := [.ref (G.2.2 198)]) S F B (c_X10_isCell l G σ _ a0 hq1) (va_cwS 1 hts gX10_areCells_X10_isCell rfl rfl rfl (by decide +kernel) ⟨Nat.le_of_ble_eq_true rfl, Nat.le_of_ble_eq_true rfl⟩) rfl hl.1 rfl (Nat.le_of_ble_eq_true rfl) dX10_areCells_2 ⟨Nat.le_of_ble_eq_true rfl, Nat.le_of_ble_eq_true rfl⟩ (fun H locs B => ?_)
  refine lv_if_eq (tgt := 19) hx hb dX10_areCells_5 (by decide) (fun c2 => ?_) (fun c2 => ?_)
  · have ho := ip_ c2 ho
    refine lv_iconst (v := 1) hx hb dX10_areCells_19 (by decide) ?_
    refine r_put (ci := 14) (C := RX10) (T := TX10) (N := 21) (ty := .int) S F B tyX10 tyX10_ok nmX10 (kq (by decide) : kd 198 = 21 ∧ 198 < NN) (fun _ => rfl) rfl hiX10 12 (by decide) (by decide +kernel) rfl rfl rfl rfl (fun _ => Nat.le_of_ble_eq_true rfl) (fun _ => rfl) dX10_areCells_20 (fun H locs B => ?_)
    obtain ⟨σ3, eσ3, ho⟩ := lt_ ho
    rw [← eσ3] at B
    refine lv_aload_n hx hb dX10_areCells_23 rfl (lv_at hl 0 rfl) ?_
    refine r_get (ci := 14) (C := RX10) (T := TX10) (N := 21) S F B (kq (by decide) : kd 198 = 21 ∧ 198 < NN) rfl rfl hiX10 12 (by decide) (by decide +kernel) rfl dX10_areCells_24 ?_
    refine lv_if_ne (tgt := 34) hx hb dX10_areCells_27 (by decide) (fun c4 => ?_) (fun c4 => ?_)
    · have ho := in_ c4 ho
      refine lv_iconst (v := 0) hx hb dX10_areCells_34 (by decide) ?_
      cases ho
      exact e_i B hx hb hr hlocks rfl rfl dX10_areCells_35
    · have ho := ip_ c4 ho
      refine lv_iconst (v := 1) hx hb dX10_areCells_30 (by decide) ?_
      refine lv_goto (tgt := 35) hx hb dX10_areCells_31 (by decide) ?_
      cases ho
      exact e_i B hx hb hr hlocks rfl rfl dX10_areCells_35
  · have ho := in_ c2 ho
    refine lv_iload_n hx hb dX10_areCells_8 rfl (lv_at hl 2 rfl) ?_
    obtain ⟨q5, hq5, ho⟩ := bnd_ ho
    refine k_iS (As := [.int a1]) (rest := [.ref (G.2.2 198)]) S F B (c_X10_isCell l G σ _ a1 hq5) (va_cwS 1 hts gX10_areCells_X10_isCell rfl rfl rfl (by decide +kernel) ⟨Nat.le_of_ble_eq_true rfl, Nat.le_of_ble_eq_true rfl⟩) rfl hl.1 rfl (Nat.le_of_ble_eq_true rfl) dX10_areCells_9 ⟨Nat.le_of_ble_eq_true rfl, Nat.le_of_ble_eq_true rfl⟩ (fun H locs B => ?_)
    refine lv_if_eq (tgt := 19) hx hb dX10_areCells_12 (by decide) (fun c6 => ?_) (fun c6 => ?_)
    · have ho := ip_ c6 ho
      refine lv_iconst (v := 1) hx hb dX10_areCells_19 (by decide) ?_
      refine r_put (ci := 14) (C := RX10) (T := TX10) (N := 21) (ty := .int) S F B tyX10 tyX10_ok nmX10 (kq (by decide) : kd 198 = 21 ∧ 198 < NN) (fun _ => rfl) rfl hiX10 12 (by decide) (by decide +kernel) rfl rfl rfl rfl (fun _ => Nat.le_of_ble_eq_true rfl) (fun _ => rfl) dX10_areCells_20 (fun H locs B => ?_)
      obtain ⟨σ7, eσ7, ho⟩ := lt_ ho
      rw [← eσ7] at B
      refine lv_aload_n hx hb dX10_areCells_23 rfl (lv_at hl 0 rfl) ?_
      refine r_get (ci := 14) (C := RX10) (T := TX10) (N := 21) S F B (kq (by decide) : kd 198 = 21 ∧ 198 < NN) rfl rfl hiX10 12 (by decide) (by decide +kernel) rfl dX10_areCells_24 ?_
      refine lv_if_ne (tgt := 34) hx hb dX10_areCells_27 (by decide) (fun c8 => ?_) (fun c8 => ?_)
      · have ho := in_ c8 ho
        refine lv_iconst (v := 0) hx hb dX10_areCells_34 (by decide) ?_
        cases ho
        exact e_i B hx hb hr hlocks rfl rfl dX10_areCells_35
      · have ho := ip_ c8 ho
        refine lv_iconst (v := 1) hx hb dX10_areCells_30 (by decide) ?_
        refine lv_goto (tgt := 35) hx hb dX10_areCells_31 (by decide) ?_
        cases ho
        exact e_i B hx hb hr hlocks rfl rfl dX10_areCells_35
    · have ho := in_ c6 ho
      refine lv_iconst (v := 0) hx hb dX10_areCells_15 (by decide) ?_
      refine lv_goto (tgt := 20) hx hb dX10_areCells_16 (by decide) ?_
      refine r_put (ci := 14) (C := RX10) (T := TX10) (N := 21) (ty := .int) S F B tyX10 tyX10_ok nmX10 (kq (by decide) : kd 198 = 21 ∧ 198 < NN) (fun _ => rfl) rfl hiX10 12 (by decide) (by decide +kernel) rfl rfl rfl rfl (fun _ => Nat.le_of_ble_eq_true rfl) (fun _ => rfl) dX10_areCells_20 (fun H locs B => ?_)
      obtain ⟨σ9, eσ9, ho⟩ := lt_ ho
      rw [← eσ9] at B
      refine lv_aload_n hx hb dX10_areCells_23 rfl (lv_at hl 0 rfl) ?_
      refine r_get (ci := 14) (C := RX10) (T := TX10) (N := 21) S F B (kq (by decide) : kd 198 = 21 ∧ 198 < NN) rfl rfl hiX10 12 (by decide) (by decide +kernel) rfl dX10_areCells_24 ?_
      refine lv_if_ne (tgt := 34) hx hb dX10_areCells_27 (by decide) (fun c10 => ?_) (fun c10 => ?_)
      · have ho := in_ c10 ho
        refine lv_iconst (v := 0) hx hb dX10_areCells_34 (by decide) ?_
        cases ho
        exact e_i B hx hb hr hlocks rfl rfl dX10_areCells_35
      · have ho := ip_ c10 ho
        refine lv_iconst (v := 1) hx hb dX10_areCells_30 (by decide) ?_
        refine lv_goto (tgt := 35) hx hb dX10_areCells_31 (by decide) ?_
        cases ho
        exact e_i B hx hb hr hlocks rfl rfl dX10_areCells_35

set_option maxHeartbeats 4000000 in
set_option maxRecDepth 100000 in
theorem c_X10_leaves (l : Launch) (G : Gd) (σ : Mm) (sz : Nat) (a0 : Int32) (a1 : Int32) {out : Int32 × Mm} (ho : f_X10_leaves a0 a1 σ = some out) : Met l yX10_leaves wsX10_leaves { frames := 3, cells := 0, slots := 0, locals := 67 } (va_Pc [.ref (G.2.2 198), .int a0, .int a1] (PW G σ sz)) (Qi G sz out.1 out.2) 0 0 (AA G sz) := by
  refine Met.ofW (cc := cX10_leaves) (maxL := 4) (ret := (some .int)) (by decide) rfl ?_
  intro p e s m args below meth c s₁ B0 hml hv
  obtain ⟨rfl, hpw⟩ := hv
  have hsz := hpw.1
  subst hsz
  obtain ⟨F, B⟩ := hpw.to
  have hx := B0.exec
  have hb := B0.bytes
  have hr := B0.returns
  have hts := atoms_spec (ws := wsX10_leaves) B0.pre
  have hown : s.vm.findClass RX10 = some m.cls := findClass_of_methodNamed B0.named
  have hlocks := B0.notSynchronized
  have S : CallFix p m c cX10_leaves 4 s _ wsX10_leaves RX10 := ⟨hx, hb, hml, hown, hts⟩
  have hiX10 : ∀ w ∈ u_ws RX10 TX10 21, w ∈ wsX10_leaves := by decide +kernel
  have hl := lv_entry [.ref (G.2.2 198), .int a0, .int a1] (n := 4) (Nat.le_of_ble_eq_true rfl)
  rw [lg_entry_eq]
  generalize (lg_sl [.ref (G.2.2 198), .int a0, .int a1] ++ List.replicate (4 - (lg_sl [.ref (G.2.2 198), .int a0, .int a1]).length) Slot.unset).toArray = ls at hl ⊢
  have hl : lv_has ls 4 [(0, .ref (G.2.2 198)), (1, .int a0), (2, .int a1)] := hl
  unfold f_X10_leaves at ho
  refine lv_aload_n hx hb dX10_leaves_0 rfl (lv_at hl 0 rfl) ?_
  refine lv_iload_n hx hb dX10_leaves_1 rfl (lv_at hl 1 rfl) ?_
  refine lv_iload_n hx hb dX10_leaves_2 rfl (lv_at hl 2 rfl) ?_
  obtain ⟨q1, σ2, hq1, ho⟩ := bnm_ ho
  refine k_iV (As := [.int a0, .int a1]) (rest := []) S F B (c_X10_areCells l G σ _ a0 a1 hq1) (kq (by decide) : kd 198 = 21 ∧ 198 < NN) rfl rfl (cwV 2 hts gX10_leaves_X10_areCells rfl rfl rfl (by decide +kernel) ⟨Nat.le_of_ble_eq_true rfl, Nat.le_of_ble_eq_true rfl⟩) rfl hl.1 rfl (Nat.le_of_ble_eq_true rfl) dX10_leaves_3 ⟨Nat.le_of_ble_eq_true rfl, Nat.le_of_ble_eq_true rfl⟩ (fun H locs B => ?_)
  refine lv_if_ne (tgt := 11) hx hb dX10_leaves_6 (by decide) (fun c3 => ?_) (fun c3 => ?_)
  · have ho := in_ c3 ho
    refine lv_iload_n hx hb dX10_leaves_11 rfl (lv_at hl 1 rfl) ?_
    refine lv_iload_n hx hb dX10_leaves_12 rfl (lv_at hl 2 rfl) ?_
    obtain ⟨q4, hq4, ho⟩ := bnd_ ho
    refine k_iS (As := [.int a0, .int a1]) (rest := []) S F B (c_X10_hedgeAt l G σ2 _ a0 a1 hq4) (va_cwS 2 hts gX10_leaves_X10_hedgeAt rfl rfl rfl (by decide +kernel) ⟨Nat.le_of_ble_eq_true rfl, Nat.le_of_ble_eq_true rfl⟩) rfl hl.1 rfl (Nat.le_of_ble_eq_true rfl) dX10_leaves_13 ⟨Nat.le_of_ble_eq_true rfl, Nat.le_of_ble_eq_true rfl⟩ (fun H locs B => ?_)
    refine lv_istore_n (lv' := [(3, .int q4), (0, .ref (G.2.2 198)), (1, .int a0), (2, .int a1)]) hx hb dX10_leaves_16 rfl hl (by decide) rfl (fun ls hl => ?_)
    refine lv_iload_n hx hb dX10_leaves_17 rfl (lv_at hl 0 rfl) ?_
    refine lv_iconst (v := (-1)) hx hb dX10_leaves_18 (by decide) ?_
    refine lv_icmp_ne (tgt := 30) hx hb dX10_leaves_19 (by decide) (fun c5 => ?_) (fun c5 => ?_)
    · have ho := in_ c5 ho
      refine lv_aload_n hx hb dX10_leaves_30 rfl (lv_at hl 1 rfl) ?_
      refine r_get (ci := 14) (C := RX10) (T := TX10) (N := 21) S F B (kq (by decide) : kd 198 = 21 ∧ 198 < NN) rfl rfl hiX10 0 (by decide) (by decide +kernel) rfl dX10_leaves_31 ?_
      refine lv_iload_n hx hb dX10_leaves_34 rfl (lv_at hl 0 rfl) ?_
      obtain ⟨hi, ho⟩ := gd_ ho
      refine r_iald S F B (kq (by decide) : kd 199 = 22 ∧ 199 < NN) rfl hi dX10_leaves_35 ?_
      cases ho
      exact e_i B hx hb hr hlocks rfl rfl dX10_leaves_36
    · have ho := ip_ c5 ho
      refine lv_aload_n hx hb dX10_leaves_22 rfl (lv_at hl 1 rfl) ?_
      refine lv_iconst (v := 2) hx hb dX10_leaves_23 (by decide) ?_
      obtain ⟨q6, σ7, hq6, ho⟩ := bnm_ ho
      refine k_iV (As := [.int 2]) (rest := []) S F B (c_X10_throwing l G σ2 _ 2 hq6) (kq (by decide) : kd 198 = 21 ∧ 198 < NN) rfl rfl (cwV 1 hts gX10_leaves_X10_throwing rfl rfl rfl (by decide +kernel) ⟨Nat.le_of_ble_eq_true rfl, Nat.le_of_ble_eq_true rfl⟩) rfl hl.1 rfl (Nat.le_of_ble_eq_true rfl) dX10_leaves_24 ⟨Nat.le_of_ble_eq_true rfl, Nat.le_of_ble_eq_true rfl⟩ (fun H locs B => ?_)
      refine lv_goto (tgt := 36) hx hb dX10_leaves_27 (by decide) ?_
      cases ho
      exact e_i B hx hb hr hlocks rfl rfl dX10_leaves_36
  · have ho := ip_ c3 ho
    refine lv_iconst (v := (-1)) hx hb dX10_leaves_9 (by decide) ?_
    cases ho
    exact e_i B hx hb hr hlocks rfl rfl dX10_leaves_10

set_option maxHeartbeats 4000000 in
set_option maxRecDepth 100000 in
theorem c_X10_isGap (l : Launch) (G : Gd) (σ : Mm) (sz : Nat) (a0 : Int32) (a1 : Int32) {out : Int32 × Mm} (ho : f_X10_isGap a0 a1 σ = some out) : Met l yX10_isGap wsX10_isGap { frames := 3, cells := 0, slots := 0, locals := 67 } (va_Pc [.ref (G.2.2 198), .int a0, .int a1] (PW G σ sz)) (Qi G sz out.1 out.2) 0 0 (AA G sz) := by
  refine Met.ofW (cc := cX10_isGap) (maxL := 3) (ret := (some .boolean)) (by decide) rfl ?_
  intro p e s m args below meth c s₁ B0 hml hv
  obtain ⟨rfl, hpw⟩ := hv
  have hsz := hpw.1
  subst hsz
  obtain ⟨F, B⟩ := hpw.to
  have hx := B0.exec
  have hb := B0.bytes
  have hr := B0.returns
  have hts := atoms_spec (ws := wsX10_isGap) B0.pre
  have hown : s.vm.findClass RX10 = some m.cls := findClass_of_methodNamed B0.named
  have hlocks := B0.notSynchronized
  have S : CallFix p m c cX10_isGap 3 s _ wsX10_isGap RX10 := ⟨hx, hb, hml, hown, hts⟩
  have hl := lv_entry [.ref (G.2.2 198), .int a0, .int a1] (n := 3) (Nat.le_of_ble_eq_true rfl)
  rw [lg_entry_eq]
  generalize (lg_sl [.ref (G.2.2 198), .int a0, .int a1] ++ List.replicate (3 - (lg_sl [.ref (G.2.2 198), .int a0, .int a1]).length) Slot.unset).toArray = ls at hl ⊢
  have hl : lv_has ls 3 [(0, .ref (G.2.2 198)), (1, .int a0), (2, .int a1)] := hl
  unfold f_X10_isGap at ho
  refine lv_aload_n hx hb dX10_isGap_0 rfl (lv_at hl 0 rfl) ?_
  refine lv_iload_n hx hb dX10_isGap_1 rfl (lv_at hl 1 rfl) ?_
  refine lv_iload_n hx hb dX10_isGap_2 rfl (lv_at hl 2 rfl) ?_
  obtain ⟨q1, σ2, hq1, ho⟩ := bnm_ ho
  refine k_iV (As := [.int a0, .int a1]) (rest := []) S F B (c_X10_areCells l G σ _ a0 a1 hq1) (kq (by decide) : kd 198 = 21 ∧ 198 < NN) rfl rfl (cwV 2 hts gX10_isGap_X10_areCells rfl rfl rfl (by decide +kernel) ⟨Nat.le_of_ble_eq_true rfl, Nat.le_of_ble_eq_true rfl⟩) rfl hl.1 rfl (Nat.le_of_ble_eq_true rfl) dX10_isGap_3 ⟨Nat.le_of_ble_eq_true rfl, Nat.le_of_ble_eq_true rfl⟩ (fun H locs B => ?_)
  refine lv_if_eq (tgt := 25) hx hb dX10_isGap_6 (by decide) (fun c3 => ?_) (fun c3 => ?_)
  · have ho := ip_ c3 ho
    refine lv_iconst (v := 0) hx hb dX10_isGap_25 (by decide) ?_
    cases ho
    exact e_i B hx hb hr hlocks rfl rfl dX10_isGap_26
  · have ho := in_ c3 ho
    refine lv_aload_n hx hb dX10_isGap_9 rfl (lv_at hl 0 rfl) ?_
    refine lv_iload_n hx hb dX10_isGap_10 rfl (lv_at hl 1 rfl) ?_
    refine lv_iload_n hx hb dX10_isGap_11 rfl (lv_at hl 2 rfl) ?_
    obtain ⟨q4, hq4, ho⟩ := bnd_ ho
    refine k_iS (As := [.int a0, .int a1]) (rest := [.ref (G.2.2 198)]) S F B (c_X10_hedgeAt l G σ2 _ a0 a1 hq4) (va_cwS 2 hts gX10_isGap_X10_hedgeAt rfl rfl rfl (by decide +kernel) ⟨Nat.le_of_ble_eq_true rfl, Nat.le_of_ble_eq_true rfl⟩) rfl hl.1 rfl (Nat.le_of_ble_eq_true rfl) dX10_isGap_12 ⟨Nat.le_of_ble_eq_true rfl, Nat.le_of_ble_eq_true rfl⟩ (fun H locs B => ?_)
    obtain ⟨q5, hq5, ho⟩ := bnd_ ho
    refine k_iV (As := [.int q4]) (rest := []) S F B (c_X10_isGapAt l G σ2 _ q4 hq5) (kq (by decide) : kd 198 = 21 ∧ 198 < NN) rfl rfl (cwV 1 hts gX10_isGap_X10_isGapAt rfl rfl rfl (by decide +kernel) ⟨Nat.le_of_ble_eq_true rfl, Nat.le_of_ble_eq_true rfl⟩) rfl hl.1 rfl (Nat.le_of_ble_eq_true rfl) dX10_isGap_15 ⟨Nat.le_of_ble_eq_true rfl, Nat.le_of_ble_eq_true rfl⟩ (fun H locs B => ?_)
    refine lv_if_eq (tgt := 25) hx hb dX10_isGap_18 (by decide) (fun c6 => ?_) (fun c6 => ?_)
    · have ho := ip_ c6 ho
      refine lv_iconst (v := 0) hx hb dX10_isGap_25 (by decide) ?_
      cases ho
      exact e_i B hx hb hr hlocks rfl rfl dX10_isGap_26
    · have ho := in_ c6 ho
      refine lv_iconst (v := 1) hx hb dX10_isGap_21 (by decide) ?_
      refine lv_goto (tgt := 26) hx hb dX10_isGap_22 (by decide) ?_
      cases ho
      exact e_i B hx hb hr hlocks rfl rfl dX10_isGap_26

set_option maxHeartbeats 4000000 in
set_option maxRecDepth 100000 in
theorem c_X10_hours (l : Launch) (G : Gd) (σ : Mm) (sz : Nat) (a0 : Int32) (a1 : Int32) {out : Int32 × Mm} (ho : f_X10_hours a0 a1 σ = some out) : Met l yX10_hours wsX10_hours { frames := 4, cells := 0, slots := 0, locals := 105 } (va_Pc [.ref (G.2.2 198), .int a0, .int a1] (PW G σ sz)) (Qi G sz out.1 out.2) 0 0 (AA G sz) := by
  refine Met.ofW (cc := cX10_hours) (maxL := 4) (ret := (some .int)) (by decide) rfl ?_
  intro p e s m args below meth c s₁ B0 hml hv
  obtain ⟨rfl, hpw⟩ := hv
  have hsz := hpw.1
  subst hsz
  obtain ⟨F, B⟩ := hpw.to
  have hx := B0.exec
  have hb := B0.bytes
  have hr := B0.returns
  have hts := atoms_spec (ws := wsX10_hours) B0.pre
  have hown : s.vm.findClass RX10 = some m.cls := findClass_of_methodNamed B0.named
  have hlocks := B0.notSynchronized
  have S : CallFix p m c cX10_hours 4 s _ wsX10_hours RX10 := ⟨hx, hb, hml, hown, hts⟩
  have hl := lv_entry [.ref (G.2.2 198), .int a0, .int a1] (n := 4) (Nat.le_of_ble_eq_true rfl)
  rw [lg_entry_eq]
  generalize (lg_sl [.ref (G.2.2 198), .int a0, .int a1] ++ List.replicate (4 - (lg_sl [.ref (G.2.2 198), .int a0, .int a1]).length) Slot.unset).toArray = ls at hl ⊢
  have hl : lv_has ls 4 [(0, .ref (G.2.2 198)), (1, .int a0), (2, .int a1)] := hl
  unfold f_X10_hours at ho
  refine lv_aload_n hx hb dX10_hours_0 rfl (lv_at hl 0 rfl) ?_
  refine lv_iload_n hx hb dX10_hours_1 rfl (lv_at hl 1 rfl) ?_
  refine lv_iload_n hx hb dX10_hours_2 rfl (lv_at hl 2 rfl) ?_
  obtain ⟨q1, σ2, hq1, ho⟩ := bnm_ ho
  refine k_iV (As := [.int a0, .int a1]) (rest := []) S F B (c_X10_areCells l G σ _ a0 a1 hq1) (kq (by decide) : kd 198 = 21 ∧ 198 < NN) rfl rfl (cwV 2 hts gX10_hours_X10_areCells rfl rfl rfl (by decide +kernel) ⟨Nat.le_of_ble_eq_true rfl, Nat.le_of_ble_eq_true rfl⟩) rfl hl.1 rfl (Nat.le_of_ble_eq_true rfl) dX10_hours_3 ⟨Nat.le_of_ble_eq_true rfl, Nat.le_of_ble_eq_true rfl⟩ (fun H locs B => ?_)
  refine lv_if_ne (tgt := 11) hx hb dX10_hours_6 (by decide) (fun c3 => ?_) (fun c3 => ?_)
  · have ho := in_ c3 ho
    refine lv_aload_n hx hb dX10_hours_11 rfl (lv_at hl 0 rfl) ?_
    refine lv_iload_n hx hb dX10_hours_12 rfl (lv_at hl 1 rfl) ?_
    refine lv_iload_n hx hb dX10_hours_13 rfl (lv_at hl 2 rfl) ?_
    obtain ⟨q4, σ5, hq4, ho⟩ := bnm_ ho
    refine k_iV (As := [.int a0, .int a1]) (rest := []) S F B (c_X10_hoursOf l G σ2 _ a0 a1 hq4) (kq (by decide) : kd 198 = 21 ∧ 198 < NN) rfl rfl (cwV 2 hts gX10_hours_X10_hoursOf rfl rfl rfl (by decide +kernel) ⟨Nat.le_of_ble_eq_true rfl, Nat.le_of_ble_eq_true rfl⟩) rfl hl.1 rfl (Nat.le_of_ble_eq_true rfl) dX10_hours_14 ⟨Nat.le_of_ble_eq_true rfl, Nat.le_of_ble_eq_true rfl⟩ (fun H locs B => ?_)
    refine lv_istore_n (lv' := [(3, .int q4), (0, .ref (G.2.2 198)), (1, .int a0), (2, .int a1)]) hx hb dX10_hours_17 rfl hl (by decide) rfl (fun ls hl => ?_)
    refine lv_iload_n hx hb dX10_hours_18 rfl (lv_at hl 0 rfl) ?_
    refine lv_iconst (v := (-1)) hx hb dX10_hours_19 (by decide) ?_
    refine lv_icmp_ne (tgt := 31) hx hb dX10_hours_20 (by decide) (fun c6 => ?_) (fun c6 => ?_)
    · have ho := in_ c6 ho
      refine lv_iload_n hx hb dX10_hours_31 rfl (lv_at hl 0 rfl) ?_
      cases ho
      exact e_i B hx hb hr hlocks rfl rfl dX10_hours_32
    · have ho := ip_ c6 ho
      refine lv_aload_n hx hb dX10_hours_23 rfl (lv_at hl 1 rfl) ?_
      refine lv_iconst (v := 2) hx hb dX10_hours_24 (by decide) ?_
      obtain ⟨q7, σ8, hq7, ho⟩ := bnm_ ho
      refine k_iV (As := [.int 2]) (rest := []) S F B (c_X10_throwing l G σ5 _ 2 hq7) (kq (by decide) : kd 198 = 21 ∧ 198 < NN) rfl rfl (cwV 1 hts gX10_hours_X10_throwing rfl rfl rfl (by decide +kernel) ⟨Nat.le_of_ble_eq_true rfl, Nat.le_of_ble_eq_true rfl⟩) rfl hl.1 rfl (Nat.le_of_ble_eq_true rfl) dX10_hours_25 ⟨Nat.le_of_ble_eq_true rfl, Nat.le_of_ble_eq_true rfl⟩ (fun H locs B => ?_)
      refine lv_goto (tgt := 32) hx hb dX10_hours_28 (by decide) ?_
      cases ho
      exact e_i B hx hb hr hlocks rfl rfl dX10_hours_32
  · have ho := ip_ c3 ho
    refine lv_iconst (v := (-1)) hx hb dX10_hours_9 (by decide) ?_
    cases ho
    exact e_i B hx hb hr hlocks rfl rfl dX10_hours_10

set_option maxHeartbeats 4000000 in
set_option maxRecDepth 100000 in
theorem c_X10_hoursAgain (l : Launch) (G : Gd) (σ : Mm) (sz : Nat) (a0 : Int32) (a1 : Int32) {out : Int32 × Mm} (ho : f_X10_hoursAgain a0 a1 σ = some out) : Met l yX10_hoursAgain wsX10_hoursAgain { frames := 5, cells := 0, slots := 0, locals := 128 } (va_Pc [.ref (G.2.2 198), .int a0, .int a1] (PW G σ sz)) (Qi G sz out.1 out.2) 0 0 (AA G sz) := by
  refine Met.ofW (cc := cX10_hoursAgain) (maxL := 3) (ret := (some .int)) (by decide) rfl ?_
  intro p e s m args below meth c s₁ B0 hml hv
  obtain ⟨rfl, hpw⟩ := hv
  have hsz := hpw.1
  subst hsz
  obtain ⟨F, B⟩ := hpw.to
  have hx := B0.exec
  have hb := B0.bytes
  have hr := B0.returns
  have hts := atoms_spec (ws := wsX10_hoursAgain) B0.pre
  have hown : s.vm.findClass RX10 = some m.cls := findClass_of_methodNamed B0.named
  have hlocks := B0.notSynchronized
  have S : CallFix p m c cX10_hoursAgain 3 s _ wsX10_hoursAgain RX10 := ⟨hx, hb, hml, hown, hts⟩
  have hl := lv_entry [.ref (G.2.2 198), .int a0, .int a1] (n := 3) (Nat.le_of_ble_eq_true rfl)
  rw [lg_entry_eq]
  generalize (lg_sl [.ref (G.2.2 198), .int a0, .int a1] ++ List.replicate (3 - (lg_sl [.ref (G.2.2 198), .int a0, .int a1]).length) Slot.unset).toArray = ls at hl ⊢
  have hl : lv_has ls 3 [(0, .ref (G.2.2 198)), (1, .int a0), (2, .int a1)] := hl
  unfold f_X10_hoursAgain at ho
  refine lv_aload_n hx hb dX10_hoursAgain_0 rfl (lv_at hl 0 rfl) ?_
  refine lv_iload_n hx hb dX10_hoursAgain_1 rfl (lv_at hl 1 rfl) ?_
  refine lv_iload_n hx hb dX10_hoursAgain_2 rfl (lv_at hl 2 rfl) ?_
  obtain ⟨q1, σ2, hq1, ho⟩ := bnm_ ho
  refine k_iV (As := [.int a0, .int a1]) (rest := []) S F B (c_X10_hours l G σ _ a0 a1 hq1) (kq (by decide) : kd 198 = 21 ∧ 198 < NN) rfl rfl (cwV 2 hts gX10_hoursAgain_X10_hours rfl rfl rfl (by decide +kernel) ⟨Nat.le_of_ble_eq_true rfl, Nat.le_of_ble_eq_true rfl⟩) rfl hl.1 rfl (Nat.le_of_ble_eq_true rfl) dX10_hoursAgain_3 ⟨Nat.le_of_ble_eq_true rfl, Nat.le_of_ble_eq_true rfl⟩ (fun H locs B => ?_)
  cases ho
  exact e_i B hx hb hr hlocks rfl rfl dX10_hoursAgain_6

set_option maxHeartbeats 4000000 in
set_option maxRecDepth 100000 in
theorem c_X10_next (l : Launch) (G : Gd) (σ : Mm) (sz : Nat) (a0 : Int32) {out : Int32 × Mm} (ho : f_X10_next a0 σ = some out) : Met l yX10_next wsX10_next { frames := 3, cells := 0, slots := 0, locals := 83 } (va_Pc [.ref (G.2.2 198), .int a0] (PW G σ sz)) (Qi G sz out.1 out.2) 0 0 (AA G sz) := by
  refine Met.ofW (cc := cX10_next) (maxL := 3) (ret := (some .int)) (by decide) rfl ?_
  intro p e s m args below meth c s₁ B0 hml hv
  obtain ⟨rfl, hpw⟩ := hv
  have hsz := hpw.1
  subst hsz
  obtain ⟨F, B⟩ := hpw.to
  have hx := B0.exec
  have hb := B0.bytes
  have hr := B0.returns
  have hts := atoms_spec (ws := wsX10_next) B0.pre
  have hown : s.vm.findClass RX10 = some m.cls := findClass_of_methodNamed B0.named
  have hlocks := B0.notSynchronized
  have S : CallFix p m c cX10_next 3 s _ wsX10_next RX10 := ⟨hx, hb, hml, hown, hts⟩
  have hiX10 : ∀ w ∈ u_ws RX10 TX10 21, w ∈ wsX10_next := by decide +kernel
  have hl := lv_entry [.ref (G.2.2 198), .int a0] (n := 3) (Nat.le_of_ble_eq_true rfl)
  rw [lg_entry_eq]
  generalize (lg_sl [.ref (G.2.2 198), .int a0] ++ List.replicate (3 - (lg_sl [.ref (G.2.2 198), .int a0]).length) Slot.unset).toArray = ls at hl ⊢
  have hl : lv_has ls 3 [(0, .ref (G.2.2 198)), (1, .int a0)] := hl
  unfold f_X10_next at ho
  skip
  refine lv_aload_n hx hb dX10_next_0 rfl (lv_at hl 0 rfl) ?_
  refine lv_iload_n hx hb dX10_next_1 rfl (lv_at hl 1 rfl) ?_
  refine lv_iload_n hx hb dX10_next_2 rfl (lv_at hl 1 rfl) ?_
  obtain ⟨q1, σ2, hq1, ho⟩ := bnm_ ho
  refine k_iV (As := [.int a0, .int a0]) (rest := []) S F B (c_X10_areCells l G σ _ a0 a0 hq1) (kq (by decide) : kd 198 = 21 ∧ 198 < NN) rfl rfl (cwV 2 hts gX10_next_X10_areCells rfl rfl rfl (by decide +kernel) ⟨Nat.le_of_ble_eq_true rfl, Nat.le_of_ble_eq_true rfl⟩) rfl hl.1 rfl (Nat.le_of_ble_eq_true rfl) dX10_next_3 ⟨Nat.le_of_ble_eq_true rfl, Nat.le_of_ble_eq_true rfl⟩ (fun H locs B => ?_)
  refine lv_if_ne (tgt := 11) hx hb dX10_next_6 (by decide) (fun c3 => ?_) (fun c3 => ?_)
  · have ho := in_ c3 ho
    refine lv_aload_n hx hb dX10_next_11 rfl (lv_at hl 0 rfl) ?_
    refine lv_bipush (v := 15) hx hb dX10_next_12 (by decide) ?_
    refine lv_iconst (v := 0) hx hb dX10_next_14 (by decide) ?_
    obtain ⟨σ5, hq4, ho⟩ := bnd_ ho
    refine k_vV (As := [.int 15, .int 0]) (rest := []) S F B (c_X10_laysWays l G σ2 _ 15 0 hq4) (kq (by decide) : kd 198 = 21 ∧ 198 < NN) rfl rfl (cwV 2 hts gX10_next_X10_laysWays rfl rfl rfl (by decide +kernel) ⟨Nat.le_of_ble_eq_true rfl, Nat.le_of_ble_eq_true rfl⟩) rfl hl.1 rfl (Nat.le_of_ble_eq_true rfl) dX10_next_15 ⟨Nat.le_of_ble_eq_true rfl, Nat.le_of_ble_eq_true rfl⟩ (fun H locs B => ?_)
    refine lv_iload_n hx hb dX10_next_18 rfl (lv_at hl 1 rfl) ?_
    refine lv_bipush (v := 15) hx hb dX10_next_19 (by decide) ?_
    refine lv_icmp_eq (tgt := 35) hx hb dX10_next_21 (by decide) (fun c6 => ?_) (fun c6 => ?_)
    · have ho := ip_ c6 ho
      refine lv_aload_n hx hb dX10_next_35 rfl (lv_at hl 0 rfl) ?_
      refine lv_iconst (v := 2) hx hb dX10_next_36 (by decide) ?_
      obtain ⟨q7, σ8, hq7, ho⟩ := bnm_ ho
      refine k_iV (As := [.int 2]) (rest := []) S F B (c_X10_throwing l G σ5 _ 2 hq7) (kq (by decide) : kd 198 = 21 ∧ 198 < NN) rfl rfl (cwV 1 hts gX10_next_X10_throwing rfl rfl rfl (by decide +kernel) ⟨Nat.le_of_ble_eq_true rfl, Nat.le_of_ble_eq_true rfl⟩) rfl hl.1 rfl (Nat.le_of_ble_eq_true rfl) dX10_next_37 ⟨Nat.le_of_ble_eq_true rfl, Nat.le_of_ble_eq_true rfl⟩ (fun H locs B => ?_)
      cases ho
      exact e_i B hx hb hr hlocks rfl rfl dX10_next_40
    · have ho := in_ c6 ho
      refine lv_aload_n hx hb dX10_next_24 rfl (lv_at hl 0 rfl) ?_
      refine r_get (ci := 14) (C := RX10) (T := TX10) (N := 21) S F B (kq (by decide) : kd 198 = 21 ∧ 198 < NN) rfl rfl hiX10 13 (by decide) (by decide +kernel) rfl dX10_next_25 ?_
      refine lv_iload_n hx hb dX10_next_28 rfl (lv_at hl 1 rfl) ?_
      obtain ⟨hi, ho⟩ := gd_ ho
      refine r_iald S F B (kq (by decide) : kd 204 = 12 ∧ 204 < NN) rfl hi dX10_next_29 ?_
      refine lv_bipush (v := 99) hx hb dX10_next_30 (by decide) ?_
      refine lv_icmp_lt (tgt := 41) hx hb dX10_next_32 (by decide) (fun c9 => ?_) (fun c9 => ?_)
      · have ho := ip_ c9 ho
        refine lv_iconst (v := 0) hx hb dX10_next_41 (by decide) ?_
        refine lv_istore_n (lv' := [(2, .int 0), (0, .ref (G.2.2 198)), (1, .int a0)]) hx hb dX10_next_42 rfl hl (by decide) rfl (fun ls hl => ?_)
        have hloop43 : ∀ (n : Nat) (v12 : Int32) (H : Heap) (locs : List Loc) (ls : Array Slot), f_X10_next_l43  a0 σ5 n v12 = some out → Bd G σ5 s H locs → lv_has ls 3 [(2, .int v12), (0, .ref (G.2.2 198)), (1, .int a0)] → W p l e (headSpec wsX10_next { frames := 3, cells := 0, slots := 0, locals := 83 }).room s m #[.ref (G.2.2 198), .int a0] below meth c H locs 0 0 (MQ below (Qi G s.heap.size out.1 out.2) #[.ref (G.2.2 198), .int a0] s 0 0 (AA G s.heap.size)) (F0 m 43 ls []) := by
          intro n
          induction n with
          | zero => intro v12 H locs ls ho B hl; cases ho
          | succ n ih =>
            intro v12 H locs ls ho B hl
            refine lv_iload_n hx hb dX10_next_43 rfl (lv_at hl 2 rfl) ?_
            refine lv_iload_n hx hb dX10_next_44 rfl (lv_at hl 0 rfl) ?_
            obtain ⟨q13, hq13, ho⟩ := bnd_ ho
            refine k_iS (As := [.int a0, .int v12]) (rest := []) S F B (c_X10_hedgeAt l G σ5 _ a0 v12 hq13) (va_cwS 2 hts gX10_next_X10_hedgeAt rfl rfl rfl (by decide +kernel) ⟨Nat.le_of_ble_eq_true rfl, Nat.le_of_ble_eq_true rfl⟩) rfl hl.1 rfl (Nat.le_of_ble_eq_true rfl) dX10_next_45 ⟨Nat.le_of_ble_eq_true rfl, Nat.le_of_ble_eq_true rfl⟩ (fun H locs B => ?_)
            refine lv_iconst (v := (-1)) hx hb dX10_next_48 (by decide) ?_
            refine lv_icmp_eq (tgt := 81) hx hb dX10_next_49 (by decide) (fun c14 => ?_) (fun c14 => ?_)
            · have ho := ip_ c14 ho
              obtain ⟨x15, ex15, ho⟩ := lt_ ho
              refine lv_iinc (v := x15) (lv' := [(2, .int x15), (0, .ref (G.2.2 198)), (1, .int a0)]) hx hb dX10_next_81 hl (k := 0) rfl (by rw [ex15]; rfl) (by decide) rfl (fun ls hl => ?_)
              refine lv_goto (tgt := 43) hx hb dX10_next_84 (by decide) ?_
              exact ih _  _ _ _ ho B (lv_sub hl [0, 1, 2] rfl)
            · have ho := in_ c14 ho
              refine lv_aload_n hx hb dX10_next_52 rfl (lv_at hl 1 rfl) ?_
              refine lv_iload_n hx hb dX10_next_53 rfl (lv_at hl 2 rfl) ?_
              refine lv_iload_n hx hb dX10_next_54 rfl (lv_at hl 0 rfl) ?_
              obtain ⟨q16, hq16, ho⟩ := bnd_ ho
              refine k_iS (As := [.int a0, .int v12]) (rest := [.ref (G.2.2 198)]) S F B (c_X10_hedgeAt l G σ5 _ a0 v12 hq16) (va_cwS 2 hts gX10_next_X10_hedgeAt rfl rfl rfl (by decide +kernel) ⟨Nat.le_of_ble_eq_true rfl, Nat.le_of_ble_eq_true rfl⟩) rfl hl.1 rfl (Nat.le_of_ble_eq_true rfl) dX10_next_55 ⟨Nat.le_of_ble_eq_true rfl, Nat.le_of_ble_eq_true rfl⟩ (fun H locs B => ?_)
              obtain ⟨q17, hq17, ho⟩ := bnd_ ho
              refine k_iV (As := [.int q16]) (rest := []) S F B (c_X10_isGapAt l G σ5 _ q16 hq17) (kq (by decide) : kd 198 = 21 ∧ 198 < NN) rfl rfl (cwV 1 hts gX10_next_X10_isGapAt rfl rfl rfl (by decide +kernel) ⟨Nat.le_of_ble_eq_true rfl, Nat.le_of_ble_eq_true rfl⟩) rfl hl.1 rfl (Nat.le_of_ble_eq_true rfl) dX10_next_58 ⟨Nat.le_of_ble_eq_true rfl, Nat.le_of_ble_eq_true rfl⟩ (fun H locs B => ?_)
              refine lv_if_eq (tgt := 81) hx hb dX10_next_61 (by decide) (fun c18 => ?_) (fun c18 => ?_)
              · have ho := ip_ c18 ho
                obtain ⟨x19, ex19, ho⟩ := lt_ ho
                refine lv_iinc (v := x19) (lv' := [(2, .int x19), (0, .ref (G.2.2 198)), (1, .int a0)]) hx hb dX10_next_81 hl (k := 0) rfl (by rw [ex19]; rfl) (by decide) rfl (fun ls hl => ?_)
                refine lv_goto (tgt := 43) hx hb dX10_next_84 (by decide) ?_
                exact ih _  _ _ _ ho B (lv_sub hl [0, 1, 2] rfl)
              · have ho := in_ c18 ho
                refine lv_aload_n hx hb dX10_next_64 rfl (lv_at hl 1 rfl) ?_
                refine r_get (ci := 14) (C := RX10) (T := TX10) (N := 21) S F B (kq (by decide) : kd 198 = 21 ∧ 198 < NN) rfl rfl hiX10 13 (by decide) (by decide +kernel) rfl dX10_next_65 ?_
                refine lv_iload_n hx hb dX10_next_68 rfl (lv_at hl 0 rfl) ?_
                obtain ⟨hi, ho⟩ := gd_ ho
                refine r_iald S F B (kq (by decide) : kd 204 = 12 ∧ 204 < NN) rfl hi dX10_next_69 ?_
                refine lv_aload_n hx hb dX10_next_70 rfl (lv_at hl 1 rfl) ?_
                refine r_get (ci := 14) (C := RX10) (T := TX10) (N := 21) S F B (kq (by decide) : kd 198 = 21 ∧ 198 < NN) rfl rfl hiX10 13 (by decide) (by decide +kernel) rfl dX10_next_71 ?_
                refine lv_iload_n hx hb dX10_next_74 rfl (lv_at hl 2 rfl) ?_
                obtain ⟨hi, ho⟩ := gd_ ho
                refine r_iald S F B (kq (by decide) : kd 204 = 12 ∧ 204 < NN) rfl hi dX10_next_75 ?_
                refine lv_iconst (v := 1) hx hb dX10_next_76 (by decide) ?_
                refine lv_isub hx hb dX10_next_77 ?_
                refine lv_icmp_eq (tgt := 87) hx hb dX10_next_78 (by decide) (fun c20 => ?_) (fun c20 => ?_)
                · have ho := ip_ c20 ho
                  refine lv_iload_n hx hb dX10_next_87 rfl (lv_at hl 0 rfl) ?_
                  cases ho
                  exact e_i B hx hb hr hlocks rfl rfl dX10_next_88
                · have ho := in_ c20 ho
                  obtain ⟨x21, ex21, ho⟩ := lt_ ho
                  refine lv_iinc (v := x21) (lv' := [(2, .int x21), (0, .ref (G.2.2 198)), (1, .int a0)]) hx hb dX10_next_81 hl (k := 0) rfl (by rw [ex21]; rfl) (by decide) rfl (fun ls hl => ?_)
                  refine lv_goto (tgt := 43) hx hb dX10_next_84 (by decide) ?_
                  exact ih _  _ _ _ ho B (lv_sub hl [0, 1, 2] rfl)
        exact hloop43 20 _  _ _ _ ho B hl
      · have ho := in_ c9 ho
        refine lv_aload_n hx hb dX10_next_35 rfl (lv_at hl 0 rfl) ?_
        refine lv_iconst (v := 2) hx hb dX10_next_36 (by decide) ?_
        obtain ⟨q22, σ23, hq22, ho⟩ := bnm_ ho
        refine k_iV (As := [.int 2]) (rest := []) S F B (c_X10_throwing l G σ5 _ 2 hq22) (kq (by decide) : kd 198 = 21 ∧ 198 < NN) rfl rfl (cwV 1 hts gX10_next_X10_throwing rfl rfl rfl (by decide +kernel) ⟨Nat.le_of_ble_eq_true rfl, Nat.le_of_ble_eq_true rfl⟩) rfl hl.1 rfl (Nat.le_of_ble_eq_true rfl) dX10_next_37 ⟨Nat.le_of_ble_eq_true rfl, Nat.le_of_ble_eq_true rfl⟩ (fun H locs B => ?_)
        cases ho
        exact e_i B hx hb hr hlocks rfl rfl dX10_next_40
  · have ho := ip_ c3 ho
    refine lv_iconst (v := (-1)) hx hb dX10_next_9 (by decide) ?_
    cases ho
    exact e_i B hx hb hr hlocks rfl rfl dX10_next_10

set_option maxHeartbeats 4000000 in
set_option maxRecDepth 100000 in
theorem c_X10_reached (l : Launch) (G : Gd) (σ : Mm) (sz : Nat) (a0 : Int32) {out : Int32 × Mm} (ho : f_X10_reached a0 σ = some out) : Met l yX10_reached wsX10_reached { frames := 4, cells := 0, slots := 0, locals := 106 } (va_Pc [.ref (G.2.2 198), .int a0] (PW G σ sz)) (Qi G sz out.1 out.2) 0 0 (AA G sz) := by
  refine Met.ofW (cc := cX10_reached) (maxL := 2) (ret := (some .int)) (by decide) rfl ?_
  intro p e s m args below meth c s₁ B0 hml hv
  obtain ⟨rfl, hpw⟩ := hv
  have hsz := hpw.1
  subst hsz
  obtain ⟨F, B⟩ := hpw.to
  have hx := B0.exec
  have hb := B0.bytes
  have hr := B0.returns
  have hts := atoms_spec (ws := wsX10_reached) B0.pre
  have hown : s.vm.findClass RX10 = some m.cls := findClass_of_methodNamed B0.named
  have hlocks := B0.notSynchronized
  have S : CallFix p m c cX10_reached 2 s _ wsX10_reached RX10 := ⟨hx, hb, hml, hown, hts⟩
  have hl := lv_entry [.ref (G.2.2 198), .int a0] (n := 2) (Nat.le_of_ble_eq_true rfl)
  rw [lg_entry_eq]
  generalize (lg_sl [.ref (G.2.2 198), .int a0] ++ List.replicate (2 - (lg_sl [.ref (G.2.2 198), .int a0]).length) Slot.unset).toArray = ls at hl ⊢
  have hl : lv_has ls 2 [(0, .ref (G.2.2 198)), (1, .int a0)] := hl
  unfold f_X10_reached at ho
  refine lv_aload_n hx hb dX10_reached_0 rfl (lv_at hl 0 rfl) ?_
  refine lv_iload_n hx hb dX10_reached_1 rfl (lv_at hl 1 rfl) ?_
  refine lv_iload_n hx hb dX10_reached_2 rfl (lv_at hl 1 rfl) ?_
  obtain ⟨q1, σ2, hq1, ho⟩ := bnm_ ho
  refine k_iV (As := [.int a0, .int a0]) (rest := []) S F B (c_X10_areCells l G σ _ a0 a0 hq1) (kq (by decide) : kd 198 = 21 ∧ 198 < NN) rfl rfl (cwV 2 hts gX10_reached_X10_areCells rfl rfl rfl (by decide +kernel) ⟨Nat.le_of_ble_eq_true rfl, Nat.le_of_ble_eq_true rfl⟩) rfl hl.1 rfl (Nat.le_of_ble_eq_true rfl) dX10_reached_3 ⟨Nat.le_of_ble_eq_true rfl, Nat.le_of_ble_eq_true rfl⟩ (fun H locs B => ?_)
  refine lv_if_eq (tgt := 17) hx hb dX10_reached_6 (by decide) (fun c3 => ?_) (fun c3 => ?_)
  · have ho := ip_ c3 ho
    refine lv_iconst (v := (-1)) hx hb dX10_reached_17 (by decide) ?_
    cases ho
    exact e_i B hx hb hr hlocks rfl rfl dX10_reached_18
  · have ho := in_ c3 ho
    refine lv_aload_n hx hb dX10_reached_9 rfl (lv_at hl 0 rfl) ?_
    refine lv_iload_n hx hb dX10_reached_10 rfl (lv_at hl 1 rfl) ?_
    obtain ⟨q4, σ5, hq4, ho⟩ := bnm_ ho
    refine k_iV (As := [.int a0]) (rest := []) S F B (c_X10_reachedFrom l G σ2 _ a0 hq4) (kq (by decide) : kd 198 = 21 ∧ 198 < NN) rfl rfl (cwV 1 hts gX10_reached_X10_reachedFrom rfl rfl rfl (by decide +kernel) ⟨Nat.le_of_ble_eq_true rfl, Nat.le_of_ble_eq_true rfl⟩) rfl hl.1 rfl (Nat.le_of_ble_eq_true rfl) dX10_reached_11 ⟨Nat.le_of_ble_eq_true rfl, Nat.le_of_ble_eq_true rfl⟩ (fun H locs B => ?_)
    refine lv_goto (tgt := 18) hx hb dX10_reached_14 (by decide) ?_
    cases ho
    exact e_i B hx hb hr hlocks rfl rfl dX10_reached_18

set_option maxHeartbeats 4000000 in
set_option maxRecDepth 100000 in
theorem c_X10_trims (l : Launch) (G : Gd) (σ : Mm) (sz : Nat) (a0 : Int32) {out : Int32 × Mm} (ho : f_X10_trims a0 σ = some out) : Met l yX10_trims wsX10_trims { frames := 3, cells := 0, slots := 0, locals := 83 } (va_Pc [.ref (G.2.2 198), .int a0] (PW G σ sz)) (Qi G sz out.1 out.2) 0 0 (AA G sz) := by
  refine Met.ofW (cc := cX10_trims) (maxL := 2) (ret := (some .int)) (by decide) rfl ?_
  intro p e s m args below meth c s₁ B0 hml hv
  obtain ⟨rfl, hpw⟩ := hv
  have hsz := hpw.1
  subst hsz
  obtain ⟨F, B⟩ := hpw.to
  have hx := B0.exec
  have hb := B0.bytes
  have hr := B0.returns
  have hts := atoms_spec (ws := wsX10_trims) B0.pre
  have hown : s.vm.findClass RX10 = some m.cls := findClass_of_methodNamed B0.named
  have hlocks := B0.notSynchronized
  have S : CallFix p m c cX10_trims 2 s _ wsX10_trims RX10 := ⟨hx, hb, hml, hown, hts⟩
  have hiX10 : ∀ w ∈ u_ws RX10 TX10 21, w ∈ wsX10_trims := by decide +kernel
  have hl := lv_entry [.ref (G.2.2 198), .int a0] (n := 2) (Nat.le_of_ble_eq_true rfl)
  rw [lg_entry_eq]
  generalize (lg_sl [.ref (G.2.2 198), .int a0] ++ List.replicate (2 - (lg_sl [.ref (G.2.2 198), .int a0]).length) Slot.unset).toArray = ls at hl ⊢
  have hl : lv_has ls 2 [(0, .ref (G.2.2 198)), (1, .int a0)] := hl
  unfold f_X10_trims at ho
  refine lv_aload_n hx hb dX10_trims_0 rfl (lv_at hl 0 rfl) ?_
  refine lv_iload_n hx hb dX10_trims_1 rfl (lv_at hl 1 rfl) ?_
  refine lv_iload_n hx hb dX10_trims_2 rfl (lv_at hl 1 rfl) ?_
  obtain ⟨q1, σ2, hq1, ho⟩ := bnm_ ho
  refine k_iV (As := [.int a0, .int a0]) (rest := []) S F B (c_X10_areCells l G σ _ a0 a0 hq1) (kq (by decide) : kd 198 = 21 ∧ 198 < NN) rfl rfl (cwV 2 hts gX10_trims_X10_areCells rfl rfl rfl (by decide +kernel) ⟨Nat.le_of_ble_eq_true rfl, Nat.le_of_ble_eq_true rfl⟩) rfl hl.1 rfl (Nat.le_of_ble_eq_true rfl) dX10_trims_3 ⟨Nat.le_of_ble_eq_true rfl, Nat.le_of_ble_eq_true rfl⟩ (fun H locs B => ?_)
  refine lv_if_ne (tgt := 11) hx hb dX10_trims_6 (by decide) (fun c3 => ?_) (fun c3 => ?_)
  · have ho := in_ c3 ho
    refine lv_aload_n hx hb dX10_trims_11 rfl (lv_at hl 0 rfl) ?_
    refine lv_iload_n hx hb dX10_trims_12 rfl (lv_at hl 1 rfl) ?_
    refine lv_iconst (v := 1) hx hb dX10_trims_13 (by decide) ?_
    obtain ⟨σ5, hq4, ho⟩ := bnd_ ho
    refine k_vV (As := [.int a0, .int 1]) (rest := []) S F B (c_X10_laysWays l G σ2 _ a0 1 hq4) (kq (by decide) : kd 198 = 21 ∧ 198 < NN) rfl rfl (cwV 2 hts gX10_trims_X10_laysWays rfl rfl rfl (by decide +kernel) ⟨Nat.le_of_ble_eq_true rfl, Nat.le_of_ble_eq_true rfl⟩) rfl hl.1 rfl (Nat.le_of_ble_eq_true rfl) dX10_trims_14 ⟨Nat.le_of_ble_eq_true rfl, Nat.le_of_ble_eq_true rfl⟩ (fun H locs B => ?_)
    refine lv_aload_n hx hb dX10_trims_17 rfl (lv_at hl 0 rfl) ?_
    refine r_get (ci := 14) (C := RX10) (T := TX10) (N := 21) S F B (kq (by decide) : kd 198 = 21 ∧ 198 < NN) rfl rfl hiX10 13 (by decide) (by decide +kernel) rfl dX10_trims_18 ?_
    refine lv_bipush (v := 15) hx hb dX10_trims_21 (by decide) ?_
    refine r_ialdc (j := 15) S F B (kq (by decide) : kd 204 = 12 ∧ 204 < NN) rfl (vpc (by decide)) (by decide) dX10_trims_23 ?_
    cases ho
    exact e_i B hx hb hr hlocks rfl rfl dX10_trims_24
  · have ho := ip_ c3 ho
    refine lv_iconst (v := (-1)) hx hb dX10_trims_9 (by decide) ?_
    cases ho
    exact e_i B hx hb hr hlocks rfl rfl dX10_trims_10

set_option maxHeartbeats 4000000 in
set_option maxRecDepth 100000 in
theorem c_X10_trimsAgain (l : Launch) (G : Gd) (σ : Mm) (sz : Nat) (a0 : Int32) {out : Int32 × Mm} (ho : f_X10_trimsAgain a0 σ = some out) : Met l yX10_trimsAgain wsX10_trimsAgain { frames := 4, cells := 0, slots := 0, locals := 104 } (va_Pc [.ref (G.2.2 198), .int a0] (PW G σ sz)) (Qi G sz out.1 out.2) 0 0 (AA G sz) := by
  refine Met.ofW (cc := cX10_trimsAgain) (maxL := 2) (ret := (some .int)) (by decide) rfl ?_
  intro p e s m args below meth c s₁ B0 hml hv
  obtain ⟨rfl, hpw⟩ := hv
  have hsz := hpw.1
  subst hsz
  obtain ⟨F, B⟩ := hpw.to
  have hx := B0.exec
  have hb := B0.bytes
  have hr := B0.returns
  have hts := atoms_spec (ws := wsX10_trimsAgain) B0.pre
  have hown : s.vm.findClass RX10 = some m.cls := findClass_of_methodNamed B0.named
  have hlocks := B0.notSynchronized
  have S : CallFix p m c cX10_trimsAgain 2 s _ wsX10_trimsAgain RX10 := ⟨hx, hb, hml, hown, hts⟩
  have hl := lv_entry [.ref (G.2.2 198), .int a0] (n := 2) (Nat.le_of_ble_eq_true rfl)
  rw [lg_entry_eq]
  generalize (lg_sl [.ref (G.2.2 198), .int a0] ++ List.replicate (2 - (lg_sl [.ref (G.2.2 198), .int a0]).length) Slot.unset).toArray = ls at hl ⊢
  have hl : lv_has ls 2 [(0, .ref (G.2.2 198)), (1, .int a0)] := hl
  unfold f_X10_trimsAgain at ho
  refine lv_aload_n hx hb dX10_trimsAgain_0 rfl (lv_at hl 0 rfl) ?_
  refine lv_iload_n hx hb dX10_trimsAgain_1 rfl (lv_at hl 1 rfl) ?_
  obtain ⟨q1, σ2, hq1, ho⟩ := bnm_ ho
  refine k_iV (As := [.int a0]) (rest := []) S F B (c_X10_trims l G σ _ a0 hq1) (kq (by decide) : kd 198 = 21 ∧ 198 < NN) rfl rfl (cwV 1 hts gX10_trimsAgain_X10_trims rfl rfl rfl (by decide +kernel) ⟨Nat.le_of_ble_eq_true rfl, Nat.le_of_ble_eq_true rfl⟩) rfl hl.1 rfl (Nat.le_of_ble_eq_true rfl) dX10_trimsAgain_2 ⟨Nat.le_of_ble_eq_true rfl, Nat.le_of_ble_eq_true rfl⟩ (fun H locs B => ?_)
  cases ho
  exact e_i B hx hb hr hlocks rfl rfl dX10_trimsAgain_5

set_option maxHeartbeats 4000000 in
set_option maxRecDepth 100000 in
theorem c_X10_isNeeded (l : Launch) (G : Gd) (σ : Mm) (sz : Nat) (a0 : Int32) (a1 : Int32) {out : Int32 × Mm} (ho : f_X10_isNeeded a0 a1 σ = some out) : Met l yX10_isNeeded wsX10_isNeeded { frames := 4, cells := 0, slots := 0, locals := 105 } (va_Pc [.ref (G.2.2 198), .int a0, .int a1] (PW G σ sz)) (Qi G sz out.1 out.2) 0 0 (AA G sz) := by
  refine Met.ofW (cc := cX10_isNeeded) (maxL := 6) (ret := (some .boolean)) (by decide) rfl ?_
  intro p e s m args below meth c s₁ B0 hml hv
  obtain ⟨rfl, hpw⟩ := hv
  have hsz := hpw.1
  subst hsz
  obtain ⟨F, B⟩ := hpw.to
  have hx := B0.exec
  have hb := B0.bytes
  have hr := B0.returns
  have hts := atoms_spec (ws := wsX10_isNeeded) B0.pre
  have hown : s.vm.findClass RX10 = some m.cls := findClass_of_methodNamed B0.named
  have hlocks := B0.notSynchronized
  have S : CallFix p m c cX10_isNeeded 6 s _ wsX10_isNeeded RX10 := ⟨hx, hb, hml, hown, hts⟩
  have hiX10 : ∀ w ∈ u_ws RX10 TX10 21, w ∈ wsX10_isNeeded := by decide +kernel
  have hl := lv_entry [.ref (G.2.2 198), .int a0, .int a1] (n := 6) (Nat.le_of_ble_eq_true rfl)
  rw [lg_entry_eq]
  generalize (lg_sl [.ref (G.2.2 198), .int a0, .int a1] ++ List.replicate (6 - (lg_sl [.ref (G.2.2 198), .int a0, .int a1]).length) Slot.unset).toArray = ls at hl ⊢
  have hl : lv_has ls 6 [(0, .ref (G.2.2 198)), (1, .int a0), (2, .int a1)] := hl
  unfold f_X10_isNeeded at ho
  refine lv_aload_n hx hb dX10_isNeeded_0 rfl (lv_at hl 0 rfl) ?_
  refine lv_iload_n hx hb dX10_isNeeded_1 rfl (lv_at hl 1 rfl) ?_
  refine lv_iload_n hx hb dX10_isNeeded_2 rfl (lv_at hl 2 rfl) ?_
  obtain ⟨q1, σ2, hq1, ho⟩ := bnm_ ho
  refine k_iV (As := [.int a0, .int a1]) (rest := []) S F B (c_X10_areCells l G σ _ a0 a1 hq1) (kq (by decide) : kd 198 = 21 ∧ 198 < NN) rfl rfl (cwV 2 hts gX10_isNeeded_X10_areCells rfl rfl rfl (by decide +kernel) ⟨Nat.le_of_ble_eq_true rfl, Nat.le_of_ble_eq_true rfl⟩) rfl hl.1 rfl (Nat.le_of_ble_eq_true rfl) dX10_isNeeded_3 ⟨Nat.le_of_ble_eq_true rfl, Nat.le_of_ble_eq_true rfl⟩ (fun H locs B => ?_)
  refine lv_if_ne (tgt := 11) hx hb dX10_isNeeded_6 (by decide) (fun c3 => ?_) (fun c3 => ?_)
  · have ho := in_ c3 ho
    refine lv_iload_n hx hb dX10_isNeeded_11 rfl (lv_at hl 1 rfl) ?_
    refine lv_iload_n hx hb dX10_isNeeded_12 rfl (lv_at hl 2 rfl) ?_
    obtain ⟨q4, hq4, ho⟩ := bnd_ ho
    refine k_iS (As := [.int a0, .int a1]) (rest := []) S F B (c_X10_hedgeAt l G σ2 _ a0 a1 hq4) (va_cwS 2 hts gX10_isNeeded_X10_hedgeAt rfl rfl rfl (by decide +kernel) ⟨Nat.le_of_ble_eq_true rfl, Nat.le_of_ble_eq_true rfl⟩) rfl hl.1 rfl (Nat.le_of_ble_eq_true rfl) dX10_isNeeded_13 ⟨Nat.le_of_ble_eq_true rfl, Nat.le_of_ble_eq_true rfl⟩ (fun H locs B => ?_)
    refine lv_istore_n (lv' := [(3, .int q4), (0, .ref (G.2.2 198)), (1, .int a0), (2, .int a1)]) hx hb dX10_isNeeded_16 rfl hl (by decide) rfl (fun ls hl => ?_)
    refine lv_iload_n hx hb dX10_isNeeded_17 rfl (lv_at hl 0 rfl) ?_
    refine lv_iconst (v := (-1)) hx hb dX10_isNeeded_18 (by decide) ?_
    refine lv_icmp_ne (tgt := 30) hx hb dX10_isNeeded_19 (by decide) (fun c5 => ?_) (fun c5 => ?_)
    · have ho := in_ c5 ho
      refine lv_aload_n hx hb dX10_isNeeded_30 rfl (lv_at hl 1 rfl) ?_
      refine lv_iload_n hx hb dX10_isNeeded_31 rfl (lv_at hl 0 rfl) ?_
      obtain ⟨q6, hq6, ho⟩ := bnd_ ho
      refine k_iV (As := [.int q4]) (rest := []) S F B (c_X10_isGapAt l G σ2 _ q4 hq6) (kq (by decide) : kd 198 = 21 ∧ 198 < NN) rfl rfl (cwV 1 hts gX10_isNeeded_X10_isGapAt rfl rfl rfl (by decide +kernel) ⟨Nat.le_of_ble_eq_true rfl, Nat.le_of_ble_eq_true rfl⟩) rfl hl.1 rfl (Nat.le_of_ble_eq_true rfl) dX10_isNeeded_32 ⟨Nat.le_of_ble_eq_true rfl, Nat.le_of_ble_eq_true rfl⟩ (fun H locs B => ?_)
      refine lv_if_eq (tgt := 49) hx hb dX10_isNeeded_35 (by decide) (fun c7 => ?_) (fun c7 => ?_)
      · have ho := ip_ c7 ho
        refine lv_iconst (v := 0) hx hb dX10_isNeeded_49 (by decide) ?_
        cases ho
        exact e_i B hx hb hr hlocks rfl rfl dX10_isNeeded_50
      · have ho := in_ c7 ho
        refine lv_aload_n hx hb dX10_isNeeded_38 rfl (lv_at hl 1 rfl) ?_
        refine lv_iconst (v := 0) hx hb dX10_isNeeded_39 (by decide) ?_
        refine lv_bipush (v := 15) hx hb dX10_isNeeded_40 (by decide) ?_
        obtain ⟨q8, σ9, hq8, ho⟩ := bnm_ ho
        refine k_iV (As := [.int 0, .int 15]) (rest := []) S F B (c_X10_hoursOf l G σ2 _ 0 15 hq8) (kq (by decide) : kd 198 = 21 ∧ 198 < NN) rfl rfl (cwV 2 hts gX10_isNeeded_X10_hoursOf rfl rfl rfl (by decide +kernel) ⟨Nat.le_of_ble_eq_true rfl, Nat.le_of_ble_eq_true rfl⟩) rfl hl.1 rfl (Nat.le_of_ble_eq_true rfl) dX10_isNeeded_42 ⟨Nat.le_of_ble_eq_true rfl, Nat.le_of_ble_eq_true rfl⟩ (fun H locs B => ?_)
        refine lv_iconst (v := (-1)) hx hb dX10_isNeeded_45 (by decide) ?_
        refine lv_icmp_ne (tgt := 51) hx hb dX10_isNeeded_46 (by decide) (fun c10 => ?_) (fun c10 => ?_)
        · have ho := in_ c10 ho
          refine lv_aload_n hx hb dX10_isNeeded_51 rfl (lv_at hl 1 rfl) ?_
          refine r_get (ci := 14) (C := RX10) (T := TX10) (N := 21) S F B (kq (by decide) : kd 198 = 21 ∧ 198 < NN) rfl rfl hiX10 0 (by decide) (by decide +kernel) rfl dX10_isNeeded_52 ?_
          refine lv_iload_n hx hb dX10_isNeeded_55 rfl (lv_at hl 0 rfl) ?_
          obtain ⟨hi, ho⟩ := gd_ ho
          refine r_iald S F B (kq (by decide) : kd 199 = 22 ∧ 199 < NN) rfl hi dX10_isNeeded_56 ?_
          obtain ⟨x11, ex11, ho⟩ := lt_ ho
          refine lv_nm ex11 ?_
          refine lv_istore (lv' := [(4, .int x11), (3, .int q4), (0, .ref (G.2.2 198)), (1, .int a0), (2, .int a1)]) hx hb dX10_isNeeded_57 hl (by decide) rfl (fun ls hl => ?_)
          refine lv_aload_n hx hb dX10_isNeeded_59 rfl (lv_at hl 2 rfl) ?_
          refine r_get (ci := 14) (C := RX10) (T := TX10) (N := 21) S F B (kq (by decide) : kd 198 = 21 ∧ 198 < NN) rfl rfl hiX10 0 (by decide) (by decide +kernel) rfl dX10_isNeeded_60 ?_
          refine lv_iload_n hx hb dX10_isNeeded_63 rfl (lv_at hl 1 rfl) ?_
          refine lv_iconst (v := 5) hx hb dX10_isNeeded_64 (by decide) ?_
          obtain ⟨hi, ho⟩ := gd_ ho
          refine r_iast S F B (kq (by decide) : kd 199 = 22 ∧ 199 < NN) (fun _ => rfl) hi dX10_isNeeded_65 (fun H locs B => ?_)
          obtain ⟨σ12, eσ12, ho⟩ := lt_ ho
          rw [← eσ12] at B
          refine lv_aload_n hx hb dX10_isNeeded_66 rfl (lv_at hl 2 rfl) ?_
          refine lv_iconst (v := 0) hx hb dX10_isNeeded_67 (by decide) ?_
          refine lv_bipush (v := 15) hx hb dX10_isNeeded_68 (by decide) ?_
          obtain ⟨q13, σ14, hq13, ho⟩ := bnm_ ho
          refine k_iV (As := [.int 0, .int 15]) (rest := []) S F B (c_X10_hoursOf l G σ12 _ 0 15 hq13) (kq (by decide) : kd 198 = 21 ∧ 198 < NN) rfl rfl (cwV 2 hts gX10_isNeeded_X10_hoursOf rfl rfl rfl (by decide +kernel) ⟨Nat.le_of_ble_eq_true rfl, Nat.le_of_ble_eq_true rfl⟩) rfl hl.1 rfl (Nat.le_of_ble_eq_true rfl) dX10_isNeeded_70 ⟨Nat.le_of_ble_eq_true rfl, Nat.le_of_ble_eq_true rfl⟩ (fun H locs B => ?_)
          refine lv_iconst (v := (-1)) hx hb dX10_isNeeded_73 (by decide) ?_
          refine lv_icmp_ne (tgt := 81) hx hb dX10_isNeeded_74 (by decide) (fun c15 => ?_) (fun c15 => ?_)
          · have ho := in_ c15 ho
            refine lv_iconst (v := 0) hx hb dX10_isNeeded_81 (by decide) ?_
            refine lv_istore (lv' := [(5, .int 0), (4, .int x11), (3, .int q4), (0, .ref (G.2.2 198)), (1, .int a0), (2, .int a1)]) hx hb dX10_isNeeded_82 hl (by decide) rfl (fun ls hl => ?_)
            refine lv_aload_n hx hb dX10_isNeeded_84 rfl (lv_at hl 3 rfl) ?_
            refine r_get (ci := 14) (C := RX10) (T := TX10) (N := 21) S F B (kq (by decide) : kd 198 = 21 ∧ 198 < NN) rfl rfl hiX10 0 (by decide) (by decide +kernel) rfl dX10_isNeeded_85 ?_
            refine lv_iload_n hx hb dX10_isNeeded_88 rfl (lv_at hl 2 rfl) ?_
            refine lv_iload hx hb dX10_isNeeded_89 (lv_at hl 1 rfl) ?_
            obtain ⟨hi, ho⟩ := gd_ ho
            refine r_iast S F B (kq (by decide) : kd 199 = 22 ∧ 199 < NN) (fun _ => rfl) hi dX10_isNeeded_91 (fun H locs B => ?_)
            obtain ⟨σ16, eσ16, ho⟩ := lt_ ho
            rw [← eσ16] at B
            refine lv_iload hx hb dX10_isNeeded_92 (lv_at hl 0 rfl) ?_
            cases ho
            exact e_i B hx hb hr hlocks rfl rfl dX10_isNeeded_94
          · have ho := ip_ c15 ho
            refine lv_iconst (v := 1) hx hb dX10_isNeeded_77 (by decide) ?_
            refine lv_goto (tgt := 82) hx hb dX10_isNeeded_78 (by decide) ?_
            refine lv_istore (lv' := [(5, .int 1), (4, .int x11), (3, .int q4), (0, .ref (G.2.2 198)), (1, .int a0), (2, .int a1)]) hx hb dX10_isNeeded_82 hl (by decide) rfl (fun ls hl => ?_)
            refine lv_aload_n hx hb dX10_isNeeded_84 rfl (lv_at hl 3 rfl) ?_
            refine r_get (ci := 14) (C := RX10) (T := TX10) (N := 21) S F B (kq (by decide) : kd 198 = 21 ∧ 198 < NN) rfl rfl hiX10 0 (by decide) (by decide +kernel) rfl dX10_isNeeded_85 ?_
            refine lv_iload_n hx hb dX10_isNeeded_88 rfl (lv_at hl 2 rfl) ?_
            refine lv_iload hx hb dX10_isNeeded_89 (lv_at hl 1 rfl) ?_
            obtain ⟨hi, ho⟩ := gd_ ho
            refine r_iast S F B (kq (by decide) : kd 199 = 22 ∧ 199 < NN) (fun _ => rfl) hi dX10_isNeeded_91 (fun H locs B => ?_)
            obtain ⟨σ17, eσ17, ho⟩ := lt_ ho
            rw [← eσ17] at B
            refine lv_iload hx hb dX10_isNeeded_92 (lv_at hl 0 rfl) ?_
            cases ho
            exact e_i B hx hb hr hlocks rfl rfl dX10_isNeeded_94
        · have ho := ip_ c10 ho
          refine lv_iconst (v := 0) hx hb dX10_isNeeded_49 (by decide) ?_
          cases ho
          exact e_i B hx hb hr hlocks rfl rfl dX10_isNeeded_50
    · have ho := ip_ c5 ho
      refine lv_aload_n hx hb dX10_isNeeded_22 rfl (lv_at hl 1 rfl) ?_
      refine lv_iconst (v := 2) hx hb dX10_isNeeded_23 (by decide) ?_
      obtain ⟨q18, σ19, hq18, ho⟩ := bnm_ ho
      refine k_iV (As := [.int 2]) (rest := []) S F B (c_X10_throwing l G σ2 _ 2 hq18) (kq (by decide) : kd 198 = 21 ∧ 198 < NN) rfl rfl (cwV 1 hts gX10_isNeeded_X10_throwing rfl rfl rfl (by decide +kernel) ⟨Nat.le_of_ble_eq_true rfl, Nat.le_of_ble_eq_true rfl⟩) rfl hl.1 rfl (Nat.le_of_ble_eq_true rfl) dX10_isNeeded_24 ⟨Nat.le_of_ble_eq_true rfl, Nat.le_of_ble_eq_true rfl⟩ (fun H locs B => ?_)
      refine lv_pop hx hb dX10_isNeeded_27 rfl ?_
      refine lv_iconst (v := 0) hx hb dX10_isNeeded_28 (by decide) ?_
      cases ho
      exact e_i B hx hb hr hlocks rfl rfl dX10_isNeeded_29
  · have ho := ip_ c3 ho
    refine lv_iconst (v := 0) hx hb dX10_isNeeded_9 (by decide) ?_
    cases ho
    exact e_i B hx hb hr hlocks rfl rfl dX10_isNeeded_10

set_option maxHeartbeats 4000000 in
set_option maxRecDepth 100000 in
theorem c_X10_closesIn (l : Launch) (G : Gd) (σ : Mm) (sz : Nat) (a0 : Int32) (a1 : Int32) {out : Int32 × Mm} (ho : f_X10_closesIn a0 a1 σ = some out) : Met l yX10_closesIn wsX10_closesIn { frames := 3, cells := 0, slots := 0, locals := 67 } (va_Pc [.ref (G.2.2 198), .int a0, .int a1] (PW G σ sz)) (Qi G sz out.1 out.2) 0 0 (AA G sz) := by
  refine Met.ofW (cc := cX10_closesIn) (maxL := 4) (ret := (some .int)) (by decide) rfl ?_
  intro p e s m args below meth c s₁ B0 hml hv
  obtain ⟨rfl, hpw⟩ := hv
  have hsz := hpw.1
  subst hsz
  obtain ⟨F, B⟩ := hpw.to
  have hx := B0.exec
  have hb := B0.bytes
  have hr := B0.returns
  have hts := atoms_spec (ws := wsX10_closesIn) B0.pre
  have hown : s.vm.findClass RX10 = some m.cls := findClass_of_methodNamed B0.named
  have hlocks := B0.notSynchronized
  have S : CallFix p m c cX10_closesIn 4 s _ wsX10_closesIn RX10 := ⟨hx, hb, hml, hown, hts⟩
  have hiX10 : ∀ w ∈ u_ws RX10 TX10 21, w ∈ wsX10_closesIn := by decide +kernel
  have hl := lv_entry [.ref (G.2.2 198), .int a0, .int a1] (n := 4) (Nat.le_of_ble_eq_true rfl)
  rw [lg_entry_eq]
  generalize (lg_sl [.ref (G.2.2 198), .int a0, .int a1] ++ List.replicate (4 - (lg_sl [.ref (G.2.2 198), .int a0, .int a1]).length) Slot.unset).toArray = ls at hl ⊢
  have hl : lv_has ls 4 [(0, .ref (G.2.2 198)), (1, .int a0), (2, .int a1)] := hl
  unfold f_X10_closesIn at ho
  refine lv_aload_n hx hb dX10_closesIn_0 rfl (lv_at hl 0 rfl) ?_
  refine lv_iload_n hx hb dX10_closesIn_1 rfl (lv_at hl 1 rfl) ?_
  refine lv_iload_n hx hb dX10_closesIn_2 rfl (lv_at hl 2 rfl) ?_
  obtain ⟨q1, σ2, hq1, ho⟩ := bnm_ ho
  refine k_iV (As := [.int a0, .int a1]) (rest := []) S F B (c_X10_areCells l G σ _ a0 a1 hq1) (kq (by decide) : kd 198 = 21 ∧ 198 < NN) rfl rfl (cwV 2 hts gX10_closesIn_X10_areCells rfl rfl rfl (by decide +kernel) ⟨Nat.le_of_ble_eq_true rfl, Nat.le_of_ble_eq_true rfl⟩) rfl hl.1 rfl (Nat.le_of_ble_eq_true rfl) dX10_closesIn_3 ⟨Nat.le_of_ble_eq_true rfl, Nat.le_of_ble_eq_true rfl⟩ (fun H locs B => ?_)
  refine lv_if_ne (tgt := 11) hx hb dX10_closesIn_6 (by decide) (fun c3 => ?_) (fun c3 => ?_)
  · have ho := in_ c3 ho
    refine lv_iload_n hx hb dX10_closesIn_11 rfl (lv_at hl 1 rfl) ?_
    refine lv_iload_n hx hb dX10_closesIn_12 rfl (lv_at hl 2 rfl) ?_
    obtain ⟨q4, hq4, ho⟩ := bnd_ ho
    refine k_iS (As := [.int a0, .int a1]) (rest := []) S F B (c_X10_hedgeAt l G σ2 _ a0 a1 hq4) (va_cwS 2 hts gX10_closesIn_X10_hedgeAt rfl rfl rfl (by decide +kernel) ⟨Nat.le_of_ble_eq_true rfl, Nat.le_of_ble_eq_true rfl⟩) rfl hl.1 rfl (Nat.le_of_ble_eq_true rfl) dX10_closesIn_13 ⟨Nat.le_of_ble_eq_true rfl, Nat.le_of_ble_eq_true rfl⟩ (fun H locs B => ?_)
    refine lv_istore_n (lv' := [(3, .int q4), (0, .ref (G.2.2 198)), (1, .int a0), (2, .int a1)]) hx hb dX10_closesIn_16 rfl hl (by decide) rfl (fun ls hl => ?_)
    refine lv_iload_n hx hb dX10_closesIn_17 rfl (lv_at hl 0 rfl) ?_
    refine lv_iconst (v := (-1)) hx hb dX10_closesIn_18 (by decide) ?_
    refine lv_icmp_ne (tgt := 30) hx hb dX10_closesIn_19 (by decide) (fun c5 => ?_) (fun c5 => ?_)
    · have ho := in_ c5 ho
      refine lv_iconst (v := 0) hx hb dX10_closesIn_30 (by decide) ?_
      refine lv_iconst (v := 5) hx hb dX10_closesIn_31 (by decide) ?_
      refine lv_aload_n hx hb dX10_closesIn_32 rfl (lv_at hl 1 rfl) ?_
      refine r_get (ci := 14) (C := RX10) (T := TX10) (N := 21) S F B (kq (by decide) : kd 198 = 21 ∧ 198 < NN) rfl rfl hiX10 0 (by decide) (by decide +kernel) rfl dX10_closesIn_33 ?_
      refine lv_iload_n hx hb dX10_closesIn_36 rfl (lv_at hl 0 rfl) ?_
      obtain ⟨hi, ho⟩ := gd_ ho
      refine r_iald S F B (kq (by decide) : kd 199 = 22 ∧ 199 < NN) rfl hi dX10_closesIn_37 ?_
      refine lv_isub hx hb dX10_closesIn_38 ?_
      refine va_mmax hx hb (hml.trans hl.1.symm) hown (hts _ (by decide +kernel)) (hts _ (by decide +kernel)) (hts _ (by decide +kernel)) (hts _ (by decide +kernel)) (Nat.le_of_ble_eq_true rfl) (Nat.le_of_ble_eq_true rfl) (Nat.le_of_ble_eq_true rfl) (Nat.le_of_ble_eq_true rfl) dX10_closesIn_39 ?_
      cases ho
      exact e_i B hx hb hr hlocks rfl rfl dX10_closesIn_42
    · have ho := ip_ c5 ho
      refine lv_aload_n hx hb dX10_closesIn_22 rfl (lv_at hl 1 rfl) ?_
      refine lv_iconst (v := 2) hx hb dX10_closesIn_23 (by decide) ?_
      obtain ⟨q6, σ7, hq6, ho⟩ := bnm_ ho
      refine k_iV (As := [.int 2]) (rest := []) S F B (c_X10_throwing l G σ2 _ 2 hq6) (kq (by decide) : kd 198 = 21 ∧ 198 < NN) rfl rfl (cwV 1 hts gX10_closesIn_X10_throwing rfl rfl rfl (by decide +kernel) ⟨Nat.le_of_ble_eq_true rfl, Nat.le_of_ble_eq_true rfl⟩) rfl hl.1 rfl (Nat.le_of_ble_eq_true rfl) dX10_closesIn_24 ⟨Nat.le_of_ble_eq_true rfl, Nat.le_of_ble_eq_true rfl⟩ (fun H locs B => ?_)
      refine lv_goto (tgt := 42) hx hb dX10_closesIn_27 (by decide) ?_
      cases ho
      exact e_i B hx hb hr hlocks rfl rfl dX10_closesIn_42
  · have ho := ip_ c3 ho
    refine lv_iconst (v := (-1)) hx hb dX10_closesIn_9 (by decide) ?_
    cases ho
    exact e_i B hx hb hr hlocks rfl rfl dX10_closesIn_10

set_option maxHeartbeats 4000000 in
set_option maxRecDepth 100000 in
theorem c_X10_summersLeft (l : Launch) (G : Gd) (σ : Mm) (sz : Nat) {out : Int32 × Mm} (ho : f_X10_summersLeft σ = some out) : Met l yX10_summersLeft wsX10_summersLeft { frames := 4, cells := 0, slots := 0, locals := 105 } (va_Pc [.ref (G.2.2 198)] (PW G σ sz)) (Qi G sz out.1 out.2) 0 0 (AA G sz) := by
  refine Met.ofW (cc := cX10_summersLeft) (maxL := 3) (ret := (some .int)) (by decide) rfl ?_
  intro p e s m args below meth c s₁ B0 hml hv
  obtain ⟨rfl, hpw⟩ := hv
  have hsz := hpw.1
  subst hsz
  obtain ⟨F, B⟩ := hpw.to
  have hx := B0.exec
  have hb := B0.bytes
  have hr := B0.returns
  have hts := atoms_spec (ws := wsX10_summersLeft) B0.pre
  have hown : s.vm.findClass RX10 = some m.cls := findClass_of_methodNamed B0.named
  have hlocks := B0.notSynchronized
  have S : CallFix p m c cX10_summersLeft 3 s _ wsX10_summersLeft RX10 := ⟨hx, hb, hml, hown, hts⟩
  have hiX10 : ∀ w ∈ u_ws RX10 TX10 21, w ∈ wsX10_summersLeft := by decide +kernel
  have hl := lv_entry [.ref (G.2.2 198)] (n := 3) (Nat.le_of_ble_eq_true rfl)
  rw [lg_entry_eq]
  generalize (lg_sl [.ref (G.2.2 198)] ++ List.replicate (3 - (lg_sl [.ref (G.2.2 198)]).length) Slot.unset).toArray = ls at hl ⊢
  have hl : lv_has ls 3 [(0, .ref (G.2.2 198))] := hl
  unfold f_X10_summersLeft at ho
  skip
  refine lv_aload_n hx hb dX10_summersLeft_0 rfl (lv_at hl 0 rfl) ?_
  refine lv_iconst (v := 0) hx hb dX10_summersLeft_1 (by decide) ?_
  refine r_put (ci := 14) (C := RX10) (T := TX10) (N := 21) (ty := .int) S F B tyX10 tyX10_ok nmX10 (kq (by decide) : kd 198 = 21 ∧ 198 < NN) (fun _ => rfl) rfl hiX10 12 (by decide) (by decide +kernel) rfl rfl rfl rfl (fun _ => Nat.le_of_ble_eq_true rfl) (fun _ => rfl) dX10_summersLeft_2 (fun H locs B => ?_)
  obtain ⟨σ1, eσ1, ho⟩ := lt_ ho
  rw [← eσ1] at B
  refine lv_iconst (v := 0) hx hb dX10_summersLeft_5 (by decide) ?_
  refine lv_istore_n (lv' := [(1, .int 0), (0, .ref (G.2.2 198))]) hx hb dX10_summersLeft_6 rfl hl (by decide) rfl (fun ls hl => ?_)
  obtain ⟨K, hK, ho⟩ := lt_ ho
  have hexit7 : ∀ (v2 : Int32) (σ3 : Mm) (H : Heap) (locs : List Loc) (ls : Array Slot), K v2 σ3 = some out → Bd G σ3 s H locs → lv_has ls 3 [(1, .int v2), (0, .ref (G.2.2 198))] → W p l e (headSpec wsX10_summersLeft { frames := 4, cells := 0, slots := 0, locals := 105 }).room s m #[.ref (G.2.2 198)] below meth c H locs 0 0 (MQ below (Qi G s.heap.size out.1 out.2) #[.ref (G.2.2 198)] s 0 0 (AA G s.heap.size)) (F0 m 51 ls []) := by
    intro v2 σ3 H locs ls ho B hl
    subst hK
    refine lv_iconst (v := 0) hx hb dX10_summersLeft_51 (by decide) ?_
    refine lv_istore_n (lv' := [(2, .int 0), (1, .int v2), (0, .ref (G.2.2 198))]) hx hb dX10_summersLeft_52 rfl hl (by decide) rfl (fun ls hl => ?_)
    have hloop53 : ∀ (n : Nat) (v8 : Int32) (σ9 : Mm) (H : Heap) (locs : List Loc) (ls : Array Slot), f_X10_summersLeft_l53  v2 n v8 σ9 = some out → Bd G σ9 s H locs → lv_has ls 3 [(2, .int v8), (1, .int v2), (0, .ref (G.2.2 198))] → W p l e (headSpec wsX10_summersLeft { frames := 4, cells := 0, slots := 0, locals := 105 }).room s m #[.ref (G.2.2 198)] below meth c H locs 0 0 (MQ below (Qi G s.heap.size out.1 out.2) #[.ref (G.2.2 198)] s 0 0 (AA G s.heap.size)) (F0 m 53 ls []) := by
      intro n
      induction n with
      | zero => intro v8 σ9 H locs ls ho B hl; cases ho
      | succ n ih =>
        intro v8 σ9 H locs ls ho B hl
        refine lv_iload_n hx hb dX10_summersLeft_53 rfl (lv_at hl 0 rfl) ?_
        refine lv_bipush (v := 24) hx hb dX10_summersLeft_54 (by decide) ?_
        refine lv_icmp_ge (tgt := 78) hx hb dX10_summersLeft_56 (by decide) (fun c10 => ?_) (fun c10 => ?_)
        · have ho := ip_ c10 ho
          refine lv_iload_n hx hb dX10_summersLeft_78 rfl (lv_at hl 1 rfl) ?_
          cases ho
          exact e_i B hx hb hr hlocks rfl rfl dX10_summersLeft_79
        · have ho := in_ c10 ho
          refine lv_aload_n hx hb dX10_summersLeft_59 rfl (lv_at hl 2 rfl) ?_
          refine r_get (ci := 14) (C := RX10) (T := TX10) (N := 21) S F B (kq (by decide) : kd 198 = 21 ∧ 198 < NN) rfl rfl hiX10 0 (by decide) (by decide +kernel) rfl dX10_summersLeft_60 ?_
          refine lv_bipush (v := 6) hx hb dX10_summersLeft_63 (by decide) ?_
          refine lv_iload_n hx hb dX10_summersLeft_65 rfl (lv_at hl 0 rfl) ?_
          refine lv_iadd hx hb dX10_summersLeft_66 ?_
          refine lv_dup2_11 hx hb dX10_summersLeft_67 rfl rfl ?_
          obtain ⟨hi, ho⟩ := gd_ ho
          refine r_iald S F B (kq (by decide) : kd 199 = 22 ∧ 199 < NN) rfl hi dX10_summersLeft_68 ?_
          refine lv_iload_n hx hb dX10_summersLeft_69 rfl (lv_at hl 1 rfl) ?_
          refine lv_isub hx hb dX10_summersLeft_70 ?_
          obtain ⟨hi, ho⟩ := gd_ ho
          refine r_iast S F B (kq (by decide) : kd 199 = 22 ∧ 199 < NN) (fun _ => rfl) hi dX10_summersLeft_71 (fun H locs B => ?_)
          obtain ⟨σ11, eσ11, ho⟩ := lt_ ho
          rw [← eσ11] at B
          obtain ⟨x12, ex12, ho⟩ := lt_ ho
          refine lv_iinc (v := x12) (lv' := [(2, .int x12), (1, .int v2), (0, .ref (G.2.2 198))]) hx hb dX10_summersLeft_72 hl (k := 0) rfl (by rw [ex12]; rfl) (by decide) rfl (fun ls hl => ?_)
          refine lv_goto (tgt := 53) hx hb dX10_summersLeft_75 (by decide) ?_
          exact ih _ _ _ _ _ ho B (lv_sub hl [0, 1, 2] rfl)
    exact hloop53 30 _ _ _ _ _ ho B hl
  have hloop7 : ∀ (n : Nat) (v13 : Int32) (σ14 : Mm) (H : Heap) (locs : List Loc) (ls : Array Slot), f_X10_summersLeft_l7 K  n v13 σ14 = some out → Bd G σ14 s H locs → lv_has ls 3 [(1, .int v13), (0, .ref (G.2.2 198))] → W p l e (headSpec wsX10_summersLeft { frames := 4, cells := 0, slots := 0, locals := 105 }).room s m #[.ref (G.2.2 198)] below meth c H locs 0 0 (MQ below (Qi G s.heap.size out.1 out.2) #[.ref (G.2.2 198)] s 0 0 (AA G s.heap.size)) (F0 m 7 ls []) := by
    intro n
    induction n with
    | zero => intro v13 σ14 H locs ls ho B hl; cases ho
    | succ n ih =>
      intro v13 σ14 H locs ls ho B hl
      refine lv_aload_n hx hb dX10_summersLeft_7 rfl (lv_at hl 1 rfl) ?_
      refine lv_iconst (v := 0) hx hb dX10_summersLeft_8 (by decide) ?_
      refine lv_bipush (v := 15) hx hb dX10_summersLeft_9 (by decide) ?_
      obtain ⟨q15, σ16, hq15, ho⟩ := bnm_ ho
      refine k_iV (As := [.int 0, .int 15]) (rest := []) S F B (c_X10_hoursOf l G σ14 _ 0 15 hq15) (kq (by decide) : kd 198 = 21 ∧ 198 < NN) rfl rfl (cwV 2 hts gX10_summersLeft_X10_hoursOf rfl rfl rfl (by decide +kernel) ⟨Nat.le_of_ble_eq_true rfl, Nat.le_of_ble_eq_true rfl⟩) rfl hl.1 rfl (Nat.le_of_ble_eq_true rfl) dX10_summersLeft_11 ⟨Nat.le_of_ble_eq_true rfl, Nat.le_of_ble_eq_true rfl⟩ (fun H locs B => ?_)
      refine lv_iconst (v := (-1)) hx hb dX10_summersLeft_14 (by decide) ?_
      refine lv_icmp_eq (tgt := 51) hx hb dX10_summersLeft_15 (by decide) (fun c17 => ?_) (fun c17 => ?_)
      · have ho := ip_ c17 ho
        exact hexit7 _ _ _ _ _ ho B (lv_sub hl [0, 1] rfl)
      · have ho := in_ c17 ho
        refine lv_iconst (v := 0) hx hb dX10_summersLeft_18 (by decide) ?_
        refine lv_istore_n (lv' := [(2, .int 0), (1, .int v13), (0, .ref (G.2.2 198))]) hx hb dX10_summersLeft_19 rfl hl (by decide) rfl (fun ls hl => ?_)
        obtain ⟨K, hK, ho⟩ := lt_ ho
        have hexit20 : ∀ (v18 : Int32) (σ19 : Mm) (H : Heap) (locs : List Loc) (ls : Array Slot), K v18 σ19 = some out → Bd G σ19 s H locs → lv_has ls 3 [(2, .int v18), (1, .int v13), (0, .ref (G.2.2 198))] → W p l e (headSpec wsX10_summersLeft { frames := 4, cells := 0, slots := 0, locals := 105 }).room s m #[.ref (G.2.2 198)] below meth c H locs 0 0 (MQ below (Qi G s.heap.size out.1 out.2) #[.ref (G.2.2 198)] s 0 0 (AA G s.heap.size)) (F0 m 45 ls []) := by
          intro v18 σ19 H locs ls ho B hl
          subst hK
          obtain ⟨x21, ex21, ho⟩ := lt_ ho
          refine lv_iinc (v := x21) (lv' := [(1, .int x21), (2, .int v18), (0, .ref (G.2.2 198))]) hx hb dX10_summersLeft_45 hl (k := 1) rfl (by rw [ex21]; rfl) (by decide) rfl (fun ls hl => ?_)
          refine lv_goto (tgt := 7) hx hb dX10_summersLeft_48 (by decide) ?_
          exact ih _ _ _ _ _ ho B (lv_sub hl [0, 2] rfl)
        have hloop20 : ∀ (n : Nat) (v22 : Int32) (σ23 : Mm) (H : Heap) (locs : List Loc) (ls : Array Slot), f_X10_summersLeft_l20 K v13 n v22 σ23 = some out → Bd G σ23 s H locs → lv_has ls 3 [(2, .int v22), (1, .int v13), (0, .ref (G.2.2 198))] → W p l e (headSpec wsX10_summersLeft { frames := 4, cells := 0, slots := 0, locals := 105 }).room s m #[.ref (G.2.2 198)] below meth c H locs 0 0 (MQ below (Qi G s.heap.size out.1 out.2) #[.ref (G.2.2 198)] s 0 0 (AA G s.heap.size)) (F0 m 20 ls []) := by
          intro n
          induction n with
          | zero => intro v22 σ23 H locs ls ho B hl; cases ho
          | succ n ih =>
            intro v22 σ23 H locs ls ho B hl
            refine lv_iload_n hx hb dX10_summersLeft_20 rfl (lv_at hl 0 rfl) ?_
            refine lv_bipush (v := 24) hx hb dX10_summersLeft_21 (by decide) ?_
            refine lv_icmp_ge (tgt := 45) hx hb dX10_summersLeft_23 (by decide) (fun c24 => ?_) (fun c24 => ?_)
            · have ho := ip_ c24 ho
              exact hexit20 _ _ _ _ _ ho B (lv_sub hl [0, 1, 2] rfl)
            · have ho := in_ c24 ho
              refine lv_aload_n hx hb dX10_summersLeft_26 rfl (lv_at hl 2 rfl) ?_
              refine r_get (ci := 14) (C := RX10) (T := TX10) (N := 21) S F B (kq (by decide) : kd 198 = 21 ∧ 198 < NN) rfl rfl hiX10 0 (by decide) (by decide +kernel) rfl dX10_summersLeft_27 ?_
              refine lv_bipush (v := 6) hx hb dX10_summersLeft_30 (by decide) ?_
              refine lv_iload_n hx hb dX10_summersLeft_32 rfl (lv_at hl 0 rfl) ?_
              refine lv_iadd hx hb dX10_summersLeft_33 ?_
              refine lv_dup2_11 hx hb dX10_summersLeft_34 rfl rfl ?_
              obtain ⟨hi, ho⟩ := gd_ ho
              refine r_iald S F B (kq (by decide) : kd 199 = 22 ∧ 199 < NN) rfl hi dX10_summersLeft_35 ?_
              refine lv_iconst (v := 1) hx hb dX10_summersLeft_36 (by decide) ?_
              refine lv_iadd hx hb dX10_summersLeft_37 ?_
              obtain ⟨hi, ho⟩ := gd_ ho
              refine r_iast S F B (kq (by decide) : kd 199 = 22 ∧ 199 < NN) (fun _ => rfl) hi dX10_summersLeft_38 (fun H locs B => ?_)
              obtain ⟨σ25, eσ25, ho⟩ := lt_ ho
              rw [← eσ25] at B
              obtain ⟨x26, ex26, ho⟩ := lt_ ho
              refine lv_iinc (v := x26) (lv' := [(2, .int x26), (1, .int v13), (0, .ref (G.2.2 198))]) hx hb dX10_summersLeft_39 hl (k := 0) rfl (by rw [ex26]; rfl) (by decide) rfl (fun ls hl => ?_)
              refine lv_goto (tgt := 20) hx hb dX10_summersLeft_42 (by decide) ?_
              exact ih _ _ _ _ _ ho B (lv_sub hl [0, 1, 2] rfl)
        exact hloop20 30 _ _ _ _ _ ho B hl
  exact hloop7 30 _ _ _ _ _ ho B hl

set_option maxHeartbeats 4000000 in
set_option maxRecDepth 100000 in
theorem c_X10_lasts (l : Launch) (G : Gd) (σ : Mm) (sz : Nat) (a0 : Int32) {out : Int32} (ho : f_X10_lasts a0 σ = some out) : Met l yX10_lasts wsX10_lasts { frames := 1, cells := 0, slots := 0, locals := 20 } (va_Pc [.ref (G.2.2 198), .int a0] (PW G σ sz)) (Qi G sz out σ) 0 0 (AA G sz) := by
  refine Met.ofW (cc := cX10_lasts) (maxL := 2) (ret := (some .boolean)) (by decide) rfl ?_
  intro p e s m args below meth c s₁ B0 hml hv
  obtain ⟨rfl, hpw⟩ := hv
  have hsz := hpw.1
  subst hsz
  obtain ⟨F, B⟩ := hpw.to
  have hx := B0.exec
  have hb := B0.bytes
  have hr := B0.returns
  have hts := atoms_spec (ws := wsX10_lasts) B0.pre
  have hown : s.vm.findClass RX10 = some m.cls := findClass_of_methodNamed B0.named
  have hlocks := B0.notSynchronized
  have S : CallFix p m c cX10_lasts 2 s _ wsX10_lasts RX10 := ⟨hx, hb, hml, hown, hts⟩
  have hiX10 : ∀ w ∈ u_ws RX10 TX10 21, w ∈ wsX10_lasts := by decide +kernel
  have hl := lv_entry [.ref (G.2.2 198), .int a0] (n := 2) (Nat.le_of_ble_eq_true rfl)
  rw [lg_entry_eq]
  generalize (lg_sl [.ref (G.2.2 198), .int a0] ++ List.replicate (2 - (lg_sl [.ref (G.2.2 198), .int a0]).length) Slot.unset).toArray = ls at hl ⊢
  have hl : lv_has ls 2 [(0, .ref (G.2.2 198)), (1, .int a0)] := hl
  unfold f_X10_lasts at ho
  refine lv_aload_n hx hb dX10_lasts_0 rfl (lv_at hl 0 rfl) ?_
  refine r_get (ci := 14) (C := RX10) (T := TX10) (N := 21) S F B (kq (by decide) : kd 198 = 21 ∧ 198 < NN) rfl rfl hiX10 0 (by decide) (by decide +kernel) rfl dX10_lasts_1 ?_
  refine lv_iload_n hx hb dX10_lasts_4 rfl (lv_at hl 1 rfl) ?_
  obtain ⟨q1, hq1, ho⟩ := bnd_ ho
  refine k_iS (As := [.int a0]) (rest := [.ref (G.2.2 199)]) S F B (c_X10_visitorAt l G σ _ a0 hq1) (va_cwS 1 hts gX10_lasts_X10_visitorAt rfl rfl rfl (by decide +kernel) ⟨Nat.le_of_ble_eq_true rfl, Nat.le_of_ble_eq_true rfl⟩) rfl hl.1 rfl (Nat.le_of_ble_eq_true rfl) dX10_lasts_5 ⟨Nat.le_of_ble_eq_true rfl, Nat.le_of_ble_eq_true rfl⟩ (fun H locs B => ?_)
  refine lv_iconst (v := 4) hx hb dX10_lasts_8 (by decide) ?_
  refine lv_iadd hx hb dX10_lasts_9 ?_
  obtain ⟨hi, ho⟩ := gd_ ho
  refine r_iald S F B (kq (by decide) : kd 199 = 22 ∧ 199 < NN) rfl hi dX10_lasts_10 ?_
  refine lv_iconst (v := (-1)) hx hb dX10_lasts_11 (by decide) ?_
  refine lv_icmp_eq (tgt := 34) hx hb dX10_lasts_12 (by decide) (fun c2 => ?_) (fun c2 => ?_)
  · have ho := ip_ c2 ho
    refine lv_iconst (v := 0) hx hb dX10_lasts_34 (by decide) ?_
    cases ho
    exact e_i B hx hb hr hlocks rfl rfl dX10_lasts_35
  · have ho := in_ c2 ho
    refine lv_aload_n hx hb dX10_lasts_15 rfl (lv_at hl 0 rfl) ?_
    refine r_get (ci := 14) (C := RX10) (T := TX10) (N := 21) S F B (kq (by decide) : kd 198 = 21 ∧ 198 < NN) rfl rfl hiX10 0 (by decide) (by decide +kernel) rfl dX10_lasts_16 ?_
    refine lv_iload_n hx hb dX10_lasts_19 rfl (lv_at hl 1 rfl) ?_
    obtain ⟨q3, hq3, ho⟩ := bnd_ ho
    refine k_iS (As := [.int a0]) (rest := [.ref (G.2.2 199)]) S F B (c_X10_visitorAt l G σ _ a0 hq3) (va_cwS 1 hts gX10_lasts_X10_visitorAt rfl rfl rfl (by decide +kernel) ⟨Nat.le_of_ble_eq_true rfl, Nat.le_of_ble_eq_true rfl⟩) rfl hl.1 rfl (Nat.le_of_ble_eq_true rfl) dX10_lasts_20 ⟨Nat.le_of_ble_eq_true rfl, Nat.le_of_ble_eq_true rfl⟩ (fun H locs B => ?_)
    refine lv_bipush (v := 7) hx hb dX10_lasts_23 (by decide) ?_
    refine lv_iadd hx hb dX10_lasts_25 ?_
    obtain ⟨hi, ho⟩ := gd_ ho
    refine r_iald S F B (kq (by decide) : kd 199 = 22 ∧ 199 < NN) rfl hi dX10_lasts_26 ?_
    refine lv_if_ne (tgt := 34) hx hb dX10_lasts_27 (by decide) (fun c4 => ?_) (fun c4 => ?_)
    · have ho := in_ c4 ho
      refine lv_iconst (v := 0) hx hb dX10_lasts_34 (by decide) ?_
      cases ho
      exact e_i B hx hb hr hlocks rfl rfl dX10_lasts_35
    · have ho := ip_ c4 ho
      refine lv_iconst (v := 1) hx hb dX10_lasts_30 (by decide) ?_
      refine lv_goto (tgt := 35) hx hb dX10_lasts_31 (by decide) ?_
      cases ho
      exact e_i B hx hb hr hlocks rfl rfl dX10_lasts_35

set_option maxHeartbeats 4000000 in
set_option maxRecDepth 100000 in
theorem c_X10_lasting (l : Launch) (G : Gd) (σ : Mm) (sz : Nat) (a0 : Int32) {out : Int32} (ho : f_X10_lasting a0 σ = some out) : Met l yX10_lasting wsX10_lasting { frames := 2, cells := 0, slots := 0, locals := 41 } (va_Pc [.ref (G.2.2 198), .int a0] (PW G σ sz)) (Qi G sz out σ) 0 0 (AA G sz) := by
  refine Met.ofW (cc := cX10_lasting) (maxL := 4) (ret := (some .int)) (by decide) rfl ?_
  intro p e s m args below meth c s₁ B0 hml hv
  obtain ⟨rfl, hpw⟩ := hv
  have hsz := hpw.1
  subst hsz
  obtain ⟨F, B⟩ := hpw.to
  have hx := B0.exec
  have hb := B0.bytes
  have hr := B0.returns
  have hts := atoms_spec (ws := wsX10_lasting) B0.pre
  have hown : s.vm.findClass RX10 = some m.cls := findClass_of_methodNamed B0.named
  have hlocks := B0.notSynchronized
  have S : CallFix p m c cX10_lasting 4 s _ wsX10_lasting RX10 := ⟨hx, hb, hml, hown, hts⟩
  have hiX10 : ∀ w ∈ u_ws RX10 TX10 21, w ∈ wsX10_lasting := by decide +kernel
  have hl := lv_entry [.ref (G.2.2 198), .int a0] (n := 4) (Nat.le_of_ble_eq_true rfl)
  rw [lg_entry_eq]
  generalize (lg_sl [.ref (G.2.2 198), .int a0] ++ List.replicate (4 - (lg_sl [.ref (G.2.2 198), .int a0]).length) Slot.unset).toArray = ls at hl ⊢
  have hl : lv_has ls 4 [(0, .ref (G.2.2 198)), (1, .int a0)] := hl
  unfold f_X10_lasting at ho
  skip
  refine lv_iconst (v := 0) hx hb dX10_lasting_0 (by decide) ?_
  refine lv_istore_n (lv' := [(2, .int 0), (0, .ref (G.2.2 198)), (1, .int a0)]) hx hb dX10_lasting_1 rfl hl (by decide) rfl (fun ls hl => ?_)
  refine lv_iconst (v := 0) hx hb dX10_lasting_2 (by decide) ?_
  refine lv_istore_n (lv' := [(3, .int 0), (2, .int 0), (0, .ref (G.2.2 198)), (1, .int a0)]) hx hb dX10_lasting_3 rfl hl (by decide) rfl (fun ls hl => ?_)
  have hloop4 : ∀ (n : Nat) (v4 : Int32) (v5 : Int32) (H : Heap) (locs : List Loc) (ls : Array Slot), f_X10_lasting_l4  a0 σ n v4 v5 = some out → Bd G σ s H locs → lv_has ls 4 [(3, .int v4), (2, .int v5), (0, .ref (G.2.2 198)), (1, .int a0)] → W p l e (headSpec wsX10_lasting { frames := 2, cells := 0, slots := 0, locals := 41 }).room s m #[.ref (G.2.2 198), .int a0] below meth c H locs 0 0 (MQ below (Qi G s.heap.size out σ) #[.ref (G.2.2 198), .int a0] s 0 0 (AA G s.heap.size)) (F0 m 4 ls []) := by
    intro n
    induction n with
    | zero => intro v4 v5 H locs ls ho B hl; cases ho
    | succ n ih =>
      intro v4 v5 H locs ls ho B hl
      refine lv_iload_n hx hb dX10_lasting_4 rfl (lv_at hl 0 rfl) ?_
      refine lv_aload_n hx hb dX10_lasting_5 rfl (lv_at hl 2 rfl) ?_
      refine r_get (ci := 14) (C := RX10) (T := TX10) (N := 21) S F B (kq (by decide) : kd 198 = 21 ∧ 198 < NN) rfl rfl hiX10 0 (by decide) (by decide +kernel) rfl dX10_lasting_6 ?_
      refine lv_iconst (v := 1) hx hb dX10_lasting_9 (by decide) ?_
      refine r_ialdc (j := 1) S F B (kq (by decide) : kd 199 = 22 ∧ 199 < NN) rfl (vpc (by decide)) (by decide) dX10_lasting_10 ?_
      refine lv_icmp_ge (tgt := 56) hx hb dX10_lasting_11 (by decide) (fun c6 => ?_) (fun c6 => ?_)
      · have ho := ip_ c6 ho
        refine lv_iload_n hx hb dX10_lasting_56 rfl (lv_at hl 1 rfl) ?_
        cases ho
        exact e_i B hx hb hr hlocks rfl rfl dX10_lasting_57
      · have ho := in_ c6 ho
        refine lv_iload_n hx hb dX10_lasting_14 rfl (lv_at hl 1 rfl) ?_
        refine lv_aload_n hx hb dX10_lasting_15 rfl (lv_at hl 2 rfl) ?_
        refine lv_iload_n hx hb dX10_lasting_16 rfl (lv_at hl 0 rfl) ?_
        obtain ⟨q7, hq7, ho⟩ := bnd_ ho
        refine k_iV (As := [.int v4]) (rest := [.int v5]) S F B (c_X10_lasts l G σ _ v4 hq7) (kq (by decide) : kd 198 = 21 ∧ 198 < NN) rfl rfl (cwV 1 hts gX10_lasting_X10_lasts rfl rfl rfl (by decide +kernel) ⟨Nat.le_of_ble_eq_true rfl, Nat.le_of_ble_eq_true rfl⟩) rfl hl.1 rfl (Nat.le_of_ble_eq_true rfl) dX10_lasting_17 ⟨Nat.le_of_ble_eq_true rfl, Nat.le_of_ble_eq_true rfl⟩ (fun H locs B => ?_)
        refine lv_if_eq (tgt := 47) hx hb dX10_lasting_20 (by decide) (fun c8 => ?_) (fun c8 => ?_)
        · have ho := ip_ c8 ho
          refine lv_iconst (v := 0) hx hb dX10_lasting_47 (by decide) ?_
          refine lv_iadd hx hb dX10_lasting_48 ?_
          obtain ⟨x9, ex9, ho⟩ := lt_ ho
          refine lv_nm ex9 ?_
          refine lv_istore_n (lv' := [(2, .int x9), (3, .int v4), (0, .ref (G.2.2 198)), (1, .int a0)]) hx hb dX10_lasting_49 rfl hl (by decide) rfl (fun ls hl => ?_)
          obtain ⟨x10, ex10, ho⟩ := lt_ ho
          refine lv_iinc (v := x10) (lv' := [(3, .int x10), (2, .int x9), (0, .ref (G.2.2 198)), (1, .int a0)]) hx hb dX10_lasting_50 hl (k := 1) rfl (by rw [ex10]; rfl) (by decide) rfl (fun ls hl => ?_)
          refine lv_goto (tgt := 4) hx hb dX10_lasting_53 (by decide) ?_
          exact ih _ _  _ _ _ ho B (lv_sub hl [0, 1, 2, 3] rfl)
        · have ho := in_ c8 ho
          refine lv_iload_n hx hb dX10_lasting_23 rfl (lv_at hl 3 rfl) ?_
          refine lv_iconst (v := (-1)) hx hb dX10_lasting_24 (by decide) ?_
          refine lv_icmp_eq (tgt := 43) hx hb dX10_lasting_25 (by decide) (fun c11 => ?_) (fun c11 => ?_)
          · have ho := ip_ c11 ho
            refine lv_iconst (v := 1) hx hb dX10_lasting_43 (by decide) ?_
            refine lv_goto (tgt := 48) hx hb dX10_lasting_44 (by decide) ?_
            refine lv_iadd hx hb dX10_lasting_48 ?_
            obtain ⟨x12, ex12, ho⟩ := lt_ ho
            refine lv_nm ex12 ?_
            refine lv_istore_n (lv' := [(2, .int x12), (3, .int v4), (0, .ref (G.2.2 198)), (1, .int a0)]) hx hb dX10_lasting_49 rfl hl (by decide) rfl (fun ls hl => ?_)
            obtain ⟨x13, ex13, ho⟩ := lt_ ho
            refine lv_iinc (v := x13) (lv' := [(3, .int x13), (2, .int x12), (0, .ref (G.2.2 198)), (1, .int a0)]) hx hb dX10_lasting_50 hl (k := 1) rfl (by rw [ex13]; rfl) (by decide) rfl (fun ls hl => ?_)
            refine lv_goto (tgt := 4) hx hb dX10_lasting_53 (by decide) ?_
            exact ih _ _  _ _ _ ho B (lv_sub hl [0, 1, 2, 3] rfl)
          · have ho := in_ c11 ho
            refine lv_aload_n hx hb dX10_lasting_28 rfl (lv_at hl 2 rfl) ?_
            refine r_get (ci := 14) (C := RX10) (T := TX10) (N := 21) S F B (kq (by decide) : kd 198 = 21 ∧ 198 < NN) rfl rfl hiX10 0 (by decide) (by decide +kernel) rfl dX10_lasting_29 ?_
            refine lv_iload_n hx hb dX10_lasting_32 rfl (lv_at hl 0 rfl) ?_
            obtain ⟨q14, hq14, ho⟩ := bnd_ ho
            refine k_iS (As := [.int v4]) (rest := [.ref (G.2.2 199), .int v5]) S F B (c_X10_visitorAt l G σ _ v4 hq14) (va_cwS 1 hts gX10_lasting_X10_visitorAt rfl rfl rfl (by decide +kernel) ⟨Nat.le_of_ble_eq_true rfl, Nat.le_of_ble_eq_true rfl⟩) rfl hl.1 rfl (Nat.le_of_ble_eq_true rfl) dX10_lasting_33 ⟨Nat.le_of_ble_eq_true rfl, Nat.le_of_ble_eq_true rfl⟩ (fun H locs B => ?_)
            refine lv_iconst (v := 4) hx hb dX10_lasting_36 (by decide) ?_
            refine lv_iadd hx hb dX10_lasting_37 ?_
            obtain ⟨hi, ho⟩ := gd_ ho
            refine r_iald S F B (kq (by decide) : kd 199 = 22 ∧ 199 < NN) rfl hi dX10_lasting_38 ?_
            refine lv_iload_n hx hb dX10_lasting_39 rfl (lv_at hl 3 rfl) ?_
            refine lv_icmp_ne (tgt := 47) hx hb dX10_lasting_40 (by decide) (fun c15 => ?_) (fun c15 => ?_)
            · have ho := in_ c15 ho
              refine lv_iconst (v := 0) hx hb dX10_lasting_47 (by decide) ?_
              refine lv_iadd hx hb dX10_lasting_48 ?_
              obtain ⟨x16, ex16, ho⟩ := lt_ ho
              refine lv_nm ex16 ?_
              refine lv_istore_n (lv' := [(2, .int x16), (3, .int v4), (0, .ref (G.2.2 198)), (1, .int a0)]) hx hb dX10_lasting_49 rfl hl (by decide) rfl (fun ls hl => ?_)
              obtain ⟨x17, ex17, ho⟩ := lt_ ho
              refine lv_iinc (v := x17) (lv' := [(3, .int x17), (2, .int x16), (0, .ref (G.2.2 198)), (1, .int a0)]) hx hb dX10_lasting_50 hl (k := 1) rfl (by rw [ex17]; rfl) (by decide) rfl (fun ls hl => ?_)
              refine lv_goto (tgt := 4) hx hb dX10_lasting_53 (by decide) ?_
              exact ih _ _  _ _ _ ho B (lv_sub hl [0, 1, 2, 3] rfl)
            · have ho := ip_ c15 ho
              refine lv_iconst (v := 1) hx hb dX10_lasting_43 (by decide) ?_
              refine lv_goto (tgt := 48) hx hb dX10_lasting_44 (by decide) ?_
              refine lv_iadd hx hb dX10_lasting_48 ?_
              obtain ⟨x18, ex18, ho⟩ := lt_ ho
              refine lv_nm ex18 ?_
              refine lv_istore_n (lv' := [(2, .int x18), (3, .int v4), (0, .ref (G.2.2 198)), (1, .int a0)]) hx hb dX10_lasting_49 rfl hl (by decide) rfl (fun ls hl => ?_)
              obtain ⟨x19, ex19, ho⟩ := lt_ ho
              refine lv_iinc (v := x19) (lv' := [(3, .int x19), (2, .int x18), (0, .ref (G.2.2 198)), (1, .int a0)]) hx hb dX10_lasting_50 hl (k := 1) rfl (by rw [ex19]; rfl) (by decide) rfl (fun ls hl => ?_)
              refine lv_goto (tgt := 4) hx hb dX10_lasting_53 (by decide) ?_
              exact ih _ _  _ _ _ ho B (lv_sub hl [0, 1, 2, 3] rfl)
  exact hloop4 8 _ _  _ _ _ ho B hl

set_option maxHeartbeats 4000000 in
set_option maxRecDepth 100000 in
theorem c_X10_gardenerOf (l : Launch) (G : Gd) (σ : Mm) (sz : Nat) (a0 : Int32) (a1 : Int32) {out : Int32 × Mm} (ho : f_X10_gardenerOf a0 a1 σ = some out) : Met l yX10_gardenerOf wsX10_gardenerOf { frames := 3, cells := 0, slots := 0, locals := 64 } (va_Pc [.ref (G.2.2 198), .int a0, .int a1] (PW G σ sz)) (Qi G sz out.1 out.2) 0 0 (AA G sz) := by
  refine Met.ofW (cc := cX10_gardenerOf) (maxL := 3) (ret := (some .int)) (by decide) rfl ?_
  intro p e s m args below meth c s₁ B0 hml hv
  obtain ⟨rfl, hpw⟩ := hv
  have hsz := hpw.1
  subst hsz
  obtain ⟨F, B⟩ := hpw.to
  have hx := B0.exec
  have hb := B0.bytes
  have hr := B0.returns
  have hts := atoms_spec (ws := wsX10_gardenerOf) B0.pre
  have hown : s.vm.findClass RX10 = some m.cls := findClass_of_methodNamed B0.named
  have hlocks := B0.notSynchronized
  have S : CallFix p m c cX10_gardenerOf 3 s _ wsX10_gardenerOf RX10 := ⟨hx, hb, hml, hown, hts⟩
  have hiX10 : ∀ w ∈ u_ws RX10 TX10 21, w ∈ wsX10_gardenerOf := by decide +kernel
  have hl := lv_entry [.ref (G.2.2 198), .int a0, .int a1] (n := 3) (Nat.le_of_ble_eq_true rfl)
  rw [lg_entry_eq]
  generalize (lg_sl [.ref (G.2.2 198), .int a0, .int a1] ++ List.replicate (3 - (lg_sl [.ref (G.2.2 198), .int a0, .int a1]).length) Slot.unset).toArray = ls at hl ⊢
  have hl : lv_has ls 3 [(0, .ref (G.2.2 198)), (1, .int a0), (2, .int a1)] := hl
  unfold f_X10_gardenerOf at ho
  refine lv_aload_n hx hb dX10_gardenerOf_0 rfl (lv_at hl 0 rfl) ?_
  refine lv_iconst (v := 0) hx hb dX10_gardenerOf_1 (by decide) ?_
  refine r_put (ci := 14) (C := RX10) (T := TX10) (N := 21) (ty := .int) S F B tyX10 tyX10_ok nmX10 (kq (by decide) : kd 198 = 21 ∧ 198 < NN) (fun _ => rfl) rfl hiX10 12 (by decide) (by decide +kernel) rfl rfl rfl rfl (fun _ => Nat.le_of_ble_eq_true rfl) (fun _ => rfl) dX10_gardenerOf_2 (fun H locs B => ?_)
  obtain ⟨σ1, eσ1, ho⟩ := lt_ ho
  rw [← eσ1] at B
  refine lv_aload_n hx hb dX10_gardenerOf_5 rfl (lv_at hl 0 rfl) ?_
  refine lv_iload_n hx hb dX10_gardenerOf_6 rfl (lv_at hl 1 rfl) ?_
  obtain ⟨q2, hq2, ho⟩ := bnd_ ho
  refine k_iV (As := [.int a0]) (rest := []) S F B (c_X10_isGardener l G σ1 _ a0 hq2) (kq (by decide) : kd 198 = 21 ∧ 198 < NN) rfl rfl (cwV 1 hts gX10_gardenerOf_X10_isGardener rfl rfl rfl (by decide +kernel) ⟨Nat.le_of_ble_eq_true rfl, Nat.le_of_ble_eq_true rfl⟩) rfl hl.1 rfl (Nat.le_of_ble_eq_true rfl) dX10_gardenerOf_7 ⟨Nat.le_of_ble_eq_true rfl, Nat.le_of_ble_eq_true rfl⟩ (fun H locs B => ?_)
  refine lv_if_ne (tgt := 19) hx hb dX10_gardenerOf_10 (by decide) (fun c3 => ?_) (fun c3 => ?_)
  · have ho := in_ c3 ho
    refine lv_iload_n hx hb dX10_gardenerOf_19 rfl (lv_at hl 2 rfl) ?_
    by_cases c4 : a1 = 0
    · have ho := ip_ c4 ho
      refine lv_tableIn (off := 36) (tgt := 56) hx hb dX10_gardenerOf_20 (by rw [c4]; decide) (by rw [c4]; decide) (by rw [c4]; rfl) (by decide) ?_
      refine lv_aload_n hx hb dX10_gardenerOf_56 rfl (lv_at hl 0 rfl) ?_
      refine r_get (ci := 14) (C := RX10) (T := TX10) (N := 21) S F B (kq (by decide) : kd 198 = 21 ∧ 198 < NN) rfl rfl hiX10 0 (by decide) (by decide +kernel) rfl dX10_gardenerOf_57 ?_
      refine lv_iload_n hx hb dX10_gardenerOf_60 rfl (lv_at hl 1 rfl) ?_
      obtain ⟨q5, hq5, ho⟩ := bnd_ ho
      refine k_iS (As := [.int a0]) (rest := [.ref (G.2.2 199)]) S F B (c_X10_gardenerAt l G σ1 _ a0 hq5) (va_cwS 1 hts gX10_gardenerOf_X10_gardenerAt rfl rfl rfl (by decide +kernel) ⟨Nat.le_of_ble_eq_true rfl, Nat.le_of_ble_eq_true rfl⟩) rfl hl.1 rfl (Nat.le_of_ble_eq_true rfl) dX10_gardenerOf_61 ⟨Nat.le_of_ble_eq_true rfl, Nat.le_of_ble_eq_true rfl⟩ (fun H locs B => ?_)
      obtain ⟨hi, ho⟩ := gd_ ho
      refine r_iald S F B (kq (by decide) : kd 199 = 22 ∧ 199 < NN) rfl hi dX10_gardenerOf_64 ?_
      cases ho
      exact e_i B hx hb hr hlocks rfl rfl dX10_gardenerOf_65
    · have ho := in_ c4 ho
      by_cases c6 : a1 = 1
      · have ho := ip_ c6 ho
        refine lv_tableIn (off := 46) (tgt := 66) hx hb dX10_gardenerOf_20 (by rw [c6]; decide) (by rw [c6]; decide) (by rw [c6]; rfl) (by decide) ?_
        refine lv_aload_n hx hb dX10_gardenerOf_66 rfl (lv_at hl 0 rfl) ?_
        refine lv_iload_n hx hb dX10_gardenerOf_67 rfl (lv_at hl 1 rfl) ?_
        obtain ⟨q7, hq7, ho⟩ := bnd_ ho
        refine k_iV (As := [.int a0]) (rest := []) S F B (c_X10_lasting l G σ1 _ a0 hq7) (kq (by decide) : kd 198 = 21 ∧ 198 < NN) rfl rfl (cwV 1 hts gX10_gardenerOf_X10_lasting rfl rfl rfl (by decide +kernel) ⟨Nat.le_of_ble_eq_true rfl, Nat.le_of_ble_eq_true rfl⟩) rfl hl.1 rfl (Nat.le_of_ble_eq_true rfl) dX10_gardenerOf_68 ⟨Nat.le_of_ble_eq_true rfl, Nat.le_of_ble_eq_true rfl⟩ (fun H locs B => ?_)
        cases ho
        exact e_i B hx hb hr hlocks rfl rfl dX10_gardenerOf_71
      · have ho := in_ c6 ho
        by_cases c8 : a1 = 2
        · have ho := ip_ c8 ho
          refine lv_tableIn (off := 52) (tgt := 72) hx hb dX10_gardenerOf_20 (by rw [c8]; decide) (by rw [c8]; decide) (by rw [c8]; rfl) (by decide) ?_
          refine lv_aload_n hx hb dX10_gardenerOf_72 rfl (lv_at hl 0 rfl) ?_
          refine r_get (ci := 14) (C := RX10) (T := TX10) (N := 21) S F B (kq (by decide) : kd 198 = 21 ∧ 198 < NN) rfl rfl hiX10 0 (by decide) (by decide +kernel) rfl dX10_gardenerOf_73 ?_
          refine lv_iload_n hx hb dX10_gardenerOf_76 rfl (lv_at hl 1 rfl) ?_
          obtain ⟨q9, hq9, ho⟩ := bnd_ ho
          refine k_iS (As := [.int a0]) (rest := [.ref (G.2.2 199)]) S F B (c_X10_gardenerAt l G σ1 _ a0 hq9) (va_cwS 1 hts gX10_gardenerOf_X10_gardenerAt rfl rfl rfl (by decide +kernel) ⟨Nat.le_of_ble_eq_true rfl, Nat.le_of_ble_eq_true rfl⟩) rfl hl.1 rfl (Nat.le_of_ble_eq_true rfl) dX10_gardenerOf_77 ⟨Nat.le_of_ble_eq_true rfl, Nat.le_of_ble_eq_true rfl⟩ (fun H locs B => ?_)
          refine lv_iload_n hx hb dX10_gardenerOf_80 rfl (lv_at hl 2 rfl) ?_
          refine lv_iadd hx hb dX10_gardenerOf_81 ?_
          refine lv_iconst (v := 1) hx hb dX10_gardenerOf_82 (by decide) ?_
          refine lv_isub hx hb dX10_gardenerOf_83 ?_
          obtain ⟨hi, ho⟩ := gd_ ho
          refine r_iald S F B (kq (by decide) : kd 199 = 22 ∧ 199 < NN) rfl hi dX10_gardenerOf_84 ?_
          cases ho
          exact e_i B hx hb hr hlocks rfl rfl dX10_gardenerOf_85
        · have ho := in_ c8 ho
          by_cases c10 : a1 = 3
          · have ho := ip_ c10 ho
            refine lv_tableIn (off := 52) (tgt := 72) hx hb dX10_gardenerOf_20 (by rw [c10]; decide) (by rw [c10]; decide) (by rw [c10]; rfl) (by decide) ?_
            refine lv_aload_n hx hb dX10_gardenerOf_72 rfl (lv_at hl 0 rfl) ?_
            refine r_get (ci := 14) (C := RX10) (T := TX10) (N := 21) S F B (kq (by decide) : kd 198 = 21 ∧ 198 < NN) rfl rfl hiX10 0 (by decide) (by decide +kernel) rfl dX10_gardenerOf_73 ?_
            refine lv_iload_n hx hb dX10_gardenerOf_76 rfl (lv_at hl 1 rfl) ?_
            obtain ⟨q11, hq11, ho⟩ := bnd_ ho
            refine k_iS (As := [.int a0]) (rest := [.ref (G.2.2 199)]) S F B (c_X10_gardenerAt l G σ1 _ a0 hq11) (va_cwS 1 hts gX10_gardenerOf_X10_gardenerAt rfl rfl rfl (by decide +kernel) ⟨Nat.le_of_ble_eq_true rfl, Nat.le_of_ble_eq_true rfl⟩) rfl hl.1 rfl (Nat.le_of_ble_eq_true rfl) dX10_gardenerOf_77 ⟨Nat.le_of_ble_eq_true rfl, Nat.le_of_ble_eq_true rfl⟩ (fun H locs B => ?_)
            refine lv_iload_n hx hb dX10_gardenerOf_80 rfl (lv_at hl 2 rfl) ?_
            refine lv_iadd hx hb dX10_gardenerOf_81 ?_
            refine lv_iconst (v := 1) hx hb dX10_gardenerOf_82 (by decide) ?_
            refine lv_isub hx hb dX10_gardenerOf_83 ?_
            obtain ⟨hi, ho⟩ := gd_ ho
            refine r_iald S F B (kq (by decide) : kd 199 = 22 ∧ 199 < NN) rfl hi dX10_gardenerOf_84 ?_
            cases ho
            exact e_i B hx hb hr hlocks rfl rfl dX10_gardenerOf_85
          · have ho := in_ c10 ho
            by_cases c12 : a1 = 4
            · have ho := ip_ c12 ho
              refine lv_tableIn (off := 52) (tgt := 72) hx hb dX10_gardenerOf_20 (by rw [c12]; decide) (by rw [c12]; decide) (by rw [c12]; rfl) (by decide) ?_
              refine lv_aload_n hx hb dX10_gardenerOf_72 rfl (lv_at hl 0 rfl) ?_
              refine r_get (ci := 14) (C := RX10) (T := TX10) (N := 21) S F B (kq (by decide) : kd 198 = 21 ∧ 198 < NN) rfl rfl hiX10 0 (by decide) (by decide +kernel) rfl dX10_gardenerOf_73 ?_
              refine lv_iload_n hx hb dX10_gardenerOf_76 rfl (lv_at hl 1 rfl) ?_
              obtain ⟨q13, hq13, ho⟩ := bnd_ ho
              refine k_iS (As := [.int a0]) (rest := [.ref (G.2.2 199)]) S F B (c_X10_gardenerAt l G σ1 _ a0 hq13) (va_cwS 1 hts gX10_gardenerOf_X10_gardenerAt rfl rfl rfl (by decide +kernel) ⟨Nat.le_of_ble_eq_true rfl, Nat.le_of_ble_eq_true rfl⟩) rfl hl.1 rfl (Nat.le_of_ble_eq_true rfl) dX10_gardenerOf_77 ⟨Nat.le_of_ble_eq_true rfl, Nat.le_of_ble_eq_true rfl⟩ (fun H locs B => ?_)
              refine lv_iload_n hx hb dX10_gardenerOf_80 rfl (lv_at hl 2 rfl) ?_
              refine lv_iadd hx hb dX10_gardenerOf_81 ?_
              refine lv_iconst (v := 1) hx hb dX10_gardenerOf_82 (by decide) ?_
              refine lv_isub hx hb dX10_gardenerOf_83 ?_
              obtain ⟨hi, ho⟩ := gd_ ho
              refine r_iald S F B (kq (by decide) : kd 199 = 22 ∧ 199 < NN) rfl hi dX10_gardenerOf_84 ?_
              cases ho
              exact e_i B hx hb hr hlocks rfl rfl dX10_gardenerOf_85
            · have ho := in_ c12 ho
              refine t_tableD (tgt := 86) hx hb dX10_gardenerOf_20 rfl (fun j hj => ?_) (by decide) ?_
              · have hj : j < 5 := hj
                rcases (show j = 0 ∨ j = 1 ∨ j = 2 ∨ j = 3 ∨ j = 4 by omega) with rfl | rfl | rfl | rfl | rfl
                · exact Or.inr (lv_neT c4 (by decide))
                · exact Or.inr (lv_neT c6 (by decide))
                · exact Or.inr (lv_neT c8 (by decide))
                · exact Or.inr (lv_neT c10 (by decide))
                · exact Or.inr (lv_neT c12 (by decide))
              · refine lv_aload_n hx hb dX10_gardenerOf_86 rfl (lv_at hl 0 rfl) ?_
                refine lv_iconst (v := 2) hx hb dX10_gardenerOf_87 (by decide) ?_
                obtain ⟨q14, σ15, hq14, ho⟩ := bnm_ ho
                refine k_iV (As := [.int 2]) (rest := []) S F B (c_X10_throwing l G σ1 _ 2 hq14) (kq (by decide) : kd 198 = 21 ∧ 198 < NN) rfl rfl (cwV 1 hts gX10_gardenerOf_X10_throwing rfl rfl rfl (by decide +kernel) ⟨Nat.le_of_ble_eq_true rfl, Nat.le_of_ble_eq_true rfl⟩) rfl hl.1 rfl (Nat.le_of_ble_eq_true rfl) dX10_gardenerOf_88 ⟨Nat.le_of_ble_eq_true rfl, Nat.le_of_ble_eq_true rfl⟩ (fun H locs B => ?_)
                cases ho
                exact e_i B hx hb hr hlocks rfl rfl dX10_gardenerOf_91
  · have ho := ip_ c3 ho
    refine lv_aload_n hx hb dX10_gardenerOf_13 rfl (lv_at hl 0 rfl) ?_
    refine lv_iconst (v := 1) hx hb dX10_gardenerOf_14 (by decide) ?_
    obtain ⟨q16, σ17, hq16, ho⟩ := bnm_ ho
    refine k_iV (As := [.int 1]) (rest := []) S F B (c_X10_throwing l G σ1 _ 1 hq16) (kq (by decide) : kd 198 = 21 ∧ 198 < NN) rfl rfl (cwV 1 hts gX10_gardenerOf_X10_throwing rfl rfl rfl (by decide +kernel) ⟨Nat.le_of_ble_eq_true rfl, Nat.le_of_ble_eq_true rfl⟩) rfl hl.1 rfl (Nat.le_of_ble_eq_true rfl) dX10_gardenerOf_15 ⟨Nat.le_of_ble_eq_true rfl, Nat.le_of_ble_eq_true rfl⟩ (fun H locs B => ?_)
    cases ho
    exact e_i B hx hb hr hlocks rfl rfl dX10_gardenerOf_18

set_option maxHeartbeats 4000000 in
set_option maxRecDepth 100000 in
theorem c_X10_visitorOf (l : Launch) (G : Gd) (σ : Mm) (sz : Nat) (a0 : Int32) (a1 : Int32) {out : Int32 × Mm} (ho : f_X10_visitorOf a0 a1 σ = some out) : Met l yX10_visitorOf wsX10_visitorOf { frames := 2, cells := 0, slots := 0, locals := 54 } (va_Pc [.ref (G.2.2 198), .int a0, .int a1] (PW G σ sz)) (Qi G sz out.1 out.2) 0 0 (AA G sz) := by
  refine Met.ofW (cc := cX10_visitorOf) (maxL := 4) (ret := (some .int)) (by decide) rfl ?_
  intro p e s m args below meth c s₁ B0 hml hv
  obtain ⟨rfl, hpw⟩ := hv
  have hsz := hpw.1
  subst hsz
  obtain ⟨F, B⟩ := hpw.to
  have hx := B0.exec
  have hb := B0.bytes
  have hr := B0.returns
  have hts := atoms_spec (ws := wsX10_visitorOf) B0.pre
  have hown : s.vm.findClass RX10 = some m.cls := findClass_of_methodNamed B0.named
  have hlocks := B0.notSynchronized
  have S : CallFix p m c cX10_visitorOf 4 s _ wsX10_visitorOf RX10 := ⟨hx, hb, hml, hown, hts⟩
  have hiX10 : ∀ w ∈ u_ws RX10 TX10 21, w ∈ wsX10_visitorOf := by decide +kernel
  have hl := lv_entry [.ref (G.2.2 198), .int a0, .int a1] (n := 4) (Nat.le_of_ble_eq_true rfl)
  rw [lg_entry_eq]
  generalize (lg_sl [.ref (G.2.2 198), .int a0, .int a1] ++ List.replicate (4 - (lg_sl [.ref (G.2.2 198), .int a0, .int a1]).length) Slot.unset).toArray = ls at hl ⊢
  have hl : lv_has ls 4 [(0, .ref (G.2.2 198)), (1, .int a0), (2, .int a1)] := hl
  unfold f_X10_visitorOf at ho
  refine lv_aload_n hx hb dX10_visitorOf_0 rfl (lv_at hl 0 rfl) ?_
  refine lv_iconst (v := 0) hx hb dX10_visitorOf_1 (by decide) ?_
  refine r_put (ci := 14) (C := RX10) (T := TX10) (N := 21) (ty := .int) S F B tyX10 tyX10_ok nmX10 (kq (by decide) : kd 198 = 21 ∧ 198 < NN) (fun _ => rfl) rfl hiX10 12 (by decide) (by decide +kernel) rfl rfl rfl rfl (fun _ => Nat.le_of_ble_eq_true rfl) (fun _ => rfl) dX10_visitorOf_2 (fun H locs B => ?_)
  obtain ⟨σ1, eσ1, ho⟩ := lt_ ho
  rw [← eσ1] at B
  refine lv_aload_n hx hb dX10_visitorOf_5 rfl (lv_at hl 0 rfl) ?_
  refine lv_iload_n hx hb dX10_visitorOf_6 rfl (lv_at hl 1 rfl) ?_
  obtain ⟨q2, hq2, ho⟩ := bnd_ ho
  refine k_iV (As := [.int a0]) (rest := []) S F B (c_X10_isVisitor l G σ1 _ a0 hq2) (kq (by decide) : kd 198 = 21 ∧ 198 < NN) rfl rfl (cwV 1 hts gX10_visitorOf_X10_isVisitor rfl rfl rfl (by decide +kernel) ⟨Nat.le_of_ble_eq_true rfl, Nat.le_of_ble_eq_true rfl⟩) rfl hl.1 rfl (Nat.le_of_ble_eq_true rfl) dX10_visitorOf_7 ⟨Nat.le_of_ble_eq_true rfl, Nat.le_of_ble_eq_true rfl⟩ (fun H locs B => ?_)
  refine lv_if_ne (tgt := 19) hx hb dX10_visitorOf_10 (by decide) (fun c3 => ?_) (fun c3 => ?_)
  · have ho := in_ c3 ho
    refine lv_iload_n hx hb dX10_visitorOf_19 rfl (lv_at hl 1 rfl) ?_
    obtain ⟨q4, hq4, ho⟩ := bnd_ ho
    refine k_iS (As := [.int a0]) (rest := []) S F B (c_X10_visitorAt l G σ1 _ a0 hq4) (va_cwS 1 hts gX10_visitorOf_X10_visitorAt rfl rfl rfl (by decide +kernel) ⟨Nat.le_of_ble_eq_true rfl, Nat.le_of_ble_eq_true rfl⟩) rfl hl.1 rfl (Nat.le_of_ble_eq_true rfl) dX10_visitorOf_20 ⟨Nat.le_of_ble_eq_true rfl, Nat.le_of_ble_eq_true rfl⟩ (fun H locs B => ?_)
    refine lv_istore_n (lv' := [(3, .int q4), (0, .ref (G.2.2 198)), (1, .int a0), (2, .int a1)]) hx hb dX10_visitorOf_23 rfl hl (by decide) rfl (fun ls hl => ?_)
    refine lv_iload_n hx hb dX10_visitorOf_24 rfl (lv_at hl 3 rfl) ?_
    by_cases c5 : a1 = 0
    · have ho := ip_ c5 ho
      refine lv_tableIn (off := 51) (tgt := 76) hx hb dX10_visitorOf_25 (by rw [c5]; decide) (by rw [c5]; decide) (by rw [c5]; rfl) (by decide) ?_
      refine lv_aload_n hx hb dX10_visitorOf_76 rfl (lv_at hl 1 rfl) ?_
      refine r_get (ci := 14) (C := RX10) (T := TX10) (N := 21) S F B (kq (by decide) : kd 198 = 21 ∧ 198 < NN) rfl rfl hiX10 0 (by decide) (by decide +kernel) rfl dX10_visitorOf_77 ?_
      refine lv_iload_n hx hb dX10_visitorOf_80 rfl (lv_at hl 0 rfl) ?_
      refine lv_iload_n hx hb dX10_visitorOf_81 rfl (lv_at hl 3 rfl) ?_
      refine lv_iadd hx hb dX10_visitorOf_82 ?_
      obtain ⟨hi, ho⟩ := gd_ ho
      refine r_iald S F B (kq (by decide) : kd 199 = 22 ∧ 199 < NN) rfl hi dX10_visitorOf_83 ?_
      cases ho
      exact e_i B hx hb hr hlocks rfl rfl dX10_visitorOf_84
    · have ho := in_ c5 ho
      by_cases c6 : a1 = 1
      · have ho := ip_ c6 ho
        refine lv_tableIn (off := 51) (tgt := 76) hx hb dX10_visitorOf_25 (by rw [c6]; decide) (by rw [c6]; decide) (by rw [c6]; rfl) (by decide) ?_
        refine lv_aload_n hx hb dX10_visitorOf_76 rfl (lv_at hl 1 rfl) ?_
        refine r_get (ci := 14) (C := RX10) (T := TX10) (N := 21) S F B (kq (by decide) : kd 198 = 21 ∧ 198 < NN) rfl rfl hiX10 0 (by decide) (by decide +kernel) rfl dX10_visitorOf_77 ?_
        refine lv_iload_n hx hb dX10_visitorOf_80 rfl (lv_at hl 0 rfl) ?_
        refine lv_iload_n hx hb dX10_visitorOf_81 rfl (lv_at hl 3 rfl) ?_
        refine lv_iadd hx hb dX10_visitorOf_82 ?_
        obtain ⟨hi, ho⟩ := gd_ ho
        refine r_iald S F B (kq (by decide) : kd 199 = 22 ∧ 199 < NN) rfl hi dX10_visitorOf_83 ?_
        cases ho
        exact e_i B hx hb hr hlocks rfl rfl dX10_visitorOf_84
      · have ho := in_ c6 ho
        by_cases c7 : a1 = 2
        · have ho := ip_ c7 ho
          refine lv_tableIn (off := 51) (tgt := 76) hx hb dX10_visitorOf_25 (by rw [c7]; decide) (by rw [c7]; decide) (by rw [c7]; rfl) (by decide) ?_
          refine lv_aload_n hx hb dX10_visitorOf_76 rfl (lv_at hl 1 rfl) ?_
          refine r_get (ci := 14) (C := RX10) (T := TX10) (N := 21) S F B (kq (by decide) : kd 198 = 21 ∧ 198 < NN) rfl rfl hiX10 0 (by decide) (by decide +kernel) rfl dX10_visitorOf_77 ?_
          refine lv_iload_n hx hb dX10_visitorOf_80 rfl (lv_at hl 0 rfl) ?_
          refine lv_iload_n hx hb dX10_visitorOf_81 rfl (lv_at hl 3 rfl) ?_
          refine lv_iadd hx hb dX10_visitorOf_82 ?_
          obtain ⟨hi, ho⟩ := gd_ ho
          refine r_iald S F B (kq (by decide) : kd 199 = 22 ∧ 199 < NN) rfl hi dX10_visitorOf_83 ?_
          cases ho
          exact e_i B hx hb hr hlocks rfl rfl dX10_visitorOf_84
        · have ho := in_ c7 ho
          by_cases c8 : a1 = 3
          · have ho := ip_ c8 ho
            refine lv_tableIn (off := 51) (tgt := 76) hx hb dX10_visitorOf_25 (by rw [c8]; decide) (by rw [c8]; decide) (by rw [c8]; rfl) (by decide) ?_
            refine lv_aload_n hx hb dX10_visitorOf_76 rfl (lv_at hl 1 rfl) ?_
            refine r_get (ci := 14) (C := RX10) (T := TX10) (N := 21) S F B (kq (by decide) : kd 198 = 21 ∧ 198 < NN) rfl rfl hiX10 0 (by decide) (by decide +kernel) rfl dX10_visitorOf_77 ?_
            refine lv_iload_n hx hb dX10_visitorOf_80 rfl (lv_at hl 0 rfl) ?_
            refine lv_iload_n hx hb dX10_visitorOf_81 rfl (lv_at hl 3 rfl) ?_
            refine lv_iadd hx hb dX10_visitorOf_82 ?_
            obtain ⟨hi, ho⟩ := gd_ ho
            refine r_iald S F B (kq (by decide) : kd 199 = 22 ∧ 199 < NN) rfl hi dX10_visitorOf_83 ?_
            cases ho
            exact e_i B hx hb hr hlocks rfl rfl dX10_visitorOf_84
          · have ho := in_ c8 ho
            by_cases c9 : a1 = 4
            · have ho := ip_ c9 ho
              refine lv_tableIn (off := 60) (tgt := 85) hx hb dX10_visitorOf_25 (by rw [c9]; decide) (by rw [c9]; decide) (by rw [c9]; rfl) (by decide) ?_
              refine lv_aload_n hx hb dX10_visitorOf_85 rfl (lv_at hl 1 rfl) ?_
              refine lv_iload_n hx hb dX10_visitorOf_86 rfl (lv_at hl 2 rfl) ?_
              obtain ⟨q10, hq10, ho⟩ := bnd_ ho
              refine k_iV (As := [.int a0]) (rest := []) S F B (c_X10_lostOf l G σ1 _ a0 hq10) (kq (by decide) : kd 198 = 21 ∧ 198 < NN) rfl rfl (cwV 1 hts gX10_visitorOf_X10_lostOf rfl rfl rfl (by decide +kernel) ⟨Nat.le_of_ble_eq_true rfl, Nat.le_of_ble_eq_true rfl⟩) rfl hl.1 rfl (Nat.le_of_ble_eq_true rfl) dX10_visitorOf_87 ⟨Nat.le_of_ble_eq_true rfl, Nat.le_of_ble_eq_true rfl⟩ (fun H locs B => ?_)
              cases ho
              exact e_i B hx hb hr hlocks rfl rfl dX10_visitorOf_90
            · have ho := in_ c9 ho
              by_cases c11 : a1 = 5
              · have ho := ip_ c11 ho
                refine lv_tableIn (off := 66) (tgt := 91) hx hb dX10_visitorOf_25 (by rw [c11]; decide) (by rw [c11]; decide) (by rw [c11]; rfl) (by decide) ?_
                refine lv_aload_n hx hb dX10_visitorOf_91 rfl (lv_at hl 1 rfl) ?_
                refine r_get (ci := 14) (C := RX10) (T := TX10) (N := 21) S F B (kq (by decide) : kd 198 = 21 ∧ 198 < NN) rfl rfl hiX10 0 (by decide) (by decide +kernel) rfl dX10_visitorOf_92 ?_
                refine lv_iload_n hx hb dX10_visitorOf_95 rfl (lv_at hl 0 rfl) ?_
                refine lv_iload_n hx hb dX10_visitorOf_96 rfl (lv_at hl 3 rfl) ?_
                refine lv_iadd hx hb dX10_visitorOf_97 ?_
                refine lv_iconst (v := 1) hx hb dX10_visitorOf_98 (by decide) ?_
                refine lv_isub hx hb dX10_visitorOf_99 ?_
                obtain ⟨hi, ho⟩ := gd_ ho
                refine r_iald S F B (kq (by decide) : kd 199 = 22 ∧ 199 < NN) rfl hi dX10_visitorOf_100 ?_
                cases ho
                exact e_i B hx hb hr hlocks rfl rfl dX10_visitorOf_101
              · have ho := in_ c11 ho
                by_cases c12 : a1 = 6
                · have ho := ip_ c12 ho
                  refine lv_tableIn (off := 66) (tgt := 91) hx hb dX10_visitorOf_25 (by rw [c12]; decide) (by rw [c12]; decide) (by rw [c12]; rfl) (by decide) ?_
                  refine lv_aload_n hx hb dX10_visitorOf_91 rfl (lv_at hl 1 rfl) ?_
                  refine r_get (ci := 14) (C := RX10) (T := TX10) (N := 21) S F B (kq (by decide) : kd 198 = 21 ∧ 198 < NN) rfl rfl hiX10 0 (by decide) (by decide +kernel) rfl dX10_visitorOf_92 ?_
                  refine lv_iload_n hx hb dX10_visitorOf_95 rfl (lv_at hl 0 rfl) ?_
                  refine lv_iload_n hx hb dX10_visitorOf_96 rfl (lv_at hl 3 rfl) ?_
                  refine lv_iadd hx hb dX10_visitorOf_97 ?_
                  refine lv_iconst (v := 1) hx hb dX10_visitorOf_98 (by decide) ?_
                  refine lv_isub hx hb dX10_visitorOf_99 ?_
                  obtain ⟨hi, ho⟩ := gd_ ho
                  refine r_iald S F B (kq (by decide) : kd 199 = 22 ∧ 199 < NN) rfl hi dX10_visitorOf_100 ?_
                  cases ho
                  exact e_i B hx hb hr hlocks rfl rfl dX10_visitorOf_101
                · have ho := in_ c12 ho
                  by_cases c13 : a1 = 7
                  · have ho := ip_ c13 ho
                    refine lv_tableIn (off := 66) (tgt := 91) hx hb dX10_visitorOf_25 (by rw [c13]; decide) (by rw [c13]; decide) (by rw [c13]; rfl) (by decide) ?_
                    refine lv_aload_n hx hb dX10_visitorOf_91 rfl (lv_at hl 1 rfl) ?_
                    refine r_get (ci := 14) (C := RX10) (T := TX10) (N := 21) S F B (kq (by decide) : kd 198 = 21 ∧ 198 < NN) rfl rfl hiX10 0 (by decide) (by decide +kernel) rfl dX10_visitorOf_92 ?_
                    refine lv_iload_n hx hb dX10_visitorOf_95 rfl (lv_at hl 0 rfl) ?_
                    refine lv_iload_n hx hb dX10_visitorOf_96 rfl (lv_at hl 3 rfl) ?_
                    refine lv_iadd hx hb dX10_visitorOf_97 ?_
                    refine lv_iconst (v := 1) hx hb dX10_visitorOf_98 (by decide) ?_
                    refine lv_isub hx hb dX10_visitorOf_99 ?_
                    obtain ⟨hi, ho⟩ := gd_ ho
                    refine r_iald S F B (kq (by decide) : kd 199 = 22 ∧ 199 < NN) rfl hi dX10_visitorOf_100 ?_
                    cases ho
                    exact e_i B hx hb hr hlocks rfl rfl dX10_visitorOf_101
                  · have ho := in_ c13 ho
                    by_cases c14 : a1 = 8
                    · have ho := ip_ c14 ho
                      refine lv_tableIn (off := 66) (tgt := 91) hx hb dX10_visitorOf_25 (by rw [c14]; decide) (by rw [c14]; decide) (by rw [c14]; rfl) (by decide) ?_
                      refine lv_aload_n hx hb dX10_visitorOf_91 rfl (lv_at hl 1 rfl) ?_
                      refine r_get (ci := 14) (C := RX10) (T := TX10) (N := 21) S F B (kq (by decide) : kd 198 = 21 ∧ 198 < NN) rfl rfl hiX10 0 (by decide) (by decide +kernel) rfl dX10_visitorOf_92 ?_
                      refine lv_iload_n hx hb dX10_visitorOf_95 rfl (lv_at hl 0 rfl) ?_
                      refine lv_iload_n hx hb dX10_visitorOf_96 rfl (lv_at hl 3 rfl) ?_
                      refine lv_iadd hx hb dX10_visitorOf_97 ?_
                      refine lv_iconst (v := 1) hx hb dX10_visitorOf_98 (by decide) ?_
                      refine lv_isub hx hb dX10_visitorOf_99 ?_
                      obtain ⟨hi, ho⟩ := gd_ ho
                      refine r_iald S F B (kq (by decide) : kd 199 = 22 ∧ 199 < NN) rfl hi dX10_visitorOf_100 ?_
                      cases ho
                      exact e_i B hx hb hr hlocks rfl rfl dX10_visitorOf_101
                    · have ho := in_ c14 ho
                      refine t_tableD (tgt := 102) hx hb dX10_visitorOf_25 rfl (fun j hj => ?_) (by decide) ?_
                      · have hj : j < 9 := hj
                        rcases (show j = 0 ∨ j = 1 ∨ j = 2 ∨ j = 3 ∨ j = 4 ∨ j = 5 ∨ j = 6 ∨ j = 7 ∨ j = 8 by omega) with rfl | rfl | rfl | rfl | rfl | rfl | rfl | rfl | rfl
                        · exact Or.inr (lv_neT c5 (by decide))
                        · exact Or.inr (lv_neT c6 (by decide))
                        · exact Or.inr (lv_neT c7 (by decide))
                        · exact Or.inr (lv_neT c8 (by decide))
                        · exact Or.inr (lv_neT c9 (by decide))
                        · exact Or.inr (lv_neT c11 (by decide))
                        · exact Or.inr (lv_neT c12 (by decide))
                        · exact Or.inr (lv_neT c13 (by decide))
                        · exact Or.inr (lv_neT c14 (by decide))
                      · refine lv_aload_n hx hb dX10_visitorOf_102 rfl (lv_at hl 1 rfl) ?_
                        refine lv_iconst (v := 2) hx hb dX10_visitorOf_103 (by decide) ?_
                        obtain ⟨q15, σ16, hq15, ho⟩ := bnm_ ho
                        refine k_iV (As := [.int 2]) (rest := []) S F B (c_X10_throwing l G σ1 _ 2 hq15) (kq (by decide) : kd 198 = 21 ∧ 198 < NN) rfl rfl (cwV 1 hts gX10_visitorOf_X10_throwing rfl rfl rfl (by decide +kernel) ⟨Nat.le_of_ble_eq_true rfl, Nat.le_of_ble_eq_true rfl⟩) rfl hl.1 rfl (Nat.le_of_ble_eq_true rfl) dX10_visitorOf_104 ⟨Nat.le_of_ble_eq_true rfl, Nat.le_of_ble_eq_true rfl⟩ (fun H locs B => ?_)
                        cases ho
                        exact e_i B hx hb hr hlocks rfl rfl dX10_visitorOf_107
  · have ho := ip_ c3 ho
    refine lv_aload_n hx hb dX10_visitorOf_13 rfl (lv_at hl 0 rfl) ?_
    refine lv_iconst (v := 1) hx hb dX10_visitorOf_14 (by decide) ?_
    obtain ⟨q17, σ18, hq17, ho⟩ := bnm_ ho
    refine k_iV (As := [.int 1]) (rest := []) S F B (c_X10_throwing l G σ1 _ 1 hq17) (kq (by decide) : kd 198 = 21 ∧ 198 < NN) rfl rfl (cwV 1 hts gX10_visitorOf_X10_throwing rfl rfl rfl (by decide +kernel) ⟨Nat.le_of_ble_eq_true rfl, Nat.le_of_ble_eq_true rfl⟩) rfl hl.1 rfl (Nat.le_of_ble_eq_true rfl) dX10_visitorOf_15 ⟨Nat.le_of_ble_eq_true rfl, Nat.le_of_ble_eq_true rfl⟩ (fun H locs B => ?_)
    cases ho
    exact e_i B hx hb hr hlocks rfl rfl dX10_visitorOf_18

set_option maxHeartbeats 4000000 in
set_option maxRecDepth 100000 in
theorem c_X10_wouldPay (l : Launch) (G : Gd) (σ : Mm) (sz : Nat) (a0 : Int32) {out : Int32 × Mm} (ho : f_X10_wouldPay a0 σ = some out) : Met l yX10_wouldPay wsX10_wouldPay { frames := 4, cells := 0, slots := 0, locals := 105 } (va_Pc [.ref (G.2.2 198), .int a0] (PW G σ sz)) (Qi G sz out.1 out.2) 0 0 (AA G sz) := by
  refine Met.ofW (cc := cX10_wouldPay) (maxL := 4) (ret := (some .int)) (by decide) rfl ?_
  intro p e s m args below meth c s₁ B0 hml hv
  obtain ⟨rfl, hpw⟩ := hv
  have hsz := hpw.1
  subst hsz
  obtain ⟨F, B⟩ := hpw.to
  have hx := B0.exec
  have hb := B0.bytes
  have hr := B0.returns
  have hts := atoms_spec (ws := wsX10_wouldPay) B0.pre
  have hown : s.vm.findClass RX10 = some m.cls := findClass_of_methodNamed B0.named
  have hlocks := B0.notSynchronized
  have S : CallFix p m c cX10_wouldPay 4 s _ wsX10_wouldPay RX10 := ⟨hx, hb, hml, hown, hts⟩
  have hiX10 : ∀ w ∈ u_ws RX10 TX10 21, w ∈ wsX10_wouldPay := by decide +kernel
  have hl := lv_entry [.ref (G.2.2 198), .int a0] (n := 4) (Nat.le_of_ble_eq_true rfl)
  rw [lg_entry_eq]
  generalize (lg_sl [.ref (G.2.2 198), .int a0] ++ List.replicate (4 - (lg_sl [.ref (G.2.2 198), .int a0]).length) Slot.unset).toArray = ls at hl ⊢
  have hl : lv_has ls 4 [(0, .ref (G.2.2 198)), (1, .int a0)] := hl
  unfold f_X10_wouldPay at ho
  refine lv_aload_n hx hb dX10_wouldPay_0 rfl (lv_at hl 0 rfl) ?_
  refine lv_iconst (v := 0) hx hb dX10_wouldPay_1 (by decide) ?_
  refine r_put (ci := 14) (C := RX10) (T := TX10) (N := 21) (ty := .int) S F B tyX10 tyX10_ok nmX10 (kq (by decide) : kd 198 = 21 ∧ 198 < NN) (fun _ => rfl) rfl hiX10 12 (by decide) (by decide +kernel) rfl rfl rfl rfl (fun _ => Nat.le_of_ble_eq_true rfl) (fun _ => rfl) dX10_wouldPay_2 (fun H locs B => ?_)
  obtain ⟨σ1, eσ1, ho⟩ := lt_ ho
  rw [← eσ1] at B
  refine lv_aload_n hx hb dX10_wouldPay_5 rfl (lv_at hl 0 rfl) ?_
  refine lv_iload_n hx hb dX10_wouldPay_6 rfl (lv_at hl 1 rfl) ?_
  obtain ⟨q2, hq2, ho⟩ := bnd_ ho
  refine k_iV (As := [.int a0]) (rest := []) S F B (c_X10_isVisitor l G σ1 _ a0 hq2) (kq (by decide) : kd 198 = 21 ∧ 198 < NN) rfl rfl (cwV 1 hts gX10_wouldPay_X10_isVisitor rfl rfl rfl (by decide +kernel) ⟨Nat.le_of_ble_eq_true rfl, Nat.le_of_ble_eq_true rfl⟩) rfl hl.1 rfl (Nat.le_of_ble_eq_true rfl) dX10_wouldPay_7 ⟨Nat.le_of_ble_eq_true rfl, Nat.le_of_ble_eq_true rfl⟩ (fun H locs B => ?_)
  refine lv_if_ne (tgt := 19) hx hb dX10_wouldPay_10 (by decide) (fun c3 => ?_) (fun c3 => ?_)
  · have ho := in_ c3 ho
    refine lv_iload_n hx hb dX10_wouldPay_19 rfl (lv_at hl 1 rfl) ?_
    obtain ⟨q4, hq4, ho⟩ := bnd_ ho
    refine k_iS (As := [.int a0]) (rest := []) S F B (c_X10_visitorAt l G σ1 _ a0 hq4) (va_cwS 1 hts gX10_wouldPay_X10_visitorAt rfl rfl rfl (by decide +kernel) ⟨Nat.le_of_ble_eq_true rfl, Nat.le_of_ble_eq_true rfl⟩) rfl hl.1 rfl (Nat.le_of_ble_eq_true rfl) dX10_wouldPay_20 ⟨Nat.le_of_ble_eq_true rfl, Nat.le_of_ble_eq_true rfl⟩ (fun H locs B => ?_)
    refine lv_istore_n (lv' := [(2, .int q4), (0, .ref (G.2.2 198)), (1, .int a0)]) hx hb dX10_wouldPay_23 rfl hl (by decide) rfl (fun ls hl => ?_)
    refine lv_aload_n hx hb dX10_wouldPay_24 rfl (lv_at hl 1 rfl) ?_
    refine lv_aload_n hx hb dX10_wouldPay_25 rfl (lv_at hl 1 rfl) ?_
    refine r_get (ci := 14) (C := RX10) (T := TX10) (N := 21) S F B (kq (by decide) : kd 198 = 21 ∧ 198 < NN) rfl rfl hiX10 0 (by decide) (by decide +kernel) rfl dX10_wouldPay_26 ?_
    refine lv_iload_n hx hb dX10_wouldPay_29 rfl (lv_at hl 0 rfl) ?_
    refine lv_iconst (v := 1) hx hb dX10_wouldPay_30 (by decide) ?_
    refine lv_iadd hx hb dX10_wouldPay_31 ?_
    obtain ⟨hi, ho⟩ := gd_ ho
    refine r_iald S F B (kq (by decide) : kd 199 = 22 ∧ 199 < NN) rfl hi dX10_wouldPay_32 ?_
    refine lv_bipush (v := 15) hx hb dX10_wouldPay_33 (by decide) ?_
    obtain ⟨q5, σ6, hq5, ho⟩ := bnm_ ho
    refine k_iV (As := [.int (σ1 199 (q4 + 1).toNatClampNeg), .int 15]) (rest := []) S F B (c_X10_hoursOf l G σ1 _ (σ1 199 (q4 + 1).toNatClampNeg) 15 hq5) (kq (by decide) : kd 198 = 21 ∧ 198 < NN) rfl rfl (cwV 2 hts gX10_wouldPay_X10_hoursOf rfl rfl rfl (by decide +kernel) ⟨Nat.le_of_ble_eq_true rfl, Nat.le_of_ble_eq_true rfl⟩) rfl hl.1 rfl (Nat.le_of_ble_eq_true rfl) dX10_wouldPay_35 ⟨Nat.le_of_ble_eq_true rfl, Nat.le_of_ble_eq_true rfl⟩ (fun H locs B => ?_)
    refine lv_istore_n (lv' := [(3, .int q5), (2, .int q4), (0, .ref (G.2.2 198)), (1, .int a0)]) hx hb dX10_wouldPay_38 rfl hl (by decide) rfl (fun ls hl => ?_)
    refine lv_aload_n hx hb dX10_wouldPay_39 rfl (lv_at hl 2 rfl) ?_
    refine lv_iload_n hx hb dX10_wouldPay_40 rfl (lv_at hl 3 rfl) ?_
    obtain ⟨q7, hq7, ho⟩ := bnd_ ho
    refine k_iV (As := [.int a0]) (rest := []) S F B (c_X10_lasts l G σ6 _ a0 hq7) (kq (by decide) : kd 198 = 21 ∧ 198 < NN) rfl rfl (cwV 1 hts gX10_wouldPay_X10_lasts rfl rfl rfl (by decide +kernel) ⟨Nat.le_of_ble_eq_true rfl, Nat.le_of_ble_eq_true rfl⟩) rfl hl.1 rfl (Nat.le_of_ble_eq_true rfl) dX10_wouldPay_41 ⟨Nat.le_of_ble_eq_true rfl, Nat.le_of_ble_eq_true rfl⟩ (fun H locs B => ?_)
    refine lv_if_eq (tgt := 52) hx hb dX10_wouldPay_44 (by decide) (fun c8 => ?_) (fun c8 => ?_)
    · have ho := ip_ c8 ho
      refine lv_aload_n hx hb dX10_wouldPay_52 rfl (lv_at hl 2 rfl) ?_
      refine lv_iconst (v := 2) hx hb dX10_wouldPay_53 (by decide) ?_
      obtain ⟨q9, σ10, hq9, ho⟩ := bnm_ ho
      refine k_iV (As := [.int 2]) (rest := []) S F B (c_X10_throwing l G σ6 _ 2 hq9) (kq (by decide) : kd 198 = 21 ∧ 198 < NN) rfl rfl (cwV 1 hts gX10_wouldPay_X10_throwing rfl rfl rfl (by decide +kernel) ⟨Nat.le_of_ble_eq_true rfl, Nat.le_of_ble_eq_true rfl⟩) rfl hl.1 rfl (Nat.le_of_ble_eq_true rfl) dX10_wouldPay_54 ⟨Nat.le_of_ble_eq_true rfl, Nat.le_of_ble_eq_true rfl⟩ (fun H locs B => ?_)
      cases ho
      exact e_i B hx hb hr hlocks rfl rfl dX10_wouldPay_57
    · have ho := in_ c8 ho
      refine lv_iload_n hx hb dX10_wouldPay_47 rfl (lv_at hl 0 rfl) ?_
      refine lv_iconst (v := (-1)) hx hb dX10_wouldPay_48 (by decide) ?_
      refine lv_icmp_ne (tgt := 58) hx hb dX10_wouldPay_49 (by decide) (fun c11 => ?_) (fun c11 => ?_)
      · have ho := in_ c11 ho
        refine lv_aload_n hx hb dX10_wouldPay_58 rfl (lv_at hl 2 rfl) ?_
        refine lv_iload_n hx hb dX10_wouldPay_59 rfl (lv_at hl 3 rfl) ?_
        refine lv_iconst (v := 0) hx hb dX10_wouldPay_60 (by decide) ?_
        refine lv_aload_n hx hb dX10_wouldPay_61 rfl (lv_at hl 2 rfl) ?_
        refine r_get (ci := 14) (C := RX10) (T := TX10) (N := 21) S F B (kq (by decide) : kd 198 = 21 ∧ 198 < NN) rfl rfl hiX10 0 (by decide) (by decide +kernel) rfl dX10_wouldPay_62 ?_
        refine lv_iload_n hx hb dX10_wouldPay_65 rfl (lv_at hl 1 rfl) ?_
        refine lv_iconst (v := 2) hx hb dX10_wouldPay_66 (by decide) ?_
        refine lv_iadd hx hb dX10_wouldPay_67 ?_
        obtain ⟨hi, ho⟩ := gd_ ho
        refine r_iald S F B (kq (by decide) : kd 199 = 22 ∧ 199 < NN) rfl hi dX10_wouldPay_68 ?_
        refine lv_iload_n hx hb dX10_wouldPay_69 rfl (lv_at hl 0 rfl) ?_
        refine lv_iadd hx hb dX10_wouldPay_70 ?_
        refine lv_aload_n hx hb dX10_wouldPay_71 rfl (lv_at hl 2 rfl) ?_
        refine r_get (ci := 14) (C := RX10) (T := TX10) (N := 21) S F B (kq (by decide) : kd 198 = 21 ∧ 198 < NN) rfl rfl hiX10 0 (by decide) (by decide +kernel) rfl dX10_wouldPay_72 ?_
        refine lv_iload_n hx hb dX10_wouldPay_75 rfl (lv_at hl 1 rfl) ?_
        refine lv_iconst (v := 3) hx hb dX10_wouldPay_76 (by decide) ?_
        refine lv_iadd hx hb dX10_wouldPay_77 ?_
        obtain ⟨hi, ho⟩ := gd_ ho
        refine r_iald S F B (kq (by decide) : kd 199 = 22 ∧ 199 < NN) rfl hi dX10_wouldPay_78 ?_
        refine lv_isub hx hb dX10_wouldPay_79 ?_
        refine va_mmax hx hb (hml.trans hl.1.symm) hown (hts _ (by decide +kernel)) (hts _ (by decide +kernel)) (hts _ (by decide +kernel)) (hts _ (by decide +kernel)) (Nat.le_of_ble_eq_true rfl) (Nat.le_of_ble_eq_true rfl) (Nat.le_of_ble_eq_true rfl) (Nat.le_of_ble_eq_true rfl) dX10_wouldPay_80 ?_
        obtain ⟨q12, hq12, ho⟩ := bnd_ ho
        refine k_iV (As := [.int a0, .int (if 0 < (((σ6 199 (q4 + 2).toNatClampNeg) + q5) - (σ6 199 (q4 + 3).toNatClampNeg)) then (((σ6 199 (q4 + 2).toNatClampNeg) + q5) - (σ6 199 (q4 + 3).toNatClampNeg)) else 0)]) (rest := []) S F B (c_X10_pays l G σ6 _ a0 (if 0 < (((σ6 199 (q4 + 2).toNatClampNeg) + q5) - (σ6 199 (q4 + 3).toNatClampNeg)) then (((σ6 199 (q4 + 2).toNatClampNeg) + q5) - (σ6 199 (q4 + 3).toNatClampNeg)) else 0) hq12) (kq (by decide) : kd 198 = 21 ∧ 198 < NN) rfl rfl (cwV 2 hts gX10_wouldPay_X10_pays rfl rfl rfl (by decide +kernel) ⟨Nat.le_of_ble_eq_true rfl, Nat.le_of_ble_eq_true rfl⟩) rfl hl.1 rfl (Nat.le_of_ble_eq_true rfl) dX10_wouldPay_83 ⟨Nat.le_of_ble_eq_true rfl, Nat.le_of_ble_eq_true rfl⟩ (fun H locs B => ?_)
        cases ho
        exact e_i B hx hb hr hlocks rfl rfl dX10_wouldPay_86
      · have ho := ip_ c11 ho
        refine lv_aload_n hx hb dX10_wouldPay_52 rfl (lv_at hl 2 rfl) ?_
        refine lv_iconst (v := 2) hx hb dX10_wouldPay_53 (by decide) ?_
        obtain ⟨q13, σ14, hq13, ho⟩ := bnm_ ho
        refine k_iV (As := [.int 2]) (rest := []) S F B (c_X10_throwing l G σ6 _ 2 hq13) (kq (by decide) : kd 198 = 21 ∧ 198 < NN) rfl rfl (cwV 1 hts gX10_wouldPay_X10_throwing rfl rfl rfl (by decide +kernel) ⟨Nat.le_of_ble_eq_true rfl, Nat.le_of_ble_eq_true rfl⟩) rfl hl.1 rfl (Nat.le_of_ble_eq_true rfl) dX10_wouldPay_54 ⟨Nat.le_of_ble_eq_true rfl, Nat.le_of_ble_eq_true rfl⟩ (fun H locs B => ?_)
        cases ho
        exact e_i B hx hb hr hlocks rfl rfl dX10_wouldPay_57
  · have ho := ip_ c3 ho
    refine lv_aload_n hx hb dX10_wouldPay_13 rfl (lv_at hl 0 rfl) ?_
    refine lv_iconst (v := 1) hx hb dX10_wouldPay_14 (by decide) ?_
    obtain ⟨q15, σ16, hq15, ho⟩ := bnm_ ho
    refine k_iV (As := [.int 1]) (rest := []) S F B (c_X10_throwing l G σ1 _ 1 hq15) (kq (by decide) : kd 198 = 21 ∧ 198 < NN) rfl rfl (cwV 1 hts gX10_wouldPay_X10_throwing rfl rfl rfl (by decide +kernel) ⟨Nat.le_of_ble_eq_true rfl, Nat.le_of_ble_eq_true rfl⟩) rfl hl.1 rfl (Nat.le_of_ble_eq_true rfl) dX10_wouldPay_15 ⟨Nat.le_of_ble_eq_true rfl, Nat.le_of_ble_eq_true rfl⟩ (fun H locs B => ?_)
    cases ho
    exact e_i B hx hb hr hlocks rfl rfl dX10_wouldPay_18

set_option maxHeartbeats 4000000 in
set_option maxRecDepth 100000 in
theorem c_X10_owedBy (l : Launch) (G : Gd) (σ : Mm) (sz : Nat) (a0 : Int32) {out : Int32} (ho : f_X10_owedBy a0 σ = some out) : Met l yX10_owedBy wsX10_owedBy { frames := 2, cells := 0, slots := 0, locals := 54 } (va_Pc [.ref (G.2.2 198), .int a0] (PW G σ sz)) (Qi G sz out σ) 0 0 (AA G sz) := by
  refine Met.ofW (cc := cX10_owedBy) (maxL := 6) (ret := (some .int)) (by decide) rfl ?_
  intro p e s m args below meth c s₁ B0 hml hv
  obtain ⟨rfl, hpw⟩ := hv
  have hsz := hpw.1
  subst hsz
  obtain ⟨F, B⟩ := hpw.to
  have hx := B0.exec
  have hb := B0.bytes
  have hr := B0.returns
  have hts := atoms_spec (ws := wsX10_owedBy) B0.pre
  have hown : s.vm.findClass RX10 = some m.cls := findClass_of_methodNamed B0.named
  have hlocks := B0.notSynchronized
  have S : CallFix p m c cX10_owedBy 6 s _ wsX10_owedBy RX10 := ⟨hx, hb, hml, hown, hts⟩
  have hiX10 : ∀ w ∈ u_ws RX10 TX10 21, w ∈ wsX10_owedBy := by decide +kernel
  have hl := lv_entry [.ref (G.2.2 198), .int a0] (n := 6) (Nat.le_of_ble_eq_true rfl)
  rw [lg_entry_eq]
  generalize (lg_sl [.ref (G.2.2 198), .int a0] ++ List.replicate (6 - (lg_sl [.ref (G.2.2 198), .int a0]).length) Slot.unset).toArray = ls at hl ⊢
  have hl : lv_has ls 6 [(0, .ref (G.2.2 198)), (1, .int a0)] := hl
  unfold f_X10_owedBy at ho
  skip
  refine lv_iconst (v := 0) hx hb dX10_owedBy_0 (by decide) ?_
  refine lv_istore_n (lv' := [(2, .int 0), (0, .ref (G.2.2 198)), (1, .int a0)]) hx hb dX10_owedBy_1 rfl hl (by decide) rfl (fun ls hl => ?_)
  refine lv_iconst (v := 0) hx hb dX10_owedBy_2 (by decide) ?_
  refine lv_istore_n (lv' := [(3, .int 0), (2, .int 0), (0, .ref (G.2.2 198)), (1, .int a0)]) hx hb dX10_owedBy_3 rfl hl (by decide) rfl (fun ls hl => ?_)
  have hloop4 : ∀ (n : Nat) (v4 : Int32) (v5 : Int32) (H : Heap) (locs : List Loc) (ls : Array Slot), f_X10_owedBy_l4  a0 σ n v4 v5 = some out → Bd G σ s H locs → lv_has ls 6 [(3, .int v4), (2, .int v5), (0, .ref (G.2.2 198)), (1, .int a0)] → W p l e (headSpec wsX10_owedBy { frames := 2, cells := 0, slots := 0, locals := 54 }).room s m #[.ref (G.2.2 198), .int a0] below meth c H locs 0 0 (MQ below (Qi G s.heap.size out σ) #[.ref (G.2.2 198), .int a0] s 0 0 (AA G s.heap.size)) (F0 m 4 ls []) := by
    intro n
    induction n with
    | zero => intro v4 v5 H locs ls ho B hl; cases ho
    | succ n ih =>
      intro v4 v5 H locs ls ho B hl
      refine lv_iload_n hx hb dX10_owedBy_4 rfl (lv_at hl 0 rfl) ?_
      refine lv_aload_n hx hb dX10_owedBy_5 rfl (lv_at hl 2 rfl) ?_
      refine r_get (ci := 14) (C := RX10) (T := TX10) (N := 21) S F B (kq (by decide) : kd 198 = 21 ∧ 198 < NN) rfl rfl hiX10 0 (by decide) (by decide +kernel) rfl dX10_owedBy_6 ?_
      refine lv_iconst (v := 1) hx hb dX10_owedBy_9 (by decide) ?_
      refine r_ialdc (j := 1) S F B (kq (by decide) : kd 199 = 22 ∧ 199 < NN) rfl (vpc (by decide)) (by decide) dX10_owedBy_10 ?_
      refine lv_icmp_ge (tgt := 94) hx hb dX10_owedBy_11 (by decide) (fun c6 => ?_) (fun c6 => ?_)
      · have ho := ip_ c6 ho
        refine lv_iload_n hx hb dX10_owedBy_94 rfl (lv_at hl 1 rfl) ?_
        cases ho
        exact e_i B hx hb hr hlocks rfl rfl dX10_owedBy_95
      · have ho := in_ c6 ho
        refine lv_iload_n hx hb dX10_owedBy_14 rfl (lv_at hl 0 rfl) ?_
        obtain ⟨q7, hq7, ho⟩ := bnd_ ho
        refine k_iS (As := [.int v4]) (rest := []) S F B (c_X10_visitorAt l G σ _ v4 hq7) (va_cwS 1 hts gX10_owedBy_X10_visitorAt rfl rfl rfl (by decide +kernel) ⟨Nat.le_of_ble_eq_true rfl, Nat.le_of_ble_eq_true rfl⟩) rfl hl.1 rfl (Nat.le_of_ble_eq_true rfl) dX10_owedBy_15 ⟨Nat.le_of_ble_eq_true rfl, Nat.le_of_ble_eq_true rfl⟩ (fun H locs B => ?_)
        refine lv_istore (lv' := [(4, .int q7), (3, .int v4), (2, .int v5), (0, .ref (G.2.2 198)), (1, .int a0)]) hx hb dX10_owedBy_18 hl (by decide) rfl (fun ls hl => ?_)
        refine lv_aload_n hx hb dX10_owedBy_20 rfl (lv_at hl 3 rfl) ?_
        refine lv_iload_n hx hb dX10_owedBy_21 rfl (lv_at hl 1 rfl) ?_
        obtain ⟨q8, hq8, ho⟩ := bnd_ ho
        refine k_iV (As := [.int v4]) (rest := []) S F B (c_X10_lasts l G σ _ v4 hq8) (kq (by decide) : kd 198 = 21 ∧ 198 < NN) rfl rfl (cwV 1 hts gX10_owedBy_X10_lasts rfl rfl rfl (by decide +kernel) ⟨Nat.le_of_ble_eq_true rfl, Nat.le_of_ble_eq_true rfl⟩) rfl hl.1 rfl (Nat.le_of_ble_eq_true rfl) dX10_owedBy_22 ⟨Nat.le_of_ble_eq_true rfl, Nat.le_of_ble_eq_true rfl⟩ (fun H locs B => ?_)
        refine lv_if_eq (tgt := 58) hx hb dX10_owedBy_25 (by decide) (fun c9 => ?_) (fun c9 => ?_)
        · have ho := ip_ c9 ho
          refine lv_iconst (v := 0) hx hb dX10_owedBy_58 (by decide) ?_
          refine lv_istore (lv' := [(5, .int 0), (4, .int q7), (3, .int v4), (2, .int v5), (0, .ref (G.2.2 198)), (1, .int a0)]) hx hb dX10_owedBy_59 hl (by decide) rfl (fun ls hl => ?_)
          refine lv_iload_n hx hb dX10_owedBy_61 rfl (lv_at hl 3 rfl) ?_
          refine lv_iload hx hb dX10_owedBy_62 (lv_at hl 0 rfl) ?_
          refine lv_if_eq (tgt := 85) hx hb dX10_owedBy_64 (by decide) (fun _ => ?_) (fun h => absurd h (by decide))
          refine lv_iconst (v := 0) hx hb dX10_owedBy_85 (by decide) ?_
          refine lv_iadd hx hb dX10_owedBy_86 ?_
          obtain ⟨x10, ex10, ho⟩ := lt_ ho
          refine lv_nm ex10 ?_
          refine lv_istore_n (lv' := [(2, .int x10), (5, .int 0), (4, .int q7), (3, .int v4), (0, .ref (G.2.2 198)), (1, .int a0)]) hx hb dX10_owedBy_87 rfl hl (by decide) rfl (fun ls hl => ?_)
          obtain ⟨x11, ex11, ho⟩ := lt_ ho
          refine lv_iinc (v := x11) (lv' := [(3, .int x11), (2, .int x10), (5, .int 0), (4, .int q7), (0, .ref (G.2.2 198)), (1, .int a0)]) hx hb dX10_owedBy_88 hl (k := 3) rfl (by rw [ex11]; rfl) (by decide) rfl (fun ls hl => ?_)
          refine lv_goto (tgt := 4) hx hb dX10_owedBy_91 (by decide) ?_
          exact ih _ _  _ _ _ ho B (lv_sub hl [0, 1, 4, 5] rfl)
        · have ho := in_ c9 ho
          refine lv_aload_n hx hb dX10_owedBy_28 rfl (lv_at hl 3 rfl) ?_
          refine r_get (ci := 14) (C := RX10) (T := TX10) (N := 21) S F B (kq (by decide) : kd 198 = 21 ∧ 198 < NN) rfl rfl hiX10 0 (by decide) (by decide +kernel) rfl dX10_owedBy_29 ?_
          refine lv_iload hx hb dX10_owedBy_32 (lv_at hl 0 rfl) ?_
          refine lv_iconst (v := 4) hx hb dX10_owedBy_34 (by decide) ?_
          refine lv_iadd hx hb dX10_owedBy_35 ?_
          obtain ⟨hi, ho⟩ := gd_ ho
          refine r_iald S F B (kq (by decide) : kd 199 = 22 ∧ 199 < NN) rfl hi dX10_owedBy_36 ?_
          refine lv_iload_n hx hb dX10_owedBy_37 rfl (lv_at hl 4 rfl) ?_
          refine lv_icmp_ne (tgt := 58) hx hb dX10_owedBy_38 (by decide) (fun c12 => ?_) (fun c12 => ?_)
          · have ho := in_ c12 ho
            refine lv_iconst (v := 0) hx hb dX10_owedBy_58 (by decide) ?_
            refine lv_istore (lv' := [(5, .int 0), (4, .int q7), (3, .int v4), (2, .int v5), (0, .ref (G.2.2 198)), (1, .int a0)]) hx hb dX10_owedBy_59 hl (by decide) rfl (fun ls hl => ?_)
            refine lv_iload_n hx hb dX10_owedBy_61 rfl (lv_at hl 3 rfl) ?_
            refine lv_iload hx hb dX10_owedBy_62 (lv_at hl 0 rfl) ?_
            refine lv_if_eq (tgt := 85) hx hb dX10_owedBy_64 (by decide) (fun _ => ?_) (fun h => absurd h (by decide))
            refine lv_iconst (v := 0) hx hb dX10_owedBy_85 (by decide) ?_
            refine lv_iadd hx hb dX10_owedBy_86 ?_
            obtain ⟨x13, ex13, ho⟩ := lt_ ho
            refine lv_nm ex13 ?_
            refine lv_istore_n (lv' := [(2, .int x13), (5, .int 0), (4, .int q7), (3, .int v4), (0, .ref (G.2.2 198)), (1, .int a0)]) hx hb dX10_owedBy_87 rfl hl (by decide) rfl (fun ls hl => ?_)
            obtain ⟨x14, ex14, ho⟩ := lt_ ho
            refine lv_iinc (v := x14) (lv' := [(3, .int x14), (2, .int x13), (5, .int 0), (4, .int q7), (0, .ref (G.2.2 198)), (1, .int a0)]) hx hb dX10_owedBy_88 hl (k := 3) rfl (by rw [ex14]; rfl) (by decide) rfl (fun ls hl => ?_)
            refine lv_goto (tgt := 4) hx hb dX10_owedBy_91 (by decide) ?_
            exact ih _ _  _ _ _ ho B (lv_sub hl [0, 1, 4, 5] rfl)
          · have ho := ip_ c12 ho
            refine lv_aload_n hx hb dX10_owedBy_41 rfl (lv_at hl 3 rfl) ?_
            refine r_get (ci := 14) (C := RX10) (T := TX10) (N := 21) S F B (kq (by decide) : kd 198 = 21 ∧ 198 < NN) rfl rfl hiX10 0 (by decide) (by decide +kernel) rfl dX10_owedBy_42 ?_
            refine lv_iload hx hb dX10_owedBy_45 (lv_at hl 0 rfl) ?_
            refine lv_bipush (v := 6) hx hb dX10_owedBy_47 (by decide) ?_
            refine lv_iadd hx hb dX10_owedBy_49 ?_
            obtain ⟨hi, ho⟩ := gd_ ho
            refine r_iald S F B (kq (by decide) : kd 199 = 22 ∧ 199 < NN) rfl hi dX10_owedBy_50 ?_
            refine lv_if_ne (tgt := 58) hx hb dX10_owedBy_51 (by decide) (fun c15 => ?_) (fun c15 => ?_)
            · have ho := in_ c15 ho
              refine lv_iconst (v := 0) hx hb dX10_owedBy_58 (by decide) ?_
              refine lv_istore (lv' := [(5, .int 0), (4, .int q7), (3, .int v4), (2, .int v5), (0, .ref (G.2.2 198)), (1, .int a0)]) hx hb dX10_owedBy_59 hl (by decide) rfl (fun ls hl => ?_)
              refine lv_iload_n hx hb dX10_owedBy_61 rfl (lv_at hl 3 rfl) ?_
              refine lv_iload hx hb dX10_owedBy_62 (lv_at hl 0 rfl) ?_
              refine lv_if_eq (tgt := 85) hx hb dX10_owedBy_64 (by decide) (fun _ => ?_) (fun h => absurd h (by decide))
              refine lv_iconst (v := 0) hx hb dX10_owedBy_85 (by decide) ?_
              refine lv_iadd hx hb dX10_owedBy_86 ?_
              obtain ⟨x16, ex16, ho⟩ := lt_ ho
              refine lv_nm ex16 ?_
              refine lv_istore_n (lv' := [(2, .int x16), (5, .int 0), (4, .int q7), (3, .int v4), (0, .ref (G.2.2 198)), (1, .int a0)]) hx hb dX10_owedBy_87 rfl hl (by decide) rfl (fun ls hl => ?_)
              obtain ⟨x17, ex17, ho⟩ := lt_ ho
              refine lv_iinc (v := x17) (lv' := [(3, .int x17), (2, .int x16), (5, .int 0), (4, .int q7), (0, .ref (G.2.2 198)), (1, .int a0)]) hx hb dX10_owedBy_88 hl (k := 3) rfl (by rw [ex17]; rfl) (by decide) rfl (fun ls hl => ?_)
              refine lv_goto (tgt := 4) hx hb dX10_owedBy_91 (by decide) ?_
              exact ih _ _  _ _ _ ho B (lv_sub hl [0, 1, 4, 5] rfl)
            · have ho := ip_ c15 ho
              refine lv_iconst (v := 1) hx hb dX10_owedBy_54 (by decide) ?_
              refine lv_goto (tgt := 59) hx hb dX10_owedBy_55 (by decide) ?_
              refine lv_istore (lv' := [(5, .int 1), (4, .int q7), (3, .int v4), (2, .int v5), (0, .ref (G.2.2 198)), (1, .int a0)]) hx hb dX10_owedBy_59 hl (by decide) rfl (fun ls hl => ?_)
              refine lv_iload_n hx hb dX10_owedBy_61 rfl (lv_at hl 3 rfl) ?_
              refine lv_iload hx hb dX10_owedBy_62 (lv_at hl 0 rfl) ?_
              refine lv_if_eq (tgt := 85) hx hb dX10_owedBy_64 (by decide) (fun h => absurd h (by decide)) (fun _ => ?_)
              refine lv_aload_n hx hb dX10_owedBy_67 rfl (lv_at hl 4 rfl) ?_
              refine r_get (ci := 14) (C := RX10) (T := TX10) (N := 21) S F B (kq (by decide) : kd 198 = 21 ∧ 198 < NN) rfl rfl hiX10 0 (by decide) (by decide +kernel) rfl dX10_owedBy_68 ?_
              refine lv_iload hx hb dX10_owedBy_71 (lv_at hl 1 rfl) ?_
              refine lv_iconst (v := 5) hx hb dX10_owedBy_73 (by decide) ?_
              refine lv_iadd hx hb dX10_owedBy_74 ?_
              obtain ⟨hi, ho⟩ := gd_ ho
              refine r_iald S F B (kq (by decide) : kd 199 = 22 ∧ 199 < NN) rfl hi dX10_owedBy_75 ?_
              refine lv_aload_n hx hb dX10_owedBy_76 rfl (lv_at hl 4 rfl) ?_
              refine lv_iload_n hx hb dX10_owedBy_77 rfl (lv_at hl 2 rfl) ?_
              obtain ⟨q18, hq18, ho⟩ := bnd_ ho
              refine k_iV (As := [.int v4]) (rest := [.int (σ 199 (q7 + 5).toNatClampNeg), .int v5]) S F B (c_X10_lostOf l G σ _ v4 hq18) (kq (by decide) : kd 198 = 21 ∧ 198 < NN) rfl rfl (cwV 1 hts gX10_owedBy_X10_lostOf rfl rfl rfl (by decide +kernel) ⟨Nat.le_of_ble_eq_true rfl, Nat.le_of_ble_eq_true rfl⟩) rfl hl.1 rfl (Nat.le_of_ble_eq_true rfl) dX10_owedBy_78 ⟨Nat.le_of_ble_eq_true rfl, Nat.le_of_ble_eq_true rfl⟩ (fun H locs B => ?_)
              refine lv_imul hx hb dX10_owedBy_81 ?_
              refine lv_goto (tgt := 86) hx hb dX10_owedBy_82 (by decide) ?_
              refine lv_iadd hx hb dX10_owedBy_86 ?_
              obtain ⟨x19, ex19, ho⟩ := lt_ ho
              refine lv_nm ex19 ?_
              refine lv_istore_n (lv' := [(2, .int x19), (5, .int 1), (4, .int q7), (3, .int v4), (0, .ref (G.2.2 198)), (1, .int a0)]) hx hb dX10_owedBy_87 rfl hl (by decide) rfl (fun ls hl => ?_)
              obtain ⟨x20, ex20, ho⟩ := lt_ ho
              refine lv_iinc (v := x20) (lv' := [(3, .int x20), (2, .int x19), (5, .int 1), (4, .int q7), (0, .ref (G.2.2 198)), (1, .int a0)]) hx hb dX10_owedBy_88 hl (k := 3) rfl (by rw [ex20]; rfl) (by decide) rfl (fun ls hl => ?_)
              refine lv_goto (tgt := 4) hx hb dX10_owedBy_91 (by decide) ?_
              exact ih _ _  _ _ _ ho B (lv_sub hl [0, 1, 4, 5] rfl)
  exact hloop4 8 _ _  _ _ _ ho B hl

set_option maxHeartbeats 4000000 in
set_option maxRecDepth 100000 in
theorem c_X10_owed (l : Launch) (G : Gd) (σ : Mm) (sz : Nat) (a0 : Int32) {out : Int32 × Mm} (ho : f_X10_owed a0 σ = some out) : Met l yX10_owed wsX10_owed { frames := 3, cells := 0, slots := 0, locals := 79 } (va_Pc [.ref (G.2.2 198), .int a0] (PW G σ sz)) (Qi G sz out.1 out.2) 0 0 (AA G sz) := by
  refine Met.ofW (cc := cX10_owed) (maxL := 2) (ret := (some .int)) (by decide) rfl ?_
  intro p e s m args below meth c s₁ B0 hml hv
  obtain ⟨rfl, hpw⟩ := hv
  have hsz := hpw.1
  subst hsz
  obtain ⟨F, B⟩ := hpw.to
  have hx := B0.exec
  have hb := B0.bytes
  have hr := B0.returns
  have hts := atoms_spec (ws := wsX10_owed) B0.pre
  have hown : s.vm.findClass RX10 = some m.cls := findClass_of_methodNamed B0.named
  have hlocks := B0.notSynchronized
  have S : CallFix p m c cX10_owed 2 s _ wsX10_owed RX10 := ⟨hx, hb, hml, hown, hts⟩
  have hiX10 : ∀ w ∈ u_ws RX10 TX10 21, w ∈ wsX10_owed := by decide +kernel
  have hl := lv_entry [.ref (G.2.2 198), .int a0] (n := 2) (Nat.le_of_ble_eq_true rfl)
  rw [lg_entry_eq]
  generalize (lg_sl [.ref (G.2.2 198), .int a0] ++ List.replicate (2 - (lg_sl [.ref (G.2.2 198), .int a0]).length) Slot.unset).toArray = ls at hl ⊢
  have hl : lv_has ls 2 [(0, .ref (G.2.2 198)), (1, .int a0)] := hl
  unfold f_X10_owed at ho
  refine lv_aload_n hx hb dX10_owed_0 rfl (lv_at hl 0 rfl) ?_
  refine lv_iconst (v := 0) hx hb dX10_owed_1 (by decide) ?_
  refine r_put (ci := 14) (C := RX10) (T := TX10) (N := 21) (ty := .int) S F B tyX10 tyX10_ok nmX10 (kq (by decide) : kd 198 = 21 ∧ 198 < NN) (fun _ => rfl) rfl hiX10 12 (by decide) (by decide +kernel) rfl rfl rfl rfl (fun _ => Nat.le_of_ble_eq_true rfl) (fun _ => rfl) dX10_owed_2 (fun H locs B => ?_)
  obtain ⟨σ1, eσ1, ho⟩ := lt_ ho
  rw [← eσ1] at B
  refine lv_aload_n hx hb dX10_owed_5 rfl (lv_at hl 0 rfl) ?_
  refine lv_iload_n hx hb dX10_owed_6 rfl (lv_at hl 1 rfl) ?_
  obtain ⟨q2, hq2, ho⟩ := bnd_ ho
  refine k_iV (As := [.int a0]) (rest := []) S F B (c_X10_isGardener l G σ1 _ a0 hq2) (kq (by decide) : kd 198 = 21 ∧ 198 < NN) rfl rfl (cwV 1 hts gX10_owed_X10_isGardener rfl rfl rfl (by decide +kernel) ⟨Nat.le_of_ble_eq_true rfl, Nat.le_of_ble_eq_true rfl⟩) rfl hl.1 rfl (Nat.le_of_ble_eq_true rfl) dX10_owed_7 ⟨Nat.le_of_ble_eq_true rfl, Nat.le_of_ble_eq_true rfl⟩ (fun H locs B => ?_)
  refine lv_if_eq (tgt := 21) hx hb dX10_owed_10 (by decide) (fun c3 => ?_) (fun c3 => ?_)
  · have ho := ip_ c3 ho
    refine lv_aload_n hx hb dX10_owed_21 rfl (lv_at hl 0 rfl) ?_
    refine lv_iconst (v := 1) hx hb dX10_owed_22 (by decide) ?_
    obtain ⟨q4, σ5, hq4, ho⟩ := bnm_ ho
    refine k_iV (As := [.int 1]) (rest := []) S F B (c_X10_throwing l G σ1 _ 1 hq4) (kq (by decide) : kd 198 = 21 ∧ 198 < NN) rfl rfl (cwV 1 hts gX10_owed_X10_throwing rfl rfl rfl (by decide +kernel) ⟨Nat.le_of_ble_eq_true rfl, Nat.le_of_ble_eq_true rfl⟩) rfl hl.1 rfl (Nat.le_of_ble_eq_true rfl) dX10_owed_23 ⟨Nat.le_of_ble_eq_true rfl, Nat.le_of_ble_eq_true rfl⟩ (fun H locs B => ?_)
    cases ho
    exact e_i B hx hb hr hlocks rfl rfl dX10_owed_26
  · have ho := in_ c3 ho
    refine lv_aload_n hx hb dX10_owed_13 rfl (lv_at hl 0 rfl) ?_
    refine lv_iload_n hx hb dX10_owed_14 rfl (lv_at hl 1 rfl) ?_
    obtain ⟨q6, hq6, ho⟩ := bnd_ ho
    refine k_iV (As := [.int a0]) (rest := []) S F B (c_X10_owedBy l G σ1 _ a0 hq6) (kq (by decide) : kd 198 = 21 ∧ 198 < NN) rfl rfl (cwV 1 hts gX10_owed_X10_owedBy rfl rfl rfl (by decide +kernel) ⟨Nat.le_of_ble_eq_true rfl, Nat.le_of_ble_eq_true rfl⟩) rfl hl.1 rfl (Nat.le_of_ble_eq_true rfl) dX10_owed_15 ⟨Nat.le_of_ble_eq_true rfl, Nat.le_of_ble_eq_true rfl⟩ (fun H locs B => ?_)
    refine lv_goto (tgt := 26) hx hb dX10_owed_18 (by decide) ?_
    cases ho
    exact e_i B hx hb hr hlocks rfl rfl dX10_owed_26

set_option maxHeartbeats 4000000 in
set_option maxRecDepth 100000 in
theorem c_X10_measured (l : Launch) (G : Gd) (σ : Mm) (sz : Nat) (a0 : Int32) (a1 : Int32) {out : Int32} (ho : f_X10_measured a0 a1 σ = some out) : Met l yX10_measured wsX10_measured { frames := 2, cells := 0, slots := 0, locals := 54 } (va_Pc [.ref (G.2.2 198), .int a0, .int a1] (PW G σ sz)) (Qi G sz out σ) 0 0 (AA G sz) := by
  refine Met.ofW (cc := cX10_measured) (maxL := 4) (ret := (some .int)) (by decide) rfl ?_
  intro p e s m args below meth c s₁ B0 hml hv
  obtain ⟨rfl, hpw⟩ := hv
  have hsz := hpw.1
  subst hsz
  obtain ⟨F, B⟩ := hpw.to
  have hx := B0.exec
  have hb := B0.bytes
  have hr := B0.returns
  have hts := atoms_spec (ws := wsX10_measured) B0.pre
  have hown : s.vm.findClass RX10 = some m.cls := findClass_of_methodNamed B0.named
  have hlocks := B0.notSynchronized
  have S : CallFix p m c cX10_measured 4 s _ wsX10_measured RX10 := ⟨hx, hb, hml, hown, hts⟩
  have hiX10 : ∀ w ∈ u_ws RX10 TX10 21, w ∈ wsX10_measured := by decide +kernel
  have hl := lv_entry [.ref (G.2.2 198), .int a0, .int a1] (n := 4) (Nat.le_of_ble_eq_true rfl)
  rw [lg_entry_eq]
  generalize (lg_sl [.ref (G.2.2 198), .int a0, .int a1] ++ List.replicate (4 - (lg_sl [.ref (G.2.2 198), .int a0, .int a1]).length) Slot.unset).toArray = ls at hl ⊢
  have hl : lv_has ls 4 [(0, .ref (G.2.2 198)), (1, .int a0), (2, .int a1)] := hl
  unfold f_X10_measured at ho
  refine lv_iload_n hx hb dX10_measured_0 rfl (lv_at hl 2 rfl) ?_
  obtain ⟨q1, hq1, ho⟩ := bnd_ ho
  refine k_iS (As := [.int a1]) (rest := []) S F B (c_X10_visitorAt l G σ _ a1 hq1) (va_cwS 1 hts gX10_measured_X10_visitorAt rfl rfl rfl (by decide +kernel) ⟨Nat.le_of_ble_eq_true rfl, Nat.le_of_ble_eq_true rfl⟩) rfl hl.1 rfl (Nat.le_of_ble_eq_true rfl) dX10_measured_1 ⟨Nat.le_of_ble_eq_true rfl, Nat.le_of_ble_eq_true rfl⟩ (fun H locs B => ?_)
  refine lv_istore_n (lv' := [(3, .int q1), (0, .ref (G.2.2 198)), (1, .int a0), (2, .int a1)]) hx hb dX10_measured_4 rfl hl (by decide) rfl (fun ls hl => ?_)
  refine lv_iload_n hx hb dX10_measured_5 rfl (lv_at hl 2 rfl) ?_
  by_cases c2 : a0 = 0
  · have ho := ip_ c2 ho
    refine lv_tableIn (off := 26) (tgt := 32) hx hb dX10_measured_6 (by rw [c2]; decide) (by rw [c2]; decide) (by rw [c2]; rfl) (by decide) ?_
    refine lv_aload_n hx hb dX10_measured_32 rfl (lv_at hl 1 rfl) ?_
    refine r_get (ci := 14) (C := RX10) (T := TX10) (N := 21) S F B (kq (by decide) : kd 198 = 21 ∧ 198 < NN) rfl rfl hiX10 0 (by decide) (by decide +kernel) rfl dX10_measured_33 ?_
    refine lv_iload_n hx hb dX10_measured_36 rfl (lv_at hl 0 rfl) ?_
    obtain ⟨hi, ho⟩ := gd_ ho
    refine r_iald S F B (kq (by decide) : kd 199 = 22 ∧ 199 < NN) rfl hi dX10_measured_37 ?_
    cases ho
    exact e_i B hx hb hr hlocks rfl rfl dX10_measured_38
  · have ho := in_ c2 ho
    by_cases c3 : a0 = 1
    · have ho := ip_ c3 ho
      refine lv_tableIn (off := 33) (tgt := 39) hx hb dX10_measured_6 (by rw [c3]; decide) (by rw [c3]; decide) (by rw [c3]; rfl) (by decide) ?_
      refine lv_aload_n hx hb dX10_measured_39 rfl (lv_at hl 1 rfl) ?_
      refine r_get (ci := 14) (C := RX10) (T := TX10) (N := 21) S F B (kq (by decide) : kd 198 = 21 ∧ 198 < NN) rfl rfl hiX10 0 (by decide) (by decide +kernel) rfl dX10_measured_40 ?_
      refine lv_iload_n hx hb dX10_measured_43 rfl (lv_at hl 0 rfl) ?_
      refine lv_iconst (v := 2) hx hb dX10_measured_44 (by decide) ?_
      refine lv_iadd hx hb dX10_measured_45 ?_
      obtain ⟨hi, ho⟩ := gd_ ho
      refine r_iald S F B (kq (by decide) : kd 199 = 22 ∧ 199 < NN) rfl hi dX10_measured_46 ?_
      cases ho
      exact e_i B hx hb hr hlocks rfl rfl dX10_measured_47
    · have ho := in_ c3 ho
      by_cases c4 : a0 = 2
      · have ho := ip_ c4 ho
        refine lv_tableIn (off := 42) (tgt := 48) hx hb dX10_measured_6 (by rw [c4]; decide) (by rw [c4]; decide) (by rw [c4]; rfl) (by decide) ?_
        refine lv_aload_n hx hb dX10_measured_48 rfl (lv_at hl 1 rfl) ?_
        refine lv_iload_n hx hb dX10_measured_49 rfl (lv_at hl 3 rfl) ?_
        obtain ⟨q5, hq5, ho⟩ := bnd_ ho
        refine k_iV (As := [.int a1]) (rest := []) S F B (c_X10_lostOf l G σ _ a1 hq5) (kq (by decide) : kd 198 = 21 ∧ 198 < NN) rfl rfl (cwV 1 hts gX10_measured_X10_lostOf rfl rfl rfl (by decide +kernel) ⟨Nat.le_of_ble_eq_true rfl, Nat.le_of_ble_eq_true rfl⟩) rfl hl.1 rfl (Nat.le_of_ble_eq_true rfl) dX10_measured_50 ⟨Nat.le_of_ble_eq_true rfl, Nat.le_of_ble_eq_true rfl⟩ (fun H locs B => ?_)
        cases ho
        exact e_i B hx hb hr hlocks rfl rfl dX10_measured_53
      · have ho := in_ c4 ho
        refine t_tableD (tgt := 54) hx hb dX10_measured_6 rfl (fun j hj => ?_) (by decide) ?_
        · have hj : j < 3 := hj
          rcases (show j = 0 ∨ j = 1 ∨ j = 2 by omega) with rfl | rfl | rfl
          · exact Or.inr (lv_neT c2 (by decide))
          · exact Or.inr (lv_neT c3 (by decide))
          · exact Or.inr (lv_neT c4 (by decide))
        · refine lv_aload_n hx hb dX10_measured_54 rfl (lv_at hl 1 rfl) ?_
          refine r_get (ci := 14) (C := RX10) (T := TX10) (N := 21) S F B (kq (by decide) : kd 198 = 21 ∧ 198 < NN) rfl rfl hiX10 0 (by decide) (by decide +kernel) rfl dX10_measured_55 ?_
          refine lv_iload_n hx hb dX10_measured_58 rfl (lv_at hl 0 rfl) ?_
          refine lv_iconst (v := 5) hx hb dX10_measured_59 (by decide) ?_
          refine lv_iadd hx hb dX10_measured_60 ?_
          obtain ⟨hi, ho⟩ := gd_ ho
          refine r_iald S F B (kq (by decide) : kd 199 = 22 ∧ 199 < NN) rfl hi dX10_measured_61 ?_
          cases ho
          exact e_i B hx hb hr hlocks rfl rfl dX10_measured_62

set_option maxHeartbeats 4000000 in
set_option maxRecDepth 100000 in
theorem c_X10_ranked (l : Launch) (G : Gd) (σ : Mm) (sz : Nat) (a0 : Int32) (a1 : Int32) {out : Int32 × Mm} (ho : f_X10_ranked a0 a1 σ = some out) : Met l yX10_ranked wsX10_ranked { frames := 3, cells := 0, slots := 0, locals := 77 } (va_Pc [.ref (G.2.2 198), .int a0, .int a1] (PW G σ sz)) (Qi G sz out.1 out.2) 0 0 (AA G sz) := by
  refine Met.ofW (cc := cX10_ranked) (maxL := 7) (ret := (some .int)) (by decide) rfl ?_
  intro p e s m args below meth c s₁ B0 hml hv
  obtain ⟨rfl, hpw⟩ := hv
  have hsz := hpw.1
  subst hsz
  obtain ⟨F, B⟩ := hpw.to
  have hx := B0.exec
  have hb := B0.bytes
  have hr := B0.returns
  have hts := atoms_spec (ws := wsX10_ranked) B0.pre
  have hown : s.vm.findClass RX10 = some m.cls := findClass_of_methodNamed B0.named
  have hlocks := B0.notSynchronized
  have S : CallFix p m c cX10_ranked 7 s _ wsX10_ranked RX10 := ⟨hx, hb, hml, hown, hts⟩
  have hiX10 : ∀ w ∈ u_ws RX10 TX10 21, w ∈ wsX10_ranked := by decide +kernel
  have hl := lv_entry [.ref (G.2.2 198), .int a0, .int a1] (n := 7) (Nat.le_of_ble_eq_true rfl)
  rw [lg_entry_eq]
  generalize (lg_sl [.ref (G.2.2 198), .int a0, .int a1] ++ List.replicate (7 - (lg_sl [.ref (G.2.2 198), .int a0, .int a1]).length) Slot.unset).toArray = ls at hl ⊢
  have hl : lv_has ls 7 [(0, .ref (G.2.2 198)), (1, .int a0), (2, .int a1)] := hl
  unfold f_X10_ranked at ho
  skip
  refine lv_aload_n hx hb dX10_ranked_0 rfl (lv_at hl 0 rfl) ?_
  refine lv_iconst (v := 0) hx hb dX10_ranked_1 (by decide) ?_
  refine r_put (ci := 14) (C := RX10) (T := TX10) (N := 21) (ty := .int) S F B tyX10 tyX10_ok nmX10 (kq (by decide) : kd 198 = 21 ∧ 198 < NN) (fun _ => rfl) rfl hiX10 12 (by decide) (by decide +kernel) rfl rfl rfl rfl (fun _ => Nat.le_of_ble_eq_true rfl) (fun _ => rfl) dX10_ranked_2 (fun H locs B => ?_)
  obtain ⟨σ1, eσ1, ho⟩ := lt_ ho
  rw [← eσ1] at B
  refine lv_iload_n hx hb dX10_ranked_5 rfl (lv_at hl 1 rfl) ?_
  refine lv_i2l hx hb dX10_ranked_6 rfl ?_
  refine lv_lconst (v := 0) hx hb dX10_ranked_7 (by decide) ?_
  refine lv_ldc2 (v := 3) hx hb hown (hts _ (by decide +kernel)) dX10_ranked_8 ?_
  obtain ⟨q2, hq2, ho⟩ := bnd_ ho
  refine k_iS (As := [.long a0.toInt64, .long 0, .long 3]) (rest := []) S F B (c_X10_in l G σ1 _ a0.toInt64 0 3 hq2) (va_cwS 3 hts gX10_ranked_X10_in rfl rfl rfl (by decide +kernel) ⟨Nat.le_of_ble_eq_true rfl, Nat.le_of_ble_eq_true rfl⟩) rfl hl.1 rfl (Nat.le_of_ble_eq_true rfl) dX10_ranked_11 ⟨Nat.le_of_ble_eq_true rfl, Nat.le_of_ble_eq_true rfl⟩ (fun H locs B => ?_)
  refine lv_if_ne (tgt := 23) hx hb dX10_ranked_14 (by decide) (fun c3 => ?_) (fun c3 => ?_)
  · have ho := in_ c3 ho
    refine lv_iconst (v := 0) hx hb dX10_ranked_23 (by decide) ?_
    refine lv_istore_n (lv' := [(3, .int 0), (0, .ref (G.2.2 198)), (1, .int a0), (2, .int a1)]) hx hb dX10_ranked_24 rfl hl (by decide) rfl (fun ls hl => ?_)
    have hloop25 : ∀ (n : Nat) (v6 : Int32) (H : Heap) (locs : List Loc) (ls : Array Slot), f_X10_ranked_l25  a0 a1 σ1 n v6 = some out → Bd G σ1 s H locs → lv_has ls 7 [(3, .int v6), (0, .ref (G.2.2 198)), (1, .int a0), (2, .int a1)] → W p l e (headSpec wsX10_ranked { frames := 3, cells := 0, slots := 0, locals := 77 }).room s m #[.ref (G.2.2 198), .int a0, .int a1] below meth c H locs 0 0 (MQ below (Qi G s.heap.size out.1 out.2) #[.ref (G.2.2 198), .int a0, .int a1] s 0 0 (AA G s.heap.size)) (F0 m 25 ls []) := by
      intro n
      induction n with
      | zero => intro v6 H locs ls ho B hl; cases ho
      | succ n ih =>
        intro v6 H locs ls ho B hl
        refine lv_iload_n hx hb dX10_ranked_25 rfl (lv_at hl 0 rfl) ?_
        refine lv_aload_n hx hb dX10_ranked_26 rfl (lv_at hl 1 rfl) ?_
        refine r_get (ci := 14) (C := RX10) (T := TX10) (N := 21) S F B (kq (by decide) : kd 198 = 21 ∧ 198 < NN) rfl rfl hiX10 0 (by decide) (by decide +kernel) rfl dX10_ranked_27 ?_
        refine lv_iconst (v := 1) hx hb dX10_ranked_30 (by decide) ?_
        refine r_ialdc (j := 1) S F B (kq (by decide) : kd 199 = 22 ∧ 199 < NN) rfl (vpc (by decide)) (by decide) dX10_ranked_31 ?_
        refine lv_icmp_ge (tgt := 114) hx hb dX10_ranked_32 (by decide) (fun c7 => ?_) (fun c7 => ?_)
        · have ho := ip_ c7 ho
          refine lv_aload_n hx hb dX10_ranked_114 rfl (lv_at hl 1 rfl) ?_
          refine lv_iconst (v := 2) hx hb dX10_ranked_115 (by decide) ?_
          obtain ⟨q8, σ9, hq8, ho⟩ := bnm_ ho
          refine k_iV (As := [.int 2]) (rest := []) S F B (c_X10_throwing l G σ1 _ 2 hq8) (kq (by decide) : kd 198 = 21 ∧ 198 < NN) rfl rfl (cwV 1 hts gX10_ranked_X10_throwing rfl rfl rfl (by decide +kernel) ⟨Nat.le_of_ble_eq_true rfl, Nat.le_of_ble_eq_true rfl⟩) rfl hl.1 rfl (Nat.le_of_ble_eq_true rfl) dX10_ranked_116 ⟨Nat.le_of_ble_eq_true rfl, Nat.le_of_ble_eq_true rfl⟩ (fun H locs B => ?_)
          cases ho
          exact e_i B hx hb hr hlocks rfl rfl dX10_ranked_119
        · have ho := in_ c7 ho
          refine lv_iconst (v := 0) hx hb dX10_ranked_35 (by decide) ?_
          refine lv_istore (lv' := [(4, .int 0), (3, .int v6), (0, .ref (G.2.2 198)), (1, .int a0), (2, .int a1)]) hx hb dX10_ranked_36 hl (by decide) rfl (fun ls hl => ?_)
          refine lv_iconst (v := 0) hx hb dX10_ranked_38 (by decide) ?_
          refine lv_istore (lv' := [(5, .int 0), (4, .int 0), (3, .int v6), (0, .ref (G.2.2 198)), (1, .int a0), (2, .int a1)]) hx hb dX10_ranked_39 hl (by decide) rfl (fun ls hl => ?_)
          obtain ⟨K, hK, ho⟩ := lt_ ho
          have hexit41 : ∀ (v10 : Int32) (v11 : Int32) (H : Heap) (locs : List Loc) (ls : Array Slot), K v10 v11 = some out → Bd G σ1 s H locs → lv_has ls 7 [(5, .int v10), (4, .int v11), (3, .int v6), (0, .ref (G.2.2 198)), (1, .int a0), (2, .int a1)] → W p l e (headSpec wsX10_ranked { frames := 3, cells := 0, slots := 0, locals := 77 }).room s m #[.ref (G.2.2 198), .int a0, .int a1] below meth c H locs 0 0 (MQ below (Qi G s.heap.size out.1 out.2) #[.ref (G.2.2 198), .int a0, .int a1] s 0 0 (AA G s.heap.size)) (F0 m 100 ls []) := by
            intro v10 v11 H locs ls ho B hl
            subst hK
            refine lv_iload hx hb dX10_ranked_100 (lv_at hl 1 rfl) ?_
            refine lv_iload_n hx hb dX10_ranked_102 rfl (lv_at hl 5 rfl) ?_
            refine lv_icmp_ne (tgt := 108) hx hb dX10_ranked_103 (by decide) (fun c13 => ?_) (fun c13 => ?_)
            · have ho := in_ c13 ho
              obtain ⟨x14, ex14, ho⟩ := lt_ ho
              refine lv_iinc (v := x14) (lv' := [(3, .int x14), (5, .int v10), (4, .int v11), (0, .ref (G.2.2 198)), (1, .int a0), (2, .int a1)]) hx hb dX10_ranked_108 hl (k := 2) rfl (by rw [ex14]; rfl) (by decide) rfl (fun ls hl => ?_)
              refine lv_goto (tgt := 25) hx hb dX10_ranked_111 (by decide) ?_
              exact ih _  _ _ _ ho B (lv_sub hl [0, 3, 4, 5] rfl)
            · have ho := ip_ c13 ho
              refine lv_iload_n hx hb dX10_ranked_106 rfl (lv_at hl 2 rfl) ?_
              cases ho
              exact e_i B hx hb hr hlocks rfl rfl dX10_ranked_107
          have hloop41 : ∀ (n : Nat) (v15 : Int32) (v16 : Int32) (H : Heap) (locs : List Loc) (ls : Array Slot), f_X10_ranked_l41 K v6 a0 a1 σ1 n v15 v16 = some out → Bd G σ1 s H locs → lv_has ls 7 [(5, .int v15), (4, .int v16), (3, .int v6), (0, .ref (G.2.2 198)), (1, .int a0), (2, .int a1)] → W p l e (headSpec wsX10_ranked { frames := 3, cells := 0, slots := 0, locals := 77 }).room s m #[.ref (G.2.2 198), .int a0, .int a1] below meth c H locs 0 0 (MQ below (Qi G s.heap.size out.1 out.2) #[.ref (G.2.2 198), .int a0, .int a1] s 0 0 (AA G s.heap.size)) (F0 m 41 ls []) := by
            intro n
            induction n with
            | zero => intro v15 v16 H locs ls ho B hl; cases ho
            | succ n ih =>
              intro v15 v16 H locs ls ho B hl
              refine lv_iload hx hb dX10_ranked_41 (lv_at hl 0 rfl) ?_
              refine lv_aload_n hx hb dX10_ranked_43 rfl (lv_at hl 3 rfl) ?_
              refine r_get (ci := 14) (C := RX10) (T := TX10) (N := 21) S F B (kq (by decide) : kd 198 = 21 ∧ 198 < NN) rfl rfl hiX10 0 (by decide) (by decide +kernel) rfl dX10_ranked_44 ?_
              refine lv_iconst (v := 1) hx hb dX10_ranked_47 (by decide) ?_
              refine r_ialdc (j := 1) S F B (kq (by decide) : kd 199 = 22 ∧ 199 < NN) rfl (vpc (by decide)) (by decide) dX10_ranked_48 ?_
              refine lv_icmp_ge (tgt := 100) hx hb dX10_ranked_49 (by decide) (fun c17 => ?_) (fun c17 => ?_)
              · have ho := ip_ c17 ho
                exact hexit41 _ _  _ _ _ ho B (lv_sub hl [0, 1, 2, 3, 4, 5] rfl)
              · have ho := in_ c17 ho
                refine lv_aload_n hx hb dX10_ranked_52 rfl (lv_at hl 3 rfl) ?_
                refine lv_iload_n hx hb dX10_ranked_53 rfl (lv_at hl 4 rfl) ?_
                refine lv_iload hx hb dX10_ranked_54 (lv_at hl 0 rfl) ?_
                obtain ⟨q18, hq18, ho⟩ := bnd_ ho
                refine k_iV (As := [.int a0, .int v15]) (rest := []) S F B (c_X10_measured l G σ1 _ a0 v15 hq18) (kq (by decide) : kd 198 = 21 ∧ 198 < NN) rfl rfl (cwV 2 hts gX10_ranked_X10_measured rfl rfl rfl (by decide +kernel) ⟨Nat.le_of_ble_eq_true rfl, Nat.le_of_ble_eq_true rfl⟩) rfl hl.1 rfl (Nat.le_of_ble_eq_true rfl) dX10_ranked_56 ⟨Nat.le_of_ble_eq_true rfl, Nat.le_of_ble_eq_true rfl⟩ (fun H locs B => ?_)
                refine lv_aload_n hx hb dX10_ranked_59 rfl (lv_at hl 3 rfl) ?_
                refine lv_iload_n hx hb dX10_ranked_60 rfl (lv_at hl 4 rfl) ?_
                refine lv_iload_n hx hb dX10_ranked_61 rfl (lv_at hl 2 rfl) ?_
                obtain ⟨q19, hq19, ho⟩ := bnd_ ho
                refine k_iV (As := [.int a0, .int v6]) (rest := [.int q18]) S F B (c_X10_measured l G σ1 _ a0 v6 hq19) (kq (by decide) : kd 198 = 21 ∧ 198 < NN) rfl rfl (cwV 2 hts gX10_ranked_X10_measured rfl rfl rfl (by decide +kernel) ⟨Nat.le_of_ble_eq_true rfl, Nat.le_of_ble_eq_true rfl⟩) rfl hl.1 rfl (Nat.le_of_ble_eq_true rfl) dX10_ranked_62 ⟨Nat.le_of_ble_eq_true rfl, Nat.le_of_ble_eq_true rfl⟩ (fun H locs B => ?_)
                refine lv_isub hx hb dX10_ranked_65 ?_
                obtain ⟨x20, ex20, ho⟩ := lt_ ho
                refine lv_nm ex20 ?_
                refine lv_istore (lv' := [(6, .int x20), (5, .int v15), (4, .int v16), (3, .int v6), (0, .ref (G.2.2 198)), (1, .int a0), (2, .int a1)]) hx hb dX10_ranked_66 hl (by decide) rfl (fun ls hl => ?_)
                refine lv_iload hx hb dX10_ranked_68 (lv_at hl 2 rfl) ?_
                refine lv_iload hx hb dX10_ranked_70 (lv_at hl 0 rfl) ?_
                refine lv_if_gt (tgt := 86) hx hb dX10_ranked_72 (by decide) (fun c21 => ?_) (fun c21 => ?_)
                · have ho := ip_ c21 ho
                  refine lv_iconst (v := 1) hx hb dX10_ranked_86 (by decide) ?_
                  refine lv_goto (tgt := 91) hx hb dX10_ranked_87 (by decide) ?_
                  refine lv_iadd hx hb dX10_ranked_91 ?_
                  obtain ⟨x22, ex22, ho⟩ := lt_ ho
                  refine lv_nm ex22 ?_
                  refine lv_istore (lv' := [(4, .int x22), (6, .int x20), (5, .int v15), (3, .int v6), (0, .ref (G.2.2 198)), (1, .int a0), (2, .int a1)]) hx hb dX10_ranked_92 hl (by decide) rfl (fun ls hl => ?_)
                  obtain ⟨x23, ex23, ho⟩ := lt_ ho
                  refine lv_iinc (v := x23) (lv' := [(5, .int x23), (4, .int x22), (6, .int x20), (3, .int v6), (0, .ref (G.2.2 198)), (1, .int a0), (2, .int a1)]) hx hb dX10_ranked_94 hl (k := 2) rfl (by rw [ex23]; rfl) (by decide) rfl (fun ls hl => ?_)
                  refine lv_goto (tgt := 41) hx hb dX10_ranked_97 (by decide) ?_
                  exact ih _ _  _ _ _ ho B (lv_sub hl [0, 1, 3, 4, 5, 6] rfl)
                · have ho := in_ c21 ho
                  refine lv_iload hx hb dX10_ranked_75 (lv_at hl 0 rfl) ?_
                  refine lv_if_ne (tgt := 90) hx hb dX10_ranked_77 (by decide) (fun c24 => ?_) (fun c24 => ?_)
                  · have ho := in_ c24 ho
                    refine lv_iconst (v := 0) hx hb dX10_ranked_90 (by decide) ?_
                    refine lv_iadd hx hb dX10_ranked_91 ?_
                    obtain ⟨x25, ex25, ho⟩ := lt_ ho
                    refine lv_nm ex25 ?_
                    refine lv_istore (lv' := [(4, .int x25), (6, .int x20), (5, .int v15), (3, .int v6), (0, .ref (G.2.2 198)), (1, .int a0), (2, .int a1)]) hx hb dX10_ranked_92 hl (by decide) rfl (fun ls hl => ?_)
                    obtain ⟨x26, ex26, ho⟩ := lt_ ho
                    refine lv_iinc (v := x26) (lv' := [(5, .int x26), (4, .int x25), (6, .int x20), (3, .int v6), (0, .ref (G.2.2 198)), (1, .int a0), (2, .int a1)]) hx hb dX10_ranked_94 hl (k := 2) rfl (by rw [ex26]; rfl) (by decide) rfl (fun ls hl => ?_)
                    refine lv_goto (tgt := 41) hx hb dX10_ranked_97 (by decide) ?_
                    exact ih _ _  _ _ _ ho B (lv_sub hl [0, 1, 3, 4, 5, 6] rfl)
                  · have ho := ip_ c24 ho
                    refine lv_iload hx hb dX10_ranked_80 (lv_at hl 1 rfl) ?_
                    refine lv_iload_n hx hb dX10_ranked_82 rfl (lv_at hl 3 rfl) ?_
                    refine lv_icmp_ge (tgt := 90) hx hb dX10_ranked_83 (by decide) (fun c27 => ?_) (fun c27 => ?_)
                    · have ho := ip_ c27 ho
                      refine lv_iconst (v := 0) hx hb dX10_ranked_90 (by decide) ?_
                      refine lv_iadd hx hb dX10_ranked_91 ?_
                      obtain ⟨x28, ex28, ho⟩ := lt_ ho
                      refine lv_nm ex28 ?_
                      refine lv_istore (lv' := [(4, .int x28), (6, .int x20), (5, .int v15), (3, .int v6), (0, .ref (G.2.2 198)), (1, .int a0), (2, .int a1)]) hx hb dX10_ranked_92 hl (by decide) rfl (fun ls hl => ?_)
                      obtain ⟨x29, ex29, ho⟩ := lt_ ho
                      refine lv_iinc (v := x29) (lv' := [(5, .int x29), (4, .int x28), (6, .int x20), (3, .int v6), (0, .ref (G.2.2 198)), (1, .int a0), (2, .int a1)]) hx hb dX10_ranked_94 hl (k := 2) rfl (by rw [ex29]; rfl) (by decide) rfl (fun ls hl => ?_)
                      refine lv_goto (tgt := 41) hx hb dX10_ranked_97 (by decide) ?_
                      exact ih _ _  _ _ _ ho B (lv_sub hl [0, 1, 3, 4, 5, 6] rfl)
                    · have ho := in_ c27 ho
                      refine lv_iconst (v := 1) hx hb dX10_ranked_86 (by decide) ?_
                      refine lv_goto (tgt := 91) hx hb dX10_ranked_87 (by decide) ?_
                      refine lv_iadd hx hb dX10_ranked_91 ?_
                      obtain ⟨x30, ex30, ho⟩ := lt_ ho
                      refine lv_nm ex30 ?_
                      refine lv_istore (lv' := [(4, .int x30), (6, .int x20), (5, .int v15), (3, .int v6), (0, .ref (G.2.2 198)), (1, .int a0), (2, .int a1)]) hx hb dX10_ranked_92 hl (by decide) rfl (fun ls hl => ?_)
                      obtain ⟨x31, ex31, ho⟩ := lt_ ho
                      refine lv_iinc (v := x31) (lv' := [(5, .int x31), (4, .int x30), (6, .int x20), (3, .int v6), (0, .ref (G.2.2 198)), (1, .int a0), (2, .int a1)]) hx hb dX10_ranked_94 hl (k := 2) rfl (by rw [ex31]; rfl) (by decide) rfl (fun ls hl => ?_)
                      refine lv_goto (tgt := 41) hx hb dX10_ranked_97 (by decide) ?_
                      exact ih _ _  _ _ _ ho B (lv_sub hl [0, 1, 3, 4, 5, 6] rfl)
          exact hloop41 8 _ _  _ _ _ ho B hl
    exact hloop25 8 _  _ _ _ ho B hl
  · have ho := ip_ c3 ho
    refine lv_aload_n hx hb dX10_ranked_17 rfl (lv_at hl 0 rfl) ?_
    refine lv_iconst (v := 1) hx hb dX10_ranked_18 (by decide) ?_
    obtain ⟨q32, σ33, hq32, ho⟩ := bnm_ ho
    refine k_iV (As := [.int 1]) (rest := []) S F B (c_X10_throwing l G σ1 _ 1 hq32) (kq (by decide) : kd 198 = 21 ∧ 198 < NN) rfl rfl (cwV 1 hts gX10_ranked_X10_throwing rfl rfl rfl (by decide +kernel) ⟨Nat.le_of_ble_eq_true rfl, Nat.le_of_ble_eq_true rfl⟩) rfl hl.1 rfl (Nat.le_of_ble_eq_true rfl) dX10_ranked_19 ⟨Nat.le_of_ble_eq_true rfl, Nat.le_of_ble_eq_true rfl⟩ (fun H locs B => ?_)
    cases ho
    exact e_i B hx hb hr hlocks rfl rfl dX10_ranked_22

set_option maxHeartbeats 4000000 in
set_option maxRecDepth 100000 in
theorem c_X10_richest (l : Launch) (G : Gd) (σ : Mm) (sz : Nat) (a0 : Int32) {out : Int32 × Mm} (ho : f_X10_richest a0 σ = some out) : Met l yX10_richest wsX10_richest { frames := 3, cells := 0, slots := 0, locals := 79 } (va_Pc [.ref (G.2.2 198), .int a0] (PW G σ sz)) (Qi G sz out.1 out.2) 0 0 (AA G sz) := by
  refine Met.ofW (cc := cX10_richest) (maxL := 7) (ret := (some .int)) (by decide) rfl ?_
  intro p e s m args below meth c s₁ B0 hml hv
  obtain ⟨rfl, hpw⟩ := hv
  have hsz := hpw.1
  subst hsz
  obtain ⟨F, B⟩ := hpw.to
  have hx := B0.exec
  have hb := B0.bytes
  have hr := B0.returns
  have hts := atoms_spec (ws := wsX10_richest) B0.pre
  have hown : s.vm.findClass RX10 = some m.cls := findClass_of_methodNamed B0.named
  have hlocks := B0.notSynchronized
  have S : CallFix p m c cX10_richest 7 s _ wsX10_richest RX10 := ⟨hx, hb, hml, hown, hts⟩
  have hiX10 : ∀ w ∈ u_ws RX10 TX10 21, w ∈ wsX10_richest := by decide +kernel
  have hl := lv_entry [.ref (G.2.2 198), .int a0] (n := 7) (Nat.le_of_ble_eq_true rfl)
  rw [lg_entry_eq]
  generalize (lg_sl [.ref (G.2.2 198), .int a0] ++ List.replicate (7 - (lg_sl [.ref (G.2.2 198), .int a0]).length) Slot.unset).toArray = ls at hl ⊢
  have hl : lv_has ls 7 [(0, .ref (G.2.2 198)), (1, .int a0)] := hl
  unfold f_X10_richest at ho
  skip
  refine lv_aload_n hx hb dX10_richest_0 rfl (lv_at hl 0 rfl) ?_
  refine lv_iconst (v := 0) hx hb dX10_richest_1 (by decide) ?_
  refine r_put (ci := 14) (C := RX10) (T := TX10) (N := 21) (ty := .int) S F B tyX10 tyX10_ok nmX10 (kq (by decide) : kd 198 = 21 ∧ 198 < NN) (fun _ => rfl) rfl hiX10 12 (by decide) (by decide +kernel) rfl rfl rfl rfl (fun _ => Nat.le_of_ble_eq_true rfl) (fun _ => rfl) dX10_richest_2 (fun H locs B => ?_)
  obtain ⟨σ1, eσ1, ho⟩ := lt_ ho
  rw [← eσ1] at B
  refine lv_iconst (v := 0) hx hb dX10_richest_5 (by decide) ?_
  refine lv_istore_n (lv' := [(2, .int 0), (0, .ref (G.2.2 198)), (1, .int a0)]) hx hb dX10_richest_6 rfl hl (by decide) rfl (fun ls hl => ?_)
  have hloop7 : ∀ (n : Nat) (v4 : Int32) (H : Heap) (locs : List Loc) (ls : Array Slot), f_X10_richest_l7  a0 σ1 n v4 = some out → Bd G σ1 s H locs → lv_has ls 7 [(2, .int v4), (0, .ref (G.2.2 198)), (1, .int a0)] → W p l e (headSpec wsX10_richest { frames := 3, cells := 0, slots := 0, locals := 79 }).room s m #[.ref (G.2.2 198), .int a0] below meth c H locs 0 0 (MQ below (Qi G s.heap.size out.1 out.2) #[.ref (G.2.2 198), .int a0] s 0 0 (AA G s.heap.size)) (F0 m 7 ls []) := by
    intro n
    induction n with
    | zero => intro v4 H locs ls ho B hl; cases ho
    | succ n ih =>
      intro v4 H locs ls ho B hl
      refine lv_iload_n hx hb dX10_richest_7 rfl (lv_at hl 0 rfl) ?_
      refine lv_aload_n hx hb dX10_richest_8 rfl (lv_at hl 1 rfl) ?_
      refine r_get (ci := 14) (C := RX10) (T := TX10) (N := 21) S F B (kq (by decide) : kd 198 = 21 ∧ 198 < NN) rfl rfl hiX10 0 (by decide) (by decide +kernel) rfl dX10_richest_9 ?_
      refine lv_iconst (v := 0) hx hb dX10_richest_12 (by decide) ?_
      refine r_ialdc (j := 0) S F B (kq (by decide) : kd 199 = 22 ∧ 199 < NN) rfl (vpc (by decide)) (by decide) dX10_richest_13 ?_
      refine lv_icmp_ge (tgt := 122) hx hb dX10_richest_14 (by decide) (fun c5 => ?_) (fun c5 => ?_)
      · have ho := ip_ c5 ho
        refine lv_aload_n hx hb dX10_richest_122 rfl (lv_at hl 1 rfl) ?_
        refine lv_iconst (v := 1) hx hb dX10_richest_123 (by decide) ?_
        obtain ⟨q6, σ7, hq6, ho⟩ := bnm_ ho
        refine k_iV (As := [.int 1]) (rest := []) S F B (c_X10_throwing l G σ1 _ 1 hq6) (kq (by decide) : kd 198 = 21 ∧ 198 < NN) rfl rfl (cwV 1 hts gX10_richest_X10_throwing rfl rfl rfl (by decide +kernel) ⟨Nat.le_of_ble_eq_true rfl, Nat.le_of_ble_eq_true rfl⟩) rfl hl.1 rfl (Nat.le_of_ble_eq_true rfl) dX10_richest_124 ⟨Nat.le_of_ble_eq_true rfl, Nat.le_of_ble_eq_true rfl⟩ (fun H locs B => ?_)
        cases ho
        exact e_i B hx hb hr hlocks rfl rfl dX10_richest_127
      · have ho := in_ c5 ho
        refine lv_iconst (v := 0) hx hb dX10_richest_17 (by decide) ?_
        refine lv_istore_n (lv' := [(3, .int 0), (2, .int v4), (0, .ref (G.2.2 198)), (1, .int a0)]) hx hb dX10_richest_18 rfl hl (by decide) rfl (fun ls hl => ?_)
        refine lv_iconst (v := 0) hx hb dX10_richest_19 (by decide) ?_
        refine lv_istore (lv' := [(4, .int 0), (3, .int 0), (2, .int v4), (0, .ref (G.2.2 198)), (1, .int a0)]) hx hb dX10_richest_20 hl (by decide) rfl (fun ls hl => ?_)
        obtain ⟨K, hK, ho⟩ := lt_ ho
        have hexit22 : ∀ (v8 : Int32) (v9 : Int32) (H : Heap) (locs : List Loc) (ls : Array Slot), K v8 v9 = some out → Bd G σ1 s H locs → lv_has ls 7 [(4, .int v8), (3, .int v9), (2, .int v4), (0, .ref (G.2.2 198)), (1, .int a0)] → W p l e (headSpec wsX10_richest { frames := 3, cells := 0, slots := 0, locals := 79 }).room s m #[.ref (G.2.2 198), .int a0] below meth c H locs 0 0 (MQ below (Qi G s.heap.size out.1 out.2) #[.ref (G.2.2 198), .int a0] s 0 0 (AA G s.heap.size)) (F0 m 109 ls []) := by
          intro v8 v9 H locs ls ho B hl
          subst hK
          refine lv_iload_n hx hb dX10_richest_109 rfl (lv_at hl 1 rfl) ?_
          refine lv_iload_n hx hb dX10_richest_110 rfl (lv_at hl 4 rfl) ?_
          refine lv_icmp_ne (tgt := 116) hx hb dX10_richest_111 (by decide) (fun c11 => ?_) (fun c11 => ?_)
          · have ho := in_ c11 ho
            obtain ⟨x12, ex12, ho⟩ := lt_ ho
            refine lv_iinc (v := x12) (lv' := [(2, .int x12), (4, .int v8), (3, .int v9), (0, .ref (G.2.2 198)), (1, .int a0)]) hx hb dX10_richest_116 hl (k := 2) rfl (by rw [ex12]; rfl) (by decide) rfl (fun ls hl => ?_)
            refine lv_goto (tgt := 7) hx hb dX10_richest_119 (by decide) ?_
            exact ih _  _ _ _ ho B (lv_sub hl [0, 3, 4] rfl)
          · have ho := ip_ c11 ho
            refine lv_iload_n hx hb dX10_richest_114 rfl (lv_at hl 2 rfl) ?_
            cases ho
            exact e_i B hx hb hr hlocks rfl rfl dX10_richest_115
        have hloop22 : ∀ (n : Nat) (v13 : Int32) (v14 : Int32) (H : Heap) (locs : List Loc) (ls : Array Slot), f_X10_richest_l22 K v4 a0 σ1 n v13 v14 = some out → Bd G σ1 s H locs → lv_has ls 7 [(4, .int v13), (3, .int v14), (2, .int v4), (0, .ref (G.2.2 198)), (1, .int a0)] → W p l e (headSpec wsX10_richest { frames := 3, cells := 0, slots := 0, locals := 79 }).room s m #[.ref (G.2.2 198), .int a0] below meth c H locs 0 0 (MQ below (Qi G s.heap.size out.1 out.2) #[.ref (G.2.2 198), .int a0] s 0 0 (AA G s.heap.size)) (F0 m 22 ls []) := by
          intro n
          induction n with
          | zero => intro v13 v14 H locs ls ho B hl; cases ho
          | succ n ih =>
            intro v13 v14 H locs ls ho B hl
            refine lv_iload hx hb dX10_richest_22 (lv_at hl 0 rfl) ?_
            refine lv_aload_n hx hb dX10_richest_24 rfl (lv_at hl 3 rfl) ?_
            refine r_get (ci := 14) (C := RX10) (T := TX10) (N := 21) S F B (kq (by decide) : kd 198 = 21 ∧ 198 < NN) rfl rfl hiX10 0 (by decide) (by decide +kernel) rfl dX10_richest_25 ?_
            refine lv_iconst (v := 0) hx hb dX10_richest_28 (by decide) ?_
            refine r_ialdc (j := 0) S F B (kq (by decide) : kd 199 = 22 ∧ 199 < NN) rfl (vpc (by decide)) (by decide) dX10_richest_29 ?_
            refine lv_icmp_ge (tgt := 109) hx hb dX10_richest_30 (by decide) (fun c15 => ?_) (fun c15 => ?_)
            · have ho := ip_ c15 ho
              exact hexit22 _ _  _ _ _ ho B (lv_sub hl [0, 1, 2, 3, 4] rfl)
            · have ho := in_ c15 ho
              refine lv_aload_n hx hb dX10_richest_33 rfl (lv_at hl 3 rfl) ?_
              refine r_get (ci := 14) (C := RX10) (T := TX10) (N := 21) S F B (kq (by decide) : kd 198 = 21 ∧ 198 < NN) rfl rfl hiX10 0 (by decide) (by decide +kernel) rfl dX10_richest_34 ?_
              refine lv_iload hx hb dX10_richest_37 (lv_at hl 0 rfl) ?_
              obtain ⟨q16, hq16, ho⟩ := bnd_ ho
              refine k_iS (As := [.int v13]) (rest := [.ref (G.2.2 199)]) S F B (c_X10_gardenerAt l G σ1 _ v13 hq16) (va_cwS 1 hts gX10_richest_X10_gardenerAt rfl rfl rfl (by decide +kernel) ⟨Nat.le_of_ble_eq_true rfl, Nat.le_of_ble_eq_true rfl⟩) rfl hl.1 rfl (Nat.le_of_ble_eq_true rfl) dX10_richest_39 ⟨Nat.le_of_ble_eq_true rfl, Nat.le_of_ble_eq_true rfl⟩ (fun H locs B => ?_)
              obtain ⟨hi, ho⟩ := gd_ ho
              refine r_iald S F B (kq (by decide) : kd 199 = 22 ∧ 199 < NN) rfl hi dX10_richest_42 ?_
              refine lv_aload_n hx hb dX10_richest_43 rfl (lv_at hl 3 rfl) ?_
              refine r_get (ci := 14) (C := RX10) (T := TX10) (N := 21) S F B (kq (by decide) : kd 198 = 21 ∧ 198 < NN) rfl rfl hiX10 0 (by decide) (by decide +kernel) rfl dX10_richest_44 ?_
              refine lv_iload_n hx hb dX10_richest_47 rfl (lv_at hl 2 rfl) ?_
              obtain ⟨q17, hq17, ho⟩ := bnd_ ho
              refine k_iS (As := [.int v4]) (rest := [.ref (G.2.2 199), .int (σ1 199 q16.toNatClampNeg)]) S F B (c_X10_gardenerAt l G σ1 _ v4 hq17) (va_cwS 1 hts gX10_richest_X10_gardenerAt rfl rfl rfl (by decide +kernel) ⟨Nat.le_of_ble_eq_true rfl, Nat.le_of_ble_eq_true rfl⟩) rfl hl.1 rfl (Nat.le_of_ble_eq_true rfl) dX10_richest_48 ⟨Nat.le_of_ble_eq_true rfl, Nat.le_of_ble_eq_true rfl⟩ (fun H locs B => ?_)
              obtain ⟨hi, ho⟩ := gd_ ho
              refine r_iald S F B (kq (by decide) : kd 199 = 22 ∧ 199 < NN) rfl hi dX10_richest_51 ?_
              refine lv_isub hx hb dX10_richest_52 ?_
              obtain ⟨x18, ex18, ho⟩ := lt_ ho
              refine lv_nm ex18 ?_
              refine lv_istore (lv' := [(5, .int x18), (4, .int v13), (3, .int v14), (2, .int v4), (0, .ref (G.2.2 198)), (1, .int a0)]) hx hb dX10_richest_53 hl (by decide) rfl (fun ls hl => ?_)
              refine lv_iload hx hb dX10_richest_55 (lv_at hl 0 rfl) ?_
              refine lv_if_ne (tgt := 75) hx hb dX10_richest_57 (by decide) (fun c19 => ?_) (fun c19 => ?_)
              · have ho := in_ c19 ho
                refine lv_iload hx hb dX10_richest_75 (lv_at hl 0 rfl) ?_
                refine lv_istore (lv' := [(6, .int x18), (5, .int x18), (4, .int v13), (3, .int v14), (2, .int v4), (0, .ref (G.2.2 198)), (1, .int a0)]) hx hb dX10_richest_77 hl (by decide) rfl (fun ls hl => ?_)
                refine lv_iload_n hx hb dX10_richest_79 rfl (lv_at hl 3 rfl) ?_
                refine lv_iload hx hb dX10_richest_80 (lv_at hl 0 rfl) ?_
                refine lv_if_gt (tgt := 96) hx hb dX10_richest_82 (by decide) (fun c20 => ?_) (fun c20 => ?_)
                · have ho := ip_ c20 ho
                  refine lv_iconst (v := 1) hx hb dX10_richest_96 (by decide) ?_
                  refine lv_goto (tgt := 101) hx hb dX10_richest_97 (by decide) ?_
                  refine lv_iadd hx hb dX10_richest_101 ?_
                  obtain ⟨x21, ex21, ho⟩ := lt_ ho
                  refine lv_nm ex21 ?_
                  refine lv_istore_n (lv' := [(3, .int x21), (6, .int x18), (5, .int x18), (4, .int v13), (2, .int v4), (0, .ref (G.2.2 198)), (1, .int a0)]) hx hb dX10_richest_102 rfl hl (by decide) rfl (fun ls hl => ?_)
                  obtain ⟨x22, ex22, ho⟩ := lt_ ho
                  refine lv_iinc (v := x22) (lv' := [(4, .int x22), (3, .int x21), (6, .int x18), (5, .int x18), (2, .int v4), (0, .ref (G.2.2 198)), (1, .int a0)]) hx hb dX10_richest_103 hl (k := 3) rfl (by rw [ex22]; rfl) (by decide) rfl (fun ls hl => ?_)
                  refine lv_goto (tgt := 22) hx hb dX10_richest_106 (by decide) ?_
                  exact ih _ _  _ _ _ ho B (lv_sub hl [0, 1, 4, 5, 6] rfl)
                · have ho := in_ c20 ho
                  refine lv_iload hx hb dX10_richest_85 (lv_at hl 0 rfl) ?_
                  refine lv_if_ne (tgt := 100) hx hb dX10_richest_87 (by decide) (fun c23 => ?_) (fun c23 => ?_)
                  · have ho := in_ c23 ho
                    refine lv_iconst (v := 0) hx hb dX10_richest_100 (by decide) ?_
                    refine lv_iadd hx hb dX10_richest_101 ?_
                    obtain ⟨x24, ex24, ho⟩ := lt_ ho
                    refine lv_nm ex24 ?_
                    refine lv_istore_n (lv' := [(3, .int x24), (6, .int x18), (5, .int x18), (4, .int v13), (2, .int v4), (0, .ref (G.2.2 198)), (1, .int a0)]) hx hb dX10_richest_102 rfl hl (by decide) rfl (fun ls hl => ?_)
                    obtain ⟨x25, ex25, ho⟩ := lt_ ho
                    refine lv_iinc (v := x25) (lv' := [(4, .int x25), (3, .int x24), (6, .int x18), (5, .int x18), (2, .int v4), (0, .ref (G.2.2 198)), (1, .int a0)]) hx hb dX10_richest_103 hl (k := 3) rfl (by rw [ex25]; rfl) (by decide) rfl (fun ls hl => ?_)
                    refine lv_goto (tgt := 22) hx hb dX10_richest_106 (by decide) ?_
                    exact ih _ _  _ _ _ ho B (lv_sub hl [0, 1, 4, 5, 6] rfl)
                  · have ho := ip_ c23 ho
                    refine lv_iload hx hb dX10_richest_90 (lv_at hl 2 rfl) ?_
                    refine lv_iload_n hx hb dX10_richest_92 rfl (lv_at hl 4 rfl) ?_
                    refine lv_icmp_ge (tgt := 100) hx hb dX10_richest_93 (by decide) (fun c26 => ?_) (fun c26 => ?_)
                    · have ho := ip_ c26 ho
                      refine lv_iconst (v := 0) hx hb dX10_richest_100 (by decide) ?_
                      refine lv_iadd hx hb dX10_richest_101 ?_
                      obtain ⟨x27, ex27, ho⟩ := lt_ ho
                      refine lv_nm ex27 ?_
                      refine lv_istore_n (lv' := [(3, .int x27), (6, .int x18), (5, .int x18), (4, .int v13), (2, .int v4), (0, .ref (G.2.2 198)), (1, .int a0)]) hx hb dX10_richest_102 rfl hl (by decide) rfl (fun ls hl => ?_)
                      obtain ⟨x28, ex28, ho⟩ := lt_ ho
                      refine lv_iinc (v := x28) (lv' := [(4, .int x28), (3, .int x27), (6, .int x18), (5, .int x18), (2, .int v4), (0, .ref (G.2.2 198)), (1, .int a0)]) hx hb dX10_richest_103 hl (k := 3) rfl (by rw [ex28]; rfl) (by decide) rfl (fun ls hl => ?_)
                      refine lv_goto (tgt := 22) hx hb dX10_richest_106 (by decide) ?_
                      exact ih _ _  _ _ _ ho B (lv_sub hl [0, 1, 4, 5, 6] rfl)
                    · have ho := in_ c26 ho
                      refine lv_iconst (v := 1) hx hb dX10_richest_96 (by decide) ?_
                      refine lv_goto (tgt := 101) hx hb dX10_richest_97 (by decide) ?_
                      refine lv_iadd hx hb dX10_richest_101 ?_
                      obtain ⟨x29, ex29, ho⟩ := lt_ ho
                      refine lv_nm ex29 ?_
                      refine lv_istore_n (lv' := [(3, .int x29), (6, .int x18), (5, .int x18), (4, .int v13), (2, .int v4), (0, .ref (G.2.2 198)), (1, .int a0)]) hx hb dX10_richest_102 rfl hl (by decide) rfl (fun ls hl => ?_)
                      obtain ⟨x30, ex30, ho⟩ := lt_ ho
                      refine lv_iinc (v := x30) (lv' := [(4, .int x30), (3, .int x29), (6, .int x18), (5, .int x18), (2, .int v4), (0, .ref (G.2.2 198)), (1, .int a0)]) hx hb dX10_richest_103 hl (k := 3) rfl (by rw [ex30]; rfl) (by decide) rfl (fun ls hl => ?_)
                      refine lv_goto (tgt := 22) hx hb dX10_richest_106 (by decide) ?_
                      exact ih _ _  _ _ _ ho B (lv_sub hl [0, 1, 4, 5, 6] rfl)
              · have ho := ip_ c19 ho
                refine lv_aload_n hx hb dX10_richest_60 rfl (lv_at hl 4 rfl) ?_
                refine lv_iload_n hx hb dX10_richest_61 rfl (lv_at hl 3 rfl) ?_
                obtain ⟨q31, hq31, ho⟩ := bnd_ ho
                refine k_iV (As := [.int v4]) (rest := []) S F B (c_X10_owedBy l G σ1 _ v4 hq31) (kq (by decide) : kd 198 = 21 ∧ 198 < NN) rfl rfl (cwV 1 hts gX10_richest_X10_owedBy rfl rfl rfl (by decide +kernel) ⟨Nat.le_of_ble_eq_true rfl, Nat.le_of_ble_eq_true rfl⟩) rfl hl.1 rfl (Nat.le_of_ble_eq_true rfl) dX10_richest_62 ⟨Nat.le_of_ble_eq_true rfl, Nat.le_of_ble_eq_true rfl⟩ (fun H locs B => ?_)
                refine lv_aload_n hx hb dX10_richest_65 rfl (lv_at hl 4 rfl) ?_
                refine lv_iload hx hb dX10_richest_66 (lv_at hl 1 rfl) ?_
                obtain ⟨q32, hq32, ho⟩ := bnd_ ho
                refine k_iV (As := [.int v13]) (rest := [.int q31]) S F B (c_X10_owedBy l G σ1 _ v13 hq32) (kq (by decide) : kd 198 = 21 ∧ 198 < NN) rfl rfl (cwV 1 hts gX10_richest_X10_owedBy rfl rfl rfl (by decide +kernel) ⟨Nat.le_of_ble_eq_true rfl, Nat.le_of_ble_eq_true rfl⟩) rfl hl.1 rfl (Nat.le_of_ble_eq_true rfl) dX10_richest_68 ⟨Nat.le_of_ble_eq_true rfl, Nat.le_of_ble_eq_true rfl⟩ (fun H locs B => ?_)
                refine lv_isub hx hb dX10_richest_71 ?_
                refine lv_goto (tgt := 77) hx hb dX10_richest_72 (by decide) ?_
                obtain ⟨x33, ex33, ho⟩ := lt_ ho
                refine lv_nm ex33 ?_
                refine lv_istore (lv' := [(6, .int x33), (5, .int x18), (4, .int v13), (3, .int v14), (2, .int v4), (0, .ref (G.2.2 198)), (1, .int a0)]) hx hb dX10_richest_77 hl (by decide) rfl (fun ls hl => ?_)
                refine lv_iload_n hx hb dX10_richest_79 rfl (lv_at hl 3 rfl) ?_
                refine lv_iload hx hb dX10_richest_80 (lv_at hl 0 rfl) ?_
                refine lv_if_gt (tgt := 96) hx hb dX10_richest_82 (by decide) (fun c34 => ?_) (fun c34 => ?_)
                · have ho := ip_ c34 ho
                  refine lv_iconst (v := 1) hx hb dX10_richest_96 (by decide) ?_
                  refine lv_goto (tgt := 101) hx hb dX10_richest_97 (by decide) ?_
                  refine lv_iadd hx hb dX10_richest_101 ?_
                  obtain ⟨x35, ex35, ho⟩ := lt_ ho
                  refine lv_nm ex35 ?_
                  refine lv_istore_n (lv' := [(3, .int x35), (6, .int x33), (5, .int x18), (4, .int v13), (2, .int v4), (0, .ref (G.2.2 198)), (1, .int a0)]) hx hb dX10_richest_102 rfl hl (by decide) rfl (fun ls hl => ?_)
                  obtain ⟨x36, ex36, ho⟩ := lt_ ho
                  refine lv_iinc (v := x36) (lv' := [(4, .int x36), (3, .int x35), (6, .int x33), (5, .int x18), (2, .int v4), (0, .ref (G.2.2 198)), (1, .int a0)]) hx hb dX10_richest_103 hl (k := 3) rfl (by rw [ex36]; rfl) (by decide) rfl (fun ls hl => ?_)
                  refine lv_goto (tgt := 22) hx hb dX10_richest_106 (by decide) ?_
                  exact ih _ _  _ _ _ ho B (lv_sub hl [0, 1, 4, 5, 6] rfl)
                · have ho := in_ c34 ho
                  refine lv_iload hx hb dX10_richest_85 (lv_at hl 0 rfl) ?_
                  refine lv_if_ne (tgt := 100) hx hb dX10_richest_87 (by decide) (fun c37 => ?_) (fun c37 => ?_)
                  · have ho := in_ c37 ho
                    refine lv_iconst (v := 0) hx hb dX10_richest_100 (by decide) ?_
                    refine lv_iadd hx hb dX10_richest_101 ?_
                    obtain ⟨x38, ex38, ho⟩ := lt_ ho
                    refine lv_nm ex38 ?_
                    refine lv_istore_n (lv' := [(3, .int x38), (6, .int x33), (5, .int x18), (4, .int v13), (2, .int v4), (0, .ref (G.2.2 198)), (1, .int a0)]) hx hb dX10_richest_102 rfl hl (by decide) rfl (fun ls hl => ?_)
                    obtain ⟨x39, ex39, ho⟩ := lt_ ho
                    refine lv_iinc (v := x39) (lv' := [(4, .int x39), (3, .int x38), (6, .int x33), (5, .int x18), (2, .int v4), (0, .ref (G.2.2 198)), (1, .int a0)]) hx hb dX10_richest_103 hl (k := 3) rfl (by rw [ex39]; rfl) (by decide) rfl (fun ls hl => ?_)
                    refine lv_goto (tgt := 22) hx hb dX10_richest_106 (by decide) ?_
                    exact ih _ _  _ _ _ ho B (lv_sub hl [0, 1, 4, 5, 6] rfl)
                  · have ho := ip_ c37 ho
                    refine lv_iload hx hb dX10_richest_90 (lv_at hl 2 rfl) ?_
                    refine lv_iload_n hx hb dX10_richest_92 rfl (lv_at hl 4 rfl) ?_
                    refine lv_icmp_ge (tgt := 100) hx hb dX10_richest_93 (by decide) (fun c40 => ?_) (fun c40 => ?_)
                    · have ho := ip_ c40 ho
                      refine lv_iconst (v := 0) hx hb dX10_richest_100 (by decide) ?_
                      refine lv_iadd hx hb dX10_richest_101 ?_
                      obtain ⟨x41, ex41, ho⟩ := lt_ ho
                      refine lv_nm ex41 ?_
                      refine lv_istore_n (lv' := [(3, .int x41), (6, .int x33), (5, .int x18), (4, .int v13), (2, .int v4), (0, .ref (G.2.2 198)), (1, .int a0)]) hx hb dX10_richest_102 rfl hl (by decide) rfl (fun ls hl => ?_)
                      obtain ⟨x42, ex42, ho⟩ := lt_ ho
                      refine lv_iinc (v := x42) (lv' := [(4, .int x42), (3, .int x41), (6, .int x33), (5, .int x18), (2, .int v4), (0, .ref (G.2.2 198)), (1, .int a0)]) hx hb dX10_richest_103 hl (k := 3) rfl (by rw [ex42]; rfl) (by decide) rfl (fun ls hl => ?_)
                      refine lv_goto (tgt := 22) hx hb dX10_richest_106 (by decide) ?_
                      exact ih _ _  _ _ _ ho B (lv_sub hl [0, 1, 4, 5, 6] rfl)
                    · have ho := in_ c40 ho
                      refine lv_iconst (v := 1) hx hb dX10_richest_96 (by decide) ?_
                      refine lv_goto (tgt := 101) hx hb dX10_richest_97 (by decide) ?_
                      refine lv_iadd hx hb dX10_richest_101 ?_
                      obtain ⟨x43, ex43, ho⟩ := lt_ ho
                      refine lv_nm ex43 ?_
                      refine lv_istore_n (lv' := [(3, .int x43), (6, .int x33), (5, .int x18), (4, .int v13), (2, .int v4), (0, .ref (G.2.2 198)), (1, .int a0)]) hx hb dX10_richest_102 rfl hl (by decide) rfl (fun ls hl => ?_)
                      obtain ⟨x44, ex44, ho⟩ := lt_ ho
                      refine lv_iinc (v := x44) (lv' := [(4, .int x44), (3, .int x43), (6, .int x33), (5, .int x18), (2, .int v4), (0, .ref (G.2.2 198)), (1, .int a0)]) hx hb dX10_richest_103 hl (k := 3) rfl (by rw [ex44]; rfl) (by decide) rfl (fun ls hl => ?_)
                      refine lv_goto (tgt := 22) hx hb dX10_richest_106 (by decide) ?_
                      exact ih _ _  _ _ _ ho B (lv_sub hl [0, 1, 4, 5, 6] rfl)
        exact hloop22 8 _ _  _ _ _ ho B hl
  exact hloop7 8 _  _ _ _ ho B hl
