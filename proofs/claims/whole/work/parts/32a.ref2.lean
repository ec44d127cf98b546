set_option maxHeartbeats 4000000 in
set_option maxRecDepth 100000 in
theorem c_X10_areCells (l : Launch) (G : Gd) (σ : Mm) (sz : Nat) (a0 : Int32) (a1 : Int32) {out : Int32 × Mm} (ho : f_X10_areCells a0 a1 σ = some out) : Met l yX10_areCells wsX10_areCells { frames := 2, cells := 0, slots := 0, locals := 45 } (va_Pc [.ref (G.2.2 198), .int a0, .int a1] (PW G σ sz)) (Qi G sz out.1 out.2) 0 0 (AA G sz) := by
  refine Met.ofW (cc := cX10_areCells) (maxL := 3) (ret := (some .boolean)) (by decide) rfl ?_
  intro p e s m args below meth c s₁ B0 hml hv
  obtain ⟨rfl, hpw⟩ := hv
  have hsz := hpw.1
  subst hsz
  obtain ⟨F, B⟩ := hpw.to
  have hx := B0.exec
  have hb := B0.bytes
  have hr := B0.returns
  have hts := atoms_spec (ws := wsX10_areCells) B0.pre
  have hown : s.vm.findClass RX10 = some m.cls := findClass_of_methodNamed B0.named
  have hlocks := B0.notSynchronized
  have S : CallFix p m c cX10_areCells 3 s _ wsX10_areCells RX10 := ⟨hx, hb, hml, hown, hts⟩
  have hiX10 : ∀ w ∈ u_ws RX10 TX10 21, w ∈ wsX10_areCells := by decide +kernel
  have hl := lv_entry [.ref (G.2.2 198), .int a0, .int a1] (n := 3) (Nat.le_of_ble_eq_true rfl)
  rw [lg_entry_eq]
  generalize (lg_sl [.ref (G.2.2 198), .int a0, .int a1] ++ List.replicate (3 - (lg_sl [.ref (G.2.2 198), .int a0, .int a1]).length) Slot.unset).toArray = ls at hl ⊢
  have hl : lv_has ls 3 [(0, .ref (G.2.2 198)), (1, .int a0), (2, .int a1)] := hl
  unfold f_X10_areCells at ho
  refine lv_aload_n hx hb dX10_areCells_0 rfl (lv_at hl 0 rfl) ?_
  refine lv_iload_n hx hb dX10_areCells_1 rfl (lv_at hl 1 rfl) ?_
  obtain ⟨q1, hq1, ho⟩ := bnd_ ho
  refine k_iS (As := [.int a0]) (rest := [.ref (G.2.2 198)]) S F B (c_X10_isCell l G σ _ a0 hq1) (va_cwS 1 hts gX10_areCells_X10_isCell rfl rfl rfl (by decide +kernel) ⟨Nat.le_of_ble_eq_true rfl, Nat.le_of_ble_eq_true rfl⟩) rfl hl.1 rfl (Nat.le_of_ble_eq_true rfl) dX10_areCells_2 ⟨Nat.le_of_ble_eq_true rfl, Nat.le_of_ble_eq_true rfl⟩ (fun H locs B => ?_)
  refine lv_if_eq (tgt := 19) hx hb dX10_areCells_5 (by decide) (fun c2 => ?_) (fun c2 => ?_)
  · have ho := ip_ c2 ho
    refine lv_iconst (v := 1) hx hb dX10_areCells_19 (by decide) ?_
    refine r_put (ci := 14) (C := RX10) (T := TX10) (N := 21) (ty := .int) S F B tyX10 tyX10_ok nmX10 (kq (by decide) : kd 198 = 21 ∧ 198 < NN) (fun _ => rfl) rfl hiX10 12 (by decide) (by decide +kernel) rfl rfl rfl rfl (fun _ => Nat.le_of_ble_eq_true rfl) (fun _ => rfl) dX10_areCells_20 (fun H locs B => ?_)
    obtain ⟨σ3, eσ3, ho⟩ := lt_ ho
    rw [← eσ3] at B
    refine lv_aload_n hx hb dX10_areCells_23 rfl (lv_at hl 0 rfl) ?_
    refine r_get (ci := 14) (C := RX10) (T := TX10) (N := 21) S F B (kq (by decide) : kd 198 = 21 ∧ 198 < NN) rfl rfl hiX10 12 (by decide) (by decide +kernel) rfl dX10_areCells_24 ?_
    refine lv_if_ne (tgt := 34) hx hb dX10_areCells_27 (by decide) (fun c4 => ?_) (fun c4 => ?_)
    · have ho := in_ c4 ho
      refine lv_iconst (v := 0) hx hb dX10_areCells_34 (by decide) ?_
      cases ho
      exact e_i B hx hb hr hlocks rfl rfl dX10_areCells_35
    · have ho := ip_ c4 ho
      refine lv_iconst (v := 1) hx hb dX10_areCells_30 (by decide) ?_
      refine lv_goto (tgt := 35) hx hb dX10_areCells_31 (by decide) ?_
      cases ho
      exact e_i B hx hb hr hlocks rfl rfl dX10_areCells_35
  · have ho := in_ c2 ho
    refine lv_iload_n hx hb dX10_areCells_8 rfl (lv_at hl 2 rfl) ?_
    obtain ⟨q5, hq5, ho⟩ := bnd_ ho
    refine k_iS (As := [.int a1]) (rest := [.ref (G.2.2 198)]) S F B (c_X10_isCell l G σ _ a1 hq5) (va_cwS 1 hts gX10_areCells_X10_isCell rfl rfl rfl (by decide +kernel) ⟨Nat.le_of_ble_eq_true rfl, Nat.le_of_ble_eq_true rfl⟩) rfl hl.1 rfl (Nat.le_of_ble_eq_true rfl) dX10_areCells_9 ⟨Nat.le_of_ble_eq_true rfl, Nat.le_of_ble_eq_true rfl⟩ (fun H locs B => ?_)
    refine lv_if_eq (tgt := 19) hx hb dX10_areCells_12 (by decide) (fun c6 => ?_) (fun c6 => ?_)
    · have ho := ip_ c6 ho
      refine lv_iconst (v := 1) hx hb dX10_areCells_19 (by decide) ?_
      refine r_put (ci := 14) (C := RX10) (T := TX10) (N := 21) (ty := .int) S F B tyX10 tyX10_ok nmX10 (kq (by decide) : kd 198 = 21 ∧ 198 < NN) (fun _ => rfl) rfl hiX10 12 (by decide) (by decide +kernel) rfl rfl rfl rfl (fun _ => Nat.le_of_ble_eq_true rfl) (fun _ => rfl) dX10_areCells_20 (fun H locs B => ?_)
      obtain ⟨σ7, eσ7, ho⟩ := lt_ ho
      rw [← eσ7] at B
      refine lv_aload_n hx hb dX10_areCells_23 rfl (lv_at hl 0 rfl) ?_
      refine r_get (ci := 14) (C := RX10) (T := TX10) (N := 21) S F B (kq (by decide) : kd 198 = 21 ∧ 198 < NN) rfl rfl hiX10 12 (by decide) (by decide +kernel) rfl dX10_areCells_24 ?_
      refine lv_if_ne (tgt := 34) hx hb dX10_areCells_27 (by decide) (fun c8 => ?_) (fun c8 => ?_)
      · have ho := in_ c8 ho
        refine lv_iconst (v := 0) hx hb dX10_areCells_34 (by decide) ?_
        cases ho
        exact e_i B hx hb hr hlocks rfl rfl dX10_areCells_35
      · have ho := ip_ c8 ho
        refine lv_iconst (v := 1) hx hb dX10_areCells_30 (by decide) ?_
        refine lv_goto (tgt := 35) hx hb dX10_areCells_31 (by decide) ?_
        cases ho
        exact e_i B hx hb hr hlocks rfl rfl dX10_areCells_35
    · have ho := in_ c6 ho
      refine lv_iconst (v := 0) hx hb dX10_areCells_15 (by decide) ?_
      refine lv_goto (tgt := 20) hx hb dX10_areCells_16 (by decide) ?_
      refine r_put (ci := 14) (C := RX10) (T := TX10) (N := 21) (ty := .int) S F B tyX10 tyX10_ok nmX10 (kq (by decide) : kd 198 = 21 ∧ 198 < NN) (fun _ => rfl) rfl hiX10 12 (by decide) (by decide +kernel) rfl rfl rfl rfl (fun _ => Nat.le_of_ble_eq_true rfl) (fun _ => rfl) dX10_areCells_20 (fun H locs B => ?_)
      obtain ⟨σ9, eσ9, ho⟩ := lt_ ho
      rw [← eσ9] at B
      refine lv_aload_n hx hb dX10_areCells_23 rfl (lv_at hl 0 rfl) ?_
      refine r_get (ci := 14) (C := RX10) (T := TX10) (N := 21) S F B (kq (by decide) : kd 198 = 21 ∧ 198 < NN) rfl rfl hiX10 12 (by decide) (by decide +kernel) rfl dX10_areCells_24 ?_
      refine lv_if_ne (tgt := 34) hx hb dX10_areCells_27 (by decide) (fun c10 => ?_) (fun c10 => ?_)
      · have ho := in_ c10 ho
        refine lv_iconst (v := 0) hx hb dX10_areCells_34 (by decide) ?_
        cases ho
        exact e_i B hx hb hr hlocks rfl rfl dX10_areCells_35
      · have ho := ip_ c10 ho
        refine lv_iconst (v := 1) hx hb dX10_areCells_30 (by decide) ?_
        refine lv_goto (tgt := 35) hx hb dX10_areCells_31 (by decide) ?_
        cases ho
        exact e_i B hx hb hr hlocks rfl rfl dX10_areCells_35

set_option maxHeartbeats 4000000 in
set_option maxRecDepth 100000 in
theorem c_X10_leaves (l : Launch) (G : Gd) (σ : Mm) (sz : Nat) (a0 : Int32) (a1 : Int32) {out : Int32 × Mm} (ho : f_X10_leaves a0 a1 σ = some out) : Met l yX10_leaves wsX10_leaves { frames := 3, cells := 0, slots := 0, locals := 67 } (va_Pc [.ref (G.2.2 198), .int a0, .int a1] (PW G σ sz)) (Qi G sz out.1 out.2) 0 0 (AA G sz) := by
  refine Met.ofW (cc := cX10_leaves) (maxL := 4) (ret := (some .int)) (by decide) rfl ?_
  intro p e s m args below meth c s₁ B0 hml hv
  obtain ⟨rfl, hpw⟩ := hv
  have hsz := hpw.1
  subst hsz
  obtain ⟨F, B⟩ := hpw.to
  have hx := B0.exec
  have hb := B0.bytes
  have hr := B0.returns
  have hts := atoms_spec (ws := wsX10_leaves) B0.pre
  have hown : s.vm.findClass RX10 = some m.cls := findClass_of_methodNamed B0.named
  have hlocks := B0.notSynchronized
  have S : CallFix p m c cX10_leaves 4 s _ wsX10_leaves RX10 := ⟨hx, hb, hml, hown, hts⟩
  have hiX10 : ∀ w ∈ u_ws RX10 TX10 21, w ∈ wsX10_leaves := by decide +kernel
  have hl := lv_entry [.ref (G.2.2 198), .int a0, .int a1] (n := 4) (Nat.le_of_ble_eq_true rfl)
  rw [lg_entry_eq]
  generalize (lg_sl [.ref (G.2.2 198), .int a0, .int a1] ++ List.replicate (4 - (lg_sl [.ref (G.2.2 198), .int a0, .int a1]).length) Slot.unset).toArray = ls at hl ⊢
  have hl : lv_has ls 4 [(0, .ref (G.2.2 198)), (1, .int a0), (2, .int a1)] := hl
  unfold f_X10_leaves at ho
  refine lv_aload_n hx hb dX10_leaves_0 rfl (lv_at hl 0 rfl) ?_
  refine lv_iload_n hx hb dX10_leaves_1 rfl (lv_at hl 1 rfl) ?_
  refine lv_iload_n hx hb dX10_leaves_2 rfl (lv_at hl 2 rfl) ?_
  obtain ⟨q1, σ2, hq1, ho⟩ := bnm_ ho
  refine k_iV (As := [.int a0, .int a1]) (rest := []) S F B (c_X10_areCells l G σ _ a0 a1 hq1) (kq (by decide) : kd 198 = 21 ∧ 198 < NN) rfl rfl (cwV 2 hts gX10_leaves_X10_areCells rfl rfl rfl (by decide +kernel) ⟨Nat.le_of_ble_eq_true rfl, Nat.le_of_ble_eq_true rfl⟩) rfl hl.1 rfl (Nat.le_of_ble_eq_true rfl) dX10_leaves_3 ⟨Nat.le_of_ble_eq_true rfl, Nat.le_of_ble_eq_true rfl⟩ (fun H locs B => ?_)
  refine lv_if_ne (tgt := 11) hx hb dX10_leaves_6 (by decide) (fun c3 => ?_) (fun c3 => ?_)
  · have ho := in_ c3 ho
    refine lv_iload_n hx hb dX10_leaves_11 rfl (lv_at hl 1 rfl) ?_
    refine lv_iload_n hx hb dX10_leaves_12 rfl (lv_at hl 2 rfl) ?_
    obtain ⟨q4, hq4, ho⟩ := bnd_ ho
    refine k_iS (As := [.int a0, .int a1]) (rest := []) S F B (c_X10_hedgeAt l G σ2 _ a0 a1 hq4) (va_cwS 2 hts gX10_leaves_X10_hedgeAt rfl rfl rfl (by decide +kernel) ⟨Nat.le_of_ble_eq_true rfl, Nat.le_of_ble_eq_true rfl⟩) rfl hl.1 rfl (Nat.le_of_ble_eq_true rfl) dX10_leaves_13 ⟨Nat.le_of_ble_eq_true rfl, Nat.le_of_ble_eq_true rfl⟩ (fun H locs B => ?_)
    refine lv_istore_n (lv' := [(3, .int q4), (0, .ref (G.2.2 198)), (1, .int a0), (2, .int a1)]) hx hb dX10_leaves_16 rfl hl (by decide) rfl (fun ls hl => ?_)
    refine lv_iload_n hx hb dX10_leaves_17 rfl (lv_at hl 0 rfl) ?_
    refine lv_iconst (v := (-1)) hx hb dX10_leaves_18 (by decide) ?_
    refine lv_icmp_ne (tgt := 30) hx hb dX10_leaves_19 (by decide) (fun c5 => ?_) (fun c5 => ?_)
    · have ho := in_ c5 ho
      refine lv_aload_n hx hb dX10_leaves_30 rfl (lv_at hl 1 rfl) ?_
      refine r_get (ci := 14) (C := RX10) (T := TX10) (N := 21) S F B (kq (by decide) : kd 198 = 21 ∧ 198 < NN) rfl rfl hiX10 0 (by decide) (by decide +kernel) rfl dX10_leaves_31 ?_
      refine lv_iload_n hx hb dX10_leaves_34 rfl (lv_at hl 0 rfl) ?_
      obtain ⟨hi, ho⟩ := gd_ ho
      refine r_iald S F B (kq (by decide) : kd 199 = 22 ∧ 199 < NN) rfl hi dX10_leaves_35 ?_
      cases ho
      exact e_i B hx hb hr hlocks rfl rfl dX10_leaves_36
    · have ho := ip_ c5 ho
      refine lv_aload_n hx hb dX10_leaves_22 rfl (lv_at hl 1 rfl) ?_
      refine lv_iconst (v := 2) hx hb dX10_leaves_23 (by decide) ?_
      obtain ⟨q6, σ7, hq6, ho⟩ := bnm_ ho
      refine k_iV (As := [.int 2]) (rest := []) S F B (c_X10_throwing l G σ2 _ 2 hq6) (kq (by decide) : kd 198 = 21 ∧ 198 < NN) rfl rfl (cwV 1 hts gX10_leaves_X10_throwing rfl rfl rfl (by decide +kernel) ⟨Nat.le_of_ble_eq_true rfl, Nat.le_of_ble_eq_true rfl⟩) rfl hl.1 rfl (Nat.le_of_ble_eq_true rfl) dX10_leaves_24 ⟨Nat.le_of_ble_eq_true rfl, Nat.le_of_ble_eq_true rfl⟩ (fun H locs B => ?_)
      refine lv_goto (tgt := 36) hx hb dX10_leaves_27 (by decide) ?_
      cases ho
      exact e_i B hx hb hr hlocks rfl rfl dX10_leaves_36
  · have ho := ip_ c3 ho
    refine lv_iconst (v := (-1)) hx hb dX10_leaves_9 (by decide) ?_
    cases ho
    exact e_i B hx hb hr hlocks rfl rfl dX10_leaves_10

set_option maxHeartbeats 4000000 in
set_option maxRecDepth 100000 in
theorem c_X10_isGap (l : Launch) (G : Gd) (σ : Mm) (sz : Nat) (a0 : Int32) (a1 : Int32) {out : Int32 × Mm} (ho : f_X10_isGap a0 a1 σ = some out) : Met l yX10_isGap wsX10_isGap { frames := 3, cells := 0, slots := 0, locals := 67 } (va_Pc [.ref (G.2.2 198), .int a0, .int a1] (PW G σ sz)) (Qi G sz out.1 out.2) 0 0 (AA G sz) := by
  refine Met.ofW (cc := cX10_isGap) (maxL := 3) (ret := (some .boolean)) (by decide) rfl ?_
  intro p e s m args below meth c s₁ B0 hml hv
  obtain ⟨rfl, hpw⟩ := hv
  have hsz := hpw.1
  subst hsz
  obtain ⟨F, B⟩ := hpw.to
  have hx := B0.exec
  have hb := B0.bytes
  have hr := B0.returns
  have hts := atoms_spec (ws := wsX10_isGap) B0.pre
  have hown : s.vm.findClass RX10 = some m.cls := findClass_of_methodNamed B0.named
  have hlocks := B0.notSynchronized
  have S : CallFix p m c cX10_isGap 3 s _ wsX10_isGap RX10 := ⟨hx, hb, hml, hown, hts⟩
  have hl := lv_entry [.ref (G.2.2 198), .int a0, .int a1] (n := 3) (Nat.le_of_ble_eq_true rfl)
  rw [lg_entry_eq]
  generalize (lg_sl [.ref (G.2.2 198), .int a0, .int a1] ++ List.replicate (3 - (lg_sl [.ref (G.2.2 198), .int a0, .int a1]).length) Slot.unset).toArray = ls at hl ⊢
  have hl : lv_has ls 3 [(0, .ref (G.2.2 198)), (1, .int a0), (2, .int a1)] := hl
  unfold f_X10_isGap at ho
  refine lv_aload_n hx hb dX10_isGap_0 rfl (lv_at hl 0 rfl) ?_
  refine lv_iload_n hx hb dX10_isGap_1 rfl (lv_at hl 1 rfl) ?_
  refine lv_iload_n hx hb dX10_isGap_2 rfl (lv_at hl 2 rfl) ?_
  obtain ⟨q1, σ2, hq1, ho⟩ := bnm_ ho
  refine k_iV (As := [.int a0, .int a1]) (rest := []) S F B (c_X10_areCells l G σ _ a0 a1 hq1) (kq (by decide) : kd 198 = 21 ∧ 198 < NN) rfl rfl (cwV 2 hts gX10_isGap_X10_areCells rfl rfl rfl (by decide +kernel) ⟨Nat.le_of_ble_eq_true rfl, Nat.le_of_ble_eq_true rfl⟩) rfl hl.1 rfl (Nat.le_of_ble_eq_true rfl) dX10_isGap_3 ⟨Nat.le_of_ble_eq_true rfl, Nat.le_of_ble_eq_true rfl⟩ (fun H locs B => ?_)
  refine lv_if_eq (tgt := 25) hx hb dX10_isGap_6 (by decide) (fun c3 => ?_) (fun c3 => ?_)
  · have ho := ip_ c3 ho
    refine lv_iconst (v := 0) hx hb dX10_isGap_25 (by decide) ?_
    cases ho
    exact e_i B hx hb hr hlocks rfl rfl dX10_isGap_26
  · have ho := in_ c3 ho
    refine lv_aload_n hx hb dX10_isGap_9 rfl (lv_at hl 0 rfl) ?_
    refine lv_iload_n hx hb dX10_isGap_10 rfl (lv_at hl 1 rfl) ?_
    refine lv_iload_n hx hb dX10_isGap_11 rfl (lv_at hl 2 rfl) ?_
    obtain ⟨q4, hq4, ho⟩ := bnd_ ho
    refine k_iS (As := [.int a0, .int a1]) (rest := [.ref (G.2.2 198)]) S F B (c_X10_hedgeAt l G σ2 _ a0 a1 hq4) (va_cwS 2 hts gX10_isGap_X10_hedgeAt rfl rfl rfl (by decide +kernel) ⟨Nat.le_of_ble_eq_true rfl, Nat.le_of_ble_eq_true rfl⟩) rfl hl.1 rfl (Nat.le_of_ble_eq_true rfl) dX10_isGap_12 ⟨Nat.le_of_ble_eq_true rfl, Nat.le_of_ble_eq_true rfl⟩ (fun H locs B => ?_)
    obtain ⟨q5, hq5, ho⟩ := bnd_ ho
    refine k_iV (As := [.int q4]) (rest := []) S F B (c_X10_isGapAt l G σ2 _ q4 hq5) (kq (by decide) : kd 198 = 21 ∧ 198 < NN) rfl rfl (cwV 1 hts gX10_isGap_X10_isGapAt rfl rfl rfl (by decide +kernel) ⟨Nat.le_of_ble_eq_true rfl, Nat.le_of_ble_eq_true rfl⟩) rfl hl.1 rfl (Nat.le_of_ble_eq_true rfl) dX10_isGap_15 ⟨Nat.le_of_ble_eq_true rfl, Nat.le_of_ble_eq_true rfl⟩ (fun H locs B => ?_)
    refine lv_if_eq (tgt := 25) hx hb dX10_isGap_18 (by decide) (fun c6 => ?_) (fun c6 => ?_)
    · have ho := ip_ c6 ho
      refine lv_iconst (v := 0) hx hb dX10_isGap_25 (by decide) ?_
      cases ho
      exact e_i B hx hb hr hlocks rfl rfl dX10_isGap_26
    · have ho := in_ c6 ho
      refine lv_iconst (v := 1) hx hb dX10_isGap_21 (by decide) ?_
      refine lv_goto (tgt := 26) hx hb dX10_isGap_22 (by decide) ?_
      cases ho
      exact e_i B hx hb hr hlocks rfl rfl dX10_isGap_26

set_option maxHeartbeats 4000000 in
set_option maxRecDepth 100000 in
theorem c_X10_hours (l : Launch) (G : Gd) (σ : Mm) (sz : Nat) (a0 : Int32) (a1 : Int32) {out : Int32 × Mm} (ho : f_X10_hours a0 a1 σ = some out) : Met l yX10_hours wsX10_hours { frames := 4, cells := 0, slots := 0, locals := 105 } (va_Pc [.ref (G.2.2 198), .int a0, .int a1] (PW G σ sz)) (Qi G sz out.1 out.2) 0 0 (AA G sz) := by
  refine Met.ofW (cc := cX10_hours) (maxL := 4) (ret := (some .int)) (by decide) rfl ?_
  intro p e s m args below meth c s₁ B0 hml hv
  obtain ⟨rfl, hpw⟩ := hv
  have hsz := hpw.1
  subst hsz
  obtain ⟨F, B⟩ := hpw.to
  have hx := B0.exec
  have hb := B0.bytes
  have hr := B0.returns
  have hts := atoms_spec (ws := wsX10_hours) B0.pre
  have hown : s.vm.findClass RX10 = some m.cls := findClass_of_methodNamed B0.named
  have hlocks := B0.notSynchronized
  have S : CallFix p m c cX10_hours 4 s _ wsX10_hours RX10 := ⟨hx, hb, hml, hown, hts⟩
  have hl := lv_entry [.ref (G.2.2 198), .int a0, .int a1] (n := 4) (Nat.le_of_ble_eq_true rfl)
  rw [lg_entry_eq]
  generalize (lg_sl [.ref (G.2.2 198), .int a0, .int a1] ++ List.replicate (4 - (lg_sl [.ref (G.2.2 198), .int a0, .int a1]).length) Slot.unset).toArray = ls at hl ⊢
  have hl : lv_has ls 4 [(0, .ref (G.2.2 198)), (1, .int a0), (2, .int a1)] := hl
  unfold f_X10_hours at ho
  refine lv_aload_n hx hb dX10_hours_0 rfl (lv_at hl 0 rfl) ?_
  refine lv_iload_n hx hb dX10_hours_1 rfl (lv_at hl 1 rfl) ?_
  refine lv_iload_n hx hb dX10_hours_2 rfl (lv_at hl 2 rfl) ?_
  obtain ⟨q1, σ2, hq1, ho⟩ := bnm_ ho
  refine k_iV (As := [.int a0, .int a1]) (rest := []) S F B (c_X10_areCells l G σ _ a0 a1 hq1) (kq (by decide) : kd 198 = 21 ∧ 198 < NN) rfl rfl (cwV 2 hts gX10_hours_X10_areCells rfl rfl rfl (by decide +kernel) ⟨Nat.le_of_ble_eq_true rfl, Nat.le_of_ble_eq_true rfl⟩) rfl hl.1 rfl (Nat.le_of_ble_eq_true rfl) dX10_hours_3 ⟨Nat.le_of_ble_eq_true rfl, Nat.le_of_ble_eq_true rfl⟩ (fun H locs B => ?_)
  refine lv_if_ne (tgt := 11) hx hb dX10_hours_6 (by decide) (fun c3 => ?_) (fun c3 => ?_)
  · have ho := in_ c3 ho
    refine lv_aload_n hx hb dX10_hours_11 rfl (lv_at hl 0 rfl) ?_
    refine lv_iload_n hx hb dX10_hours_12 rfl (lv_at hl 1 rfl) ?_
    refine lv_iload_n hx hb dX10_hours_13 rfl (lv_at hl 2 rfl) ?_
    obtain ⟨q4, σ5, hq4, ho⟩ := bnm_ ho
    refine k_iV (As := [.int a0, .int a1]) (rest := []) S F B (c_X10_hoursOf l G σ2 _ a0 a1 hq4) (kq (by decide) : kd 198 = 21 ∧ 198 < NN) rfl rfl (cwV 2 hts gX10_hours_X10_hoursOf rfl rfl rfl (by decide +kernel) ⟨Nat.le_of_ble_eq_true rfl, Nat.le_of_ble_eq_true rfl⟩) rfl hl.1 rfl (Nat.le_of_ble_eq_true rfl) dX10_hours_14 ⟨Nat.le_of_ble_eq_true rfl, Nat.le_of_ble_eq_true rfl⟩ (fun H locs B => ?_)
    refine lv_istore_n (lv' := [(3, .int q4), (0, .ref (G.2.2 198)), (1, .int a0), (2, .int a1)]) hx hb dX10_hours_17 rfl hl (by decide) rfl (fun ls hl => ?_)
    refine lv_iload_n hx hb dX10_hours_18 rfl (lv_at hl 0 rfl) ?_
    refine lv_iconst (v := (-1)) hx hb dX10_hours_19 (by decide) ?_
    refine lv_icmp_ne (tgt := 31) hx hb dX10_hours_20 (by decide) (fun c6 => ?_) (fun c6 => ?_)
    · have ho := in_ c6 ho
      refine lv_iload_n hx hb dX10_hours_31 rfl (lv_at hl 0 rfl) ?_
      cases ho
      exact e_i B hx hb hr hlocks rfl rfl dX10_hours_32
    · have ho := ip_ c6 ho
      refine lv_aload_n hx hb dX10_hours_23 rfl (lv_at hl 1 rfl) ?_
      refine lv_iconst (v := 2) hx hb dX10_hours_24 (by decide) ?_
      obtain ⟨q7, σ8, hq7, ho⟩ := bnm_ ho
      refine k_iV (As := [.int 2]) (rest := []) S F B (c_X10_throwing l G σ5 _ 2 hq7) (kq (by decide) : kd 198 = 21 ∧ 198 < NN) rfl rfl (cwV 1 hts gX10_hours_X10_throwing rfl rfl rfl (by decide +kernel) ⟨Nat.le_of_ble_eq_true rfl, Nat.le_of_ble_eq_true rfl⟩) rfl hl.1 rfl (Nat.le_of_ble_eq_true rfl) dX10_hours_25 ⟨Nat.le_of_ble_eq_true rfl, Nat.le_of_ble_eq_true rfl⟩ (fun H locs B => ?_)
      refine lv_goto (tgt := 32) hx hb dX10_hours_28 (by decide) ?_
      cases ho
      exact e_i B hx hb hr hlocks rfl rfl dX10_hours_32
  · have ho := ip_ c3 ho
    refine lv_iconst (v := (-1)) hx hb dX10_hours_9 (by decide) ?_
    cases ho
    exact e_i B hx hb hr hlocks rfl rfl dX10_hours_10

set_option maxHeartbeats 4000000 in
set_option maxRecDepth 100000 in
theorem c_X10_hoursAgain (l : Launch) (G : Gd) (σ : Mm) (sz : Nat) (a0 : Int32) (a1 : Int32) {out : Int32 × Mm} (ho : f_X10_hoursAgain a0 a1 σ = some out) : Met l yX10_hoursAgain wsX10_hoursAgain { frames := 5, cells := 0, slots := 0, locals := 128 } (va_Pc [.ref (G.2.2 198), .int a0, .int a1] (PW G σ sz)) (Qi G sz out.1 out.2) 0 0 (AA G sz) := by
  refine Met.ofW (cc := cX10_hoursAgain) (maxL := 3) (ret := (some .int)) (by decide) rfl ?_
  intro p e s m args below meth c s₁ B0 hml hv
  obtain ⟨rfl, hpw⟩ := hv
  have hsz := hpw.1
  subst hsz
  obtain ⟨F, B⟩ := hpw.to
  have hx := B0.exec
  have hb := B0.bytes
  have hr := B0.returns
  have hts := atoms_spec (ws := wsX10_hoursAgain) B0.pre
  have hown : s.vm.findClass RX10 = some m.cls := findClass_of_methodNamed B0.named
  have hlocks := B0.notSynchronized
  have S : CallFix p m c cX10_hoursAgain 3 s _ wsX10_hoursAgain RX10 := ⟨hx, hb, hml, hown, hts⟩
  have hl := lv_entry [.ref (G.2.2 198), .int a0, .int a1] (n := 3) (Nat.le_of_ble_eq_true rfl)
  rw [lg_entry_eq]
  generalize (lg_sl [.ref (G.2.2 198), .int a0, .int a1] ++ List.replicate (3 - (lg_sl [.ref (G.2.2 198), .int a0, .int a1]).length) Slot.unset).toArray = ls at hl ⊢
  have hl : lv_has ls 3 [(0, .ref (G.2.2 198)), (1, .int a0), (2, .int a1)] := hl
  unfold f_X10_hoursAgain at ho
  refine lv_aload_n hx hb dX10_hoursAgain_0 rfl (lv_at hl 0 rfl) ?_
  refine lv_iload_n hx hb dX10_hoursAgain_1 rfl (lv_at hl 1 rfl) ?_
  refine lv_iload_n hx hb dX10_hoursAgain_2 rfl (lv_at hl 2 rfl) ?_
  obtain ⟨q1, σ2, hq1, ho⟩ := bnm_ ho
  refine k_iV (As := [.int a0, .int a1]) (rest := []) S F B (c_X10_hours l G σ _ a0 a1 hq1) (kq (by decide) : kd 198 = 21 ∧ 198 < NN) rfl rfl (cwV 2 hts gX10_hoursAgain_X10_hours rfl rfl rfl (by decide +kernel) ⟨Nat.le_of_ble_eq_true rfl, Nat.le_of_ble_eq_true rfl⟩) rfl hl.1 rfl (Nat.le_of_ble_eq_true rfl) dX10_hoursAgain_3 ⟨Nat.le_of_ble_eq_true rfl, Nat.le_of_ble_eq_true rfl⟩ (fun H locs B => ?_)
  cases ho
  exact e_i B hx hb hr hlocks rfl rfl dX10_hoursAgain_6

set_option maxHeartbeats 4000000 in
set_option maxRecDepth 100000 in
theorem c_X10_next (l : Launch) (G : Gd) (σ : Mm) (sz : Nat) (a0 : Int32) {out : Int32 × Mm} (ho : f_X10_next a0 σ = some out) : Met l yX10_next wsX10_next { frames := 3, cells := 0, slots := 0, locals := 83 } (va_Pc [.ref (G.2.2 198), .int a0] (PW G σ sz)) (Qi G sz out.1 out.2) 0 0 (AA G sz) := by
  refine Met.ofW (cc := cX10_next) (maxL := 3) (ret := (some .int)) (by decide) rfl ?_
  intro p e s m args below meth c s₁ B0 hml hv
  obtain ⟨rfl, hpw⟩ := hv
  have hsz := hpw.1
  subst hsz
  obtain ⟨F, B⟩ := hpw.to
  have hx := B0.exec
  have hb := B0.bytes
  have hr := B0.returns
  have hts := atoms_spec (ws := wsX10_next) B0.pre
  have hown : s.vm.findClass RX10 = some m.cls := findClass_of_methodNamed B0.named
  have hlocks := B0.notSynchronized
  have S : CallFix p m c cX10_next 3 s _ wsX10_next RX10 := ⟨hx, hb, hml, hown, hts⟩
  have hiX10 : ∀ w ∈ u_ws RX10 TX10 21, w ∈ wsX10_next := by decide +kernel
  have hl := lv_entry [.ref (G.2.2 198), .int a0] (n := 3) (Nat.le_of_ble_eq_true rfl)
  rw [lg_entry_eq]
  generalize (lg_sl [.ref (G.2.2 198), .int a0] ++ List.replicate (3 - (lg_sl [.ref (G.2.2 198), .int a0]).length) Slot.unset).toArray = ls at hl ⊢
  have hl : lv_has ls 3 [(0, .ref (G.2.2 198)), (1, .int a0)] := hl
  unfold f_X10_next at ho
  skip
  refine lv_aload_n hx hb dX10_next_0 rfl (lv_at hl 0 rfl) ?_
  refine lv_iload_n hx hb dX10_next_1 rfl (lv_at hl 1 rfl) ?_
  refine lv_iload_n hx hb dX10_next_2 rfl (lv_at hl 1 rfl) ?_
  obtain ⟨q1, σ2, hq1, ho⟩ := bnm_ ho
  refine k_iV (As := [.int a0, .int a0]) (rest := []) S F B (c_X10_areCells l G σ _ a0 a0 hq1) (kq (by decide) : kd 198 = 21 ∧ 198 < NN) rfl rfl (cwV 2 hts gX10_next_X10_areCells rfl rfl rfl (by decide +kernel) ⟨Nat.le_of_ble_eq_true rfl, Nat.le_of_ble_eq_true rfl⟩) rfl hl.1 rfl (Nat.le_of_ble_eq_true rfl) dX10_next_3 ⟨Nat.le_of_ble_eq_true rfl, Nat.le_of_ble_eq_true rfl⟩ (fun H locs B => ?_)
  refine lv_if_ne (tgt := 11) hx hb dX10_next_6 (by decide) (fun c3 => ?_) (fun c3 => ?_)
  · have ho := in_ c3 ho
    refine lv_aload_n hx hb dX10_next_11 rfl (lv_at hl 0 rfl) ?_
    refine lv_bipush (v := 15) hx hb dX10_next_12 (by decide) ?_
    refine lv_iconst (v := 0) hx hb dX10_next_14 (by decide) ?_
    obtain ⟨σ5, hq4, ho⟩ := bnd_ ho
    refine k_vV (As := [.int 15, .int 0]) (rest := []) S F B (c_X10_laysWays l G σ2 _ 15 0 hq4) (kq (by decide) : kd 198 = 21 ∧ 198 < NN) rfl rfl (cwV 2 hts gX10_next_X10_laysWays rfl rfl rfl (by decide +kernel) ⟨Nat.le_of_ble_eq_true rfl, Nat.le_of_ble_eq_true rfl⟩) rfl hl.1 rfl (Nat.le_of_ble_eq_true rfl) dX10_next_15 ⟨Nat.le_of_ble_eq_true rfl, Nat.le_of_ble_eq_true rfl⟩ (fun H locs B => ?_)
    refine lv_iload_n hx hb dX10_next_18 rfl (lv_at hl 1 rfl) ?_
    refine lv_bipush (v := 15) hx hb dX10_next_19 (by decide) ?_
    refine lv_icmp_eq (tgt := 35) hx hb dX10_next_21 (by decide) (fun c6 => ?_) (fun c6 => ?_)
    · have ho := ip_ c6 ho
      refine lv_aload_n hx hb dX10_next_35 rfl (lv_at hl 0 rfl) ?_
      refine lv_iconst (v := 2) hx hb dX10_next_36 (by decide) ?_
      obtain ⟨q7, σ8, hq7, ho⟩ := bnm_ ho
      refine k_iV (As := [.int 2]) (rest := []) S F B (c_X10_throwing l G σ5 _ 2 hq7) (kq (by decide) : kd 198 = 21 ∧ 198 < NN) rfl rfl (cwV 1 hts gX10_next_X10_throwing rfl rfl rfl (by decide +kernel) ⟨Nat.le_of_ble_eq_true rfl, Nat.le_of_ble_eq_true rfl⟩) rfl hl.1 rfl (Nat.le_of_ble_eq_true rfl) dX10_next_37 ⟨Nat.le_of_ble_eq_true rfl, Nat.le_of_ble_eq_true rfl⟩ (fun H locs B => ?_)
      cases ho
      exact e_i B hx hb hr hlocks rfl rfl dX10_next_40
    · have ho := in_ c6 ho
      refine lv_aload_n hx hb dX10_next_24 rfl (lv_at hl 0 rfl) ?_
      refine r_get (ci := 14) (C := RX10) (T := TX10) (N := 21) S F B (kq (by decide) : kd 198 = 21 ∧ 198 < NN) rfl rfl hiX10 13 (by decide) (by decide +kernel) rfl dX10_next_25 ?_
      refine lv_iload_n hx hb dX10_next_28 rfl (lv_at hl 1 rfl) ?_
      obtain ⟨hi, ho⟩ := gd_ ho
      refine r_iald S F B (kq (by decide) : kd 204 = 12 ∧ 204 < NN) rfl hi dX10_next_29 ?_
      refine lv_bipush (v := 99) hx hb dX10_next_30 (by decide) ?_
      refine lv_icmp_lt (tgt := 41) hx hb dX10_next_32 (by decide) (fun c9 => ?_) (fun c9 => ?_)
      · have ho := ip_ c9 ho
        refine lv_iconst (v := 0) hx hb dX10_next_41 (by decide) ?_
        refine lv_istore_n (lv' := [(2, .int 0), (0, .ref (G.2.2 198)), (1, .int a0)]) hx hb dX10_next_42 rfl hl (by decide) rfl (fun ls hl => ?_)
        have hloop43 : ∀ (n : Nat) (v12 : Int32) (H : Heap) (locs : List Loc) (ls : Array Slot), f_X10_next_l43  a0 σ5 n v12 = some out → Bd G σ5 s H locs → lv_has ls 3 [(2, .int v12), (0, .ref (G.2.2 198)), (1, .int a0)] → W p l e (headSpec wsX10_next { frames := 3, cells := 0, slots := 0, locals := 83 }).room s m #[.ref (G.2.2 198), .int a0] below meth c H locs 0 0 (MQ below (Qi G s.heap.size out.1 out.2) #[.ref (G.2.2 198), .int a0] s 0 0 (AA G s.heap.size)) (F0 m 43 ls []) := by
          intro n
          induction n with
          | zero => intro v12 H locs ls ho B hl; cases ho
          | succ n ih =>
            intro v12 H locs ls ho B hl
            refine lv_iload_n hx hb dX10_next_43 rfl (lv_at hl 2 rfl) ?_
            refine lv_iload_n hx hb dX10_next_44 rfl (lv_at hl 0 rfl) ?_
            obtain ⟨q13, hq13, ho⟩ := bnd_ ho
            refine k_iS (As := [.int a0, .int v12]) (rest := []) S F B (c_X10_hedgeAt l G σ5 _ a0 v12 hq13) (va_cwS 2 hts gX10_next_X10_hedgeAt rfl rfl rfl (by decide +kernel) ⟨Nat.le_of_ble_eq_true rfl, Nat.le_of_ble_eq_true rfl⟩) rfl hl.1 rfl (Nat.le_of_ble_eq_true rfl) dX10_next_45 ⟨Nat.le_of_ble_eq_true rfl, Nat.le_of_ble_eq_true rfl⟩ (fun H locs B => ?_)
            refine lv_iconst (v := (-1)) hx hb dX10_next_48 (by decide) ?_
            refine lv_icmp_eq (tgt := 81) hx hb dX10_next_49 (by decide) (fun c14 => ?_) (fun c14 => ?_)
            · have ho := ip_ c14 ho
              obtain ⟨x15, ex15, ho⟩ := lt_ ho
              refine lv_iinc (v := x15) (lv' := [(2, .int x15), (0, .ref (G.2.2 198)), (1, .int a0)]) hx hb dX10_next_81 hl (k := 0) rfl (by rw [ex15]; rfl) (by decide) rfl (fun ls hl => ?_)
              refine lv_goto (tgt := 43) hx hb dX10_next_84 (by decide) ?_
              exact ih _  _ _ _ ho B (lv_sub hl [0, 1, 2] rfl)
            · have ho := in_ c14 ho
              refine lv_aload_n hx hb dX10_next_52 rfl (lv_at hl 1 rfl) ?_
              refine lv_iload_n hx hb dX10_next_53 rfl (lv_at hl 2 rfl) ?_
              refine lv_iload_n hx hb dX10_next_54 rfl (lv_at hl 0 rfl) ?_
              obtain ⟨q16, hq16, ho⟩ := bnd_ ho
              refine k_iS (As := [.int a0, .int v12]) (rest := [.ref (G.2.2 198)]) S F B (c_X10_hedgeAt l G σ5 _ a0 v12 hq16) (va_cwS 2 hts gX10_next_X10_hedgeAt rfl rfl rfl (by decide +kernel) ⟨Nat.le_of_ble_eq_true rfl, Nat.le_of_ble_eq_true rfl⟩) rfl hl.1 rfl (Nat.le_of_ble_eq_true rfl) dX10_next_55 ⟨Nat.le_of_ble_eq_true rfl, Nat.le_of_ble_eq_true rfl⟩ (fun H locs B => ?_)
              obtain ⟨q17, hq17, ho⟩ := bnd_ ho
              refine k_iV (As := [.int q16]) (rest := []) S F B (c_X10_isGapAt l G σ5 _ q16 hq17) (kq (by decide) : kd 198 = 21 ∧ 198 < NN) rfl rfl (cwV 1 hts gX10_next_X10_isGapAt rfl rfl rfl (by decide +kernel) ⟨Nat.le_of_ble_eq_true rfl, Nat.le_of_ble_eq_true rfl⟩) rfl hl.1 rfl (Nat.le_of_ble_eq_true rfl) dX10_next_58 ⟨Nat.le_of_ble_eq_true rfl, Nat.le_of_ble_eq_true rfl⟩ (fun H locs B => ?_)
              refine lv_if_eq (tgt := 81) hx hb dX10_next_61 (by decide) (fun c18 => ?_) (fun c18 => ?_)
              · have ho := ip_ c18 ho
                obtain ⟨x19, ex19, ho⟩ := lt_ ho
                refine lv_iinc (v := x19) (lv' := [(2, .int x19), (0, .ref (G.2.2 198)), (1, .int a0)]) hx hb dX10_next_81 hl (k := 0) rfl (by rw [ex19]; rfl) (by decide) rfl (fun ls hl => ?_)
                refine lv_goto (tgt := 43) hx hb dX10_next_84 (by decide) ?_
                exact ih _  _ _ _ ho B (lv_sub hl [0, 1, 2] rfl)
              · have ho := in_ c18 ho
                refine lv_aload_n hx hb dX10_next_64 rfl (lv_at hl 1 rfl) ?_
                refine r_get (ci := 14) (C := RX10) (T := TX10) (N := 21) S F B (kq (by decide) : kd 198 = 21 ∧ 198 < NN) rfl rfl hiX10 13 (by decide) (by decide +kernel) rfl dX10_next_65 ?_
                refine lv_iload_n hx hb dX10_next_68 rfl (lv_at hl 0 rfl) ?_
                obtain ⟨hi, ho⟩ := gd_ ho
                refine r_iald S F B (kq (by decide) : kd 204 = 12 ∧ 204 < NN) rfl hi dX10_next_69 ?_
                refine lv_aload_n hx hb dX10_next_70 rfl (lv_at hl 1 rfl) ?_
                refine r_get (ci := 14) (C := RX10) (T := TX10) (N := 21) S F B (kq (by decide) : kd 198 = 21 ∧ 198 < NN) rfl rfl hiX10 13 (by decide) (by decide +kernel) rfl dX10_next_71 ?_
                refine lv_iload_n hx hb dX10_next_74 rfl (lv_at hl 2 rfl) ?_
                obtain ⟨hi, ho⟩ := gd_ ho
                refine r_iald S F B (kq (by decide) : kd 204 = 12 ∧ 204 < NN) rfl hi dX10_next_75 ?_
                refine lv_iconst (v := 1) hx hb dX10_next_76 (by decide) ?_
                refine lv_isub hx hb dX10_next_77 ?_
                refine lv_icmp_eq (tgt := 87) hx hb dX10_next_78 (by decide) (fun c20 => ?_) (fun c20 => ?_)
                · have ho := ip_ c20 ho
                  refine lv_iload_n hx hb dX10_next_87 rfl (lv_at hl 0 rfl) ?_
                  cases ho
                  exact e_i B hx hb hr hlocks rfl rfl dX10_next_88
                · have ho := in_ c20 ho
                  obtain ⟨x21, ex21, ho⟩ := lt_ ho
                  refine lv_iinc (v := x21) (lv' := [(2, .int x21), (0, .ref (G.2.2 198)), (1, .int a0)]) hx hb dX10_next_81 hl (k := 0) rfl (by rw [ex21]; rfl) (by decide) rfl (fun ls hl => ?_)
                  refine lv_goto (tgt := 43) hx hb dX10_next_84 (by decide) ?_
                  exact ih _  _ _ _ ho B (lv_sub hl [0, 1, 2] rfl)
        exact hloop43 20 _  _ _ _ ho B hl
      · have ho := in_ c9 ho
        refine lv_aload_n hx hb dX10_next_35 rfl (lv_at hl 0 rfl) ?_
        refine lv_iconst (v := 2) hx hb dX10_next_36 (by decide) ?_
        obtain ⟨q22, σ23, hq22, ho⟩ := bnm_ ho
        refine k_iV (As := [.int 2]) (rest := []) S F B (c_X10_throwing l G σ5 _ 2 hq22) (kq (by decide) : kd 198 = 21 ∧ 198 < NN) rfl rfl (cwV 1 hts gX10_next_X10_throwing rfl rfl rfl (by decide +kernel) ⟨Nat.le_of_ble_eq_true rfl, Nat.le_of_ble_eq_true rfl⟩) rfl hl.1 rfl (Nat.le_of_ble_eq_true rfl) dX10_next_37 ⟨Nat.le_of_ble_eq_true rfl, Nat.le_of_ble_eq_true rfl⟩ (fun H locs B => ?_)
        cases ho
        exact e_i B hx hb hr hlocks rfl rfl dX10_next_40
  · have ho := ip_ c3 ho
    refine lv_iconst (v := (-1)) hx hb dX10_next_9 (by decide) ?_
    cases ho
    exact e_i B hx hb hr hlocks rfl rfl dX10_next_10

set_option maxHeartbeats 4000000 in
set_option maxRecDepth 100000 in
theorem c_X10_reached (l : Launch) (G : Gd) (σ : Mm) (sz : Nat) (a0 : Int32) {out : Int32 × Mm} (ho : f_X10_reached a0 σ = some out) : Met l yX10_reached wsX10_reached { frames := 4, cells := 0, slots := 0, locals := 106 } (va_Pc [.ref (G.2.2 198), .int a0] (PW G σ sz)) (Qi G sz out.1 out.2) 0 0 (AA G sz) := by
  refine Met.ofW (cc := cX10_reached) (maxL := 2) (ret := (some .int)) (by decide) rfl ?_
  intro p e s m args below meth c s₁ B0 hml hv
  obtain ⟨rfl, hpw⟩ := hv
  have hsz := hpw.1
  subst hsz
  obtain ⟨F, B⟩ := hpw.to
  have hx := B0.exec
  have hb := B0.bytes
  have hr := B0.returns
  have hts := atoms_spec (ws := wsX10_reached) B0.pre
  have hown : s.vm.findClass RX10 = some m.cls := findClass_of_methodNamed B0.named
  have hlocks := B0.notSynchronized
  have S : CallFix p m c cX10_reached 2 s _ wsX10_reached RX10 := ⟨hx, hb, hml, hown, hts⟩
  have hl := lv_entry [.ref (G.2.2 198), .int a0] (n := 2) (Nat.le_of_ble_eq_true rfl)
  rw [lg_entry_eq]
  generalize (lg_sl [.ref (G.2.2 198), .int a0] ++ List.replicate (2 - (lg_sl [.ref (G.2.2 198), .int a0]).length) Slot.unset).toArray = ls at hl ⊢
  have hl : lv_has ls 2 [(0, .ref (G.2.2 198)), (1, .int a0)] := hl
  unfold f_X10_reached at ho
  refine lv_aload_n hx hb dX10_reached_0 rfl (lv_at hl 0 rfl) ?_
  refine lv_iload_n hx hb dX10_reached_1 rfl (lv_at hl 1 rfl) ?_
  refine lv_iload_n hx hb dX10_reached_2 rfl (lv_at hl 1 rfl) ?_
  obtain ⟨q1, σ2, hq1, ho⟩ := bnm_ ho
  refine k_iV (As := [.int a0, .int a0]) (rest := []) S F B (c_X10_areCells l G σ _ a0 a0 hq1) (kq (by decide) : kd 198 = 21 ∧ 198 < NN) rfl rfl (cwV 2 hts gX10_reached_X10_areCells rfl rfl rfl (by decide +kernel) ⟨Nat.le_of_ble_eq_true rfl, Nat.le_of_ble_eq_true rfl⟩) rfl hl.1 rfl (Nat.le_of_ble_eq_true rfl) dX10_reached_3 ⟨Nat.le_of_ble_eq_true rfl, Nat.le_of_ble_eq_true rfl⟩ (fun H locs B => ?_)
  refine lv_if_eq (tgt := 17) hx hb dX10_reached_6 (by decide) (fun c3 => ?_) (fun c3 => ?_)
  · have ho := ip_ c3 ho
    refine lv_iconst (v := (-1)) hx hb dX10_reached_17 (by decide) ?_
    cases ho
    exact e_i B hx hb hr hlocks rfl rfl dX10_reached_18
  · have ho := in_ c3 ho
    refine lv_aload_n hx hb dX10_reached_9 rfl (lv_at hl 0 rfl) ?_
    refine lv_iload_n hx hb dX10_reached_10 rfl (lv_at hl 1 rfl) ?_
    obtain ⟨q4, σ5, hq4, ho⟩ := bnm_ ho
    refine k_iV (As := [.int a0]) (rest := []) S F B (c_X10_reachedFrom l G σ2 _ a0 hq4) (kq (by decide) : kd 198 = 21 ∧ 198 < NN) rfl rfl (cwV 1 hts gX10_reached_X10_reachedFrom rfl rfl rfl (by decide +kernel) ⟨Nat.le_of_ble_eq_true rfl, Nat.le_of_ble_eq_true rfl⟩) rfl hl.1 rfl (Nat.le_of_ble_eq_true rfl) dX10_reached_11 ⟨Nat.le_of_ble_eq_true rfl, Nat.le_of_ble_eq_true rfl⟩ (fun H locs B => ?_)
    refine lv_goto (tgt := 18) hx hb dX10_reached_14 (by decide) ?_
    cases ho
    exact e_i B hx hb hr hlocks rfl rfl dX10_reached_18

set_option maxHeartbeats 4000000 in
set_option maxRecDepth 100000 in
theorem c_X10_trims (l : Launch) (G : Gd) (σ : Mm) (sz : Nat) (a0 : Int32) {out : Int32 × Mm} (ho : f_X10_trims a0 σ = some out) : Met l yX10_trims wsX10_trims { frames := 3, cells := 0, slots := 0, locals := 83 } (va_Pc [.ref (G.2.2 198), .int a0] (PW G σ sz)) (Qi G sz out.1 out.2) 0 0 (AA G sz) := by
  refine Met.ofW (cc := cX10_trims) (maxL := 2) (ret := (some .int)) (by decide) rfl ?_
  intro p e s m args below meth c s₁ B0 hml hv
  obtain ⟨rfl, hpw⟩ := hv
  have hsz := hpw.1
  subst hsz
  obtain ⟨F, B⟩ := hpw.to
  have hx := B0.exec
  have hb := B0.bytes
  have hr := B0.returns
  have hts := atoms_spec (ws := wsX10_trims) B0.pre
  have hown : s.vm.findClass RX10 = some m.cls := findClass_of_methodNamed B0.named
  have hlocks := B0.notSynchronized
  have S : CallFix p m c cX10_trims 2 s _ wsX10_trims RX10 := ⟨hx, hb, hml, hown, hts⟩
  have hiX10 : ∀ w ∈ u_ws RX10 TX10 21, w ∈ wsX10_trims := by decide +kernel
  have hl := lv_entry [.ref (G.2.2 198), .int a0] (n := 2) (Nat.le_of_ble_eq_true rfl)
  rw [lg_entry_eq]
  generalize (lg_sl [.ref (G.2.2 198), .int a0] ++ List.replicate (2 - (lg_sl [.ref (G.2.2 198), .int a0]).length) Slot.unset).toArray = ls at hl ⊢
  have hl : lv_has ls 2 [(0, .ref (G.2.2 198)), (1, .int a0)] := hl
  unfold f_X10_trims at ho
  refine lv_aload_n hx hb dX10_trims_0 rfl (lv_at hl 0 rfl) ?_
  refine lv_iload_n hx hb dX10_trims_1 rfl (lv_at hl 1 rfl) ?_
  refine lv_iload_n hx hb dX10_trims_2 rfl (lv_at hl 1 rfl) ?_
  obtain ⟨q1, σ2, hq1, ho⟩ := bnm_ ho
  refine k_iV (As := [.int a0, .int a0]) (rest := []) S F B (c_X10_areCells l G σ _ a0 a0 hq1) (kq (by decide) : kd 198 = 21 ∧ 198 < NN) rfl rfl (cwV 2 hts gX10_trims_X10_areCells rfl rfl rfl (by decide +kernel) ⟨Nat.le_of_ble_eq_true rfl, Nat.le_of_ble_eq_true rfl⟩) rfl hl.1 rfl (Nat.le_of_ble_eq_true rfl) dX10_trims_3 ⟨Nat.le_of_ble_eq_true rfl, Nat.le_of_ble_eq_true rfl⟩ (fun H locs B => ?_)
  refine lv_if_ne (tgt := 11) hx hb dX10_trims_6 (by decide) (fun c3 => ?_) (fun c3 => ?_)
  · have ho := in_ c3 ho
    refine lv_aload_n hx hb dX10_trims_11 rfl (lv_at hl 0 rfl) ?_
    refine lv_iload_n hx hb dX10_trims_12 rfl (lv_at hl 1 rfl) ?_
    refine lv_iconst (v := 1) hx hb dX10_trims_13 (by decide) ?_
    obtain ⟨σ5, hq4, ho⟩ := bnd_ ho
    refine k_vV (As := [.int a0, .int 1]) (rest := []) S F B (c_X10_laysWays l G σ2 _ a0 1 hq4) (kq (by decide) : kd 198 = 21 ∧ 198 < NN) rfl rfl (cwV 2 hts gX10_trims_X10_laysWays rfl rfl rfl (by decide +kernel) ⟨Nat.le_of_ble_eq_true rfl, Nat.le_of_ble_eq_true rfl⟩) rfl hl.1 rfl (Nat.le_of_ble_eq_true rfl) dX10_trims_14 ⟨Nat.le_of_ble_eq_true rfl, Nat.le_of_ble_eq_true rfl⟩ (fun H locs B => ?_)
    refine lv_aload_n hx hb dX10_trims_17 rfl (lv_at hl 0 rfl) ?_
    refine r_get (ci := 14) (C := RX10) (T := TX10) (N := 21) S F B (kq (by decide) : kd 198 = 21 ∧ 198 < NN) rfl rfl hiX10 13 (by decide) (by decide +kernel) rfl dX10_trims_18 ?_
    refine lv_bipush (v := 15) hx hb dX10_trims_21 (by decide) ?_
    refine r_ialdc (j := 15) S F B (kq (by decide) : kd 204 = 12 ∧ 204 < NN) rfl (vpc (by decide)) (by decide) dX10_trims_23 ?_
    cases ho
    exact e_i B hx hb hr hlocks rfl rfl dX10_trims_24
  · have ho := ip_ c3 ho
    refine lv_iconst (v := (-1)) hx hb dX10_trims_9 (by decide) ?_
    cases ho
    exact e_i B hx hb hr hlocks rfl rfl dX10_trims_10

set_option maxHeartbeats 4000000 in
set_option maxRecDepth 100000 in
theorem c_X10_trimsAgain (l : Launch) (G : Gd) (σ : Mm) (sz : Nat) (a0 : Int32) {out : Int32 × Mm} (ho : f_X10_trimsAgain a0 σ = some out) : Met l yX10_trimsAgain wsX10_trimsAgain { frames := 4, cells := 0, slots := 0, locals := 104 } (va_Pc [.ref (G.2.2 198), .int a0] (PW G σ sz)) (Qi G sz out.1 out.2) 0 0 (AA G sz) := by
  refine Met.ofW (cc := cX10_trimsAgain) (maxL := 2) (ret := (some .int)) (by decide) rfl ?_
  intro p e s m args below meth c s₁ B0 hml hv
  obtain ⟨rfl, hpw⟩ := hv
  have hsz := hpw.1
  subst hsz
  obtain ⟨F, B⟩ := hpw.to
  have hx := B0.exec
  have hb := B0.bytes
  have hr := B0.returns
  have hts := atoms_spec (ws := wsX10_trimsAgain) B0.pre
  have hown : s.vm.findClass RX10 = some m.cls := findClass_of_methodNamed B0.named
  have hlocks := B0.notSynchronized
  have S : CallFix p m c cX10_trimsAgain 2 s _ wsX10_trimsAgain RX10 := ⟨hx, hb, hml, hown, hts⟩
  have hl := lv_entry [.ref (G.2.2 198), .int a0] (n := 2) (Nat.le_of_ble_eq_true rfl)
  rw [lg_entry_eq]
  generalize (lg_sl [.ref (G.2.2 198), .int a0] ++ List.replicate (2 - (lg_sl [.ref (G.2.2 198), .int a0]).length) Slot.unset).toArray = ls at hl ⊢
  have hl : lv_has ls 2 [(0, .ref (G.2.2 198)), (1, .int a0)] := hl
  unfold f_X10_trimsAgain at ho
  refine lv_aload_n hx hb dX10_trimsAgain_0 rfl (lv_at hl 0 rfl) ?_
  refine lv_iload_n hx hb dX10_trimsAgain_1 rfl (lv_at hl 1 rfl) ?_
  obtain ⟨q1, σ2, hq1, ho⟩ := bnm_ ho
  refine k_iV (As := [.int a0]) (rest := []) S F B (c_X10_trims l G σ _ a0 hq1) (kq (by decide) : kd 198 = 21 ∧ 198 < NN) rfl rfl (cwV 1 hts gX10_trimsAgain_X10_trims rfl rfl rfl (by decide +kernel) ⟨Nat.le_of_ble_eq_true rfl, Nat.le_of_ble_eq_true rfl⟩) rfl hl.1 rfl (Nat.le_of_ble_eq_true rfl) dX10_trimsAgain_2 ⟨Nat.le_of_ble_eq_true rfl, Nat.le_of_ble_eq_true rfl⟩ (fun H locs B => ?_)
  cases ho
  exact e_i B hx hb hr hlocks rfl rfl dX10_trimsAgain_5

set_option maxHeartbeats 4000000 in
set_option maxRecDepth 100000 in
theorem c_X10_isNeeded (l : Launch) (G : Gd) (σ : Mm) (sz : Nat) (a0 : Int32) (a1 : Int32) {out : Int32 × Mm} (ho : f_X10_isNeeded a0 a1 σ = some out) : Met l yX10_isNeeded wsX10_isNeeded { frames := 4, cells := 0, slots := 0, locals := 105 } (va_Pc [.ref (G.2.2 198), .int a0, .int a1] (PW G σ sz)) (Qi G sz out.1 out.2) 0 0 (AA G sz) := by
  refine Met.ofW (cc := cX10_isNeeded) (maxL := 6) (ret := (some .boolean)) (by decide) rfl ?_
  intro p e s m args below meth c s₁ B0 hml hv
  obtain ⟨rfl, hpw⟩ := hv
  have hsz := hpw.1
  subst hsz
  obtain ⟨F, B⟩ := hpw.to
  have hx := B0.exec
  have hb := B0.bytes
  have hr := B0.returns
  have hts := atoms_spec (ws := wsX10_isNeeded) B0.pre
  have hown : s.vm.findClass RX10 = some m.cls := findClass_of_methodNamed B0.named
  have hlocks := B0.notSynchronized
  have S : CallFix p m c cX10_isNeeded 6 s _ wsX10_isNeeded RX10 := ⟨hx, hb, hml, hown, hts⟩
  have hiX10 : ∀ w ∈ u_ws RX10 TX10 21, w ∈ wsX10_isNeeded := by decide +kernel
  have hl := lv_entry [.ref (G.2.2 198), .int a0, .int a1] (n := 6) (Nat.le_of_ble_eq_true rfl)
  rw [lg_entry_eq]
  generalize (lg_sl [.ref (G.2.2 198), .int a0, .int a1] ++ List.replicate (6 - (lg_sl [.ref (G.2.2 198), .int a0, .int a1]).length) Slot.unset).toArray = ls at hl ⊢
  have hl : lv_has ls 6 [(0, .ref (G.2.2 198)), (1, .int a0), (2, .int a1)] := hl
  unfold f_X10_isNeeded at ho
  refine lv_aload_n hx hb dX10_isNeeded_0 rfl (lv_at hl 0 rfl) ?_
  refine lv_iload_n hx hb dX10_isNeeded_1 rfl (lv_at hl 1 rfl) ?_
  refine lv_iload_n hx hb dX10_isNeeded_2 rfl (lv_at hl 2 rfl) ?_
  obtain ⟨q1, σ2, hq1, ho⟩ := bnm_ ho
  refine k_iV (As := [.int a0, .int a1]) (rest := []) S F B (c_X10_areCells l G σ _ a0 a1 hq1) (kq (by decide) : kd 198 = 21 ∧ 198 < NN) rfl rfl (cwV 2 hts gX10_isNeeded_X10_areCells rfl rfl rfl (by decide +kernel) ⟨Nat.le_of_ble_eq_true rfl, Nat.le_of_ble_eq_true rfl⟩) rfl hl.1 rfl (Nat.le_of_ble_eq_true rfl) dX10_isNeeded_3 ⟨Nat.le_of_ble_eq_true rfl, Nat.le_of_ble_eq_true rfl⟩ (fun H locs B => ?_)
  refine lv_if_ne (tgt := 11) hx hb dX10_isNeeded_6 (by decide) (fun c3 => ?_) (fun c3 => ?_)
  · have ho := in_ c3 ho
    refine lv_iload_n hx hb dX10_isNeeded_11 rfl (lv_at hl 1 rfl) ?_
    refine lv_iload_n hx hb dX10_isNeeded_12 rfl (lv_at hl 2 rfl) ?_
    obtain ⟨q4, hq4, ho⟩ := bnd_ ho
    refine k_iS (As := [.int a0, .int a1]) (rest := []) S F B (c_X10_hedgeAt l G σ2 _ a0 a1 hq4) (va_cwS 2 hts gX10_isNeeded_X10_hedgeAt rfl rfl rfl (by decide +kernel) ⟨Nat.le_of_ble_eq_true rfl, Nat.le_of_ble_eq_true rfl⟩) rfl hl.1 rfl (Nat.le_of_ble_eq_true rfl) dX10_isNeeded_13 ⟨Nat.le_of_ble_eq_true rfl, Nat.le_of_ble_eq_true rfl⟩ (fun H locs B => ?_)
    refine lv_istore_n (lv' := [(3, .int q4), (0, .ref (G.2.2 198)), (1, .int a0), (2, .int a1)]) hx hb dX10_isNeeded_16 rfl hl (by decide) rfl (fun ls hl => ?_)
    refine lv_iload_n hx hb dX10_isNeeded_17 rfl (lv_at hl 0 rfl) ?_
    refine lv_iconst (v := (-1)) hx hb dX10_isNeeded_18 (by decide) ?_
    refine lv_icmp_ne (tgt := 30) hx hb dX10_isNeeded_19 (by decide) (fun c5 => ?_) (fun c5 => ?_)
    · have ho := in_ c5 ho
      refine lv_aload_n hx hb dX10_isNeeded_30 rfl (lv_at hl 1 rfl) ?_
      refine lv_iload_n hx hb dX10_isNeeded_31 rfl (lv_at hl 0 rfl) ?_
      obtain ⟨q6, hq6, ho⟩ := bnd_ ho
      refine k_iV (As := [.int q4]) (rest := []) S F B (c_X10_isGapAt l G σ2 _ q4 hq6) (kq (by decide) : kd 198 = 21 ∧ 198 < NN) rfl rfl (cwV 1 hts gX10_isNeeded_X10_isGapAt rfl rfl rfl (by decide +kernel) ⟨Nat.le_of_ble_eq_true rfl, Nat.le_of_ble_eq_true rfl⟩) rfl hl.1 rfl (Nat.le_of_ble_eq_true rfl) dX10_isNeeded_32 ⟨Nat.le_of_ble_eq_true rfl, Nat.le_of_ble_eq_true rfl⟩ (fun H locs B => ?_)
      refine lv_if_eq (tgt := 49) hx hb dX10_isNeeded_35 (by decide) (fun c7 => ?_) (fun c7 => ?_)
      · have ho := ip_ c7 ho
        refine lv_iconst (v := 0) hx hb dX10_isNeeded_49 (by decide) ?_
        cases ho
        exact e_i B hx hb hr hlocks rfl rfl dX10_isNeeded_50
      · have ho := in_ c7 ho
        refine lv_aload_n hx hb dX10_isNeeded_38 rfl (lv_at hl 1 rfl) ?_
        refine lv_iconst (v := 0) hx hb dX10_isNeeded_39 (by decide) ?_
        refine lv_bipush (v := 15) hx hb dX10_isNeeded_40 (by decide) ?_
        obtain ⟨q8, σ9, hq8, ho⟩ := bnm_ ho
        refine k_iV (As := [.int 0, .int 15]) (rest := []) S F B (c_X10_hoursOf l G σ2 _ 0 15 hq8) (kq (by decide) : kd 198 = 21 ∧ 198 < NN) rfl rfl (cwV 2 hts gX10_isNeeded_X10_hoursOf rfl rfl rfl (by decide +kernel) ⟨Nat.le_of_ble_eq_true rfl, Nat.le_of_ble_eq_true rfl⟩) rfl hl.1 rfl (Nat.le_of_ble_eq_true rfl) dX10_isNeeded_42 ⟨Nat.le_of_ble_eq_true rfl, Nat.le_of_ble_eq_true rfl⟩ (fun H locs B => ?_)
        refine lv_iconst (v := (-1)) hx hb dX10_isNeeded_45 (by decide) ?_
        refine lv_icmp_ne (tgt := 51) hx hb dX10_isNeeded_46 (by decide) (fun c10 => ?_) (fun c10 => ?_)
        · have ho := in_ c10 ho
          refine lv_aload_n hx hb dX10_isNeeded_51 rfl (lv_at hl 1 rfl) ?_
          refine r_get (ci := 14) (C := RX10) (T := TX10) (N := 21) S F B (kq (by decide) : kd 198 = 21 ∧ 198 < NN) rfl rfl hiX10 0 (by decide) (by decide +kernel) rfl dX10_isNeeded_52 ?_
          refine lv_iload_n hx hb dX10_isNeeded_55 rfl (lv_at hl 0 rfl) ?_
          obtain ⟨hi, ho⟩ := gd_ ho
          refine r_iald S F B (kq (by decide) : kd 199 = 22 ∧ 199 < NN) rfl hi dX10_isNeeded_56 ?_
          obtain ⟨x11, ex11, ho⟩ := lt_ ho
          refine lv_nm ex11 ?_
          refine lv_istore (lv' := [(4, .int x11), (3, .int q4), (0, .ref (G.2.2 198)), (1, .int a0), (2, .int a1)]) hx hb dX10_isNeeded_57 hl (by decide) rfl (fun ls hl => ?_)
          refine lv_aload_n hx hb dX10_isNeeded_59 rfl (lv_at hl 2 rfl) ?_
          refine r_get (ci := 14) (C := RX10) (T := TX10) (N := 21) S F B (kq (by decide) : kd 198 = 21 ∧ 198 < NN) rfl rfl hiX10 0 (by decide) (by decide +kernel) rfl dX10_isNeeded_60 ?_
          refine lv_iload_n hx hb dX10_isNeeded_63 rfl (lv_at hl 1 rfl) ?_
          refine lv_iconst (v := 5) hx hb dX10_isNeeded_64 (by decide) ?_
          obtain ⟨hi, ho⟩ := gd_ ho
          refine r_iast S F B (kq (by decide) : kd 199 = 22 ∧ 199 < NN) (fun _ => rfl) hi dX10_isNeeded_65 (fun H locs B => ?_)
          obtain ⟨σ12, eσ12, ho⟩ := lt_ ho
          rw [← eσ12] at B
          refine lv_aload_n hx hb dX10_isNeeded_66 rfl (lv_at hl 2 rfl) ?_
          refine lv_iconst (v := 0) hx hb dX10_isNeeded_67 (by decide) ?_
          refine lv_bipush (v := 15) hx hb dX10_isNeeded_68 (by decide) ?_
          obtain ⟨q13, σ14, hq13, ho⟩ := bnm_ ho
          refine k_iV (As := [.int 0, .int 15]) (rest := []) S F B (c_X10_hoursOf l G σ12 _ 0 15 hq13) (kq (by decide) : kd 198 = 21 ∧ 198 < NN) rfl rfl (cwV 2 hts gX10_isNeeded_X10_hoursOf rfl rfl rfl (by decide +kernel) ⟨Nat.le_of_ble_eq_true rfl, Nat.le_of_ble_eq_true rfl⟩) rfl hl.1 rfl (Nat.le_of_ble_eq_true rfl) dX10_isNeeded_70 ⟨Nat.le_of_ble_eq_true rfl, Nat.le_of_ble_eq_true rfl⟩ (fun H locs B => ?_)
          refine lv_iconst (v := (-1)) hx hb dX10_isNeeded_73 (by decide) ?_
          refine lv_icmp_ne (tgt := 81) hx hb dX10_isNeeded_74 (by decide) (fun c15 => ?_) (fun c15 => ?_)
          · have ho := in_ c15 ho
            refine lv_iconst (v := 0) hx hb dX10_isNeeded_81 (by decide) ?_
            refine lv_istore (lv' := [(5, .int 0), (4, .int x11), (3, .int q4), (0, .ref (G.2.2 198)), (1, .int a0), (2, .int a1)]) hx hb dX10_isNeeded_82 hl (by decide) rfl (fun ls hl => ?_)
            refine lv_aload_n hx hb dX10_isNeeded_84 rfl (lv_at hl 3 rfl) ?_
            refine r_get (ci := 14) (C := RX10) (T := TX10) (N := 21) S F B (kq (by decide) : kd 198 = 21 ∧ 198 < NN) rfl rfl hiX10 0 (by decide) (by decide +kernel) rfl dX10_isNeeded_85 ?_
            refine lv_iload_n hx hb dX10_isNeeded_88 rfl (lv_at hl 2 rfl) ?_
            refine lv_iload hx hb dX10_isNeeded_89 (lv_at hl 1 rfl) ?_
            obtain ⟨hi, ho⟩ := gd_ ho
            refine r_iast S F B (kq (by decide) : kd 199 = 22 ∧ 199 < NN) (fun _ => rfl) hi dX10_isNeeded_91 (fun H locs B => ?_)
            obtain ⟨σ16, eσ16, ho⟩ := lt_ ho
            rw [← eσ16] at B
            refine lv_iload hx hb dX10_isNeeded_92 (lv_at hl 0 rfl) ?_
            cases ho
            exact e_i B hx hb hr hlocks rfl rfl dX10_isNeeded_94
          · have ho := ip_ c15 ho
            refine lv_iconst (v := 1) hx hb dX10_isNeeded_77 (by decide) ?_
            refine lv_goto (tgt := 82) hx hb dX10_isNeeded_78 (by decide) ?_
            refine lv_istore (lv' := [(5, .int 1), (4, .int x11), (3, .int q4), (0, .ref (G.2.2 198)), (1, .int a0), (2, .int a1)]) hx hb dX10_isNeeded_82 hl (by decide) rfl (fun ls hl => ?_)
            refine lv_aload_n hx hb dX10_isNeeded_84 rfl (lv_at hl 3 rfl) ?_
            refine r_get (ci := 14) (C := RX10) (T := TX10) (N := 21) S F B (kq (by decide) : kd 198 = 21 ∧ 198 < NN) rfl rfl hiX10 0 (by decide) (by decide +kernel) rfl dX10_isNeeded_85 ?_
            refine lv_iload_n hx hb dX10_isNeeded_88 rfl (lv_at hl 2 rfl) ?_
            refine lv_iload hx hb dX10_isNeeded_89 (lv_at hl 1 rfl) ?_
            obtain ⟨hi, ho⟩ := gd_ ho
            refine r_iast S F B (kq (by decide) : kd 199 = 22 ∧ 199 < NN) (fun _ => rfl) hi dX10_isNeeded_91 (fun H locs B => ?_)
            obtain ⟨σ17, eσ17, ho⟩ := lt_ ho
            rw [← eσ17] at B
            refine lv_iload hx hb dX10_isNeeded_92 (lv_at hl 0 rfl) ?_
            cases ho
            exact e_i B hx hb hr hlocks rfl rfl dX10_isNeeded_94
        · have ho := ip_ c10 ho
          refine lv_iconst (v := 0) hx hb dX10_isNeeded_49 (by decide) ?_
          cases ho
          exact e_i B hx hb hr hlocks rfl rfl dX10_isNeeded_50
    · have ho := ip_ c5 ho
      refine lv_aload_n hx hb dX10_isNeeded_22 rfl (lv_at hl 1 rfl) ?_
      refine lv_iconst (v := 2) hx hb dX10_isNeeded_23 (by decide) ?_
      obtain ⟨q18, σ19, hq18, ho⟩ := bnm_ ho
      refine k_iV (As := [.int 2]) (rest := []) S F B (c_X10_throwing l G σ2 _ 2 hq18) (kq (by decide) : kd 198 = 21 ∧ 198 < NN) rfl rfl (cwV 1 hts gX10_isNeeded_X10_throwing rfl rfl rfl (by decide +kernel) ⟨Nat.le_of_ble_eq_true rfl, Nat.le_of_ble_eq_true rfl⟩) rfl hl.1 rfl (Nat.le_of_ble_eq_true rfl) dX10_isNeeded_24 ⟨Nat.le_of_ble_eq_true rfl, Nat.le_of_ble_eq_true rfl⟩ (fun H locs B => ?_)
      refine lv_pop hx hb dX10_isNeeded_27 rfl ?_
      refine lv_iconst (v := 0) hx hb dX10_isNeeded_28 (by decide) ?_
      cases ho
      exact e_i B hx hb hr hlocks rfl rfl dX10_isNeeded_29
  · have ho := ip_ c3 ho
    refine lv_iconst (v := 0) hx hb dX10_isNeeded_9 (by decide) ?_
    cases ho
    exact e_i B hx hb hr hlocks rfl rfl dX10_isNeeded_10

set_option maxHeartbeats 4000000 in
set_option maxRecDepth 100000 in
theorem c_X10_closesIn (l : Launch) (G : Gd) (σ : Mm) (sz : Nat) (a0 : Int32) (a1 : Int32) {out : Int32 × Mm} (ho : f_X10_closesIn a0 a1 σ = some out) : Met l yX10_closesIn wsX10_closesIn { frames := 3, cells := 0, slots := 0, locals := 67 } (va_Pc [.ref (G.2.2 198), .int a0, .int a1] (PW G σ sz)) (Qi G sz out.1 out.2) 0 0 (AA G sz) := by
  refine Met.ofW (cc := cX10_closesIn) (maxL := 4) (ret := (some .int)) (by decide) rfl ?_
  intro p e s m args below meth c s₁ B0 hml hv
  obtain ⟨rfl, hpw⟩ := hv
  have hsz := hpw.1
  subst hsz
  obtain ⟨F, B⟩ := hpw.to
  have hx := B0.exec
  have hb := B0.bytes
  have hr := B0.returns
  have hts := atoms_spec (ws := wsX10_closesIn) B0.pre
  have hown : s.vm.findClass RX10 = some m.cls := findClass_of_methodNamed B0.named
  have hlocks := B0.notSynchronized
  have S : CallFix p m c cX10_closesIn 4 s _ wsX10_closesIn RX10 := ⟨hx, hb, hml, hown, hts⟩
  have hiX10 : ∀ w ∈ u_ws RX10 TX10 21, w ∈ wsX10_closesIn := by decide +kernel
  have hl := lv_entry [.ref (G.2.2 198), .int a0, .int a1] (n := 4) (Nat.le_of_ble_eq_true rfl)
  rw [lg_entry_eq]
  generalize (lg_sl [.ref (G.2.2 198), .int a0, .int a1] ++ List.replicate (4 - (lg_sl [.ref (G.2.2 198), .int a0, .int a1]).length) Slot.unset).toArray = ls at hl ⊢
  have hl : lv_has ls 4 [(0, .ref (G.2.2 198)), (1, .int a0), (2, .int a1)] := hl
  unfold f_X10_closesIn at ho
  refine lv_aload_n hx hb dX10_closesIn_0 rfl (lv_at hl 0 rfl) ?_
  refine lv_iload_n hx hb dX10_closesIn_1 rfl (lv_at hl 1 rfl) ?_
  refine lv_iload_n hx hb dX10_closesIn_2 rfl (lv_at hl 2 rfl) ?_
  obtain ⟨q1, σ2, hq1, ho⟩ := bnm_ ho
  refine k_iV (As := [.int a0, .int a1]) (rest := []) S F B (c_X10_areCells l G σ _ a0 a1 hq1) (kq (by decide) : kd 198 = 21 ∧ 198 < NN) rfl rfl (cwV 2 hts gX10_closesIn_X10_areCells rfl rfl rfl (by decide +kernel) ⟨Nat.le_of_ble_eq_true rfl, Nat.le_of_ble_eq_true rfl⟩) rfl hl.1 rfl (Nat.le_of_ble_eq_true rfl) dX10_closesIn_3 ⟨Nat.le_of_ble_eq_true rfl, Nat.le_of_ble_eq_true rfl⟩ (fun H locs B => ?_)
  refine lv_if_ne (tgt := 11) hx hb dX10_closesIn_6 (by decide) (fun c3 => ?_) (fun c3 => ?_)
  · have ho := in_ c3 ho
    refine lv_iload_n hx hb dX10_closesIn_11 rfl (lv_at hl 1 rfl) ?_
    refine lv_iload_n hx hb dX10_closesIn_12 rfl (lv_at hl 2 rfl) ?_
    obtain ⟨q4, hq4, ho⟩ := bnd_ ho
    refine k_iS (As := [.int a0, .int a1]) (rest := []) S F B (c_X10_hedgeAt l G σ2 _ a0 a1 hq4) (va_cwS 2 hts gX10_closesIn_X10_hedgeAt rfl rfl rfl (by decide +kernel) ⟨Nat.le_of_ble_eq_true rfl, Nat.le_of_ble_eq_true rfl⟩) rfl hl.1 rfl (Nat.le_of_ble_eq_true rfl) dX10_closesIn_13 ⟨Nat.le_of_ble_eq_true rfl, Nat.le_of_ble_eq_true rfl⟩ (fun H locs B => ?_)
    refine lv_istore_n (lv' := [(3, .int q4), (0, .ref (G.2.2 198)), (1, .int a0), (2, .int a1)]) hx hb dX10_closesIn_16 rfl hl (by decide) rfl (fun ls hl => ?_)
    refine lv_iload_n hx hb dX10_closesIn_17 rfl (lv_at hl 0 rfl) ?_
    refine lv_iconst (v := (-1)) hx hb dX10_closesIn_18 (by decide) ?_
    refine lv_icmp_ne (tgt := 30) hx hb dX10_closesIn_19 (by decide) (fun c5 => ?_) (fun c5 => ?_)
    · have ho := in_ c5 ho
      refine lv_iconst (v := 0) hx hb dX10_closesIn_30 (by decide) ?_
      refine lv_iconst (v := 5) hx hb dX10_closesIn_31 (by decide) ?_
      refine lv_aload_n hx hb dX10_closesIn_32 rfl (lv_at hl 1 rfl) ?_
      refine r_get (ci := 14) (C := RX10) (T := TX10) (N := 21) S F B (kq (by decide) : kd 198 = 21 ∧ 198 < NN) rfl rfl hiX10 0 (by decide) (by decide +kernel) rfl dX10_closesIn_33 ?_
      refine lv_iload_n hx hb dX10_closesIn_36 rfl (lv_at hl 0 rfl) ?_
      obtain ⟨hi, ho⟩ := gd_ ho
      refine r_iald S F B (kq (by decide) : kd 199 = 22 ∧ 199 < NN) rfl hi dX10_closesIn_37 ?_
      refine lv_isub hx hb dX10_closesIn_38 ?_
      refine va_mmax hx hb (hml.trans hl.1.symm) hown (hts _ (by decide +kernel)) (hts _ (by decide +kernel)) (hts _ (by decide +kernel)) (hts _ (by decide +kernel)) (Nat.le_of_ble_eq_true rfl) (Nat.le_of_ble_eq_true rfl) (Nat.le_of_ble_eq_true rfl) (Nat.le_of_ble_eq_true rfl) dX10_closesIn_39 ?_
      cases ho
      exact e_i B hx hb hr hlocks rfl rfl dX10_closesIn_42
    · have ho := ip_ c5 ho
      refine lv_aload_n hx hb dX10_closesIn_22 rfl (lv_at hl 1 rfl) ?_
      refine lv_iconst (v := 2) hx hb dX10_closesIn_23 (by decide) ?_
      obtain ⟨q6, σ7, hq6, ho⟩ := bnm_ ho
      refine k_iV (As := [.int 2]) (rest := []) S F B (c_X10_throwing l G σ2 _ 2 hq6) (kq (by decide) : kd 198 = 21 ∧ 198 < NN) rfl rfl (cwV 1 hts gX10_closesIn_X10_throwing rfl rfl rfl (by decide +kernel) ⟨Nat.le_of_ble_eq_true rfl, Nat.le_of_ble_eq_true rfl⟩) rfl hl.1 rfl (Nat.le_of_ble_eq_true rfl) dX10_closesIn_24 ⟨Nat.le_of_ble_eq_true rfl, Nat.le_of_ble_eq_true rfl⟩ (fun H locs B => ?_)
      refine lv_goto (tgt := 42) hx hb dX10_closesIn_27 (by decide) ?_
      cases ho
      exact e_i B hx hb hr hlocks rfl rfl dX10_closesIn_42
  · have ho := ip_ c3 ho
    refine lv_iconst (v := (-1)) hx hb dX10_closesIn_9 (by decide) ?_
    cases ho
    exact e_i B hx hb hr hlocks rfl rfl dX10_closesIn_10

