set_option maxHeartbeats 4000000 in
set_option maxRecDepth 100000 in
theorem c_X10_append (l : Launch) (G : Gd) (σ : Mm) (sz : Nat) (a0 : Int32) {out : Int32 × Mm} (ho : f_X10_append a0 σ = some out) : Met l yX10_append wsX10_append { frames := 1, cells := 0, slots := 0, locals := 21 } (va_Pc [.ref (G.2.2 198), .int a0] (PW G σ sz)) (Qi G sz out.1 out.2) 0 0 (AA G sz) := by
  refine Met.ofW (cc := cX10_append) (maxL := 2) (ret := (some .int)) (by decide) rfl ?_
  intro p e s m args below meth c s₁ B0 hml hv
  obtain ⟨rfl, hpw⟩ := hv
  have hsz := hpw.1
  subst hsz
  obtain ⟨F, B⟩ := hpw.to
  have hx := B0.exec
  have hb := B0.bytes
  have hr := B0.returns
  have hts := atoms_spec (ws := wsX10_append) B0.pre
  have hown : s.vm.findClass RX10 = some m.cls := findClass_of_methodNamed B0.named
  have hlocks := B0.notSynchronized
  have S : CallFix p m c cX10_append 2 s _ wsX10_append RX10 := ⟨hx, hb, hml, hown, hts⟩
  have hiX10 : ∀ w ∈ u_ws RX10 TX10 21, w ∈ wsX10_append := by decide +kernel
  have hl := lv_entry [.ref (G.2.2 198), .int a0] (n := 2) (Nat.le_of_ble_eq_true rfl)
  rw [lg_entry_eq]
  generalize (lg_sl [.ref (G.2.2 198), .int a0] ++ List.replicate (2 - (lg_sl [.ref (G.2.2 198), .int a0]).length) Slot.unset).toArray = ls at hl ⊢
  have hl : lv_has ls 2 [(0, .ref (G.2.2 198)), (1, .int a0)] := hl
  unfold f_X10_append at ho
  refine lv_aload_n hx hb dX10_append_0 rfl (lv_at hl 0 rfl) ?_
  refine lv_iconst (v := 0) hx hb dX10_append_1 (by decide) ?_
  refine r_put (ci := 14) (C := RX10) (T := TX10) (N := 21) (ty := .int) S F B tyX10 tyX10_ok nmX10 (kq (by decide) : kd 198 = 21 ∧ 198 < NN) (fun _ => rfl) rfl hiX10 12 (by decide) (by decide +kernel) rfl rfl rfl rfl (fun _ => Nat.le_of_ble_eq_true rfl) (fun _ => rfl) dX10_append_2 (fun H locs B => ?_)
  obtain ⟨σ1, eσ1, ho⟩ := lt_ ho
  rw [← eσ1] at B
  refine lv_aload_n hx hb dX10_append_5 rfl (lv_at hl 0 rfl) ?_
  refine r_get (ci := 14) (C := RX10) (T := TX10) (N := 21) S F B (kq (by decide) : kd 198 = 21 ∧ 198 < NN) rfl rfl hiX10 11 (by decide) (by decide +kernel) rfl dX10_append_6 ?_
  refine lv_bipush (v := 60) hx hb dX10_append_9 (by decide) ?_
  refine lv_icmp_ne (tgt := 20) hx hb dX10_append_11 (by decide) (fun c2 => ?_) (fun c2 => ?_)
  · have ho := in_ c2 ho
    refine lv_aload_n hx hb dX10_append_20 rfl (lv_at hl 0 rfl) ?_
    refine r_get (ci := 14) (C := RX10) (T := TX10) (N := 21) S F B (kq (by decide) : kd 198 = 21 ∧ 198 < NN) rfl rfl hiX10 10 (by decide) (by decide +kernel) rfl dX10_append_21 ?_
    refine lv_aload_n hx hb dX10_append_24 rfl (lv_at hl 0 rfl) ?_
    refine r_get (ci := 14) (C := RX10) (T := TX10) (N := 21) S F B (kq (by decide) : kd 198 = 21 ∧ 198 < NN) rfl rfl hiX10 11 (by decide) (by decide +kernel) rfl dX10_append_25 ?_
    refine lv_iload_n hx hb dX10_append_28 rfl (lv_at hl 1 rfl) ?_
    obtain ⟨hi, ho⟩ := gd_ ho
    refine r_iast S F B (kq (by decide) : kd 203 = 24 ∧ 203 < NN) (fun _ => rfl) hi dX10_append_29 (fun H locs B => ?_)
    obtain ⟨σ3, eσ3, ho⟩ := lt_ ho
    rw [← eσ3] at B
    refine lv_aload_n hx hb dX10_append_30 rfl (lv_at hl 0 rfl) ?_
    refine lv_dup hx hb dX10_append_31 rfl ?_
    refine r_get (ci := 14) (C := RX10) (T := TX10) (N := 21) S F B (kq (by decide) : kd 198 = 21 ∧ 198 < NN) rfl rfl hiX10 11 (by decide) (by decide +kernel) rfl dX10_append_32 ?_
    refine lv_iconst (v := 1) hx hb dX10_append_35 (by decide) ?_
    refine lv_iadd hx hb dX10_append_36 ?_
    refine r_put (ci := 14) (C := RX10) (T := TX10) (N := 21) (ty := .int) S F B tyX10 tyX10_ok nmX10 (kq (by decide) : kd 198 = 21 ∧ 198 < NN) (fun _ => rfl) rfl hiX10 11 (by decide) (by decide +kernel) rfl rfl rfl rfl (fun _ => Nat.le_of_ble_eq_true rfl) (fun _ => rfl) dX10_append_37 (fun H locs B => ?_)
    obtain ⟨σ4, eσ4, ho⟩ := lt_ ho
    rw [← eσ4] at B
    refine lv_aload_n hx hb dX10_append_40 rfl (lv_at hl 0 rfl) ?_
    refine r_get (ci := 14) (C := RX10) (T := TX10) (N := 21) S F B (kq (by decide) : kd 198 = 21 ∧ 198 < NN) rfl rfl hiX10 11 (by decide) (by decide +kernel) rfl dX10_append_41 ?_
    cases ho
    exact e_i B hx hb hr hlocks rfl rfl dX10_append_44
  · have ho := ip_ c2 ho
    refine lv_aload_n hx hb dX10_append_14 rfl (lv_at hl 0 rfl) ?_
    refine lv_iconst (v := 1) hx hb dX10_append_15 (by decide) ?_
    obtain ⟨q5, σ6, hq5, ho⟩ := bnm_ ho
    refine k_iV (As := [.int 1]) (rest := []) S F B (c_X10_throwing l G σ1 _ 1 hq5) (kq (by decide) : kd 198 = 21 ∧ 198 < NN) rfl rfl (cwV 1 hts gX10_append_X10_throwing rfl rfl rfl (by decide +kernel) ⟨Nat.le_of_ble_eq_true rfl, Nat.le_of_ble_eq_true rfl⟩) rfl hl.1 rfl (Nat.le_of_ble_eq_true rfl) dX10_append_16 ⟨Nat.le_of_ble_eq_true rfl, Nat.le_of_ble_eq_true rfl⟩ (fun H locs B => ?_)
    cases ho
    exact e_i B hx hb hr hlocks rfl rfl dX10_append_19

set_option maxHeartbeats 4000000 in
set_option maxRecDepth 100000 in
theorem c_X10_here (l : Launch) (G : Gd) (σ : Mm) (sz : Nat) {out : Int32} (ho : f_X10_here σ = some out) : Met l yX10_here wsX10_here { frames := 0, cells := 0, slots := 0, locals := 0 } (va_Pc [.ref (G.2.2 198)] (PW G σ sz)) (Qi G sz out σ) 0 0 (AA G sz) := by
  refine Met.ofW (cc := cX10_here) (maxL := 1) (ret := (some .int)) (by decide) rfl ?_
  intro p e s m args below meth c s₁ B0 hml hv
  obtain ⟨rfl, hpw⟩ := hv
  have hsz := hpw.1
  subst hsz
  obtain ⟨F, B⟩ := hpw.to
  have hx := B0.exec
  have hb := B0.bytes
  have hr := B0.returns
  have hts := atoms_spec (ws := wsX10_here) B0.pre
  have hown : s.vm.findClass RX10 = some m.cls := findClass_of_methodNamed B0.named
  have hlocks := B0.notSynchronized
  have S : CallFix p m c cX10_here 1 s _ wsX10_here RX10 := ⟨hx, hb, hml, hown, hts⟩
  have hiX10 : ∀ w ∈ u_ws RX10 TX10 21, w ∈ wsX10_here := by decide +kernel
  have hl := lv_entry [.ref (G.2.2 198)] (n := 1) (Nat.le_of_ble_eq_true rfl)
  rw [lg_entry_eq]
  generalize (lg_sl [.ref (G.2.2 198)] ++ List.replicate (1 - (lg_sl [.ref (G.2.2 198)]).length) Slot.unset).toArray = ls at hl ⊢
  have hl : lv_has ls 1 [(0, .ref (G.2.2 198))] := hl
  unfold f_X10_here at ho
  refine lv_aload_n hx hb dX10_here_0 rfl (lv_at hl 0 rfl) ?_
  refine r_get (ci := 14) (C := RX10) (T := TX10) (N := 21) S F B (kq (by decide) : kd 198 = 21 ∧ 198 < NN) rfl rfl hiX10 16 (by decide) (by decide +kernel) rfl dX10_here_1 ?_
  refine lv_aload_n hx hb dX10_here_4 rfl (lv_at hl 0 rfl) ?_
  refine r_get (ci := 14) (C := RX10) (T := TX10) (N := 21) S F B (kq (by decide) : kd 198 = 21 ∧ 198 < NN) rfl rfl hiX10 17 (by decide) (by decide +kernel) rfl dX10_here_5 ?_
  refine lv_icmp_ge (tgt := 23) hx hb dX10_here_8 (by decide) (fun c1 => ?_) (fun c1 => ?_)
  · have ho := ip_ c1 ho
    refine lv_iconst (v := (-1)) hx hb dX10_here_23 (by decide) ?_
    cases ho
    exact e_i B hx hb hr hlocks rfl rfl dX10_here_24
  · have ho := in_ c1 ho
    refine lv_aload_n hx hb dX10_here_11 rfl (lv_at hl 0 rfl) ?_
    refine r_get (ci := 14) (C := RX10) (T := TX10) (N := 21) S F B (kq (by decide) : kd 198 = 21 ∧ 198 < NN) rfl rfl hiX10 10 (by decide) (by decide +kernel) rfl dX10_here_12 ?_
    refine lv_aload_n hx hb dX10_here_15 rfl (lv_at hl 0 rfl) ?_
    refine r_get (ci := 14) (C := RX10) (T := TX10) (N := 21) S F B (kq (by decide) : kd 198 = 21 ∧ 198 < NN) rfl rfl hiX10 16 (by decide) (by decide +kernel) rfl dX10_here_16 ?_
    obtain ⟨hi, ho⟩ := gd_ ho
    refine r_iald S F B (kq (by decide) : kd 203 = 24 ∧ 203 < NN) rfl hi dX10_here_19 ?_
    refine lv_goto (tgt := 24) hx hb dX10_here_20 (by decide) ?_
    cases ho
    exact e_i B hx hb hr hlocks rfl rfl dX10_here_24

set_option maxHeartbeats 4000000 in
set_option maxRecDepth 100000 in
theorem c_X10_expects (l : Launch) (G : Gd) (σ : Mm) (sz : Nat) (a0 : Int32) {out : Mm} (ho : f_X10_expects a0 σ = some out) : Met l yX10_expects wsX10_expects { frames := 0, cells := 0, slots := 0, locals := 0 } (va_Pc [.ref (G.2.2 198), .int a0] (PW G σ sz)) (Qv G sz out) 0 0 (AA G sz) := by
  refine Met.ofW (cc := cX10_expects) (maxL := 2) (ret := none) (by decide) rfl ?_
  intro p e s m args below meth c s₁ B0 hml hv
  obtain ⟨rfl, hpw⟩ := hv
  have hsz := hpw.1
  subst hsz
  obtain ⟨F, B⟩ := hpw.to
  have hx := B0.exec
  have hb := B0.bytes
  have hr := B0.returns
  have hts := atoms_spec (ws := wsX10_expects) B0.pre
  have hown : s.vm.findClass RX10 = some m.cls := findClass_of_methodNamed B0.named
  have hlocks := B0.notSynchronized
  have S : CallFix p m c cX10_expects 2 s _ wsX10_expects RX10 := ⟨hx, hb, hml, hown, hts⟩
  have hiX10 : ∀ w ∈ u_ws RX10 TX10 21, w ∈ wsX10_expects := by decide +kernel
  have hl := lv_entry [.ref (G.2.2 198), .int a0] (n := 2) (Nat.le_of_ble_eq_true rfl)
  rw [lg_entry_eq]
  generalize (lg_sl [.ref (G.2.2 198), .int a0] ++ List.replicate (2 - (lg_sl [.ref (G.2.2 198), .int a0]).length) Slot.unset).toArray = ls at hl ⊢
  have hl : lv_has ls 2 [(0, .ref (G.2.2 198)), (1, .int a0)] := hl
  unfold f_X10_expects at ho
  refine lv_aload_n hx hb dX10_expects_0 rfl (lv_at hl 0 rfl) ?_
  refine lv_aload_n hx hb dX10_expects_1 rfl (lv_at hl 0 rfl) ?_
  refine r_get (ci := 14) (C := RX10) (T := TX10) (N := 21) S F B (kq (by decide) : kd 198 = 21 ∧ 198 < NN) rfl rfl hiX10 18 (by decide) (by decide +kernel) rfl dX10_expects_2 ?_
  refine lv_if_ne (tgt := 12) hx hb dX10_expects_5 (by decide) (fun c1 => ?_) (fun c1 => ?_)
  · have ho := in_ c1 ho
    refine lv_iconst (v := 1) hx hb dX10_expects_12 (by decide) ?_
    refine lv_goto (tgt := 17) hx hb dX10_expects_13 (by decide) ?_
    refine r_put (ci := 14) (C := RX10) (T := TX10) (N := 21) (ty := .boolean) S F B tyX10 tyX10_ok nmX10 (kq (by decide) : kd 198 = 21 ∧ 198 < NN) (fun _ => rfl) rfl hiX10 18 (by decide) (by decide +kernel) rfl rfl rfl rfl (fun _ => Nat.le_of_ble_eq_true rfl) (fun _ => rfl) dX10_expects_17 (fun H locs B => ?_)
    obtain ⟨σ2, eσ2, ho⟩ := lt_ ho
    rw [← eσ2] at B
    refine lv_aload_n hx hb dX10_expects_20 rfl (lv_at hl 0 rfl) ?_
    refine lv_dup hx hb dX10_expects_21 rfl ?_
    refine r_get (ci := 14) (C := RX10) (T := TX10) (N := 21) S F B (kq (by decide) : kd 198 = 21 ∧ 198 < NN) rfl rfl hiX10 16 (by decide) (by decide +kernel) rfl dX10_expects_22 ?_
    refine lv_aload_n hx hb dX10_expects_25 rfl (lv_at hl 0 rfl) ?_
    refine r_get (ci := 14) (C := RX10) (T := TX10) (N := 21) S F B (kq (by decide) : kd 198 = 21 ∧ 198 < NN) rfl rfl hiX10 18 (by decide) (by decide +kernel) rfl dX10_expects_26 ?_
    refine lv_if_eq (tgt := 36) hx hb dX10_expects_29 (by decide) (fun c3 => ?_) (fun c3 => ?_)
    · have ho := ip_ c3 ho
      refine lv_iconst (v := 1) hx hb dX10_expects_36 (by decide) ?_
      refine lv_iadd hx hb dX10_expects_37 ?_
      refine r_put (ci := 14) (C := RX10) (T := TX10) (N := 21) (ty := .int) S F B tyX10 tyX10_ok nmX10 (kq (by decide) : kd 198 = 21 ∧ 198 < NN) (fun _ => rfl) rfl hiX10 16 (by decide) (by decide +kernel) rfl rfl rfl rfl (fun _ => Nat.le_of_ble_eq_true rfl) (fun _ => rfl) dX10_expects_38 (fun H locs B => ?_)
      obtain ⟨σ4, eσ4, ho⟩ := lt_ ho
      rw [← eσ4] at B
      cases ho
      exact e_v B hx hb hr hlocks dX10_expects_41
    · have ho := in_ c3 ho
      refine lv_iconst (v := 0) hx hb dX10_expects_32 (by decide) ?_
      refine lv_goto (tgt := 37) hx hb dX10_expects_33 (by decide) ?_
      refine lv_iadd hx hb dX10_expects_37 ?_
      refine r_put (ci := 14) (C := RX10) (T := TX10) (N := 21) (ty := .int) S F B tyX10 tyX10_ok nmX10 (kq (by decide) : kd 198 = 21 ∧ 198 < NN) (fun _ => rfl) rfl hiX10 16 (by decide) (by decide +kernel) rfl rfl rfl rfl (fun _ => Nat.le_of_ble_eq_true rfl) (fun _ => rfl) dX10_expects_38 (fun H locs B => ?_)
      obtain ⟨σ5, eσ5, ho⟩ := lt_ ho
      rw [← eσ5] at B
      cases ho
      exact e_v B hx hb hr hlocks dX10_expects_41
  · have ho := ip_ c1 ho
    refine lv_iload_n hx hb dX10_expects_8 rfl (lv_at hl 1 rfl) ?_
    refine lv_if_ne (tgt := 16) hx hb dX10_expects_9 (by decide) (fun c6 => ?_) (fun c6 => ?_)
    · have ho := in_ c6 ho
      refine lv_iconst (v := 0) hx hb dX10_expects_16 (by decide) ?_
      refine r_put (ci := 14) (C := RX10) (T := TX10) (N := 21) (ty := .boolean) S F B tyX10 tyX10_ok nmX10 (kq (by decide) : kd 198 = 21 ∧ 198 < NN) (fun _ => rfl) rfl hiX10 18 (by decide) (by decide +kernel) rfl rfl rfl rfl (fun _ => Nat.le_of_ble_eq_true rfl) (fun _ => rfl) dX10_expects_17 (fun H locs B => ?_)
      obtain ⟨σ7, eσ7, ho⟩ := lt_ ho
      rw [← eσ7] at B
      refine lv_aload_n hx hb dX10_expects_20 rfl (lv_at hl 0 rfl) ?_
      refine lv_dup hx hb dX10_expects_21 rfl ?_
      refine r_get (ci := 14) (C := RX10) (T := TX10) (N := 21) S F B (kq (by decide) : kd 198 = 21 ∧ 198 < NN) rfl rfl hiX10 16 (by decide) (by decide +kernel) rfl dX10_expects_22 ?_
      refine lv_aload_n hx hb dX10_expects_25 rfl (lv_at hl 0 rfl) ?_
      refine r_get (ci := 14) (C := RX10) (T := TX10) (N := 21) S F B (kq (by decide) : kd 198 = 21 ∧ 198 < NN) rfl rfl hiX10 18 (by decide) (by decide +kernel) rfl dX10_expects_26 ?_
      refine lv_if_eq (tgt := 36) hx hb dX10_expects_29 (by decide) (fun c8 => ?_) (fun c8 => ?_)
      · have ho := ip_ c8 ho
        refine lv_iconst (v := 1) hx hb dX10_expects_36 (by decide) ?_
        refine lv_iadd hx hb dX10_expects_37 ?_
        refine r_put (ci := 14) (C := RX10) (T := TX10) (N := 21) (ty := .int) S F B tyX10 tyX10_ok nmX10 (kq (by decide) : kd 198 = 21 ∧ 198 < NN) (fun _ => rfl) rfl hiX10 16 (by decide) (by decide +kernel) rfl rfl rfl rfl (fun _ => Nat.le_of_ble_eq_true rfl) (fun _ => rfl) dX10_expects_38 (fun H locs B => ?_)
        obtain ⟨σ9, eσ9, ho⟩ := lt_ ho
        rw [← eσ9] at B
        cases ho
        exact e_v B hx hb hr hlocks dX10_expects_41
      · have ho := in_ c8 ho
        refine lv_iconst (v := 0) hx hb dX10_expects_32 (by decide) ?_
        refine lv_goto (tgt := 37) hx hb dX10_expects_33 (by decide) ?_
        refine lv_iadd hx hb dX10_expects_37 ?_
        refine r_put (ci := 14) (C := RX10) (T := TX10) (N := 21) (ty := .int) S F B tyX10 tyX10_ok nmX10 (kq (by decide) : kd 198 = 21 ∧ 198 < NN) (fun _ => rfl) rfl hiX10 16 (by decide) (by decide +kernel) rfl rfl rfl rfl (fun _ => Nat.le_of_ble_eq_true rfl) (fun _ => rfl) dX10_expects_38 (fun H locs B => ?_)
        obtain ⟨σ10, eσ10, ho⟩ := lt_ ho
        rw [← eσ10] at B
        cases ho
        exact e_v B hx hb hr hlocks dX10_expects_41
    · have ho := ip_ c6 ho
      refine lv_iconst (v := 1) hx hb dX10_expects_12 (by decide) ?_
      refine lv_goto (tgt := 17) hx hb dX10_expects_13 (by decide) ?_
      refine r_put (ci := 14) (C := RX10) (T := TX10) (N := 21) (ty := .boolean) S F B tyX10 tyX10_ok nmX10 (kq (by decide) : kd 198 = 21 ∧ 198 < NN) (fun _ => rfl) rfl hiX10 18 (by decide) (by decide +kernel) rfl rfl rfl rfl (fun _ => Nat.le_of_ble_eq_true rfl) (fun _ => rfl) dX10_expects_17 (fun H locs B => ?_)
      obtain ⟨σ11, eσ11, ho⟩ := lt_ ho
      rw [← eσ11] at B
      refine lv_aload_n hx hb dX10_expects_20 rfl (lv_at hl 0 rfl) ?_
      refine lv_dup hx hb dX10_expects_21 rfl ?_
      refine r_get (ci := 14) (C := RX10) (T := TX10) (N := 21) S F B (kq (by decide) : kd 198 = 21 ∧ 198 < NN) rfl rfl hiX10 16 (by decide) (by decide +kernel) rfl dX10_expects_22 ?_
      refine lv_aload_n hx hb dX10_expects_25 rfl (lv_at hl 0 rfl) ?_
      refine r_get (ci := 14) (C := RX10) (T := TX10) (N := 21) S F B (kq (by decide) : kd 198 = 21 ∧ 198 < NN) rfl rfl hiX10 18 (by decide) (by decide +kernel) rfl dX10_expects_26 ?_
      refine lv_if_eq (tgt := 36) hx hb dX10_expects_29 (by decide) (fun c12 => ?_) (fun c12 => ?_)
      · have ho := ip_ c12 ho
        refine lv_iconst (v := 1) hx hb dX10_expects_36 (by decide) ?_
        refine lv_iadd hx hb dX10_expects_37 ?_
        refine r_put (ci := 14) (C := RX10) (T := TX10) (N := 21) (ty := .int) S F B tyX10 tyX10_ok nmX10 (kq (by decide) : kd 198 = 21 ∧ 198 < NN) (fun _ => rfl) rfl hiX10 16 (by decide) (by decide +kernel) rfl rfl rfl rfl (fun _ => Nat.le_of_ble_eq_true rfl) (fun _ => rfl) dX10_expects_38 (fun H locs B => ?_)
        obtain ⟨σ13, eσ13, ho⟩ := lt_ ho
        rw [← eσ13] at B
        cases ho
        exact e_v B hx hb hr hlocks dX10_expects_41
      · have ho := in_ c12 ho
        refine lv_iconst (v := 0) hx hb dX10_expects_32 (by decide) ?_
        refine lv_goto (tgt := 37) hx hb dX10_expects_33 (by decide) ?_
        refine lv_iadd hx hb dX10_expects_37 ?_
        refine r_put (ci := 14) (C := RX10) (T := TX10) (N := 21) (ty := .int) S F B tyX10 tyX10_ok nmX10 (kq (by decide) : kd 198 = 21 ∧ 198 < NN) (fun _ => rfl) rfl hiX10 16 (by decide) (by decide +kernel) rfl rfl rfl rfl (fun _ => Nat.le_of_ble_eq_true rfl) (fun _ => rfl) dX10_expects_38 (fun H locs B => ?_)
        obtain ⟨σ14, eσ14, ho⟩ := lt_ ho
        rw [← eσ14] at B
        cases ho
        exact e_v B hx hb hr hlocks dX10_expects_41

set_option maxHeartbeats 4000000 in
set_option maxRecDepth 100000 in
theorem c_X10_digit (l : Launch) (G : Gd) (σ : Mm) (sz : Nat) {out : Int32 × Mm} (ho : f_X10_digit σ = some out) : Met l yX10_digit wsX10_digit { frames := 1, cells := 0, slots := 0, locals := 25 } (va_Pc [.ref (G.2.2 198)] (PW G σ sz)) (Qi G sz out.1 out.2) 0 0 (AA G sz) := by
  refine Met.ofW (cc := cX10_digit) (maxL := 2) (ret := (some .int)) (by decide) rfl ?_
  intro p e s m args below meth c s₁ B0 hml hv
  obtain ⟨rfl, hpw⟩ := hv
  have hsz := hpw.1
  subst hsz
  obtain ⟨F, B⟩ := hpw.to
  have hx := B0.exec
  have hb := B0.bytes
  have hr := B0.returns
  have hts := atoms_spec (ws := wsX10_digit) B0.pre
  have hown : s.vm.findClass RX10 = some m.cls := findClass_of_methodNamed B0.named
  have hlocks := B0.notSynchronized
  have S : CallFix p m c cX10_digit 2 s _ wsX10_digit RX10 := ⟨hx, hb, hml, hown, hts⟩
  have hiX10 : ∀ w ∈ u_ws RX10 TX10 21, w ∈ wsX10_digit := by decide +kernel
  have hl := lv_entry [.ref (G.2.2 198)] (n := 2) (Nat.le_of_ble_eq_true rfl)
  rw [lg_entry_eq]
  generalize (lg_sl [.ref (G.2.2 198)] ++ List.replicate (2 - (lg_sl [.ref (G.2.2 198)]).length) Slot.unset).toArray = ls at hl ⊢
  have hl : lv_has ls 2 [(0, .ref (G.2.2 198))] := hl
  unfold f_X10_digit at ho
  refine lv_aload_n hx hb dX10_digit_0 rfl (lv_at hl 0 rfl) ?_
  obtain ⟨q1, hq1, ho⟩ := bnd_ ho
  refine k_iV (As := []) (rest := []) S F B (c_X10_here l G σ _ hq1) (kq (by decide) : kd 198 = 21 ∧ 198 < NN) rfl rfl (cwV 0 hts gX10_digit_X10_here rfl rfl rfl (by decide +kernel) ⟨Nat.le_of_ble_eq_true rfl, Nat.le_of_ble_eq_true rfl⟩) rfl hl.1 rfl (Nat.le_of_ble_eq_true rfl) dX10_digit_1 ⟨Nat.le_of_ble_eq_true rfl, Nat.le_of_ble_eq_true rfl⟩ (fun H locs B => ?_)
  refine lv_bipush (v := 48) hx hb dX10_digit_4 (by decide) ?_
  refine lv_isub hx hb dX10_digit_6 ?_
  obtain ⟨x2, ex2, ho⟩ := lt_ ho
  refine lv_nm ex2 ?_
  refine lv_istore_n (lv' := [(1, .int x2), (0, .ref (G.2.2 198))]) hx hb dX10_digit_7 rfl hl (by decide) rfl (fun ls hl => ?_)
  refine lv_aload_n hx hb dX10_digit_8 rfl (lv_at hl 1 rfl) ?_
  refine lv_aload_n hx hb dX10_digit_9 rfl (lv_at hl 1 rfl) ?_
  obtain ⟨q3, hq3, ho⟩ := bnd_ ho
  refine k_iV (As := []) (rest := [.ref (G.2.2 198)]) S F B (c_X10_here l G σ _ hq3) (kq (by decide) : kd 198 = 21 ∧ 198 < NN) rfl rfl (cwV 0 hts gX10_digit_X10_here rfl rfl rfl (by decide +kernel) ⟨Nat.le_of_ble_eq_true rfl, Nat.le_of_ble_eq_true rfl⟩) rfl hl.1 rfl (Nat.le_of_ble_eq_true rfl) dX10_digit_10 ⟨Nat.le_of_ble_eq_true rfl, Nat.le_of_ble_eq_true rfl⟩ (fun H locs B => ?_)
  refine lv_i2l hx hb dX10_digit_13 rfl ?_
  refine lv_ldc2 (v := 48) hx hb hown (hts _ (by decide +kernel)) dX10_digit_14 ?_
  refine lv_ldc2 (v := 57) hx hb hown (hts _ (by decide +kernel)) dX10_digit_17 ?_
  obtain ⟨q4, hq4, ho⟩ := bnd_ ho
  refine k_iS (As := [.long q3.toInt64, .long 48, .long 57]) (rest := [.ref (G.2.2 198)]) S F B (c_X10_in l G σ _ q3.toInt64 48 57 hq4) (va_cwS 3 hts gX10_digit_X10_in rfl rfl rfl (by decide +kernel) ⟨Nat.le_of_ble_eq_true rfl, Nat.le_of_ble_eq_true rfl⟩) rfl hl.1 rfl (Nat.le_of_ble_eq_true rfl) dX10_digit_20 ⟨Nat.le_of_ble_eq_true rfl, Nat.le_of_ble_eq_true rfl⟩ (fun H locs B => ?_)
  obtain ⟨σ6, hq5, ho⟩ := bnd_ ho
  refine k_vV (As := [.int q4]) (rest := []) S F B (c_X10_expects l G σ _ q4 hq5) (kq (by decide) : kd 198 = 21 ∧ 198 < NN) rfl rfl (cwV 1 hts gX10_digit_X10_expects rfl rfl rfl (by decide +kernel) ⟨Nat.le_of_ble_eq_true rfl, Nat.le_of_ble_eq_true rfl⟩) rfl hl.1 rfl (Nat.le_of_ble_eq_true rfl) dX10_digit_23 ⟨Nat.le_of_ble_eq_true rfl, Nat.le_of_ble_eq_true rfl⟩ (fun H locs B => ?_)
  refine lv_aload_n hx hb dX10_digit_26 rfl (lv_at hl 1 rfl) ?_
  refine r_get (ci := 14) (C := RX10) (T := TX10) (N := 21) S F B (kq (by decide) : kd 198 = 21 ∧ 198 < NN) rfl rfl hiX10 18 (by decide) (by decide +kernel) rfl dX10_digit_27 ?_
  refine lv_if_eq (tgt := 37) hx hb dX10_digit_30 (by decide) (fun c7 => ?_) (fun c7 => ?_)
  · have ho := ip_ c7 ho
    refine lv_iload_n hx hb dX10_digit_37 rfl (lv_at hl 0 rfl) ?_
    cases ho
    exact e_i B hx hb hr hlocks rfl rfl dX10_digit_38
  · have ho := in_ c7 ho
    refine lv_iconst (v := 0) hx hb dX10_digit_33 (by decide) ?_
    refine lv_goto (tgt := 38) hx hb dX10_digit_34 (by decide) ?_
    cases ho
    exact e_i B hx hb hr hlocks rfl rfl dX10_digit_38

set_option maxHeartbeats 4000000 in
set_option maxRecDepth 100000 in
theorem c_X10_number (l : Launch) (G : Gd) (σ : Mm) (sz : Nat) {out : Int32 × Mm} (ho : f_X10_number σ = some out) : Met l yX10_number wsX10_number { frames := 2, cells := 0, slots := 0, locals := 46 } (va_Pc [.ref (G.2.2 198)] (PW G σ sz)) (Qi G sz out.1 out.2) 0 0 (AA G sz) := by
  refine Met.ofW (cc := cX10_number) (maxL := 2) (ret := (some .int)) (by decide) rfl ?_
  intro p e s m args below meth c s₁ B0 hml hv
  obtain ⟨rfl, hpw⟩ := hv
  have hsz := hpw.1
  subst hsz
  obtain ⟨F, B⟩ := hpw.to
  have hx := B0.exec
  have hb := B0.bytes
  have hr := B0.returns
  have hts := atoms_spec (ws := wsX10_number) B0.pre
  have hown : s.vm.findClass RX10 = some m.cls := findClass_of_methodNamed B0.named
  have hlocks := B0.notSynchronized
  have S : CallFix p m c cX10_number 2 s _ wsX10_number RX10 := ⟨hx, hb, hml, hown, hts⟩
  have hiX10 : ∀ w ∈ u_ws RX10 TX10 21, w ∈ wsX10_number := by decide +kernel
  have hl := lv_entry [.ref (G.2.2 198)] (n := 2) (Nat.le_of_ble_eq_true rfl)
  rw [lg_entry_eq]
  generalize (lg_sl [.ref (G.2.2 198)] ++ List.replicate (2 - (lg_sl [.ref (G.2.2 198)]).length) Slot.unset).toArray = ls at hl ⊢
  have hl : lv_has ls 2 [(0, .ref (G.2.2 198))] := hl
  unfold f_X10_number at ho
  refine lv_aload_n hx hb dX10_number_0 rfl (lv_at hl 0 rfl) ?_
  obtain ⟨q1, σ2, hq1, ho⟩ := bnm_ ho
  refine k_iV (As := []) (rest := []) S F B (c_X10_digit l G σ _ hq1) (kq (by decide) : kd 198 = 21 ∧ 198 < NN) rfl rfl (cwV 0 hts gX10_number_X10_digit rfl rfl rfl (by decide +kernel) ⟨Nat.le_of_ble_eq_true rfl, Nat.le_of_ble_eq_true rfl⟩) rfl hl.1 rfl (Nat.le_of_ble_eq_true rfl) dX10_number_1 ⟨Nat.le_of_ble_eq_true rfl, Nat.le_of_ble_eq_true rfl⟩ (fun H locs B => ?_)
  refine lv_istore_n (lv' := [(1, .int q1), (0, .ref (G.2.2 198))]) hx hb dX10_number_4 rfl hl (by decide) rfl (fun ls hl => ?_)
  refine lv_aload_n hx hb dX10_number_5 rfl (lv_at hl 1 rfl) ?_
  refine r_get (ci := 14) (C := RX10) (T := TX10) (N := 21) S F B (kq (by decide) : kd 198 = 21 ∧ 198 < NN) rfl rfl hiX10 18 (by decide) (by decide +kernel) rfl dX10_number_6 ?_
  refine lv_if_ne (tgt := 41) hx hb dX10_number_9 (by decide) (fun c3 => ?_) (fun c3 => ?_)
  · have ho := in_ c3 ho
    refine lv_iload_n hx hb dX10_number_41 rfl (lv_at hl 0 rfl) ?_
    cases ho
    exact e_i B hx hb hr hlocks rfl rfl dX10_number_42
  · have ho := ip_ c3 ho
    refine lv_aload_n hx hb dX10_number_12 rfl (lv_at hl 1 rfl) ?_
    obtain ⟨q4, hq4, ho⟩ := bnd_ ho
    refine k_iV (As := []) (rest := []) S F B (c_X10_here l G σ2 _ hq4) (kq (by decide) : kd 198 = 21 ∧ 198 < NN) rfl rfl (cwV 0 hts gX10_number_X10_here rfl rfl rfl (by decide +kernel) ⟨Nat.le_of_ble_eq_true rfl, Nat.le_of_ble_eq_true rfl⟩) rfl hl.1 rfl (Nat.le_of_ble_eq_true rfl) dX10_number_13 ⟨Nat.le_of_ble_eq_true rfl, Nat.le_of_ble_eq_true rfl⟩ (fun H locs B => ?_)
    refine lv_i2l hx hb dX10_number_16 rfl ?_
    refine lv_ldc2 (v := 48) hx hb hown (hts _ (by decide +kernel)) dX10_number_17 ?_
    refine lv_ldc2 (v := 57) hx hb hown (hts _ (by decide +kernel)) dX10_number_20 ?_
    obtain ⟨q5, hq5, ho⟩ := bnd_ ho
    refine k_iS (As := [.long q4.toInt64, .long 48, .long 57]) (rest := []) S F B (c_X10_in l G σ2 _ q4.toInt64 48 57 hq5) (va_cwS 3 hts gX10_number_X10_in rfl rfl rfl (by decide +kernel) ⟨Nat.le_of_ble_eq_true rfl, Nat.le_of_ble_eq_true rfl⟩) rfl hl.1 rfl (Nat.le_of_ble_eq_true rfl) dX10_number_23 ⟨Nat.le_of_ble_eq_true rfl, Nat.le_of_ble_eq_true rfl⟩ (fun H locs B => ?_)
    refine lv_if_eq (tgt := 41) hx hb dX10_number_26 (by decide) (fun c6 => ?_) (fun c6 => ?_)
    · have ho := ip_ c6 ho
      refine lv_iload_n hx hb dX10_number_41 rfl (lv_at hl 0 rfl) ?_
      cases ho
      exact e_i B hx hb hr hlocks rfl rfl dX10_number_42
    · have ho := in_ c6 ho
      refine lv_bipush (v := 10) hx hb dX10_number_29 (by decide) ?_
      refine lv_iload_n hx hb dX10_number_31 rfl (lv_at hl 0 rfl) ?_
      refine lv_imul hx hb dX10_number_32 ?_
      refine lv_aload_n hx hb dX10_number_33 rfl (lv_at hl 1 rfl) ?_
      obtain ⟨q7, σ8, hq7, ho⟩ := bnm_ ho
      refine k_iV (As := []) (rest := [.int (10 * q1)]) S F B (c_X10_digit l G σ2 _ hq7) (kq (by decide) : kd 198 = 21 ∧ 198 < NN) rfl rfl (cwV 0 hts gX10_number_X10_digit rfl rfl rfl (by decide +kernel) ⟨Nat.le_of_ble_eq_true rfl, Nat.le_of_ble_eq_true rfl⟩) rfl hl.1 rfl (Nat.le_of_ble_eq_true rfl) dX10_number_34 ⟨Nat.le_of_ble_eq_true rfl, Nat.le_of_ble_eq_true rfl⟩ (fun H locs B => ?_)
      refine lv_iadd hx hb dX10_number_37 ?_
      refine lv_goto (tgt := 42) hx hb dX10_number_38 (by decide) ?_
      cases ho
      exact e_i B hx hb hr hlocks rfl rfl dX10_number_42

set_option maxHeartbeats 4000000 in
set_option maxRecDepth 100000 in
theorem c_X10_directionOf (l : Launch) (G : Gd) (σ : Mm) (sz : Nat) (a0 : Int32) {out : Int32} (ho : f_X10_directionOf a0 σ = some out) : Met l yX10_directionOf wsX10_directionOf { frames := 0, cells := 0, slots := 0, locals := 0 } (va_Pc [.int a0] (PW G σ sz)) (Qi G sz out σ) 0 0 (AA G sz) := by
  refine Met.ofW (cc := cX10_directionOf) (maxL := 1) (ret := (some .int)) (by decide) rfl ?_
  intro p e s m args below meth c s₁ B0 hml hv
  obtain ⟨rfl, hpw⟩ := hv
  have hsz := hpw.1
  subst hsz
  obtain ⟨F, B⟩ := hpw.to
  have hx := B0.exec
  have hb := B0.bytes
  have hr := B0.returns
  have hts := atoms_spec (ws := wsX10_directionOf) B0.pre
  have hown : s.vm.findClass RX10 = some m.cls := findClass_of_methodNamed B0.named
  have hlocks := B0.notSynchronized
  have S : CallFix p m c cX10_directionOf 1 s _ wsX10_directionOf RX10 := ⟨hx, hb, hml, hown, hts⟩
  have hl := lv_entry [.int a0] (n := 1) (Nat.le_of_ble_eq_true rfl)
  rw [lg_entry_eq]
  generalize (lg_sl [.int a0] ++ List.replicate (1 - (lg_sl [.int a0]).length) Slot.unset).toArray = ls at hl ⊢
  have hl : lv_has ls 1 [(0, .int a0)] := hl
  unfold f_X10_directionOf at ho
  refine lv_iload_n hx hb dX10_directionOf_0 rfl (lv_at hl 0 rfl) ?_
  refine lv_bipush (v := 110) hx hb dX10_directionOf_1 (by decide) ?_
  refine lv_icmp_ne (tgt := 10) hx hb dX10_directionOf_3 (by decide) (fun c1 => ?_) (fun c1 => ?_)
  · have ho := in_ c1 ho
    refine lv_iload_n hx hb dX10_directionOf_10 rfl (lv_at hl 0 rfl) ?_
    refine lv_bipush (v := 101) hx hb dX10_directionOf_11 (by decide) ?_
    refine lv_icmp_ne (tgt := 20) hx hb dX10_directionOf_13 (by decide) (fun c2 => ?_) (fun c2 => ?_)
    · have ho := in_ c2 ho
      refine lv_iload_n hx hb dX10_directionOf_20 rfl (lv_at hl 0 rfl) ?_
      refine lv_bipush (v := 115) hx hb dX10_directionOf_21 (by decide) ?_
      refine lv_icmp_ne (tgt := 30) hx hb dX10_directionOf_23 (by decide) (fun c3 => ?_) (fun c3 => ?_)
      · have ho := in_ c3 ho
        refine lv_iload_n hx hb dX10_directionOf_30 rfl (lv_at hl 0 rfl) ?_
        refine lv_bipush (v := 119) hx hb dX10_directionOf_31 (by decide) ?_
        refine lv_icmp_ne (tgt := 40) hx hb dX10_directionOf_33 (by decide) (fun c4 => ?_) (fun c4 => ?_)
        · have ho := in_ c4 ho
          refine lv_iconst (v := (-1)) hx hb dX10_directionOf_40 (by decide) ?_
          cases ho
          exact e_i B hx hb hr hlocks rfl rfl dX10_directionOf_41
        · have ho := ip_ c4 ho
          refine lv_iconst (v := 3) hx hb dX10_directionOf_36 (by decide) ?_
          refine lv_goto (tgt := 41) hx hb dX10_directionOf_37 (by decide) ?_
          cases ho
          exact e_i B hx hb hr hlocks rfl rfl dX10_directionOf_41
      · have ho := ip_ c3 ho
        refine lv_iconst (v := 2) hx hb dX10_directionOf_26 (by decide) ?_
        refine lv_goto (tgt := 41) hx hb dX10_directionOf_27 (by decide) ?_
        cases ho
        exact e_i B hx hb hr hlocks rfl rfl dX10_directionOf_41
    · have ho := ip_ c2 ho
      refine lv_iconst (v := 1) hx hb dX10_directionOf_16 (by decide) ?_
      refine lv_goto (tgt := 41) hx hb dX10_directionOf_17 (by decide) ?_
      cases ho
      exact e_i B hx hb hr hlocks rfl rfl dX10_directionOf_41
  · have ho := ip_ c1 ho
    refine lv_iconst (v := 0) hx hb dX10_directionOf_6 (by decide) ?_
    refine lv_goto (tgt := 41) hx hb dX10_directionOf_7 (by decide) ?_
    cases ho
    exact e_i B hx hb hr hlocks rfl rfl dX10_directionOf_41

set_option maxHeartbeats 4000000 in
set_option maxRecDepth 100000 in
theorem c_X10_cells (l : Launch) (G : Gd) (σ : Mm) (sz : Nat) (a0 : Int32) {out : Mm} (ho : f_X10_cells a0 σ = some out) : Met l yX10_cells wsX10_cells { frames := 3, cells := 0, slots := 0, locals := 67 } (va_Pc [.ref (G.2.2 198), .int a0] (PW G σ sz)) (Qv G sz out) 0 0 (AA G sz) := by
  refine Met.ofW (cc := cX10_cells) (maxL := 2) (ret := none) (by decide) rfl ?_
  intro p e s m args below meth c s₁ B0 hml hv
  obtain ⟨rfl, hpw⟩ := hv
  have hsz := hpw.1
  subst hsz
  obtain ⟨F, B⟩ := hpw.to
  have hx := B0.exec
  have hb := B0.bytes
  have hr := B0.returns
  have hts := atoms_spec (ws := wsX10_cells) B0.pre
  have hown : s.vm.findClass RX10 = some m.cls := findClass_of_methodNamed B0.named
  have hlocks := B0.notSynchronized
  have S : CallFix p m c cX10_cells 2 s _ wsX10_cells RX10 := ⟨hx, hb, hml, hown, hts⟩
  have hiX10 : ∀ w ∈ u_ws RX10 TX10 21, w ∈ wsX10_cells := by decide +kernel
  have hl := lv_entry [.ref (G.2.2 198), .int a0] (n := 2) (Nat.le_of_ble_eq_true rfl)
  rw [lg_entry_eq]
  generalize (lg_sl [.ref (G.2.2 198), .int a0] ++ List.replicate (2 - (lg_sl [.ref (G.2.2 198), .int a0]).length) Slot.unset).toArray = ls at hl ⊢
  have hl : lv_has ls 2 [(0, .ref (G.2.2 198)), (1, .int a0)] := hl
  unfold f_X10_cells at ho
  refine lv_aload_n hx hb dX10_cells_0 rfl (lv_at hl 0 rfl) ?_
  refine r_get (ci := 14) (C := RX10) (T := TX10) (N := 21) S F B (kq (by decide) : kd 198 = 21 ∧ 198 < NN) rfl rfl hiX10 14 (by decide) (by decide +kernel) rfl dX10_cells_1 ?_
  refine lv_iload_n hx hb dX10_cells_4 rfl (lv_at hl 1 rfl) ?_
  refine lv_aload_n hx hb dX10_cells_5 rfl (lv_at hl 0 rfl) ?_
  obtain ⟨q1, σ2, hq1, ho⟩ := bnm_ ho
  refine k_iV (As := []) (rest := [.int a0, .ref (G.2.2 205)]) S F B (c_X10_number l G σ _ hq1) (kq (by decide) : kd 198 = 21 ∧ 198 < NN) rfl rfl (cwV 0 hts gX10_cells_X10_number rfl rfl rfl (by decide +kernel) ⟨Nat.le_of_ble_eq_true rfl, Nat.le_of_ble_eq_true rfl⟩) rfl hl.1 rfl (Nat.le_of_ble_eq_true rfl) dX10_cells_6 ⟨Nat.le_of_ble_eq_true rfl, Nat.le_of_ble_eq_true rfl⟩ (fun H locs B => ?_)
  obtain ⟨hi, ho⟩ := gd_ ho
  refine r_iast S F B (kq (by decide) : kd 205 = 25 ∧ 205 < NN) (fun _ => rfl) hi dX10_cells_9 (fun H locs B => ?_)
  obtain ⟨σ3, eσ3, ho⟩ := lt_ ho
  rw [← eσ3] at B
  refine lv_aload_n hx hb dX10_cells_10 rfl (lv_at hl 0 rfl) ?_
  refine lv_aload_n hx hb dX10_cells_11 rfl (lv_at hl 0 rfl) ?_
  obtain ⟨q4, hq4, ho⟩ := bnd_ ho
  refine k_iV (As := []) (rest := [.ref (G.2.2 198)]) S F B (c_X10_here l G σ3 _ hq4) (kq (by decide) : kd 198 = 21 ∧ 198 < NN) rfl rfl (cwV 0 hts gX10_cells_X10_here rfl rfl rfl (by decide +kernel) ⟨Nat.le_of_ble_eq_true rfl, Nat.le_of_ble_eq_true rfl⟩) rfl hl.1 rfl (Nat.le_of_ble_eq_true rfl) dX10_cells_12 ⟨Nat.le_of_ble_eq_true rfl, Nat.le_of_ble_eq_true rfl⟩ (fun H locs B => ?_)
  refine lv_bipush (v := 45) hx hb dX10_cells_15 (by decide) ?_
  refine lv_icmp_ne (tgt := 24) hx hb dX10_cells_17 (by decide) (fun c5 => ?_) (fun c5 => ?_)
  · have ho := in_ c5 ho
    refine lv_iconst (v := 0) hx hb dX10_cells_24 (by decide) ?_
    obtain ⟨σ7, hq6, ho⟩ := bnd_ ho
    refine k_vV (As := [.int 0]) (rest := []) S F B (c_X10_expects l G σ3 _ 0 hq6) (kq (by decide) : kd 198 = 21 ∧ 198 < NN) rfl rfl (cwV 1 hts gX10_cells_X10_expects rfl rfl rfl (by decide +kernel) ⟨Nat.le_of_ble_eq_true rfl, Nat.le_of_ble_eq_true rfl⟩) rfl hl.1 rfl (Nat.le_of_ble_eq_true rfl) dX10_cells_25 ⟨Nat.le_of_ble_eq_true rfl, Nat.le_of_ble_eq_true rfl⟩ (fun H locs B => ?_)
    refine lv_aload_n hx hb dX10_cells_28 rfl (lv_at hl 0 rfl) ?_
    refine r_get (ci := 14) (C := RX10) (T := TX10) (N := 21) S F B (kq (by decide) : kd 198 = 21 ∧ 198 < NN) rfl rfl hiX10 14 (by decide) (by decide +kernel) rfl dX10_cells_29 ?_
    refine lv_iload_n hx hb dX10_cells_32 rfl (lv_at hl 1 rfl) ?_
    refine lv_iconst (v := 1) hx hb dX10_cells_33 (by decide) ?_
    refine lv_iadd hx hb dX10_cells_34 ?_
    refine lv_aload_n hx hb dX10_cells_35 rfl (lv_at hl 0 rfl) ?_
    obtain ⟨q8, σ9, hq8, ho⟩ := bnm_ ho
    refine k_iV (As := []) (rest := [.int (a0 + 1), .ref (G.2.2 205)]) S F B (c_X10_number l G σ7 _ hq8) (kq (by decide) : kd 198 = 21 ∧ 198 < NN) rfl rfl (cwV 0 hts gX10_cells_X10_number rfl rfl rfl (by decide +kernel) ⟨Nat.le_of_ble_eq_true rfl, Nat.le_of_ble_eq_true rfl⟩) rfl hl.1 rfl (Nat.le_of_ble_eq_true rfl) dX10_cells_36 ⟨Nat.le_of_ble_eq_true rfl, Nat.le_of_ble_eq_true rfl⟩ (fun H locs B => ?_)
    obtain ⟨hi, ho⟩ := gd_ ho
    refine r_iast S F B (kq (by decide) : kd 205 = 25 ∧ 205 < NN) (fun _ => rfl) hi dX10_cells_39 (fun H locs B => ?_)
    obtain ⟨σ10, eσ10, ho⟩ := lt_ ho
    rw [← eσ10] at B
    cases ho
    exact e_v B hx hb hr hlocks dX10_cells_40
  · have ho := ip_ c5 ho
    refine lv_iconst (v := 1) hx hb dX10_cells_20 (by decide) ?_
    refine lv_goto (tgt := 25) hx hb dX10_cells_21 (by decide) ?_
    obtain ⟨σ12, hq11, ho⟩ := bnd_ ho
    refine k_vV (As := [.int 1]) (rest := []) S F B (c_X10_expects l G σ3 _ 1 hq11) (kq (by decide) : kd 198 = 21 ∧ 198 < NN) rfl rfl (cwV 1 hts gX10_cells_X10_expects rfl rfl rfl (by decide +kernel) ⟨Nat.le_of_ble_eq_true rfl, Nat.le_of_ble_eq_true rfl⟩) rfl hl.1 rfl (Nat.le_of_ble_eq_true rfl) dX10_cells_25 ⟨Nat.le_of_ble_eq_true rfl, Nat.le_of_ble_eq_true rfl⟩ (fun H locs B => ?_)
    refine lv_aload_n hx hb dX10_cells_28 rfl (lv_at hl 0 rfl) ?_
    refine r_get (ci := 14) (C := RX10) (T := TX10) (N := 21) S F B (kq (by decide) : kd 198 = 21 ∧ 198 < NN) rfl rfl hiX10 14 (by decide) (by decide +kernel) rfl dX10_cells_29 ?_
    refine lv_iload_n hx hb dX10_cells_32 rfl (lv_at hl 1 rfl) ?_
    refine lv_iconst (v := 1) hx hb dX10_cells_33 (by decide) ?_
    refine lv_iadd hx hb dX10_cells_34 ?_
    refine lv_aload_n hx hb dX10_cells_35 rfl (lv_at hl 0 rfl) ?_
    obtain ⟨q13, σ14, hq13, ho⟩ := bnm_ ho
    refine k_iV (As := []) (rest := [.int (a0 + 1), .ref (G.2.2 205)]) S F B (c_X10_number l G σ12 _ hq13) (kq (by decide) : kd 198 = 21 ∧ 198 < NN) rfl rfl (cwV 0 hts gX10_cells_X10_number rfl rfl rfl (by decide +kernel) ⟨Nat.le_of_ble_eq_true rfl, Nat.le_of_ble_eq_true rfl⟩) rfl hl.1 rfl (Nat.le_of_ble_eq_true rfl) dX10_cells_36 ⟨Nat.le_of_ble_eq_true rfl, Nat.le_of_ble_eq_true rfl⟩ (fun H locs B => ?_)
    obtain ⟨hi, ho⟩ := gd_ ho
    refine r_iast S F B (kq (by decide) : kd 205 = 25 ∧ 205 < NN) (fun _ => rfl) hi dX10_cells_39 (fun H locs B => ?_)
    obtain ⟨σ15, eσ15, ho⟩ := lt_ ho
    rw [← eσ15] at B
    cases ho
    exact e_v B hx hb hr hlocks dX10_cells_40

set_option maxHeartbeats 4000000 in
set_option maxRecDepth 100000 in
theorem c_X10_readOrder (l : Launch) (G : Gd) (σ : Mm) (sz : Nat) {out : Mm} (ho : f_X10_readOrder σ = some out) : Met l yX10_readOrder wsX10_readOrder { frames := 4, cells := 0, slots := 0, locals := 88 } (va_Pc [.ref (G.2.2 198)] (PW G σ sz)) (Qv G sz out) 0 0 (AA G sz) := by
  refine Met.ofW (cc := cX10_readOrder) (maxL := 3) (ret := none) (by decide) rfl ?_
  intro p e s m args below meth c s₁ B0 hml hv
  obtain ⟨rfl, hpw⟩ := hv
  have hsz := hpw.1
  subst hsz
  obtain ⟨F, B⟩ := hpw.to
  have hx := B0.exec
  have hb := B0.bytes
  have hr := B0.returns
  have hts := atoms_spec (ws := wsX10_readOrder) B0.pre
  have hown : s.vm.findClass RX10 = some m.cls := findClass_of_methodNamed B0.named
  have hlocks := B0.notSynchronized
  have S : CallFix p m c cX10_readOrder 3 s _ wsX10_readOrder RX10 := ⟨hx, hb, hml, hown, hts⟩
  have hiX10 : ∀ w ∈ u_ws RX10 TX10 21, w ∈ wsX10_readOrder := by decide +kernel
  have hl := lv_entry [.ref (G.2.2 198)] (n := 3) (Nat.le_of_ble_eq_true rfl)
  rw [lg_entry_eq]
  generalize (lg_sl [.ref (G.2.2 198)] ++ List.replicate (3 - (lg_sl [.ref (G.2.2 198)]).length) Slot.unset).toArray = ls at hl ⊢
  have hl : lv_has ls 3 [(0, .ref (G.2.2 198))] := hl
  unfold f_X10_readOrder at ho
  refine lv_iconst (v := 4) hx hb dX10_readOrder_0 (by decide) ?_
  refine lv_aload_n hx hb dX10_readOrder_1 rfl (lv_at hl 0 rfl) ?_
  refine r_get (ci := 14) (C := RX10) (T := TX10) (N := 21) S F B (kq (by decide) : kd 198 = 21 ∧ 198 < NN) rfl rfl hiX10 15 (by decide) (by decide +kernel) rfl dX10_readOrder_2 ?_
  refine lv_imul hx hb dX10_readOrder_5 ?_
  obtain ⟨x1, ex1, ho⟩ := lt_ ho
  refine lv_nm ex1 ?_
  refine lv_istore_n (lv' := [(1, .int x1), (0, .ref (G.2.2 198))]) hx hb dX10_readOrder_6 rfl hl (by decide) rfl (fun ls hl => ?_)
  refine lv_aload_n hx hb dX10_readOrder_7 rfl (lv_at hl 1 rfl) ?_
  obtain ⟨q2, hq2, ho⟩ := bnd_ ho
  refine k_iV (As := []) (rest := []) S F B (c_X10_here l G σ _ hq2) (kq (by decide) : kd 198 = 21 ∧ 198 < NN) rfl rfl (cwV 0 hts gX10_readOrder_X10_here rfl rfl rfl (by decide +kernel) ⟨Nat.le_of_ble_eq_true rfl, Nat.le_of_ble_eq_true rfl⟩) rfl hl.1 rfl (Nat.le_of_ble_eq_true rfl) dX10_readOrder_8 ⟨Nat.le_of_ble_eq_true rfl, Nat.le_of_ble_eq_true rfl⟩ (fun H locs B => ?_)
  refine lv_istore_n (lv' := [(2, .int q2), (1, .int x1), (0, .ref (G.2.2 198))]) hx hb dX10_readOrder_11 rfl hl (by decide) rfl (fun ls hl => ?_)
  refine lv_aload_n hx hb dX10_readOrder_12 rfl (lv_at hl 2 rfl) ?_
  obtain ⟨K4, hK4, ho⟩ := lt_ ho
  have hjoin13 : ∀ (y3 : Int32) (H : Heap) (locs : List Loc) (ls : Array Slot), K4 y3 = some out → Bd G σ s H locs → lv_has ls 3 [(2, .int q2), (1, .int x1), (0, .ref (G.2.2 198))] → W p l e (headSpec wsX10_readOrder { frames := 4, cells := 0, slots := 0, locals := 88 }).room s m #[.ref (G.2.2 198)] below meth c H locs 0 0 (MQ below (Qv G s.heap.size out) #[.ref (G.2.2 198)] s 0 0 (AA G s.heap.size)) (F0 m 72 ls [.int y3, .ref (G.2.2 198)]) := by
    intro y3 H locs ls ho B hl
    subst hK4
    obtain ⟨σ6, hq5, ho⟩ := bnd_ ho
    refine k_vV (As := [.int y3]) (rest := []) S F B (c_X10_expects l G σ _ y3 hq5) (kq (by decide) : kd 198 = 21 ∧ 198 < NN) rfl rfl (cwV 1 hts gX10_readOrder_X10_expects rfl rfl rfl (by decide +kernel) ⟨Nat.le_of_ble_eq_true rfl, Nat.le_of_ble_eq_true rfl⟩) rfl hl.1 rfl (Nat.le_of_ble_eq_true rfl) dX10_readOrder_72 ⟨Nat.le_of_ble_eq_true rfl, Nat.le_of_ble_eq_true rfl⟩ (fun H locs B => ?_)
    refine lv_aload_n hx hb dX10_readOrder_75 rfl (lv_at hl 2 rfl) ?_
    refine r_get (ci := 14) (C := RX10) (T := TX10) (N := 21) S F B (kq (by decide) : kd 198 = 21 ∧ 198 < NN) rfl rfl hiX10 14 (by decide) (by decide +kernel) rfl dX10_readOrder_76 ?_
    refine lv_iload_n hx hb dX10_readOrder_79 rfl (lv_at hl 1 rfl) ?_
    refine lv_iload_n hx hb dX10_readOrder_80 rfl (lv_at hl 0 rfl) ?_
    obtain ⟨hi, ho⟩ := gd_ ho
    refine r_iast S F B (kq (by decide) : kd 205 = 25 ∧ 205 < NN) (fun _ => rfl) hi dX10_readOrder_81 (fun H locs B => ?_)
    obtain ⟨σ7, eσ7, ho⟩ := lt_ ho
    rw [← eσ7] at B
    refine lv_aload_n hx hb dX10_readOrder_82 rfl (lv_at hl 2 rfl) ?_
    refine lv_dup hx hb dX10_readOrder_83 rfl ?_
    refine r_get (ci := 14) (C := RX10) (T := TX10) (N := 21) S F B (kq (by decide) : kd 198 = 21 ∧ 198 < NN) rfl rfl hiX10 15 (by decide) (by decide +kernel) rfl dX10_readOrder_84 ?_
    refine lv_iconst (v := 1) hx hb dX10_readOrder_87 (by decide) ?_
    refine lv_iadd hx hb dX10_readOrder_88 ?_
    refine r_put (ci := 14) (C := RX10) (T := TX10) (N := 21) (ty := .int) S F B tyX10 tyX10_ok nmX10 (kq (by decide) : kd 198 = 21 ∧ 198 < NN) (fun _ => rfl) rfl hiX10 15 (by decide) (by decide +kernel) rfl rfl rfl rfl (fun _ => Nat.le_of_ble_eq_true rfl) (fun _ => rfl) dX10_readOrder_89 (fun H locs B => ?_)
    obtain ⟨σ8, eσ8, ho⟩ := lt_ ho
    rw [← eσ8] at B
    refine lv_iload_n hx hb dX10_readOrder_92 rfl (lv_at hl 0 rfl) ?_
    by_cases c9 : q2 = 98
    · have ho := ip_ c9 ho
      refine lv_tableIn (off := 244) (tgt := 337) hx hb dX10_readOrder_93 (by rw [c9]; decide) (by rw [c9]; decide) (by rw [c9]; rfl) (by decide) ?_
      refine lv_aload_n hx hb dX10_readOrder_337 rfl (lv_at hl 2 rfl) ?_
      refine r_get (ci := 14) (C := RX10) (T := TX10) (N := 21) S F B (kq (by decide) : kd 198 = 21 ∧ 198 < NN) rfl rfl hiX10 14 (by decide) (by decide +kernel) rfl dX10_readOrder_338 ?_
      refine lv_iload_n hx hb dX10_readOrder_341 rfl (lv_at hl 1 rfl) ?_
      refine lv_iconst (v := 1) hx hb dX10_readOrder_342 (by decide) ?_
      refine lv_iadd hx hb dX10_readOrder_343 ?_
      refine lv_aload_n hx hb dX10_readOrder_344 rfl (lv_at hl 2 rfl) ?_
      obtain ⟨q10, σ11, hq10, ho⟩ := bnm_ ho
      refine k_iV (As := []) (rest := [.int (x1 + 1), .ref (G.2.2 205)]) S F B (c_X10_digit l G σ8 _ hq10) (kq (by decide) : kd 198 = 21 ∧ 198 < NN) rfl rfl (cwV 0 hts gX10_readOrder_X10_digit rfl rfl rfl (by decide +kernel) ⟨Nat.le_of_ble_eq_true rfl, Nat.le_of_ble_eq_true rfl⟩) rfl hl.1 rfl (Nat.le_of_ble_eq_true rfl) dX10_readOrder_345 ⟨Nat.le_of_ble_eq_true rfl, Nat.le_of_ble_eq_true rfl⟩ (fun H locs B => ?_)
      obtain ⟨hi, ho⟩ := gd_ ho
      refine r_iast S F B (kq (by decide) : kd 205 = 25 ∧ 205 < NN) (fun _ => rfl) hi dX10_readOrder_348 (fun H locs B => ?_)
      obtain ⟨σ12, eσ12, ho⟩ := lt_ ho
      rw [← eσ12] at B
      refine lv_aload_n hx hb dX10_readOrder_349 rfl (lv_at hl 2 rfl) ?_
      refine lv_aload_n hx hb dX10_readOrder_350 rfl (lv_at hl 2 rfl) ?_
      obtain ⟨q13, hq13, ho⟩ := bnd_ ho
      refine k_iV (As := []) (rest := [.ref (G.2.2 198)]) S F B (c_X10_here l G σ12 _ hq13) (kq (by decide) : kd 198 = 21 ∧ 198 < NN) rfl rfl (cwV 0 hts gX10_readOrder_X10_here rfl rfl rfl (by decide +kernel) ⟨Nat.le_of_ble_eq_true rfl, Nat.le_of_ble_eq_true rfl⟩) rfl hl.1 rfl (Nat.le_of_ble_eq_true rfl) dX10_readOrder_351 ⟨Nat.le_of_ble_eq_true rfl, Nat.le_of_ble_eq_true rfl⟩ (fun H locs B => ?_)
      refine lv_bipush (v := 62) hx hb dX10_readOrder_354 (by decide) ?_
      refine lv_icmp_ne (tgt := 363) hx hb dX10_readOrder_356 (by decide) (fun c14 => ?_) (fun c14 => ?_)
      · have ho := in_ c14 ho
        refine lv_iconst (v := 0) hx hb dX10_readOrder_363 (by decide) ?_
        obtain ⟨σ16, hq15, ho⟩ := bnd_ ho
        refine k_vV (As := [.int 0]) (rest := []) S F B (c_X10_expects l G σ12 _ 0 hq15) (kq (by decide) : kd 198 = 21 ∧ 198 < NN) rfl rfl (cwV 1 hts gX10_readOrder_X10_expects rfl rfl rfl (by decide +kernel) ⟨Nat.le_of_ble_eq_true rfl, Nat.le_of_ble_eq_true rfl⟩) rfl hl.1 rfl (Nat.le_of_ble_eq_true rfl) dX10_readOrder_364 ⟨Nat.le_of_ble_eq_true rfl, Nat.le_of_ble_eq_true rfl⟩ (fun H locs B => ?_)
        refine lv_aload_n hx hb dX10_readOrder_367 rfl (lv_at hl 2 rfl) ?_
        refine r_get (ci := 14) (C := RX10) (T := TX10) (N := 21) S F B (kq (by decide) : kd 198 = 21 ∧ 198 < NN) rfl rfl hiX10 14 (by decide) (by decide +kernel) rfl dX10_readOrder_368 ?_
        refine lv_iload_n hx hb dX10_readOrder_371 rfl (lv_at hl 1 rfl) ?_
        refine lv_iconst (v := 2) hx hb dX10_readOrder_372 (by decide) ?_
        refine lv_iadd hx hb dX10_readOrder_373 ?_
        refine lv_aload_n hx hb dX10_readOrder_374 rfl (lv_at hl 2 rfl) ?_
        obtain ⟨q17, σ18, hq17, ho⟩ := bnm_ ho
        refine k_iV (As := []) (rest := [.int (x1 + 2), .ref (G.2.2 205)]) S F B (c_X10_digit l G σ16 _ hq17) (kq (by decide) : kd 198 = 21 ∧ 198 < NN) rfl rfl (cwV 0 hts gX10_readOrder_X10_digit rfl rfl rfl (by decide +kernel) ⟨Nat.le_of_ble_eq_true rfl, Nat.le_of_ble_eq_true rfl⟩) rfl hl.1 rfl (Nat.le_of_ble_eq_true rfl) dX10_readOrder_375 ⟨Nat.le_of_ble_eq_true rfl, Nat.le_of_ble_eq_true rfl⟩ (fun H locs B => ?_)
        obtain ⟨hi, ho⟩ := gd_ ho
        refine r_iast S F B (kq (by decide) : kd 205 = 25 ∧ 205 < NN) (fun _ => rfl) hi dX10_readOrder_378 (fun H locs B => ?_)
        obtain ⟨σ19, eσ19, ho⟩ := lt_ ho
        rw [← eσ19] at B
        refine lv_aload_n hx hb dX10_readOrder_379 rfl (lv_at hl 2 rfl) ?_
        refine lv_aload_n hx hb dX10_readOrder_380 rfl (lv_at hl 2 rfl) ?_
        obtain ⟨q20, hq20, ho⟩ := bnd_ ho
        refine k_iV (As := []) (rest := [.ref (G.2.2 198)]) S F B (c_X10_here l G σ19 _ hq20) (kq (by decide) : kd 198 = 21 ∧ 198 < NN) rfl rfl (cwV 0 hts gX10_readOrder_X10_here rfl rfl rfl (by decide +kernel) ⟨Nat.le_of_ble_eq_true rfl, Nat.le_of_ble_eq_true rfl⟩) rfl hl.1 rfl (Nat.le_of_ble_eq_true rfl) dX10_readOrder_381 ⟨Nat.le_of_ble_eq_true rfl, Nat.le_of_ble_eq_true rfl⟩ (fun H locs B => ?_)
        refine lv_bipush (v := 42) hx hb dX10_readOrder_384 (by decide) ?_
        refine lv_icmp_ne (tgt := 393) hx hb dX10_readOrder_386 (by decide) (fun c21 => ?_) (fun c21 => ?_)
        · have ho := in_ c21 ho
          refine lv_iconst (v := 0) hx hb dX10_readOrder_393 (by decide) ?_
          obtain ⟨σ23, hq22, ho⟩ := bnd_ ho
          refine k_vV (As := [.int 0]) (rest := []) S F B (c_X10_expects l G σ19 _ 0 hq22) (kq (by decide) : kd 198 = 21 ∧ 198 < NN) rfl rfl (cwV 1 hts gX10_readOrder_X10_expects rfl rfl rfl (by decide +kernel) ⟨Nat.le_of_ble_eq_true rfl, Nat.le_of_ble_eq_true rfl⟩) rfl hl.1 rfl (Nat.le_of_ble_eq_true rfl) dX10_readOrder_394 ⟨Nat.le_of_ble_eq_true rfl, Nat.le_of_ble_eq_true rfl⟩ (fun H locs B => ?_)
          refine lv_aload_n hx hb dX10_readOrder_397 rfl (lv_at hl 2 rfl) ?_
          refine r_get (ci := 14) (C := RX10) (T := TX10) (N := 21) S F B (kq (by decide) : kd 198 = 21 ∧ 198 < NN) rfl rfl hiX10 14 (by decide) (by decide +kernel) rfl dX10_readOrder_398 ?_
          refine lv_iload_n hx hb dX10_readOrder_401 rfl (lv_at hl 1 rfl) ?_
          refine lv_iconst (v := 3) hx hb dX10_readOrder_402 (by decide) ?_
          refine lv_iadd hx hb dX10_readOrder_403 ?_
          refine lv_aload_n hx hb dX10_readOrder_404 rfl (lv_at hl 2 rfl) ?_
          obtain ⟨q24, σ25, hq24, ho⟩ := bnm_ ho
          refine k_iV (As := []) (rest := [.int (x1 + 3), .ref (G.2.2 205)]) S F B (c_X10_digit l G σ23 _ hq24) (kq (by decide) : kd 198 = 21 ∧ 198 < NN) rfl rfl (cwV 0 hts gX10_readOrder_X10_digit rfl rfl rfl (by decide +kernel) ⟨Nat.le_of_ble_eq_true rfl, Nat.le_of_ble_eq_true rfl⟩) rfl hl.1 rfl (Nat.le_of_ble_eq_true rfl) dX10_readOrder_405 ⟨Nat.le_of_ble_eq_true rfl, Nat.le_of_ble_eq_true rfl⟩ (fun H locs B => ?_)
          obtain ⟨hi, ho⟩ := gd_ ho
          refine r_iast S F B (kq (by decide) : kd 205 = 25 ∧ 205 < NN) (fun _ => rfl) hi dX10_readOrder_408 (fun H locs B => ?_)
          obtain ⟨σ26, eσ26, ho⟩ := lt_ ho
          rw [← eσ26] at B
          refine lv_goto (tgt := 508) hx hb dX10_readOrder_409 (by decide) ?_
          cases ho
          exact e_v B hx hb hr hlocks dX10_readOrder_508
        · have ho := ip_ c21 ho
          refine lv_iconst (v := 1) hx hb dX10_readOrder_389 (by decide) ?_
          refine lv_goto (tgt := 394) hx hb dX10_readOrder_390 (by decide) ?_
          obtain ⟨σ28, hq27, ho⟩ := bnd_ ho
          refine k_vV (As := [.int 1]) (rest := []) S F B (c_X10_expects l G σ19 _ 1 hq27) (kq (by decide) : kd 198 = 21 ∧ 198 < NN) rfl rfl (cwV 1 hts gX10_readOrder_X10_expects rfl rfl rfl (by decide +kernel) ⟨Nat.le_of_ble_eq_true rfl, Nat.le_of_ble_eq_true rfl⟩) rfl hl.1 rfl (Nat.le_of_ble_eq_true rfl) dX10_readOrder_394 ⟨Nat.le_of_ble_eq_true rfl, Nat.le_of_ble_eq_true rfl⟩ (fun H locs B => ?_)
          refine lv_aload_n hx hb dX10_readOrder_397 rfl (lv_at hl 2 rfl) ?_
          refine r_get (ci := 14) (C := RX10) (T := TX10) (N := 21) S F B (kq (by decide) : kd 198 = 21 ∧ 198 < NN) rfl rfl hiX10 14 (by decide) (by decide +kernel) rfl dX10_readOrder_398 ?_
          refine lv_iload_n hx hb dX10_readOrder_401 rfl (lv_at hl 1 rfl) ?_
          refine lv_iconst (v := 3) hx hb dX10_readOrder_402 (by decide) ?_
          refine lv_iadd hx hb dX10_readOrder_403 ?_
          refine lv_aload_n hx hb dX10_readOrder_404 rfl (lv_at hl 2 rfl) ?_
          obtain ⟨q29, σ30, hq29, ho⟩ := bnm_ ho
          refine k_iV (As := []) (rest := [.int (x1 + 3), .ref (G.2.2 205)]) S F B (c_X10_digit l G σ28 _ hq29) (kq (by decide) : kd 198 = 21 ∧ 198 < NN) rfl rfl (cwV 0 hts gX10_readOrder_X10_digit rfl rfl rfl (by decide +kernel) ⟨Nat.le_of_ble_eq_true rfl, Nat.le_of_ble_eq_true rfl⟩) rfl hl.1 rfl (Nat.le_of_ble_eq_true rfl) dX10_readOrder_405 ⟨Nat.le_of_ble_eq_true rfl, Nat.le_of_ble_eq_true rfl⟩ (fun H locs B => ?_)
          obtain ⟨hi, ho⟩ := gd_ ho
          refine r_iast S F B (kq (by decide) : kd 205 = 25 ∧ 205 < NN) (fun _ => rfl) hi dX10_readOrder_408 (fun H locs B => ?_)
          obtain ⟨σ31, eσ31, ho⟩ := lt_ ho
          rw [← eσ31] at B
          refine lv_goto (tgt := 508) hx hb dX10_readOrder_409 (by decide) ?_
          cases ho
          exact e_v B hx hb hr hlocks dX10_readOrder_508
      · have ho := ip_ c14 ho
        refine lv_iconst (v := 1) hx hb dX10_readOrder_359 (by decide) ?_
        refine lv_goto (tgt := 364) hx hb dX10_readOrder_360 (by decide) ?_
        obtain ⟨σ33, hq32, ho⟩ := bnd_ ho
        refine k_vV (As := [.int 1]) (rest := []) S F B (c_X10_expects l G σ12 _ 1 hq32) (kq (by decide) : kd 198 = 21 ∧ 198 < NN) rfl rfl (cwV 1 hts gX10_readOrder_X10_expects rfl rfl rfl (by decide +kernel) ⟨Nat.le_of_ble_eq_true rfl, Nat.le_of_ble_eq_true rfl⟩) rfl hl.1 rfl (Nat.le_of_ble_eq_true rfl) dX10_readOrder_364 ⟨Nat.le_of_ble_eq_true rfl, Nat.le_of_ble_eq_true rfl⟩ (fun H locs B => ?_)
        refine lv_aload_n hx hb dX10_readOrder_367 rfl (lv_at hl 2 rfl) ?_
        refine r_get (ci := 14) (C := RX10) (T := TX10) (N := 21) S F B (kq (by decide) : kd 198 = 21 ∧ 198 < NN) rfl rfl hiX10 14 (by decide) (by decide +kernel) rfl dX10_readOrder_368 ?_
        refine lv_iload_n hx hb dX10_readOrder_371 rfl (lv_at hl 1 rfl) ?_
        refine lv_iconst (v := 2) hx hb dX10_readOrder_372 (by decide) ?_
        refine lv_iadd hx hb dX10_readOrder_373 ?_
        refine lv_aload_n hx hb dX10_readOrder_374 rfl (lv_at hl 2 rfl) ?_
        obtain ⟨q34, σ35, hq34, ho⟩ := bnm_ ho
        refine k_iV (As := []) (rest := [.int (x1 + 2), .ref (G.2.2 205)]) S F B (c_X10_digit l G σ33 _ hq34) (kq (by decide) : kd 198 = 21 ∧ 198 < NN) rfl rfl (cwV 0 hts gX10_readOrder_X10_digit rfl rfl rfl (by decide +kernel) ⟨Nat.le_of_ble_eq_true rfl, Nat.le_of_ble_eq_true rfl⟩) rfl hl.1 rfl (Nat.le_of_ble_eq_true rfl) dX10_readOrder_375 ⟨Nat.le_of_ble_eq_true rfl, Nat.le_of_ble_eq_true rfl⟩ (fun H locs B => ?_)
        obtain ⟨hi, ho⟩ := gd_ ho
        refine r_iast S F B (kq (by decide) : kd 205 = 25 ∧ 205 < NN) (fun _ => rfl) hi dX10_readOrder_378 (fun H locs B => ?_)
        obtain ⟨σ36, eσ36, ho⟩ := lt_ ho
        rw [← eσ36] at B
        refine lv_aload_n hx hb dX10_readOrder_379 rfl (lv_at hl 2 rfl) ?_
        refine lv_aload_n hx hb dX10_readOrder_380 rfl (lv_at hl 2 rfl) ?_
        obtain ⟨q37, hq37, ho⟩ := bnd_ ho
        refine k_iV (As := []) (rest := [.ref (G.2.2 198)]) S F B (c_X10_here l G σ36 _ hq37) (kq (by decide) : kd 198 = 21 ∧ 198 < NN) rfl rfl (cwV 0 hts gX10_readOrder_X10_here rfl rfl rfl (by decide +kernel) ⟨Nat.le_of_ble_eq_true rfl, Nat.le_of_ble_eq_true rfl⟩) rfl hl.1 rfl (Nat.le_of_ble_eq_true rfl) dX10_readOrder_381 ⟨Nat.le_of_ble_eq_true rfl, Nat.le_of_ble_eq_true rfl⟩ (fun H locs B => ?_)
        refine lv_bipush (v := 42) hx hb dX10_readOrder_384 (by decide) ?_
        refine lv_icmp_ne (tgt := 393) hx hb dX10_readOrder_386 (by decide) (fun c38 => ?_) (fun c38 => ?_)
        · have ho := in_ c38 ho
          refine lv_iconst (v := 0) hx hb dX10_readOrder_393 (by decide) ?_
          obtain ⟨σ40, hq39, ho⟩ := bnd_ ho
          refine k_vV (As := [.int 0]) (rest := []) S F B (c_X10_expects l G σ36 _ 0 hq39) (kq (by decide) : kd 198 = 21 ∧ 198 < NN) rfl rfl (cwV 1 hts gX10_readOrder_X10_expects rfl rfl rfl (by decide +kernel) ⟨Nat.le_of_ble_eq_true rfl, Nat.le_of_ble_eq_true rfl⟩) rfl hl.1 rfl (Nat.le_of_ble_eq_true rfl) dX10_readOrder_394 ⟨Nat.le_of_ble_eq_true rfl, Nat.le_of_ble_eq_true rfl⟩ (fun H locs B => ?_)
          refine lv_aload_n hx hb dX10_readOrder_397 rfl (lv_at hl 2 rfl) ?_
          refine r_get (ci := 14) (C := RX10) (T := TX10) (N := 21) S F B (kq (by decide) : kd 198 = 21 ∧ 198 < NN) rfl rfl hiX10 14 (by decide) (by decide +kernel) rfl dX10_readOrder_398 ?_
          refine lv_iload_n hx hb dX10_readOrder_401 rfl (lv_at hl 1 rfl) ?_
          refine lv_iconst (v := 3) hx hb dX10_readOrder_402 (by decide) ?_
          refine lv_iadd hx hb dX10_readOrder_403 ?_
          refine lv_aload_n hx hb dX10_readOrder_404 rfl (lv_at hl 2 rfl) ?_
          obtain ⟨q41, σ42, hq41, ho⟩ := bnm_ ho
          refine k_iV (As := []) (rest := [.int (x1 + 3), .ref (G.2.2 205)]) S F B (c_X10_digit l G σ40 _ hq41) (kq (by decide) : kd 198 = 21 ∧ 198 < NN) rfl rfl (cwV 0 hts gX10_readOrder_X10_digit rfl rfl rfl (by decide +kernel) ⟨Nat.le_of_ble_eq_true rfl, Nat.le_of_ble_eq_true rfl⟩) rfl hl.1 rfl (Nat.le_of_ble_eq_true rfl) dX10_readOrder_405 ⟨Nat.le_of_ble_eq_true rfl, Nat.le_of_ble_eq_true rfl⟩ (fun H locs B => ?_)
          obtain ⟨hi, ho⟩ := gd_ ho
          refine r_iast S F B (kq (by decide) : kd 205 = 25 ∧ 205 < NN) (fun _ => rfl) hi dX10_readOrder_408 (fun H locs B => ?_)
          obtain ⟨σ43, eσ43, ho⟩ := lt_ ho
          rw [← eσ43] at B
          refine lv_goto (tgt := 508) hx hb dX10_readOrder_409 (by decide) ?_
          cases ho
          exact e_v B hx hb hr hlocks dX10_readOrder_508
        · have ho := ip_ c38 ho
          refine lv_iconst (v := 1) hx hb dX10_readOrder_389 (by decide) ?_
          refine lv_goto (tgt := 394) hx hb dX10_readOrder_390 (by decide) ?_
          obtain ⟨σ45, hq44, ho⟩ := bnd_ ho
          refine k_vV (As := [.int 1]) (rest := []) S F B (c_X10_expects l G σ36 _ 1 hq44) (kq (by decide) : kd 198 = 21 ∧ 198 < NN) rfl rfl (cwV 1 hts gX10_readOrder_X10_expects rfl rfl rfl (by decide +kernel) ⟨Nat.le_of_ble_eq_true rfl, Nat.le_of_ble_eq_true rfl⟩) rfl hl.1 rfl (Nat.le_of_ble_eq_true rfl) dX10_readOrder_394 ⟨Nat.le_of_ble_eq_true rfl, Nat.le_of_ble_eq_true rfl⟩ (fun H locs B => ?_)
          refine lv_aload_n hx hb dX10_readOrder_397 rfl (lv_at hl 2 rfl) ?_
          refine r_get (ci := 14) (C := RX10) (T := TX10) (N := 21) S F B (kq (by decide) : kd 198 = 21 ∧ 198 < NN) rfl rfl hiX10 14 (by decide) (by decide +kernel) rfl dX10_readOrder_398 ?_
          refine lv_iload_n hx hb dX10_readOrder_401 rfl (lv_at hl 1 rfl) ?_
          refine lv_iconst (v := 3) hx hb dX10_readOrder_402 (by decide) ?_
          refine lv_iadd hx hb dX10_readOrder_403 ?_
          refine lv_aload_n hx hb dX10_readOrder_404 rfl (lv_at hl 2 rfl) ?_
          obtain ⟨q46, σ47, hq46, ho⟩ := bnm_ ho
          refine k_iV (As := []) (rest := [.int (x1 + 3), .ref (G.2.2 205)]) S F B (c_X10_digit l G σ45 _ hq46) (kq (by decide) : kd 198 = 21 ∧ 198 < NN) rfl rfl (cwV 0 hts gX10_readOrder_X10_digit rfl rfl rfl (by decide +kernel) ⟨Nat.le_of_ble_eq_true rfl, Nat.le_of_ble_eq_true rfl⟩) rfl hl.1 rfl (Nat.le_of_ble_eq_true rfl) dX10_readOrder_405 ⟨Nat.le_of_ble_eq_true rfl, Nat.le_of_ble_eq_true rfl⟩ (fun H locs B => ?_)
          obtain ⟨hi, ho⟩ := gd_ ho
          refine r_iast S F B (kq (by decide) : kd 205 = 25 ∧ 205 < NN) (fun _ => rfl) hi dX10_readOrder_408 (fun H locs B => ?_)
          obtain ⟨σ48, eσ48, ho⟩ := lt_ ho
          rw [← eσ48] at B
          refine lv_goto (tgt := 508) hx hb dX10_readOrder_409 (by decide) ?_
          cases ho
          exact e_v B hx hb hr hlocks dX10_readOrder_508
    · have ho := in_ c9 ho
      by_cases c49 : q2 = 103
      · have ho := ip_ c49 ho
        refine lv_tableIn (off := 229) (tgt := 322) hx hb dX10_readOrder_93 (by rw [c49]; decide) (by rw [c49]; decide) (by rw [c49]; rfl) (by decide) ?_
        refine lv_aload_n hx hb dX10_readOrder_322 rfl (lv_at hl 2 rfl) ?_
        refine r_get (ci := 14) (C := RX10) (T := TX10) (N := 21) S F B (kq (by decide) : kd 198 = 21 ∧ 198 < NN) rfl rfl hiX10 14 (by decide) (by decide +kernel) rfl dX10_readOrder_323 ?_
        refine lv_iload_n hx hb dX10_readOrder_326 rfl (lv_at hl 1 rfl) ?_
        refine lv_iconst (v := 1) hx hb dX10_readOrder_327 (by decide) ?_
        refine lv_iadd hx hb dX10_readOrder_328 ?_
        refine lv_aload_n hx hb dX10_readOrder_329 rfl (lv_at hl 2 rfl) ?_
        obtain ⟨q50, σ51, hq50, ho⟩ := bnm_ ho
        refine k_iV (As := []) (rest := [.int (x1 + 1), .ref (G.2.2 205)]) S F B (c_X10_number l G σ8 _ hq50) (kq (by decide) : kd 198 = 21 ∧ 198 < NN) rfl rfl (cwV 0 hts gX10_readOrder_X10_number rfl rfl rfl (by decide +kernel) ⟨Nat.le_of_ble_eq_true rfl, Nat.le_of_ble_eq_true rfl⟩) rfl hl.1 rfl (Nat.le_of_ble_eq_true rfl) dX10_readOrder_330 ⟨Nat.le_of_ble_eq_true rfl, Nat.le_of_ble_eq_true rfl⟩ (fun H locs B => ?_)
        obtain ⟨hi, ho⟩ := gd_ ho
        refine r_iast S F B (kq (by decide) : kd 205 = 25 ∧ 205 < NN) (fun _ => rfl) hi dX10_readOrder_333 (fun H locs B => ?_)
        obtain ⟨σ52, eσ52, ho⟩ := lt_ ho
        rw [← eσ52] at B
        refine lv_goto (tgt := 508) hx hb dX10_readOrder_334 (by decide) ?_
        cases ho
        exact e_v B hx hb hr hlocks dX10_readOrder_508
      · have ho := in_ c49 ho
        by_cases c53 : q2 = 104
        · have ho := ip_ c53 ho
          refine lv_tableIn (off := 103) (tgt := 196) hx hb dX10_readOrder_93 (by rw [c53]; decide) (by rw [c53]; decide) (by rw [c53]; rfl) (by decide) ?_
          refine lv_aload_n hx hb dX10_readOrder_196 rfl (lv_at hl 2 rfl) ?_
          refine lv_iload_n hx hb dX10_readOrder_197 rfl (lv_at hl 1 rfl) ?_
          refine lv_iconst (v := 1) hx hb dX10_readOrder_198 (by decide) ?_
          refine lv_iadd hx hb dX10_readOrder_199 ?_
          obtain ⟨σ55, hq54, ho⟩ := bnd_ ho
          refine k_vV (As := [.int (x1 + 1)]) (rest := []) S F B (c_X10_cells l G σ8 _ (x1 + 1) hq54) (kq (by decide) : kd 198 = 21 ∧ 198 < NN) rfl rfl (cwV 1 hts gX10_readOrder_X10_cells rfl rfl rfl (by decide +kernel) ⟨Nat.le_of_ble_eq_true rfl, Nat.le_of_ble_eq_true rfl⟩) rfl hl.1 rfl (Nat.le_of_ble_eq_true rfl) dX10_readOrder_200 ⟨Nat.le_of_ble_eq_true rfl, Nat.le_of_ble_eq_true rfl⟩ (fun H locs B => ?_)
          refine lv_aload_n hx hb dX10_readOrder_203 rfl (lv_at hl 2 rfl) ?_
          refine lv_aload_n hx hb dX10_readOrder_204 rfl (lv_at hl 2 rfl) ?_
          obtain ⟨q56, hq56, ho⟩ := bnd_ ho
          refine k_iV (As := []) (rest := [.ref (G.2.2 198)]) S F B (c_X10_here l G σ55 _ hq56) (kq (by decide) : kd 198 = 21 ∧ 198 < NN) rfl rfl (cwV 0 hts gX10_readOrder_X10_here rfl rfl rfl (by decide +kernel) ⟨Nat.le_of_ble_eq_true rfl, Nat.le_of_ble_eq_true rfl⟩) rfl hl.1 rfl (Nat.le_of_ble_eq_true rfl) dX10_readOrder_205 ⟨Nat.le_of_ble_eq_true rfl, Nat.le_of_ble_eq_true rfl⟩ (fun H locs B => ?_)
          refine lv_bipush (v := 61) hx hb dX10_readOrder_208 (by decide) ?_
          refine lv_icmp_ne (tgt := 217) hx hb dX10_readOrder_210 (by decide) (fun c57 => ?_) (fun c57 => ?_)
          · have ho := in_ c57 ho
            refine lv_iconst (v := 0) hx hb dX10_readOrder_217 (by decide) ?_
            obtain ⟨σ59, hq58, ho⟩ := bnd_ ho
            refine k_vV (As := [.int 0]) (rest := []) S F B (c_X10_expects l G σ55 _ 0 hq58) (kq (by decide) : kd 198 = 21 ∧ 198 < NN) rfl rfl (cwV 1 hts gX10_readOrder_X10_expects rfl rfl rfl (by decide +kernel) ⟨Nat.le_of_ble_eq_true rfl, Nat.le_of_ble_eq_true rfl⟩) rfl hl.1 rfl (Nat.le_of_ble_eq_true rfl) dX10_readOrder_218 ⟨Nat.le_of_ble_eq_true rfl, Nat.le_of_ble_eq_true rfl⟩ (fun H locs B => ?_)
            refine lv_aload_n hx hb dX10_readOrder_221 rfl (lv_at hl 2 rfl) ?_
            refine r_get (ci := 14) (C := RX10) (T := TX10) (N := 21) S F B (kq (by decide) : kd 198 = 21 ∧ 198 < NN) rfl rfl hiX10 14 (by decide) (by decide +kernel) rfl dX10_readOrder_222 ?_
            refine lv_iload_n hx hb dX10_readOrder_225 rfl (lv_at hl 1 rfl) ?_
            refine lv_iconst (v := 3) hx hb dX10_readOrder_226 (by decide) ?_
            refine lv_iadd hx hb dX10_readOrder_227 ?_
            refine lv_aload_n hx hb dX10_readOrder_228 rfl (lv_at hl 2 rfl) ?_
            obtain ⟨q60, σ61, hq60, ho⟩ := bnm_ ho
            refine k_iV (As := []) (rest := [.int (x1 + 3), .ref (G.2.2 205)]) S F B (c_X10_digit l G σ59 _ hq60) (kq (by decide) : kd 198 = 21 ∧ 198 < NN) rfl rfl (cwV 0 hts gX10_readOrder_X10_digit rfl rfl rfl (by decide +kernel) ⟨Nat.le_of_ble_eq_true rfl, Nat.le_of_ble_eq_true rfl⟩) rfl hl.1 rfl (Nat.le_of_ble_eq_true rfl) dX10_readOrder_229 ⟨Nat.le_of_ble_eq_true rfl, Nat.le_of_ble_eq_true rfl⟩ (fun H locs B => ?_)
            obtain ⟨hi, ho⟩ := gd_ ho
            refine r_iast S F B (kq (by decide) : kd 205 = 25 ∧ 205 < NN) (fun _ => rfl) hi dX10_readOrder_232 (fun H locs B => ?_)
            obtain ⟨σ62, eσ62, ho⟩ := lt_ ho
            rw [← eσ62] at B
            refine lv_goto (tgt := 508) hx hb dX10_readOrder_233 (by decide) ?_
            cases ho
            exact e_v B hx hb hr hlocks dX10_readOrder_508
          · have ho := ip_ c57 ho
            refine lv_iconst (v := 1) hx hb dX10_readOrder_213 (by decide) ?_
            refine lv_goto (tgt := 218) hx hb dX10_readOrder_214 (by decide) ?_
            obtain ⟨σ64, hq63, ho⟩ := bnd_ ho
            refine k_vV (As := [.int 1]) (rest := []) S F B (c_X10_expects l G σ55 _ 1 hq63) (kq (by decide) : kd 198 = 21 ∧ 198 < NN) rfl rfl (cwV 1 hts gX10_readOrder_X10_expects rfl rfl rfl (by decide +kernel) ⟨Nat.le_of_ble_eq_true rfl, Nat.le_of_ble_eq_true rfl⟩) rfl hl.1 rfl (Nat.le_of_ble_eq_true rfl) dX10_readOrder_218 ⟨Nat.le_of_ble_eq_true rfl, Nat.le_of_ble_eq_true rfl⟩ (fun H locs B => ?_)
            refine lv_aload_n hx hb dX10_readOrder_221 rfl (lv_at hl 2 rfl) ?_
            refine r_get (ci := 14) (C := RX10) (T := TX10) (N := 21) S F B (kq (by decide) : kd 198 = 21 ∧ 198 < NN) rfl rfl hiX10 14 (by decide) (by decide +kernel) rfl dX10_readOrder_222 ?_
            refine lv_iload_n hx hb dX10_readOrder_225 rfl (lv_at hl 1 rfl) ?_
            refine lv_iconst (v := 3) hx hb dX10_readOrder_226 (by decide) ?_
            refine lv_iadd hx hb dX10_readOrder_227 ?_
            refine lv_aload_n hx hb dX10_readOrder_228 rfl (lv_at hl 2 rfl) ?_
            obtain ⟨q65, σ66, hq65, ho⟩ := bnm_ ho
            refine k_iV (As := []) (rest := [.int (x1 + 3), .ref (G.2.2 205)]) S F B (c_X10_digit l G σ64 _ hq65) (kq (by decide) : kd 198 = 21 ∧ 198 < NN) rfl rfl (cwV 0 hts gX10_readOrder_X10_digit rfl rfl rfl (by decide +kernel) ⟨Nat.le_of_ble_eq_true rfl, Nat.le_of_ble_eq_true rfl⟩) rfl hl.1 rfl (Nat.le_of_ble_eq_true rfl) dX10_readOrder_229 ⟨Nat.le_of_ble_eq_true rfl, Nat.le_of_ble_eq_true rfl⟩ (fun H locs B => ?_)
            obtain ⟨hi, ho⟩ := gd_ ho
            refine r_iast S F B (kq (by decide) : kd 205 = 25 ∧ 205 < NN) (fun _ => rfl) hi dX10_readOrder_232 (fun H locs B => ?_)
            obtain ⟨σ67, eσ67, ho⟩ := lt_ ho
            rw [← eσ67] at B
            refine lv_goto (tgt := 508) hx hb dX10_readOrder_233 (by decide) ?_
            cases ho
            exact e_v B hx hb hr hlocks dX10_readOrder_508
        · have ho := in_ c53 ho
          by_cases c68 : q2 = 109
          · have ho := ip_ c68 ho
            refine lv_tableIn (off := 183) (tgt := 276) hx hb dX10_readOrder_93 (by rw [c68]; decide) (by rw [c68]; decide) (by rw [c68]; rfl) (by decide) ?_
            refine lv_aload_n hx hb dX10_readOrder_276 rfl (lv_at hl 2 rfl) ?_
            obtain ⟨q69, hq69, ho⟩ := bnd_ ho
            refine k_iV (As := []) (rest := []) S F B (c_X10_here l G σ8 _ hq69) (kq (by decide) : kd 198 = 21 ∧ 198 < NN) rfl rfl (cwV 0 hts gX10_readOrder_X10_here rfl rfl rfl (by decide +kernel) ⟨Nat.le_of_ble_eq_true rfl, Nat.le_of_ble_eq_true rfl⟩) rfl hl.1 rfl (Nat.le_of_ble_eq_true rfl) dX10_readOrder_277 ⟨Nat.le_of_ble_eq_true rfl, Nat.le_of_ble_eq_true rfl⟩ (fun H locs B => ?_)
            refine lv_bipush (v := 120) hx hb dX10_readOrder_280 (by decide) ?_
            refine lv_icmp_ne (tgt := 307) hx hb dX10_readOrder_282 (by decide) (fun c70 => ?_) (fun c70 => ?_)
            · have ho := in_ c70 ho
              refine lv_aload_n hx hb dX10_readOrder_307 rfl (lv_at hl 2 rfl) ?_
              refine r_get (ci := 14) (C := RX10) (T := TX10) (N := 21) S F B (kq (by decide) : kd 198 = 21 ∧ 198 < NN) rfl rfl hiX10 14 (by decide) (by decide +kernel) rfl dX10_readOrder_308 ?_
              refine lv_iload_n hx hb dX10_readOrder_311 rfl (lv_at hl 1 rfl) ?_
              refine lv_iconst (v := 1) hx hb dX10_readOrder_312 (by decide) ?_
              refine lv_iadd hx hb dX10_readOrder_313 ?_
              refine lv_aload_n hx hb dX10_readOrder_314 rfl (lv_at hl 2 rfl) ?_
              obtain ⟨q71, σ72, hq71, ho⟩ := bnm_ ho
              refine k_iV (As := []) (rest := [.int (x1 + 1), .ref (G.2.2 205)]) S F B (c_X10_number l G σ8 _ hq71) (kq (by decide) : kd 198 = 21 ∧ 198 < NN) rfl rfl (cwV 0 hts gX10_readOrder_X10_number rfl rfl rfl (by decide +kernel) ⟨Nat.le_of_ble_eq_true rfl, Nat.le_of_ble_eq_true rfl⟩) rfl hl.1 rfl (Nat.le_of_ble_eq_true rfl) dX10_readOrder_315 ⟨Nat.le_of_ble_eq_true rfl, Nat.le_of_ble_eq_true rfl⟩ (fun H locs B => ?_)
              obtain ⟨hi, ho⟩ := gd_ ho
              refine r_iast S F B (kq (by decide) : kd 205 = 25 ∧ 205 < NN) (fun _ => rfl) hi dX10_readOrder_318 (fun H locs B => ?_)
              obtain ⟨σ73, eσ73, ho⟩ := lt_ ho
              rw [← eσ73] at B
              refine lv_goto (tgt := 508) hx hb dX10_readOrder_319 (by decide) ?_
              cases ho
              exact e_v B hx hb hr hlocks dX10_readOrder_508
            · have ho := ip_ c70 ho
              refine lv_aload_n hx hb dX10_readOrder_285 rfl (lv_at hl 2 rfl) ?_
              refine lv_dup hx hb dX10_readOrder_286 rfl ?_
              refine r_get (ci := 14) (C := RX10) (T := TX10) (N := 21) S F B (kq (by decide) : kd 198 = 21 ∧ 198 < NN) rfl rfl hiX10 16 (by decide) (by decide +kernel) rfl dX10_readOrder_287 ?_
              refine lv_iconst (v := 1) hx hb dX10_readOrder_290 (by decide) ?_
              refine lv_iadd hx hb dX10_readOrder_291 ?_
              refine r_put (ci := 14) (C := RX10) (T := TX10) (N := 21) (ty := .int) S F B tyX10 tyX10_ok nmX10 (kq (by decide) : kd 198 = 21 ∧ 198 < NN) (fun _ => rfl) rfl hiX10 16 (by decide) (by decide +kernel) rfl rfl rfl rfl (fun _ => Nat.le_of_ble_eq_true rfl) (fun _ => rfl) dX10_readOrder_292 (fun H locs B => ?_)
              obtain ⟨σ74, eσ74, ho⟩ := lt_ ho
              rw [← eσ74] at B
              refine lv_aload_n hx hb dX10_readOrder_295 rfl (lv_at hl 2 rfl) ?_
              refine r_get (ci := 14) (C := RX10) (T := TX10) (N := 21) S F B (kq (by decide) : kd 198 = 21 ∧ 198 < NN) rfl rfl hiX10 14 (by decide) (by decide +kernel) rfl dX10_readOrder_296 ?_
              refine lv_iload_n hx hb dX10_readOrder_299 rfl (lv_at hl 1 rfl) ?_
              refine lv_iconst (v := 1) hx hb dX10_readOrder_300 (by decide) ?_
              refine lv_iadd hx hb dX10_readOrder_301 ?_
              refine lv_iconst (v := (-1)) hx hb dX10_readOrder_302 (by decide) ?_
              obtain ⟨hi, ho⟩ := gd_ ho
              refine r_iast S F B (kq (by decide) : kd 205 = 25 ∧ 205 < NN) (fun _ => rfl) hi dX10_readOrder_303 (fun H locs B => ?_)
              obtain ⟨σ75, eσ75, ho⟩ := lt_ ho
              rw [← eσ75] at B
              refine lv_goto (tgt := 508) hx hb dX10_readOrder_304 (by decide) ?_
              cases ho
              exact e_v B hx hb hr hlocks dX10_readOrder_508
          · have ho := in_ c68 ho
            by_cases c76 : q2 = 114
            · have ho := ip_ c76 ho
              refine lv_tableIn (off := 370) (tgt := 463) hx hb dX10_readOrder_93 (by rw [c76]; decide) (by rw [c76]; decide) (by rw [c76]; rfl) (by decide) ?_
              refine lv_aload_n hx hb dX10_readOrder_463 rfl (lv_at hl 2 rfl) ?_
              refine r_get (ci := 14) (C := RX10) (T := TX10) (N := 21) S F B (kq (by decide) : kd 198 = 21 ∧ 198 < NN) rfl rfl hiX10 14 (by decide) (by decide +kernel) rfl dX10_readOrder_464 ?_
              refine lv_iload_n hx hb dX10_readOrder_467 rfl (lv_at hl 1 rfl) ?_
              refine lv_iconst (v := 1) hx hb dX10_readOrder_468 (by decide) ?_
              refine lv_iadd hx hb dX10_readOrder_469 ?_
              refine lv_aload_n hx hb dX10_readOrder_470 rfl (lv_at hl 2 rfl) ?_
              obtain ⟨q77, σ78, hq77, ho⟩ := bnm_ ho
              refine k_iV (As := []) (rest := [.int (x1 + 1), .ref (G.2.2 205)]) S F B (c_X10_digit l G σ8 _ hq77) (kq (by decide) : kd 198 = 21 ∧ 198 < NN) rfl rfl (cwV 0 hts gX10_readOrder_X10_digit rfl rfl rfl (by decide +kernel) ⟨Nat.le_of_ble_eq_true rfl, Nat.le_of_ble_eq_true rfl⟩) rfl hl.1 rfl (Nat.le_of_ble_eq_true rfl) dX10_readOrder_471 ⟨Nat.le_of_ble_eq_true rfl, Nat.le_of_ble_eq_true rfl⟩ (fun H locs B => ?_)
              obtain ⟨hi, ho⟩ := gd_ ho
              refine r_iast S F B (kq (by decide) : kd 205 = 25 ∧ 205 < NN) (fun _ => rfl) hi dX10_readOrder_474 (fun H locs B => ?_)
              obtain ⟨σ79, eσ79, ho⟩ := lt_ ho
              rw [← eσ79] at B
              refine lv_aload_n hx hb dX10_readOrder_475 rfl (lv_at hl 2 rfl) ?_
              refine lv_aload_n hx hb dX10_readOrder_476 rfl (lv_at hl 2 rfl) ?_
              obtain ⟨q80, hq80, ho⟩ := bnd_ ho
              refine k_iV (As := []) (rest := [.ref (G.2.2 198)]) S F B (c_X10_here l G σ79 _ hq80) (kq (by decide) : kd 198 = 21 ∧ 198 < NN) rfl rfl (cwV 0 hts gX10_readOrder_X10_here rfl rfl rfl (by decide +kernel) ⟨Nat.le_of_ble_eq_true rfl, Nat.le_of_ble_eq_true rfl⟩) rfl hl.1 rfl (Nat.le_of_ble_eq_true rfl) dX10_readOrder_477 ⟨Nat.le_of_ble_eq_true rfl, Nat.le_of_ble_eq_true rfl⟩ (fun H locs B => ?_)
              refine lv_bipush (v := 43) hx hb dX10_readOrder_480 (by decide) ?_
              refine lv_icmp_ne (tgt := 489) hx hb dX10_readOrder_482 (by decide) (fun c81 => ?_) (fun c81 => ?_)
              · have ho := in_ c81 ho
                refine lv_iconst (v := 0) hx hb dX10_readOrder_489 (by decide) ?_
                obtain ⟨σ83, hq82, ho⟩ := bnd_ ho
                refine k_vV (As := [.int 0]) (rest := []) S F B (c_X10_expects l G σ79 _ 0 hq82) (kq (by decide) : kd 198 = 21 ∧ 198 < NN) rfl rfl (cwV 1 hts gX10_readOrder_X10_expects rfl rfl rfl (by decide +kernel) ⟨Nat.le_of_ble_eq_true rfl, Nat.le_of_ble_eq_true rfl⟩) rfl hl.1 rfl (Nat.le_of_ble_eq_true rfl) dX10_readOrder_490 ⟨Nat.le_of_ble_eq_true rfl, Nat.le_of_ble_eq_true rfl⟩ (fun H locs B => ?_)
                refine lv_aload_n hx hb dX10_readOrder_493 rfl (lv_at hl 2 rfl) ?_
                refine r_get (ci := 14) (C := RX10) (T := TX10) (N := 21) S F B (kq (by decide) : kd 198 = 21 ∧ 198 < NN) rfl rfl hiX10 14 (by decide) (by decide +kernel) rfl dX10_readOrder_494 ?_
                refine lv_iload_n hx hb dX10_readOrder_497 rfl (lv_at hl 1 rfl) ?_
                refine lv_iconst (v := 2) hx hb dX10_readOrder_498 (by decide) ?_
                refine lv_iadd hx hb dX10_readOrder_499 ?_
                refine lv_aload_n hx hb dX10_readOrder_500 rfl (lv_at hl 2 rfl) ?_
                obtain ⟨q84, σ85, hq84, ho⟩ := bnm_ ho
                refine k_iV (As := []) (rest := [.int (x1 + 2), .ref (G.2.2 205)]) S F B (c_X10_digit l G σ83 _ hq84) (kq (by decide) : kd 198 = 21 ∧ 198 < NN) rfl rfl (cwV 0 hts gX10_readOrder_X10_digit rfl rfl rfl (by decide +kernel) ⟨Nat.le_of_ble_eq_true rfl, Nat.le_of_ble_eq_true rfl⟩) rfl hl.1 rfl (Nat.le_of_ble_eq_true rfl) dX10_readOrder_501 ⟨Nat.le_of_ble_eq_true rfl, Nat.le_of_ble_eq_true rfl⟩ (fun H locs B => ?_)
                obtain ⟨hi, ho⟩ := gd_ ho
                refine r_iast S F B (kq (by decide) : kd 205 = 25 ∧ 205 < NN) (fun _ => rfl) hi dX10_readOrder_504 (fun H locs B => ?_)
                obtain ⟨σ86, eσ86, ho⟩ := lt_ ho
                rw [← eσ86] at B
                refine lv_goto (tgt := 508) hx hb dX10_readOrder_505 (by decide) ?_
                cases ho
                exact e_v B hx hb hr hlocks dX10_readOrder_508
              · have ho := ip_ c81 ho
                refine lv_iconst (v := 1) hx hb dX10_readOrder_485 (by decide) ?_
                refine lv_goto (tgt := 490) hx hb dX10_readOrder_486 (by decide) ?_
                obtain ⟨σ88, hq87, ho⟩ := bnd_ ho
                refine k_vV (As := [.int 1]) (rest := []) S F B (c_X10_expects l G σ79 _ 1 hq87) (kq (by decide) : kd 198 = 21 ∧ 198 < NN) rfl rfl (cwV 1 hts gX10_readOrder_X10_expects rfl rfl rfl (by decide +kernel) ⟨Nat.le_of_ble_eq_true rfl, Nat.le_of_ble_eq_true rfl⟩) rfl hl.1 rfl (Nat.le_of_ble_eq_true rfl) dX10_readOrder_490 ⟨Nat.le_of_ble_eq_true rfl, Nat.le_of_ble_eq_true rfl⟩ (fun H locs B => ?_)
                refine lv_aload_n hx hb dX10_readOrder_493 rfl (lv_at hl 2 rfl) ?_
                refine r_get (ci := 14) (C := RX10) (T := TX10) (N := 21) S F B (kq (by decide) : kd 198 = 21 ∧ 198 < NN) rfl rfl hiX10 14 (by decide) (by decide +kernel) rfl dX10_readOrder_494 ?_
                refine lv_iload_n hx hb dX10_readOrder_497 rfl (lv_at hl 1 rfl) ?_
                refine lv_iconst (v := 2) hx hb dX10_readOrder_498 (by decide) ?_
                refine lv_iadd hx hb dX10_readOrder_499 ?_
                refine lv_aload_n hx hb dX10_readOrder_500 rfl (lv_at hl 2 rfl) ?_
                obtain ⟨q89, σ90, hq89, ho⟩ := bnm_ ho
                refine k_iV (As := []) (rest := [.int (x1 + 2), .ref (G.2.2 205)]) S F B (c_X10_digit l G σ88 _ hq89) (kq (by decide) : kd 198 = 21 ∧ 198 < NN) rfl rfl (cwV 0 hts gX10_readOrder_X10_digit rfl rfl rfl (by decide +kernel) ⟨Nat.le_of_ble_eq_true rfl, Nat.le_of_ble_eq_true rfl⟩) rfl hl.1 rfl (Nat.le_of_ble_eq_true rfl) dX10_readOrder_501 ⟨Nat.le_of_ble_eq_true rfl, Nat.le_of_ble_eq_true rfl⟩ (fun H locs B => ?_)
                obtain ⟨hi, ho⟩ := gd_ ho
                refine r_iast S F B (kq (by decide) : kd 205 = 25 ∧ 205 < NN) (fun _ => rfl) hi dX10_readOrder_504 (fun H locs B => ?_)
                obtain ⟨σ91, eσ91, ho⟩ := lt_ ho
                rw [← eσ91] at B
                refine lv_goto (tgt := 508) hx hb dX10_readOrder_505 (by decide) ?_
                cases ho
                exact e_v B hx hb hr hlocks dX10_readOrder_508
            · have ho := in_ c76 ho
              by_cases c92 : q2 = 116
              · have ho := ip_ c92 ho
                refine lv_tableIn (off := 143) (tgt := 236) hx hb dX10_readOrder_93 (by rw [c92]; decide) (by rw [c92]; decide) (by rw [c92]; rfl) (by decide) ?_
                refine lv_aload_n hx hb dX10_readOrder_236 rfl (lv_at hl 2 rfl) ?_
                refine r_get (ci := 14) (C := RX10) (T := TX10) (N := 21) S F B (kq (by decide) : kd 198 = 21 ∧ 198 < NN) rfl rfl hiX10 14 (by decide) (by decide +kernel) rfl dX10_readOrder_237 ?_
                refine lv_iload_n hx hb dX10_readOrder_240 rfl (lv_at hl 1 rfl) ?_
                refine lv_iconst (v := 1) hx hb dX10_readOrder_241 (by decide) ?_
                refine lv_iadd hx hb dX10_readOrder_242 ?_
                refine lv_aload_n hx hb dX10_readOrder_243 rfl (lv_at hl 2 rfl) ?_
                obtain ⟨q93, σ94, hq93, ho⟩ := bnm_ ho
                refine k_iV (As := []) (rest := [.int (x1 + 1), .ref (G.2.2 205)]) S F B (c_X10_digit l G σ8 _ hq93) (kq (by decide) : kd 198 = 21 ∧ 198 < NN) rfl rfl (cwV 0 hts gX10_readOrder_X10_digit rfl rfl rfl (by decide +kernel) ⟨Nat.le_of_ble_eq_true rfl, Nat.le_of_ble_eq_true rfl⟩) rfl hl.1 rfl (Nat.le_of_ble_eq_true rfl) dX10_readOrder_244 ⟨Nat.le_of_ble_eq_true rfl, Nat.le_of_ble_eq_true rfl⟩ (fun H locs B => ?_)
                obtain ⟨hi, ho⟩ := gd_ ho
                refine r_iast S F B (kq (by decide) : kd 205 = 25 ∧ 205 < NN) (fun _ => rfl) hi dX10_readOrder_247 (fun H locs B => ?_)
                obtain ⟨σ95, eσ95, ho⟩ := lt_ ho
                rw [← eσ95] at B
                refine lv_aload_n hx hb dX10_readOrder_248 rfl (lv_at hl 2 rfl) ?_
                refine lv_aload_n hx hb dX10_readOrder_249 rfl (lv_at hl 2 rfl) ?_
                obtain ⟨q96, hq96, ho⟩ := bnd_ ho
                refine k_iV (As := []) (rest := [.ref (G.2.2 198)]) S F B (c_X10_here l G σ95 _ hq96) (kq (by decide) : kd 198 = 21 ∧ 198 < NN) rfl rfl (cwV 0 hts gX10_readOrder_X10_here rfl rfl rfl (by decide +kernel) ⟨Nat.le_of_ble_eq_true rfl, Nat.le_of_ble_eq_true rfl⟩) rfl hl.1 rfl (Nat.le_of_ble_eq_true rfl) dX10_readOrder_250 ⟨Nat.le_of_ble_eq_true rfl, Nat.le_of_ble_eq_true rfl⟩ (fun H locs B => ?_)
                refine lv_bipush (v := 58) hx hb dX10_readOrder_253 (by decide) ?_
                refine lv_icmp_ne (tgt := 262) hx hb dX10_readOrder_255 (by decide) (fun c97 => ?_) (fun c97 => ?_)
                · have ho := in_ c97 ho
                  refine lv_iconst (v := 0) hx hb dX10_readOrder_262 (by decide) ?_
                  obtain ⟨σ99, hq98, ho⟩ := bnd_ ho
                  refine k_vV (As := [.int 0]) (rest := []) S F B (c_X10_expects l G σ95 _ 0 hq98) (kq (by decide) : kd 198 = 21 ∧ 198 < NN) rfl rfl (cwV 1 hts gX10_readOrder_X10_expects rfl rfl rfl (by decide +kernel) ⟨Nat.le_of_ble_eq_true rfl, Nat.le_of_ble_eq_true rfl⟩) rfl hl.1 rfl (Nat.le_of_ble_eq_true rfl) dX10_readOrder_263 ⟨Nat.le_of_ble_eq_true rfl, Nat.le_of_ble_eq_true rfl⟩ (fun H locs B => ?_)
                  refine lv_aload_n hx hb dX10_readOrder_266 rfl (lv_at hl 2 rfl) ?_
                  refine lv_iload_n hx hb dX10_readOrder_267 rfl (lv_at hl 1 rfl) ?_
                  refine lv_iconst (v := 2) hx hb dX10_readOrder_268 (by decide) ?_
                  refine lv_iadd hx hb dX10_readOrder_269 ?_
                  obtain ⟨σ101, hq100, ho⟩ := bnd_ ho
                  refine k_vV (As := [.int (x1 + 2)]) (rest := []) S F B (c_X10_cells l G σ99 _ (x1 + 2) hq100) (kq (by decide) : kd 198 = 21 ∧ 198 < NN) rfl rfl (cwV 1 hts gX10_readOrder_X10_cells rfl rfl rfl (by decide +kernel) ⟨Nat.le_of_ble_eq_true rfl, Nat.le_of_ble_eq_true rfl⟩) rfl hl.1 rfl (Nat.le_of_ble_eq_true rfl) dX10_readOrder_270 ⟨Nat.le_of_ble_eq_true rfl, Nat.le_of_ble_eq_true rfl⟩ (fun H locs B => ?_)
                  refine lv_goto (tgt := 508) hx hb dX10_readOrder_273 (by decide) ?_
                  cases ho
                  exact e_v B hx hb hr hlocks dX10_readOrder_508
                · have ho := ip_ c97 ho
                  refine lv_iconst (v := 1) hx hb dX10_readOrder_258 (by decide) ?_
                  refine lv_goto (tgt := 263) hx hb dX10_readOrder_259 (by decide) ?_
                  obtain ⟨σ103, hq102, ho⟩ := bnd_ ho
                  refine k_vV (As := [.int 1]) (rest := []) S F B (c_X10_expects l G σ95 _ 1 hq102) (kq (by decide) : kd 198 = 21 ∧ 198 < NN) rfl rfl (cwV 1 hts gX10_readOrder_X10_expects rfl rfl rfl (by decide +kernel) ⟨Nat.le_of_ble_eq_true rfl, Nat.le_of_ble_eq_true rfl⟩) rfl hl.1 rfl (Nat.le_of_ble_eq_true rfl) dX10_readOrder_263 ⟨Nat.le_of_ble_eq_true rfl, Nat.le_of_ble_eq_true rfl⟩ (fun H locs B => ?_)
                  refine lv_aload_n hx hb dX10_readOrder_266 rfl (lv_at hl 2 rfl) ?_
                  refine lv_iload_n hx hb dX10_readOrder_267 rfl (lv_at hl 1 rfl) ?_
                  refine lv_iconst (v := 2) hx hb dX10_readOrder_268 (by decide) ?_
                  refine lv_iadd hx hb dX10_readOrder_269 ?_
                  obtain ⟨σ105, hq104, ho⟩ := bnd_ ho
                  refine k_vV (As := [.int (x1 + 2)]) (rest := []) S F B (c_X10_cells l G σ103 _ (x1 + 2) hq104) (kq (by decide) : kd 198 = 21 ∧ 198 < NN) rfl rfl (cwV 1 hts gX10_readOrder_X10_cells rfl rfl rfl (by decide +kernel) ⟨Nat.le_of_ble_eq_true rfl, Nat.le_of_ble_eq_true rfl⟩) rfl hl.1 rfl (Nat.le_of_ble_eq_true rfl) dX10_readOrder_270 ⟨Nat.le_of_ble_eq_true rfl, Nat.le_of_ble_eq_true rfl⟩ (fun H locs B => ?_)
                  refine lv_goto (tgt := 508) hx hb dX10_readOrder_273 (by decide) ?_
                  cases ho
                  exact e_v B hx hb hr hlocks dX10_readOrder_508
              · have ho := in_ c92 ho
                by_cases c106 : q2 = 118
                · have ho := ip_ c106 ho
                  refine lv_tableIn (off := 229) (tgt := 322) hx hb dX10_readOrder_93 (by rw [c106]; decide) (by rw [c106]; decide) (by rw [c106]; rfl) (by decide) ?_
                  refine lv_aload_n hx hb dX10_readOrder_322 rfl (lv_at hl 2 rfl) ?_
                  refine r_get (ci := 14) (C := RX10) (T := TX10) (N := 21) S F B (kq (by decide) : kd 198 = 21 ∧ 198 < NN) rfl rfl hiX10 14 (by decide) (by decide +kernel) rfl dX10_readOrder_323 ?_
                  refine lv_iload_n hx hb dX10_readOrder_326 rfl (lv_at hl 1 rfl) ?_
                  refine lv_iconst (v := 1) hx hb dX10_readOrder_327 (by decide) ?_
                  refine lv_iadd hx hb dX10_readOrder_328 ?_
                  refine lv_aload_n hx hb dX10_readOrder_329 rfl (lv_at hl 2 rfl) ?_
                  obtain ⟨q107, σ108, hq107, ho⟩ := bnm_ ho
                  refine k_iV (As := []) (rest := [.int (x1 + 1), .ref (G.2.2 205)]) S F B (c_X10_number l G σ8 _ hq107) (kq (by decide) : kd 198 = 21 ∧ 198 < NN) rfl rfl (cwV 0 hts gX10_readOrder_X10_number rfl rfl rfl (by decide +kernel) ⟨Nat.le_of_ble_eq_true rfl, Nat.le_of_ble_eq_true rfl⟩) rfl hl.1 rfl (Nat.le_of_ble_eq_true rfl) dX10_readOrder_330 ⟨Nat.le_of_ble_eq_true rfl, Nat.le_of_ble_eq_true rfl⟩ (fun H locs B => ?_)
                  obtain ⟨hi, ho⟩ := gd_ ho
                  refine r_iast S F B (kq (by decide) : kd 205 = 25 ∧ 205 < NN) (fun _ => rfl) hi dX10_readOrder_333 (fun H locs B => ?_)
                  obtain ⟨σ109, eσ109, ho⟩ := lt_ ho
                  rw [← eσ109] at B
                  refine lv_goto (tgt := 508) hx hb dX10_readOrder_334 (by decide) ?_
                  cases ho
                  exact e_v B hx hb hr hlocks dX10_readOrder_508
                · have ho := in_ c106 ho
                  by_cases c110 : q2 = 119
                  · have ho := ip_ c110 ho
                    refine lv_tableIn (off := 319) (tgt := 412) hx hb dX10_readOrder_93 (by rw [c110]; decide) (by rw [c110]; decide) (by rw [c110]; rfl) (by decide) ?_
                    refine lv_aload_n hx hb dX10_readOrder_412 rfl (lv_at hl 2 rfl) ?_
                    refine r_get (ci := 14) (C := RX10) (T := TX10) (N := 21) S F B (kq (by decide) : kd 198 = 21 ∧ 198 < NN) rfl rfl hiX10 14 (by decide) (by decide +kernel) rfl dX10_readOrder_413 ?_
                    refine lv_iload_n hx hb dX10_readOrder_416 rfl (lv_at hl 1 rfl) ?_
                    refine lv_iconst (v := 1) hx hb dX10_readOrder_417 (by decide) ?_
                    refine lv_iadd hx hb dX10_readOrder_418 ?_
                    refine lv_aload_n hx hb dX10_readOrder_419 rfl (lv_at hl 2 rfl) ?_
                    obtain ⟨q111, σ112, hq111, ho⟩ := bnm_ ho
                    refine k_iV (As := []) (rest := [.int (x1 + 1), .ref (G.2.2 205)]) S F B (c_X10_digit l G σ8 _ hq111) (kq (by decide) : kd 198 = 21 ∧ 198 < NN) rfl rfl (cwV 0 hts gX10_readOrder_X10_digit rfl rfl rfl (by decide +kernel) ⟨Nat.le_of_ble_eq_true rfl, Nat.le_of_ble_eq_true rfl⟩) rfl hl.1 rfl (Nat.le_of_ble_eq_true rfl) dX10_readOrder_420 ⟨Nat.le_of_ble_eq_true rfl, Nat.le_of_ble_eq_true rfl⟩ (fun H locs B => ?_)
                    obtain ⟨hi, ho⟩ := gd_ ho
                    refine r_iast S F B (kq (by decide) : kd 205 = 25 ∧ 205 < NN) (fun _ => rfl) hi dX10_readOrder_423 (fun H locs B => ?_)
                    obtain ⟨σ113, eσ113, ho⟩ := lt_ ho
                    rw [← eσ113] at B
                    refine lv_aload_n hx hb dX10_readOrder_424 rfl (lv_at hl 2 rfl) ?_
                    refine r_get (ci := 14) (C := RX10) (T := TX10) (N := 21) S F B (kq (by decide) : kd 198 = 21 ∧ 198 < NN) rfl rfl hiX10 14 (by decide) (by decide +kernel) rfl dX10_readOrder_425 ?_
                    refine lv_iload_n hx hb dX10_readOrder_428 rfl (lv_at hl 1 rfl) ?_
                    refine lv_iconst (v := 2) hx hb dX10_readOrder_429 (by decide) ?_
                    refine lv_iadd hx hb dX10_readOrder_430 ?_
                    refine lv_aload_n hx hb dX10_readOrder_431 rfl (lv_at hl 2 rfl) ?_
                    obtain ⟨q114, hq114, ho⟩ := bnd_ ho
                    refine k_iV (As := []) (rest := [.int (x1 + 2), .ref (G.2.2 205)]) S F B (c_X10_here l G σ113 _ hq114) (kq (by decide) : kd 198 = 21 ∧ 198 < NN) rfl rfl (cwV 0 hts gX10_readOrder_X10_here rfl rfl rfl (by decide +kernel) ⟨Nat.le_of_ble_eq_true rfl, Nat.le_of_ble_eq_true rfl⟩) rfl hl.1 rfl (Nat.le_of_ble_eq_true rfl) dX10_readOrder_432 ⟨Nat.le_of_ble_eq_true rfl, Nat.le_of_ble_eq_true rfl⟩ (fun H locs B => ?_)
                    obtain ⟨q115, hq115, ho⟩ := bnd_ ho
                    refine k_iS (As := [.int q114]) (rest := [.int (x1 + 2), .ref (G.2.2 205)]) S F B (c_X10_directionOf l G σ113 _ q114 hq115) (va_cwS 1 hts gX10_readOrder_X10_directionOf rfl rfl rfl (by decide +kernel) ⟨Nat.le_of_ble_eq_true rfl, Nat.le_of_ble_eq_true rfl⟩) rfl hl.1 rfl (Nat.le_of_ble_eq_true rfl) dX10_readOrder_435 ⟨Nat.le_of_ble_eq_true rfl, Nat.le_of_ble_eq_true rfl⟩ (fun H locs B => ?_)
                    obtain ⟨hi, ho⟩ := gd_ ho
                    refine r_iast S F B (kq (by decide) : kd 205 = 25 ∧ 205 < NN) (fun _ => rfl) hi dX10_readOrder_438 (fun H locs B => ?_)
                    obtain ⟨σ116, eσ116, ho⟩ := lt_ ho
                    rw [← eσ116] at B
                    refine lv_aload_n hx hb dX10_readOrder_439 rfl (lv_at hl 2 rfl) ?_
                    refine lv_aload_n hx hb dX10_readOrder_440 rfl (lv_at hl 2 rfl) ?_
                    refine r_get (ci := 14) (C := RX10) (T := TX10) (N := 21) S F B (kq (by decide) : kd 198 = 21 ∧ 198 < NN) rfl rfl hiX10 14 (by decide) (by decide +kernel) rfl dX10_readOrder_441 ?_
                    refine lv_iload_n hx hb dX10_readOrder_444 rfl (lv_at hl 1 rfl) ?_
                    refine lv_iconst (v := 2) hx hb dX10_readOrder_445 (by decide) ?_
                    refine lv_iadd hx hb dX10_readOrder_446 ?_
                    obtain ⟨hi, ho⟩ := gd_ ho
                    refine r_iald S F B (kq (by decide) : kd 205 = 25 ∧ 205 < NN) rfl hi dX10_readOrder_447 ?_
                    refine lv_iconst (v := (-1)) hx hb dX10_readOrder_448 (by decide) ?_
                    refine lv_icmp_eq (tgt := 456) hx hb dX10_readOrder_449 (by decide) (fun c117 => ?_) (fun c117 => ?_)
                    · have ho := ip_ c117 ho
                      refine lv_iconst (v := 0) hx hb dX10_readOrder_456 (by decide) ?_
                      obtain ⟨σ119, hq118, ho⟩ := bnd_ ho
                      refine k_vV (As := [.int 0]) (rest := []) S F B (c_X10_expects l G σ116 _ 0 hq118) (kq (by decide) : kd 198 = 21 ∧ 198 < NN) rfl rfl (cwV 1 hts gX10_readOrder_X10_expects rfl rfl rfl (by decide +kernel) ⟨Nat.le_of_ble_eq_true rfl, Nat.le_of_ble_eq_true rfl⟩) rfl hl.1 rfl (Nat.le_of_ble_eq_true rfl) dX10_readOrder_457 ⟨Nat.le_of_ble_eq_true rfl, Nat.le_of_ble_eq_true rfl⟩ (fun H locs B => ?_)
                      refine lv_goto (tgt := 508) hx hb dX10_readOrder_460 (by decide) ?_
                      cases ho
                      exact e_v B hx hb hr hlocks dX10_readOrder_508
                    · have ho := in_ c117 ho
                      refine lv_iconst (v := 1) hx hb dX10_readOrder_452 (by decide) ?_
                      refine lv_goto (tgt := 457) hx hb dX10_readOrder_453 (by decide) ?_
                      obtain ⟨σ121, hq120, ho⟩ := bnd_ ho
                      refine k_vV (As := [.int 1]) (rest := []) S F B (c_X10_expects l G σ116 _ 1 hq120) (kq (by decide) : kd 198 = 21 ∧ 198 < NN) rfl rfl (cwV 1 hts gX10_readOrder_X10_expects rfl rfl rfl (by decide +kernel) ⟨Nat.le_of_ble_eq_true rfl, Nat.le_of_ble_eq_true rfl⟩) rfl hl.1 rfl (Nat.le_of_ble_eq_true rfl) dX10_readOrder_457 ⟨Nat.le_of_ble_eq_true rfl, Nat.le_of_ble_eq_true rfl⟩ (fun H locs B => ?_)
                      refine lv_goto (tgt := 508) hx hb dX10_readOrder_460 (by decide) ?_
                      cases ho
                      exact e_v B hx hb hr hlocks dX10_readOrder_508
                  · have ho := in_ c110 ho
                    refine t_tableD (tgt := 508) hx hb dX10_readOrder_93 rfl (fun j hj => ?_) (by decide) ?_
                    · have hj : j < 22 := hj
                      rcases (show j = 0 ∨ j = 1 ∨ j = 2 ∨ j = 3 ∨ j = 4 ∨ j = 5 ∨ j = 6 ∨ j = 7 ∨ j = 8 ∨ j = 9 ∨ j = 10 ∨ j = 11 ∨ j = 12 ∨ j = 13 ∨ j = 14 ∨ j = 15 ∨ j = 16 ∨ j = 17 ∨ j = 18 ∨ j = 19 ∨ j = 20 ∨ j = 21 by omega) with rfl | rfl | rfl | rfl | rfl | rfl | rfl | rfl | rfl | rfl | rfl | rfl | rfl | rfl | rfl | rfl | rfl | rfl | rfl | rfl | rfl | rfl
                      · exact Or.inr (lv_neT c9 (by decide))
                      · exact Or.inl rfl
                      · exact Or.inl rfl
                      · exact Or.inl rfl
                      · exact Or.inl rfl
                      · exact Or.inr (lv_neT c49 (by decide))
                      · exact Or.inr (lv_neT c53 (by decide))
                      · exact Or.inl rfl
                      · exact Or.inl rfl
                      · exact Or.inl rfl
                      · exact Or.inl rfl
                      · exact Or.inr (lv_neT c68 (by decide))
                      · exact Or.inl rfl
                      · exact Or.inl rfl
                      · exact Or.inl rfl
                      · exact Or.inl rfl
                      · exact Or.inr (lv_neT c76 (by decide))
                      · exact Or.inl rfl
                      · exact Or.inr (lv_neT c92 (by decide))
                      · exact Or.inl rfl
                      · exact Or.inr (lv_neT c106 (by decide))
                      · exact Or.inr (lv_neT c110 (by decide))
                    · cases ho
                      exact e_v B hx hb hr hlocks dX10_readOrder_508
  refine lv_iload_n hx hb dX10_readOrder_13 rfl (lv_at hl 0 rfl) ?_
  refine lv_bipush (v := 104) hx hb dX10_readOrder_14 (by decide) ?_
  refine lv_icmp_eq (tgt := 67) hx hb dX10_readOrder_16 (by decide) (fun c122 => ?_) (fun c122 => ?_)
  · have ho := ip_ c122 ho
    refine lv_iconst (v := 1) hx hb dX10_readOrder_67 (by decide) ?_
    refine lv_goto (tgt := 72) hx hb dX10_readOrder_68 (by decide) ?_
    exact hjoin13 _  _ _ _ ho B (lv_sub hl [0, 1, 2] rfl)
  · have ho := in_ c122 ho
    refine lv_iload_n hx hb dX10_readOrder_19 rfl (lv_at hl 0 rfl) ?_
    refine lv_bipush (v := 115) hx hb dX10_readOrder_20 (by decide) ?_
    refine lv_icmp_eq (tgt := 67) hx hb dX10_readOrder_22 (by decide) (fun c123 => ?_) (fun c123 => ?_)
    · have ho := ip_ c123 ho
      refine lv_iconst (v := 1) hx hb dX10_readOrder_67 (by decide) ?_
      refine lv_goto (tgt := 72) hx hb dX10_readOrder_68 (by decide) ?_
      exact hjoin13 _  _ _ _ ho B (lv_sub hl [0, 1, 2] rfl)
    · have ho := in_ c123 ho
      refine lv_iload_n hx hb dX10_readOrder_25 rfl (lv_at hl 0 rfl) ?_
      refine lv_bipush (v := 116) hx hb dX10_readOrder_26 (by decide) ?_
      refine lv_icmp_eq (tgt := 67) hx hb dX10_readOrder_28 (by decide) (fun c124 => ?_) (fun c124 => ?_)
      · have ho := ip_ c124 ho
        refine lv_iconst (v := 1) hx hb dX10_readOrder_67 (by decide) ?_
        refine lv_goto (tgt := 72) hx hb dX10_readOrder_68 (by decide) ?_
        exact hjoin13 _  _ _ _ ho B (lv_sub hl [0, 1, 2] rfl)
      · have ho := in_ c124 ho
        refine lv_iload_n hx hb dX10_readOrder_31 rfl (lv_at hl 0 rfl) ?_
        refine lv_bipush (v := 109) hx hb dX10_readOrder_32 (by decide) ?_
        refine lv_icmp_eq (tgt := 67) hx hb dX10_readOrder_34 (by decide) (fun c125 => ?_) (fun c125 => ?_)
        · have ho := ip_ c125 ho
          refine lv_iconst (v := 1) hx hb dX10_readOrder_67 (by decide) ?_
          refine lv_goto (tgt := 72) hx hb dX10_readOrder_68 (by decide) ?_
          exact hjoin13 _  _ _ _ ho B (lv_sub hl [0, 1, 2] rfl)
        · have ho := in_ c125 ho
          refine lv_iload_n hx hb dX10_readOrder_37 rfl (lv_at hl 0 rfl) ?_
          refine lv_bipush (v := 103) hx hb dX10_readOrder_38 (by decide) ?_
          refine lv_icmp_eq (tgt := 67) hx hb dX10_readOrder_40 (by decide) (fun c126 => ?_) (fun c126 => ?_)
          · have ho := ip_ c126 ho
            refine lv_iconst (v := 1) hx hb dX10_readOrder_67 (by decide) ?_
            refine lv_goto (tgt := 72) hx hb dX10_readOrder_68 (by decide) ?_
            exact hjoin13 _  _ _ _ ho B (lv_sub hl [0, 1, 2] rfl)
          · have ho := in_ c126 ho
            refine lv_iload_n hx hb dX10_readOrder_43 rfl (lv_at hl 0 rfl) ?_
            refine lv_bipush (v := 118) hx hb dX10_readOrder_44 (by decide) ?_
            refine lv_icmp_eq (tgt := 67) hx hb dX10_readOrder_46 (by decide) (fun c127 => ?_) (fun c127 => ?_)
            · have ho := ip_ c127 ho
              refine lv_iconst (v := 1) hx hb dX10_readOrder_67 (by decide) ?_
              refine lv_goto (tgt := 72) hx hb dX10_readOrder_68 (by decide) ?_
              exact hjoin13 _  _ _ _ ho B (lv_sub hl [0, 1, 2] rfl)
            · have ho := in_ c127 ho
              refine lv_iload_n hx hb dX10_readOrder_49 rfl (lv_at hl 0 rfl) ?_
              refine lv_bipush (v := 98) hx hb dX10_readOrder_50 (by decide) ?_
              refine lv_icmp_eq (tgt := 67) hx hb dX10_readOrder_52 (by decide) (fun c128 => ?_) (fun c128 => ?_)
              · have ho := ip_ c128 ho
                refine lv_iconst (v := 1) hx hb dX10_readOrder_67 (by decide) ?_
                refine lv_goto (tgt := 72) hx hb dX10_readOrder_68 (by decide) ?_
                exact hjoin13 _  _ _ _ ho B (lv_sub hl [0, 1, 2] rfl)
              · have ho := in_ c128 ho
                refine lv_iload_n hx hb dX10_readOrder_55 rfl (lv_at hl 0 rfl) ?_
                refine lv_bipush (v := 119) hx hb dX10_readOrder_56 (by decide) ?_
                refine lv_icmp_eq (tgt := 67) hx hb dX10_readOrder_58 (by decide) (fun c129 => ?_) (fun c129 => ?_)
                · have ho := ip_ c129 ho
                  refine lv_iconst (v := 1) hx hb dX10_readOrder_67 (by decide) ?_
                  refine lv_goto (tgt := 72) hx hb dX10_readOrder_68 (by decide) ?_
                  exact hjoin13 _  _ _ _ ho B (lv_sub hl [0, 1, 2] rfl)
                · have ho := in_ c129 ho
                  refine lv_iload_n hx hb dX10_readOrder_61 rfl (lv_at hl 0 rfl) ?_
                  refine lv_bipush (v := 114) hx hb dX10_readOrder_62 (by decide) ?_
                  refine lv_icmp_ne (tgt := 71) hx hb dX10_readOrder_64 (by decide) (fun c130 => ?_) (fun c130 => ?_)
                  · have ho := in_ c130 ho
                    refine lv_iconst (v := 0) hx hb dX10_readOrder_71 (by decide) ?_
                    exact hjoin13 _  _ _ _ ho B (lv_sub hl [0, 1, 2] rfl)
                  · have ho := ip_ c130 ho
                    refine lv_iconst (v := 1) hx hb dX10_readOrder_67 (by decide) ?_
                    refine lv_goto (tgt := 72) hx hb dX10_readOrder_68 (by decide) ?_
                    exact hjoin13 _  _ _ _ ho B (lv_sub hl [0, 1, 2] rfl)

set_option maxHeartbeats 4000000 in
set_option maxRecDepth 100000 in
theorem c_X10_does (l : Launch) (G : Gd) (σ : Mm) (sz : Nat) (a0 : Int32) {out : Mm} (ho : f_X10_does a0 σ = some out) : Met l yX10_does wsX10_does { frames := 5, cells := 0, slots := 0, locals := 129 } (va_Pc [.ref (G.2.2 198), .int a0] (PW G σ sz)) (Qv G sz out) 0 0 (AA G sz) := by
  refine Met.ofW (cc := cX10_does) (maxL := 5) (ret := none) (by decide) rfl ?_
  intro p e s m args below meth c s₁ B0 hml hv
  obtain ⟨rfl, hpw⟩ := hv
  have hsz := hpw.1
  subst hsz
  obtain ⟨F, B⟩ := hpw.to
  have hx := B0.exec
  have hb := B0.bytes
  have hr := B0.returns
  have hts := atoms_spec (ws := wsX10_does) B0.pre
  have hown : s.vm.findClass RX10 = some m.cls := findClass_of_methodNamed B0.named
  have hlocks := B0.notSynchronized
  have S : CallFix p m c cX10_does 5 s _ wsX10_does RX10 := ⟨hx, hb, hml, hown, hts⟩
  have hiX10 : ∀ w ∈ u_ws RX10 TX10 21, w ∈ wsX10_does := by decide +kernel
  have hl := lv_entry [.ref (G.2.2 198), .int a0] (n := 5) (Nat.le_of_ble_eq_true rfl)
  rw [lg_entry_eq]
  generalize (lg_sl [.ref (G.2.2 198), .int a0] ++ List.replicate (5 - (lg_sl [.ref (G.2.2 198), .int a0]).length) Slot.unset).toArray = ls at hl ⊢
  have hl : lv_has ls 5 [(0, .ref (G.2.2 198)), (1, .int a0)] := hl
  unfold f_X10_does at ho
  refine lv_aload_n hx hb dX10_does_0 rfl (lv_at hl 0 rfl) ?_
  refine r_get (ci := 14) (C := RX10) (T := TX10) (N := 21) S F B (kq (by decide) : kd 198 = 21 ∧ 198 < NN) rfl rfl hiX10 14 (by decide) (by decide +kernel) rfl dX10_does_1 ?_
  refine lv_iload_n hx hb dX10_does_4 rfl (lv_at hl 1 rfl) ?_
  refine lv_iconst (v := 1) hx hb dX10_does_5 (by decide) ?_
  refine lv_iadd hx hb dX10_does_6 ?_
  obtain ⟨hi, ho⟩ := gd_ ho
  refine r_iald S F B (kq (by decide) : kd 205 = 25 ∧ 205 < NN) rfl hi dX10_does_7 ?_
  obtain ⟨x1, ex1, ho⟩ := lt_ ho
  refine lv_nm ex1 ?_
  refine lv_istore_n (lv' := [(2, .int x1), (0, .ref (G.2.2 198)), (1, .int a0)]) hx hb dX10_does_8 rfl hl (by decide) rfl (fun ls hl => ?_)
  refine lv_aload_n hx hb dX10_does_9 rfl (lv_at hl 1 rfl) ?_
  refine r_get (ci := 14) (C := RX10) (T := TX10) (N := 21) S F B (kq (by decide) : kd 198 = 21 ∧ 198 < NN) rfl rfl hiX10 14 (by decide) (by decide +kernel) rfl dX10_does_10 ?_
  refine lv_iload_n hx hb dX10_does_13 rfl (lv_at hl 2 rfl) ?_
  refine lv_iconst (v := 2) hx hb dX10_does_14 (by decide) ?_
  refine lv_iadd hx hb dX10_does_15 ?_
  obtain ⟨hi, ho⟩ := gd_ ho
  refine r_iald S F B (kq (by decide) : kd 205 = 25 ∧ 205 < NN) rfl hi dX10_does_16 ?_
  obtain ⟨x2, ex2, ho⟩ := lt_ ho
  refine lv_nm ex2 ?_
  refine lv_istore_n (lv' := [(3, .int x2), (2, .int x1), (0, .ref (G.2.2 198)), (1, .int a0)]) hx hb dX10_does_17 rfl hl (by decide) rfl (fun ls hl => ?_)
  refine lv_aload_n hx hb dX10_does_18 rfl (lv_at hl 2 rfl) ?_
  refine r_get (ci := 14) (C := RX10) (T := TX10) (N := 21) S F B (kq (by decide) : kd 198 = 21 ∧ 198 < NN) rfl rfl hiX10 14 (by decide) (by decide +kernel) rfl dX10_does_19 ?_
  refine lv_iload_n hx hb dX10_does_22 rfl (lv_at hl 3 rfl) ?_
  refine lv_iconst (v := 3) hx hb dX10_does_23 (by decide) ?_
  refine lv_iadd hx hb dX10_does_24 ?_
  obtain ⟨hi, ho⟩ := gd_ ho
  refine r_iald S F B (kq (by decide) : kd 205 = 25 ∧ 205 < NN) rfl hi dX10_does_25 ?_
  obtain ⟨x3, ex3, ho⟩ := lt_ ho
  refine lv_nm ex3 ?_
  refine lv_istore (lv' := [(4, .int x3), (3, .int x2), (2, .int x1), (0, .ref (G.2.2 198)), (1, .int a0)]) hx hb dX10_does_26 hl (by decide) rfl (fun ls hl => ?_)
  refine lv_aload_n hx hb dX10_does_28 rfl (lv_at hl 3 rfl) ?_
  refine r_get (ci := 14) (C := RX10) (T := TX10) (N := 21) S F B (kq (by decide) : kd 198 = 21 ∧ 198 < NN) rfl rfl hiX10 14 (by decide) (by decide +kernel) rfl dX10_does_29 ?_
  refine lv_iload_n hx hb dX10_does_32 rfl (lv_at hl 4 rfl) ?_
  obtain ⟨hi, ho⟩ := gd_ ho
  refine r_iald S F B (kq (by decide) : kd 205 = 25 ∧ 205 < NN) rfl hi dX10_does_33 ?_
  by_cases c4 : (σ 205 a0.toNatClampNeg) = 98
  · have ho := ip_ c4 ho
    refine lv_tableIn (off := 161) (tgt := 195) hx hb dX10_does_34 (by rw [c4]; decide) (by rw [c4]; decide) (by rw [c4]; rfl) (by decide) ?_
    refine lv_aload_n hx hb dX10_does_195 rfl (lv_at hl 3 rfl) ?_
    refine lv_iload_n hx hb dX10_does_196 rfl (lv_at hl 2 rfl) ?_
    refine lv_iload_n hx hb dX10_does_197 rfl (lv_at hl 1 rfl) ?_
    refine lv_iload hx hb dX10_does_198 (lv_at hl 0 rfl) ?_
    obtain ⟨q5, σ6, hq5, ho⟩ := bnm_ ho
    refine k_iV (As := [.int x1, .int x2, .int x3]) (rest := []) S F B (c_X10_bondIt l G σ _ x1 x2 x3 hq5) (kq (by decide) : kd 198 = 21 ∧ 198 < NN) rfl rfl (cwV 3 hts gX10_does_X10_bondIt rfl rfl rfl (by decide +kernel) ⟨Nat.le_of_ble_eq_true rfl, Nat.le_of_ble_eq_true rfl⟩) rfl hl.1 rfl (Nat.le_of_ble_eq_true rfl) dX10_does_200 ⟨Nat.le_of_ble_eq_true rfl, Nat.le_of_ble_eq_true rfl⟩ (fun H locs B => ?_)
    refine lv_pop hx hb dX10_does_203 rfl ?_
    refine lv_goto (tgt := 224) hx hb dX10_does_204 (by decide) ?_
    cases ho
    exact e_v B hx hb hr hlocks dX10_does_224
  · have ho := in_ c4 ho
    by_cases c7 : (σ 205 a0.toNatClampNeg) = 103
    · have ho := ip_ c7 ho
      refine lv_tableIn (off := 143) (tgt := 177) hx hb dX10_does_34 (by rw [c7]; decide) (by rw [c7]; decide) (by rw [c7]; rfl) (by decide) ?_
      refine lv_aload_n hx hb dX10_does_177 rfl (lv_at hl 3 rfl) ?_
      refine lv_iload_n hx hb dX10_does_178 rfl (lv_at hl 2 rfl) ?_
      obtain ⟨q8, σ9, hq8, ho⟩ := bnm_ ho
      refine k_iV (As := [.int x1]) (rest := []) S F B (c_X10_gardenerIt l G σ _ x1 hq8) (kq (by decide) : kd 198 = 21 ∧ 198 < NN) rfl rfl (cwV 1 hts gX10_does_X10_gardenerIt rfl rfl rfl (by decide +kernel) ⟨Nat.le_of_ble_eq_true rfl, Nat.le_of_ble_eq_true rfl⟩) rfl hl.1 rfl (Nat.le_of_ble_eq_true rfl) dX10_does_179 ⟨Nat.le_of_ble_eq_true rfl, Nat.le_of_ble_eq_true rfl⟩ (fun H locs B => ?_)
      refine lv_pop hx hb dX10_does_182 rfl ?_
      refine lv_goto (tgt := 224) hx hb dX10_does_183 (by decide) ?_
      cases ho
      exact e_v B hx hb hr hlocks dX10_does_224
    · have ho := in_ c7 ho
      by_cases c10 : (σ 205 a0.toNatClampNeg) = 104
      · have ho := ip_ c10 ho
        refine lv_tableIn (off := 102) (tgt := 136) hx hb dX10_does_34 (by rw [c10]; decide) (by rw [c10]; decide) (by rw [c10]; rfl) (by decide) ?_
        refine lv_aload_n hx hb dX10_does_136 rfl (lv_at hl 3 rfl) ?_
        refine lv_iload_n hx hb dX10_does_137 rfl (lv_at hl 2 rfl) ?_
        refine lv_iload_n hx hb dX10_does_138 rfl (lv_at hl 1 rfl) ?_
        refine lv_iload hx hb dX10_does_139 (lv_at hl 0 rfl) ?_
        obtain ⟨q11, σ12, hq11, ho⟩ := bnm_ ho
        refine k_iV (As := [.int x1, .int x2, .int x3]) (rest := []) S F B (c_X10_hedgeIt l G σ _ x1 x2 x3 hq11) (kq (by decide) : kd 198 = 21 ∧ 198 < NN) rfl rfl (cwV 3 hts gX10_does_X10_hedgeIt rfl rfl rfl (by decide +kernel) ⟨Nat.le_of_ble_eq_true rfl, Nat.le_of_ble_eq_true rfl⟩) rfl hl.1 rfl (Nat.le_of_ble_eq_true rfl) dX10_does_141 ⟨Nat.le_of_ble_eq_true rfl, Nat.le_of_ble_eq_true rfl⟩ (fun H locs B => ?_)
        refine lv_pop hx hb dX10_does_144 rfl ?_
        refine lv_goto (tgt := 224) hx hb dX10_does_145 (by decide) ?_
        cases ho
        exact e_v B hx hb hr hlocks dX10_does_224
      · have ho := in_ c10 ho
        by_cases c13 : (σ 205 a0.toNatClampNeg) = 109
        · have ho := ip_ c13 ho
          refine lv_tableIn (off := 134) (tgt := 168) hx hb dX10_does_34 (by rw [c13]; decide) (by rw [c13]; decide) (by rw [c13]; rfl) (by decide) ?_
          refine lv_aload_n hx hb dX10_does_168 rfl (lv_at hl 3 rfl) ?_
          refine lv_iload_n hx hb dX10_does_169 rfl (lv_at hl 2 rfl) ?_
          obtain ⟨q14, σ15, hq14, ho⟩ := bnm_ ho
          refine k_iV (As := [.int x1]) (rest := []) S F B (c_X10_minotaurIt l G σ _ x1 hq14) (kq (by decide) : kd 198 = 21 ∧ 198 < NN) rfl rfl (cwV 1 hts gX10_does_X10_minotaurIt rfl rfl rfl (by decide +kernel) ⟨Nat.le_of_ble_eq_true rfl, Nat.le_of_ble_eq_true rfl⟩) rfl hl.1 rfl (Nat.le_of_ble_eq_true rfl) dX10_does_170 ⟨Nat.le_of_ble_eq_true rfl, Nat.le_of_ble_eq_true rfl⟩ (fun H locs B => ?_)
          refine lv_pop hx hb dX10_does_173 rfl ?_
          refine lv_goto (tgt := 224) hx hb dX10_does_174 (by decide) ?_
          cases ho
          exact e_v B hx hb hr hlocks dX10_does_224
        · have ho := in_ c13 ho
          by_cases c16 : (σ 205 a0.toNatClampNeg) = 115
          · have ho := ip_ c16 ho
            refine lv_tableIn (off := 114) (tgt := 148) hx hb dX10_does_34 (by rw [c16]; decide) (by rw [c16]; decide) (by rw [c16]; rfl) (by decide) ?_
            refine lv_aload_n hx hb dX10_does_148 rfl (lv_at hl 3 rfl) ?_
            obtain ⟨q17, σ18, hq17, ho⟩ := bnm_ ho
            refine k_iV (As := []) (rest := []) S F B (c_X10_summerIt l G σ _ hq17) (kq (by decide) : kd 198 = 21 ∧ 198 < NN) rfl rfl (cwV 0 hts gX10_does_X10_summerIt rfl rfl rfl (by decide +kernel) ⟨Nat.le_of_ble_eq_true rfl, Nat.le_of_ble_eq_true rfl⟩) rfl hl.1 rfl (Nat.le_of_ble_eq_true rfl) dX10_does_149 ⟨Nat.le_of_ble_eq_true rfl, Nat.le_of_ble_eq_true rfl⟩ (fun H locs B => ?_)
            refine lv_pop hx hb dX10_does_152 rfl ?_
            refine lv_goto (tgt := 224) hx hb dX10_does_153 (by decide) ?_
            cases ho
            exact e_v B hx hb hr hlocks dX10_does_224
          · have ho := in_ c16 ho
            by_cases c19 : (σ 205 a0.toNatClampNeg) = 116
            · have ho := ip_ c19 ho
              refine lv_tableIn (off := 122) (tgt := 156) hx hb dX10_does_34 (by rw [c19]; decide) (by rw [c19]; decide) (by rw [c19]; rfl) (by decide) ?_
              refine lv_aload_n hx hb dX10_does_156 rfl (lv_at hl 3 rfl) ?_
              refine lv_iload_n hx hb dX10_does_157 rfl (lv_at hl 2 rfl) ?_
              refine lv_iload_n hx hb dX10_does_158 rfl (lv_at hl 1 rfl) ?_
              refine lv_iload hx hb dX10_does_159 (lv_at hl 0 rfl) ?_
              obtain ⟨q20, σ21, hq20, ho⟩ := bnm_ ho
              refine k_iV (As := [.int x1, .int x2, .int x3]) (rest := []) S F B (c_X10_trimIt l G σ _ x1 x2 x3 hq20) (kq (by decide) : kd 198 = 21 ∧ 198 < NN) rfl rfl (cwV 3 hts gX10_does_X10_trimIt rfl rfl rfl (by decide +kernel) ⟨Nat.le_of_ble_eq_true rfl, Nat.le_of_ble_eq_true rfl⟩) rfl hl.1 rfl (Nat.le_of_ble_eq_true rfl) dX10_does_161 ⟨Nat.le_of_ble_eq_true rfl, Nat.le_of_ble_eq_true rfl⟩ (fun H locs B => ?_)
              refine lv_pop hx hb dX10_does_164 rfl ?_
              refine lv_goto (tgt := 224) hx hb dX10_does_165 (by decide) ?_
              cases ho
              exact e_v B hx hb hr hlocks dX10_does_224
            · have ho := in_ c19 ho
              by_cases c22 : (σ 205 a0.toNatClampNeg) = 118
              · have ho := ip_ c22 ho
                refine lv_tableIn (off := 152) (tgt := 186) hx hb dX10_does_34 (by rw [c22]; decide) (by rw [c22]; decide) (by rw [c22]; rfl) (by decide) ?_
                refine lv_aload_n hx hb dX10_does_186 rfl (lv_at hl 3 rfl) ?_
                refine lv_iload_n hx hb dX10_does_187 rfl (lv_at hl 2 rfl) ?_
                obtain ⟨q23, σ24, hq23, ho⟩ := bnm_ ho
                refine k_iV (As := [.int x1]) (rest := []) S F B (c_X10_visitorIt l G σ _ x1 hq23) (kq (by decide) : kd 198 = 21 ∧ 198 < NN) rfl rfl (cwV 1 hts gX10_does_X10_visitorIt rfl rfl rfl (by decide +kernel) ⟨Nat.le_of_ble_eq_true rfl, Nat.le_of_ble_eq_true rfl⟩) rfl hl.1 rfl (Nat.le_of_ble_eq_true rfl) dX10_does_188 ⟨Nat.le_of_ble_eq_true rfl, Nat.le_of_ble_eq_true rfl⟩ (fun H locs B => ?_)
                refine lv_pop hx hb dX10_does_191 rfl ?_
                refine lv_goto (tgt := 224) hx hb dX10_does_192 (by decide) ?_
                cases ho
                exact e_v B hx hb hr hlocks dX10_does_224
              · have ho := in_ c22 ho
                by_cases c25 : (σ 205 a0.toNatClampNeg) = 119
                · have ho := ip_ c25 ho
                  refine lv_tableIn (off := 173) (tgt := 207) hx hb dX10_does_34 (by rw [c25]; decide) (by rw [c25]; decide) (by rw [c25]; rfl) (by decide) ?_
                  refine lv_aload_n hx hb dX10_does_207 rfl (lv_at hl 3 rfl) ?_
                  refine lv_iload_n hx hb dX10_does_208 rfl (lv_at hl 2 rfl) ?_
                  refine lv_iload_n hx hb dX10_does_209 rfl (lv_at hl 1 rfl) ?_
                  obtain ⟨q26, σ27, hq26, ho⟩ := bnm_ ho
                  refine k_iV (As := [.int x1, .int x2]) (rest := []) S F B (c_X10_walkIt l G σ _ x1 x2 hq26) (kq (by decide) : kd 198 = 21 ∧ 198 < NN) rfl rfl (cwV 2 hts gX10_does_X10_walkIt rfl rfl rfl (by decide +kernel) ⟨Nat.le_of_ble_eq_true rfl, Nat.le_of_ble_eq_true rfl⟩) rfl hl.1 rfl (Nat.le_of_ble_eq_true rfl) dX10_does_210 ⟨Nat.le_of_ble_eq_true rfl, Nat.le_of_ble_eq_true rfl⟩ (fun H locs B => ?_)
                  refine lv_pop hx hb dX10_does_213 rfl ?_
                  refine lv_goto (tgt := 224) hx hb dX10_does_214 (by decide) ?_
                  cases ho
                  exact e_v B hx hb hr hlocks dX10_does_224
                · have ho := in_ c25 ho
                  refine t_tableD (tgt := 217) hx hb dX10_does_34 rfl (fun j hj => ?_) (by decide) ?_
                  · have hj : j < 22 := hj
                    rcases (show j = 0 ∨ j = 1 ∨ j = 2 ∨ j = 3 ∨ j = 4 ∨ j = 5 ∨ j = 6 ∨ j = 7 ∨ j = 8 ∨ j = 9 ∨ j = 10 ∨ j = 11 ∨ j = 12 ∨ j = 13 ∨ j = 14 ∨ j = 15 ∨ j = 16 ∨ j = 17 ∨ j = 18 ∨ j = 19 ∨ j = 20 ∨ j = 21 by omega) with rfl | rfl | rfl | rfl | rfl | rfl | rfl | rfl | rfl | rfl | rfl | rfl | rfl | rfl | rfl | rfl | rfl | rfl | rfl | rfl | rfl | rfl
                    · exact Or.inr (lv_neT c4 (by decide))
                    · exact Or.inl rfl
                    · exact Or.inl rfl
                    · exact Or.inl rfl
                    · exact Or.inl rfl
                    · exact Or.inr (lv_neT c7 (by decide))
                    · exact Or.inr (lv_neT c10 (by decide))
                    · exact Or.inl rfl
                    · exact Or.inl rfl
                    · exact Or.inl rfl
                    · exact Or.inl rfl
                    · exact Or.inr (lv_neT c13 (by decide))
                    · exact Or.inl rfl
                    · exact Or.inl rfl
                    · exact Or.inl rfl
                    · exact Or.inl rfl
                    · exact Or.inl rfl
                    · exact Or.inr (lv_neT c16 (by decide))
                    · exact Or.inr (lv_neT c19 (by decide))
                    · exact Or.inl rfl
                    · exact Or.inr (lv_neT c22 (by decide))
                    · exact Or.inr (lv_neT c25 (by decide))
                  · refine lv_aload_n hx hb dX10_does_217 rfl (lv_at hl 3 rfl) ?_
                    refine lv_iload_n hx hb dX10_does_218 rfl (lv_at hl 2 rfl) ?_
                    refine lv_iload_n hx hb dX10_does_219 rfl (lv_at hl 1 rfl) ?_
                    obtain ⟨q28, σ29, hq28, ho⟩ := bnm_ ho
                    refine k_iV (As := [.int x1, .int x2]) (rest := []) S F B (c_X10_restIt l G σ _ x1 x2 hq28) (kq (by decide) : kd 198 = 21 ∧ 198 < NN) rfl rfl (cwV 2 hts gX10_does_X10_restIt rfl rfl rfl (by decide +kernel) ⟨Nat.le_of_ble_eq_true rfl, Nat.le_of_ble_eq_true rfl⟩) rfl hl.1 rfl (Nat.le_of_ble_eq_true rfl) dX10_does_220 ⟨Nat.le_of_ble_eq_true rfl, Nat.le_of_ble_eq_true rfl⟩ (fun H locs B => ?_)
                    refine lv_pop hx hb dX10_does_223 rfl ?_
                    cases ho
                    exact e_v B hx hb hr hlocks dX10_does_224

set_option maxHeartbeats 4000000 in
set_option maxRecDepth 100000 in
theorem c_X10_commands (l : Launch) (G : Gd) (σ : Mm) (sz : Nat) {out : Int32 × Mm} (ho : f_X10_commands σ = some out) : Met l yX10_commands wsX10_commands { frames := 6, cells := 0, slots := 0, locals := 153 } (va_Pc [.ref (G.2.2 198)] (PW G σ sz)) (Qi G sz out.1 out.2) 0 0 (AA G sz) := by
  refine Met.ofW (cc := cX10_commands) (maxL := 4) (ret := (some .int)) (by decide) rfl ?_
  intro p e s m args below meth c s₁ B0 hml hv
  obtain ⟨rfl, hpw⟩ := hv
  have hsz := hpw.1
  subst hsz
  obtain ⟨F, B⟩ := hpw.to
  have hx := B0.exec
  have hb := B0.bytes
  have hr := B0.returns
  have hts := atoms_spec (ws := wsX10_commands) B0.pre
  have hown : s.vm.findClass RX10 = some m.cls := findClass_of_methodNamed B0.named
  have hlocks := B0.notSynchronized
  have S : CallFix p m c cX10_commands 4 s _ wsX10_commands RX10 := ⟨hx, hb, hml, hown, hts⟩
  have hiX10 : ∀ w ∈ u_ws RX10 TX10 21, w ∈ wsX10_commands := by decide +kernel
  have hl := lv_entry [.ref (G.2.2 198)] (n := 4) (Nat.le_of_ble_eq_true rfl)
  rw [lg_entry_eq]
  generalize (lg_sl [.ref (G.2.2 198)] ++ List.replicate (4 - (lg_sl [.ref (G.2.2 198)]).length) Slot.unset).toArray = ls at hl ⊢
  have hl : lv_has ls 4 [(0, .ref (G.2.2 198))] := hl
  unfold f_X10_commands at ho
  skip
  refine lv_aload_n hx hb dX10_commands_0 rfl (lv_at hl 0 rfl) ?_
  obtain ⟨σ2, hq1, ho⟩ := bnd_ ho
  refine k_vV (As := []) (rest := []) S F B (c_X10_starts l G σ _ hq1) (kq (by decide) : kd 198 = 21 ∧ 198 < NN) rfl rfl (cwV 0 hts gX10_commands_X10_starts rfl rfl rfl (by decide +kernel) ⟨Nat.le_of_ble_eq_true rfl, Nat.le_of_ble_eq_true rfl⟩) rfl hl.1 rfl (Nat.le_of_ble_eq_true rfl) dX10_commands_1 ⟨Nat.le_of_ble_eq_true rfl, Nat.le_of_ble_eq_true rfl⟩ (fun H locs B => ?_)
  refine lv_aload_n hx hb dX10_commands_4 rfl (lv_at hl 0 rfl) ?_
  refine lv_aload_n hx hb dX10_commands_5 rfl (lv_at hl 0 rfl) ?_
  refine r_get (ci := 14) (C := RX10) (T := TX10) (N := 21) S F B (kq (by decide) : kd 198 = 21 ∧ 198 < NN) rfl rfl hiX10 11 (by decide) (by decide +kernel) rfl dX10_commands_6 ?_
  refine r_put (ci := 14) (C := RX10) (T := TX10) (N := 21) (ty := .int) S F B tyX10 tyX10_ok nmX10 (kq (by decide) : kd 198 = 21 ∧ 198 < NN) (fun _ => rfl) rfl hiX10 17 (by decide) (by decide +kernel) rfl rfl rfl rfl (fun _ => Nat.le_of_ble_eq_true rfl) (fun _ => rfl) dX10_commands_9 (fun H locs B => ?_)
  obtain ⟨σ3, eσ3, ho⟩ := lt_ ho
  rw [← eσ3] at B
  refine lv_aload_n hx hb dX10_commands_12 rfl (lv_at hl 0 rfl) ?_
  refine lv_iconst (v := 0) hx hb dX10_commands_13 (by decide) ?_
  refine r_put (ci := 14) (C := RX10) (T := TX10) (N := 21) (ty := .int) S F B tyX10 tyX10_ok nmX10 (kq (by decide) : kd 198 = 21 ∧ 198 < NN) (fun _ => rfl) rfl hiX10 11 (by decide) (by decide +kernel) rfl rfl rfl rfl (fun _ => Nat.le_of_ble_eq_true rfl) (fun _ => rfl) dX10_commands_14 (fun H locs B => ?_)
  obtain ⟨σ4, eσ4, ho⟩ := lt_ ho
  rw [← eσ4] at B
  refine lv_aload_n hx hb dX10_commands_17 rfl (lv_at hl 0 rfl) ?_
  refine lv_iconst (v := 0) hx hb dX10_commands_18 (by decide) ?_
  refine r_put (ci := 14) (C := RX10) (T := TX10) (N := 21) (ty := .int) S F B tyX10 tyX10_ok nmX10 (kq (by decide) : kd 198 = 21 ∧ 198 < NN) (fun _ => rfl) rfl hiX10 16 (by decide) (by decide +kernel) rfl rfl rfl rfl (fun _ => Nat.le_of_ble_eq_true rfl) (fun _ => rfl) dX10_commands_19 (fun H locs B => ?_)
  obtain ⟨σ5, eσ5, ho⟩ := lt_ ho
  rw [← eσ5] at B
  refine lv_aload_n hx hb dX10_commands_22 rfl (lv_at hl 0 rfl) ?_
  refine lv_iconst (v := 0) hx hb dX10_commands_23 (by decide) ?_
  refine r_put (ci := 14) (C := RX10) (T := TX10) (N := 21) (ty := .int) S F B tyX10 tyX10_ok nmX10 (kq (by decide) : kd 198 = 21 ∧ 198 < NN) (fun _ => rfl) rfl hiX10 15 (by decide) (by decide +kernel) rfl rfl rfl rfl (fun _ => Nat.le_of_ble_eq_true rfl) (fun _ => rfl) dX10_commands_24 (fun H locs B => ?_)
  obtain ⟨σ6, eσ6, ho⟩ := lt_ ho
  rw [← eσ6] at B
  refine lv_aload_n hx hb dX10_commands_27 rfl (lv_at hl 0 rfl) ?_
  refine lv_iconst (v := 0) hx hb dX10_commands_28 (by decide) ?_
  refine r_put (ci := 14) (C := RX10) (T := TX10) (N := 21) (ty := .boolean) S F B tyX10 tyX10_ok nmX10 (kq (by decide) : kd 198 = 21 ∧ 198 < NN) (fun _ => rfl) rfl hiX10 18 (by decide) (by decide +kernel) rfl rfl rfl rfl (fun _ => Nat.le_of_ble_eq_true rfl) (fun _ => rfl) dX10_commands_29 (fun H locs B => ?_)
  obtain ⟨σ7, eσ7, ho⟩ := lt_ ho
  rw [← eσ7] at B
  refine lv_iconst (v := 1) hx hb dX10_commands_32 (by decide) ?_
  refine lv_istore_n (lv' := [(1, .int 1), (0, .ref (G.2.2 198))]) hx hb dX10_commands_33 rfl hl (by decide) rfl (fun ls hl => ?_)
  obtain ⟨K, hK, ho⟩ := lt_ ho
  have hexit34 : ∀ (v8 : Int32) (σ9 : Mm) (H : Heap) (locs : List Loc) (ls : Array Slot), K v8 σ9 = some out → Bd G σ9 s H locs → lv_has ls 4 [(1, .int v8), (0, .ref (G.2.2 198))] → W p l e (headSpec wsX10_commands { frames := 6, cells := 0, slots := 0, locals := 153 }).room s m #[.ref (G.2.2 198)] below meth c H locs 0 0 (MQ below (Qi G s.heap.size out.1 out.2) #[.ref (G.2.2 198)] s 0 0 (AA G s.heap.size)) (F0 m 104 ls []) := by
    intro v8 σ9 H locs ls ho B hl
    subst hK
    refine lv_aload_n hx hb dX10_commands_104 rfl (lv_at hl 1 rfl) ?_
    refine lv_aload_n hx hb dX10_commands_105 rfl (lv_at hl 1 rfl) ?_
    refine r_get (ci := 14) (C := RX10) (T := TX10) (N := 21) S F B (kq (by decide) : kd 198 = 21 ∧ 198 < NN) rfl rfl hiX10 18 (by decide) (by decide +kernel) rfl dX10_commands_106 ?_
    refine lv_if_eq (tgt := 119) hx hb dX10_commands_109 (by decide) (fun c11 => ?_) (fun c11 => ?_)
    · have ho := ip_ c11 ho
      refine lv_iconst (v := (-1)) hx hb dX10_commands_119 (by decide) ?_
      refine r_put (ci := 14) (C := RX10) (T := TX10) (N := 21) (ty := .int) S F B tyX10 tyX10_ok nmX10 (kq (by decide) : kd 198 = 21 ∧ 198 < NN) (fun _ => rfl) rfl hiX10 9 (by decide) (by decide +kernel) rfl rfl rfl rfl (fun _ => Nat.le_of_ble_eq_true rfl) (fun _ => rfl) dX10_commands_120 (fun H locs B => ?_)
      obtain ⟨σ12, eσ12, ho⟩ := lt_ ho
      rw [← eσ12] at B
      refine lv_aload_n hx hb dX10_commands_123 rfl (lv_at hl 1 rfl) ?_
      refine r_get (ci := 14) (C := RX10) (T := TX10) (N := 21) S F B (kq (by decide) : kd 198 = 21 ∧ 198 < NN) rfl rfl hiX10 18 (by decide) (by decide +kernel) rfl dX10_commands_124 ?_
      refine lv_if_eq (tgt := 136) hx hb dX10_commands_127 (by decide) (fun c13 => ?_) (fun c13 => ?_)
      · have ho := ip_ c13 ho
        refine lv_iconst (v := 0) hx hb dX10_commands_136 (by decide) ?_
        refine lv_istore_n (lv' := [(2, .int 0), (1, .int v8), (0, .ref (G.2.2 198))]) hx hb dX10_commands_137 rfl hl (by decide) rfl (fun ls hl => ?_)
        obtain ⟨K, hK, ho⟩ := lt_ ho
        have hexit138 : ∀ (v14 : Int32) (σ15 : Mm) (H : Heap) (locs : List Loc) (ls : Array Slot), K v14 σ15 = some out → Bd G σ15 s H locs → lv_has ls 4 [(2, .int v14), (1, .int v8), (0, .ref (G.2.2 198))] → W p l e (headSpec wsX10_commands { frames := 6, cells := 0, slots := 0, locals := 153 }).room s m #[.ref (G.2.2 198)] below meth c H locs 0 0 (MQ below (Qi G s.heap.size out.1 out.2) #[.ref (G.2.2 198)] s 0 0 (AA G s.heap.size)) (F0 m 160 ls []) := by
          intro v14 σ15 H locs ls ho B hl
          subst hK
          refine lv_iconst (v := 0) hx hb dX10_commands_160 (by decide) ?_
          refine lv_istore_n (lv' := [(3, .int 0), (2, .int v14), (1, .int v8), (0, .ref (G.2.2 198))]) hx hb dX10_commands_161 rfl hl (by decide) rfl (fun ls hl => ?_)
          have hloop162 : ∀ (n : Nat) (v20 : Int32) (σ21 : Mm) (H : Heap) (locs : List Loc) (ls : Array Slot), f_X10_commands_l162  v14 v8 n v20 σ21 = some out → Bd G σ21 s H locs → lv_has ls 4 [(3, .int v20), (2, .int v14), (1, .int v8), (0, .ref (G.2.2 198))] → W p l e (headSpec wsX10_commands { frames := 6, cells := 0, slots := 0, locals := 153 }).room s m #[.ref (G.2.2 198)] below meth c H locs 0 0 (MQ below (Qi G s.heap.size out.1 out.2) #[.ref (G.2.2 198)] s 0 0 (AA G s.heap.size)) (F0 m 162 ls []) := by
            intro n
            induction n with
            | zero => intro v20 σ21 H locs ls ho B hl; cases ho
            | succ n ih =>
              intro v20 σ21 H locs ls ho B hl
              refine lv_iload_n hx hb dX10_commands_162 rfl (lv_at hl 0 rfl) ?_
              refine lv_bipush (v := 86) hx hb dX10_commands_163 (by decide) ?_
              refine lv_icmp_ge (tgt := 186) hx hb dX10_commands_165 (by decide) (fun c22 => ?_) (fun c22 => ?_)
              · have ho := ip_ c22 ho
                refine lv_aload_n hx hb dX10_commands_186 rfl (lv_at hl 3 rfl) ?_
                refine lv_iload_n hx hb dX10_commands_187 rfl (lv_at hl 1 rfl) ?_
                refine r_put (ci := 14) (C := RX10) (T := TX10) (N := 21) (ty := .int) S F B tyX10 tyX10_ok nmX10 (kq (by decide) : kd 198 = 21 ∧ 198 < NN) (fun _ => rfl) rfl hiX10 8 (by decide) (by decide +kernel) rfl rfl rfl rfl (fun _ => Nat.le_of_ble_eq_true rfl) (fun _ => rfl) dX10_commands_188 (fun H locs B => ?_)
                obtain ⟨σ23, eσ23, ho⟩ := lt_ ho
                rw [← eσ23] at B
                refine lv_aload_n hx hb dX10_commands_191 rfl (lv_at hl 3 rfl) ?_
                refine lv_iconst (v := 2) hx hb dX10_commands_192 (by decide) ?_
                obtain ⟨q24, σ25, hq24, ho⟩ := bnm_ ho
                refine k_iV (As := [.int 2]) (rest := []) S F B (c_X10_throwing l G σ23 _ 2 hq24) (kq (by decide) : kd 198 = 21 ∧ 198 < NN) rfl rfl (cwV 1 hts gX10_commands_X10_throwing rfl rfl rfl (by decide +kernel) ⟨Nat.le_of_ble_eq_true rfl, Nat.le_of_ble_eq_true rfl⟩) rfl hl.1 rfl (Nat.le_of_ble_eq_true rfl) dX10_commands_193 ⟨Nat.le_of_ble_eq_true rfl, Nat.le_of_ble_eq_true rfl⟩ (fun H locs B => ?_)
                cases ho
                exact e_i B hx hb hr hlocks rfl rfl dX10_commands_196
              · have ho := in_ c22 ho
                refine lv_aload_n hx hb dX10_commands_168 rfl (lv_at hl 3 rfl) ?_
                refine r_get (ci := 14) (C := RX10) (T := TX10) (N := 21) S F B (kq (by decide) : kd 198 = 21 ∧ 198 < NN) rfl rfl hiX10 0 (by decide) (by decide +kernel) rfl dX10_commands_169 ?_
                refine lv_iload_n hx hb dX10_commands_172 rfl (lv_at hl 0 rfl) ?_
                refine lv_aload_n hx hb dX10_commands_173 rfl (lv_at hl 3 rfl) ?_
                refine r_get (ci := 14) (C := RX10) (T := TX10) (N := 21) S F B (kq (by decide) : kd 198 = 21 ∧ 198 < NN) rfl rfl hiX10 1 (by decide) (by decide +kernel) rfl dX10_commands_174 ?_
                refine lv_iload_n hx hb dX10_commands_177 rfl (lv_at hl 0 rfl) ?_
                obtain ⟨hi, ho⟩ := gd_ ho
                refine r_iald S F B (kq (by decide) : kd 200 = 22 ∧ 200 < NN) rfl hi dX10_commands_178 ?_
                obtain ⟨hi, ho⟩ := gd_ ho
                refine r_iast S F B (kq (by decide) : kd 199 = 22 ∧ 199 < NN) (fun _ => rfl) hi dX10_commands_179 (fun H locs B => ?_)
                obtain ⟨σ26, eσ26, ho⟩ := lt_ ho
                rw [← eσ26] at B
                obtain ⟨x27, ex27, ho⟩ := lt_ ho
                refine lv_iinc (v := x27) (lv' := [(3, .int x27), (2, .int v14), (1, .int v8), (0, .ref (G.2.2 198))]) hx hb dX10_commands_180 hl (k := 0) rfl (by rw [ex27]; rfl) (by decide) rfl (fun ls hl => ?_)
                refine lv_goto (tgt := 162) hx hb dX10_commands_183 (by decide) ?_
                exact ih _ _ _ _ _ ho B (lv_sub hl [0, 1, 2, 3] rfl)
          exact hloop162 90 _ _ _ _ _ ho B hl
        have hloop138 : ∀ (n : Nat) (v28 : Int32) (σ29 : Mm) (H : Heap) (locs : List Loc) (ls : Array Slot), f_X10_commands_l138 K v8 n v28 σ29 = some out → Bd G σ29 s H locs → lv_has ls 4 [(2, .int v28), (1, .int v8), (0, .ref (G.2.2 198))] → W p l e (headSpec wsX10_commands { frames := 6, cells := 0, slots := 0, locals := 153 }).room s m #[.ref (G.2.2 198)] below meth c H locs 0 0 (MQ below (Qi G s.heap.size out.1 out.2) #[.ref (G.2.2 198)] s 0 0 (AA G s.heap.size)) (F0 m 138 ls []) := by
          intro n
          induction n with
          | zero => intro v28 σ29 H locs ls ho B hl; cases ho
          | succ n ih =>
            intro v28 σ29 H locs ls ho B hl
            refine lv_iload_n hx hb dX10_commands_138 rfl (lv_at hl 0 rfl) ?_
            refine lv_aload_n hx hb dX10_commands_139 rfl (lv_at hl 2 rfl) ?_
            refine r_get (ci := 14) (C := RX10) (T := TX10) (N := 21) S F B (kq (by decide) : kd 198 = 21 ∧ 198 < NN) rfl rfl hiX10 15 (by decide) (by decide +kernel) rfl dX10_commands_140 ?_
            refine lv_icmp_ge (tgt := 203) hx hb dX10_commands_143 (by decide) (fun c30 => ?_) (fun c30 => ?_)
            · have ho := ip_ c30 ho
              refine lv_aload_n hx hb dX10_commands_203 rfl (lv_at hl 2 rfl) ?_
              refine lv_aload_n hx hb dX10_commands_204 rfl (lv_at hl 2 rfl) ?_
              refine r_get (ci := 14) (C := RX10) (T := TX10) (N := 21) S F B (kq (by decide) : kd 198 = 21 ∧ 198 < NN) rfl rfl hiX10 15 (by decide) (by decide +kernel) rfl dX10_commands_205 ?_
              obtain ⟨q31, σ32, hq31, ho⟩ := bnm_ ho
              refine k_iV (As := [.int (σ29 198 15)]) (rest := []) S F B (c_X10_changed l G σ29 _ (σ29 198 15) hq31) (kq (by decide) : kd 198 = 21 ∧ 198 < NN) rfl rfl (cwV 1 hts gX10_commands_X10_changed rfl rfl rfl (by decide +kernel) ⟨Nat.le_of_ble_eq_true rfl, Nat.le_of_ble_eq_true rfl⟩) rfl hl.1 rfl (Nat.le_of_ble_eq_true rfl) dX10_commands_208 ⟨Nat.le_of_ble_eq_true rfl, Nat.le_of_ble_eq_true rfl⟩ (fun H locs B => ?_)
              cases ho
              exact e_i B hx hb hr hlocks rfl rfl dX10_commands_211
            · have ho := in_ c30 ho
              refine lv_aload_n hx hb dX10_commands_146 rfl (lv_at hl 2 rfl) ?_
              refine lv_iconst (v := 4) hx hb dX10_commands_147 (by decide) ?_
              refine lv_iload_n hx hb dX10_commands_148 rfl (lv_at hl 0 rfl) ?_
              refine lv_imul hx hb dX10_commands_149 ?_
              obtain ⟨σ34, hq33, ho⟩ := bnd_ ho
              refine k_vV (As := [.int (4 * v28)]) (rest := []) S F B (c_X10_does l G σ29 _ (4 * v28) hq33) (kq (by decide) : kd 198 = 21 ∧ 198 < NN) rfl rfl (cwV 1 hts gX10_commands_X10_does rfl rfl rfl (by decide +kernel) ⟨Nat.le_of_ble_eq_true rfl, Nat.le_of_ble_eq_true rfl⟩) rfl hl.1 rfl (Nat.le_of_ble_eq_true rfl) dX10_commands_150 ⟨Nat.le_of_ble_eq_true rfl, Nat.le_of_ble_eq_true rfl⟩ (fun H locs B => ?_)
              refine lv_aload_n hx hb dX10_commands_153 rfl (lv_at hl 2 rfl) ?_
              refine r_get (ci := 14) (C := RX10) (T := TX10) (N := 21) S F B (kq (by decide) : kd 198 = 21 ∧ 198 < NN) rfl rfl hiX10 12 (by decide) (by decide +kernel) rfl dX10_commands_154 ?_
              refine lv_if_le (tgt := 197) hx hb dX10_commands_157 (by decide) (fun c35 => ?_) (fun c35 => ?_)
              · have ho := ip_ c35 ho
                obtain ⟨x36, ex36, ho⟩ := lt_ ho
                refine lv_iinc (v := x36) (lv' := [(2, .int x36), (1, .int v8), (0, .ref (G.2.2 198))]) hx hb dX10_commands_197 hl (k := 0) rfl (by rw [ex36]; rfl) (by decide) rfl (fun ls hl => ?_)
                refine lv_goto (tgt := 138) hx hb dX10_commands_200 (by decide) ?_
                exact ih _ _ _ _ _ ho B (lv_sub hl [0, 1, 2] rfl)
              · have ho := in_ c35 ho
                exact hexit138 _ _ _ _ _ ho B (lv_sub hl [0, 1, 2] rfl)
        exact hloop138 90 _ _ _ _ _ ho B hl
      · have ho := in_ c13 ho
        refine lv_aload_n hx hb dX10_commands_130 rfl (lv_at hl 1 rfl) ?_
        refine lv_iconst (v := 1) hx hb dX10_commands_131 (by decide) ?_
        obtain ⟨q37, σ38, hq37, ho⟩ := bnm_ ho
        refine k_iV (As := [.int 1]) (rest := []) S F B (c_X10_throwing l G σ12 _ 1 hq37) (kq (by decide) : kd 198 = 21 ∧ 198 < NN) rfl rfl (cwV 1 hts gX10_commands_X10_throwing rfl rfl rfl (by decide +kernel) ⟨Nat.le_of_ble_eq_true rfl, Nat.le_of_ble_eq_true rfl⟩) rfl hl.1 rfl (Nat.le_of_ble_eq_true rfl) dX10_commands_132 ⟨Nat.le_of_ble_eq_true rfl, Nat.le_of_ble_eq_true rfl⟩ (fun H locs B => ?_)
        cases ho
        exact e_i B hx hb hr hlocks rfl rfl dX10_commands_135
    · have ho := in_ c11 ho
      refine lv_aload_n hx hb dX10_commands_112 rfl (lv_at hl 1 rfl) ?_
      refine r_get (ci := 14) (C := RX10) (T := TX10) (N := 21) S F B (kq (by decide) : kd 198 = 21 ∧ 198 < NN) rfl rfl hiX10 16 (by decide) (by decide +kernel) rfl dX10_commands_113 ?_
      refine lv_goto (tgt := 120) hx hb dX10_commands_116 (by decide) ?_
      refine r_put (ci := 14) (C := RX10) (T := TX10) (N := 21) (ty := .int) S F B tyX10 tyX10_ok nmX10 (kq (by decide) : kd 198 = 21 ∧ 198 < NN) (fun _ => rfl) rfl hiX10 9 (by decide) (by decide +kernel) rfl rfl rfl rfl (fun _ => Nat.le_of_ble_eq_true rfl) (fun _ => rfl) dX10_commands_120 (fun H locs B => ?_)
      obtain ⟨σ39, eσ39, ho⟩ := lt_ ho
      rw [← eσ39] at B
      refine lv_aload_n hx hb dX10_commands_123 rfl (lv_at hl 1 rfl) ?_
      refine r_get (ci := 14) (C := RX10) (T := TX10) (N := 21) S F B (kq (by decide) : kd 198 = 21 ∧ 198 < NN) rfl rfl hiX10 18 (by decide) (by decide +kernel) rfl dX10_commands_124 ?_
      refine lv_if_eq (tgt := 136) hx hb dX10_commands_127 (by decide) (fun c40 => ?_) (fun c40 => ?_)
      · have ho := ip_ c40 ho
        refine lv_iconst (v := 0) hx hb dX10_commands_136 (by decide) ?_
        refine lv_istore_n (lv' := [(2, .int 0), (1, .int v8), (0, .ref (G.2.2 198))]) hx hb dX10_commands_137 rfl hl (by decide) rfl (fun ls hl => ?_)
        obtain ⟨K, hK, ho⟩ := lt_ ho
        have hexit138 : ∀ (v41 : Int32) (σ42 : Mm) (H : Heap) (locs : List Loc) (ls : Array Slot), K v41 σ42 = some out → Bd G σ42 s H locs → lv_has ls 4 [(2, .int v41), (1, .int v8), (0, .ref (G.2.2 198))] → W p l e (headSpec wsX10_commands { frames := 6, cells := 0, slots := 0, locals := 153 }).room s m #[.ref (G.2.2 198)] below meth c H locs 0 0 (MQ below (Qi G s.heap.size out.1 out.2) #[.ref (G.2.2 198)] s 0 0 (AA G s.heap.size)) (F0 m 160 ls []) := by
          intro v41 σ42 H locs ls ho B hl
          subst hK
          refine lv_iconst (v := 0) hx hb dX10_commands_160 (by decide) ?_
          refine lv_istore_n (lv' := [(3, .int 0), (2, .int v41), (1, .int v8), (0, .ref (G.2.2 198))]) hx hb dX10_commands_161 rfl hl (by decide) rfl (fun ls hl => ?_)
          have hloop162 : ∀ (n : Nat) (v47 : Int32) (σ48 : Mm) (H : Heap) (locs : List Loc) (ls : Array Slot), f_X10_commands_l162b  v41 v8 n v47 σ48 = some out → Bd G σ48 s H locs → lv_has ls 4 [(3, .int v47), (2, .int v41), (1, .int v8), (0, .ref (G.2.2 198))] → W p l e (headSpec wsX10_commands { frames := 6, cells := 0, slots := 0, locals := 153 }).room s m #[.ref (G.2.2 198)] below meth c H locs 0 0 (MQ below (Qi G s.heap.size out.1 out.2) #[.ref (G.2.2 198)] s 0 0 (AA G s.heap.size)) (F0 m 162 ls []) := by
            intro n
            induction n with
            | zero => intro v47 σ48 H locs ls ho B hl; cases ho
            | succ n ih =>
              intro v47 σ48 H locs ls ho B hl
              refine lv_iload_n hx hb dX10_commands_162 rfl (lv_at hl 0 rfl) ?_
              refine lv_bipush (v := 86) hx hb dX10_commands_163 (by decide) ?_
              refine lv_icmp_ge (tgt := 186) hx hb dX10_commands_165 (by decide) (fun c49 => ?_) (fun c49 => ?_)
              · have ho := ip_ c49 ho
                refine lv_aload_n hx hb dX10_commands_186 rfl (lv_at hl 3 rfl) ?_
                refine lv_iload_n hx hb dX10_commands_187 rfl (lv_at hl 1 rfl) ?_
                refine r_put (ci := 14) (C := RX10) (T := TX10) (N := 21) (ty := .int) S F B tyX10 tyX10_ok nmX10 (kq (by decide) : kd 198 = 21 ∧ 198 < NN) (fun _ => rfl) rfl hiX10 8 (by decide) (by decide +kernel) rfl rfl rfl rfl (fun _ => Nat.le_of_ble_eq_true rfl) (fun _ => rfl) dX10_commands_188 (fun H locs B => ?_)
                obtain ⟨σ50, eσ50, ho⟩ := lt_ ho
                rw [← eσ50] at B
                refine lv_aload_n hx hb dX10_commands_191 rfl (lv_at hl 3 rfl) ?_
                refine lv_iconst (v := 2) hx hb dX10_commands_192 (by decide) ?_
                obtain ⟨q51, σ52, hq51, ho⟩ := bnm_ ho
                refine k_iV (As := [.int 2]) (rest := []) S F B (c_X10_throwing l G σ50 _ 2 hq51) (kq (by decide) : kd 198 = 21 ∧ 198 < NN) rfl rfl (cwV 1 hts gX10_commands_X10_throwing rfl rfl rfl (by decide +kernel) ⟨Nat.le_of_ble_eq_true rfl, Nat.le_of_ble_eq_true rfl⟩) rfl hl.1 rfl (Nat.le_of_ble_eq_true rfl) dX10_commands_193 ⟨Nat.le_of_ble_eq_true rfl, Nat.le_of_ble_eq_true rfl⟩ (fun H locs B => ?_)
                cases ho
                exact e_i B hx hb hr hlocks rfl rfl dX10_commands_196
              · have ho := in_ c49 ho
                refine lv_aload_n hx hb dX10_commands_168 rfl (lv_at hl 3 rfl) ?_
                refine r_get (ci := 14) (C := RX10) (T := TX10) (N := 21) S F B (kq (by decide) : kd 198 = 21 ∧ 198 < NN) rfl rfl hiX10 0 (by decide) (by decide +kernel) rfl dX10_commands_169 ?_
                refine lv_iload_n hx hb dX10_commands_172 rfl (lv_at hl 0 rfl) ?_
                refine lv_aload_n hx hb dX10_commands_173 rfl (lv_at hl 3 rfl) ?_
                refine r_get (ci := 14) (C := RX10) (T := TX10) (N := 21) S F B (kq (by decide) : kd 198 = 21 ∧ 198 < NN) rfl rfl hiX10 1 (by decide) (by decide +kernel) rfl dX10_commands_174 ?_
                refine lv_iload_n hx hb dX10_commands_177 rfl (lv_at hl 0 rfl) ?_
                obtain ⟨hi, ho⟩ := gd_ ho
                refine r_iald S F B (kq (by decide) : kd 200 = 22 ∧ 200 < NN) rfl hi dX10_commands_178 ?_
                obtain ⟨hi, ho⟩ := gd_ ho
                refine r_iast S F B (kq (by decide) : kd 199 = 22 ∧ 199 < NN) (fun _ => rfl) hi dX10_commands_179 (fun H locs B => ?_)
                obtain ⟨σ53, eσ53, ho⟩ := lt_ ho
                rw [← eσ53] at B
                obtain ⟨x54, ex54, ho⟩ := lt_ ho
                refine lv_iinc (v := x54) (lv' := [(3, .int x54), (2, .int v41), (1, .int v8), (0, .ref (G.2.2 198))]) hx hb dX10_commands_180 hl (k := 0) rfl (by rw [ex54]; rfl) (by decide) rfl (fun ls hl => ?_)
                refine lv_goto (tgt := 162) hx hb dX10_commands_183 (by decide) ?_
                exact ih _ _ _ _ _ ho B (lv_sub hl [0, 1, 2, 3] rfl)
          exact hloop162 90 _ _ _ _ _ ho B hl
        have hloop138 : ∀ (n : Nat) (v55 : Int32) (σ56 : Mm) (H : Heap) (locs : List Loc) (ls : Array Slot), f_X10_commands_l138b K v8 n v55 σ56 = some out → Bd G σ56 s H locs → lv_has ls 4 [(2, .int v55), (1, .int v8), (0, .ref (G.2.2 198))] → W p l e (headSpec wsX10_commands { frames := 6, cells := 0, slots := 0, locals := 153 }).room s m #[.ref (G.2.2 198)] below meth c H locs 0 0 (MQ below (Qi G s.heap.size out.1 out.2) #[.ref (G.2.2 198)] s 0 0 (AA G s.heap.size)) (F0 m 138 ls []) := by
          intro n
          induction n with
          | zero => intro v55 σ56 H locs ls ho B hl; cases ho
          | succ n ih =>
            intro v55 σ56 H locs ls ho B hl
            refine lv_iload_n hx hb dX10_commands_138 rfl (lv_at hl 0 rfl) ?_
            refine lv_aload_n hx hb dX10_commands_139 rfl (lv_at hl 2 rfl) ?_
            refine r_get (ci := 14) (C := RX10) (T := TX10) (N := 21) S F B (kq (by decide) : kd 198 = 21 ∧ 198 < NN) rfl rfl hiX10 15 (by decide) (by decide +kernel) rfl dX10_commands_140 ?_
            refine lv_icmp_ge (tgt := 203) hx hb dX10_commands_143 (by decide) (fun c57 => ?_) (fun c57 => ?_)
            · have ho := ip_ c57 ho
              refine lv_aload_n hx hb dX10_commands_203 rfl (lv_at hl 2 rfl) ?_
              refine lv_aload_n hx hb dX10_commands_204 rfl (lv_at hl 2 rfl) ?_
              refine r_get (ci := 14) (C := RX10) (T := TX10) (N := 21) S F B (kq (by decide) : kd 198 = 21 ∧ 198 < NN) rfl rfl hiX10 15 (by decide) (by decide +kernel) rfl dX10_commands_205 ?_
              obtain ⟨q58, σ59, hq58, ho⟩ := bnm_ ho
              refine k_iV (As := [.int (σ56 198 15)]) (rest := []) S F B (c_X10_changed l G σ56 _ (σ56 198 15) hq58) (kq (by decide) : kd 198 = 21 ∧ 198 < NN) rfl rfl (cwV 1 hts gX10_commands_X10_changed rfl rfl rfl (by decide +kernel) ⟨Nat.le_of_ble_eq_true rfl, Nat.le_of_ble_eq_true rfl⟩) rfl hl.1 rfl (Nat.le_of_ble_eq_true rfl) dX10_commands_208 ⟨Nat.le_of_ble_eq_true rfl, Nat.le_of_ble_eq_true rfl⟩ (fun H locs B => ?_)
              cases ho
              exact e_i B hx hb hr hlocks rfl rfl dX10_commands_211
            · have ho := in_ c57 ho
              refine lv_aload_n hx hb dX10_commands_146 rfl (lv_at hl 2 rfl) ?_
              refine lv_iconst (v := 4) hx hb dX10_commands_147 (by decide) ?_
              refine lv_iload_n hx hb dX10_commands_148 rfl (lv_at hl 0 rfl) ?_
              refine lv_imul hx hb dX10_commands_149 ?_
              obtain ⟨σ61, hq60, ho⟩ := bnd_ ho
              refine k_vV (As := [.int (4 * v55)]) (rest := []) S F B (c_X10_does l G σ56 _ (4 * v55) hq60) (kq (by decide) : kd 198 = 21 ∧ 198 < NN) rfl rfl (cwV 1 hts gX10_commands_X10_does rfl rfl rfl (by decide +kernel) ⟨Nat.le_of_ble_eq_true rfl, Nat.le_of_ble_eq_true rfl⟩) rfl hl.1 rfl (Nat.le_of_ble_eq_true rfl) dX10_commands_150 ⟨Nat.le_of_ble_eq_true rfl, Nat.le_of_ble_eq_true rfl⟩ (fun H locs B => ?_)
              refine lv_aload_n hx hb dX10_commands_153 rfl (lv_at hl 2 rfl) ?_
              refine r_get (ci := 14) (C := RX10) (T := TX10) (N := 21) S F B (kq (by decide) : kd 198 = 21 ∧ 198 < NN) rfl rfl hiX10 12 (by decide) (by decide +kernel) rfl dX10_commands_154 ?_
              refine lv_if_le (tgt := 197) hx hb dX10_commands_157 (by decide) (fun c62 => ?_) (fun c62 => ?_)
              · have ho := ip_ c62 ho
                obtain ⟨x63, ex63, ho⟩ := lt_ ho
                refine lv_iinc (v := x63) (lv' := [(2, .int x63), (1, .int v8), (0, .ref (G.2.2 198))]) hx hb dX10_commands_197 hl (k := 0) rfl (by rw [ex63]; rfl) (by decide) rfl (fun ls hl => ?_)
                refine lv_goto (tgt := 138) hx hb dX10_commands_200 (by decide) ?_
                exact ih _ _ _ _ _ ho B (lv_sub hl [0, 1, 2] rfl)
              · have ho := in_ c62 ho
                exact hexit138 _ _ _ _ _ ho B (lv_sub hl [0, 1, 2] rfl)
        exact hloop138 90 _ _ _ _ _ ho B hl
      · have ho := in_ c40 ho
        refine lv_aload_n hx hb dX10_commands_130 rfl (lv_at hl 1 rfl) ?_
        refine lv_iconst (v := 1) hx hb dX10_commands_131 (by decide) ?_
        obtain ⟨q64, σ65, hq64, ho⟩ := bnm_ ho
        refine k_iV (As := [.int 1]) (rest := []) S F B (c_X10_throwing l G σ39 _ 1 hq64) (kq (by decide) : kd 198 = 21 ∧ 198 < NN) rfl rfl (cwV 1 hts gX10_commands_X10_throwing rfl rfl rfl (by decide +kernel) ⟨Nat.le_of_ble_eq_true rfl, Nat.le_of_ble_eq_true rfl⟩) rfl hl.1 rfl (Nat.le_of_ble_eq_true rfl) dX10_commands_132 ⟨Nat.le_of_ble_eq_true rfl, Nat.le_of_ble_eq_true rfl⟩ (fun H locs B => ?_)
        cases ho
        exact e_i B hx hb hr hlocks rfl rfl dX10_commands_135
  have hloop34 : ∀ (n : Nat) (v66 : Int32) (σ67 : Mm) (H : Heap) (locs : List Loc) (ls : Array Slot), f_X10_commands_l34 K  n v66 σ67 = some out → Bd G σ67 s H locs → lv_has ls 4 [(1, .int v66), (0, .ref (G.2.2 198))] → W p l e (headSpec wsX10_commands { frames := 6, cells := 0, slots := 0, locals := 153 }).room s m #[.ref (G.2.2 198)] below meth c H locs 0 0 (MQ below (Qi G s.heap.size out.1 out.2) #[.ref (G.2.2 198)] s 0 0 (AA G s.heap.size)) (F0 m 34 ls []) := by
    intro n
    induction n with
    | zero => intro v66 σ67 H locs ls ho B hl; cases ho
    | succ n ih =>
      intro v66 σ67 H locs ls ho B hl
      refine lv_iload_n hx hb dX10_commands_34 rfl (lv_at hl 0 rfl) ?_
      refine lv_if_eq (tgt := 104) hx hb dX10_commands_35 (by decide) (fun c68 => ?_) (fun c68 => ?_)
      · have ho := ip_ c68 ho
        exact hexit34 _ _ _ _ _ ho B (lv_sub hl [0, 1] rfl)
      · have ho := in_ c68 ho
        refine lv_aload_n hx hb dX10_commands_38 rfl (lv_at hl 1 rfl) ?_
        obtain ⟨σ70, hq69, ho⟩ := bnd_ ho
        refine k_vV (As := []) (rest := []) S F B (c_X10_readOrder l G σ67 _ hq69) (kq (by decide) : kd 198 = 21 ∧ 198 < NN) rfl rfl (cwV 0 hts gX10_commands_X10_readOrder rfl rfl rfl (by decide +kernel) ⟨Nat.le_of_ble_eq_true rfl, Nat.le_of_ble_eq_true rfl⟩) rfl hl.1 rfl (Nat.le_of_ble_eq_true rfl) dX10_commands_39 ⟨Nat.le_of_ble_eq_true rfl, Nat.le_of_ble_eq_true rfl⟩ (fun H locs B => ?_)
        refine lv_aload_n hx hb dX10_commands_42 rfl (lv_at hl 1 rfl) ?_
        refine r_get (ci := 14) (C := RX10) (T := TX10) (N := 21) S F B (kq (by decide) : kd 198 = 21 ∧ 198 < NN) rfl rfl hiX10 18 (by decide) (by decide +kernel) rfl dX10_commands_43 ?_
        refine lv_if_ne (tgt := 64) hx hb dX10_commands_46 (by decide) (fun c71 => ?_) (fun c71 => ?_)
        · have ho := in_ c71 ho
          refine lv_iconst (v := 0) hx hb dX10_commands_64 (by decide) ?_
          refine lv_istore_n (lv' := [(1, .int 0), (0, .ref (G.2.2 198))]) hx hb dX10_commands_65 rfl hl (by decide) rfl (fun ls hl => ?_)
          refine lv_iload_n hx hb dX10_commands_66 rfl (lv_at hl 0 rfl) ?_
          refine lv_if_eq (tgt := 34) hx hb dX10_commands_67 (by decide) (fun _ => ?_) (fun h => absurd h (by decide))
          exact ih _ _ _ _ _ ho B (lv_sub hl [0, 1] rfl)
        · have ho := ip_ c71 ho
          refine lv_aload_n hx hb dX10_commands_49 rfl (lv_at hl 1 rfl) ?_
          refine r_get (ci := 14) (C := RX10) (T := TX10) (N := 21) S F B (kq (by decide) : kd 198 = 21 ∧ 198 < NN) rfl rfl hiX10 16 (by decide) (by decide +kernel) rfl dX10_commands_50 ?_
          refine lv_aload_n hx hb dX10_commands_53 rfl (lv_at hl 1 rfl) ?_
          refine r_get (ci := 14) (C := RX10) (T := TX10) (N := 21) S F B (kq (by decide) : kd 198 = 21 ∧ 198 < NN) rfl rfl hiX10 17 (by decide) (by decide +kernel) rfl dX10_commands_54 ?_
          refine lv_icmp_ge (tgt := 64) hx hb dX10_commands_57 (by decide) (fun c72 => ?_) (fun c72 => ?_)
          · have ho := ip_ c72 ho
            refine lv_iconst (v := 0) hx hb dX10_commands_64 (by decide) ?_
            refine lv_istore_n (lv' := [(1, .int 0), (0, .ref (G.2.2 198))]) hx hb dX10_commands_65 rfl hl (by decide) rfl (fun ls hl => ?_)
            refine lv_iload_n hx hb dX10_commands_66 rfl (lv_at hl 0 rfl) ?_
            refine lv_if_eq (tgt := 34) hx hb dX10_commands_67 (by decide) (fun _ => ?_) (fun h => absurd h (by decide))
            exact ih _ _ _ _ _ ho B (lv_sub hl [0, 1] rfl)
          · have ho := in_ c72 ho
            refine lv_iconst (v := 1) hx hb dX10_commands_60 (by decide) ?_
            refine lv_goto (tgt := 65) hx hb dX10_commands_61 (by decide) ?_
            refine lv_istore_n (lv' := [(1, .int 1), (0, .ref (G.2.2 198))]) hx hb dX10_commands_65 rfl hl (by decide) rfl (fun ls hl => ?_)
            refine lv_iload_n hx hb dX10_commands_66 rfl (lv_at hl 0 rfl) ?_
            refine lv_if_eq (tgt := 34) hx hb dX10_commands_67 (by decide) (fun h => absurd h (by decide)) (fun _ => ?_)
            refine lv_aload_n hx hb dX10_commands_70 rfl (lv_at hl 1 rfl) ?_
            refine lv_aload_n hx hb dX10_commands_71 rfl (lv_at hl 1 rfl) ?_
            obtain ⟨q73, hq73, ho⟩ := bnd_ ho
            refine k_iV (As := []) (rest := [.ref (G.2.2 198)]) S F B (c_X10_here l G σ70 _ hq73) (kq (by decide) : kd 198 = 21 ∧ 198 < NN) rfl rfl (cwV 0 hts gX10_commands_X10_here rfl rfl rfl (by decide +kernel) ⟨Nat.le_of_ble_eq_true rfl, Nat.le_of_ble_eq_true rfl⟩) rfl hl.1 rfl (Nat.le_of_ble_eq_true rfl) dX10_commands_72 ⟨Nat.le_of_ble_eq_true rfl, Nat.le_of_ble_eq_true rfl⟩ (fun H locs B => ?_)
            refine lv_bipush (v := 59) hx hb dX10_commands_75 (by decide) ?_
            refine lv_icmp_ne (tgt := 84) hx hb dX10_commands_77 (by decide) (fun c74 => ?_) (fun c74 => ?_)
            · have ho := in_ c74 ho
              refine lv_iconst (v := 0) hx hb dX10_commands_84 (by decide) ?_
              obtain ⟨σ76, hq75, ho⟩ := bnd_ ho
              refine k_vV (As := [.int 0]) (rest := []) S F B (c_X10_expects l G σ70 _ 0 hq75) (kq (by decide) : kd 198 = 21 ∧ 198 < NN) rfl rfl (cwV 1 hts gX10_commands_X10_expects rfl rfl rfl (by decide +kernel) ⟨Nat.le_of_ble_eq_true rfl, Nat.le_of_ble_eq_true rfl⟩) rfl hl.1 rfl (Nat.le_of_ble_eq_true rfl) dX10_commands_85 ⟨Nat.le_of_ble_eq_true rfl, Nat.le_of_ble_eq_true rfl⟩ (fun H locs B => ?_)
              refine lv_aload_n hx hb dX10_commands_88 rfl (lv_at hl 1 rfl) ?_
              refine r_get (ci := 14) (C := RX10) (T := TX10) (N := 21) S F B (kq (by decide) : kd 198 = 21 ∧ 198 < NN) rfl rfl hiX10 18 (by decide) (by decide +kernel) rfl dX10_commands_89 ?_
              refine lv_if_ne (tgt := 99) hx hb dX10_commands_92 (by decide) (fun c77 => ?_) (fun c77 => ?_)
              · have ho := in_ c77 ho
                refine lv_iconst (v := 0) hx hb dX10_commands_99 (by decide) ?_
                refine lv_istore_n (lv' := [(1, .int 0), (0, .ref (G.2.2 198))]) hx hb dX10_commands_100 rfl hl (by decide) rfl (fun ls hl => ?_)
                refine lv_goto (tgt := 34) hx hb dX10_commands_101 (by decide) ?_
                exact ih _ _ _ _ _ ho B (lv_sub hl [0, 1] rfl)
              · have ho := ip_ c77 ho
                refine lv_iconst (v := 1) hx hb dX10_commands_95 (by decide) ?_
                refine lv_goto (tgt := 100) hx hb dX10_commands_96 (by decide) ?_
                refine lv_istore_n (lv' := [(1, .int 1), (0, .ref (G.2.2 198))]) hx hb dX10_commands_100 rfl hl (by decide) rfl (fun ls hl => ?_)
                refine lv_goto (tgt := 34) hx hb dX10_commands_101 (by decide) ?_
                exact ih _ _ _ _ _ ho B (lv_sub hl [0, 1] rfl)
            · have ho := ip_ c74 ho
              refine lv_iconst (v := 1) hx hb dX10_commands_80 (by decide) ?_
              refine lv_goto (tgt := 85) hx hb dX10_commands_81 (by decide) ?_
              obtain ⟨σ79, hq78, ho⟩ := bnd_ ho
              refine k_vV (As := [.int 1]) (rest := []) S F B (c_X10_expects l G σ70 _ 1 hq78) (kq (by decide) : kd 198 = 21 ∧ 198 < NN) rfl rfl (cwV 1 hts gX10_commands_X10_expects rfl rfl rfl (by decide +kernel) ⟨Nat.le_of_ble_eq_true rfl, Nat.le_of_ble_eq_true rfl⟩) rfl hl.1 rfl (Nat.le_of_ble_eq_true rfl) dX10_commands_85 ⟨Nat.le_of_ble_eq_true rfl, Nat.le_of_ble_eq_true rfl⟩ (fun H locs B => ?_)
              refine lv_aload_n hx hb dX10_commands_88 rfl (lv_at hl 1 rfl) ?_
              refine r_get (ci := 14) (C := RX10) (T := TX10) (N := 21) S F B (kq (by decide) : kd 198 = 21 ∧ 198 < NN) rfl rfl hiX10 18 (by decide) (by decide +kernel) rfl dX10_commands_89 ?_
              refine lv_if_ne (tgt := 99) hx hb dX10_commands_92 (by decide) (fun c80 => ?_) (fun c80 => ?_)
              · have ho := in_ c80 ho
                refine lv_iconst (v := 0) hx hb dX10_commands_99 (by decide) ?_
                refine lv_istore_n (lv' := [(1, .int 0), (0, .ref (G.2.2 198))]) hx hb dX10_commands_100 rfl hl (by decide) rfl (fun ls hl => ?_)
                refine lv_goto (tgt := 34) hx hb dX10_commands_101 (by decide) ?_
                exact ih _ _ _ _ _ ho B (lv_sub hl [0, 1] rfl)
              · have ho := ip_ c80 ho
                refine lv_iconst (v := 1) hx hb dX10_commands_95 (by decide) ?_
                refine lv_goto (tgt := 100) hx hb dX10_commands_96 (by decide) ?_
                refine lv_istore_n (lv' := [(1, .int 1), (0, .ref (G.2.2 198))]) hx hb dX10_commands_100 rfl hl (by decide) rfl (fun ls hl => ?_)
                refine lv_goto (tgt := 34) hx hb dX10_commands_101 (by decide) ?_
                exact ih _ _ _ _ _ ho B (lv_sub hl [0, 1] rfl)
  exact hloop34 90 _ _ _ _ _ ho B hl

set_option maxHeartbeats 4000000 in
set_option maxRecDepth 100000 in
theorem c_X10_faultPosition (l : Launch) (G : Gd) (σ : Mm) (sz : Nat) {out : Int32 × Mm} (ho : f_X10_faultPosition σ = some out) : Met l yX10_faultPosition wsX10_faultPosition { frames := 0, cells := 0, slots := 0, locals := 0 } (va_Pc [.ref (G.2.2 198)] (PW G σ sz)) (Qi G sz out.1 out.2) 0 0 (AA G sz) := by
  refine Met.ofW (cc := cX10_faultPosition) (maxL := 1) (ret := (some .int)) (by decide) rfl ?_
  intro p e s m args below meth c s₁ B0 hml hv
  obtain ⟨rfl, hpw⟩ := hv
  have hsz := hpw.1
  subst hsz
  obtain ⟨F, B⟩ := hpw.to
  have hx := B0.exec
  have hb := B0.bytes
  have hr := B0.returns
  have hts := atoms_spec (ws := wsX10_faultPosition) B0.pre
  have hown : s.vm.findClass RX10 = some m.cls := findClass_of_methodNamed B0.named
  have hlocks := B0.notSynchronized
  have S : CallFix p m c cX10_faultPosition 1 s _ wsX10_faultPosition RX10 := ⟨hx, hb, hml, hown, hts⟩
  have hiX10 : ∀ w ∈ u_ws RX10 TX10 21, w ∈ wsX10_faultPosition := by decide +kernel
  have hl := lv_entry [.ref (G.2.2 198)] (n := 1) (Nat.le_of_ble_eq_true rfl)
  rw [lg_entry_eq]
  generalize (lg_sl [.ref (G.2.2 198)] ++ List.replicate (1 - (lg_sl [.ref (G.2.2 198)]).length) Slot.unset).toArray = ls at hl ⊢
  have hl : lv_has ls 1 [(0, .ref (G.2.2 198))] := hl
  unfold f_X10_faultPosition at ho
  refine lv_aload_n hx hb dX10_faultPosition_0 rfl (lv_at hl 0 rfl) ?_
  refine lv_iconst (v := 0) hx hb dX10_faultPosition_1 (by decide) ?_
  refine r_put (ci := 14) (C := RX10) (T := TX10) (N := 21) (ty := .int) S F B tyX10 tyX10_ok nmX10 (kq (by decide) : kd 198 = 21 ∧ 198 < NN) (fun _ => rfl) rfl hiX10 12 (by decide) (by decide +kernel) rfl rfl rfl rfl (fun _ => Nat.le_of_ble_eq_true rfl) (fun _ => rfl) dX10_faultPosition_2 (fun H locs B => ?_)
  obtain ⟨σ1, eσ1, ho⟩ := lt_ ho
  rw [← eσ1] at B
  refine lv_aload_n hx hb dX10_faultPosition_5 rfl (lv_at hl 0 rfl) ?_
  refine r_get (ci := 14) (C := RX10) (T := TX10) (N := 21) S F B (kq (by decide) : kd 198 = 21 ∧ 198 < NN) rfl rfl hiX10 9 (by decide) (by decide +kernel) rfl dX10_faultPosition_6 ?_
  cases ho
  exact e_i B hx hb hr hlocks rfl rfl dX10_faultPosition_9

set_option maxHeartbeats 4000000 in
set_option maxRecDepth 100000 in
theorem c_X10_reason (l : Launch) (G : Gd) (σ : Mm) (sz : Nat) (a0 : Int32) {out : Int32 × Mm} (ho : f_X10_reason a0 σ = some out) : Met l yX10_reason wsX10_reason { frames := 1, cells := 0, slots := 0, locals := 25 } (va_Pc [.ref (G.2.2 198), .int a0] (PW G σ sz)) (Qi G sz out.1 out.2) 0 0 (AA G sz) := by
  refine Met.ofW (cc := cX10_reason) (maxL := 2) (ret := (some .int)) (by decide) rfl ?_
  intro p e s m args below meth c s₁ B0 hml hv
  obtain ⟨rfl, hpw⟩ := hv
  have hsz := hpw.1
  subst hsz
  obtain ⟨F, B⟩ := hpw.to
  have hx := B0.exec
  have hb := B0.bytes
  have hr := B0.returns
  have hts := atoms_spec (ws := wsX10_reason) B0.pre
  have hown : s.vm.findClass RX10 = some m.cls := findClass_of_methodNamed B0.named
  have hlocks := B0.notSynchronized
  have S : CallFix p m c cX10_reason 2 s _ wsX10_reason RX10 := ⟨hx, hb, hml, hown, hts⟩
  have hiX10 : ∀ w ∈ u_ws RX10 TX10 21, w ∈ wsX10_reason := by decide +kernel
  have hl := lv_entry [.ref (G.2.2 198), .int a0] (n := 2) (Nat.le_of_ble_eq_true rfl)
  rw [lg_entry_eq]
  generalize (lg_sl [.ref (G.2.2 198), .int a0] ++ List.replicate (2 - (lg_sl [.ref (G.2.2 198), .int a0]).length) Slot.unset).toArray = ls at hl ⊢
  have hl : lv_has ls 2 [(0, .ref (G.2.2 198)), (1, .int a0)] := hl
  unfold f_X10_reason at ho
  refine lv_aload_n hx hb dX10_reason_0 rfl (lv_at hl 0 rfl) ?_
  refine lv_iconst (v := 0) hx hb dX10_reason_1 (by decide) ?_
  refine r_put (ci := 14) (C := RX10) (T := TX10) (N := 21) (ty := .int) S F B tyX10 tyX10_ok nmX10 (kq (by decide) : kd 198 = 21 ∧ 198 < NN) (fun _ => rfl) rfl hiX10 12 (by decide) (by decide +kernel) rfl rfl rfl rfl (fun _ => Nat.le_of_ble_eq_true rfl) (fun _ => rfl) dX10_reason_2 (fun H locs B => ?_)
  obtain ⟨σ1, eσ1, ho⟩ := lt_ ho
  rw [← eσ1] at B
  refine lv_iload_n hx hb dX10_reason_5 rfl (lv_at hl 1 rfl) ?_
  refine lv_i2l hx hb dX10_reason_6 rfl ?_
  refine lv_lconst (v := 0) hx hb dX10_reason_7 (by decide) ?_
  refine lv_ldc2 (v := 2) hx hb hown (hts _ (by decide +kernel)) dX10_reason_8 ?_
  obtain ⟨q2, hq2, ho⟩ := bnd_ ho
  refine k_iS (As := [.long a0.toInt64, .long 0, .long 2]) (rest := []) S F B (c_X10_in l G σ1 _ a0.toInt64 0 2 hq2) (va_cwS 3 hts gX10_reason_X10_in rfl rfl rfl (by decide +kernel) ⟨Nat.le_of_ble_eq_true rfl, Nat.le_of_ble_eq_true rfl⟩) rfl hl.1 rfl (Nat.le_of_ble_eq_true rfl) dX10_reason_11 ⟨Nat.le_of_ble_eq_true rfl, Nat.le_of_ble_eq_true rfl⟩ (fun H locs B => ?_)
  refine lv_if_ne (tgt := 23) hx hb dX10_reason_14 (by decide) (fun c3 => ?_) (fun c3 => ?_)
  · have ho := in_ c3 ho
    refine lv_aload_n hx hb dX10_reason_23 rfl (lv_at hl 0 rfl) ?_
    refine r_get (ci := 14) (C := RX10) (T := TX10) (N := 21) S F B (kq (by decide) : kd 198 = 21 ∧ 198 < NN) rfl rfl hiX10 6 (by decide) (by decide +kernel) rfl dX10_reason_24 ?_
    refine lv_if_ne (tgt := 36) hx hb dX10_reason_27 (by decide) (fun c4 => ?_) (fun c4 => ?_)
    · have ho := in_ c4 ho
      refine lv_iload_n hx hb dX10_reason_36 rfl (lv_at hl 1 rfl) ?_
      refine lv_if_ne (tgt := 47) hx hb dX10_reason_37 (by decide) (fun c5 => ?_) (fun c5 => ?_)
      · have ho := in_ c5 ho
        refine lv_iload_n hx hb dX10_reason_47 rfl (lv_at hl 1 rfl) ?_
        refine lv_iconst (v := 1) hx hb dX10_reason_48 (by decide) ?_
        refine lv_icmp_ne (tgt := 59) hx hb dX10_reason_49 (by decide) (fun c6 => ?_) (fun c6 => ?_)
        · have ho := in_ c6 ho
          refine lv_aload_n hx hb dX10_reason_59 rfl (lv_at hl 0 rfl) ?_
          refine r_get (ci := 14) (C := RX10) (T := TX10) (N := 21) S F B (kq (by decide) : kd 198 = 21 ∧ 198 < NN) rfl rfl hiX10 8 (by decide) (by decide +kernel) rfl dX10_reason_60 ?_
          cases ho
          exact e_i B hx hb hr hlocks rfl rfl dX10_reason_63
        · have ho := ip_ c6 ho
          refine lv_aload_n hx hb dX10_reason_52 rfl (lv_at hl 0 rfl) ?_
          refine r_get (ci := 14) (C := RX10) (T := TX10) (N := 21) S F B (kq (by decide) : kd 198 = 21 ∧ 198 < NN) rfl rfl hiX10 7 (by decide) (by decide +kernel) rfl dX10_reason_53 ?_
          refine lv_goto (tgt := 63) hx hb dX10_reason_56 (by decide) ?_
          cases ho
          exact e_i B hx hb hr hlocks rfl rfl dX10_reason_63
      · have ho := ip_ c5 ho
        refine lv_aload_n hx hb dX10_reason_40 rfl (lv_at hl 0 rfl) ?_
        refine r_get (ci := 14) (C := RX10) (T := TX10) (N := 21) S F B (kq (by decide) : kd 198 = 21 ∧ 198 < NN) rfl rfl hiX10 6 (by decide) (by decide +kernel) rfl dX10_reason_41 ?_
        refine lv_goto (tgt := 63) hx hb dX10_reason_44 (by decide) ?_
        cases ho
        exact e_i B hx hb hr hlocks rfl rfl dX10_reason_63
    · have ho := ip_ c4 ho
      refine lv_aload_n hx hb dX10_reason_30 rfl (lv_at hl 0 rfl) ?_
      refine lv_iconst (v := 2) hx hb dX10_reason_31 (by decide) ?_
      obtain ⟨q7, σ8, hq7, ho⟩ := bnm_ ho
      refine k_iV (As := [.int 2]) (rest := []) S F B (c_X10_throwing l G σ1 _ 2 hq7) (kq (by decide) : kd 198 = 21 ∧ 198 < NN) rfl rfl (cwV 1 hts gX10_reason_X10_throwing rfl rfl rfl (by decide +kernel) ⟨Nat.le_of_ble_eq_true rfl, Nat.le_of_ble_eq_true rfl⟩) rfl hl.1 rfl (Nat.le_of_ble_eq_true rfl) dX10_reason_32 ⟨Nat.le_of_ble_eq_true rfl, Nat.le_of_ble_eq_true rfl⟩ (fun H locs B => ?_)
      cases ho
      exact e_i B hx hb hr hlocks rfl rfl dX10_reason_35
  · have ho := ip_ c3 ho
    refine lv_aload_n hx hb dX10_reason_17 rfl (lv_at hl 0 rfl) ?_
    refine lv_iconst (v := 1) hx hb dX10_reason_18 (by decide) ?_
    obtain ⟨q9, σ10, hq9, ho⟩ := bnm_ ho
    refine k_iV (As := [.int 1]) (rest := []) S F B (c_X10_throwing l G σ1 _ 1 hq9) (kq (by decide) : kd 198 = 21 ∧ 198 < NN) rfl rfl (cwV 1 hts gX10_reason_X10_throwing rfl rfl rfl (by decide +kernel) ⟨Nat.le_of_ble_eq_true rfl, Nat.le_of_ble_eq_true rfl⟩) rfl hl.1 rfl (Nat.le_of_ble_eq_true rfl) dX10_reason_19 ⟨Nat.le_of_ble_eq_true rfl, Nat.le_of_ble_eq_true rfl⟩ (fun H locs B => ?_)
    cases ho
    exact e_i B hx hb hr hlocks rfl rfl dX10_reason_22

set_option maxHeartbeats 4000000 in
set_option maxRecDepth 100000 in
theorem c_X10_sign (l : Launch) (G : Gd) (σ : Mm) (sz : Nat) (a0 : Int32) {out : Mm} (ho : f_X10_sign a0 σ = some out) : Met l yX10_sign wsX10_sign { frames := 0, cells := 0, slots := 0, locals := 0 } (va_Pc [.ref (G.2.2 198), .int a0] (PW G σ sz)) (Qv G sz out) 0 0 (AA G sz) := by
  refine Met.ofW (cc := cX10_sign) (maxL := 2) (ret := none) (by decide) rfl ?_
  intro p e s m args below meth c s₁ B0 hml hv
  obtain ⟨rfl, hpw⟩ := hv
  have hsz := hpw.1
  subst hsz
  obtain ⟨F, B⟩ := hpw.to
  have hx := B0.exec
  have hb := B0.bytes
  have hr := B0.returns
  have hts := atoms_spec (ws := wsX10_sign) B0.pre
  have hown : s.vm.findClass RX10 = some m.cls := findClass_of_methodNamed B0.named
  have hlocks := B0.notSynchronized
  have S : CallFix p m c cX10_sign 2 s _ wsX10_sign RX10 := ⟨hx, hb, hml, hown, hts⟩
  have hiX10 : ∀ w ∈ u_ws RX10 TX10 21, w ∈ wsX10_sign := by decide +kernel
  have hl := lv_entry [.ref (G.2.2 198), .int a0] (n := 2) (Nat.le_of_ble_eq_true rfl)
  rw [lg_entry_eq]
  generalize (lg_sl [.ref (G.2.2 198), .int a0] ++ List.replicate (2 - (lg_sl [.ref (G.2.2 198), .int a0]).length) Slot.unset).toArray = ls at hl ⊢
  have hl : lv_has ls 2 [(0, .ref (G.2.2 198)), (1, .int a0)] := hl
  unfold f_X10_sign at ho
  refine lv_aload_n hx hb dX10_sign_0 rfl (lv_at hl 0 rfl) ?_
  refine r_get (ci := 14) (C := RX10) (T := TX10) (N := 21) S F B (kq (by decide) : kd 198 = 21 ∧ 198 < NN) rfl rfl hiX10 19 (by decide) (by decide +kernel) rfl dX10_sign_1 ?_
  refine lv_aload_n hx hb dX10_sign_4 rfl (lv_at hl 0 rfl) ?_
  refine r_get (ci := 14) (C := RX10) (T := TX10) (N := 21) S F B (kq (by decide) : kd 198 = 21 ∧ 198 < NN) rfl rfl hiX10 20 (by decide) (by decide +kernel) rfl dX10_sign_5 ?_
  refine lv_iload_n hx hb dX10_sign_8 rfl (lv_at hl 1 rfl) ?_
  obtain ⟨hi, ho⟩ := gd_ ho
  refine r_iast S F B (kq (by decide) : kd 206 = 26 ∧ 206 < NN) (fun _ => rfl) hi dX10_sign_9 (fun H locs B => ?_)
  obtain ⟨σ1, eσ1, ho⟩ := lt_ ho
  rw [← eσ1] at B
  refine lv_aload_n hx hb dX10_sign_10 rfl (lv_at hl 0 rfl) ?_
  refine lv_dup hx hb dX10_sign_11 rfl ?_
  refine r_get (ci := 14) (C := RX10) (T := TX10) (N := 21) S F B (kq (by decide) : kd 198 = 21 ∧ 198 < NN) rfl rfl hiX10 20 (by decide) (by decide +kernel) rfl dX10_sign_12 ?_
  refine lv_iconst (v := 1) hx hb dX10_sign_15 (by decide) ?_
  refine lv_iadd hx hb dX10_sign_16 ?_
  refine r_put (ci := 14) (C := RX10) (T := TX10) (N := 21) (ty := .int) S F B tyX10 tyX10_ok nmX10 (kq (by decide) : kd 198 = 21 ∧ 198 < NN) (fun _ => rfl) rfl hiX10 20 (by decide) (by decide +kernel) rfl rfl rfl rfl (fun _ => Nat.le_of_ble_eq_true rfl) (fun _ => rfl) dX10_sign_17 (fun H locs B => ?_)
  obtain ⟨σ2, eσ2, ho⟩ := lt_ ho
  rw [← eσ2] at B
  cases ho
  exact e_v B hx hb hr hlocks dX10_sign_20

set_option maxHeartbeats 4000000 in
set_option maxRecDepth 100000 in
theorem c_X10_writesNumber (l : Launch) (G : Gd) (σ : Mm) (sz : Nat) (a0 : Int32) {out : Mm} (ho : f_X10_writesNumber a0 σ = some out) : Met l yX10_writesNumber wsX10_writesNumber { frames := 1, cells := 0, slots := 0, locals := 21 } (va_Pc [.ref (G.2.2 198), .int a0] (PW G σ sz)) (Qv G sz out) 0 0 (AA G sz) := by
  refine Met.ofW (cc := cX10_writesNumber) (maxL := 4) (ret := none) (by decide) rfl ?_
  intro p e s m args below meth c s₁ B0 hml hv
  obtain ⟨rfl, hpw⟩ := hv
  have hsz := hpw.1
  subst hsz
  obtain ⟨F, B⟩ := hpw.to
  have hx := B0.exec
  have hb := B0.bytes
  have hr := B0.returns
  have hts := atoms_spec (ws := wsX10_writesNumber) B0.pre
  have hown : s.vm.findClass RX10 = some m.cls := findClass_of_methodNamed B0.named
  have hlocks := B0.notSynchronized
  have S : CallFix p m c cX10_writesNumber 4 s _ wsX10_writesNumber RX10 := ⟨hx, hb, hml, hown, hts⟩
  have hl := lv_entry [.ref (G.2.2 198), .int a0] (n := 4) (Nat.le_of_ble_eq_true rfl)
  rw [lg_entry_eq]
  generalize (lg_sl [.ref (G.2.2 198), .int a0] ++ List.replicate (4 - (lg_sl [.ref (G.2.2 198), .int a0]).length) Slot.unset).toArray = ls at hl ⊢
  have hl : lv_has ls 4 [(0, .ref (G.2.2 198)), (1, .int a0)] := hl
  unfold f_X10_writesNumber at ho
  skip
  refine lv_iconst (v := 1) hx hb dX10_writesNumber_0 (by decide) ?_
  refine lv_istore_n (lv' := [(2, .int 1), (0, .ref (G.2.2 198)), (1, .int a0)]) hx hb dX10_writesNumber_1 rfl hl (by decide) rfl (fun ls hl => ?_)
  obtain ⟨K, hK, ho⟩ := lt_ ho
  have hexit2 : ∀ (v1 : Int32) (H : Heap) (locs : List Loc) (ls : Array Slot), K v1 = some out → Bd G σ s H locs → lv_has ls 4 [(2, .int v1), (0, .ref (G.2.2 198)), (1, .int a0)] → W p l e (headSpec wsX10_writesNumber { frames := 1, cells := 0, slots := 0, locals := 21 }).room s m #[.ref (G.2.2 198), .int a0] below meth c H locs 0 0 (MQ below (Qv G s.heap.size out) #[.ref (G.2.2 198), .int a0] s 0 0 (AA G s.heap.size)) (F0 m 18 ls []) := by
    intro v1 H locs ls ho B hl
    subst hK
    refine lv_iload_n hx hb dX10_writesNumber_18 rfl (lv_at hl 0 rfl) ?_
    refine lv_istore_n (lv' := [(3, .int v1), (2, .int v1), (0, .ref (G.2.2 198)), (1, .int a0)]) hx hb dX10_writesNumber_19 rfl hl (by decide) rfl (fun ls hl => ?_)
    have hloop20 : ∀ (n : Nat) (v6 : Int32) (σ7 : Mm) (H : Heap) (locs : List Loc) (ls : Array Slot), f_X10_writesNumber_l20  v1 a0 n v6 σ7 = some out → Bd G σ7 s H locs → lv_has ls 4 [(3, .int v6), (2, .int v1), (0, .ref (G.2.2 198)), (1, .int a0)] → W p l e (headSpec wsX10_writesNumber { frames := 1, cells := 0, slots := 0, locals := 21 }).room s m #[.ref (G.2.2 198), .int a0] below meth c H locs 0 0 (MQ below (Qv G s.heap.size out) #[.ref (G.2.2 198), .int a0] s 0 0 (AA G s.heap.size)) (F0 m 20 ls []) := by
      intro n
      induction n with
      | zero => intro v6 σ7 H locs ls ho B hl; cases ho
      | succ n ih =>
        intro v6 σ7 H locs ls ho B hl
        refine lv_iload_n hx hb dX10_writesNumber_20 rfl (lv_at hl 0 rfl) ?_
        refine lv_if_le (tgt := 45) hx hb dX10_writesNumber_21 (by decide) (fun c8 => ?_) (fun c8 => ?_)
        · have ho := ip_ c8 ho
          cases ho
          exact e_v B hx hb hr hlocks dX10_writesNumber_45
        · have ho := in_ c8 ho
          refine lv_aload_n hx hb dX10_writesNumber_24 rfl (lv_at hl 2 rfl) ?_
          refine lv_bipush (v := 48) hx hb dX10_writesNumber_25 (by decide) ?_
          refine lv_iload_n hx hb dX10_writesNumber_27 rfl (lv_at hl 3 rfl) ?_
          refine lv_iload_n hx hb dX10_writesNumber_28 rfl (lv_at hl 0 rfl) ?_
          obtain ⟨h0, ho⟩ := nz_ ho
          refine lv_idiv hx hb dX10_writesNumber_29 h0 ?_
          refine lv_bipush (v := 10) hx hb dX10_writesNumber_30 (by decide) ?_
          refine lv_irem hx hb dX10_writesNumber_32 (by decide) ?_
          refine lv_iadd hx hb dX10_writesNumber_33 ?_
          obtain ⟨σ10, hq9, ho⟩ := bnd_ ho
          refine k_vV (As := [.int (48 + ((a0 / v6) - (a0 / v6) / 10 * 10))]) (rest := []) S F B (c_X10_sign l G σ7 _ (48 + ((a0 / v6) - (a0 / v6) / 10 * 10)) hq9) (kq (by decide) : kd 198 = 21 ∧ 198 < NN) rfl rfl (cwV 1 hts gX10_writesNumber_X10_sign rfl rfl rfl (by decide +kernel) ⟨Nat.le_of_ble_eq_true rfl, Nat.le_of_ble_eq_true rfl⟩) rfl hl.1 rfl (Nat.le_of_ble_eq_true rfl) dX10_writesNumber_34 ⟨Nat.le_of_ble_eq_true rfl, Nat.le_of_ble_eq_true rfl⟩ (fun H locs B => ?_)
          refine lv_iload_n hx hb dX10_writesNumber_37 rfl (lv_at hl 0 rfl) ?_
          refine lv_bipush (v := 10) hx hb dX10_writesNumber_38 (by decide) ?_
          refine lv_idiv hx hb dX10_writesNumber_40 (by decide) ?_
          obtain ⟨x11, ex11, ho⟩ := lt_ ho
          refine lv_nm ex11 ?_
          refine lv_istore_n (lv' := [(3, .int x11), (2, .int v1), (0, .ref (G.2.2 198)), (1, .int a0)]) hx hb dX10_writesNumber_41 rfl hl (by decide) rfl (fun ls hl => ?_)
          refine lv_goto (tgt := 20) hx hb dX10_writesNumber_42 (by decide) ?_
          exact ih _ _ _ _ _ ho B (lv_sub hl [0, 1, 2, 3] rfl)
    exact hloop20 12 _ _ _ _ _ ho B hl
  have hloop2 : ∀ (n : Nat) (v12 : Int32) (H : Heap) (locs : List Loc) (ls : Array Slot), f_X10_writesNumber_l2 K a0 σ n v12 = some out → Bd G σ s H locs → lv_has ls 4 [(2, .int v12), (0, .ref (G.2.2 198)), (1, .int a0)] → W p l e (headSpec wsX10_writesNumber { frames := 1, cells := 0, slots := 0, locals := 21 }).room s m #[.ref (G.2.2 198), .int a0] below meth c H locs 0 0 (MQ below (Qv G s.heap.size out) #[.ref (G.2.2 198), .int a0] s 0 0 (AA G s.heap.size)) (F0 m 2 ls []) := by
    intro n
    induction n with
    | zero => intro v12 H locs ls ho B hl; cases ho
    | succ n ih =>
      intro v12 H locs ls ho B hl
      refine lv_iload_n hx hb dX10_writesNumber_2 rfl (lv_at hl 2 rfl) ?_
      refine lv_iload_n hx hb dX10_writesNumber_3 rfl (lv_at hl 0 rfl) ?_
      obtain ⟨h0, ho⟩ := nz_ ho
      refine lv_idiv hx hb dX10_writesNumber_4 h0 ?_
      refine lv_bipush (v := 9) hx hb dX10_writesNumber_5 (by decide) ?_
      refine lv_icmp_le (tgt := 18) hx hb dX10_writesNumber_7 (by decide) (fun c13 => ?_) (fun c13 => ?_)
      · have ho := ip_ c13 ho
        exact hexit2 _  _ _ _ ho B (lv_sub hl [0, 1, 2] rfl)
      · have ho := in_ c13 ho
        refine lv_iload_n hx hb dX10_writesNumber_10 rfl (lv_at hl 0 rfl) ?_
        refine lv_bipush (v := 10) hx hb dX10_writesNumber_11 (by decide) ?_
        refine lv_imul hx hb dX10_writesNumber_13 ?_
        obtain ⟨x14, ex14, ho⟩ := lt_ ho
        refine lv_nm ex14 ?_
        refine lv_istore_n (lv' := [(2, .int x14), (0, .ref (G.2.2 198)), (1, .int a0)]) hx hb dX10_writesNumber_14 rfl hl (by decide) rfl (fun ls hl => ?_)
        refine lv_goto (tgt := 2) hx hb dX10_writesNumber_15 (by decide) ?_
        exact ih _  _ _ _ ho B (lv_sub hl [0, 1, 2] rfl)
  exact hloop2 12 _  _ _ _ ho B hl

set_option maxHeartbeats 4000000 in
set_option maxRecDepth 100000 in
theorem c_X10_line (l : Launch) (G : Gd) (σ : Mm) (sz : Nat) (a0 : Int32) {out : Int32 × Mm} (ho : f_X10_line a0 σ = some out) : Met l yX10_line wsX10_line { frames := 2, cells := 0, slots := 0, locals := 46 } (va_Pc [.ref (G.2.2 198), .int a0] (PW G σ sz)) (Qi G sz out.1 out.2) 0 0 (AA G sz) := by
  refine Met.ofW (cc := cX10_line) (maxL := 3) (ret := (some .int)) (by decide) rfl ?_
  intro p e s m args below meth c s₁ B0 hml hv
  obtain ⟨rfl, hpw⟩ := hv
  have hsz := hpw.1
  subst hsz
  obtain ⟨F, B⟩ := hpw.to
  have hx := B0.exec
  have hb := B0.bytes
  have hr := B0.returns
  have hts := atoms_spec (ws := wsX10_line) B0.pre
  have hown : s.vm.findClass RX10 = some m.cls := findClass_of_methodNamed B0.named
  have hlocks := B0.notSynchronized
  have S : CallFix p m c cX10_line 3 s _ wsX10_line RX10 := ⟨hx, hb, hml, hown, hts⟩
  have hiX10 : ∀ w ∈ u_ws RX10 TX10 21, w ∈ wsX10_line := by decide +kernel
  have hl := lv_entry [.ref (G.2.2 198), .int a0] (n := 3) (Nat.le_of_ble_eq_true rfl)
  rw [lg_entry_eq]
  generalize (lg_sl [.ref (G.2.2 198), .int a0] ++ List.replicate (3 - (lg_sl [.ref (G.2.2 198), .int a0]).length) Slot.unset).toArray = ls at hl ⊢
  have hl : lv_has ls 3 [(0, .ref (G.2.2 198)), (1, .int a0)] := hl
  unfold f_X10_line at ho
  refine lv_aload_n hx hb dX10_line_0 rfl (lv_at hl 0 rfl) ?_
  refine lv_iconst (v := 0) hx hb dX10_line_1 (by decide) ?_
  refine r_put (ci := 14) (C := RX10) (T := TX10) (N := 21) (ty := .int) S F B tyX10 tyX10_ok nmX10 (kq (by decide) : kd 198 = 21 ∧ 198 < NN) (fun _ => rfl) rfl hiX10 12 (by decide) (by decide +kernel) rfl rfl rfl rfl (fun _ => Nat.le_of_ble_eq_true rfl) (fun _ => rfl) dX10_line_2 (fun H locs B => ?_)
  obtain ⟨σ1, eσ1, ho⟩ := lt_ ho
  rw [← eσ1] at B
  refine lv_aload_n hx hb dX10_line_5 rfl (lv_at hl 0 rfl) ?_
  refine lv_iload_n hx hb dX10_line_6 rfl (lv_at hl 1 rfl) ?_
  obtain ⟨q2, hq2, ho⟩ := bnd_ ho
  refine k_iV (As := [.int a0]) (rest := []) S F B (c_X10_isVisitor l G σ1 _ a0 hq2) (kq (by decide) : kd 198 = 21 ∧ 198 < NN) rfl rfl (cwV 1 hts gX10_line_X10_isVisitor rfl rfl rfl (by decide +kernel) ⟨Nat.le_of_ble_eq_true rfl, Nat.le_of_ble_eq_true rfl⟩) rfl hl.1 rfl (Nat.le_of_ble_eq_true rfl) dX10_line_7 ⟨Nat.le_of_ble_eq_true rfl, Nat.le_of_ble_eq_true rfl⟩ (fun H locs B => ?_)
  refine lv_if_ne (tgt := 19) hx hb dX10_line_10 (by decide) (fun c3 => ?_) (fun c3 => ?_)
  · have ho := in_ c3 ho
    refine lv_iload_n hx hb dX10_line_19 rfl (lv_at hl 1 rfl) ?_
    obtain ⟨q4, hq4, ho⟩ := bnd_ ho
    refine k_iS (As := [.int a0]) (rest := []) S F B (c_X10_visitorAt l G σ1 _ a0 hq4) (va_cwS 1 hts gX10_line_X10_visitorAt rfl rfl rfl (by decide +kernel) ⟨Nat.le_of_ble_eq_true rfl, Nat.le_of_ble_eq_true rfl⟩) rfl hl.1 rfl (Nat.le_of_ble_eq_true rfl) dX10_line_20 ⟨Nat.le_of_ble_eq_true rfl, Nat.le_of_ble_eq_true rfl⟩ (fun H locs B => ?_)
    refine lv_istore_n (lv' := [(2, .int q4), (0, .ref (G.2.2 198)), (1, .int a0)]) hx hb dX10_line_23 rfl hl (by decide) rfl (fun ls hl => ?_)
    refine lv_aload_n hx hb dX10_line_24 rfl (lv_at hl 1 rfl) ?_
    refine lv_iconst (v := 0) hx hb dX10_line_25 (by decide) ?_
    refine r_put (ci := 14) (C := RX10) (T := TX10) (N := 21) (ty := .int) S F B tyX10 tyX10_ok nmX10 (kq (by decide) : kd 198 = 21 ∧ 198 < NN) (fun _ => rfl) rfl hiX10 20 (by decide) (by decide +kernel) rfl rfl rfl rfl (fun _ => Nat.le_of_ble_eq_true rfl) (fun _ => rfl) dX10_line_26 (fun H locs B => ?_)
    obtain ⟨σ5, eσ5, ho⟩ := lt_ ho
    rw [← eσ5] at B
    refine lv_aload_n hx hb dX10_line_29 rfl (lv_at hl 1 rfl) ?_
    refine r_get (ci := 14) (C := RX10) (T := TX10) (N := 21) S F B (kq (by decide) : kd 198 = 21 ∧ 198 < NN) rfl rfl hiX10 0 (by decide) (by decide +kernel) rfl dX10_line_30 ?_
    refine lv_iload_n hx hb dX10_line_33 rfl (lv_at hl 0 rfl) ?_
    refine lv_bipush (v := 7) hx hb dX10_line_34 (by decide) ?_
    refine lv_iadd hx hb dX10_line_36 ?_
    obtain ⟨hi, ho⟩ := gd_ ho
    refine r_iald S F B (kq (by decide) : kd 199 = 22 ∧ 199 < NN) rfl hi dX10_line_37 ?_
    refine lv_iconst (v := 1) hx hb dX10_line_38 (by decide) ?_
    refine lv_icmp_ne (tgt := 63) hx hb dX10_line_39 (by decide) (fun c6 => ?_) (fun c6 => ?_)
    · have ho := in_ c6 ho
      refine lv_aload_n hx hb dX10_line_63 rfl (lv_at hl 1 rfl) ?_
      refine lv_aload_n hx hb dX10_line_64 rfl (lv_at hl 1 rfl) ?_
      refine r_get (ci := 14) (C := RX10) (T := TX10) (N := 21) S F B (kq (by decide) : kd 198 = 21 ∧ 198 < NN) rfl rfl hiX10 0 (by decide) (by decide +kernel) rfl dX10_line_65 ?_
      refine lv_iload_n hx hb dX10_line_68 rfl (lv_at hl 0 rfl) ?_
      refine lv_iconst (v := 1) hx hb dX10_line_69 (by decide) ?_
      refine lv_iadd hx hb dX10_line_70 ?_
      obtain ⟨hi, ho⟩ := gd_ ho
      refine r_iald S F B (kq (by decide) : kd 199 = 22 ∧ 199 < NN) rfl hi dX10_line_71 ?_
      obtain ⟨σ8, hq7, ho⟩ := bnd_ ho
      refine k_vV (As := [.int (σ5 199 (q4 + 1).toNatClampNeg)]) (rest := []) S F B (c_X10_writesNumber l G σ5 _ (σ5 199 (q4 + 1).toNatClampNeg) hq7) (kq (by decide) : kd 198 = 21 ∧ 198 < NN) rfl rfl (cwV 1 hts gX10_line_X10_writesNumber rfl rfl rfl (by decide +kernel) ⟨Nat.le_of_ble_eq_true rfl, Nat.le_of_ble_eq_true rfl⟩) rfl hl.1 rfl (Nat.le_of_ble_eq_true rfl) dX10_line_72 ⟨Nat.le_of_ble_eq_true rfl, Nat.le_of_ble_eq_true rfl⟩ (fun H locs B => ?_)
      refine lv_aload_n hx hb dX10_line_75 rfl (lv_at hl 1 rfl) ?_
      refine lv_bipush (v := 43) hx hb dX10_line_76 (by decide) ?_
      obtain ⟨σ10, hq9, ho⟩ := bnd_ ho
      refine k_vV (As := [.int 43]) (rest := []) S F B (c_X10_sign l G σ8 _ 43 hq9) (kq (by decide) : kd 198 = 21 ∧ 198 < NN) rfl rfl (cwV 1 hts gX10_line_X10_sign rfl rfl rfl (by decide +kernel) ⟨Nat.le_of_ble_eq_true rfl, Nat.le_of_ble_eq_true rfl⟩) rfl hl.1 rfl (Nat.le_of_ble_eq_true rfl) dX10_line_78 ⟨Nat.le_of_ble_eq_true rfl, Nat.le_of_ble_eq_true rfl⟩ (fun H locs B => ?_)
      refine lv_aload_n hx hb dX10_line_81 rfl (lv_at hl 1 rfl) ?_
      refine lv_aload_n hx hb dX10_line_82 rfl (lv_at hl 1 rfl) ?_
      refine r_get (ci := 14) (C := RX10) (T := TX10) (N := 21) S F B (kq (by decide) : kd 198 = 21 ∧ 198 < NN) rfl rfl hiX10 0 (by decide) (by decide +kernel) rfl dX10_line_83 ?_
      refine lv_iload_n hx hb dX10_line_86 rfl (lv_at hl 0 rfl) ?_
      refine lv_iconst (v := 2) hx hb dX10_line_87 (by decide) ?_
      refine lv_iadd hx hb dX10_line_88 ?_
      obtain ⟨hi, ho⟩ := gd_ ho
      refine r_iald S F B (kq (by decide) : kd 199 = 22 ∧ 199 < NN) rfl hi dX10_line_89 ?_
      obtain ⟨σ12, hq11, ho⟩ := bnd_ ho
      refine k_vV (As := [.int (σ10 199 (q4 + 2).toNatClampNeg)]) (rest := []) S F B (c_X10_writesNumber l G σ10 _ (σ10 199 (q4 + 2).toNatClampNeg) hq11) (kq (by decide) : kd 198 = 21 ∧ 198 < NN) rfl rfl (cwV 1 hts gX10_line_X10_writesNumber rfl rfl rfl (by decide +kernel) ⟨Nat.le_of_ble_eq_true rfl, Nat.le_of_ble_eq_true rfl⟩) rfl hl.1 rfl (Nat.le_of_ble_eq_true rfl) dX10_line_90 ⟨Nat.le_of_ble_eq_true rfl, Nat.le_of_ble_eq_true rfl⟩ (fun H locs B => ?_)
      refine lv_aload_n hx hb dX10_line_93 rfl (lv_at hl 1 rfl) ?_
      refine r_get (ci := 14) (C := RX10) (T := TX10) (N := 21) S F B (kq (by decide) : kd 198 = 21 ∧ 198 < NN) rfl rfl hiX10 0 (by decide) (by decide +kernel) rfl dX10_line_94 ?_
      refine lv_iload_n hx hb dX10_line_97 rfl (lv_at hl 0 rfl) ?_
      refine lv_iconst (v := 4) hx hb dX10_line_98 (by decide) ?_
      refine lv_iadd hx hb dX10_line_99 ?_
      obtain ⟨hi, ho⟩ := gd_ ho
      refine r_iald S F B (kq (by decide) : kd 199 = 22 ∧ 199 < NN) rfl hi dX10_line_100 ?_
      refine lv_iconst (v := (-1)) hx hb dX10_line_101 (by decide) ?_
      refine lv_icmp_eq (tgt := 160) hx hb dX10_line_102 (by decide) (fun c13 => ?_) (fun c13 => ?_)
      · have ho := ip_ c13 ho
        refine lv_aload_n hx hb dX10_line_160 rfl (lv_at hl 1 rfl) ?_
        refine r_get (ci := 14) (C := RX10) (T := TX10) (N := 21) S F B (kq (by decide) : kd 198 = 21 ∧ 198 < NN) rfl rfl hiX10 20 (by decide) (by decide +kernel) rfl dX10_line_161 ?_
        cases ho
        exact e_i B hx hb hr hlocks rfl rfl dX10_line_164
      · have ho := in_ c13 ho
        refine lv_aload_n hx hb dX10_line_105 rfl (lv_at hl 1 rfl) ?_
        refine lv_bipush (v := 35) hx hb dX10_line_106 (by decide) ?_
        obtain ⟨σ15, hq14, ho⟩ := bnd_ ho
        refine k_vV (As := [.int 35]) (rest := []) S F B (c_X10_sign l G σ12 _ 35 hq14) (kq (by decide) : kd 198 = 21 ∧ 198 < NN) rfl rfl (cwV 1 hts gX10_line_X10_sign rfl rfl rfl (by decide +kernel) ⟨Nat.le_of_ble_eq_true rfl, Nat.le_of_ble_eq_true rfl⟩) rfl hl.1 rfl (Nat.le_of_ble_eq_true rfl) dX10_line_108 ⟨Nat.le_of_ble_eq_true rfl, Nat.le_of_ble_eq_true rfl⟩ (fun H locs B => ?_)
        refine lv_aload_n hx hb dX10_line_111 rfl (lv_at hl 1 rfl) ?_
        refine lv_aload_n hx hb dX10_line_112 rfl (lv_at hl 1 rfl) ?_
        refine r_get (ci := 14) (C := RX10) (T := TX10) (N := 21) S F B (kq (by decide) : kd 198 = 21 ∧ 198 < NN) rfl rfl hiX10 0 (by decide) (by decide +kernel) rfl dX10_line_113 ?_
        refine lv_iload_n hx hb dX10_line_116 rfl (lv_at hl 0 rfl) ?_
        refine lv_iconst (v := 4) hx hb dX10_line_117 (by decide) ?_
        refine lv_iadd hx hb dX10_line_118 ?_
        obtain ⟨hi, ho⟩ := gd_ ho
        refine r_iald S F B (kq (by decide) : kd 199 = 22 ∧ 199 < NN) rfl hi dX10_line_119 ?_
        obtain ⟨σ17, hq16, ho⟩ := bnd_ ho
        refine k_vV (As := [.int (σ15 199 (q4 + 4).toNatClampNeg)]) (rest := []) S F B (c_X10_writesNumber l G σ15 _ (σ15 199 (q4 + 4).toNatClampNeg) hq16) (kq (by decide) : kd 198 = 21 ∧ 198 < NN) rfl rfl (cwV 1 hts gX10_line_X10_writesNumber rfl rfl rfl (by decide +kernel) ⟨Nat.le_of_ble_eq_true rfl, Nat.le_of_ble_eq_true rfl⟩) rfl hl.1 rfl (Nat.le_of_ble_eq_true rfl) dX10_line_120 ⟨Nat.le_of_ble_eq_true rfl, Nat.le_of_ble_eq_true rfl⟩ (fun H locs B => ?_)
        refine lv_aload_n hx hb dX10_line_123 rfl (lv_at hl 1 rfl) ?_
        refine lv_bipush (v := 42) hx hb dX10_line_124 (by decide) ?_
        obtain ⟨σ19, hq18, ho⟩ := bnd_ ho
        refine k_vV (As := [.int 42]) (rest := []) S F B (c_X10_sign l G σ17 _ 42 hq18) (kq (by decide) : kd 198 = 21 ∧ 198 < NN) rfl rfl (cwV 1 hts gX10_line_X10_sign rfl rfl rfl (by decide +kernel) ⟨Nat.le_of_ble_eq_true rfl, Nat.le_of_ble_eq_true rfl⟩) rfl hl.1 rfl (Nat.le_of_ble_eq_true rfl) dX10_line_126 ⟨Nat.le_of_ble_eq_true rfl, Nat.le_of_ble_eq_true rfl⟩ (fun H locs B => ?_)
        refine lv_aload_n hx hb dX10_line_129 rfl (lv_at hl 1 rfl) ?_
        refine lv_aload_n hx hb dX10_line_130 rfl (lv_at hl 1 rfl) ?_
        refine r_get (ci := 14) (C := RX10) (T := TX10) (N := 21) S F B (kq (by decide) : kd 198 = 21 ∧ 198 < NN) rfl rfl hiX10 0 (by decide) (by decide +kernel) rfl dX10_line_131 ?_
        refine lv_iload_n hx hb dX10_line_134 rfl (lv_at hl 0 rfl) ?_
        refine lv_iconst (v := 5) hx hb dX10_line_135 (by decide) ?_
        refine lv_iadd hx hb dX10_line_136 ?_
        obtain ⟨hi, ho⟩ := gd_ ho
        refine r_iald S F B (kq (by decide) : kd 199 = 22 ∧ 199 < NN) rfl hi dX10_line_137 ?_
        obtain ⟨σ21, hq20, ho⟩ := bnd_ ho
        refine k_vV (As := [.int (σ19 199 (q4 + 5).toNatClampNeg)]) (rest := []) S F B (c_X10_writesNumber l G σ19 _ (σ19 199 (q4 + 5).toNatClampNeg) hq20) (kq (by decide) : kd 198 = 21 ∧ 198 < NN) rfl rfl (cwV 1 hts gX10_line_X10_writesNumber rfl rfl rfl (by decide +kernel) ⟨Nat.le_of_ble_eq_true rfl, Nat.le_of_ble_eq_true rfl⟩) rfl hl.1 rfl (Nat.le_of_ble_eq_true rfl) dX10_line_138 ⟨Nat.le_of_ble_eq_true rfl, Nat.le_of_ble_eq_true rfl⟩ (fun H locs B => ?_)
        refine lv_aload_n hx hb dX10_line_141 rfl (lv_at hl 1 rfl) ?_
        refine r_get (ci := 14) (C := RX10) (T := TX10) (N := 21) S F B (kq (by decide) : kd 198 = 21 ∧ 198 < NN) rfl rfl hiX10 0 (by decide) (by decide +kernel) rfl dX10_line_142 ?_
        refine lv_iload_n hx hb dX10_line_145 rfl (lv_at hl 0 rfl) ?_
        refine lv_bipush (v := 6) hx hb dX10_line_146 (by decide) ?_
        refine lv_iadd hx hb dX10_line_148 ?_
        obtain ⟨hi, ho⟩ := gd_ ho
        refine r_iald S F B (kq (by decide) : kd 199 = 22 ∧ 199 < NN) rfl hi dX10_line_149 ?_
        refine lv_iconst (v := 1) hx hb dX10_line_150 (by decide) ?_
        refine lv_icmp_ne (tgt := 160) hx hb dX10_line_151 (by decide) (fun c22 => ?_) (fun c22 => ?_)
        · have ho := in_ c22 ho
          refine lv_aload_n hx hb dX10_line_160 rfl (lv_at hl 1 rfl) ?_
          refine r_get (ci := 14) (C := RX10) (T := TX10) (N := 21) S F B (kq (by decide) : kd 198 = 21 ∧ 198 < NN) rfl rfl hiX10 20 (by decide) (by decide +kernel) rfl dX10_line_161 ?_
          cases ho
          exact e_i B hx hb hr hlocks rfl rfl dX10_line_164
        · have ho := ip_ c22 ho
          refine lv_aload_n hx hb dX10_line_154 rfl (lv_at hl 1 rfl) ?_
          refine lv_bipush (v := 33) hx hb dX10_line_155 (by decide) ?_
          obtain ⟨σ24, hq23, ho⟩ := bnd_ ho
          refine k_vV (As := [.int 33]) (rest := []) S F B (c_X10_sign l G σ21 _ 33 hq23) (kq (by decide) : kd 198 = 21 ∧ 198 < NN) rfl rfl (cwV 1 hts gX10_line_X10_sign rfl rfl rfl (by decide +kernel) ⟨Nat.le_of_ble_eq_true rfl, Nat.le_of_ble_eq_true rfl⟩) rfl hl.1 rfl (Nat.le_of_ble_eq_true rfl) dX10_line_157 ⟨Nat.le_of_ble_eq_true rfl, Nat.le_of_ble_eq_true rfl⟩ (fun H locs B => ?_)
          refine lv_aload_n hx hb dX10_line_160 rfl (lv_at hl 1 rfl) ?_
          refine r_get (ci := 14) (C := RX10) (T := TX10) (N := 21) S F B (kq (by decide) : kd 198 = 21 ∧ 198 < NN) rfl rfl hiX10 20 (by decide) (by decide +kernel) rfl dX10_line_161 ?_
          cases ho
          exact e_i B hx hb hr hlocks rfl rfl dX10_line_164
    · have ho := ip_ c6 ho
      refine lv_aload_n hx hb dX10_line_42 rfl (lv_at hl 1 rfl) ?_
      refine lv_bipush (v := 111) hx hb dX10_line_43 (by decide) ?_
      obtain ⟨σ26, hq25, ho⟩ := bnd_ ho
      refine k_vV (As := [.int 111]) (rest := []) S F B (c_X10_sign l G σ5 _ 111 hq25) (kq (by decide) : kd 198 = 21 ∧ 198 < NN) rfl rfl (cwV 1 hts gX10_line_X10_sign rfl rfl rfl (by decide +kernel) ⟨Nat.le_of_ble_eq_true rfl, Nat.le_of_ble_eq_true rfl⟩) rfl hl.1 rfl (Nat.le_of_ble_eq_true rfl) dX10_line_45 ⟨Nat.le_of_ble_eq_true rfl, Nat.le_of_ble_eq_true rfl⟩ (fun H locs B => ?_)
      refine lv_aload_n hx hb dX10_line_48 rfl (lv_at hl 1 rfl) ?_
      refine lv_bipush (v := 117) hx hb dX10_line_49 (by decide) ?_
      obtain ⟨σ28, hq27, ho⟩ := bnd_ ho
      refine k_vV (As := [.int 117]) (rest := []) S F B (c_X10_sign l G σ26 _ 117 hq27) (kq (by decide) : kd 198 = 21 ∧ 198 < NN) rfl rfl (cwV 1 hts gX10_line_X10_sign rfl rfl rfl (by decide +kernel) ⟨Nat.le_of_ble_eq_true rfl, Nat.le_of_ble_eq_true rfl⟩) rfl hl.1 rfl (Nat.le_of_ble_eq_true rfl) dX10_line_51 ⟨Nat.le_of_ble_eq_true rfl, Nat.le_of_ble_eq_true rfl⟩ (fun H locs B => ?_)
      refine lv_aload_n hx hb dX10_line_54 rfl (lv_at hl 1 rfl) ?_
      refine lv_bipush (v := 116) hx hb dX10_line_55 (by decide) ?_
      obtain ⟨σ30, hq29, ho⟩ := bnd_ ho
      refine k_vV (As := [.int 116]) (rest := []) S F B (c_X10_sign l G σ28 _ 116 hq29) (kq (by decide) : kd 198 = 21 ∧ 198 < NN) rfl rfl (cwV 1 hts gX10_line_X10_sign rfl rfl rfl (by decide +kernel) ⟨Nat.le_of_ble_eq_true rfl, Nat.le_of_ble_eq_true rfl⟩) rfl hl.1 rfl (Nat.le_of_ble_eq_true rfl) dX10_line_57 ⟨Nat.le_of_ble_eq_true rfl, Nat.le_of_ble_eq_true rfl⟩ (fun H locs B => ?_)
      refine lv_goto (tgt := 75) hx hb dX10_line_60 (by decide) ?_
      refine lv_aload_n hx hb dX10_line_75 rfl (lv_at hl 1 rfl) ?_
      refine lv_bipush (v := 43) hx hb dX10_line_76 (by decide) ?_
      obtain ⟨σ32, hq31, ho⟩ := bnd_ ho
      refine k_vV (As := [.int 43]) (rest := []) S F B (c_X10_sign l G σ30 _ 43 hq31) (kq (by decide) : kd 198 = 21 ∧ 198 < NN) rfl rfl (cwV 1 hts gX10_line_X10_sign rfl rfl rfl (by decide +kernel) ⟨Nat.le_of_ble_eq_true rfl, Nat.le_of_ble_eq_true rfl⟩) rfl hl.1 rfl (Nat.le_of_ble_eq_true rfl) dX10_line_78 ⟨Nat.le_of_ble_eq_true rfl, Nat.le_of_ble_eq_true rfl⟩ (fun H locs B => ?_)
      refine lv_aload_n hx hb dX10_line_81 rfl (lv_at hl 1 rfl) ?_
      refine lv_aload_n hx hb dX10_line_82 rfl (lv_at hl 1 rfl) ?_
      refine r_get (ci := 14) (C := RX10) (T := TX10) (N := 21) S F B (kq (by decide) : kd 198 = 21 ∧ 198 < NN) rfl rfl hiX10 0 (by decide) (by decide +kernel) rfl dX10_line_83 ?_
      refine lv_iload_n hx hb dX10_line_86 rfl (lv_at hl 0 rfl) ?_
      refine lv_iconst (v := 2) hx hb dX10_line_87 (by decide) ?_
      refine lv_iadd hx hb dX10_line_88 ?_
      obtain ⟨hi, ho⟩ := gd_ ho
      refine r_iald S F B (kq (by decide) : kd 199 = 22 ∧ 199 < NN) rfl hi dX10_line_89 ?_
      obtain ⟨σ34, hq33, ho⟩ := bnd_ ho
      refine k_vV (As := [.int (σ32 199 (q4 + 2).toNatClampNeg)]) (rest := []) S F B (c_X10_writesNumber l G σ32 _ (σ32 199 (q4 + 2).toNatClampNeg) hq33) (kq (by decide) : kd 198 = 21 ∧ 198 < NN) rfl rfl (cwV 1 hts gX10_line_X10_writesNumber rfl rfl rfl (by decide +kernel) ⟨Nat.le_of_ble_eq_true rfl, Nat.le_of_ble_eq_true rfl⟩) rfl hl.1 rfl (Nat.le_of_ble_eq_true rfl) dX10_line_90 ⟨Nat.le_of_ble_eq_true rfl, Nat.le_of_ble_eq_true rfl⟩ (fun H locs B => ?_)
      refine lv_aload_n hx hb dX10_line_93 rfl (lv_at hl 1 rfl) ?_
      refine r_get (ci := 14) (C := RX10) (T := TX10) (N := 21) S F B (kq (by decide) : kd 198 = 21 ∧ 198 < NN) rfl rfl hiX10 0 (by decide) (by decide +kernel) rfl dX10_line_94 ?_
      refine lv_iload_n hx hb dX10_line_97 rfl (lv_at hl 0 rfl) ?_
      refine lv_iconst (v := 4) hx hb dX10_line_98 (by decide) ?_
      refine lv_iadd hx hb dX10_line_99 ?_
      obtain ⟨hi, ho⟩ := gd_ ho
      refine r_iald S F B (kq (by decide) : kd 199 = 22 ∧ 199 < NN) rfl hi dX10_line_100 ?_
      refine lv_iconst (v := (-1)) hx hb dX10_line_101 (by decide) ?_
      refine lv_icmp_eq (tgt := 160) hx hb dX10_line_102 (by decide) (fun c35 => ?_) (fun c35 => ?_)
      · have ho := ip_ c35 ho
        refine lv_aload_n hx hb dX10_line_160 rfl (lv_at hl 1 rfl) ?_
        refine r_get (ci := 14) (C := RX10) (T := TX10) (N := 21) S F B (kq (by decide) : kd 198 = 21 ∧ 198 < NN) rfl rfl hiX10 20 (by decide) (by decide +kernel) rfl dX10_line_161 ?_
        cases ho
        exact e_i B hx hb hr hlocks rfl rfl dX10_line_164
      · have ho := in_ c35 ho
        refine lv_aload_n hx hb dX10_line_105 rfl (lv_at hl 1 rfl) ?_
        refine lv_bipush (v := 35) hx hb dX10_line_106 (by decide) ?_
        obtain ⟨σ37, hq36, ho⟩ := bnd_ ho
        refine k_vV (As := [.int 35]) (rest := []) S F B (c_X10_sign l G σ34 _ 35 hq36) (kq (by decide) : kd 198 = 21 ∧ 198 < NN) rfl rfl (cwV 1 hts gX10_line_X10_sign rfl rfl rfl (by decide +kernel) ⟨Nat.le_of_ble_eq_true rfl, Nat.le_of_ble_eq_true rfl⟩) rfl hl.1 rfl (Nat.le_of_ble_eq_true rfl) dX10_line_108 ⟨Nat.le_of_ble_eq_true rfl, Nat.le_of_ble_eq_true rfl⟩ (fun H locs B => ?_)
        refine lv_aload_n hx hb dX10_line_111 rfl (lv_at hl 1 rfl) ?_
        refine lv_aload_n hx hb dX10_line_112 rfl (lv_at hl 1 rfl) ?_
        refine r_get (ci := 14) (C := RX10) (T := TX10) (N := 21) S F B (kq (by decide) : kd 198 = 21 ∧ 198 < NN) rfl rfl hiX10 0 (by decide) (by decide +kernel) rfl dX10_line_113 ?_
        refine lv_iload_n hx hb dX10_line_116 rfl (lv_at hl 0 rfl) ?_
        refine lv_iconst (v := 4) hx hb dX10_line_117 (by decide) ?_
        refine lv_iadd hx hb dX10_line_118 ?_
        obtain ⟨hi, ho⟩ := gd_ ho
        refine r_iald S F B (kq (by decide) : kd 199 = 22 ∧ 199 < NN) rfl hi dX10_line_119 ?_
        obtain ⟨σ39, hq38, ho⟩ := bnd_ ho
        refine k_vV (As := [.int (σ37 199 (q4 + 4).toNatClampNeg)]) (rest := []) S F B (c_X10_writesNumber l G σ37 _ (σ37 199 (q4 + 4).toNatClampNeg) hq38) (kq (by decide) : kd 198 = 21 ∧ 198 < NN) rfl rfl (cwV 1 hts gX10_line_X10_writesNumber rfl rfl rfl (by decide +kernel) ⟨Nat.le_of_ble_eq_true rfl, Nat.le_of_ble_eq_true rfl⟩) rfl hl.1 rfl (Nat.le_of_ble_eq_true rfl) dX10_line_120 ⟨Nat.le_of_ble_eq_true rfl, Nat.le_of_ble_eq_true rfl⟩ (fun H locs B => ?_)
        refine lv_aload_n hx hb dX10_line_123 rfl (lv_at hl 1 rfl) ?_
        refine lv_bipush (v := 42) hx hb dX10_line_124 (by decide) ?_
        obtain ⟨σ41, hq40, ho⟩ := bnd_ ho
        refine k_vV (As := [.int 42]) (rest := []) S F B (c_X10_sign l G σ39 _ 42 hq40) (kq (by decide) : kd 198 = 21 ∧ 198 < NN) rfl rfl (cwV 1 hts gX10_line_X10_sign rfl rfl rfl (by decide +kernel) ⟨Nat.le_of_ble_eq_true rfl, Nat.le_of_ble_eq_true rfl⟩) rfl hl.1 rfl (Nat.le_of_ble_eq_true rfl) dX10_line_126 ⟨Nat.le_of_ble_eq_true rfl, Nat.le_of_ble_eq_true rfl⟩ (fun H locs B => ?_)
        refine lv_aload_n hx hb dX10_line_129 rfl (lv_at hl 1 rfl) ?_
        refine lv_aload_n hx hb dX10_line_130 rfl (lv_at hl 1 rfl) ?_
        refine r_get (ci := 14) (C := RX10) (T := TX10) (N := 21) S F B (kq (by decide) : kd 198 = 21 ∧ 198 < NN) rfl rfl hiX10 0 (by decide) (by decide +kernel) rfl dX10_line_131 ?_
        refine lv_iload_n hx hb dX10_line_134 rfl (lv_at hl 0 rfl) ?_
        refine lv_iconst (v := 5) hx hb dX10_line_135 (by decide) ?_
        refine lv_iadd hx hb dX10_line_136 ?_
        obtain ⟨hi, ho⟩ := gd_ ho
        refine r_iald S F B (kq (by decide) : kd 199 = 22 ∧ 199 < NN) rfl hi dX10_line_137 ?_
        obtain ⟨σ43, hq42, ho⟩ := bnd_ ho
        refine k_vV (As := [.int (σ41 199 (q4 + 5).toNatClampNeg)]) (rest := []) S F B (c_X10_writesNumber l G σ41 _ (σ41 199 (q4 + 5).toNatClampNeg) hq42) (kq (by decide) : kd 198 = 21 ∧ 198 < NN) rfl rfl (cwV 1 hts gX10_line_X10_writesNumber rfl rfl rfl (by decide +kernel) ⟨Nat.le_of_ble_eq_true rfl, Nat.le_of_ble_eq_true rfl⟩) rfl hl.1 rfl (Nat.le_of_ble_eq_true rfl) dX10_line_138 ⟨Nat.le_of_ble_eq_true rfl, Nat.le_of_ble_eq_true rfl⟩ (fun H locs B => ?_)
        refine lv_aload_n hx hb dX10_line_141 rfl (lv_at hl 1 rfl) ?_
        refine r_get (ci := 14) (C := RX10) (T := TX10) (N := 21) S F B (kq (by decide) : kd 198 = 21 ∧ 198 < NN) rfl rfl hiX10 0 (by decide) (by decide +kernel) rfl dX10_line_142 ?_
        refine lv_iload_n hx hb dX10_line_145 rfl (lv_at hl 0 rfl) ?_
        refine lv_bipush (v := 6) hx hb dX10_line_146 (by decide) ?_
        refine lv_iadd hx hb dX10_line_148 ?_
        obtain ⟨hi, ho⟩ := gd_ ho
        refine r_iald S F B (kq (by decide) : kd 199 = 22 ∧ 199 < NN) rfl hi dX10_line_149 ?_
        refine lv_iconst (v := 1) hx hb dX10_line_150 (by decide) ?_
        refine lv_icmp_ne (tgt := 160) hx hb dX10_line_151 (by decide) (fun c44 => ?_) (fun c44 => ?_)
        · have ho := in_ c44 ho
          refine lv_aload_n hx hb dX10_line_160 rfl (lv_at hl 1 rfl) ?_
          refine r_get (ci := 14) (C := RX10) (T := TX10) (N := 21) S F B (kq (by decide) : kd 198 = 21 ∧ 198 < NN) rfl rfl hiX10 20 (by decide) (by decide +kernel) rfl dX10_line_161 ?_
          cases ho
          exact e_i B hx hb hr hlocks rfl rfl dX10_line_164
        · have ho := ip_ c44 ho
          refine lv_aload_n hx hb dX10_line_154 rfl (lv_at hl 1 rfl) ?_
          refine lv_bipush (v := 33) hx hb dX10_line_155 (by decide) ?_
          obtain ⟨σ46, hq45, ho⟩ := bnd_ ho
          refine k_vV (As := [.int 33]) (rest := []) S F B (c_X10_sign l G σ43 _ 33 hq45) (kq (by decide) : kd 198 = 21 ∧ 198 < NN) rfl rfl (cwV 1 hts gX10_line_X10_sign rfl rfl rfl (by decide +kernel) ⟨Nat.le_of_ble_eq_true rfl, Nat.le_of_ble_eq_true rfl⟩) rfl hl.1 rfl (Nat.le_of_ble_eq_true rfl) dX10_line_157 ⟨Nat.le_of_ble_eq_true rfl, Nat.le_of_ble_eq_true rfl⟩ (fun H locs B => ?_)
          refine lv_aload_n hx hb dX10_line_160 rfl (lv_at hl 1 rfl) ?_
          refine r_get (ci := 14) (C := RX10) (T := TX10) (N := 21) S F B (kq (by decide) : kd 198 = 21 ∧ 198 < NN) rfl rfl hiX10 20 (by decide) (by decide +kernel) rfl dX10_line_161 ?_
          cases ho
          exact e_i B hx hb hr hlocks rfl rfl dX10_line_164
  · have ho := ip_ c3 ho
    refine lv_aload_n hx hb dX10_line_13 rfl (lv_at hl 0 rfl) ?_
    refine lv_iconst (v := 1) hx hb dX10_line_14 (by decide) ?_
    obtain ⟨q47, σ48, hq47, ho⟩ := bnm_ ho
    refine k_iV (As := [.int 1]) (rest := []) S F B (c_X10_throwing l G σ1 _ 1 hq47) (kq (by decide) : kd 198 = 21 ∧ 198 < NN) rfl rfl (cwV 1 hts gX10_line_X10_throwing rfl rfl rfl (by decide +kernel) ⟨Nat.le_of_ble_eq_true rfl, Nat.le_of_ble_eq_true rfl⟩) rfl hl.1 rfl (Nat.le_of_ble_eq_true rfl) dX10_line_15 ⟨Nat.le_of_ble_eq_true rfl, Nat.le_of_ble_eq_true rfl⟩ (fun H locs B => ?_)
    cases ho
    exact e_i B hx hb hr hlocks rfl rfl dX10_line_18

set_option maxHeartbeats 4000000 in
set_option maxRecDepth 100000 in
theorem c_X10_visitorsIn (l : Launch) (G : Gd) (σ : Mm) (sz : Nat) (a0 : Int32) {out : Int32} (ho : f_X10_visitorsIn a0 σ = some out) : Met l yX10_visitorsIn wsX10_visitorsIn { frames := 1, cells := 0, slots := 0, locals := 20 } (va_Pc [.ref (G.2.2 198), .int a0] (PW G σ sz)) (Qi G sz out σ) 0 0 (AA G sz) := by
  refine Met.ofW (cc := cX10_visitorsIn) (maxL := 4) (ret := (some .int)) (by decide) rfl ?_
  intro p e s m args below meth c s₁ B0 hml hv
  obtain ⟨rfl, hpw⟩ := hv
  have hsz := hpw.1
  subst hsz
  obtain ⟨F, B⟩ := hpw.to
  have hx := B0.exec
  have hb := B0.bytes
  have hr := B0.returns
  have hts := atoms_spec (ws := wsX10_visitorsIn) B0.pre
  have hown : s.vm.findClass RX10 = some m.cls := findClass_of_methodNamed B0.named
  have hlocks := B0.notSynchronized
  have S : CallFix p m c cX10_visitorsIn 4 s _ wsX10_visitorsIn RX10 := ⟨hx, hb, hml, hown, hts⟩
  have hiX10 : ∀ w ∈ u_ws RX10 TX10 21, w ∈ wsX10_visitorsIn := by decide +kernel
  have hl := lv_entry [.ref (G.2.2 198), .int a0] (n := 4) (Nat.le_of_ble_eq_true rfl)
  rw [lg_entry_eq]
  generalize (lg_sl [.ref (G.2.2 198), .int a0] ++ List.replicate (4 - (lg_sl [.ref (G.2.2 198), .int a0]).length) Slot.unset).toArray = ls at hl ⊢
  have hl : lv_has ls 4 [(0, .ref (G.2.2 198)), (1, .int a0)] := hl
  unfold f_X10_visitorsIn at ho
  skip
  refine lv_iconst (v := 0) hx hb dX10_visitorsIn_0 (by decide) ?_
  refine lv_istore_n (lv' := [(2, .int 0), (0, .ref (G.2.2 198)), (1, .int a0)]) hx hb dX10_visitorsIn_1 rfl hl (by decide) rfl (fun ls hl => ?_)
  refine lv_iconst (v := 0) hx hb dX10_visitorsIn_2 (by decide) ?_
  refine lv_istore_n (lv' := [(3, .int 0), (2, .int 0), (0, .ref (G.2.2 198)), (1, .int a0)]) hx hb dX10_visitorsIn_3 rfl hl (by decide) rfl (fun ls hl => ?_)
  have hloop4 : ∀ (n : Nat) (v4 : Int32) (v5 : Int32) (H : Heap) (locs : List Loc) (ls : Array Slot), f_X10_visitorsIn_l4  a0 σ n v4 v5 = some out → Bd G σ s H locs → lv_has ls 4 [(3, .int v4), (2, .int v5), (0, .ref (G.2.2 198)), (1, .int a0)] → W p l e (headSpec wsX10_visitorsIn { frames := 1, cells := 0, slots := 0, locals := 20 }).room s m #[.ref (G.2.2 198), .int a0] below meth c H locs 0 0 (MQ below (Qi G s.heap.size out σ) #[.ref (G.2.2 198), .int a0] s 0 0 (AA G s.heap.size)) (F0 m 4 ls []) := by
    intro n
    induction n with
    | zero => intro v4 v5 H locs ls ho B hl; cases ho
    | succ n ih =>
      intro v4 v5 H locs ls ho B hl
      refine lv_iload_n hx hb dX10_visitorsIn_4 rfl (lv_at hl 0 rfl) ?_
      refine lv_aload_n hx hb dX10_visitorsIn_5 rfl (lv_at hl 2 rfl) ?_
      refine r_get (ci := 14) (C := RX10) (T := TX10) (N := 21) S F B (kq (by decide) : kd 198 = 21 ∧ 198 < NN) rfl rfl hiX10 0 (by decide) (by decide +kernel) rfl dX10_visitorsIn_6 ?_
      refine lv_iconst (v := 1) hx hb dX10_visitorsIn_9 (by decide) ?_
      refine r_ialdc (j := 1) S F B (kq (by decide) : kd 199 = 22 ∧ 199 < NN) rfl (vpc (by decide)) (by decide) dX10_visitorsIn_10 ?_
      refine lv_icmp_ge (tgt := 58) hx hb dX10_visitorsIn_11 (by decide) (fun c6 => ?_) (fun c6 => ?_)
      · have ho := ip_ c6 ho
        refine lv_iload_n hx hb dX10_visitorsIn_58 rfl (lv_at hl 1 rfl) ?_
        cases ho
        exact e_i B hx hb hr hlocks rfl rfl dX10_visitorsIn_59
      · have ho := in_ c6 ho
        refine lv_iload_n hx hb dX10_visitorsIn_14 rfl (lv_at hl 1 rfl) ?_
        refine lv_aload_n hx hb dX10_visitorsIn_15 rfl (lv_at hl 2 rfl) ?_
        refine r_get (ci := 14) (C := RX10) (T := TX10) (N := 21) S F B (kq (by decide) : kd 198 = 21 ∧ 198 < NN) rfl rfl hiX10 0 (by decide) (by decide +kernel) rfl dX10_visitorsIn_16 ?_
        refine lv_iload_n hx hb dX10_visitorsIn_19 rfl (lv_at hl 0 rfl) ?_
        obtain ⟨q7, hq7, ho⟩ := bnd_ ho
        refine k_iS (As := [.int v4]) (rest := [.ref (G.2.2 199), .int v5]) S F B (c_X10_visitorAt l G σ _ v4 hq7) (va_cwS 1 hts gX10_visitorsIn_X10_visitorAt rfl rfl rfl (by decide +kernel) ⟨Nat.le_of_ble_eq_true rfl, Nat.le_of_ble_eq_true rfl⟩) rfl hl.1 rfl (Nat.le_of_ble_eq_true rfl) dX10_visitorsIn_20 ⟨Nat.le_of_ble_eq_true rfl, Nat.le_of_ble_eq_true rfl⟩ (fun H locs B => ?_)
        refine lv_bipush (v := 7) hx hb dX10_visitorsIn_23 (by decide) ?_
        refine lv_iadd hx hb dX10_visitorsIn_25 ?_
        obtain ⟨hi, ho⟩ := gd_ ho
        refine r_iald S F B (kq (by decide) : kd 199 = 22 ∧ 199 < NN) rfl hi dX10_visitorsIn_26 ?_
        refine lv_if_ne (tgt := 49) hx hb dX10_visitorsIn_27 (by decide) (fun c8 => ?_) (fun c8 => ?_)
        · have ho := in_ c8 ho
          refine lv_iconst (v := 0) hx hb dX10_visitorsIn_49 (by decide) ?_
          refine lv_iadd hx hb dX10_visitorsIn_50 ?_
          obtain ⟨x9, ex9, ho⟩ := lt_ ho
          refine lv_nm ex9 ?_
          refine lv_istore_n (lv' := [(2, .int x9), (3, .int v4), (0, .ref (G.2.2 198)), (1, .int a0)]) hx hb dX10_visitorsIn_51 rfl hl (by decide) rfl (fun ls hl => ?_)
          obtain ⟨x10, ex10, ho⟩ := lt_ ho
          refine lv_iinc (v := x10) (lv' := [(3, .int x10), (2, .int x9), (0, .ref (G.2.2 198)), (1, .int a0)]) hx hb dX10_visitorsIn_52 hl (k := 1) rfl (by rw [ex10]; rfl) (by decide) rfl (fun ls hl => ?_)
          refine lv_goto (tgt := 4) hx hb dX10_visitorsIn_55 (by decide) ?_
          exact ih _ _  _ _ _ ho B (lv_sub hl [0, 1, 2, 3] rfl)
        · have ho := ip_ c8 ho
          refine lv_aload_n hx hb dX10_visitorsIn_30 rfl (lv_at hl 2 rfl) ?_
          refine r_get (ci := 14) (C := RX10) (T := TX10) (N := 21) S F B (kq (by decide) : kd 198 = 21 ∧ 198 < NN) rfl rfl hiX10 0 (by decide) (by decide +kernel) rfl dX10_visitorsIn_31 ?_
          refine lv_iload_n hx hb dX10_visitorsIn_34 rfl (lv_at hl 0 rfl) ?_
          obtain ⟨q11, hq11, ho⟩ := bnd_ ho
          refine k_iS (As := [.int v4]) (rest := [.ref (G.2.2 199), .int v5]) S F B (c_X10_visitorAt l G σ _ v4 hq11) (va_cwS 1 hts gX10_visitorsIn_X10_visitorAt rfl rfl rfl (by decide +kernel) ⟨Nat.le_of_ble_eq_true rfl, Nat.le_of_ble_eq_true rfl⟩) rfl hl.1 rfl (Nat.le_of_ble_eq_true rfl) dX10_visitorsIn_35 ⟨Nat.le_of_ble_eq_true rfl, Nat.le_of_ble_eq_true rfl⟩ (fun H locs B => ?_)
          refine lv_iconst (v := 1) hx hb dX10_visitorsIn_38 (by decide) ?_
          refine lv_iadd hx hb dX10_visitorsIn_39 ?_
          obtain ⟨hi, ho⟩ := gd_ ho
          refine r_iald S F B (kq (by decide) : kd 199 = 22 ∧ 199 < NN) rfl hi dX10_visitorsIn_40 ?_
          refine lv_iload_n hx hb dX10_visitorsIn_41 rfl (lv_at hl 3 rfl) ?_
          refine lv_icmp_ne (tgt := 49) hx hb dX10_visitorsIn_42 (by decide) (fun c12 => ?_) (fun c12 => ?_)
          · have ho := in_ c12 ho
            refine lv_iconst (v := 0) hx hb dX10_visitorsIn_49 (by decide) ?_
            refine lv_iadd hx hb dX10_visitorsIn_50 ?_
            obtain ⟨x13, ex13, ho⟩ := lt_ ho
            refine lv_nm ex13 ?_
            refine lv_istore_n (lv' := [(2, .int x13), (3, .int v4), (0, .ref (G.2.2 198)), (1, .int a0)]) hx hb dX10_visitorsIn_51 rfl hl (by decide) rfl (fun ls hl => ?_)
            obtain ⟨x14, ex14, ho⟩ := lt_ ho
            refine lv_iinc (v := x14) (lv' := [(3, .int x14), (2, .int x13), (0, .ref (G.2.2 198)), (1, .int a0)]) hx hb dX10_visitorsIn_52 hl (k := 1) rfl (by rw [ex14]; rfl) (by decide) rfl (fun ls hl => ?_)
            refine lv_goto (tgt := 4) hx hb dX10_visitorsIn_55 (by decide) ?_
            exact ih _ _  _ _ _ ho B (lv_sub hl [0, 1, 2, 3] rfl)
          · have ho := ip_ c12 ho
            refine lv_iconst (v := 1) hx hb dX10_visitorsIn_45 (by decide) ?_
            refine lv_goto (tgt := 50) hx hb dX10_visitorsIn_46 (by decide) ?_
            refine lv_iadd hx hb dX10_visitorsIn_50 ?_
            obtain ⟨x15, ex15, ho⟩ := lt_ ho
            refine lv_nm ex15 ?_
            refine lv_istore_n (lv' := [(2, .int x15), (3, .int v4), (0, .ref (G.2.2 198)), (1, .int a0)]) hx hb dX10_visitorsIn_51 rfl hl (by decide) rfl (fun ls hl => ?_)
            obtain ⟨x16, ex16, ho⟩ := lt_ ho
            refine lv_iinc (v := x16) (lv' := [(3, .int x16), (2, .int x15), (0, .ref (G.2.2 198)), (1, .int a0)]) hx hb dX10_visitorsIn_52 hl (k := 1) rfl (by rw [ex16]; rfl) (by decide) rfl (fun ls hl => ?_)
            refine lv_goto (tgt := 4) hx hb dX10_visitorsIn_55 (by decide) ?_
            exact ih _ _  _ _ _ ho B (lv_sub hl [0, 1, 2, 3] rfl)
  exact hloop4 8 _ _  _ _ _ ho B hl

set_option maxHeartbeats 4000000 in
set_option maxRecDepth 100000 in
theorem c_X10_row (l : Launch) (G : Gd) (σ : Mm) (sz : Nat) (a0 : Int32) {out : Int32 × Mm} (ho : f_X10_row a0 σ = some out) : Met l yX10_row wsX10_row { frames := 2, cells := 0, slots := 0, locals := 55 } (va_Pc [.ref (G.2.2 198), .int a0] (PW G σ sz)) (Qi G sz out.1 out.2) 0 0 (AA G sz) := by
  refine Met.ofW (cc := cX10_row) (maxL := 3) (ret := (some .int)) (by decide) rfl ?_
  intro p e s m args below meth c s₁ B0 hml hv
  obtain ⟨rfl, hpw⟩ := hv
  have hsz := hpw.1
  subst hsz
  obtain ⟨F, B⟩ := hpw.to
  have hx := B0.exec
  have hb := B0.bytes
  have hr := B0.returns
  have hts := atoms_spec (ws := wsX10_row) B0.pre
  have hown : s.vm.findClass RX10 = some m.cls := findClass_of_methodNamed B0.named
  have hlocks := B0.notSynchronized
  have S : CallFix p m c cX10_row 3 s _ wsX10_row RX10 := ⟨hx, hb, hml, hown, hts⟩
  have hiX10 : ∀ w ∈ u_ws RX10 TX10 21, w ∈ wsX10_row := by decide +kernel
  have hl := lv_entry [.ref (G.2.2 198), .int a0] (n := 3) (Nat.le_of_ble_eq_true rfl)
  rw [lg_entry_eq]
  generalize (lg_sl [.ref (G.2.2 198), .int a0] ++ List.replicate (3 - (lg_sl [.ref (G.2.2 198), .int a0]).length) Slot.unset).toArray = ls at hl ⊢
  have hl : lv_has ls 3 [(0, .ref (G.2.2 198)), (1, .int a0)] := hl
  unfold f_X10_row at ho
  skip
  refine lv_aload_n hx hb dX10_row_0 rfl (lv_at hl 0 rfl) ?_
  refine lv_iconst (v := 0) hx hb dX10_row_1 (by decide) ?_
  refine r_put (ci := 14) (C := RX10) (T := TX10) (N := 21) (ty := .int) S F B tyX10 tyX10_ok nmX10 (kq (by decide) : kd 198 = 21 ∧ 198 < NN) (fun _ => rfl) rfl hiX10 12 (by decide) (by decide +kernel) rfl rfl rfl rfl (fun _ => Nat.le_of_ble_eq_true rfl) (fun _ => rfl) dX10_row_2 (fun H locs B => ?_)
  obtain ⟨σ1, eσ1, ho⟩ := lt_ ho
  rw [← eσ1] at B
  refine lv_iload_n hx hb dX10_row_5 rfl (lv_at hl 1 rfl) ?_
  refine lv_i2l hx hb dX10_row_6 rfl ?_
  refine lv_lconst (v := 0) hx hb dX10_row_7 (by decide) ?_
  refine lv_ldc2 (v := 3) hx hb hown (hts _ (by decide +kernel)) dX10_row_8 ?_
  obtain ⟨q2, hq2, ho⟩ := bnd_ ho
  refine k_iS (As := [.long a0.toInt64, .long 0, .long 3]) (rest := []) S F B (c_X10_in l G σ1 _ a0.toInt64 0 3 hq2) (va_cwS 3 hts gX10_row_X10_in rfl rfl rfl (by decide +kernel) ⟨Nat.le_of_ble_eq_true rfl, Nat.le_of_ble_eq_true rfl⟩) rfl hl.1 rfl (Nat.le_of_ble_eq_true rfl) dX10_row_11 ⟨Nat.le_of_ble_eq_true rfl, Nat.le_of_ble_eq_true rfl⟩ (fun H locs B => ?_)
  refine lv_if_ne (tgt := 23) hx hb dX10_row_14 (by decide) (fun c3 => ?_) (fun c3 => ?_)
  · have ho := in_ c3 ho
    refine lv_aload_n hx hb dX10_row_23 rfl (lv_at hl 0 rfl) ?_
    refine lv_iconst (v := 0) hx hb dX10_row_24 (by decide) ?_
    refine r_put (ci := 14) (C := RX10) (T := TX10) (N := 21) (ty := .int) S F B tyX10 tyX10_ok nmX10 (kq (by decide) : kd 198 = 21 ∧ 198 < NN) (fun _ => rfl) rfl hiX10 20 (by decide) (by decide +kernel) rfl rfl rfl rfl (fun _ => Nat.le_of_ble_eq_true rfl) (fun _ => rfl) dX10_row_25 (fun H locs B => ?_)
    obtain ⟨σ4, eσ4, ho⟩ := lt_ ho
    rw [← eσ4] at B
    refine lv_iconst (v := 4) hx hb dX10_row_28 (by decide) ?_
    refine lv_iload_n hx hb dX10_row_29 rfl (lv_at hl 1 rfl) ?_
    refine lv_imul hx hb dX10_row_30 ?_
    obtain ⟨x5, ex5, ho⟩ := lt_ ho
    refine lv_nm ex5 ?_
    refine lv_istore_n (lv' := [(2, .int x5), (0, .ref (G.2.2 198)), (1, .int a0)]) hx hb dX10_row_31 rfl hl (by decide) rfl (fun ls hl => ?_)
    have hloop32 : ∀ (n : Nat) (v9 : Int32) (σ10 : Mm) (H : Heap) (locs : List Loc) (ls : Array Slot), f_X10_row_l32  a0 n v9 σ10 = some out → Bd G σ10 s H locs → lv_has ls 3 [(2, .int v9), (0, .ref (G.2.2 198)), (1, .int a0)] → W p l e (headSpec wsX10_row { frames := 2, cells := 0, slots := 0, locals := 55 }).room s m #[.ref (G.2.2 198), .int a0] below meth c H locs 0 0 (MQ below (Qi G s.heap.size out.1 out.2) #[.ref (G.2.2 198), .int a0] s 0 0 (AA G s.heap.size)) (F0 m 32 ls []) := by
      intro n
      induction n with
      | zero => intro v9 σ10 H locs ls ho B hl; cases ho
      | succ n ih =>
        intro v9 σ10 H locs ls ho B hl
        refine lv_iload_n hx hb dX10_row_32 rfl (lv_at hl 0 rfl) ?_
        refine lv_iconst (v := 4) hx hb dX10_row_33 (by decide) ?_
        refine lv_iload_n hx hb dX10_row_34 rfl (lv_at hl 2 rfl) ?_
        refine lv_imul hx hb dX10_row_35 ?_
        refine lv_iconst (v := 4) hx hb dX10_row_36 (by decide) ?_
        refine lv_iadd hx hb dX10_row_37 ?_
        refine lv_icmp_ge (tgt := 106) hx hb dX10_row_38 (by decide) (fun c11 => ?_) (fun c11 => ?_)
        · have ho := ip_ c11 ho
          refine lv_aload_n hx hb dX10_row_106 rfl (lv_at hl 1 rfl) ?_
          refine r_get (ci := 14) (C := RX10) (T := TX10) (N := 21) S F B (kq (by decide) : kd 198 = 21 ∧ 198 < NN) rfl rfl hiX10 20 (by decide) (by decide +kernel) rfl dX10_row_107 ?_
          cases ho
          exact e_i B hx hb hr hlocks rfl rfl dX10_row_110
        · have ho := in_ c11 ho
          refine lv_iload_n hx hb dX10_row_41 rfl (lv_at hl 0 rfl) ?_
          refine lv_iconst (v := 4) hx hb dX10_row_42 (by decide) ?_
          refine lv_iload_n hx hb dX10_row_43 rfl (lv_at hl 2 rfl) ?_
          refine lv_imul hx hb dX10_row_44 ?_
          refine lv_icmp_le (tgt := 73) hx hb dX10_row_45 (by decide) (fun c12 => ?_) (fun c12 => ?_)
          · have ho := ip_ c12 ho
            refine lv_aload_n hx hb dX10_row_73 rfl (lv_at hl 1 rfl) ?_
            refine lv_aload_n hx hb dX10_row_74 rfl (lv_at hl 1 rfl) ?_
            refine r_get (ci := 14) (C := RX10) (T := TX10) (N := 21) S F B (kq (by decide) : kd 198 = 21 ∧ 198 < NN) rfl rfl hiX10 0 (by decide) (by decide +kernel) rfl dX10_row_75 ?_
            refine lv_iconst (v := 2) hx hb dX10_row_78 (by decide) ?_
            refine r_ialdc (j := 2) S F B (kq (by decide) : kd 199 = 22 ∧ 199 < NN) rfl (vpc (by decide)) (by decide) dX10_row_79 ?_
            refine lv_iload_n hx hb dX10_row_80 rfl (lv_at hl 0 rfl) ?_
            refine lv_icmp_ne (tgt := 89) hx hb dX10_row_81 (by decide) (fun c13 => ?_) (fun c13 => ?_)
            · have ho := in_ c13 ho
              refine lv_bipush (v := 48) hx hb dX10_row_89 (by decide) ?_
              refine lv_aload_n hx hb dX10_row_91 rfl (lv_at hl 1 rfl) ?_
              refine lv_iload_n hx hb dX10_row_92 rfl (lv_at hl 0 rfl) ?_
              obtain ⟨q14, hq14, ho⟩ := bnd_ ho
              refine k_iV (As := [.int v9]) (rest := [.int 48, .ref (G.2.2 198)]) S F B (c_X10_visitorsIn l G σ10 _ v9 hq14) (kq (by decide) : kd 198 = 21 ∧ 198 < NN) rfl rfl (cwV 1 hts gX10_row_X10_visitorsIn rfl rfl rfl (by decide +kernel) ⟨Nat.le_of_ble_eq_true rfl, Nat.le_of_ble_eq_true rfl⟩) rfl hl.1 rfl (Nat.le_of_ble_eq_true rfl) dX10_row_93 ⟨Nat.le_of_ble_eq_true rfl, Nat.le_of_ble_eq_true rfl⟩ (fun H locs B => ?_)
              refine lv_iadd hx hb dX10_row_96 ?_
              obtain ⟨σ16, hq15, ho⟩ := bnd_ ho
              refine k_vV (As := [.int (48 + q14)]) (rest := []) S F B (c_X10_sign l G σ10 _ (48 + q14) hq15) (kq (by decide) : kd 198 = 21 ∧ 198 < NN) rfl rfl (cwV 1 hts gX10_row_X10_sign rfl rfl rfl (by decide +kernel) ⟨Nat.le_of_ble_eq_true rfl, Nat.le_of_ble_eq_true rfl⟩) rfl hl.1 rfl (Nat.le_of_ble_eq_true rfl) dX10_row_97 ⟨Nat.le_of_ble_eq_true rfl, Nat.le_of_ble_eq_true rfl⟩ (fun H locs B => ?_)
              obtain ⟨x17, ex17, ho⟩ := lt_ ho
              refine lv_iinc (v := x17) (lv' := [(2, .int x17), (0, .ref (G.2.2 198)), (1, .int a0)]) hx hb dX10_row_100 hl (k := 0) rfl (by rw [ex17]; rfl) (by decide) rfl (fun ls hl => ?_)
              refine lv_goto (tgt := 32) hx hb dX10_row_103 (by decide) ?_
              exact ih _ _ _ _ _ ho B (lv_sub hl [0, 1, 2] rfl)
            · have ho := ip_ c13 ho
              refine lv_bipush (v := 77) hx hb dX10_row_84 (by decide) ?_
              refine lv_goto (tgt := 97) hx hb dX10_row_86 (by decide) ?_
              obtain ⟨σ19, hq18, ho⟩ := bnd_ ho
              refine k_vV (As := [.int 77]) (rest := []) S F B (c_X10_sign l G σ10 _ 77 hq18) (kq (by decide) : kd 198 = 21 ∧ 198 < NN) rfl rfl (cwV 1 hts gX10_row_X10_sign rfl rfl rfl (by decide +kernel) ⟨Nat.le_of_ble_eq_true rfl, Nat.le_of_ble_eq_true rfl⟩) rfl hl.1 rfl (Nat.le_of_ble_eq_true rfl) dX10_row_97 ⟨Nat.le_of_ble_eq_true rfl, Nat.le_of_ble_eq_true rfl⟩ (fun H locs B => ?_)
              obtain ⟨x20, ex20, ho⟩ := lt_ ho
              refine lv_iinc (v := x20) (lv' := [(2, .int x20), (0, .ref (G.2.2 198)), (1, .int a0)]) hx hb dX10_row_100 hl (k := 0) rfl (by rw [ex20]; rfl) (by decide) rfl (fun ls hl => ?_)
              refine lv_goto (tgt := 32) hx hb dX10_row_103 (by decide) ?_
              exact ih _ _ _ _ _ ho B (lv_sub hl [0, 1, 2] rfl)
          · have ho := in_ c12 ho
            refine lv_aload_n hx hb dX10_row_48 rfl (lv_at hl 1 rfl) ?_
            refine lv_aload_n hx hb dX10_row_49 rfl (lv_at hl 1 rfl) ?_
            refine lv_iload_n hx hb dX10_row_50 rfl (lv_at hl 0 rfl) ?_
            refine lv_iconst (v := 1) hx hb dX10_row_51 (by decide) ?_
            refine lv_isub hx hb dX10_row_52 ?_
            refine lv_iload_n hx hb dX10_row_53 rfl (lv_at hl 0 rfl) ?_
            obtain ⟨q21, hq21, ho⟩ := bnd_ ho
            refine k_iS (As := [.int (v9 - 1), .int v9]) (rest := [.ref (G.2.2 198), .ref (G.2.2 198)]) S F B (c_X10_hedgeAt l G σ10 _ (v9 - 1) v9 hq21) (va_cwS 2 hts gX10_row_X10_hedgeAt rfl rfl rfl (by decide +kernel) ⟨Nat.le_of_ble_eq_true rfl, Nat.le_of_ble_eq_true rfl⟩) rfl hl.1 rfl (Nat.le_of_ble_eq_true rfl) dX10_row_54 ⟨Nat.le_of_ble_eq_true rfl, Nat.le_of_ble_eq_true rfl⟩ (fun H locs B => ?_)
            obtain ⟨q22, hq22, ho⟩ := bnd_ ho
            refine k_iV (As := [.int q21]) (rest := [.ref (G.2.2 198)]) S F B (c_X10_isGapAt l G σ10 _ q21 hq22) (kq (by decide) : kd 198 = 21 ∧ 198 < NN) rfl rfl (cwV 1 hts gX10_row_X10_isGapAt rfl rfl rfl (by decide +kernel) ⟨Nat.le_of_ble_eq_true rfl, Nat.le_of_ble_eq_true rfl⟩) rfl hl.1 rfl (Nat.le_of_ble_eq_true rfl) dX10_row_57 ⟨Nat.le_of_ble_eq_true rfl, Nat.le_of_ble_eq_true rfl⟩ (fun H locs B => ?_)
            refine lv_if_eq (tgt := 68) hx hb dX10_row_60 (by decide) (fun c23 => ?_) (fun c23 => ?_)
            · have ho := ip_ c23 ho
              refine lv_bipush (v := 124) hx hb dX10_row_68 (by decide) ?_
              obtain ⟨σ25, hq24, ho⟩ := bnd_ ho
              refine k_vV (As := [.int 124]) (rest := []) S F B (c_X10_sign l G σ10 _ 124 hq24) (kq (by decide) : kd 198 = 21 ∧ 198 < NN) rfl rfl (cwV 1 hts gX10_row_X10_sign rfl rfl rfl (by decide +kernel) ⟨Nat.le_of_ble_eq_true rfl, Nat.le_of_ble_eq_true rfl⟩) rfl hl.1 rfl (Nat.le_of_ble_eq_true rfl) dX10_row_70 ⟨Nat.le_of_ble_eq_true rfl, Nat.le_of_ble_eq_true rfl⟩ (fun H locs B => ?_)
              refine lv_aload_n hx hb dX10_row_73 rfl (lv_at hl 1 rfl) ?_
              refine lv_aload_n hx hb dX10_row_74 rfl (lv_at hl 1 rfl) ?_
              refine r_get (ci := 14) (C := RX10) (T := TX10) (N := 21) S F B (kq (by decide) : kd 198 = 21 ∧ 198 < NN) rfl rfl hiX10 0 (by decide) (by decide +kernel) rfl dX10_row_75 ?_
              refine lv_iconst (v := 2) hx hb dX10_row_78 (by decide) ?_
              refine r_ialdc (j := 2) S F B (kq (by decide) : kd 199 = 22 ∧ 199 < NN) rfl (vpc (by decide)) (by decide) dX10_row_79 ?_
              refine lv_iload_n hx hb dX10_row_80 rfl (lv_at hl 0 rfl) ?_
              refine lv_icmp_ne (tgt := 89) hx hb dX10_row_81 (by decide) (fun c26 => ?_) (fun c26 => ?_)
              · have ho := in_ c26 ho
                refine lv_bipush (v := 48) hx hb dX10_row_89 (by decide) ?_
                refine lv_aload_n hx hb dX10_row_91 rfl (lv_at hl 1 rfl) ?_
                refine lv_iload_n hx hb dX10_row_92 rfl (lv_at hl 0 rfl) ?_
                obtain ⟨q27, hq27, ho⟩ := bnd_ ho
                refine k_iV (As := [.int v9]) (rest := [.int 48, .ref (G.2.2 198)]) S F B (c_X10_visitorsIn l G σ25 _ v9 hq27) (kq (by decide) : kd 198 = 21 ∧ 198 < NN) rfl rfl (cwV 1 hts gX10_row_X10_visitorsIn rfl rfl rfl (by decide +kernel) ⟨Nat.le_of_ble_eq_true rfl, Nat.le_of_ble_eq_true rfl⟩) rfl hl.1 rfl (Nat.le_of_ble_eq_true rfl) dX10_row_93 ⟨Nat.le_of_ble_eq_true rfl, Nat.le_of_ble_eq_true rfl⟩ (fun H locs B => ?_)
                refine lv_iadd hx hb dX10_row_96 ?_
                obtain ⟨σ29, hq28, ho⟩ := bnd_ ho
                refine k_vV (As := [.int (48 + q27)]) (rest := []) S F B (c_X10_sign l G σ25 _ (48 + q27) hq28) (kq (by decide) : kd 198 = 21 ∧ 198 < NN) rfl rfl (cwV 1 hts gX10_row_X10_sign rfl rfl rfl (by decide +kernel) ⟨Nat.le_of_ble_eq_true rfl, Nat.le_of_ble_eq_true rfl⟩) rfl hl.1 rfl (Nat.le_of_ble_eq_true rfl) dX10_row_97 ⟨Nat.le_of_ble_eq_true rfl, Nat.le_of_ble_eq_true rfl⟩ (fun H locs B => ?_)
                obtain ⟨x30, ex30, ho⟩ := lt_ ho
                refine lv_iinc (v := x30) (lv' := [(2, .int x30), (0, .ref (G.2.2 198)), (1, .int a0)]) hx hb dX10_row_100 hl (k := 0) rfl (by rw [ex30]; rfl) (by decide) rfl (fun ls hl => ?_)
                refine lv_goto (tgt := 32) hx hb dX10_row_103 (by decide) ?_
                exact ih _ _ _ _ _ ho B (lv_sub hl [0, 1, 2] rfl)
              · have ho := ip_ c26 ho
                refine lv_bipush (v := 77) hx hb dX10_row_84 (by decide) ?_
                refine lv_goto (tgt := 97) hx hb dX10_row_86 (by decide) ?_
                obtain ⟨σ32, hq31, ho⟩ := bnd_ ho
                refine k_vV (As := [.int 77]) (rest := []) S F B (c_X10_sign l G σ25 _ 77 hq31) (kq (by decide) : kd 198 = 21 ∧ 198 < NN) rfl rfl (cwV 1 hts gX10_row_X10_sign rfl rfl rfl (by decide +kernel) ⟨Nat.le_of_ble_eq_true rfl, Nat.le_of_ble_eq_true rfl⟩) rfl hl.1 rfl (Nat.le_of_ble_eq_true rfl) dX10_row_97 ⟨Nat.le_of_ble_eq_true rfl, Nat.le_of_ble_eq_true rfl⟩ (fun H locs B => ?_)
                obtain ⟨x33, ex33, ho⟩ := lt_ ho
                refine lv_iinc (v := x33) (lv' := [(2, .int x33), (0, .ref (G.2.2 198)), (1, .int a0)]) hx hb dX10_row_100 hl (k := 0) rfl (by rw [ex33]; rfl) (by decide) rfl (fun ls hl => ?_)
                refine lv_goto (tgt := 32) hx hb dX10_row_103 (by decide) ?_
                exact ih _ _ _ _ _ ho B (lv_sub hl [0, 1, 2] rfl)
            · have ho := in_ c23 ho
              refine lv_bipush (v := 32) hx hb dX10_row_63 (by decide) ?_
              refine lv_goto (tgt := 70) hx hb dX10_row_65 (by decide) ?_
              obtain ⟨σ35, hq34, ho⟩ := bnd_ ho
              refine k_vV (As := [.int 32]) (rest := []) S F B (c_X10_sign l G σ10 _ 32 hq34) (kq (by decide) : kd 198 = 21 ∧ 198 < NN) rfl rfl (cwV 1 hts gX10_row_X10_sign rfl rfl rfl (by decide +kernel) ⟨Nat.le_of_ble_eq_true rfl, Nat.le_of_ble_eq_true rfl⟩) rfl hl.1 rfl (Nat.le_of_ble_eq_true rfl) dX10_row_70 ⟨Nat.le_of_ble_eq_true rfl, Nat.le_of_ble_eq_true rfl⟩ (fun H locs B => ?_)
              refine lv_aload_n hx hb dX10_row_73 rfl (lv_at hl 1 rfl) ?_
              refine lv_aload_n hx hb dX10_row_74 rfl (lv_at hl 1 rfl) ?_
              refine r_get (ci := 14) (C := RX10) (T := TX10) (N := 21) S F B (kq (by decide) : kd 198 = 21 ∧ 198 < NN) rfl rfl hiX10 0 (by decide) (by decide +kernel) rfl dX10_row_75 ?_
              refine lv_iconst (v := 2) hx hb dX10_row_78 (by decide) ?_
              refine r_ialdc (j := 2) S F B (kq (by decide) : kd 199 = 22 ∧ 199 < NN) rfl (vpc (by decide)) (by decide) dX10_row_79 ?_
              refine lv_iload_n hx hb dX10_row_80 rfl (lv_at hl 0 rfl) ?_
              refine lv_icmp_ne (tgt := 89) hx hb dX10_row_81 (by decide) (fun c36 => ?_) (fun c36 => ?_)
              · have ho := in_ c36 ho
                refine lv_bipush (v := 48) hx hb dX10_row_89 (by decide) ?_
                refine lv_aload_n hx hb dX10_row_91 rfl (lv_at hl 1 rfl) ?_
                refine lv_iload_n hx hb dX10_row_92 rfl (lv_at hl 0 rfl) ?_
                obtain ⟨q37, hq37, ho⟩ := bnd_ ho
                refine k_iV (As := [.int v9]) (rest := [.int 48, .ref (G.2.2 198)]) S F B (c_X10_visitorsIn l G σ35 _ v9 hq37) (kq (by decide) : kd 198 = 21 ∧ 198 < NN) rfl rfl (cwV 1 hts gX10_row_X10_visitorsIn rfl rfl rfl (by decide +kernel) ⟨Nat.le_of_ble_eq_true rfl, Nat.le_of_ble_eq_true rfl⟩) rfl hl.1 rfl (Nat.le_of_ble_eq_true rfl) dX10_row_93 ⟨Nat.le_of_ble_eq_true rfl, Nat.le_of_ble_eq_true rfl⟩ (fun H locs B => ?_)
                refine lv_iadd hx hb dX10_row_96 ?_
                obtain ⟨σ39, hq38, ho⟩ := bnd_ ho
                refine k_vV (As := [.int (48 + q37)]) (rest := []) S F B (c_X10_sign l G σ35 _ (48 + q37) hq38) (kq (by decide) : kd 198 = 21 ∧ 198 < NN) rfl rfl (cwV 1 hts gX10_row_X10_sign rfl rfl rfl (by decide +kernel) ⟨Nat.le_of_ble_eq_true rfl, Nat.le_of_ble_eq_true rfl⟩) rfl hl.1 rfl (Nat.le_of_ble_eq_true rfl) dX10_row_97 ⟨Nat.le_of_ble_eq_true rfl, Nat.le_of_ble_eq_true rfl⟩ (fun H locs B => ?_)
                obtain ⟨x40, ex40, ho⟩ := lt_ ho
                refine lv_iinc (v := x40) (lv' := [(2, .int x40), (0, .ref (G.2.2 198)), (1, .int a0)]) hx hb dX10_row_100 hl (k := 0) rfl (by rw [ex40]; rfl) (by decide) rfl (fun ls hl => ?_)
                refine lv_goto (tgt := 32) hx hb dX10_row_103 (by decide) ?_
                exact ih _ _ _ _ _ ho B (lv_sub hl [0, 1, 2] rfl)
              · have ho := ip_ c36 ho
                refine lv_bipush (v := 77) hx hb dX10_row_84 (by decide) ?_
                refine lv_goto (tgt := 97) hx hb dX10_row_86 (by decide) ?_
                obtain ⟨σ42, hq41, ho⟩ := bnd_ ho
                refine k_vV (As := [.int 77]) (rest := []) S F B (c_X10_sign l G σ35 _ 77 hq41) (kq (by decide) : kd 198 = 21 ∧ 198 < NN) rfl rfl (cwV 1 hts gX10_row_X10_sign rfl rfl rfl (by decide +kernel) ⟨Nat.le_of_ble_eq_true rfl, Nat.le_of_ble_eq_true rfl⟩) rfl hl.1 rfl (Nat.le_of_ble_eq_true rfl) dX10_row_97 ⟨Nat.le_of_ble_eq_true rfl, Nat.le_of_ble_eq_true rfl⟩ (fun H locs B => ?_)
                obtain ⟨x43, ex43, ho⟩ := lt_ ho
                refine lv_iinc (v := x43) (lv' := [(2, .int x43), (0, .ref (G.2.2 198)), (1, .int a0)]) hx hb dX10_row_100 hl (k := 0) rfl (by rw [ex43]; rfl) (by decide) rfl (fun ls hl => ?_)
                refine lv_goto (tgt := 32) hx hb dX10_row_103 (by decide) ?_
                exact ih _ _ _ _ _ ho B (lv_sub hl [0, 1, 2] rfl)
    exact hloop32 8 _ _ _ _ _ ho B hl
  · have ho := ip_ c3 ho
    refine lv_aload_n hx hb dX10_row_17 rfl (lv_at hl 0 rfl) ?_
    refine lv_iconst (v := 1) hx hb dX10_row_18 (by decide) ?_
    obtain ⟨q44, σ45, hq44, ho⟩ := bnm_ ho
    refine k_iV (As := [.int 1]) (rest := []) S F B (c_X10_throwing l G σ1 _ 1 hq44) (kq (by decide) : kd 198 = 21 ∧ 198 < NN) rfl rfl (cwV 1 hts gX10_row_X10_throwing rfl rfl rfl (by decide +kernel) ⟨Nat.le_of_ble_eq_true rfl, Nat.le_of_ble_eq_true rfl⟩) rfl hl.1 rfl (Nat.le_of_ble_eq_true rfl) dX10_row_19 ⟨Nat.le_of_ble_eq_true rfl, Nat.le_of_ble_eq_true rfl⟩ (fun H locs B => ?_)
    cases ho
    exact e_i B hx hb hr hlocks rfl rfl dX10_row_22

set_option maxHeartbeats 4000000 in
set_option maxRecDepth 100000 in
theorem c_X10_character (l : Launch) (G : Gd) (σ : Mm) (sz : Nat) (a0 : Int32) {out : Int32 × Mm} (ho : f_X10_character a0 σ = some out) : Met l yX10_character wsX10_character { frames := 1, cells := 0, slots := 0, locals := 25 } (va_Pc [.ref (G.2.2 198), .int a0] (PW G σ sz)) (Qi G sz out.1 out.2) 0 0 (AA G sz) := by
  refine Met.ofW (cc := cX10_character) (maxL := 2) (ret := (some .char)) (by decide) rfl ?_
  intro p e s m args below meth c s₁ B0 hml hv
  obtain ⟨rfl, hpw⟩ := hv
  have hsz := hpw.1
  subst hsz
  obtain ⟨F, B⟩ := hpw.to
  have hx := B0.exec
  have hb := B0.bytes
  have hr := B0.returns
  have hts := atoms_spec (ws := wsX10_character) B0.pre
  have hown : s.vm.findClass RX10 = some m.cls := findClass_of_methodNamed B0.named
  have hlocks := B0.notSynchronized
  have S : CallFix p m c cX10_character 2 s _ wsX10_character RX10 := ⟨hx, hb, hml, hown, hts⟩
  have hiX10 : ∀ w ∈ u_ws RX10 TX10 21, w ∈ wsX10_character := by decide +kernel
  have hl := lv_entry [.ref (G.2.2 198), .int a0] (n := 2) (Nat.le_of_ble_eq_true rfl)
  rw [lg_entry_eq]
  generalize (lg_sl [.ref (G.2.2 198), .int a0] ++ List.replicate (2 - (lg_sl [.ref (G.2.2 198), .int a0]).length) Slot.unset).toArray = ls at hl ⊢
  have hl : lv_has ls 2 [(0, .ref (G.2.2 198)), (1, .int a0)] := hl
  unfold f_X10_character at ho
  refine lv_aload_n hx hb dX10_character_0 rfl (lv_at hl 0 rfl) ?_
  refine lv_iconst (v := 0) hx hb dX10_character_1 (by decide) ?_
  refine r_put (ci := 14) (C := RX10) (T := TX10) (N := 21) (ty := .int) S F B tyX10 tyX10_ok nmX10 (kq (by decide) : kd 198 = 21 ∧ 198 < NN) (fun _ => rfl) rfl hiX10 12 (by decide) (by decide +kernel) rfl rfl rfl rfl (fun _ => Nat.le_of_ble_eq_true rfl) (fun _ => rfl) dX10_character_2 (fun H locs B => ?_)
  obtain ⟨σ1, eσ1, ho⟩ := lt_ ho
  rw [← eσ1] at B
  refine lv_iload_n hx hb dX10_character_5 rfl (lv_at hl 1 rfl) ?_
  refine lv_i2l hx hb dX10_character_6 rfl ?_
  refine lv_lconst (v := 0) hx hb dX10_character_7 (by decide) ?_
  refine lv_aload_n hx hb dX10_character_8 rfl (lv_at hl 0 rfl) ?_
  refine r_get (ci := 14) (C := RX10) (T := TX10) (N := 21) S F B (kq (by decide) : kd 198 = 21 ∧ 198 < NN) rfl rfl hiX10 20 (by decide) (by decide +kernel) rfl dX10_character_9 ?_
  refine lv_iconst (v := 1) hx hb dX10_character_12 (by decide) ?_
  refine lv_isub hx hb dX10_character_13 ?_
  refine lv_i2l hx hb dX10_character_14 rfl ?_
  obtain ⟨q2, hq2, ho⟩ := bnd_ ho
  refine k_iS (As := [.long a0.toInt64, .long 0, .long (((σ1 198 20) - 1).toInt64)]) (rest := []) S F B (c_X10_in l G σ1 _ a0.toInt64 0 (((σ1 198 20) - 1).toInt64) hq2) (va_cwS 3 hts gX10_character_X10_in rfl rfl rfl (by decide +kernel) ⟨Nat.le_of_ble_eq_true rfl, Nat.le_of_ble_eq_true rfl⟩) rfl hl.1 rfl (Nat.le_of_ble_eq_true rfl) dX10_character_15 ⟨Nat.le_of_ble_eq_true rfl, Nat.le_of_ble_eq_true rfl⟩ (fun H locs B => ?_)
  refine lv_if_eq (tgt := 31) hx hb dX10_character_18 (by decide) (fun c3 => ?_) (fun c3 => ?_)
  · have ho := ip_ c3 ho
    refine lv_aload_n hx hb dX10_character_31 rfl (lv_at hl 0 rfl) ?_
    refine lv_iconst (v := 1) hx hb dX10_character_32 (by decide) ?_
    obtain ⟨q4, σ5, hq4, ho⟩ := bnm_ ho
    refine k_iV (As := [.int 1]) (rest := []) S F B (c_X10_throwing l G σ1 _ 1 hq4) (kq (by decide) : kd 198 = 21 ∧ 198 < NN) rfl rfl (cwV 1 hts gX10_character_X10_throwing rfl rfl rfl (by decide +kernel) ⟨Nat.le_of_ble_eq_true rfl, Nat.le_of_ble_eq_true rfl⟩) rfl hl.1 rfl (Nat.le_of_ble_eq_true rfl) dX10_character_33 ⟨Nat.le_of_ble_eq_true rfl, Nat.le_of_ble_eq_true rfl⟩ (fun H locs B => ?_)
    refine lv_i2c hx hb dX10_character_36 rfl ?_
    obtain ⟨hz, ho⟩ := cz_ ho
    cases ho
    exact e_i B hx hb hr hlocks hz rfl dX10_character_37
  · have ho := in_ c3 ho
    refine lv_aload_n hx hb dX10_character_21 rfl (lv_at hl 0 rfl) ?_
    refine r_get (ci := 14) (C := RX10) (T := TX10) (N := 21) S F B (kq (by decide) : kd 198 = 21 ∧ 198 < NN) rfl rfl hiX10 19 (by decide) (by decide +kernel) rfl dX10_character_22 ?_
    refine lv_iload_n hx hb dX10_character_25 rfl (lv_at hl 1 rfl) ?_
    obtain ⟨hi, ho⟩ := gd_ ho
    refine r_iald S F B (kq (by decide) : kd 206 = 26 ∧ 206 < NN) rfl hi dX10_character_26 ?_
    refine lv_i2c hx hb dX10_character_27 rfl ?_
    refine lv_goto (tgt := 37) hx hb dX10_character_28 (by decide) ?_
    obtain ⟨hz, ho⟩ := cz_ ho
    cases ho
    exact e_i B hx hb hr hlocks hz rfl dX10_character_37

set_option maxHeartbeats 4000000 in
set_option maxRecDepth 100000 in
theorem c_X10_coins (l : Launch) (G : Gd) (σ : Mm) (sz : Nat) {out : Int32} (ho : f_X10_coins σ = some out) : Met l yX10_coins wsX10_coins { frames := 1, cells := 0, slots := 0, locals := 20 } (va_Pc [.ref (G.2.2 198)] (PW G σ sz)) (Qi G sz out σ) 0 0 (AA G sz) := by
  refine Met.ofW (cc := cX10_coins) (maxL := 3) (ret := (some .int)) (by decide) rfl ?_
  intro p e s m args below meth c s₁ B0 hml hv
  obtain ⟨rfl, hpw⟩ := hv
  have hsz := hpw.1
  subst hsz
  obtain ⟨F, B⟩ := hpw.to
  have hx := B0.exec
  have hb := B0.bytes
  have hr := B0.returns
  have hts := atoms_spec (ws := wsX10_coins) B0.pre
  have hown : s.vm.findClass RX10 = some m.cls := findClass_of_methodNamed B0.named
  have hlocks := B0.notSynchronized
  have S : CallFix p m c cX10_coins 3 s _ wsX10_coins RX10 := ⟨hx, hb, hml, hown, hts⟩
  have hiX10 : ∀ w ∈ u_ws RX10 TX10 21, w ∈ wsX10_coins := by decide +kernel
  have hl := lv_entry [.ref (G.2.2 198)] (n := 3) (Nat.le_of_ble_eq_true rfl)
  rw [lg_entry_eq]
  generalize (lg_sl [.ref (G.2.2 198)] ++ List.replicate (3 - (lg_sl [.ref (G.2.2 198)]).length) Slot.unset).toArray = ls at hl ⊢
  have hl : lv_has ls 3 [(0, .ref (G.2.2 198))] := hl
  unfold f_X10_coins at ho
  skip
  refine lv_iconst (v := 0) hx hb dX10_coins_0 (by decide) ?_
  refine lv_istore_n (lv' := [(1, .int 0), (0, .ref (G.2.2 198))]) hx hb dX10_coins_1 rfl hl (by decide) rfl (fun ls hl => ?_)
  refine lv_iconst (v := 0) hx hb dX10_coins_2 (by decide) ?_
  refine lv_istore_n (lv' := [(2, .int 0), (1, .int 0), (0, .ref (G.2.2 198))]) hx hb dX10_coins_3 rfl hl (by decide) rfl (fun ls hl => ?_)
  obtain ⟨K, hK, ho⟩ := lt_ ho
  have hexit4 : ∀ (v1 : Int32) (v2 : Int32) (H : Heap) (locs : List Loc) (ls : Array Slot), K v1 v2 = some out → Bd G σ s H locs → lv_has ls 3 [(2, .int v1), (1, .int v2), (0, .ref (G.2.2 198))] → W p l e (headSpec wsX10_coins { frames := 1, cells := 0, slots := 0, locals := 20 }).room s m #[.ref (G.2.2 198)] below meth c H locs 0 0 (MQ below (Qi G s.heap.size out σ) #[.ref (G.2.2 198)] s 0 0 (AA G s.heap.size)) (F0 m 32 ls []) := by
    intro v1 v2 H locs ls ho B hl
    subst hK
    refine lv_iconst (v := 0) hx hb dX10_coins_32 (by decide) ?_
    refine lv_istore_n (lv' := [(2, .int 0), (1, .int v2), (0, .ref (G.2.2 198))]) hx hb dX10_coins_33 rfl hl (by decide) rfl (fun ls hl => ?_)
    have hloop34 : ∀ (n : Nat) (v7 : Int32) (v8 : Int32) (H : Heap) (locs : List Loc) (ls : Array Slot), f_X10_coins_l34  σ n v7 v8 = some out → Bd G σ s H locs → lv_has ls 3 [(2, .int v7), (1, .int v8), (0, .ref (G.2.2 198))] → W p l e (headSpec wsX10_coins { frames := 1, cells := 0, slots := 0, locals := 20 }).room s m #[.ref (G.2.2 198)] below meth c H locs 0 0 (MQ below (Qi G s.heap.size out σ) #[.ref (G.2.2 198)] s 0 0 (AA G s.heap.size)) (F0 m 34 ls []) := by
      intro n
      induction n with
      | zero => intro v7 v8 H locs ls ho B hl; cases ho
      | succ n ih =>
        intro v7 v8 H locs ls ho B hl
        refine lv_iload_n hx hb dX10_coins_34 rfl (lv_at hl 0 rfl) ?_
        refine lv_aload_n hx hb dX10_coins_35 rfl (lv_at hl 2 rfl) ?_
        refine r_get (ci := 14) (C := RX10) (T := TX10) (N := 21) S F B (kq (by decide) : kd 198 = 21 ∧ 198 < NN) rfl rfl hiX10 0 (by decide) (by decide +kernel) rfl dX10_coins_36 ?_
        refine lv_iconst (v := 1) hx hb dX10_coins_39 (by decide) ?_
        refine r_ialdc (j := 1) S F B (kq (by decide) : kd 199 = 22 ∧ 199 < NN) rfl (vpc (by decide)) (by decide) dX10_coins_40 ?_
        refine lv_icmp_ge (tgt := 62) hx hb dX10_coins_41 (by decide) (fun c9 => ?_) (fun c9 => ?_)
        · have ho := ip_ c9 ho
          refine lv_iload_n hx hb dX10_coins_62 rfl (lv_at hl 1 rfl) ?_
          cases ho
          exact e_i B hx hb hr hlocks rfl rfl dX10_coins_63
        · have ho := in_ c9 ho
          refine lv_iload_n hx hb dX10_coins_44 rfl (lv_at hl 1 rfl) ?_
          refine lv_aload_n hx hb dX10_coins_45 rfl (lv_at hl 2 rfl) ?_
          refine r_get (ci := 14) (C := RX10) (T := TX10) (N := 21) S F B (kq (by decide) : kd 198 = 21 ∧ 198 < NN) rfl rfl hiX10 0 (by decide) (by decide +kernel) rfl dX10_coins_46 ?_
          refine lv_iload_n hx hb dX10_coins_49 rfl (lv_at hl 0 rfl) ?_
          obtain ⟨q10, hq10, ho⟩ := bnd_ ho
          refine k_iS (As := [.int v7]) (rest := [.ref (G.2.2 199), .int v8]) S F B (c_X10_visitorAt l G σ _ v7 hq10) (va_cwS 1 hts gX10_coins_X10_visitorAt rfl rfl rfl (by decide +kernel) ⟨Nat.le_of_ble_eq_true rfl, Nat.le_of_ble_eq_true rfl⟩) rfl hl.1 rfl (Nat.le_of_ble_eq_true rfl) dX10_coins_50 ⟨Nat.le_of_ble_eq_true rfl, Nat.le_of_ble_eq_true rfl⟩ (fun H locs B => ?_)
          obtain ⟨hi, ho⟩ := gd_ ho
          refine r_iald S F B (kq (by decide) : kd 199 = 22 ∧ 199 < NN) rfl hi dX10_coins_53 ?_
          refine lv_iadd hx hb dX10_coins_54 ?_
          obtain ⟨x11, ex11, ho⟩ := lt_ ho
          refine lv_nm ex11 ?_
          refine lv_istore_n (lv' := [(1, .int x11), (2, .int v7), (0, .ref (G.2.2 198))]) hx hb dX10_coins_55 rfl hl (by decide) rfl (fun ls hl => ?_)
          obtain ⟨x12, ex12, ho⟩ := lt_ ho
          refine lv_iinc (v := x12) (lv' := [(2, .int x12), (1, .int x11), (0, .ref (G.2.2 198))]) hx hb dX10_coins_56 hl (k := 1) rfl (by rw [ex12]; rfl) (by decide) rfl (fun ls hl => ?_)
          refine lv_goto (tgt := 34) hx hb dX10_coins_59 (by decide) ?_
          exact ih _ _  _ _ _ ho B (lv_sub hl [0, 1, 2] rfl)
    exact hloop34 8 _ _  _ _ _ ho B hl
  have hloop4 : ∀ (n : Nat) (v13 : Int32) (v14 : Int32) (H : Heap) (locs : List Loc) (ls : Array Slot), f_X10_coins_l4 K σ n v13 v14 = some out → Bd G σ s H locs → lv_has ls 3 [(2, .int v13), (1, .int v14), (0, .ref (G.2.2 198))] → W p l e (headSpec wsX10_coins { frames := 1, cells := 0, slots := 0, locals := 20 }).room s m #[.ref (G.2.2 198)] below meth c H locs 0 0 (MQ below (Qi G s.heap.size out σ) #[.ref (G.2.2 198)] s 0 0 (AA G s.heap.size)) (F0 m 4 ls []) := by
    intro n
    induction n with
    | zero => intro v13 v14 H locs ls ho B hl; cases ho
    | succ n ih =>
      intro v13 v14 H locs ls ho B hl
      refine lv_iload_n hx hb dX10_coins_4 rfl (lv_at hl 0 rfl) ?_
      refine lv_aload_n hx hb dX10_coins_5 rfl (lv_at hl 2 rfl) ?_
      refine r_get (ci := 14) (C := RX10) (T := TX10) (N := 21) S F B (kq (by decide) : kd 198 = 21 ∧ 198 < NN) rfl rfl hiX10 0 (by decide) (by decide +kernel) rfl dX10_coins_6 ?_
      refine lv_iconst (v := 0) hx hb dX10_coins_9 (by decide) ?_
      refine r_ialdc (j := 0) S F B (kq (by decide) : kd 199 = 22 ∧ 199 < NN) rfl (vpc (by decide)) (by decide) dX10_coins_10 ?_
      refine lv_icmp_ge (tgt := 32) hx hb dX10_coins_11 (by decide) (fun c15 => ?_) (fun c15 => ?_)
      · have ho := ip_ c15 ho
        exact hexit4 _ _  _ _ _ ho B (lv_sub hl [0, 1, 2] rfl)
      · have ho := in_ c15 ho
        refine lv_iload_n hx hb dX10_coins_14 rfl (lv_at hl 1 rfl) ?_
        refine lv_aload_n hx hb dX10_coins_15 rfl (lv_at hl 2 rfl) ?_
        refine r_get (ci := 14) (C := RX10) (T := TX10) (N := 21) S F B (kq (by decide) : kd 198 = 21 ∧ 198 < NN) rfl rfl hiX10 0 (by decide) (by decide +kernel) rfl dX10_coins_16 ?_
        refine lv_iload_n hx hb dX10_coins_19 rfl (lv_at hl 0 rfl) ?_
        obtain ⟨q16, hq16, ho⟩ := bnd_ ho
        refine k_iS (As := [.int v13]) (rest := [.ref (G.2.2 199), .int v14]) S F B (c_X10_gardenerAt l G σ _ v13 hq16) (va_cwS 1 hts gX10_coins_X10_gardenerAt rfl rfl rfl (by decide +kernel) ⟨Nat.le_of_ble_eq_true rfl, Nat.le_of_ble_eq_true rfl⟩) rfl hl.1 rfl (Nat.le_of_ble_eq_true rfl) dX10_coins_20 ⟨Nat.le_of_ble_eq_true rfl, Nat.le_of_ble_eq_true rfl⟩ (fun H locs B => ?_)
        obtain ⟨hi, ho⟩ := gd_ ho
        refine r_iald S F B (kq (by decide) : kd 199 = 22 ∧ 199 < NN) rfl hi dX10_coins_23 ?_
        refine lv_iadd hx hb dX10_coins_24 ?_
        obtain ⟨x17, ex17, ho⟩ := lt_ ho
        refine lv_nm ex17 ?_
        refine lv_istore_n (lv' := [(1, .int x17), (2, .int v13), (0, .ref (G.2.2 198))]) hx hb dX10_coins_25 rfl hl (by decide) rfl (fun ls hl => ?_)
        obtain ⟨x18, ex18, ho⟩ := lt_ ho
        refine lv_iinc (v := x18) (lv' := [(2, .int x18), (1, .int x17), (0, .ref (G.2.2 198))]) hx hb dX10_coins_26 hl (k := 1) rfl (by rw [ex18]; rfl) (by decide) rfl (fun ls hl => ?_)
        refine lv_goto (tgt := 4) hx hb dX10_coins_29 (by decide) ?_
        exact ih _ _  _ _ _ ho B (lv_sub hl [0, 1, 2] rfl)
  exact hloop4 8 _ _  _ _ _ ho B hl

set_option maxHeartbeats 4000000 in
set_option maxRecDepth 100000 in
theorem c_X10_voids (l : Launch) (G : Gd) (σ : Mm) (sz : Nat) {out : Int32} (ho : f_X10_voids σ = some out) : Met l yX10_voids wsX10_voids { frames := 2, cells := 0, slots := 0, locals := 41 } (va_Pc [.ref (G.2.2 198)] (PW G σ sz)) (Qi G sz out σ) 0 0 (AA G sz) := by
  refine Met.ofW (cc := cX10_voids) (maxL := 3) (ret := (some .int)) (by decide) rfl ?_
  intro p e s m args below meth c s₁ B0 hml hv
  obtain ⟨rfl, hpw⟩ := hv
  have hsz := hpw.1
  subst hsz
  obtain ⟨F, B⟩ := hpw.to
  have hx := B0.exec
  have hb := B0.bytes
  have hr := B0.returns
  have hts := atoms_spec (ws := wsX10_voids) B0.pre
  have hown : s.vm.findClass RX10 = some m.cls := findClass_of_methodNamed B0.named
  have hlocks := B0.notSynchronized
  have S : CallFix p m c cX10_voids 3 s _ wsX10_voids RX10 := ⟨hx, hb, hml, hown, hts⟩
  have hiX10 : ∀ w ∈ u_ws RX10 TX10 21, w ∈ wsX10_voids := by decide +kernel
  have hl := lv_entry [.ref (G.2.2 198)] (n := 3) (Nat.le_of_ble_eq_true rfl)
  rw [lg_entry_eq]
  generalize (lg_sl [.ref (G.2.2 198)] ++ List.replicate (3 - (lg_sl [.ref (G.2.2 198)]).length) Slot.unset).toArray = ls at hl ⊢
  have hl : lv_has ls 3 [(0, .ref (G.2.2 198))] := hl
  unfold f_X10_voids at ho
  skip
  refine lv_iconst (v := 0) hx hb dX10_voids_0 (by decide) ?_
  refine lv_istore_n (lv' := [(1, .int 0), (0, .ref (G.2.2 198))]) hx hb dX10_voids_1 rfl hl (by decide) rfl (fun ls hl => ?_)
  refine lv_iconst (v := 0) hx hb dX10_voids_2 (by decide) ?_
  refine lv_istore_n (lv' := [(2, .int 0), (1, .int 0), (0, .ref (G.2.2 198))]) hx hb dX10_voids_3 rfl hl (by decide) rfl (fun ls hl => ?_)
  have hloop4 : ∀ (n : Nat) (v4 : Int32) (v5 : Int32) (H : Heap) (locs : List Loc) (ls : Array Slot), f_X10_voids_l4  σ n v4 v5 = some out → Bd G σ s H locs → lv_has ls 3 [(2, .int v4), (1, .int v5), (0, .ref (G.2.2 198))] → W p l e (headSpec wsX10_voids { frames := 2, cells := 0, slots := 0, locals := 41 }).room s m #[.ref (G.2.2 198)] below meth c H locs 0 0 (MQ below (Qi G s.heap.size out σ) #[.ref (G.2.2 198)] s 0 0 (AA G s.heap.size)) (F0 m 4 ls []) := by
    intro n
    induction n with
    | zero => intro v4 v5 H locs ls ho B hl; cases ho
    | succ n ih =>
      intro v4 v5 H locs ls ho B hl
      refine lv_iload_n hx hb dX10_voids_4 rfl (lv_at hl 0 rfl) ?_
      refine lv_aload_n hx hb dX10_voids_5 rfl (lv_at hl 2 rfl) ?_
      refine r_get (ci := 14) (C := RX10) (T := TX10) (N := 21) S F B (kq (by decide) : kd 198 = 21 ∧ 198 < NN) rfl rfl hiX10 0 (by decide) (by decide +kernel) rfl dX10_voids_6 ?_
      refine lv_iconst (v := 1) hx hb dX10_voids_9 (by decide) ?_
      refine r_ialdc (j := 1) S F B (kq (by decide) : kd 199 = 22 ∧ 199 < NN) rfl (vpc (by decide)) (by decide) dX10_voids_10 ?_
      refine lv_icmp_ge (tgt := 47) hx hb dX10_voids_11 (by decide) (fun c6 => ?_) (fun c6 => ?_)
      · have ho := ip_ c6 ho
        refine lv_iload_n hx hb dX10_voids_47 rfl (lv_at hl 1 rfl) ?_
        cases ho
        exact e_i B hx hb hr hlocks rfl rfl dX10_voids_48
      · have ho := in_ c6 ho
        refine lv_iload_n hx hb dX10_voids_14 rfl (lv_at hl 1 rfl) ?_
        refine lv_aload_n hx hb dX10_voids_15 rfl (lv_at hl 2 rfl) ?_
        refine lv_iload_n hx hb dX10_voids_16 rfl (lv_at hl 0 rfl) ?_
        obtain ⟨q7, hq7, ho⟩ := bnd_ ho
        refine k_iV (As := [.int v4]) (rest := [.int v5]) S F B (c_X10_lasts l G σ _ v4 hq7) (kq (by decide) : kd 198 = 21 ∧ 198 < NN) rfl rfl (cwV 1 hts gX10_voids_X10_lasts rfl rfl rfl (by decide +kernel) ⟨Nat.le_of_ble_eq_true rfl, Nat.le_of_ble_eq_true rfl⟩) rfl hl.1 rfl (Nat.le_of_ble_eq_true rfl) dX10_voids_17 ⟨Nat.le_of_ble_eq_true rfl, Nat.le_of_ble_eq_true rfl⟩ (fun H locs B => ?_)
        refine lv_if_eq (tgt := 38) hx hb dX10_voids_20 (by decide) (fun c8 => ?_) (fun c8 => ?_)
        · have ho := ip_ c8 ho
          refine lv_iconst (v := 0) hx hb dX10_voids_38 (by decide) ?_
          refine lv_iadd hx hb dX10_voids_39 ?_
          obtain ⟨x9, ex9, ho⟩ := lt_ ho
          refine lv_nm ex9 ?_
          refine lv_istore_n (lv' := [(1, .int x9), (2, .int v4), (0, .ref (G.2.2 198))]) hx hb dX10_voids_40 rfl hl (by decide) rfl (fun ls hl => ?_)
          obtain ⟨x10, ex10, ho⟩ := lt_ ho
          refine lv_iinc (v := x10) (lv' := [(2, .int x10), (1, .int x9), (0, .ref (G.2.2 198))]) hx hb dX10_voids_41 hl (k := 1) rfl (by rw [ex10]; rfl) (by decide) rfl (fun ls hl => ?_)
          refine lv_goto (tgt := 4) hx hb dX10_voids_44 (by decide) ?_
          exact ih _ _  _ _ _ ho B (lv_sub hl [0, 1, 2] rfl)
        · have ho := in_ c8 ho
          refine lv_aload_n hx hb dX10_voids_23 rfl (lv_at hl 2 rfl) ?_
          refine r_get (ci := 14) (C := RX10) (T := TX10) (N := 21) S F B (kq (by decide) : kd 198 = 21 ∧ 198 < NN) rfl rfl hiX10 0 (by decide) (by decide +kernel) rfl dX10_voids_24 ?_
          refine lv_iload_n hx hb dX10_voids_27 rfl (lv_at hl 0 rfl) ?_
          obtain ⟨q11, hq11, ho⟩ := bnd_ ho
          refine k_iS (As := [.int v4]) (rest := [.ref (G.2.2 199), .int v5]) S F B (c_X10_visitorAt l G σ _ v4 hq11) (va_cwS 1 hts gX10_voids_X10_visitorAt rfl rfl rfl (by decide +kernel) ⟨Nat.le_of_ble_eq_true rfl, Nat.le_of_ble_eq_true rfl⟩) rfl hl.1 rfl (Nat.le_of_ble_eq_true rfl) dX10_voids_28 ⟨Nat.le_of_ble_eq_true rfl, Nat.le_of_ble_eq_true rfl⟩ (fun H locs B => ?_)
          refine lv_bipush (v := 6) hx hb dX10_voids_31 (by decide) ?_
          refine lv_iadd hx hb dX10_voids_33 ?_
          obtain ⟨hi, ho⟩ := gd_ ho
          refine r_iald S F B (kq (by decide) : kd 199 = 22 ∧ 199 < NN) rfl hi dX10_voids_34 ?_
          refine lv_goto (tgt := 39) hx hb dX10_voids_35 (by decide) ?_
          refine lv_iadd hx hb dX10_voids_39 ?_
          obtain ⟨x12, ex12, ho⟩ := lt_ ho
          refine lv_nm ex12 ?_
          refine lv_istore_n (lv' := [(1, .int x12), (2, .int v4), (0, .ref (G.2.2 198))]) hx hb dX10_voids_40 rfl hl (by decide) rfl (fun ls hl => ?_)
          obtain ⟨x13, ex13, ho⟩ := lt_ ho
          refine lv_iinc (v := x13) (lv' := [(2, .int x13), (1, .int x12), (0, .ref (G.2.2 198))]) hx hb dX10_voids_41 hl (k := 1) rfl (by rw [ex13]; rfl) (by decide) rfl (fun ls hl => ?_)
          refine lv_goto (tgt := 4) hx hb dX10_voids_44 (by decide) ?_
          exact ih _ _  _ _ _ ho B (lv_sub hl [0, 1, 2] rfl)
  exact hloop4 8 _ _  _ _ _ ho B hl

set_option maxHeartbeats 4000000 in
set_option maxRecDepth 100000 in
theorem c_X10_outs (l : Launch) (G : Gd) (σ : Mm) (sz : Nat) {out : Int32} (ho : f_X10_outs σ = some out) : Met l yX10_outs wsX10_outs { frames := 1, cells := 0, slots := 0, locals := 20 } (va_Pc [.ref (G.2.2 198)] (PW G σ sz)) (Qi G sz out σ) 0 0 (AA G sz) := by
  refine Met.ofW (cc := cX10_outs) (maxL := 3) (ret := (some .int)) (by decide) rfl ?_
  intro p e s m args below meth c s₁ B0 hml hv
  obtain ⟨rfl, hpw⟩ := hv
  have hsz := hpw.1
  subst hsz
  obtain ⟨F, B⟩ := hpw.to
  have hx := B0.exec
  have hb := B0.bytes
  have hr := B0.returns
  have hts := atoms_spec (ws := wsX10_outs) B0.pre
  have hown : s.vm.findClass RX10 = some m.cls := findClass_of_methodNamed B0.named
  have hlocks := B0.notSynchronized
  have S : CallFix p m c cX10_outs 3 s _ wsX10_outs RX10 := ⟨hx, hb, hml, hown, hts⟩
  have hiX10 : ∀ w ∈ u_ws RX10 TX10 21, w ∈ wsX10_outs := by decide +kernel
  have hl := lv_entry [.ref (G.2.2 198)] (n := 3) (Nat.le_of_ble_eq_true rfl)
  rw [lg_entry_eq]
  generalize (lg_sl [.ref (G.2.2 198)] ++ List.replicate (3 - (lg_sl [.ref (G.2.2 198)]).length) Slot.unset).toArray = ls at hl ⊢
  have hl : lv_has ls 3 [(0, .ref (G.2.2 198))] := hl
  unfold f_X10_outs at ho
  skip
  refine lv_iconst (v := 0) hx hb dX10_outs_0 (by decide) ?_
  refine lv_istore_n (lv' := [(1, .int 0), (0, .ref (G.2.2 198))]) hx hb dX10_outs_1 rfl hl (by decide) rfl (fun ls hl => ?_)
  refine lv_iconst (v := 0) hx hb dX10_outs_2 (by decide) ?_
  refine lv_istore_n (lv' := [(2, .int 0), (1, .int 0), (0, .ref (G.2.2 198))]) hx hb dX10_outs_3 rfl hl (by decide) rfl (fun ls hl => ?_)
  have hloop4 : ∀ (n : Nat) (v4 : Int32) (v5 : Int32) (H : Heap) (locs : List Loc) (ls : Array Slot), f_X10_outs_l4  σ n v4 v5 = some out → Bd G σ s H locs → lv_has ls 3 [(2, .int v4), (1, .int v5), (0, .ref (G.2.2 198))] → W p l e (headSpec wsX10_outs { frames := 1, cells := 0, slots := 0, locals := 20 }).room s m #[.ref (G.2.2 198)] below meth c H locs 0 0 (MQ below (Qi G s.heap.size out σ) #[.ref (G.2.2 198)] s 0 0 (AA G s.heap.size)) (F0 m 4 ls []) := by
    intro n
    induction n with
    | zero => intro v4 v5 H locs ls ho B hl; cases ho
    | succ n ih =>
      intro v4 v5 H locs ls ho B hl
      refine lv_iload_n hx hb dX10_outs_4 rfl (lv_at hl 0 rfl) ?_
      refine lv_aload_n hx hb dX10_outs_5 rfl (lv_at hl 2 rfl) ?_
      refine r_get (ci := 14) (C := RX10) (T := TX10) (N := 21) S F B (kq (by decide) : kd 198 = 21 ∧ 198 < NN) rfl rfl hiX10 0 (by decide) (by decide +kernel) rfl dX10_outs_6 ?_
      refine lv_iconst (v := 1) hx hb dX10_outs_9 (by decide) ?_
      refine r_ialdc (j := 1) S F B (kq (by decide) : kd 199 = 22 ∧ 199 < NN) rfl (vpc (by decide)) (by decide) dX10_outs_10 ?_
      refine lv_icmp_ge (tgt := 35) hx hb dX10_outs_11 (by decide) (fun c6 => ?_) (fun c6 => ?_)
      · have ho := ip_ c6 ho
        refine lv_iload_n hx hb dX10_outs_35 rfl (lv_at hl 1 rfl) ?_
        cases ho
        exact e_i B hx hb hr hlocks rfl rfl dX10_outs_36
      · have ho := in_ c6 ho
        refine lv_iload_n hx hb dX10_outs_14 rfl (lv_at hl 1 rfl) ?_
        refine lv_aload_n hx hb dX10_outs_15 rfl (lv_at hl 2 rfl) ?_
        refine r_get (ci := 14) (C := RX10) (T := TX10) (N := 21) S F B (kq (by decide) : kd 198 = 21 ∧ 198 < NN) rfl rfl hiX10 0 (by decide) (by decide +kernel) rfl dX10_outs_16 ?_
        refine lv_iload_n hx hb dX10_outs_19 rfl (lv_at hl 0 rfl) ?_
        obtain ⟨q7, hq7, ho⟩ := bnd_ ho
        refine k_iS (As := [.int v4]) (rest := [.ref (G.2.2 199), .int v5]) S F B (c_X10_visitorAt l G σ _ v4 hq7) (va_cwS 1 hts gX10_outs_X10_visitorAt rfl rfl rfl (by decide +kernel) ⟨Nat.le_of_ble_eq_true rfl, Nat.le_of_ble_eq_true rfl⟩) rfl hl.1 rfl (Nat.le_of_ble_eq_true rfl) dX10_outs_20 ⟨Nat.le_of_ble_eq_true rfl, Nat.le_of_ble_eq_true rfl⟩ (fun H locs B => ?_)
        refine lv_bipush (v := 7) hx hb dX10_outs_23 (by decide) ?_
        refine lv_iadd hx hb dX10_outs_25 ?_
        obtain ⟨hi, ho⟩ := gd_ ho
        refine r_iald S F B (kq (by decide) : kd 199 = 22 ∧ 199 < NN) rfl hi dX10_outs_26 ?_
        refine lv_iadd hx hb dX10_outs_27 ?_
        obtain ⟨x8, ex8, ho⟩ := lt_ ho
        refine lv_nm ex8 ?_
        refine lv_istore_n (lv' := [(1, .int x8), (2, .int v4), (0, .ref (G.2.2 198))]) hx hb dX10_outs_28 rfl hl (by decide) rfl (fun ls hl => ?_)
        obtain ⟨x9, ex9, ho⟩ := lt_ ho
        refine lv_iinc (v := x9) (lv' := [(2, .int x9), (1, .int x8), (0, .ref (G.2.2 198))]) hx hb dX10_outs_29 hl (k := 1) rfl (by rw [ex9]; rfl) (by decide) rfl (fun ls hl => ?_)
        refine lv_goto (tgt := 4) hx hb dX10_outs_32 (by decide) ?_
        exact ih _ _  _ _ _ ho B (lv_sub hl [0, 1, 2] rfl)
  exact hloop4 8 _ _  _ _ _ ho B hl

set_option maxHeartbeats 4000000 in
set_option maxRecDepth 100000 in
theorem c_X10_account (l : Launch) (G : Gd) (σ : Mm) (sz : Nat) (a0 : Int32) {out : Int32 × Mm} (ho : f_X10_account a0 σ = some out) : Met l yX10_account wsX10_account { frames := 3, cells := 0, slots := 0, locals := 64 } (va_Pc [.ref (G.2.2 198), .int a0] (PW G σ sz)) (Qi G sz out.1 out.2) 0 0 (AA G sz) := by
  refine Met.ofW (cc := cX10_account) (maxL := 2) (ret := (some .int)) (by decide) rfl ?_
  intro p e s m args below meth c s₁ B0 hml hv
  obtain ⟨rfl, hpw⟩ := hv
  have hsz := hpw.1
  subst hsz
  obtain ⟨F, B⟩ := hpw.to
  have hx := B0.exec
  have hb := B0.bytes
  have hr := B0.returns
  have hts := atoms_spec (ws := wsX10_account) B0.pre
  have hown : s.vm.findClass RX10 = some m.cls := findClass_of_methodNamed B0.named
  have hlocks := B0.notSynchronized
  have S : CallFix p m c cX10_account 2 s _ wsX10_account RX10 := ⟨hx, hb, hml, hown, hts⟩
  have hiX10 : ∀ w ∈ u_ws RX10 TX10 21, w ∈ wsX10_account := by decide +kernel
  have hl := lv_entry [.ref (G.2.2 198), .int a0] (n := 2) (Nat.le_of_ble_eq_true rfl)
  rw [lg_entry_eq]
  generalize (lg_sl [.ref (G.2.2 198), .int a0] ++ List.replicate (2 - (lg_sl [.ref (G.2.2 198), .int a0]).length) Slot.unset).toArray = ls at hl ⊢
  have hl : lv_has ls 2 [(0, .ref (G.2.2 198)), (1, .int a0)] := hl
  unfold f_X10_account at ho
  refine lv_aload_n hx hb dX10_account_0 rfl (lv_at hl 0 rfl) ?_
  refine lv_iconst (v := 0) hx hb dX10_account_1 (by decide) ?_
  refine r_put (ci := 14) (C := RX10) (T := TX10) (N := 21) (ty := .int) S F B tyX10 tyX10_ok nmX10 (kq (by decide) : kd 198 = 21 ∧ 198 < NN) (fun _ => rfl) rfl hiX10 12 (by decide) (by decide +kernel) rfl rfl rfl rfl (fun _ => Nat.le_of_ble_eq_true rfl) (fun _ => rfl) dX10_account_2 (fun H locs B => ?_)
  obtain ⟨σ1, eσ1, ho⟩ := lt_ ho
  rw [← eσ1] at B
  refine lv_iload_n hx hb dX10_account_5 rfl (lv_at hl 1 rfl) ?_
  by_cases c2 : a0 = 0
  · have ho := ip_ c2 ho
    refine lv_tableIn (off := 62) (tgt := 68) hx hb dX10_account_6 (by rw [c2]; decide) (by rw [c2]; decide) (by rw [c2]; rfl) (by decide) ?_
    refine lv_aload_n hx hb dX10_account_68 rfl (lv_at hl 0 rfl) ?_
    refine r_get (ci := 14) (C := RX10) (T := TX10) (N := 21) S F B (kq (by decide) : kd 198 = 21 ∧ 198 < NN) rfl rfl hiX10 0 (by decide) (by decide +kernel) rfl dX10_account_69 ?_
    refine lv_iload_n hx hb dX10_account_72 rfl (lv_at hl 1 rfl) ?_
    obtain ⟨hi, ho⟩ := gd_ ho
    refine r_iald S F B (kq (by decide) : kd 199 = 22 ∧ 199 < NN) rfl hi dX10_account_73 ?_
    cases ho
    exact e_i B hx hb hr hlocks rfl rfl dX10_account_74
  · have ho := in_ c2 ho
    by_cases c3 : a0 = 1
    · have ho := ip_ c3 ho
      refine lv_tableIn (off := 62) (tgt := 68) hx hb dX10_account_6 (by rw [c3]; decide) (by rw [c3]; decide) (by rw [c3]; rfl) (by decide) ?_
      refine lv_aload_n hx hb dX10_account_68 rfl (lv_at hl 0 rfl) ?_
      refine r_get (ci := 14) (C := RX10) (T := TX10) (N := 21) S F B (kq (by decide) : kd 198 = 21 ∧ 198 < NN) rfl rfl hiX10 0 (by decide) (by decide +kernel) rfl dX10_account_69 ?_
      refine lv_iload_n hx hb dX10_account_72 rfl (lv_at hl 1 rfl) ?_
      obtain ⟨hi, ho⟩ := gd_ ho
      refine r_iald S F B (kq (by decide) : kd 199 = 22 ∧ 199 < NN) rfl hi dX10_account_73 ?_
      cases ho
      exact e_i B hx hb hr hlocks rfl rfl dX10_account_74
    · have ho := in_ c3 ho
      by_cases c4 : a0 = 2
      · have ho := ip_ c4 ho
        refine lv_tableIn (off := 69) (tgt := 75) hx hb dX10_account_6 (by rw [c4]; decide) (by rw [c4]; decide) (by rw [c4]; rfl) (by decide) ?_
        refine lv_aload_n hx hb dX10_account_75 rfl (lv_at hl 0 rfl) ?_
        obtain ⟨q5, hq5, ho⟩ := bnd_ ho
        refine k_iV (As := []) (rest := []) S F B (c_X10_outs l G σ1 _ hq5) (kq (by decide) : kd 198 = 21 ∧ 198 < NN) rfl rfl (cwV 0 hts gX10_account_X10_outs rfl rfl rfl (by decide +kernel) ⟨Nat.le_of_ble_eq_true rfl, Nat.le_of_ble_eq_true rfl⟩) rfl hl.1 rfl (Nat.le_of_ble_eq_true rfl) dX10_account_76 ⟨Nat.le_of_ble_eq_true rfl, Nat.le_of_ble_eq_true rfl⟩ (fun H locs B => ?_)
        cases ho
        exact e_i B hx hb hr hlocks rfl rfl dX10_account_79
      · have ho := in_ c4 ho
        by_cases c6 : a0 = 3
        · have ho := ip_ c6 ho
          refine lv_tableIn (off := 74) (tgt := 80) hx hb dX10_account_6 (by rw [c6]; decide) (by rw [c6]; decide) (by rw [c6]; rfl) (by decide) ?_
          refine lv_aload_n hx hb dX10_account_80 rfl (lv_at hl 0 rfl) ?_
          refine lv_iconst (v := (-1)) hx hb dX10_account_81 (by decide) ?_
          obtain ⟨q7, hq7, ho⟩ := bnd_ ho
          refine k_iV (As := [.int (-1)]) (rest := []) S F B (c_X10_lasting l G σ1 _ (-1) hq7) (kq (by decide) : kd 198 = 21 ∧ 198 < NN) rfl rfl (cwV 1 hts gX10_account_X10_lasting rfl rfl rfl (by decide +kernel) ⟨Nat.le_of_ble_eq_true rfl, Nat.le_of_ble_eq_true rfl⟩) rfl hl.1 rfl (Nat.le_of_ble_eq_true rfl) dX10_account_82 ⟨Nat.le_of_ble_eq_true rfl, Nat.le_of_ble_eq_true rfl⟩ (fun H locs B => ?_)
          cases ho
          exact e_i B hx hb hr hlocks rfl rfl dX10_account_85
        · have ho := in_ c6 ho
          by_cases c8 : a0 = 4
          · have ho := ip_ c8 ho
            refine lv_tableIn (off := 80) (tgt := 86) hx hb dX10_account_6 (by rw [c8]; decide) (by rw [c8]; decide) (by rw [c8]; rfl) (by decide) ?_
            refine lv_aload_n hx hb dX10_account_86 rfl (lv_at hl 0 rfl) ?_
            obtain ⟨q9, hq9, ho⟩ := bnd_ ho
            refine k_iV (As := []) (rest := []) S F B (c_X10_voids l G σ1 _ hq9) (kq (by decide) : kd 198 = 21 ∧ 198 < NN) rfl rfl (cwV 0 hts gX10_account_X10_voids rfl rfl rfl (by decide +kernel) ⟨Nat.le_of_ble_eq_true rfl, Nat.le_of_ble_eq_true rfl⟩) rfl hl.1 rfl (Nat.le_of_ble_eq_true rfl) dX10_account_87 ⟨Nat.le_of_ble_eq_true rfl, Nat.le_of_ble_eq_true rfl⟩ (fun H locs B => ?_)
            cases ho
            exact e_i B hx hb hr hlocks rfl rfl dX10_account_90
          · have ho := in_ c8 ho
            by_cases c10 : a0 = 5
            · have ho := ip_ c10 ho
              refine lv_tableIn (off := 85) (tgt := 91) hx hb dX10_account_6 (by rw [c10]; decide) (by rw [c10]; decide) (by rw [c10]; rfl) (by decide) ?_
              refine lv_aload_n hx hb dX10_account_91 rfl (lv_at hl 0 rfl) ?_
              obtain ⟨q11, hq11, ho⟩ := bnd_ ho
              refine k_iV (As := []) (rest := []) S F B (c_X10_gaps l G σ1 _ hq11) (kq (by decide) : kd 198 = 21 ∧ 198 < NN) rfl rfl (cwV 0 hts gX10_account_X10_gaps rfl rfl rfl (by decide +kernel) ⟨Nat.le_of_ble_eq_true rfl, Nat.le_of_ble_eq_true rfl⟩) rfl hl.1 rfl (Nat.le_of_ble_eq_true rfl) dX10_account_92 ⟨Nat.le_of_ble_eq_true rfl, Nat.le_of_ble_eq_true rfl⟩ (fun H locs B => ?_)
              cases ho
              exact e_i B hx hb hr hlocks rfl rfl dX10_account_95
            · have ho := in_ c10 ho
              by_cases c12 : a0 = 6
              · have ho := ip_ c12 ho
                refine lv_tableIn (off := 90) (tgt := 96) hx hb dX10_account_6 (by rw [c12]; decide) (by rw [c12]; decide) (by rw [c12]; rfl) (by decide) ?_
                refine lv_aload_n hx hb dX10_account_96 rfl (lv_at hl 0 rfl) ?_
                refine r_get (ci := 14) (C := RX10) (T := TX10) (N := 21) S F B (kq (by decide) : kd 198 = 21 ∧ 198 < NN) rfl rfl hiX10 0 (by decide) (by decide +kernel) rfl dX10_account_97 ?_
                refine lv_iconst (v := 3) hx hb dX10_account_100 (by decide) ?_
                refine lv_iload_n hx hb dX10_account_101 rfl (lv_at hl 1 rfl) ?_
                refine lv_iadd hx hb dX10_account_102 ?_
                refine lv_bipush (v := 6) hx hb dX10_account_103 (by decide) ?_
                refine lv_isub hx hb dX10_account_105 ?_
                obtain ⟨hi, ho⟩ := gd_ ho
                refine r_iald S F B (kq (by decide) : kd 199 = 22 ∧ 199 < NN) rfl hi dX10_account_106 ?_
                cases ho
                exact e_i B hx hb hr hlocks rfl rfl dX10_account_107
              · have ho := in_ c12 ho
                by_cases c13 : a0 = 7
                · have ho := ip_ c13 ho
                  refine lv_tableIn (off := 90) (tgt := 96) hx hb dX10_account_6 (by rw [c13]; decide) (by rw [c13]; decide) (by rw [c13]; rfl) (by decide) ?_
                  refine lv_aload_n hx hb dX10_account_96 rfl (lv_at hl 0 rfl) ?_
                  refine r_get (ci := 14) (C := RX10) (T := TX10) (N := 21) S F B (kq (by decide) : kd 198 = 21 ∧ 198 < NN) rfl rfl hiX10 0 (by decide) (by decide +kernel) rfl dX10_account_97 ?_
                  refine lv_iconst (v := 3) hx hb dX10_account_100 (by decide) ?_
                  refine lv_iload_n hx hb dX10_account_101 rfl (lv_at hl 1 rfl) ?_
                  refine lv_iadd hx hb dX10_account_102 ?_
                  refine lv_bipush (v := 6) hx hb dX10_account_103 (by decide) ?_
                  refine lv_isub hx hb dX10_account_105 ?_
                  obtain ⟨hi, ho⟩ := gd_ ho
                  refine r_iald S F B (kq (by decide) : kd 199 = 22 ∧ 199 < NN) rfl hi dX10_account_106 ?_
                  cases ho
                  exact e_i B hx hb hr hlocks rfl rfl dX10_account_107
                · have ho := in_ c13 ho
                  by_cases c14 : a0 = 8
                  · have ho := ip_ c14 ho
                    refine lv_tableIn (off := 90) (tgt := 96) hx hb dX10_account_6 (by rw [c14]; decide) (by rw [c14]; decide) (by rw [c14]; rfl) (by decide) ?_
                    refine lv_aload_n hx hb dX10_account_96 rfl (lv_at hl 0 rfl) ?_
                    refine r_get (ci := 14) (C := RX10) (T := TX10) (N := 21) S F B (kq (by decide) : kd 198 = 21 ∧ 198 < NN) rfl rfl hiX10 0 (by decide) (by decide +kernel) rfl dX10_account_97 ?_
                    refine lv_iconst (v := 3) hx hb dX10_account_100 (by decide) ?_
                    refine lv_iload_n hx hb dX10_account_101 rfl (lv_at hl 1 rfl) ?_
                    refine lv_iadd hx hb dX10_account_102 ?_
                    refine lv_bipush (v := 6) hx hb dX10_account_103 (by decide) ?_
                    refine lv_isub hx hb dX10_account_105 ?_
                    obtain ⟨hi, ho⟩ := gd_ ho
                    refine r_iald S F B (kq (by decide) : kd 199 = 22 ∧ 199 < NN) rfl hi dX10_account_106 ?_
                    cases ho
                    exact e_i B hx hb hr hlocks rfl rfl dX10_account_107
                  · have ho := in_ c14 ho
                    by_cases c15 : a0 = 9
                    · have ho := ip_ c15 ho
                      refine lv_tableIn (off := 102) (tgt := 108) hx hb dX10_account_6 (by rw [c15]; decide) (by rw [c15]; decide) (by rw [c15]; rfl) (by decide) ?_
                      refine lv_aload_n hx hb dX10_account_108 rfl (lv_at hl 0 rfl) ?_
                      obtain ⟨q16, hq16, ho⟩ := bnd_ ho
                      refine k_iV (As := []) (rest := []) S F B (c_X10_coins l G σ1 _ hq16) (kq (by decide) : kd 198 = 21 ∧ 198 < NN) rfl rfl (cwV 0 hts gX10_account_X10_coins rfl rfl rfl (by decide +kernel) ⟨Nat.le_of_ble_eq_true rfl, Nat.le_of_ble_eq_true rfl⟩) rfl hl.1 rfl (Nat.le_of_ble_eq_true rfl) dX10_account_109 ⟨Nat.le_of_ble_eq_true rfl, Nat.le_of_ble_eq_true rfl⟩ (fun H locs B => ?_)
                      cases ho
                      exact e_i B hx hb hr hlocks rfl rfl dX10_account_112
                    · have ho := in_ c15 ho
                      by_cases c17 : a0 = 10
                      · have ho := ip_ c17 ho
                        refine lv_tableIn (off := 107) (tgt := 113) hx hb dX10_account_6 (by rw [c17]; decide) (by rw [c17]; decide) (by rw [c17]; rfl) (by decide) ?_
                        refine lv_aload_n hx hb dX10_account_113 rfl (lv_at hl 0 rfl) ?_
                        refine r_get (ci := 14) (C := RX10) (T := TX10) (N := 21) S F B (kq (by decide) : kd 198 = 21 ∧ 198 < NN) rfl rfl hiX10 5 (by decide) (by decide +kernel) rfl dX10_account_114 ?_
                        cases ho
                        exact e_i B hx hb hr hlocks rfl rfl dX10_account_117
                      · have ho := in_ c17 ho
                        by_cases c18 : a0 = 11
                        · have ho := ip_ c18 ho
                          refine lv_tableIn (off := 112) (tgt := 118) hx hb dX10_account_6 (by rw [c18]; decide) (by rw [c18]; decide) (by rw [c18]; rfl) (by decide) ?_
                          refine lv_aload_n hx hb dX10_account_118 rfl (lv_at hl 0 rfl) ?_
                          refine r_get (ci := 14) (C := RX10) (T := TX10) (N := 21) S F B (kq (by decide) : kd 198 = 21 ∧ 198 < NN) rfl rfl hiX10 11 (by decide) (by decide +kernel) rfl dX10_account_119 ?_
                          cases ho
                          exact e_i B hx hb hr hlocks rfl rfl dX10_account_122
                        · have ho := in_ c18 ho
                          refine t_tableD (tgt := 123) hx hb dX10_account_6 rfl (fun j hj => ?_) (by decide) ?_
                          · have hj : j < 12 := hj
                            rcases (show j = 0 ∨ j = 1 ∨ j = 2 ∨ j = 3 ∨ j = 4 ∨ j = 5 ∨ j = 6 ∨ j = 7 ∨ j = 8 ∨ j = 9 ∨ j = 10 ∨ j = 11 by omega) with rfl | rfl | rfl | rfl | rfl | rfl | rfl | rfl | rfl | rfl | rfl | rfl
                            · exact Or.inr (lv_neT c2 (by decide))
                            · exact Or.inr (lv_neT c3 (by decide))
                            · exact Or.inr (lv_neT c4 (by decide))
                            · exact Or.inr (lv_neT c6 (by decide))
                            · exact Or.inr (lv_neT c8 (by decide))
                            · exact Or.inr (lv_neT c10 (by decide))
                            · exact Or.inr (lv_neT c12 (by decide))
                            · exact Or.inr (lv_neT c13 (by decide))
                            · exact Or.inr (lv_neT c14 (by decide))
                            · exact Or.inr (lv_neT c15 (by decide))
                            · exact Or.inr (lv_neT c17 (by decide))
                            · exact Or.inr (lv_neT c18 (by decide))
                          · refine lv_aload_n hx hb dX10_account_123 rfl (lv_at hl 0 rfl) ?_
                            refine lv_iconst (v := 1) hx hb dX10_account_124 (by decide) ?_
                            obtain ⟨q19, σ20, hq19, ho⟩ := bnm_ ho
                            refine k_iV (As := [.int 1]) (rest := []) S F B (c_X10_throwing l G σ1 _ 1 hq19) (kq (by decide) : kd 198 = 21 ∧ 198 < NN) rfl rfl (cwV 1 hts gX10_account_X10_throwing rfl rfl rfl (by decide +kernel) ⟨Nat.le_of_ble_eq_true rfl, Nat.le_of_ble_eq_true rfl⟩) rfl hl.1 rfl (Nat.le_of_ble_eq_true rfl) dX10_account_125 ⟨Nat.le_of_ble_eq_true rfl, Nat.le_of_ble_eq_true rfl⟩ (fun H locs B => ?_)
                            cases ho
                            exact e_i B hx hb hr hlocks rfl rfl dX10_account_128

set_option maxHeartbeats 4000000 in
set_option maxRecDepth 100000 in
theorem c_X10_undo (l : Launch) (G : Gd) (σ : Mm) (sz : Nat) {out : Int32 × Mm} (ho : f_X10_undo σ = some out) : Met l yX10_undo wsX10_undo { frames := 1, cells := 0, slots := 0, locals := 21 } (va_Pc [.ref (G.2.2 198)] (PW G σ sz)) (Qi G sz out.1 out.2) 0 0 (AA G sz) := by
  refine Met.ofW (cc := cX10_undo) (maxL := 2) (ret := (some .int)) (by decide) rfl ?_
  intro p e s m args below meth c s₁ B0 hml hv
  obtain ⟨rfl, hpw⟩ := hv
  have hsz := hpw.1
  subst hsz
  obtain ⟨F, B⟩ := hpw.to
  have hx := B0.exec
  have hb := B0.bytes
  have hr := B0.returns
  have hts := atoms_spec (ws := wsX10_undo) B0.pre
  have hown : s.vm.findClass RX10 = some m.cls := findClass_of_methodNamed B0.named
  have hlocks := B0.notSynchronized
  have S : CallFix p m c cX10_undo 2 s _ wsX10_undo RX10 := ⟨hx, hb, hml, hown, hts⟩
  have hiX10 : ∀ w ∈ u_ws RX10 TX10 21, w ∈ wsX10_undo := by decide +kernel
  have hl := lv_entry [.ref (G.2.2 198)] (n := 2) (Nat.le_of_ble_eq_true rfl)
  rw [lg_entry_eq]
  generalize (lg_sl [.ref (G.2.2 198)] ++ List.replicate (2 - (lg_sl [.ref (G.2.2 198)]).length) Slot.unset).toArray = ls at hl ⊢
  have hl : lv_has ls 2 [(0, .ref (G.2.2 198))] := hl
  unfold f_X10_undo at ho
  skip
  refine lv_aload_n hx hb dX10_undo_0 rfl (lv_at hl 0 rfl) ?_
  refine lv_iconst (v := 0) hx hb dX10_undo_1 (by decide) ?_
  refine r_put (ci := 14) (C := RX10) (T := TX10) (N := 21) (ty := .int) S F B tyX10 tyX10_ok nmX10 (kq (by decide) : kd 198 = 21 ∧ 198 < NN) (fun _ => rfl) rfl hiX10 12 (by decide) (by decide +kernel) rfl rfl rfl rfl (fun _ => Nat.le_of_ble_eq_true rfl) (fun _ => rfl) dX10_undo_2 (fun H locs B => ?_)
  obtain ⟨σ1, eσ1, ho⟩ := lt_ ho
  rw [← eσ1] at B
  refine lv_aload_n hx hb dX10_undo_5 rfl (lv_at hl 0 rfl) ?_
  refine r_get (ci := 14) (C := RX10) (T := TX10) (N := 21) S F B (kq (by decide) : kd 198 = 21 ∧ 198 < NN) rfl rfl hiX10 5 (by decide) (by decide +kernel) rfl dX10_undo_6 ?_
  refine lv_if_ne (tgt := 18) hx hb dX10_undo_9 (by decide) (fun c2 => ?_) (fun c2 => ?_)
  · have ho := in_ c2 ho
    refine lv_aload_n hx hb dX10_undo_18 rfl (lv_at hl 0 rfl) ?_
    refine lv_dup hx hb dX10_undo_19 rfl ?_
    refine r_get (ci := 14) (C := RX10) (T := TX10) (N := 21) S F B (kq (by decide) : kd 198 = 21 ∧ 198 < NN) rfl rfl hiX10 5 (by decide) (by decide +kernel) rfl dX10_undo_20 ?_
    refine lv_iconst (v := 1) hx hb dX10_undo_23 (by decide) ?_
    refine lv_isub hx hb dX10_undo_24 ?_
    refine r_put (ci := 14) (C := RX10) (T := TX10) (N := 21) (ty := .int) S F B tyX10 tyX10_ok nmX10 (kq (by decide) : kd 198 = 21 ∧ 198 < NN) (fun _ => rfl) rfl hiX10 5 (by decide) (by decide +kernel) rfl rfl rfl rfl (fun _ => Nat.le_of_ble_eq_true rfl) (fun _ => rfl) dX10_undo_25 (fun H locs B => ?_)
    obtain ⟨σ3, eσ3, ho⟩ := lt_ ho
    rw [← eσ3] at B
    refine lv_iconst (v := 0) hx hb dX10_undo_28 (by decide) ?_
    refine lv_istore_n (lv' := [(1, .int 0), (0, .ref (G.2.2 198))]) hx hb dX10_undo_29 rfl hl (by decide) rfl (fun ls hl => ?_)
    have hloop30 : ∀ (n : Nat) (v7 : Int32) (σ8 : Mm) (H : Heap) (locs : List Loc) (ls : Array Slot), f_X10_undo_l30   n v7 σ8 = some out → Bd G σ8 s H locs → lv_has ls 2 [(1, .int v7), (0, .ref (G.2.2 198))] → W p l e (headSpec wsX10_undo { frames := 1, cells := 0, slots := 0, locals := 21 }).room s m #[.ref (G.2.2 198)] below meth c H locs 0 0 (MQ below (Qi G s.heap.size out.1 out.2) #[.ref (G.2.2 198)] s 0 0 (AA G s.heap.size)) (F0 m 30 ls []) := by
      intro n
      induction n with
      | zero => intro v7 σ8 H locs ls ho B hl; cases ho
      | succ n ih =>
        intro v7 σ8 H locs ls ho B hl
        refine lv_iload_n hx hb dX10_undo_30 rfl (lv_at hl 0 rfl) ?_
        refine lv_bipush (v := 86) hx hb dX10_undo_31 (by decide) ?_
        refine lv_icmp_ge (tgt := 62) hx hb dX10_undo_33 (by decide) (fun c9 => ?_) (fun c9 => ?_)
        · have ho := ip_ c9 ho
          refine lv_aload_n hx hb dX10_undo_62 rfl (lv_at hl 1 rfl) ?_
          refine r_get (ci := 14) (C := RX10) (T := TX10) (N := 21) S F B (kq (by decide) : kd 198 = 21 ∧ 198 < NN) rfl rfl hiX10 5 (by decide) (by decide +kernel) rfl dX10_undo_63 ?_
          cases ho
          exact e_i B hx hb hr hlocks rfl rfl dX10_undo_66
        · have ho := in_ c9 ho
          refine lv_aload_n hx hb dX10_undo_36 rfl (lv_at hl 1 rfl) ?_
          refine r_get (ci := 14) (C := RX10) (T := TX10) (N := 21) S F B (kq (by decide) : kd 198 = 21 ∧ 198 < NN) rfl rfl hiX10 0 (by decide) (by decide +kernel) rfl dX10_undo_37 ?_
          refine lv_iload_n hx hb dX10_undo_40 rfl (lv_at hl 0 rfl) ?_
          refine lv_aload_n hx hb dX10_undo_41 rfl (lv_at hl 1 rfl) ?_
          refine r_get (ci := 14) (C := RX10) (T := TX10) (N := 21) S F B (kq (by decide) : kd 198 = 21 ∧ 198 < NN) rfl rfl hiX10 4 (by decide) (by decide +kernel) rfl dX10_undo_42 ?_
          refine lv_bipush (v := 86) hx hb dX10_undo_45 (by decide) ?_
          refine lv_aload_n hx hb dX10_undo_47 rfl (lv_at hl 1 rfl) ?_
          refine r_get (ci := 14) (C := RX10) (T := TX10) (N := 21) S F B (kq (by decide) : kd 198 = 21 ∧ 198 < NN) rfl rfl hiX10 5 (by decide) (by decide +kernel) rfl dX10_undo_48 ?_
          refine lv_imul hx hb dX10_undo_51 ?_
          refine lv_iload_n hx hb dX10_undo_52 rfl (lv_at hl 0 rfl) ?_
          refine lv_iadd hx hb dX10_undo_53 ?_
          obtain ⟨hi, ho⟩ := gd_ ho
          refine r_iald S F B (kq (by decide) : kd 202 = 23 ∧ 202 < NN) rfl hi dX10_undo_54 ?_
          obtain ⟨hi, ho⟩ := gd_ ho
          refine r_iast S F B (kq (by decide) : kd 199 = 22 ∧ 199 < NN) (fun _ => rfl) hi dX10_undo_55 (fun H locs B => ?_)
          obtain ⟨σ10, eσ10, ho⟩ := lt_ ho
          rw [← eσ10] at B
          obtain ⟨x11, ex11, ho⟩ := lt_ ho
          refine lv_iinc (v := x11) (lv' := [(1, .int x11), (0, .ref (G.2.2 198))]) hx hb dX10_undo_56 hl (k := 0) rfl (by rw [ex11]; rfl) (by decide) rfl (fun ls hl => ?_)
          refine lv_goto (tgt := 30) hx hb dX10_undo_59 (by decide) ?_
          exact ih _ _ _ _ _ ho B (lv_sub hl [0, 1] rfl)
    exact hloop30 90 _ _ _ _ _ ho B hl
  · have ho := ip_ c2 ho
    refine lv_aload_n hx hb dX10_undo_12 rfl (lv_at hl 0 rfl) ?_
    refine lv_iconst (v := 1) hx hb dX10_undo_13 (by decide) ?_
    obtain ⟨q12, σ13, hq12, ho⟩ := bnm_ ho
    refine k_iV (As := [.int 1]) (rest := []) S F B (c_X10_throwing l G σ1 _ 1 hq12) (kq (by decide) : kd 198 = 21 ∧ 198 < NN) rfl rfl (cwV 1 hts gX10_undo_X10_throwing rfl rfl rfl (by decide +kernel) ⟨Nat.le_of_ble_eq_true rfl, Nat.le_of_ble_eq_true rfl⟩) rfl hl.1 rfl (Nat.le_of_ble_eq_true rfl) dX10_undo_14 ⟨Nat.le_of_ble_eq_true rfl, Nat.le_of_ble_eq_true rfl⟩ (fun H locs B => ?_)
    cases ho
    exact e_i B hx hb hr hlocks rfl rfl dX10_undo_17

set_option maxHeartbeats 4000000 in
set_option maxRecDepth 100000 in
theorem c_X10_save (l : Launch) (G : Gd) (σ : Mm) (sz : Nat) {out : Int32 × Mm} (ho : f_X10_save σ = some out) : Met l yX10_save wsX10_save { frames := 0, cells := 0, slots := 0, locals := 0 } (va_Pc [.ref (G.2.2 198)] (PW G σ sz)) (Qi G sz out.1 out.2) 0 0 (AA G sz) := by
  refine Met.ofW (cc := cX10_save) (maxL := 2) (ret := (some .int)) (by decide) rfl ?_
  intro p e s m args below meth c s₁ B0 hml hv
  obtain ⟨rfl, hpw⟩ := hv
  have hsz := hpw.1
  subst hsz
  obtain ⟨F, B⟩ := hpw.to
  have hx := B0.exec
  have hb := B0.bytes
  have hr := B0.returns
  have hts := atoms_spec (ws := wsX10_save) B0.pre
  have hown : s.vm.findClass RX10 = some m.cls := findClass_of_methodNamed B0.named
  have hlocks := B0.notSynchronized
  have S : CallFix p m c cX10_save 2 s _ wsX10_save RX10 := ⟨hx, hb, hml, hown, hts⟩
  have hiX10 : ∀ w ∈ u_ws RX10 TX10 21, w ∈ wsX10_save := by decide +kernel
  have hl := lv_entry [.ref (G.2.2 198)] (n := 2) (Nat.le_of_ble_eq_true rfl)
  rw [lg_entry_eq]
  generalize (lg_sl [.ref (G.2.2 198)] ++ List.replicate (2 - (lg_sl [.ref (G.2.2 198)]).length) Slot.unset).toArray = ls at hl ⊢
  have hl : lv_has ls 2 [(0, .ref (G.2.2 198))] := hl
  unfold f_X10_save at ho
  skip
  refine lv_aload_n hx hb dX10_save_0 rfl (lv_at hl 0 rfl) ?_
  refine lv_iconst (v := 0) hx hb dX10_save_1 (by decide) ?_
  refine r_put (ci := 14) (C := RX10) (T := TX10) (N := 21) (ty := .int) S F B tyX10 tyX10_ok nmX10 (kq (by decide) : kd 198 = 21 ∧ 198 < NN) (fun _ => rfl) rfl hiX10 12 (by decide) (by decide +kernel) rfl rfl rfl rfl (fun _ => Nat.le_of_ble_eq_true rfl) (fun _ => rfl) dX10_save_2 (fun H locs B => ?_)
  obtain ⟨σ1, eσ1, ho⟩ := lt_ ho
  rw [← eσ1] at B
  refine lv_iconst (v := 0) hx hb dX10_save_5 (by decide) ?_
  refine lv_istore_n (lv' := [(1, .int 0), (0, .ref (G.2.2 198))]) hx hb dX10_save_6 rfl hl (by decide) rfl (fun ls hl => ?_)
  have hloop7 : ∀ (n : Nat) (v5 : Int32) (σ6 : Mm) (H : Heap) (locs : List Loc) (ls : Array Slot), f_X10_save_l7   n v5 σ6 = some out → Bd G σ6 s H locs → lv_has ls 2 [(1, .int v5), (0, .ref (G.2.2 198))] → W p l e (headSpec wsX10_save { frames := 0, cells := 0, slots := 0, locals := 0 }).room s m #[.ref (G.2.2 198)] below meth c H locs 0 0 (MQ below (Qi G s.heap.size out.1 out.2) #[.ref (G.2.2 198)] s 0 0 (AA G s.heap.size)) (F0 m 7 ls []) := by
    intro n
    induction n with
    | zero => intro v5 σ6 H locs ls ho B hl; cases ho
    | succ n ih =>
      intro v5 σ6 H locs ls ho B hl
      refine lv_iload_n hx hb dX10_save_7 rfl (lv_at hl 0 rfl) ?_
      refine lv_bipush (v := 86) hx hb dX10_save_8 (by decide) ?_
      refine lv_icmp_ge (tgt := 31) hx hb dX10_save_10 (by decide) (fun c7 => ?_) (fun c7 => ?_)
      · have ho := ip_ c7 ho
        refine lv_aload_n hx hb dX10_save_31 rfl (lv_at hl 1 rfl) ?_
        refine lv_iconst (v := 1) hx hb dX10_save_32 (by decide) ?_
        refine r_put (ci := 14) (C := RX10) (T := TX10) (N := 21) (ty := .boolean) S F B tyX10 tyX10_ok nmX10 (kq (by decide) : kd 198 = 21 ∧ 198 < NN) (fun _ => rfl) rfl hiX10 3 (by decide) (by decide +kernel) rfl rfl rfl rfl (fun _ => Nat.le_of_ble_eq_true rfl) (fun _ => rfl) dX10_save_33 (fun H locs B => ?_)
        obtain ⟨σ8, eσ8, ho⟩ := lt_ ho
        rw [← eσ8] at B
        refine lv_aload_n hx hb dX10_save_36 rfl (lv_at hl 1 rfl) ?_
        refine r_get (ci := 14) (C := RX10) (T := TX10) (N := 21) S F B (kq (by decide) : kd 198 = 21 ∧ 198 < NN) rfl rfl hiX10 0 (by decide) (by decide +kernel) rfl dX10_save_37 ?_
        refine lv_iconst (v := 1) hx hb dX10_save_40 (by decide) ?_
        refine r_ialdc (j := 1) S F B (kq (by decide) : kd 199 = 22 ∧ 199 < NN) rfl (vpc (by decide)) (by decide) dX10_save_41 ?_
        cases ho
        exact e_i B hx hb hr hlocks rfl rfl dX10_save_42
      · have ho := in_ c7 ho
        refine lv_aload_n hx hb dX10_save_13 rfl (lv_at hl 1 rfl) ?_
        refine r_get (ci := 14) (C := RX10) (T := TX10) (N := 21) S F B (kq (by decide) : kd 198 = 21 ∧ 198 < NN) rfl rfl hiX10 2 (by decide) (by decide +kernel) rfl dX10_save_14 ?_
        refine lv_iload_n hx hb dX10_save_17 rfl (lv_at hl 0 rfl) ?_
        refine lv_aload_n hx hb dX10_save_18 rfl (lv_at hl 1 rfl) ?_
        refine r_get (ci := 14) (C := RX10) (T := TX10) (N := 21) S F B (kq (by decide) : kd 198 = 21 ∧ 198 < NN) rfl rfl hiX10 0 (by decide) (by decide +kernel) rfl dX10_save_19 ?_
        refine lv_iload_n hx hb dX10_save_22 rfl (lv_at hl 0 rfl) ?_
        obtain ⟨hi, ho⟩ := gd_ ho
        refine r_iald S F B (kq (by decide) : kd 199 = 22 ∧ 199 < NN) rfl hi dX10_save_23 ?_
        obtain ⟨hi, ho⟩ := gd_ ho
        refine r_iast S F B (kq (by decide) : kd 201 = 22 ∧ 201 < NN) (fun _ => rfl) hi dX10_save_24 (fun H locs B => ?_)
        obtain ⟨σ9, eσ9, ho⟩ := lt_ ho
        rw [← eσ9] at B
        obtain ⟨x10, ex10, ho⟩ := lt_ ho
        refine lv_iinc (v := x10) (lv' := [(1, .int x10), (0, .ref (G.2.2 198))]) hx hb dX10_save_25 hl (k := 0) rfl (by rw [ex10]; rfl) (by decide) rfl (fun ls hl => ?_)
        refine lv_goto (tgt := 7) hx hb dX10_save_28 (by decide) ?_
        exact ih _ _ _ _ _ ho B (lv_sub hl [0, 1] rfl)
  exact hloop7 90 _ _ _ _ _ ho B hl

set_option maxHeartbeats 4000000 in
set_option maxRecDepth 100000 in
theorem c_X10_restore (l : Launch) (G : Gd) (σ : Mm) (sz : Nat) {out : Int32 × Mm} (ho : f_X10_restore σ = some out) : Met l yX10_restore wsX10_restore { frames := 1, cells := 0, slots := 0, locals := 21 } (va_Pc [.ref (G.2.2 198)] (PW G σ sz)) (Qi G sz out.1 out.2) 0 0 (AA G sz) := by
  refine Met.ofW (cc := cX10_restore) (maxL := 2) (ret := (some .int)) (by decide) rfl ?_
  intro p e s m args below meth c s₁ B0 hml hv
  obtain ⟨rfl, hpw⟩ := hv
  have hsz := hpw.1
  subst hsz
  obtain ⟨F, B⟩ := hpw.to
  have hx := B0.exec
  have hb := B0.bytes
  have hr := B0.returns
  have hts := atoms_spec (ws := wsX10_restore) B0.pre
  have hown : s.vm.findClass RX10 = some m.cls := findClass_of_methodNamed B0.named
  have hlocks := B0.notSynchronized
  have S : CallFix p m c cX10_restore 2 s _ wsX10_restore RX10 := ⟨hx, hb, hml, hown, hts⟩
  have hiX10 : ∀ w ∈ u_ws RX10 TX10 21, w ∈ wsX10_restore := by decide +kernel
  have hl := lv_entry [.ref (G.2.2 198)] (n := 2) (Nat.le_of_ble_eq_true rfl)
  rw [lg_entry_eq]
  generalize (lg_sl [.ref (G.2.2 198)] ++ List.replicate (2 - (lg_sl [.ref (G.2.2 198)]).length) Slot.unset).toArray = ls at hl ⊢
  have hl : lv_has ls 2 [(0, .ref (G.2.2 198))] := hl
  unfold f_X10_restore at ho
  skip
  refine lv_aload_n hx hb dX10_restore_0 rfl (lv_at hl 0 rfl) ?_
  refine lv_iconst (v := 0) hx hb dX10_restore_1 (by decide) ?_
  refine r_put (ci := 14) (C := RX10) (T := TX10) (N := 21) (ty := .int) S F B tyX10 tyX10_ok nmX10 (kq (by decide) : kd 198 = 21 ∧ 198 < NN) (fun _ => rfl) rfl hiX10 12 (by decide) (by decide +kernel) rfl rfl rfl rfl (fun _ => Nat.le_of_ble_eq_true rfl) (fun _ => rfl) dX10_restore_2 (fun H locs B => ?_)
  obtain ⟨σ1, eσ1, ho⟩ := lt_ ho
  rw [← eσ1] at B
  refine lv_aload_n hx hb dX10_restore_5 rfl (lv_at hl 0 rfl) ?_
  refine r_get (ci := 14) (C := RX10) (T := TX10) (N := 21) S F B (kq (by decide) : kd 198 = 21 ∧ 198 < NN) rfl rfl hiX10 3 (by decide) (by decide +kernel) rfl dX10_restore_6 ?_
  refine lv_if_ne (tgt := 18) hx hb dX10_restore_9 (by decide) (fun c2 => ?_) (fun c2 => ?_)
  · have ho := in_ c2 ho
    refine lv_iconst (v := 0) hx hb dX10_restore_18 (by decide) ?_
    refine lv_istore_n (lv' := [(1, .int 0), (0, .ref (G.2.2 198))]) hx hb dX10_restore_19 rfl hl (by decide) rfl (fun ls hl => ?_)
    have hloop20 : ∀ (n : Nat) (v6 : Int32) (σ7 : Mm) (H : Heap) (locs : List Loc) (ls : Array Slot), f_X10_restore_l20   n v6 σ7 = some out → Bd G σ7 s H locs → lv_has ls 2 [(1, .int v6), (0, .ref (G.2.2 198))] → W p l e (headSpec wsX10_restore { frames := 1, cells := 0, slots := 0, locals := 21 }).room s m #[.ref (G.2.2 198)] below meth c H locs 0 0 (MQ below (Qi G s.heap.size out.1 out.2) #[.ref (G.2.2 198)] s 0 0 (AA G s.heap.size)) (F0 m 20 ls []) := by
      intro n
      induction n with
      | zero => intro v6 σ7 H locs ls ho B hl; cases ho
      | succ n ih =>
        intro v6 σ7 H locs ls ho B hl
        refine lv_iload_n hx hb dX10_restore_20 rfl (lv_at hl 0 rfl) ?_
        refine lv_bipush (v := 86) hx hb dX10_restore_21 (by decide) ?_
        refine lv_icmp_ge (tgt := 44) hx hb dX10_restore_23 (by decide) (fun c8 => ?_) (fun c8 => ?_)
        · have ho := ip_ c8 ho
          refine lv_aload_n hx hb dX10_restore_44 rfl (lv_at hl 1 rfl) ?_
          refine lv_iconst (v := 0) hx hb dX10_restore_45 (by decide) ?_
          refine r_put (ci := 14) (C := RX10) (T := TX10) (N := 21) (ty := .int) S F B tyX10 tyX10_ok nmX10 (kq (by decide) : kd 198 = 21 ∧ 198 < NN) (fun _ => rfl) rfl hiX10 5 (by decide) (by decide +kernel) rfl rfl rfl rfl (fun _ => Nat.le_of_ble_eq_true rfl) (fun _ => rfl) dX10_restore_46 (fun H locs B => ?_)
          obtain ⟨σ9, eσ9, ho⟩ := lt_ ho
          rw [← eσ9] at B
          refine lv_aload_n hx hb dX10_restore_49 rfl (lv_at hl 1 rfl) ?_
          refine r_get (ci := 14) (C := RX10) (T := TX10) (N := 21) S F B (kq (by decide) : kd 198 = 21 ∧ 198 < NN) rfl rfl hiX10 0 (by decide) (by decide +kernel) rfl dX10_restore_50 ?_
          refine lv_iconst (v := 1) hx hb dX10_restore_53 (by decide) ?_
          refine r_ialdc (j := 1) S F B (kq (by decide) : kd 199 = 22 ∧ 199 < NN) rfl (vpc (by decide)) (by decide) dX10_restore_54 ?_
          cases ho
          exact e_i B hx hb hr hlocks rfl rfl dX10_restore_55
        · have ho := in_ c8 ho
          refine lv_aload_n hx hb dX10_restore_26 rfl (lv_at hl 1 rfl) ?_
          refine r_get (ci := 14) (C := RX10) (T := TX10) (N := 21) S F B (kq (by decide) : kd 198 = 21 ∧ 198 < NN) rfl rfl hiX10 0 (by decide) (by decide +kernel) rfl dX10_restore_27 ?_
          refine lv_iload_n hx hb dX10_restore_30 rfl (lv_at hl 0 rfl) ?_
          refine lv_aload_n hx hb dX10_restore_31 rfl (lv_at hl 1 rfl) ?_
          refine r_get (ci := 14) (C := RX10) (T := TX10) (N := 21) S F B (kq (by decide) : kd 198 = 21 ∧ 198 < NN) rfl rfl hiX10 2 (by decide) (by decide +kernel) rfl dX10_restore_32 ?_
          refine lv_iload_n hx hb dX10_restore_35 rfl (lv_at hl 0 rfl) ?_
          obtain ⟨hi, ho⟩ := gd_ ho
          refine r_iald S F B (kq (by decide) : kd 201 = 22 ∧ 201 < NN) rfl hi dX10_restore_36 ?_
          obtain ⟨hi, ho⟩ := gd_ ho
          refine r_iast S F B (kq (by decide) : kd 199 = 22 ∧ 199 < NN) (fun _ => rfl) hi dX10_restore_37 (fun H locs B => ?_)
          obtain ⟨σ10, eσ10, ho⟩ := lt_ ho
          rw [← eσ10] at B
          obtain ⟨x11, ex11, ho⟩ := lt_ ho
          refine lv_iinc (v := x11) (lv' := [(1, .int x11), (0, .ref (G.2.2 198))]) hx hb dX10_restore_38 hl (k := 0) rfl (by rw [ex11]; rfl) (by decide) rfl (fun ls hl => ?_)
          refine lv_goto (tgt := 20) hx hb dX10_restore_41 (by decide) ?_
          exact ih _ _ _ _ _ ho B (lv_sub hl [0, 1] rfl)
    exact hloop20 90 _ _ _ _ _ ho B hl
  · have ho := ip_ c2 ho
    refine lv_aload_n hx hb dX10_restore_12 rfl (lv_at hl 0 rfl) ?_
    refine lv_iconst (v := 1) hx hb dX10_restore_13 (by decide) ?_
    obtain ⟨q12, σ13, hq12, ho⟩ := bnm_ ho
    refine k_iV (As := [.int 1]) (rest := []) S F B (c_X10_throwing l G σ1 _ 1 hq12) (kq (by decide) : kd 198 = 21 ∧ 198 < NN) rfl rfl (cwV 1 hts gX10_restore_X10_throwing rfl rfl rfl (by decide +kernel) ⟨Nat.le_of_ble_eq_true rfl, Nat.le_of_ble_eq_true rfl⟩) rfl hl.1 rfl (Nat.le_of_ble_eq_true rfl) dX10_restore_14 ⟨Nat.le_of_ble_eq_true rfl, Nat.le_of_ble_eq_true rfl⟩ (fun H locs B => ?_)
    cases ho
    exact e_i B hx hb hr hlocks rfl rfl dX10_restore_17
