set_option maxHeartbeats 4000000 in
set_option maxRecDepth 100000 in
theorem c_X10_append (l : Launch) (G : Gd) (σ : Mm) (sz : Nat) (a0 : Int32) {out : Int32 × Mm} (ho : f_X10_append a0 σ = some out) : Met l yX10_append wsX10_append { frames := 1, cells := 0, slots := 0, locals := 21 } (va_Pc [.ref (G.2.2 198), .int a0] (PW G σ sz)) (Qi G sz out.1 out.2) 0 0 (AA G sz) := by
  refine Met.ofW (cc := cX10_append) (maxL := 2) (ret := (some .int)) (by decide) rfl ?_
  intro p e s m args below meth c s₁ B0 hml hv
  obtain ⟨rfl, hpw⟩ := hv
  have hsz := hpw.1
  subst hsz
  obtain ⟨F, B⟩ := hpw.to
  have hx := B0.exec
  have hb := B0.bytes
  have hr := B0.returns
  have hts := atoms_spec (ws := wsX10_append) B0.pre
  have hown : s.vm.findClass RX10 = some m.cls := findClass_of_methodNamed B0.named
  have hlocks := B0.notSynchronized
  have S : CallFix p m c cX10_append 2 s _ wsX10_append RX10 := ⟨hx, hb, hml, hown, hts⟩
  have hiX10 : ∀ w ∈ u_ws RX10 TX10 21, w ∈ wsX10_append := by decide +kernel
  have hl := lv_entry [.ref (G.2.2 198), .int a0] (n := 2) (Nat.le_of_ble_eq_true rfl)
  rw [lg_entry_eq]
  generalize (lg_sl [.ref (G.2.2 198), .int a0] ++ List.replicate (2 - (lg_sl [.ref (G.2.2 198), .int a0]).length) Slot.unset).toArray = ls at hl ⊢
  have hl : lv_has ls 2 [(0, .ref (G.2.2 198)), (1, .int a0)] := hl
  unfold f_X10_append at ho
  refine lv_aload_n hx hb dX10_append_0 rfl (lv_at hl 0 rfl) ?_
  refine lv_iconst (v := 0) hx hb dX10_append_1 (by decide) ?_
  refine r_put (ci := 14) (C := RX10) (T := TX10) (N := 21) (ty := .int) S F B tyX10 tyX10_ok nmX10 (kq (by decide) : kd 198 = 21 ∧ 198 < NN) (fun _ => rfl) rfl hiX10 12 (by decide) (by decide +kernel) rfl rfl rfl rfl (fun _ => Nat.le_of_ble_eq_true rfl) (fun _ => rfl) dX10_append_2 (fun H locs B => ?_)
  obtain ⟨σ1, eσ1, ho⟩ := lt_ ho
  rw [← eσ1] at B
  refine lv_aload_n hx hb dX10_append_5 rfl (lv_at hl 0 rfl) ?_
  refine r_get (ci := 14) (C := RX10) (T := TX10) (N := 21) S F B (kq (by decide) : kd 198 = 21 ∧ 198 < NN) rfl rfl hiX10 11 (by decide) (by decide +kernel) rfl dX10_append_6 ?_
  refine lv_bipush (v := 60) hx hb dX10_append_9 (by decide) ?_
  refine lv_icmp_ne (tgt := 20) hx hb dX10_append_11 (by decide) (fun c2 => ?_) (fun c2 => ?_)
  · have ho := in_ c2 ho
    refine lv_aload_n hx hb dX10_append_20 rfl (lv_at hl 0 rfl) ?_
    refine r_get (ci := 14) (C := RX10) (T := TX10) (N := 21) S F B (kq (by decide) : kd 198 = 21 ∧ 198 < NN) rfl rfl hiX10 10 (by decide) (by decide +kernel) rfl dX10_append_21 ?_
    refine lv_aload_n hx hb dX10_append_24 rfl (lv_at hl 0 rfl) ?_
    refine r_get (ci := 14) (C := RX10) (T := TX10) (N := 21) S F B (kq (by decide) : kd 198 = 21 ∧ 198 < NN) rfl rfl hiX10 11 (by decide) (by decide +kernel) rfl dX10_append_25 ?_
    refine lv_iload_n hx hb dX10_append_28 rfl (lv_at hl 1 rfl) ?_
    obtain ⟨hi, ho⟩ := gd_ ho
    refine r_iast S F B (kq (by decide) : kd 203 = 24 ∧ 203 < NN) (fun _ => rfl) hi dX10_append_29 (fun H locs B => ?_)
    obtain ⟨σ3, eσ3, ho⟩ := lt_ ho
    rw [← eσ3] at B
    refine lv_aload_n hx hb dX10_append_30 rfl (lv_at hl 0 rfl) ?_
    refine lv_dup hx hb dX10_append_31 rfl ?_
    refine r_get (ci := 14) (C := RX10) (T := TX10) (N := 21) S F B (kq (by decide) : kd 198 = 21 ∧ 198 < NN) rfl rfl hiX10 11 (by decide) (by decide +kernel) rfl dX10_append_32 ?_
    refine lv_iconst (v := 1) hx hb dX10_append_35 (by decide) ?_
    refine lv_iadd hx hb dX10_append_36 ?_
    refine r_put (ci := 14) (C := RX10) (T := TX10) (N := 21) (ty := .int) S F B tyX10 tyX10_ok nmX10 (kq (by decide) : kd 198 = 21 ∧ 198 < NN) (fun _ => rfl) rfl hiX10 11 (by decide) (by decide +kernel) rfl rfl rfl rfl (fun _ => Nat.le_of_ble_eq_true rfl) (fun _ => rfl) dX10_append_37 (fun H locs B => ?_)
    obtain ⟨σ4, eσ4, ho⟩ := lt_ ho
    rw [← eσ4] at B
    refine lv_aload_n hx hb dX10_append_40 rfl (lv_at hl 0 rfl) ?_
    refine r_get (ci := 14) (C := RX10) (T := TX10) (N := 21) S F B (kq (by decide) : kd 198 = 21 ∧ 198 < NN) rfl rfl hiX10 11 (by decide) (by decide +kernel) rfl dX10_append_41 ?_
    cases ho
    exact e_i B hx hb hr hlocks rfl rfl dX10_append_44
  · have ho := ip_ c2 ho
    refine lv_aload_n hx hb dX10_append_14 rfl (lv_at hl 0 rfl) ?_
    refine lv_iconst (v := 1) hx hb dX10_append_15 (by decide) ?_
    obtain ⟨q5, σ6, hq5, ho⟩ := bnm_ ho
    refine k_iV (As := [.int 1]) (rest := []) S F B (c_X10_throwing l G σ1 _ 1 hq5) (kq (by decide) : kd 198 = 21 ∧ 198 < NN) rfl rfl (cwV 1 hts gX10_append_X10_throwing rfl rfl rfl (by decide +kernel) ⟨Nat.le_of_ble_eq_true rfl, Nat.le_of_ble_eq_true rfl⟩) rfl hl.1 rfl (Nat.le_of_ble_eq_true rfl) dX10_append_16 ⟨Nat.le_of_ble_eq_true rfl, Nat.le_of_ble_eq_true rfl⟩ (fun H locs B => ?_)
    cases ho
    exact e_i B hx hb hr hlocks rfl rfl dX10_append_19

set_option maxHeartbeats 4000000 in
set_option maxRecDepth 100000 in
theorem c_X10_here (l : Launch) (G : Gd) (σ : Mm) (sz : Nat) {out : Int32} (ho : f_X10_here σ = some out) : Met l yX10_here wsX10_here { frames := 0, cells := 0, slots := 0, locals := 0 } (va_Pc [.ref (G.2.2 198)] (PW G σ sz)) (Qi G sz out σ) 0 0 (AA G sz) := by
  refine Met.ofW (cc := cX10_here) (maxL := 1) (ret := (some .int)) (by decide) rfl ?_
  intro p e s m args below meth c s₁ B0 hml hv
  obtain ⟨rfl, hpw⟩ := hv
  have hsz := hpw.1
  subst hsz
  obtain ⟨F, B⟩ := hpw.to
  have hx := B0.exec
  have hb := B0.bytes
  have hr := B0.returns
  have hts := atoms_spec (ws := wsX10_here) B0.pre
  have hown : s.vm.findClass RX10 = some m.cls := findClass_of_methodNamed B0.named
  have hlocks := B0.notSynchronized
  have S : CallFix p m c cX10_here 1 s _ wsX10_here RX10 := ⟨hx, hb, hml, hown, hts⟩
  have hiX10 : ∀ w ∈ u_ws RX10 TX10 21, w ∈ wsX10_here := by decide +kernel
  have hl := lv_entry [.ref (G.2.2 198)] (n := 1) (Nat.le_of_ble_eq_true rfl)
  rw [lg_entry_eq]
  generalize (lg_sl [.ref (G.2.2 198)] ++ List.replicate (1 - (lg_sl [.ref (G.2.2 198)]).length) Slot.unset).toArray = ls at hl ⊢
  have hl : lv_has ls 1 [(0, .ref (G.2.2 198))] := hl
  unfold f_X10_here at ho
  refine lv_aload_n hx hb dX10_here_0 rfl (lv_at hl 0 rfl) ?_
  refine r_get (ci := 14) (C := RX10) (T := TX10) (N := 21) S F B (kq (by decide) : kd 198 = 21 ∧ 198 < NN) rfl rfl hiX10 16 (by decide) (by decide +kernel) rfl dX10_here_1 ?_
  refine lv_aload_n hx hb dX10_here_4 rfl (lv_at hl 0 rfl) ?_
  refine r_get (ci := 14) (C := RX10) (T := TX10) (N := 21) S F B (kq (by decide) : kd 198 = 21 ∧ 198 < NN) rfl rfl hiX10 17 (by decide) (by decide +kernel) rfl dX10_here_5 ?_
  refine lv_icmp_ge (tgt := 23) hx hb dX10_here_8 (by decide) (fun c1 => ?_) (fun c1 => ?_)
  · have ho := ip_ c1 ho
    refine lv_iconst (v := (-1)) hx hb dX10_here_23 (by decide) ?_
    cases ho
    exact e_i B hx hb hr hlocks rfl rfl dX10_here_24
  · have ho := in_ c1 ho
    refine lv_aload_n hx hb dX10_here_11 rfl (lv_at hl 0 rfl) ?_
    refine r_get (ci := 14) (C := RX10) (T := TX10) (N := 21) S F B (kq (by decide) : kd 198 = 21 ∧ 198 < NN) rfl rfl hiX10 10 (by decide) (by decide +kernel) rfl dX10_here_12 ?_
    refine lv_aload_n hx hb dX10_here_15 rfl (lv_at hl 0 rfl) ?_
    refine r_get (ci := 14) (C := RX10) (T := TX10) (N := 21) S F B (kq (by decide) : kd 198 = 21 ∧ 198 < NN) rfl rfl hiX10 16 (by decide) (by decide +kernel) rfl dX10_here_16 ?_
    obtain ⟨hi, ho⟩ := gd_ ho
    refine r_iald S F B (kq (by decide) : kd 203 = 24 ∧ 203 < NN) rfl hi dX10_here_19 ?_
    refine lv_goto (tgt := 24) hx hb dX10_here_20 (by decide) ?_
    cases ho
    exact e_i B hx hb hr hlocks rfl rfl dX10_here_24

set_option maxHeartbeats 4000000 in
set_option maxRecDepth 100000 in
theorem c_X10_expects (l : Launch) (G : Gd) (σ : Mm) (sz : Nat) (a0 : Int32) {out : Mm} (ho : f_X10_expects a0 σ = some out) : Met l yX10_expects wsX10_expects { frames := 0, cells := 0, slots := 0, locals := 0 } (va_Pc [.ref (G.2.2 198), .int a0] (PW G σ sz)) (Qv G sz out) 0 0 (AA G sz) := by
  refine Met.ofW (cc := cX10_expects) (maxL := 2) (ret := none) (by decide) rfl ?_
  intro p e s m args below meth c s₁ B0 hml hv
  obtain ⟨rfl, hpw⟩ := hv
  have hsz := hpw.1
  subst hsz
  obtain ⟨F, B⟩ := hpw.to
  have hx := B0.exec
  have hb := B0.bytes
  have hr := B0.returns
  have hts := atoms_spec (ws := wsX10_expects) B0.pre
  have hown : s.vm.findClass RX10 = some m.cls := findClass_of_methodNamed B0.named
  have hlocks := B0.notSynchronized
  have S : CallFix p m c cX10_expects 2 s _ wsX10_expects RX10 := ⟨hx, hb, hml, hown, hts⟩
  have hiX10 : ∀ w ∈ u_ws RX10 TX10 21, w ∈ wsX10_expects := by decide +kernel
  have hl := lv_entry [.ref (G.2.2 198), .int a0] (n := 2) (Nat.le_of_ble_eq_true rfl)
  rw [lg_entry_eq]
  generalize (lg_sl [.ref (G.2.2 198), .int a0] ++ List.replicate (2 - (lg_sl [.ref (G.2.2 198), .int a0]).length) Slot.unset).toArray = ls at hl ⊢
  have hl : lv_has ls 2 [(0, .ref (G.2.2 198)), (1, .int a0)] := hl
  unfold f_X10_expects at ho
  refine lv_aload_n hx hb dX10_expects_0 rfl (lv_at hl 0 rfl) ?_
  refine lv_aload_n hx hb dX10_expects_1 rfl (lv_at hl 0 rfl) ?_
  refine r_get (ci := 14) (C := RX10) (T := TX10) (N := 21) S F B (kq (by decide) : kd 198 = 21 ∧ 198 < NN) rfl rfl hiX10 18 (by decide) (by decide +kernel) rfl dX10_expects_2 ?_
  refine lv_if_ne (tgt := 12) hx hb dX10_expects_5 (by decide) (fun c1 => ?_) (fun c1 => ?_)
  · have ho := in_ c1 ho
    refine lv_iconst (v := 1) hx hb dX10_expects_12 (by decide) ?_
    refine lv_goto (tgt := 17) hx hb dX10_expects_13 (by decide) ?_
    refine r_put (ci := 14) (C := RX10) (T := TX10) (N := 21) (ty := .boolean) S F B tyX10 tyX10_ok nmX10 (kq (by decide) : kd 198 = 21 ∧ 198 < NN) (fun _ => rfl) rfl hiX10 18 (by decide) (by decide +kernel) rfl rfl rfl rfl (fun _ => Nat.le_of_ble_eq_true rfl) (fun _ => rfl) dX10_expects_17 (fun H locs B => ?_)
    obtain ⟨σ2, eσ2, ho⟩ := lt_ ho
    rw [← eσ2] at B
    refine lv_aload_n hx hb dX10_expects_20 rfl (lv_at hl 0 rfl) ?_
    refine lv_dup hx hb dX10_expects_21 rfl ?_
    refine r_get (ci := 14) (C := RX10) (T := TX10) (N := 21) S F B (kq (by decide) : kd 198 = 21 ∧ 198 < NN) rfl rfl hiX10 16 (by decide) (by decide +kernel) rfl dX10_expects_22 ?_
    refine lv_aload_n hx hb dX10_expects_25 rfl (lv_at hl 0 rfl) ?_
    refine r_get (ci := 14) (C := RX10) (T := TX10) (N := 21) S F B (kq (by decide) : kd 198 = 21 ∧ 198 < NN) rfl rfl hiX10 18 (by decide) (by decide +kernel) rfl dX10_expects_26 ?_
    refine lv_if_eq (tgt := 36) hx hb dX10_expects_29 (by decide) (fun c3 => ?_) (fun c3 => ?_)
    · have ho := ip_ c3 ho
      refine lv_iconst (v := 1) hx hb dX10_expects_36 (by decide) ?_
      refine lv_iadd hx hb dX10_expects_37 ?_
      refine r_put (ci := 14) (C := RX10) (T := TX10) (N := 21) (ty := .int) S F B tyX10 tyX10_ok nmX10 (kq (by decide) : kd 198 = 21 ∧ 198 < NN) (fun _ => rfl) rfl hiX10 16 (by decide) (by decide +kernel) rfl rfl rfl rfl (fun _ => Nat.le_of_ble_eq_true rfl) (fun _ => rfl) dX10_expects_38 (fun H locs B => ?_)
      obtain ⟨σ4, eσ4, ho⟩ := lt_ ho
      rw [← eσ4] at B
      cases ho
      exact e_v B hx hb hr hlocks dX10_expects_41
    · have ho := in_ c3 ho
      refine lv_iconst (v := 0) hx hb dX10_expects_32 (by decide) ?_
      refine lv_goto (tgt := 37) hx hb dX10_expects_33 (by decide) ?_
      refine lv_iadd hx hb dX10_expects_37 ?_
      refine r_put (ci := 14) (C := RX10) (T := TX10) (N := 21) (ty := .int) S F B tyX10 tyX10_ok nmX10 (kq (by decide) : kd 198 = 21 ∧ 198 < NN) (fun _ => rfl) rfl hiX10 16 (by decide) (by decide +kernel) rfl rfl rfl rfl (fun _ => Nat.le_of_ble_eq_true rfl) (fun _ => rfl) dX10_expects_38 (fun H locs B => ?_)
      obtain ⟨σ5, eσ5, ho⟩ := lt_ ho
      rw [← eσ5] at B
      cases ho
      exact e_v B hx hb hr hlocks dX10_expects_41
  · have ho := ip_ c1 ho
    refine lv_iload_n hx hb dX10_expects_8 rfl (lv_at hl 1 rfl) ?_
    refine lv_if_ne (tgt := 16) hx hb dX10_expects_9 (by decide) (fun c6 => ?_) (fun c6 => ?_)
    · have ho := in_ c6 ho
      refine lv_iconst (v := 0) hx hb dX10_expects_16 (by decide) ?_
      refine r_put (ci := 14) (C := RX10) (T := TX10) (N := 21) (ty := .boolean) S F B tyX10 tyX10_ok nmX10 (kq (by decide) : kd 198 = 21 ∧ 198 < NN) (fun _ => rfl) rfl hiX10 18 (by decide) (by decide +kernel) rfl rfl rfl rfl (fun _ => Nat.le_of_ble_eq_true rfl) (fun _ => rfl) dX10_expects_17 (fun H locs B => ?_)
      obtain ⟨σ7, eσ7, ho⟩ := lt_ ho
      rw [← eσ7] at B
      refine lv_aload_n hx hb dX10_expects_20 rfl (lv_at hl 0 rfl) ?_
      refine lv_dup hx hb dX10_expects_21 rfl ?_
      refine r_get (ci := 14) (C := RX10) (T := TX10) (N := 21) S F B (kq (by decide) : kd 198 = 21 ∧ 198 < NN) rfl rfl hiX10 16 (by decide) (by decide +kernel) rfl dX10_expects_22 ?_
      refine lv_aload_n hx hb dX10_expects_25 rfl (lv_at hl 0 rfl) ?_
      refine r_get (ci := 14) (C := RX10) (T := TX10) (N := 21) S F B (kq (by decide) : kd 198 = 21 ∧ 198 < NN) rfl rfl hiX10 18 (by decide) (by decide +kernel) rfl dX10_expects_26 ?_
      refine lv_if_eq (tgt := 36) hx hb dX10_expects_29 (by decide) (fun c8 => ?_) (fun c8 => ?_)
      · have ho := ip_ c8 ho
        refine lv_iconst (v := 1) hx hb dX10_expects_36 (by decide) ?_
        refine lv_iadd hx hb dX10_expects_37 ?_
        refine r_put (ci := 14) (C := RX10) (T := TX10) (N := 21) (ty := .int) S F B tyX10 tyX10_ok nmX10 (kq (by decide) : kd 198 = 21 ∧ 198 < NN) (fun _ => rfl) rfl hiX10 16 (by decide) (by decide +kernel) rfl rfl rfl rfl (fun _ => Nat.le_of_ble_eq_true rfl) (fun _ => rfl) dX10_expects_38 (fun H locs B => ?_)
        obtain ⟨σ9, eσ9, ho⟩ := lt_ ho
        rw [← eσ9] at B
        cases ho
        exact e_v B hx hb hr hlocks dX10_expects_41
      · have ho := in_ c8 ho
        refine lv_iconst (v := 0) hx hb dX10_expects_32 (by decide) ?_
        refine lv_goto (tgt := 37) hx hb dX10_expects_33 (by decide) ?_
        refine lv_iadd hx hb dX10_expects_37 ?_
        refine r_put (ci := 14) (C := RX10) (T := TX10) (N := 21) (ty := .int) S F B tyX10 tyX10_ok nmX10 (kq (by decide) : kd 198 = 21 ∧ 198 < NN) (fun _ => rfl) rfl hiX10 16 (by decide) (by decide +kernel) rfl rfl rfl rfl (fun _ => Nat.le_of_ble_eq_true rfl) (fun _ => rfl) dX10_expects_38 (fun H locs B => ?_)
        obtain ⟨σ10, eσ10, ho⟩ := lt_ ho
        rw [← eσ10] at B
        cases ho
        exact e_v B hx hb hr hlocks dX10_expects_41
    · have ho := ip_ c6 ho
      refine lv_iconst (v := 1) hx hb dX10_expects_12 (by decide) ?_
      refine lv_goto (tgt := 17) hx hb dX10_expects_13 (by decide) ?_
      refine r_put (ci := 14) (C := RX10) (T := TX10) (N := 21) (ty := .boolean) S F B tyX10 tyX10_ok nmX10 (kq (by decide) : kd 198 = 21 ∧ 198 < NN) (fun _ => rfl) rfl hiX10 18 (by decide) (by decide +kernel) rfl rfl rfl rfl (fun _ => Nat.le_of_ble_eq_true rfl) (fun _ => rfl) dX10_expects_17 (fun H locs B => ?_)
      obtain ⟨σ11, eσ11, ho⟩ := lt_ ho
      rw [← eσ11] at B
      refine lv_aload_n hx hb dX10_expects_20 rfl (lv_at hl 0 rfl) ?_
      refine lv_dup hx hb dX10_expects_21 rfl ?_
      refine r_get (ci := 14) (C := RX10) (T := TX10) (N := 21) S F B (kq (by decide) : kd 198 = 21 ∧ 198 < NN) rfl rfl hiX10 16 (by decide) (by decide +kernel) rfl dX10_expects_22 ?_
      refine lv_aload_n hx hb dX10_expects_25 rfl (lv_at hl 0 rfl) ?_
      refine r_get (ci := 14) (C := RX10) (T := TX10) (N := 21) S F B (kq (by decide) : kd 198 = 21 ∧ 198 < NN) rfl rfl hiX10 18 (by decide) (by decide +kernel) rfl dX10_expects_26 ?_
      refine lv_if_eq (tgt := 36) hx hb dX10_expects_29 (by decide) (fun c12 => ?_) (fun c12 => ?_)
      · have ho := ip_ c12 ho
        refine lv_iconst (v := 1) hx hb dX10_expects_36 (by decide) ?_
        refine lv_iadd hx hb dX10_expects_37 ?_
        refine r_put (ci := 14) (C := RX10) (T := TX10) (N := 21) (ty := .int) S F B tyX10 tyX10_ok nmX10 (kq (by decide) : kd 198 = 21 ∧ 198 < NN) (fun _ => rfl) rfl hiX10 16 (by decide) (by decide +kernel) rfl rfl rfl rfl (fun _ => Nat.le_of_ble_eq_true rfl) (fun _ => rfl) dX10_expects_38 (fun H locs B => ?_)
        obtain ⟨σ13, eσ13, ho⟩ := lt_ ho
        rw [← eσ13] at B
        cases ho
        exact e_v B hx hb hr hlocks dX10_expects_41
      · have ho := in_ c12 ho
        refine lv_iconst (v := 0) hx hb dX10_expects_32 (by decide) ?_
        refine lv_goto (tgt := 37) hx hb dX10_expects_33 (by decide) ?_
        refine lv_iadd hx hb dX10_expects_37 ?_
        refine r_put (ci := 14) (C := RX10) (T := TX10) (N := 21) (ty := .int) S F B tyX10 tyX10_ok nmX10 (kq (by decide) : kd 198 = 21 ∧ 198 < NN) (fun _ => rfl) rfl hiX10 16 (by decide) (by decide +kernel) rfl rfl rfl rfl (fun _ => Nat.le_of_ble_eq_true rfl) (fun _ => rfl) dX10_expects_38 (fun H locs B => ?_)
        obtain ⟨σ14, eσ14, ho⟩ := lt_ ho
        rw [← eσ14] at B
        cases ho
        exact e_v B hx hb hr hlocks dX10_expects_41

set_option maxHeartbeats 4000000 in
set_option maxRecDepth 100000 in
theorem c_X10_digit (l : Launch) (G : Gd) (σ : Mm) (sz : Nat) {out : Int32 × Mm} (ho : f_X10_digit σ = some out) : Met l yX10_digit wsX10_digit { frames := 1, cells := 0, slots := 0, locals := 25 } (va_Pc [.ref (G.2.2 198)] (PW G σ sz)) (Qi G sz out.1 out.2) 0 0 (AA G sz) := by
  refine Met.ofW (cc := cX10_digit) (maxL := 2) (ret := (some .int)) (by decide) rfl ?_
  intro p e s m args below meth c s₁ B0 hml hv
  obtain ⟨rfl, hpw⟩ := hv
  have hsz := hpw.1
  subst hsz
  obtain ⟨F, B⟩ := hpw.to
  have hx := B0.exec
  have hb := B0.bytes
  have hr := B0.returns
  have hts := atoms_spec (ws := wsX10_digit) B0.pre
  have hown : s.vm.findClass RX10 = some m.cls := findClass_of_methodNamed B0.named
  have hlocks := B0.notSynchronized
  have S : CallFix p m c cX10_digit 2 s _ wsX10_digit RX10 := ⟨hx, hb, hml, hown, hts⟩
  have hiX10 : ∀ w ∈ u_ws RX10 TX10 21, w ∈ wsX10_digit := by decide +kernel
  have hl := lv_entry [.ref (G.2.2 198)] (n := 2) (Nat.le_of_ble_eq_true rfl)
  rw [lg_entry_eq]
  generalize (lg_sl [.ref (G.2.2 198)] ++ List.replicate (2 - (lg_sl [.ref (G.2.2 198)]).length) Slot.unset).toArray = ls at hl ⊢
  have hl : lv_has ls 2 [(0, .ref (G.2.2 198))] := hl
  unfold f_X10_digit at ho
  refine lv_aload_n hx hb dX10_digit_0 rfl (lv_at hl 0 rfl) ?_
  obtain ⟨q1, hq1, ho⟩ := bnd_ ho
  refine k_iV (As := []) (rest := []) S F B (c_X10_here l G σ _ hq1) (kq (by decide) : kd 198 = 21 ∧ 198 < NN) rfl rfl (cwV 0 hts gX10_digit_X10_here rfl rfl rfl (by decide +kernel) ⟨Nat.le_of_ble_eq_true rfl, Nat.le_of_ble_eq_true rfl⟩) rfl hl.1 rfl (Nat.le_of_ble_eq_true rfl) dX10_digit_1 ⟨Nat.le_of_ble_eq_true rfl, Nat.le_of_ble_eq_true rfl⟩ (fun H locs B => ?_)
  refine lv_bipush (v := 48) hx hb dX10_digit_4 (by decide) ?_
  refine lv_isub hx hb dX10_digit_6 ?_
  obtain ⟨x2, ex2, ho⟩ := lt_ ho
  refine lv_nm ex2 ?_
  refine lv_istore_n (lv' := [(1, .int x2), (0, .ref (G.2.2 198))]) hx hb dX10_digit_7 rfl hl (by decide) rfl (fun ls hl => ?_)
  refine lv_aload_n hx hb dX10_digit_8 rfl (lv_at hl 1 rfl) ?_
  refine lv_aload_n hx hb dX10_digit_9 rfl (lv_at hl 1 rfl) ?_
  obtain ⟨q3, hq3, ho⟩ := bnd_ ho
  refine k_iV (As := []) (rest := [.ref (G.2.2 198)]) S F B (c_X10_here l G σ _ hq3) (kq (by decide) : kd 198 = 21 ∧ 198 < NN) rfl rfl (cwV 0 hts gX10_digit_X10_here rfl rfl rfl (by decide +kernel) ⟨Nat.le_of_ble_eq_true rfl, Nat.le_of_ble_eq_true rfl⟩) rfl hl.1 rfl (Nat.le_of_ble_eq_true rfl) dX10_digit_10 ⟨Nat.le_of_ble_eq_true rfl, Nat.le_of_ble_eq_true rfl⟩ (fun H locs B => ?_)
  refine lv_i2l hx hb dX10_digit_13 rfl ?_
  refine lv_ldc2 (v := 48) hx hb hown (hts _ (by decide +kernel)) dX10_digit_14 ?_
  refine lv_ldc2 (v := 57) hx hb hown (hts _ (by decide +kernel)) dX10_digit_17 ?_
  obtain ⟨q4, hq4, ho⟩ := bnd_ ho
  refine k_iS (As := [.long q3.toInt64, .long 48, .long 57]) (rest := [.ref (G.2.2 198)]) S F B (c_X10_in l G σ _ q3.toInt64 48 57 hq4) (va_cwS 3 hts gX10_digit_X10_in rfl rfl rfl (by decide +kernel) ⟨Nat.le_of_ble_eq_true rfl, Nat.le_of_ble_eq_true rfl⟩) rfl hl.1 rfl (Nat.le_of_ble_eq_true rfl) dX10_digit_20 ⟨Nat.le_of_ble_eq_true rfl, Nat.le_of_ble_eq_true rfl⟩ (fun H locs B => ?_)
  obtain ⟨σ6, hq5, ho⟩ := bnd_ ho
  refine k_vV (As := [.int q4]) (rest := []) S F B (c_X10_expects l G σ _ q4 hq5) (kq (by decide) : kd 198 = 21 ∧ 198 < NN) rfl rfl (cwV 1 hts gX10_digit_X10_expects rfl rfl rfl (by decide +kernel) ⟨Nat.le_of_ble_eq_true rfl, Nat.le_of_ble_eq_true rfl⟩) rfl hl.1 rfl (Nat.le_of_ble_eq_true rfl) dX10_digit_23 ⟨Nat.le_of_ble_eq_true rfl, Nat.le_of_ble_eq_true rfl⟩ (fun H locs B => ?_)
  refine lv_aload_n hx hb dX10_digit_26 rfl (lv_at hl 1 rfl) ?_
  refine r_get (ci := 14) (C := RX10) (T := TX10) (N := 21) S F B (kq (by decide) : kd 198 = 21 ∧ 198 < NN) rfl rfl hiX10 18 (by decide) (by decide +kernel) rfl dX10_digit_27 ?_
  refine lv_if_eq (tgt := 37) hx hb dX10_digit_30 (by decide) (fun c7 => ?_) (fun c7 => ?_)
  · have ho := ip_ c7 ho
    refine lv_iload_n hx hb dX10_digit_37 rfl (lv_at hl 0 rfl) ?_
    cases ho
    exact e_i B hx hb hr hlocks rfl rfl dX10_digit_38
  · have ho := in_ c7 ho
    refine lv_iconst (v := 0) hx hb dX10_digit_33 (by decide) ?_
    refine lv_goto (tgt := 38) hx hb dX10_digit_34 (by decide) ?_
    cases ho
    exact e_i B hx hb hr hlocks rfl rfl dX10_digit_38

set_option maxHeartbeats 4000000 in
set_option maxRecDepth 100000 in
theorem c_X10_number (l : Launch) (G : Gd) (σ : Mm) (sz : Nat) {out : Int32 × Mm} (ho : f_X10_number σ = some out) : Met l yX10_number wsX10_number { frames := 2, cells := 0, slots := 0, locals := 46 } (va_Pc [.ref (G.2.2 198)] (PW G σ sz)) (Qi G sz out.1 out.2) 0 0 (AA G sz) := by
  refine Met.ofW (cc := cX10_number) (maxL := 2) (ret := (some .int)) (by decide) rfl ?_
  intro p e s m args below meth c s₁ B0 hml hv
  obtain ⟨rfl, hpw⟩ := hv
  have hsz := hpw.1
  subst hsz
  obtain ⟨F, B⟩ := hpw.to
  have hx := B0.exec
  have hb := B0.bytes
  have hr := B0.returns
  have hts := atoms_spec (ws := wsX10_number) B0.pre
  have hown : s.vm.findClass RX10 = some m.cls := findClass_of_methodNamed B0.named
  have hlocks := B0.notSynchronized
  have S : CallFix p m c cX10_number 2 s _ wsX10_number RX10 := ⟨hx, hb, hml, hown, hts⟩
  have hiX10 : ∀ w ∈ u_ws RX10 TX10 21, w ∈ wsX10_number := by decide +kernel
  have hl := lv_entry [.ref (G.2.2 198)] (n := 2) (Nat.le_of_ble_eq_true rfl)
  rw [lg_entry_eq]
  generalize (lg_sl [.ref (G.2.2 198)] ++ List.replicate (2 - (lg_sl [.ref (G.2.2 198)]).length) Slot.unset).toArray = ls at hl ⊢
  have hl : lv_has ls 2 [(0, .ref (G.2.2 198))] := hl
  unfold f_X10_number at ho
  refine lv_aload_n hx hb dX10_number_0 rfl (lv_at hl 0 rfl) ?_
  obtain ⟨q1, σ2, hq1, ho⟩ := bnm_ ho
  refine k_iV (As := []) (rest := []) S F B (c_X10_digit l G σ _ hq1) (kq (by decide) : kd 198 = 21 ∧ 198 < NN) rfl rfl (cwV 0 hts gX10_number_X10_digit rfl rfl rfl (by decide +kernel) ⟨Nat.le_of_ble_eq_true rfl, Nat.le_of_ble_eq_true rfl⟩) rfl hl.1 rfl (Nat.le_of_ble_eq_true rfl) dX10_number_1 ⟨Nat.le_of_ble_eq_true rfl, Nat.le_of_ble_eq_true rfl⟩ (fun H locs B => ?_)
  refine lv_istore_n (lv' := [(1, .int q1), (0, .ref (G.2.2 198))]) hx hb dX10_number_4 rfl hl (by decide) rfl (fun ls hl => ?_)
  refine lv_aload_n hx hb dX10_number_5 rfl (lv_at hl 1 rfl) ?_
  refine r_get (ci := 14) (C := RX10) (T := TX10) (N := 21) S F B (kq (by decide) : kd 198 = 21 ∧ 198 < NN) rfl rfl hiX10 18 (by decide) (by decide +kernel) rfl dX10_number_6 ?_
  refine lv_if_ne (tgt := 41) hx hb dX10_number_9 (by decide) (fun c3 => ?_) (fun c3 => ?_)
  · have ho := in_ c3 ho
    refine lv_iload_n hx hb dX10_number_41 rfl (lv_at hl 0 rfl) ?_
    cases ho
    exact e_i B hx hb hr hlocks rfl rfl dX10_number_42
  · have ho := ip_ c3 ho
    refine lv_aload_n hx hb dX10_number_12 rfl (lv_at hl 1 rfl) ?_
    obtain ⟨q4, hq4, ho⟩ := bnd_ ho
    refine k_iV (As := []) (rest := []) S F B (c_X10_here l G σ2 _ hq4) (kq (by decide) : kd 198 = 21 ∧ 198 < NN) rfl rfl (cwV 0 hts gX10_number_X10_here rfl rfl rfl (by decide +kernel) ⟨Nat.le_of_ble_eq_true rfl, Nat.le_of_ble_eq_true rfl⟩) rfl hl.1 rfl (Nat.le_of_ble_eq_true rfl) dX10_number_13 ⟨Nat.le_of_ble_eq_true rfl, Nat.le_of_ble_eq_true rfl⟩ (fun H locs B => ?_)
    refine lv_i2l hx hb dX10_number_16 rfl ?_
    refine lv_ldc2 (v := 48) hx hb hown (hts _ (by decide +kernel)) dX10_number_17 ?_
    refine lv_ldc2 (v := 57) hx hb hown (hts _ (by decide +kernel)) dX10_number_20 ?_
    obtain ⟨q5, hq5, ho⟩ := bnd_ ho
    refine k_iS (As := [.long q4.toInt64, .long 48, .long 57]) (rest := []) S F B (c_X10_in l G σ2 _ q4.toInt64 48 57 hq5) (va_cwS 3 hts gX10_number_X10_in rfl rfl rfl (by decide +kernel) ⟨Nat.le_of_ble_eq_true rfl, Nat.le_of_ble_eq_true rfl⟩) rfl hl.1 rfl (Nat.le_of_ble_eq_true rfl) dX10_number_23 ⟨Nat.le_of_ble_eq_true rfl, Nat.le_of_ble_eq_true rfl⟩ (fun H locs B => ?_)
    refine lv_if_eq (tgt := 41) hx hb dX10_number_26 (by decide) (fun c6 => ?_) (fun c6 => ?_)
    · have ho := ip_ c6 ho
      refine lv_iload_n hx hb dX10_number_41 rfl (lv_at hl 0 rfl) ?_
      cases ho
      exact e_i B hx hb hr hlocks rfl rfl dX10_number_42
    · have ho := in_ c6 ho
      refine lv_bipush (v := 10) hx hb dX10_number_29 (by decide) ?_
      refine lv_iload_n hx hb dX10_number_31 rfl (lv_at hl 0 rfl) ?_
      refine lv_imul hx hb dX10_number_32 ?_
      refine lv_aload_n hx hb dX10_number_33 rfl (lv_at hl 1 rfl) ?_
      obtain ⟨q7, σ8, hq7, ho⟩ := bnm_ ho
      refine k_iV (As := []) (rest := [.int (10 * q1)]) S F B (c_X10_digit l G σ2 _ hq7) (kq (by decide) : kd 198 = 21 ∧ 198 < NN) rfl rfl (cwV 0 hts gX10_number_X10_digit rfl rfl rfl (by decide +kernel) ⟨Nat.le_of_ble_eq_true rfl, Nat.le_of_ble_eq_true rfl⟩) rfl hl.1 rfl (Nat.le_of_ble_eq_true rfl) dX10_number_34 ⟨Nat.le_of_ble_eq_true rfl, Nat.le_of_ble_eq_true rfl⟩ (fun H locs B => ?_)
      refine lv_iadd hx hb dX10_number_37 ?_
      refine lv_goto (tgt := 42) hx hb dX10_number_38 (by decide) ?_
      cases ho
      exact e_i B hx hb hr hlocks rfl rfl dX10_number_42

set_option maxHeartbeats 4000000 in
set_option maxRecDepth 100000 in
theorem c_X10_directionOf (l : Launch) (G : Gd) (σ : Mm) (sz : Nat) (a0 : Int32) {out : Int32} (ho : f_X10_directionOf a0 σ = some out) : Met l yX10_directionOf wsX10_directionOf { frames := 0, cells := 0, slots := 0, locals := 0 } (va_Pc [.int a0] (PW G σ sz)) (Qi G sz out σ) 0 0 (AA G sz) := by
  refine Met.ofW (cc := cX10_directionOf) (maxL := 1) (ret := (some .int)) (by decide) rfl ?_
  intro p e s m args below meth c s₁ B0 hml hv
  obtain ⟨rfl, hpw⟩ := hv
  have hsz := hpw.1
  subst hsz
  obtain ⟨F, B⟩ := hpw.to
  have hx := B0.exec
  have hb := B0.bytes
  have hr := B0.returns
  have hts := atoms_spec (ws := wsX10_directionOf) B0.pre
  have hown : s.vm.findClass RX10 = some m.cls := findClass_of_methodNamed B0.named
  have hlocks := B0.notSynchronized
  have S : CallFix p m c cX10_directionOf 1 s _ wsX10_directionOf RX10 := ⟨hx, hb, hml, hown, hts⟩
  have hl := lv_entry [.int a0] (n := 1) (Nat.le_of_ble_eq_true rfl)
  rw [lg_entry_eq]
  generalize (lg_sl [.int a0] ++ List.replicate (1 - (lg_sl [.int a0]).length) Slot.unset).toArray = ls at hl ⊢
  have hl : lv_has ls 1 [(0, .int a0)] := hl
  unfold f_X10_directionOf at ho
  refine lv_iload_n hx hb dX10_directionOf_0 rfl (lv_at hl 0 rfl) ?_
  refine lv_bipush (v := 110) hx hb dX10_directionOf_1 (by decide) ?_
  refine lv_icmp_ne (tgt := 10) hx hb dX10_directionOf_3 (by decide) (fun c1 => ?_) (fun c1 => ?_)
  · have ho := in_ c1 ho
    refine lv_iload_n hx hb dX10_directionOf_10 rfl (lv_at hl 0 rfl) ?_
    refine lv_bipush (v := 101) hx hb dX10_directionOf_11 (by decide) ?_
    refine lv_icmp_ne (tgt := 20) hx hb dX10_directionOf_13 (by decide) (fun c2 => ?_) (fun c2 => ?_)
    · have ho := in_ c2 ho
      refine lv_iload_n hx hb dX10_directionOf_20 rfl (lv_at hl 0 rfl) ?_
      refine lv_bipush (v := 115) hx hb dX10_directionOf_21 (by decide) ?_
      refine lv_icmp_ne (tgt := 30) hx hb dX10_directionOf_23 (by decide) (fun c3 => ?_) (fun c3 => ?_)
      · have ho := in_ c3 ho
        refine lv_iload_n hx hb dX10_directionOf_30 rfl (lv_at hl 0 rfl) ?_
        refine lv_bipush (v := 119) hx hb dX10_directionOf_31 (by decide) ?_
        refine lv_icmp_ne (tgt := 40) hx hb dX10_directionOf_33 (by decide) (fun c4 => ?_) (fun c4 => ?_)
        · have ho := in_ c4 ho
          refine lv_iconst (v := (-1)) hx hb dX10_directionOf_40 (by decide) ?_
          cases ho
          exact e_i B hx hb hr hlocks rfl rfl dX10_directionOf_41
        · have ho := ip_ c4 ho
          refine lv_iconst (v := 3) hx hb dX10_directionOf_36 (by decide) ?_
          refine lv_goto (tgt := 41) hx hb dX10_directionOf_37 (by decide) ?_
          cases ho
          exact e_i B hx hb hr hlocks rfl rfl dX10_directionOf_41
      · have ho := ip_ c3 ho
        refine lv_iconst (v := 2) hx hb dX10_directionOf_26 (by decide) ?_
        refine lv_goto (tgt := 41) hx hb dX10_directionOf_27 (by decide) ?_
        cases ho
        exact e_i B hx hb hr hlocks rfl rfl dX10_directionOf_41
    · have ho := ip_ c2 ho
      refine lv_iconst (v := 1) hx hb dX10_directionOf_16 (by decide) ?_
      refine lv_goto (tgt := 41) hx hb dX10_directionOf_17 (by decide) ?_
      cases ho
      exact e_i B hx hb hr hlocks rfl rfl dX10_directionOf_41
  · have ho := ip_ c1 ho
    refine lv_iconst (v := 0) hx hb dX10_directionOf_6 (by decide) ?_
    refine lv_goto (tgt := 41) hx hb dX10_directionOf_7 (by decide) ?_
    cases ho
    exact e_i B hx hb hr hlocks rfl rfl dX10_directionOf_41

set_option maxHeartbeats 4000000 in
set_option maxRecDepth 100000 in
theorem c_X10_cells (l : Launch) (G : Gd) (σ : Mm) (sz : Nat) (a0 : Int32) {out : Mm} (ho : f_X10_cells a0 σ = some out) : Met l yX10_cells wsX10_cells { frames := 3, cells := 0, slots := 0, locals := 67 } (va_Pc [.ref (G.2.2 198), .int a0] (PW G σ sz)) (Qv G sz out) 0 0 (AA G sz) := by
  refine Met.ofW (cc := cX10_cells) (maxL := 2) (ret := none) (by decide) rfl ?_
  intro p e s m args below meth c s₁ B0 hml hv
  obtain ⟨rfl, hpw⟩ := hv
  have hsz := hpw.1
  subst hsz
  obtain ⟨F, B⟩ := hpw.to
  have hx := B0.exec
  have hb := B0.bytes
  have hr := B0.returns
  have hts := atoms_spec (ws := wsX10_cells) B0.pre
  have hown : s.vm.findClass RX10 = some m.cls := findClass_of_methodNamed B0.named
  have hlocks := B0.notSynchronized
  have S : CallFix p m c cX10_cells 2 s _ wsX10_cells RX10 := ⟨hx, hb, hml, hown, hts⟩
  have hiX10 : ∀ w ∈ u_ws RX10 TX10 21, w ∈ wsX10_cells := by decide +kernel
  have hl := lv_entry [.ref (G.2.2 198), .int a0] (n := 2) (Nat.le_of_ble_eq_true rfl)
  rw [lg_entry_eq]
  generalize (lg_sl [.ref (G.2.2 198), .int a0] ++ List.replicate (2 - (lg_sl [.ref (G.2.2 198), .int a0]).length) Slot.unset).toArray = ls at hl ⊢
  have hl : lv_has ls 2 [(0, .ref (G.2.2 198)), (1, .int a0)] := hl
  unfold f_X10_cells at ho
  refine lv_aload_n hx hb dX10_cells_0 rfl (lv_at hl 0 rfl) ?_
  refine r_get (ci := 14) (C := RX10) (T := TX10) (N := 21) S F B (kq (by decide) : kd 198 = 21 ∧ 198 < NN) rfl rfl hiX10 14 (by decide) (by decide +kernel) rfl dX10_cells_1 ?_
  refine lv_iload_n hx hb dX10_cells_4 rfl (lv_at hl 1 rfl) ?_
  refine lv_aload_n hx hb dX10_cells_5 rfl (lv_at hl 0 rfl) ?_
  obtain ⟨q1, σ2, hq1, ho⟩ := bnm_ ho
  refine k_iV (As := []) (rest := [.int a0, .ref (G.2.2 205)]) S F B (c_X10_number l G σ _ hq1) (kq (by decide) : kd 198 = 21 ∧ 198 < NN) rfl rfl (cwV 0 hts gX10_cells_X10_number rfl rfl rfl (by decide +kernel) ⟨Nat.le_of_ble_eq_true rfl, Nat.le_of_ble_eq_true rfl⟩) rfl hl.1 rfl (Nat.le_of_ble_eq_true rfl) dX10_cells_6 ⟨Nat.le_of_ble_eq_true rfl, Nat.le_of_ble_eq_true rfl⟩ (fun H locs B => ?_)
  obtain ⟨hi, ho⟩ := gd_ ho
  refine r_iast S F B (kq (by decide) : kd 205 = 25 ∧ 205 < NN) (fun _ => rfl) hi dX10_cells_9 (fun H locs B => ?_)
  obtain ⟨σ3, eσ3, ho⟩ := lt_ ho
  rw [← eσ3] at B
  refine lv_aload_n hx hb dX10_cells_10 rfl (lv_at hl 0 rfl) ?_
  refine lv_aload_n hx hb dX10_cells_11 rfl (lv_at hl 0 rfl) ?_
  obtain ⟨q4, hq4, ho⟩ := bnd_ ho
  refine k_iV (As := []) (rest := [.ref (G.2.2 198)]) S F B (c_X10_here l G σ3 _ hq4) (kq (by decide) : kd 198 = 21 ∧ 198 < NN) rfl rfl (cwV 0 hts gX10_cells_X10_here rfl rfl rfl (by decide +kernel) ⟨Nat.le_of_ble_eq_true rfl, Nat.le_of_ble_eq_true rfl⟩) rfl hl.1 rfl (Nat.le_of_ble_eq_true rfl) dX10_cells_12 ⟨Nat.le_of_ble_eq_true rfl, Nat.le_of_ble_eq_true rfl⟩ (fun H locs B => ?_)
  refine lv_bipush (v := 45) hx hb dX10_cells_15 (by decide) ?_
  refine lv_icmp_ne (tgt := 24) hx hb dX10_cells_17 (by decide) (fun c5 => ?_) (fun c5 => ?_)
  · have ho := in_ c5 ho
    refine lv_iconst (v := 0) hx hb dX10_cells_24 (by decide) ?_
    obtain ⟨σ7, hq6, ho⟩ := bnd_ ho
    refine k_vV (As := [.int 0]) (rest := []) S F B (c_X10_expects l G σ3 _ 0 hq6) (kq (by decide) : kd 198 = 21 ∧ 198 < NN) rfl rfl (cwV 1 hts gX10_cells_X10_expects rfl rfl rfl (by decide +kernel) ⟨Nat.le_of_ble_eq_true rfl, Nat.le_of_ble_eq_true rfl⟩) rfl hl.1 rfl (Nat.le_of_ble_eq_true rfl) dX10_cells_25 ⟨Nat.le_of_ble_eq_true rfl, Nat.le_of_ble_eq_true rfl⟩ (fun H locs B => ?_)
    refine lv_aload_n hx hb dX10_cells_28 rfl (lv_at hl 0 rfl) ?_
    refine r_get (ci := 14) (C := RX10) (T := TX10) (N := 21) S F B (kq (by decide) : kd 198 = 21 ∧ 198 < NN) rfl rfl hiX10 14 (by decide) (by decide +kernel) rfl dX10_cells_29 ?_
    refine lv_iload_n hx hb dX10_cells_32 rfl (lv_at hl 1 rfl) ?_
    refine lv_iconst (v := 1) hx hb dX10_cells_33 (by decide) ?_
    refine lv_iadd hx hb dX10_cells_34 ?_
    refine lv_aload_n hx hb dX10_cells_35 rfl (lv_at hl 0 rfl) ?_
    obtain ⟨q8, σ9, hq8, ho⟩ := bnm_ ho
    refine k_iV (As := []) (rest := [.int (a0 + 1), .ref (G.2.2 205)]) S F B (c_X10_number l G σ7 _ hq8) (kq (by decide) : kd 198 = 21 ∧ 198 < NN) rfl rfl (cwV 0 hts gX10_cells_X10_number rfl rfl rfl (by decide +kernel) ⟨Nat.le_of_ble_eq_true rfl, Nat.le_of_ble_eq_true rfl⟩) rfl hl.1 rfl (Nat.le_of_ble_eq_true rfl) dX10_cells_36 ⟨Nat.le_of_ble_eq_true rfl, Nat.le_of_ble_eq_true rfl⟩ (fun H locs B => ?_)
    obtain ⟨hi, ho⟩ := gd_ ho
    refine r_iast S F B (kq (by decide) : kd 205 = 25 ∧ 205 < NN) (fun _ => rfl) hi dX10_cells_39 (fun H locs B => ?_)
    obtain ⟨σ10, eσ10, ho⟩ := lt_ ho
    rw [← eσ10] at B
    cases ho
    exact e_v B hx hb hr hlocks dX10_cells_40
  · have ho := ip_ c5 ho
    refine lv_iconst (v := 1) hx hb dX10_cells_20 (by decide) ?_
    refine lv_goto (tgt := 25) hx hb dX10_cells_21 (by decide) ?_
    obtain ⟨σ12, hq11, ho⟩ := bnd_ ho
    refine k_vV (As := [.int 1]) (rest := []) S F B (c_X10_expects l G σ3 _ 1 hq11) (kq (by decide) : kd 198 = 21 ∧ 198 < NN) rfl rfl (cwV 1 hts gX10_cells_X10_expects rfl rfl rfl (by decide +kernel) ⟨Nat.le_of_ble_eq_true rfl, Nat.le_of_ble_eq_true rfl⟩) rfl hl.1 rfl (Nat.le_of_ble_eq_true rfl) dX10_cells_25 ⟨Nat.le_of_ble_eq_true rfl, Nat.le_of_ble_eq_true rfl⟩ (fun H locs B => ?_)
    refine lv_aload_n hx hb dX10_cells_28 rfl (lv_at hl 0 rfl) ?_
    refine r_get (ci := 14) (C := RX10) (T := TX10) (N := 21) S F B (kq (by decide) : kd 198 = 21 ∧ 198 < NN) rfl rfl hiX10 14 (by decide) (by decide +kernel) rfl dX10_cells_29 ?_
    refine lv_iload_n hx hb dX10_cells_32 rfl (lv_at hl 1 rfl) ?_
    refine lv_iconst (v := 1) hx hb dX10_cells_33 (by decide) ?_
    refine lv_iadd hx hb dX10_cells_34 ?_
    refine lv_aload_n hx hb dX10_cells_35 rfl (lv_at hl 0 rfl) ?_
    obtain ⟨q13, σ14, hq13, ho⟩ := bnm_ ho
    refine k_iV (As := []) (rest := [.int (a0 + 1), .ref (G.2.2 205)]) S F B (c_X10_number l G σ12 _ hq13) (kq (by decide) : kd 198 = 21 ∧ 198 < NN) rfl rfl (cwV 0 hts gX10_cells_X10_number rfl rfl rfl (by decide +kernel) ⟨Nat.le_of_ble_eq_true rfl, Nat.le_of_ble_eq_true rfl⟩) rfl hl.1 rfl (Nat.le_of_ble_eq_true rfl) dX10_cells_36 ⟨Nat.le_of_ble_eq_true rfl, Nat.le_of_ble_eq_true rfl⟩ (fun H locs B => ?_)
    obtain ⟨hi, ho⟩ := gd_ ho
    refine r_iast S F B (kq (by decide) : kd 205 = 25 ∧ 205 < NN) (fun _ => rfl) hi dX10_cells_39 (fun H locs B => ?_)
    obtain ⟨σ15, eσ15, ho⟩ := lt_ ho
    rw [← eσ15] at B
    cases ho
    exact e_v B hx hb hr hlocks dX10_cells_40

