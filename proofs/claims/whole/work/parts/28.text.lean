set_option maxHeartbeats 4000000 in
set_option maxRecDepth 100000 in
theorem c_X0_add (l : Launch) (G : Gd) (σ : Mm) (sz : Nat) (a0 : Int32) {out : Mm} (ho : f_X0_add a0 σ = some out) : Met l yX0_add wsX0_add { frames := 0, cells := 0, slots := 0, locals := 0 } (va_Pc [.ref (G.2.2 162), .int a0] (PW G σ sz)) (Qv G sz out) 0 0 (AA G sz) := by
  refine Met.ofW (cc := cX0_add) (maxL := 2) (ret := none) (by decide) rfl ?_
  intro p e s m args below meth c s₁ B0 hml hv
  obtain ⟨rfl, hpw⟩ := hv
  have hsz := hpw.1
  subst hsz
  obtain ⟨F, B⟩ := hpw.to
  have hx := B0.exec
  have hb := B0.bytes
  have hr := B0.returns
  have hts := atoms_spec (ws := wsX0_add) B0.pre
  have hown : s.vm.findClass RX0 = some m.cls := findClass_of_methodNamed B0.named
  have hlocks := B0.notSynchronized
  have S : CallFix p m c cX0_add 2 s _ wsX0_add RX0 := ⟨hx, hb, hml, hown, hts⟩
  have hiX0 : ∀ w ∈ u_ws RX0 TX0 8, w ∈ wsX0_add := by decide +kernel
  have hl := lv_entry [.ref (G.2.2 162), .int a0] (n := 2) (Nat.le_of_ble_eq_true rfl)
  rw [lg_entry_eq]
  generalize (lg_sl [.ref (G.2.2 162), .int a0] ++ List.replicate (2 - (lg_sl [.ref (G.2.2 162), .int a0]).length) Slot.unset).toArray = ls at hl ⊢
  have hl : lv_has ls 2 [(0, .ref (G.2.2 162)), (1, .int a0)] := hl
  unfold f_X0_add at ho
  refine lv_aload_n hx hb dX0_add_0 rfl (lv_at hl 0 rfl) ?_
  refine r_get (ci := 4) (C := RX0) (T := TX0) (N := 8) S F B (kq (by decide) : kd 162 = 14 ∧ 162 < NN) rfl rfl hiX0 3 (by decide) (by decide +kernel) rfl dX0_add_1 ?_
  refine lv_bipush (v := 60) hx hb dX0_add_4 (by decide) ?_
  refine lv_icmp_ge (tgt := 29) hx hb dX0_add_6 (by decide) (fun c1 => ?_) (fun c1 => ?_)
  · have ho := ip_ c1 ho
    cases ho
    exact e_v B hx hb hr hlocks dX0_add_29
  · have ho := in_ c1 ho
    refine lv_aload_n hx hb dX0_add_9 rfl (lv_at hl 0 rfl) ?_
    refine r_get (ci := 4) (C := RX0) (T := TX0) (N := 8) S F B (kq (by decide) : kd 162 = 14 ∧ 162 < NN) rfl rfl hiX0 0 (by decide) (by decide +kernel) rfl dX0_add_10 ?_
    refine lv_aload_n hx hb dX0_add_13 rfl (lv_at hl 0 rfl) ?_
    refine r_get (ci := 4) (C := RX0) (T := TX0) (N := 8) S F B (kq (by decide) : kd 162 = 14 ∧ 162 < NN) rfl rfl hiX0 3 (by decide) (by decide +kernel) rfl dX0_add_14 ?_
    refine lv_iload_n hx hb dX0_add_17 rfl (lv_at hl 1 rfl) ?_
    obtain ⟨hi, ho⟩ := gd_ ho
    refine r_cast S F B (kq (by decide) : kd 163 = 15 ∧ 163 < NN) (fun _ => rfl) hi dX0_add_18 (fun H locs B => ?_)
    obtain ⟨σ2, eσ2, ho⟩ := lt_ ho
    rw [← eσ2] at B
    refine lv_aload_n hx hb dX0_add_19 rfl (lv_at hl 0 rfl) ?_
    refine lv_dup hx hb dX0_add_20 rfl ?_
    refine r_get (ci := 4) (C := RX0) (T := TX0) (N := 8) S F B (kq (by decide) : kd 162 = 14 ∧ 162 < NN) rfl rfl hiX0 3 (by decide) (by decide +kernel) rfl dX0_add_21 ?_
    refine lv_iconst (v := 1) hx hb dX0_add_24 (by decide) ?_
    refine lv_iadd hx hb dX0_add_25 ?_
    refine r_put (ci := 4) (C := RX0) (T := TX0) (N := 8) (ty := .int) S F B tyX0 tyX0_ok nmX0 (kq (by decide) : kd 162 = 14 ∧ 162 < NN) (fun _ => rfl) rfl hiX0 3 (by decide) (by decide +kernel) rfl rfl rfl rfl (fun _ => Nat.le_of_ble_eq_true rfl) (fun _ => rfl) dX0_add_26 (fun H locs B => ?_)
    obtain ⟨σ3, eσ3, ho⟩ := lt_ ho
    rw [← eσ3] at B
    cases ho
    exact e_v B hx hb hr hlocks dX0_add_29

set_option maxHeartbeats 4000000 in
set_option maxRecDepth 100000 in
theorem c_X0_kindOf (l : Launch) (G : Gd) (σ : Mm) (sz : Nat) (a0 : Int32) {out : Int32} (ho : f_X0_kindOf a0 σ = some out) : Met l yX0_kindOf wsX0_kindOf { frames := 0, cells := 0, slots := 0, locals := 0 } (va_Pc [.ref (G.2.2 162), .int a0] (PW G σ sz)) (Qi G sz out σ) 0 0 (AA G sz) := by
  refine Met.ofW (cc := cX0_kindOf) (maxL := 2) (ret := (some .char)) (by decide) rfl ?_
  intro p e s m args below meth c s₁ B0 hml hv
  obtain ⟨rfl, hpw⟩ := hv
  have hsz := hpw.1
  subst hsz
  obtain ⟨F, B⟩ := hpw.to
  have hx := B0.exec
  have hb := B0.bytes
  have hr := B0.returns
  have hts := atoms_spec (ws := wsX0_kindOf) B0.pre
  have hown : s.vm.findClass RX0 = some m.cls := findClass_of_methodNamed B0.named
  have hlocks := B0.notSynchronized
  have S : CallFix p m c cX0_kindOf 2 s _ wsX0_kindOf RX0 := ⟨hx, hb, hml, hown, hts⟩
  have hiX0 : ∀ w ∈ u_ws RX0 TX0 8, w ∈ wsX0_kindOf := by decide +kernel
  have hl := lv_entry [.ref (G.2.2 162), .int a0] (n := 2) (Nat.le_of_ble_eq_true rfl)
  rw [lg_entry_eq]
  generalize (lg_sl [.ref (G.2.2 162), .int a0] ++ List.replicate (2 - (lg_sl [.ref (G.2.2 162), .int a0]).length) Slot.unset).toArray = ls at hl ⊢
  have hl : lv_has ls 2 [(0, .ref (G.2.2 162)), (1, .int a0)] := hl
  unfold f_X0_kindOf at ho
  refine lv_iload_n hx hb dX0_kindOf_0 rfl (lv_at hl 1 rfl) ?_
  refine lv_if_lt (tgt := 21) hx hb dX0_kindOf_1 (by decide) (fun c1 => ?_) (fun c1 => ?_)
  · have ho := ip_ c1 ho
    refine lv_bipush (v := 32) hx hb dX0_kindOf_21 (by decide) ?_
    cases ho
    exact e_i B hx hb hr hlocks rfl rfl dX0_kindOf_23
  · have ho := in_ c1 ho
    refine lv_iload_n hx hb dX0_kindOf_4 rfl (lv_at hl 1 rfl) ?_
    refine lv_aload_n hx hb dX0_kindOf_5 rfl (lv_at hl 0 rfl) ?_
    refine r_get (ci := 4) (C := RX0) (T := TX0) (N := 8) S F B (kq (by decide) : kd 162 = 14 ∧ 162 < NN) rfl rfl hiX0 5 (by decide) (by decide +kernel) rfl dX0_kindOf_6 ?_
    refine lv_icmp_ge (tgt := 21) hx hb dX0_kindOf_9 (by decide) (fun c2 => ?_) (fun c2 => ?_)
    · have ho := ip_ c2 ho
      refine lv_bipush (v := 32) hx hb dX0_kindOf_21 (by decide) ?_
      cases ho
      exact e_i B hx hb hr hlocks rfl rfl dX0_kindOf_23
    · have ho := in_ c2 ho
      refine lv_aload_n hx hb dX0_kindOf_12 rfl (lv_at hl 0 rfl) ?_
      refine r_get (ci := 4) (C := RX0) (T := TX0) (N := 8) S F B (kq (by decide) : kd 162 = 14 ∧ 162 < NN) rfl rfl hiX0 1 (by decide) (by decide +kernel) rfl dX0_kindOf_13 ?_
      refine lv_iload_n hx hb dX0_kindOf_16 rfl (lv_at hl 1 rfl) ?_
      obtain ⟨hi, ho⟩ := gd_ ho
      refine r_cald S F B (kq (by decide) : kd 164 = 16 ∧ 164 < NN) rfl hi dX0_kindOf_17 ?_
      refine lv_goto (tgt := 23) hx hb dX0_kindOf_18 (by decide) ?_
      obtain ⟨hz, ho⟩ := cz_ ho
      cases ho
      exact e_i B hx hb hr hlocks hz rfl dX0_kindOf_23

set_option maxHeartbeats 4000000 in
set_option maxRecDepth 100000 in
theorem c_X0_numberOf (l : Launch) (G : Gd) (σ : Mm) (sz : Nat) (a0 : Int32) (a1 : Int32) {out : Int32} (ho : f_X0_numberOf a0 a1 σ = some out) : Met l yX0_numberOf wsX0_numberOf { frames := 0, cells := 0, slots := 0, locals := 0 } (va_Pc [.ref (G.2.2 162), .int a0, .int a1] (PW G σ sz)) (Qi G sz out σ) 0 0 (AA G sz) := by
  refine Met.ofW (cc := cX0_numberOf) (maxL := 4) (ret := (some .int)) (by decide) rfl ?_
  intro p e s m args below meth c s₁ B0 hml hv
  obtain ⟨rfl, hpw⟩ := hv
  have hsz := hpw.1
  subst hsz
  obtain ⟨F, B⟩ := hpw.to
  have hx := B0.exec
  have hb := B0.bytes
  have hr := B0.returns
  have hts := atoms_spec (ws := wsX0_numberOf) B0.pre
  have hown : s.vm.findClass RX0 = some m.cls := findClass_of_methodNamed B0.named
  have hlocks := B0.notSynchronized
  have S : CallFix p m c cX0_numberOf 4 s _ wsX0_numberOf RX0 := ⟨hx, hb, hml, hown, hts⟩
  have hiX0 : ∀ w ∈ u_ws RX0 TX0 8, w ∈ wsX0_numberOf := by decide +kernel
  have hl := lv_entry [.ref (G.2.2 162), .int a0, .int a1] (n := 4) (Nat.le_of_ble_eq_true rfl)
  rw [lg_entry_eq]
  generalize (lg_sl [.ref (G.2.2 162), .int a0, .int a1] ++ List.replicate (4 - (lg_sl [.ref (G.2.2 162), .int a0, .int a1]).length) Slot.unset).toArray = ls at hl ⊢
  have hl : lv_has ls 4 [(0, .ref (G.2.2 162)), (1, .int a0), (2, .int a1)] := hl
  unfold f_X0_numberOf at ho
  refine lv_iload_n hx hb dX0_numberOf_0 rfl (lv_at hl 1 rfl) ?_
  refine lv_if_lt (tgt := 25) hx hb dX0_numberOf_1 (by decide) (fun c1 => ?_) (fun c1 => ?_)
  · have ho := ip_ c1 ho
    refine lv_iconst (v := 0) hx hb dX0_numberOf_25 (by decide) ?_
    refine lv_istore_n (lv' := [(3, .int 0), (0, .ref (G.2.2 162)), (1, .int a0), (2, .int a1)]) hx hb dX0_numberOf_26 rfl hl (by decide) rfl (fun ls hl => ?_)
    refine lv_iload_n hx hb dX0_numberOf_27 rfl (lv_at hl 0 rfl) ?_
    refine lv_if_eq (tgt := 42) hx hb dX0_numberOf_28 (by decide) (fun _ => ?_) (fun h => absurd h (by decide))
    refine lv_iconst (v := (-1)) hx hb dX0_numberOf_42 (by decide) ?_
    cases ho
    exact e_i B hx hb hr hlocks rfl rfl dX0_numberOf_43
  · have ho := in_ c1 ho
    refine lv_iload_n hx hb dX0_numberOf_4 rfl (lv_at hl 1 rfl) ?_
    refine lv_aload_n hx hb dX0_numberOf_5 rfl (lv_at hl 0 rfl) ?_
    refine r_get (ci := 4) (C := RX0) (T := TX0) (N := 8) S F B (kq (by decide) : kd 162 = 14 ∧ 162 < NN) rfl rfl hiX0 5 (by decide) (by decide +kernel) rfl dX0_numberOf_6 ?_
    refine lv_icmp_ge (tgt := 25) hx hb dX0_numberOf_9 (by decide) (fun c2 => ?_) (fun c2 => ?_)
    · have ho := ip_ c2 ho
      refine lv_iconst (v := 0) hx hb dX0_numberOf_25 (by decide) ?_
      refine lv_istore_n (lv' := [(3, .int 0), (0, .ref (G.2.2 162)), (1, .int a0), (2, .int a1)]) hx hb dX0_numberOf_26 rfl hl (by decide) rfl (fun ls hl => ?_)
      refine lv_iload_n hx hb dX0_numberOf_27 rfl (lv_at hl 0 rfl) ?_
      refine lv_if_eq (tgt := 42) hx hb dX0_numberOf_28 (by decide) (fun _ => ?_) (fun h => absurd h (by decide))
      refine lv_iconst (v := (-1)) hx hb dX0_numberOf_42 (by decide) ?_
      cases ho
      exact e_i B hx hb hr hlocks rfl rfl dX0_numberOf_43
    · have ho := in_ c2 ho
      refine lv_iload_n hx hb dX0_numberOf_12 rfl (lv_at hl 2 rfl) ?_
      refine lv_if_lt (tgt := 25) hx hb dX0_numberOf_13 (by decide) (fun c3 => ?_) (fun c3 => ?_)
      · have ho := ip_ c3 ho
        refine lv_iconst (v := 0) hx hb dX0_numberOf_25 (by decide) ?_
        refine lv_istore_n (lv' := [(3, .int 0), (0, .ref (G.2.2 162)), (1, .int a0), (2, .int a1)]) hx hb dX0_numberOf_26 rfl hl (by decide) rfl (fun ls hl => ?_)
        refine lv_iload_n hx hb dX0_numberOf_27 rfl (lv_at hl 0 rfl) ?_
        refine lv_if_eq (tgt := 42) hx hb dX0_numberOf_28 (by decide) (fun _ => ?_) (fun h => absurd h (by decide))
        refine lv_iconst (v := (-1)) hx hb dX0_numberOf_42 (by decide) ?_
        cases ho
        exact e_i B hx hb hr hlocks rfl rfl dX0_numberOf_43
      · have ho := in_ c3 ho
        refine lv_iload_n hx hb dX0_numberOf_16 rfl (lv_at hl 2 rfl) ?_
        refine lv_iconst (v := 3) hx hb dX0_numberOf_17 (by decide) ?_
        refine lv_icmp_ge (tgt := 25) hx hb dX0_numberOf_18 (by decide) (fun c4 => ?_) (fun c4 => ?_)
        · have ho := ip_ c4 ho
          refine lv_iconst (v := 0) hx hb dX0_numberOf_25 (by decide) ?_
          refine lv_istore_n (lv' := [(3, .int 0), (0, .ref (G.2.2 162)), (1, .int a0), (2, .int a1)]) hx hb dX0_numberOf_26 rfl hl (by decide) rfl (fun ls hl => ?_)
          refine lv_iload_n hx hb dX0_numberOf_27 rfl (lv_at hl 0 rfl) ?_
          refine lv_if_eq (tgt := 42) hx hb dX0_numberOf_28 (by decide) (fun _ => ?_) (fun h => absurd h (by decide))
          refine lv_iconst (v := (-1)) hx hb dX0_numberOf_42 (by decide) ?_
          cases ho
          exact e_i B hx hb hr hlocks rfl rfl dX0_numberOf_43
        · have ho := in_ c4 ho
          refine lv_iconst (v := 1) hx hb dX0_numberOf_21 (by decide) ?_
          refine lv_goto (tgt := 26) hx hb dX0_numberOf_22 (by decide) ?_
          refine lv_istore_n (lv' := [(3, .int 1), (0, .ref (G.2.2 162)), (1, .int a0), (2, .int a1)]) hx hb dX0_numberOf_26 rfl hl (by decide) rfl (fun ls hl => ?_)
          refine lv_iload_n hx hb dX0_numberOf_27 rfl (lv_at hl 0 rfl) ?_
          refine lv_if_eq (tgt := 42) hx hb dX0_numberOf_28 (by decide) (fun h => absurd h (by decide)) (fun _ => ?_)
          refine lv_aload_n hx hb dX0_numberOf_31 rfl (lv_at hl 1 rfl) ?_
          refine r_get (ci := 4) (C := RX0) (T := TX0) (N := 8) S F B (kq (by decide) : kd 162 = 14 ∧ 162 < NN) rfl rfl hiX0 2 (by decide) (by decide +kernel) rfl dX0_numberOf_32 ?_
          refine lv_iload_n hx hb dX0_numberOf_35 rfl (lv_at hl 2 rfl) ?_
          obtain ⟨i5, ho⟩ := gd_ ho
          refine r_aaldA (t := 6) S F B (kq (by decide) : kd 165 = 17 ∧ 165 < NN) rfl rfl i5 dX0_numberOf_36 ?_
          refine lv_iload_n hx hb dX0_numberOf_37 rfl (lv_at hl 3 rfl) ?_
          obtain ⟨hi, ho⟩ := gd_ ho
          refine r_iald S F B (kgN i5 : kd (166 + a0.toNatClampNeg) = 18 ∧ (166 + a0.toNatClampNeg) < NN) rfl hi dX0_numberOf_38 ?_
          refine lv_goto (tgt := 43) hx hb dX0_numberOf_39 (by decide) ?_
          cases ho
          exact e_i B hx hb hr hlocks rfl rfl dX0_numberOf_43

set_option maxHeartbeats 4000000 in
set_option maxRecDepth 100000 in
theorem c_X0_takeSign (l : Launch) (G : Gd) (σ : Mm) (sz : Nat) (a0 : Int32) {out : Int32 × Mm} (ho : f_X0_takeSign a0 σ = some out) : Met l yX0_takeSign wsX0_takeSign { frames := 0, cells := 0, slots := 0, locals := 0 } (va_Pc [.ref (G.2.2 162), .int a0] (PW G σ sz)) (Qi G sz out.1 out.2) 0 0 (AA G sz) := by
  refine Met.ofW (cc := cX0_takeSign) (maxL := 2) (ret := (some .boolean)) (by decide) rfl ?_
  intro p e s m args below meth c s₁ B0 hml hv
  obtain ⟨rfl, hpw⟩ := hv
  have hsz := hpw.1
  subst hsz
  obtain ⟨F, B⟩ := hpw.to
  have hx := B0.exec
  have hb := B0.bytes
  have hr := B0.returns
  have hts := atoms_spec (ws := wsX0_takeSign) B0.pre
  have hown : s.vm.findClass RX0 = some m.cls := findClass_of_methodNamed B0.named
  have hlocks := B0.notSynchronized
  have S : CallFix p m c cX0_takeSign 2 s _ wsX0_takeSign RX0 := ⟨hx, hb, hml, hown, hts⟩
  have hiX0 : ∀ w ∈ u_ws RX0 TX0 8, w ∈ wsX0_takeSign := by decide +kernel
  have hl := lv_entry [.ref (G.2.2 162), .int a0] (n := 2) (Nat.le_of_ble_eq_true rfl)
  rw [lg_entry_eq]
  generalize (lg_sl [.ref (G.2.2 162), .int a0] ++ List.replicate (2 - (lg_sl [.ref (G.2.2 162), .int a0]).length) Slot.unset).toArray = ls at hl ⊢
  have hl : lv_has ls 2 [(0, .ref (G.2.2 162)), (1, .int a0)] := hl
  unfold f_X0_takeSign at ho
  refine lv_aload_n hx hb dX0_takeSign_0 rfl (lv_at hl 0 rfl) ?_
  refine r_get (ci := 4) (C := RX0) (T := TX0) (N := 8) S F B (kq (by decide) : kd 162 = 14 ∧ 162 < NN) rfl rfl hiX0 4 (by decide) (by decide +kernel) rfl dX0_takeSign_1 ?_
  refine lv_aload_n hx hb dX0_takeSign_4 rfl (lv_at hl 0 rfl) ?_
  refine r_get (ci := 4) (C := RX0) (T := TX0) (N := 8) S F B (kq (by decide) : kd 162 = 14 ∧ 162 < NN) rfl rfl hiX0 3 (by decide) (by decide +kernel) rfl dX0_takeSign_5 ?_
  refine lv_icmp_ge (tgt := 24) hx hb dX0_takeSign_8 (by decide) (fun c1 => ?_) (fun c1 => ?_)
  · have ho := ip_ c1 ho
    refine lv_iconst (v := 0) hx hb dX0_takeSign_24 (by decide) ?_
    cases ho
    exact e_i B hx hb hr hlocks rfl rfl dX0_takeSign_25
  · have ho := in_ c1 ho
    refine lv_aload_n hx hb dX0_takeSign_11 rfl (lv_at hl 0 rfl) ?_
    refine r_get (ci := 4) (C := RX0) (T := TX0) (N := 8) S F B (kq (by decide) : kd 162 = 14 ∧ 162 < NN) rfl rfl hiX0 0 (by decide) (by decide +kernel) rfl dX0_takeSign_12 ?_
    refine lv_aload_n hx hb dX0_takeSign_15 rfl (lv_at hl 0 rfl) ?_
    refine r_get (ci := 4) (C := RX0) (T := TX0) (N := 8) S F B (kq (by decide) : kd 162 = 14 ∧ 162 < NN) rfl rfl hiX0 4 (by decide) (by decide +kernel) rfl dX0_takeSign_16 ?_
    obtain ⟨hi, ho⟩ := gd_ ho
    refine r_cald S F B (kq (by decide) : kd 163 = 15 ∧ 163 < NN) rfl hi dX0_takeSign_19 ?_
    refine lv_iload_n hx hb dX0_takeSign_20 rfl (lv_at hl 1 rfl) ?_
    refine lv_icmp_eq (tgt := 26) hx hb dX0_takeSign_21 (by decide) (fun c2 => ?_) (fun c2 => ?_)
    · have ho := ip_ c2 ho
      refine lv_aload_n hx hb dX0_takeSign_26 rfl (lv_at hl 0 rfl) ?_
      refine lv_dup hx hb dX0_takeSign_27 rfl ?_
      refine r_get (ci := 4) (C := RX0) (T := TX0) (N := 8) S F B (kq (by decide) : kd 162 = 14 ∧ 162 < NN) rfl rfl hiX0 4 (by decide) (by decide +kernel) rfl dX0_takeSign_28 ?_
      refine lv_iconst (v := 1) hx hb dX0_takeSign_31 (by decide) ?_
      refine lv_iadd hx hb dX0_takeSign_32 ?_
      refine r_put (ci := 4) (C := RX0) (T := TX0) (N := 8) (ty := .int) S F B tyX0 tyX0_ok nmX0 (kq (by decide) : kd 162 = 14 ∧ 162 < NN) (fun _ => rfl) rfl hiX0 4 (by decide) (by decide +kernel) rfl rfl rfl rfl (fun _ => Nat.le_of_ble_eq_true rfl) (fun _ => rfl) dX0_takeSign_33 (fun H locs B => ?_)
      obtain ⟨σ3, eσ3, ho⟩ := lt_ ho
      rw [← eσ3] at B
      refine lv_iconst (v := 1) hx hb dX0_takeSign_36 (by decide) ?_
      cases ho
      exact e_i B hx hb hr hlocks rfl rfl dX0_takeSign_37
    · have ho := in_ c2 ho
      refine lv_iconst (v := 0) hx hb dX0_takeSign_24 (by decide) ?_
      cases ho
      exact e_i B hx hb hr hlocks rfl rfl dX0_takeSign_25

set_option maxHeartbeats 4000000 in
set_option maxRecDepth 100000 in
theorem c_X0_isAtDigit (l : Launch) (G : Gd) (σ : Mm) (sz : Nat) {out : Int32} (ho : f_X0_isAtDigit σ = some out) : Met l yX0_isAtDigit wsX0_isAtDigit { frames := 0, cells := 0, slots := 0, locals := 0 } (va_Pc [.ref (G.2.2 162)] (PW G σ sz)) (Qi G sz out σ) 0 0 (AA G sz) := by
  refine Met.ofW (cc := cX0_isAtDigit) (maxL := 1) (ret := (some .boolean)) (by decide) rfl ?_
  intro p e s m args below meth c s₁ B0 hml hv
  obtain ⟨rfl, hpw⟩ := hv
  have hsz := hpw.1
  subst hsz
  obtain ⟨F, B⟩ := hpw.to
  have hx := B0.exec
  have hb := B0.bytes
  have hr := B0.returns
  have hts := atoms_spec (ws := wsX0_isAtDigit) B0.pre
  have hown : s.vm.findClass RX0 = some m.cls := findClass_of_methodNamed B0.named
  have hlocks := B0.notSynchronized
  have S : CallFix p m c cX0_isAtDigit 1 s _ wsX0_isAtDigit RX0 := ⟨hx, hb, hml, hown, hts⟩
  have hiX0 : ∀ w ∈ u_ws RX0 TX0 8, w ∈ wsX0_isAtDigit := by decide +kernel
  have hl := lv_entry [.ref (G.2.2 162)] (n := 1) (Nat.le_of_ble_eq_true rfl)
  rw [lg_entry_eq]
  generalize (lg_sl [.ref (G.2.2 162)] ++ List.replicate (1 - (lg_sl [.ref (G.2.2 162)]).length) Slot.unset).toArray = ls at hl ⊢
  have hl : lv_has ls 1 [(0, .ref (G.2.2 162))] := hl
  unfold f_X0_isAtDigit at ho
  refine lv_aload_n hx hb dX0_isAtDigit_0 rfl (lv_at hl 0 rfl) ?_
  refine r_get (ci := 4) (C := RX0) (T := TX0) (N := 8) S F B (kq (by decide) : kd 162 = 14 ∧ 162 < NN) rfl rfl hiX0 4 (by decide) (by decide +kernel) rfl dX0_isAtDigit_1 ?_
  refine lv_aload_n hx hb dX0_isAtDigit_4 rfl (lv_at hl 0 rfl) ?_
  refine r_get (ci := 4) (C := RX0) (T := TX0) (N := 8) S F B (kq (by decide) : kd 162 = 14 ∧ 162 < NN) rfl rfl hiX0 3 (by decide) (by decide +kernel) rfl dX0_isAtDigit_5 ?_
  refine lv_icmp_ge (tgt := 43) hx hb dX0_isAtDigit_8 (by decide) (fun c1 => ?_) (fun c1 => ?_)
  · have ho := ip_ c1 ho
    refine lv_iconst (v := 0) hx hb dX0_isAtDigit_43 (by decide) ?_
    cases ho
    exact e_i B hx hb hr hlocks rfl rfl dX0_isAtDigit_44
  · have ho := in_ c1 ho
    refine lv_aload_n hx hb dX0_isAtDigit_11 rfl (lv_at hl 0 rfl) ?_
    refine r_get (ci := 4) (C := RX0) (T := TX0) (N := 8) S F B (kq (by decide) : kd 162 = 14 ∧ 162 < NN) rfl rfl hiX0 0 (by decide) (by decide +kernel) rfl dX0_isAtDigit_12 ?_
    refine lv_aload_n hx hb dX0_isAtDigit_15 rfl (lv_at hl 0 rfl) ?_
    refine r_get (ci := 4) (C := RX0) (T := TX0) (N := 8) S F B (kq (by decide) : kd 162 = 14 ∧ 162 < NN) rfl rfl hiX0 4 (by decide) (by decide +kernel) rfl dX0_isAtDigit_16 ?_
    obtain ⟨hi, ho⟩ := gd_ ho
    refine r_cald S F B (kq (by decide) : kd 163 = 15 ∧ 163 < NN) rfl hi dX0_isAtDigit_19 ?_
    refine lv_bipush (v := 48) hx hb dX0_isAtDigit_20 (by decide) ?_
    refine lv_icmp_lt (tgt := 43) hx hb dX0_isAtDigit_22 (by decide) (fun c2 => ?_) (fun c2 => ?_)
    · have ho := ip_ c2 ho
      refine lv_iconst (v := 0) hx hb dX0_isAtDigit_43 (by decide) ?_
      cases ho
      exact e_i B hx hb hr hlocks rfl rfl dX0_isAtDigit_44
    · have ho := in_ c2 ho
      refine lv_aload_n hx hb dX0_isAtDigit_25 rfl (lv_at hl 0 rfl) ?_
      refine r_get (ci := 4) (C := RX0) (T := TX0) (N := 8) S F B (kq (by decide) : kd 162 = 14 ∧ 162 < NN) rfl rfl hiX0 0 (by decide) (by decide +kernel) rfl dX0_isAtDigit_26 ?_
      refine lv_aload_n hx hb dX0_isAtDigit_29 rfl (lv_at hl 0 rfl) ?_
      refine r_get (ci := 4) (C := RX0) (T := TX0) (N := 8) S F B (kq (by decide) : kd 162 = 14 ∧ 162 < NN) rfl rfl hiX0 4 (by decide) (by decide +kernel) rfl dX0_isAtDigit_30 ?_
      obtain ⟨hi, ho⟩ := gd_ ho
      refine r_cald S F B (kq (by decide) : kd 163 = 15 ∧ 163 < NN) rfl hi dX0_isAtDigit_33 ?_
      refine lv_bipush (v := 57) hx hb dX0_isAtDigit_34 (by decide) ?_
      refine lv_icmp_gt (tgt := 43) hx hb dX0_isAtDigit_36 (by decide) (fun c3 => ?_) (fun c3 => ?_)
      · have ho := ip_ c3 ho
        refine lv_iconst (v := 0) hx hb dX0_isAtDigit_43 (by decide) ?_
        cases ho
        exact e_i B hx hb hr hlocks rfl rfl dX0_isAtDigit_44
      · have ho := in_ c3 ho
        refine lv_iconst (v := 1) hx hb dX0_isAtDigit_39 (by decide) ?_
        refine lv_goto (tgt := 44) hx hb dX0_isAtDigit_40 (by decide) ?_
        cases ho
        exact e_i B hx hb hr hlocks rfl rfl dX0_isAtDigit_44

set_option maxHeartbeats 4000000 in
set_option maxRecDepth 100000 in
theorem c_X0_keepNumber (l : Launch) (G : Gd) (σ : Mm) (sz : Nat) (a0 : Int32) {out : Int32 × Mm} (ho : f_X0_keepNumber a0 σ = some out) : Met l yX0_keepNumber wsX0_keepNumber { frames := 0, cells := 0, slots := 0, locals := 0 } (va_Pc [.ref (G.2.2 162), .int a0] (PW G σ sz)) (Qi G sz out.1 out.2) 0 0 (AA G sz) := by
  refine Met.ofW (cc := cX0_keepNumber) (maxL := 2) (ret := (some .boolean)) (by decide) rfl ?_
  intro p e s m args below meth c s₁ B0 hml hv
  obtain ⟨rfl, hpw⟩ := hv
  have hsz := hpw.1
  subst hsz
  obtain ⟨F, B⟩ := hpw.to
  have hx := B0.exec
  have hb := B0.bytes
  have hr := B0.returns
  have hts := atoms_spec (ws := wsX0_keepNumber) B0.pre
  have hown : s.vm.findClass RX0 = some m.cls := findClass_of_methodNamed B0.named
  have hlocks := B0.notSynchronized
  have S : CallFix p m c cX0_keepNumber 2 s _ wsX0_keepNumber RX0 := ⟨hx, hb, hml, hown, hts⟩
  have hiX0 : ∀ w ∈ u_ws RX0 TX0 8, w ∈ wsX0_keepNumber := by decide +kernel
  have hl := lv_entry [.ref (G.2.2 162), .int a0] (n := 2) (Nat.le_of_ble_eq_true rfl)
  rw [lg_entry_eq]
  generalize (lg_sl [.ref (G.2.2 162), .int a0] ++ List.replicate (2 - (lg_sl [.ref (G.2.2 162), .int a0]).length) Slot.unset).toArray = ls at hl ⊢
  have hl : lv_has ls 2 [(0, .ref (G.2.2 162)), (1, .int a0)] := hl
  unfold f_X0_keepNumber at ho
  refine lv_aload_n hx hb dX0_keepNumber_0 rfl (lv_at hl 0 rfl) ?_
  refine r_get (ci := 4) (C := RX0) (T := TX0) (N := 8) S F B (kq (by decide) : kd 162 = 14 ∧ 162 < NN) rfl rfl hiX0 5 (by decide) (by decide +kernel) rfl dX0_keepNumber_1 ?_
  refine lv_bipush (v := 30) hx hb dX0_keepNumber_4 (by decide) ?_
  refine lv_icmp_ge (tgt := 17) hx hb dX0_keepNumber_6 (by decide) (fun c1 => ?_) (fun c1 => ?_)
  · have ho := ip_ c1 ho
    refine lv_iconst (v := 0) hx hb dX0_keepNumber_17 (by decide) ?_
    cases ho
    exact e_i B hx hb hr hlocks rfl rfl dX0_keepNumber_18
  · have ho := in_ c1 ho
    refine lv_aload_n hx hb dX0_keepNumber_9 rfl (lv_at hl 0 rfl) ?_
    refine r_get (ci := 4) (C := RX0) (T := TX0) (N := 8) S F B (kq (by decide) : kd 162 = 14 ∧ 162 < NN) rfl rfl hiX0 6 (by decide) (by decide +kernel) rfl dX0_keepNumber_10 ?_
    refine lv_iconst (v := 3) hx hb dX0_keepNumber_13 (by decide) ?_
    refine lv_icmp_lt (tgt := 19) hx hb dX0_keepNumber_14 (by decide) (fun c2 => ?_) (fun c2 => ?_)
    · have ho := ip_ c2 ho
      refine lv_aload_n hx hb dX0_keepNumber_19 rfl (lv_at hl 0 rfl) ?_
      refine r_get (ci := 4) (C := RX0) (T := TX0) (N := 8) S F B (kq (by decide) : kd 162 = 14 ∧ 162 < NN) rfl rfl hiX0 2 (by decide) (by decide +kernel) rfl dX0_keepNumber_20 ?_
      refine lv_aload_n hx hb dX0_keepNumber_23 rfl (lv_at hl 0 rfl) ?_
      refine r_get (ci := 4) (C := RX0) (T := TX0) (N := 8) S F B (kq (by decide) : kd 162 = 14 ∧ 162 < NN) rfl rfl hiX0 5 (by decide) (by decide +kernel) rfl dX0_keepNumber_24 ?_
      obtain ⟨i3, ho⟩ := gd_ ho
      refine r_aaldA (t := 6) S F B (kq (by decide) : kd 165 = 17 ∧ 165 < NN) rfl rfl i3 dX0_keepNumber_27 ?_
      refine lv_aload_n hx hb dX0_keepNumber_28 rfl (lv_at hl 0 rfl) ?_
      refine r_get (ci := 4) (C := RX0) (T := TX0) (N := 8) S F B (kq (by decide) : kd 162 = 14 ∧ 162 < NN) rfl rfl hiX0 6 (by decide) (by decide +kernel) rfl dX0_keepNumber_29 ?_
      refine lv_iload_n hx hb dX0_keepNumber_32 rfl (lv_at hl 1 rfl) ?_
      obtain ⟨hi, ho⟩ := gd_ ho
      refine r_iast S F B (kgN i3 : kd (166 + (σ 162 5).toNatClampNeg) = 18 ∧ (166 + (σ 162 5).toNatClampNeg) < NN) (fun _ => rfl) hi dX0_keepNumber_33 (fun H locs B => ?_)
      obtain ⟨σ4, eσ4, ho⟩ := lt_ ho
      rw [← eσ4] at B
      refine lv_aload_n hx hb dX0_keepNumber_34 rfl (lv_at hl 0 rfl) ?_
      refine lv_dup hx hb dX0_keepNumber_35 rfl ?_
      refine r_get (ci := 4) (C := RX0) (T := TX0) (N := 8) S F B (kq (by decide) : kd 162 = 14 ∧ 162 < NN) rfl rfl hiX0 6 (by decide) (by decide +kernel) rfl dX0_keepNumber_36 ?_
      refine lv_iconst (v := 1) hx hb dX0_keepNumber_39 (by decide) ?_
      refine lv_iadd hx hb dX0_keepNumber_40 ?_
      refine r_put (ci := 4) (C := RX0) (T := TX0) (N := 8) (ty := .int) S F B tyX0 tyX0_ok nmX0 (kq (by decide) : kd 162 = 14 ∧ 162 < NN) (fun _ => rfl) rfl hiX0 6 (by decide) (by decide +kernel) rfl rfl rfl rfl (fun _ => Nat.le_of_ble_eq_true rfl) (fun _ => rfl) dX0_keepNumber_41 (fun H locs B => ?_)
      obtain ⟨σ5, eσ5, ho⟩ := lt_ ho
      rw [← eσ5] at B
      refine lv_iconst (v := 1) hx hb dX0_keepNumber_44 (by decide) ?_
      cases ho
      exact e_i B hx hb hr hlocks rfl rfl dX0_keepNumber_45
    · have ho := in_ c2 ho
      refine lv_iconst (v := 0) hx hb dX0_keepNumber_17 (by decide) ?_
      cases ho
      exact e_i B hx hb hr hlocks rfl rfl dX0_keepNumber_18

set_option maxHeartbeats 4000000 in
set_option maxRecDepth 100000 in
theorem c_X0_readNumber (l : Launch) (G : Gd) (σ : Mm) (sz : Nat) (a0 : Int32) {out : Int32 × Mm} (ho : f_X0_readNumber a0 σ = some out) : Met l yX0_readNumber wsX0_readNumber { frames := 1, cells := 0, slots := 0, locals := 21 } (va_Pc [.ref (G.2.2 162), .int a0] (PW G σ sz)) (Qi G sz out.1 out.2) 0 0 (AA G sz) := by
  refine Met.ofW (cc := cX0_readNumber) (maxL := 4) (ret := (some .boolean)) (by decide) rfl ?_
  intro p e s m args below meth c s₁ B0 hml hv
  obtain ⟨rfl, hpw⟩ := hv
  have hsz := hpw.1
  subst hsz
  obtain ⟨F, B⟩ := hpw.to
  have hx := B0.exec
  have hb := B0.bytes
  have hr := B0.returns
  have hts := atoms_spec (ws := wsX0_readNumber) B0.pre
  have hown : s.vm.findClass RX0 = some m.cls := findClass_of_methodNamed B0.named
  have hlocks := B0.notSynchronized
  have S : CallFix p m c cX0_readNumber 4 s _ wsX0_readNumber RX0 := ⟨hx, hb, hml, hown, hts⟩
  have hiX0 : ∀ w ∈ u_ws RX0 TX0 8, w ∈ wsX0_readNumber := by decide +kernel
  have hl := lv_entry [.ref (G.2.2 162), .int a0] (n := 4) (Nat.le_of_ble_eq_true rfl)
  rw [lg_entry_eq]
  generalize (lg_sl [.ref (G.2.2 162), .int a0] ++ List.replicate (4 - (lg_sl [.ref (G.2.2 162), .int a0]).length) Slot.unset).toArray = ls at hl ⊢
  have hl : lv_has ls 4 [(0, .ref (G.2.2 162)), (1, .int a0)] := hl
  unfold f_X0_readNumber at ho
  skip
  refine lv_aload_n hx hb dX0_readNumber_0 rfl (lv_at hl 0 rfl) ?_
  obtain ⟨q1, hq1, ho⟩ := bnd_ ho
  refine k_iV (As := []) (rest := []) S F B (c_X0_isAtDigit l G σ _ hq1) (kq (by decide) : kd 162 = 14 ∧ 162 < NN) rfl rfl (cwV 0 hts gX0_readNumber_X0_isAtDigit rfl rfl rfl (by decide +kernel) ⟨Nat.le_of_ble_eq_true rfl, Nat.le_of_ble_eq_true rfl⟩) rfl hl.1 rfl (Nat.le_of_ble_eq_true rfl) dX0_readNumber_1 ⟨Nat.le_of_ble_eq_true rfl, Nat.le_of_ble_eq_true rfl⟩ (fun H locs B => ?_)
  refine lv_if_ne (tgt := 9) hx hb dX0_readNumber_4 (by decide) (fun c2 => ?_) (fun c2 => ?_)
  · have ho := in_ c2 ho
    refine lv_iconst (v := 0) hx hb dX0_readNumber_9 (by decide) ?_
    refine lv_istore_n (lv' := [(2, .int 0), (0, .ref (G.2.2 162)), (1, .int a0)]) hx hb dX0_readNumber_10 rfl hl (by decide) rfl (fun ls hl => ?_)
    refine lv_iconst (v := 0) hx hb dX0_readNumber_11 (by decide) ?_
    refine lv_istore_n (lv' := [(3, .int 0), (2, .int 0), (0, .ref (G.2.2 162)), (1, .int a0)]) hx hb dX0_readNumber_12 rfl hl (by decide) rfl (fun ls hl => ?_)
    have hloop13 : ∀ (n : Nat) (v7 : Int32) (v8 : Int32) (σ9 : Mm) (H : Heap) (locs : List Loc) (ls : Array Slot), f_X0_readNumber_l13  a0 n v7 v8 σ9 = some out → Bd G σ9 s H locs → lv_has ls 4 [(3, .int v7), (2, .int v8), (0, .ref (G.2.2 162)), (1, .int a0)] → W p l e (headSpec wsX0_readNumber { frames := 1, cells := 0, slots := 0, locals := 21 }).room s m #[.ref (G.2.2 162), .int a0] below meth c H locs 0 0 (MQ below (Qi G s.heap.size out.1 out.2) #[.ref (G.2.2 162), .int a0] s 0 0 (AA G s.heap.size)) (F0 m 13 ls []) := by
      intro n
      induction n with
      | zero => intro v7 v8 σ9 H locs ls ho B hl; cases ho
      | succ n ih =>
        intro v7 v8 σ9 H locs ls ho B hl
        refine lv_iload_n hx hb dX0_readNumber_13 rfl (lv_at hl 0 rfl) ?_
        refine lv_iload_n hx hb dX0_readNumber_14 rfl (lv_at hl 3 rfl) ?_
        refine lv_icmp_ge (tgt := 59) hx hb dX0_readNumber_15 (by decide) (fun c10 => ?_) (fun c10 => ?_)
        · have ho := ip_ c10 ho
          refine lv_aload_n hx hb dX0_readNumber_59 rfl (lv_at hl 2 rfl) ?_
          refine lv_iload_n hx hb dX0_readNumber_60 rfl (lv_at hl 1 rfl) ?_
          obtain ⟨q11, σ12, hq11, ho⟩ := bnm_ ho
          refine k_iV (As := [.int v8]) (rest := []) S F B (c_X0_keepNumber l G σ9 _ v8 hq11) (kq (by decide) : kd 162 = 14 ∧ 162 < NN) rfl rfl (cwV 1 hts gX0_readNumber_X0_keepNumber rfl rfl rfl (by decide +kernel) ⟨Nat.le_of_ble_eq_true rfl, Nat.le_of_ble_eq_true rfl⟩) rfl hl.1 rfl (Nat.le_of_ble_eq_true rfl) dX0_readNumber_61 ⟨Nat.le_of_ble_eq_true rfl, Nat.le_of_ble_eq_true rfl⟩ (fun H locs B => ?_)
          obtain ⟨hz, ho⟩ := bz_ ho
          cases ho
          exact e_i B hx hb hr hlocks hz rfl dX0_readNumber_64
        · have ho := in_ c10 ho
          refine lv_aload_n hx hb dX0_readNumber_18 rfl (lv_at hl 2 rfl) ?_
          obtain ⟨q13, hq13, ho⟩ := bnd_ ho
          refine k_iV (As := []) (rest := []) S F B (c_X0_isAtDigit l G σ9 _ hq13) (kq (by decide) : kd 162 = 14 ∧ 162 < NN) rfl rfl (cwV 0 hts gX0_readNumber_X0_isAtDigit rfl rfl rfl (by decide +kernel) ⟨Nat.le_of_ble_eq_true rfl, Nat.le_of_ble_eq_true rfl⟩) rfl hl.1 rfl (Nat.le_of_ble_eq_true rfl) dX0_readNumber_19 ⟨Nat.le_of_ble_eq_true rfl, Nat.le_of_ble_eq_true rfl⟩ (fun H locs B => ?_)
          refine lv_if_eq (tgt := 59) hx hb dX0_readNumber_22 (by decide) (fun c14 => ?_) (fun c14 => ?_)
          · have ho := ip_ c14 ho
            refine lv_aload_n hx hb dX0_readNumber_59 rfl (lv_at hl 2 rfl) ?_
            refine lv_iload_n hx hb dX0_readNumber_60 rfl (lv_at hl 1 rfl) ?_
            obtain ⟨q15, σ16, hq15, ho⟩ := bnm_ ho
            refine k_iV (As := [.int v8]) (rest := []) S F B (c_X0_keepNumber l G σ9 _ v8 hq15) (kq (by decide) : kd 162 = 14 ∧ 162 < NN) rfl rfl (cwV 1 hts gX0_readNumber_X0_keepNumber rfl rfl rfl (by decide +kernel) ⟨Nat.le_of_ble_eq_true rfl, Nat.le_of_ble_eq_true rfl⟩) rfl hl.1 rfl (Nat.le_of_ble_eq_true rfl) dX0_readNumber_61 ⟨Nat.le_of_ble_eq_true rfl, Nat.le_of_ble_eq_true rfl⟩ (fun H locs B => ?_)
            obtain ⟨hz, ho⟩ := bz_ ho
            cases ho
            exact e_i B hx hb hr hlocks hz rfl dX0_readNumber_64
          · have ho := in_ c14 ho
            refine lv_iload_n hx hb dX0_readNumber_25 rfl (lv_at hl 1 rfl) ?_
            refine lv_bipush (v := 10) hx hb dX0_readNumber_26 (by decide) ?_
            refine lv_imul hx hb dX0_readNumber_28 ?_
            refine lv_aload_n hx hb dX0_readNumber_29 rfl (lv_at hl 2 rfl) ?_
            refine r_get (ci := 4) (C := RX0) (T := TX0) (N := 8) S F B (kq (by decide) : kd 162 = 14 ∧ 162 < NN) rfl rfl hiX0 0 (by decide) (by decide +kernel) rfl dX0_readNumber_30 ?_
            refine lv_aload_n hx hb dX0_readNumber_33 rfl (lv_at hl 2 rfl) ?_
            refine r_get (ci := 4) (C := RX0) (T := TX0) (N := 8) S F B (kq (by decide) : kd 162 = 14 ∧ 162 < NN) rfl rfl hiX0 4 (by decide) (by decide +kernel) rfl dX0_readNumber_34 ?_
            obtain ⟨hi, ho⟩ := gd_ ho
            refine r_cald S F B (kq (by decide) : kd 163 = 15 ∧ 163 < NN) rfl hi dX0_readNumber_37 ?_
            refine lv_iadd hx hb dX0_readNumber_38 ?_
            refine lv_bipush (v := 48) hx hb dX0_readNumber_39 (by decide) ?_
            refine lv_isub hx hb dX0_readNumber_41 ?_
            obtain ⟨x17, ex17, ho⟩ := lt_ ho
            refine lv_nm ex17 ?_
            refine lv_istore_n (lv' := [(2, .int x17), (3, .int v7), (0, .ref (G.2.2 162)), (1, .int a0)]) hx hb dX0_readNumber_42 rfl hl (by decide) rfl (fun ls hl => ?_)
            refine lv_aload_n hx hb dX0_readNumber_43 rfl (lv_at hl 2 rfl) ?_
            refine lv_dup hx hb dX0_readNumber_44 rfl ?_
            refine r_get (ci := 4) (C := RX0) (T := TX0) (N := 8) S F B (kq (by decide) : kd 162 = 14 ∧ 162 < NN) rfl rfl hiX0 4 (by decide) (by decide +kernel) rfl dX0_readNumber_45 ?_
            refine lv_iconst (v := 1) hx hb dX0_readNumber_48 (by decide) ?_
            refine lv_iadd hx hb dX0_readNumber_49 ?_
            refine r_put (ci := 4) (C := RX0) (T := TX0) (N := 8) (ty := .int) S F B tyX0 tyX0_ok nmX0 (kq (by decide) : kd 162 = 14 ∧ 162 < NN) (fun _ => rfl) rfl hiX0 4 (by decide) (by decide +kernel) rfl rfl rfl rfl (fun _ => Nat.le_of_ble_eq_true rfl) (fun _ => rfl) dX0_readNumber_50 (fun H locs B => ?_)
            obtain ⟨σ18, eσ18, ho⟩ := lt_ ho
            rw [← eσ18] at B
            obtain ⟨x19, ex19, ho⟩ := lt_ ho
            refine lv_iinc (v := x19) (lv' := [(3, .int x19), (2, .int x17), (0, .ref (G.2.2 162)), (1, .int a0)]) hx hb dX0_readNumber_53 hl (k := 1) rfl (by rw [ex19]; rfl) (by decide) rfl (fun ls hl => ?_)
            refine lv_goto (tgt := 13) hx hb dX0_readNumber_56 (by decide) ?_
            exact ih _ _ _ _ _ _ ho B (lv_sub hl [0, 1, 2, 3] rfl)
    exact hloop13 4 _ _ _ _ _ _ ho B hl
  · have ho := ip_ c2 ho
    refine lv_iconst (v := 0) hx hb dX0_readNumber_7 (by decide) ?_
    cases ho
    exact e_i B hx hb hr hlocks rfl rfl dX0_readNumber_8

set_option maxHeartbeats 4000000 in
set_option maxRecDepth 100000 in
theorem c_X0_readDirection (l : Launch) (G : Gd) (σ : Mm) (sz : Nat) {out : Int32 × Mm} (ho : f_X0_readDirection σ = some out) : Met l yX0_readDirection wsX0_readDirection { frames := 1, cells := 0, slots := 0, locals := 21 } (va_Pc [.ref (G.2.2 162)] (PW G σ sz)) (Qi G sz out.1 out.2) 0 0 (AA G sz) := by
  refine Met.ofW (cc := cX0_readDirection) (maxL := 1) (ret := (some .boolean)) (by decide) rfl ?_
  intro p e s m args below meth c s₁ B0 hml hv
  obtain ⟨rfl, hpw⟩ := hv
  have hsz := hpw.1
  subst hsz
  obtain ⟨F, B⟩ := hpw.to
  have hx := B0.exec
  have hb := B0.bytes
  have hr := B0.returns
  have hts := atoms_spec (ws := wsX0_readDirection) B0.pre
  have hown : s.vm.findClass RX0 = some m.cls := findClass_of_methodNamed B0.named
  have hlocks := B0.notSynchronized
  have S : CallFix p m c cX0_readDirection 1 s _ wsX0_readDirection RX0 := ⟨hx, hb, hml, hown, hts⟩
  have hl := lv_entry [.ref (G.2.2 162)] (n := 1) (Nat.le_of_ble_eq_true rfl)
  rw [lg_entry_eq]
  generalize (lg_sl [.ref (G.2.2 162)] ++ List.replicate (1 - (lg_sl [.ref (G.2.2 162)]).length) Slot.unset).toArray = ls at hl ⊢
  have hl : lv_has ls 1 [(0, .ref (G.2.2 162))] := hl
  unfold f_X0_readDirection at ho
  refine lv_aload_n hx hb dX0_readDirection_0 rfl (lv_at hl 0 rfl) ?_
  refine lv_bipush (v := 110) hx hb dX0_readDirection_1 (by decide) ?_
  obtain ⟨q1, σ2, hq1, ho⟩ := bnm_ ho
  refine k_iV (As := [.int 110]) (rest := []) S F B (c_X0_takeSign l G σ _ 110 hq1) (kq (by decide) : kd 162 = 14 ∧ 162 < NN) rfl rfl (cwV 1 hts gX0_readDirection_X0_takeSign rfl rfl rfl (by decide +kernel) ⟨Nat.le_of_ble_eq_true rfl, Nat.le_of_ble_eq_true rfl⟩) rfl hl.1 rfl (Nat.le_of_ble_eq_true rfl) dX0_readDirection_3 ⟨Nat.le_of_ble_eq_true rfl, Nat.le_of_ble_eq_true rfl⟩ (fun H locs B => ?_)
  refine lv_if_eq (tgt := 15) hx hb dX0_readDirection_6 (by decide) (fun c3 => ?_) (fun c3 => ?_)
  · have ho := ip_ c3 ho
    refine lv_aload_n hx hb dX0_readDirection_15 rfl (lv_at hl 0 rfl) ?_
    refine lv_bipush (v := 101) hx hb dX0_readDirection_16 (by decide) ?_
    obtain ⟨q4, σ5, hq4, ho⟩ := bnm_ ho
    refine k_iV (As := [.int 101]) (rest := []) S F B (c_X0_takeSign l G σ2 _ 101 hq4) (kq (by decide) : kd 162 = 14 ∧ 162 < NN) rfl rfl (cwV 1 hts gX0_readDirection_X0_takeSign rfl rfl rfl (by decide +kernel) ⟨Nat.le_of_ble_eq_true rfl, Nat.le_of_ble_eq_true rfl⟩) rfl hl.1 rfl (Nat.le_of_ble_eq_true rfl) dX0_readDirection_18 ⟨Nat.le_of_ble_eq_true rfl, Nat.le_of_ble_eq_true rfl⟩ (fun H locs B => ?_)
    refine lv_if_eq (tgt := 30) hx hb dX0_readDirection_21 (by decide) (fun c6 => ?_) (fun c6 => ?_)
    · have ho := ip_ c6 ho
      refine lv_aload_n hx hb dX0_readDirection_30 rfl (lv_at hl 0 rfl) ?_
      refine lv_bipush (v := 115) hx hb dX0_readDirection_31 (by decide) ?_
      obtain ⟨q7, σ8, hq7, ho⟩ := bnm_ ho
      refine k_iV (As := [.int 115]) (rest := []) S F B (c_X0_takeSign l G σ5 _ 115 hq7) (kq (by decide) : kd 162 = 14 ∧ 162 < NN) rfl rfl (cwV 1 hts gX0_readDirection_X0_takeSign rfl rfl rfl (by decide +kernel) ⟨Nat.le_of_ble_eq_true rfl, Nat.le_of_ble_eq_true rfl⟩) rfl hl.1 rfl (Nat.le_of_ble_eq_true rfl) dX0_readDirection_33 ⟨Nat.le_of_ble_eq_true rfl, Nat.le_of_ble_eq_true rfl⟩ (fun H locs B => ?_)
      refine lv_if_eq (tgt := 45) hx hb dX0_readDirection_36 (by decide) (fun c9 => ?_) (fun c9 => ?_)
      · have ho := ip_ c9 ho
        refine lv_aload_n hx hb dX0_readDirection_45 rfl (lv_at hl 0 rfl) ?_
        refine lv_bipush (v := 119) hx hb dX0_readDirection_46 (by decide) ?_
        obtain ⟨q10, σ11, hq10, ho⟩ := bnm_ ho
        refine k_iV (As := [.int 119]) (rest := []) S F B (c_X0_takeSign l G σ8 _ 119 hq10) (kq (by decide) : kd 162 = 14 ∧ 162 < NN) rfl rfl (cwV 1 hts gX0_readDirection_X0_takeSign rfl rfl rfl (by decide +kernel) ⟨Nat.le_of_ble_eq_true rfl, Nat.le_of_ble_eq_true rfl⟩) rfl hl.1 rfl (Nat.le_of_ble_eq_true rfl) dX0_readDirection_48 ⟨Nat.le_of_ble_eq_true rfl, Nat.le_of_ble_eq_true rfl⟩ (fun H locs B => ?_)
        refine lv_if_eq (tgt := 66) hx hb dX0_readDirection_51 (by decide) (fun c12 => ?_) (fun c12 => ?_)
        · have ho := ip_ c12 ho
          refine lv_iconst (v := 0) hx hb dX0_readDirection_66 (by decide) ?_
          cases ho
          exact e_i B hx hb hr hlocks rfl rfl dX0_readDirection_67
        · have ho := in_ c12 ho
          refine lv_aload_n hx hb dX0_readDirection_54 rfl (lv_at hl 0 rfl) ?_
          refine lv_iconst (v := 3) hx hb dX0_readDirection_55 (by decide) ?_
          obtain ⟨q13, σ14, hq13, ho⟩ := bnm_ ho
          refine k_iV (As := [.int 3]) (rest := []) S F B (c_X0_keepNumber l G σ11 _ 3 hq13) (kq (by decide) : kd 162 = 14 ∧ 162 < NN) rfl rfl (cwV 1 hts gX0_readDirection_X0_keepNumber rfl rfl rfl (by decide +kernel) ⟨Nat.le_of_ble_eq_true rfl, Nat.le_of_ble_eq_true rfl⟩) rfl hl.1 rfl (Nat.le_of_ble_eq_true rfl) dX0_readDirection_56 ⟨Nat.le_of_ble_eq_true rfl, Nat.le_of_ble_eq_true rfl⟩ (fun H locs B => ?_)
          refine lv_if_eq (tgt := 66) hx hb dX0_readDirection_59 (by decide) (fun c15 => ?_) (fun c15 => ?_)
          · have ho := ip_ c15 ho
            refine lv_iconst (v := 0) hx hb dX0_readDirection_66 (by decide) ?_
            cases ho
            exact e_i B hx hb hr hlocks rfl rfl dX0_readDirection_67
          · have ho := in_ c15 ho
            refine lv_iconst (v := 1) hx hb dX0_readDirection_62 (by decide) ?_
            refine lv_goto (tgt := 67) hx hb dX0_readDirection_63 (by decide) ?_
            cases ho
            exact e_i B hx hb hr hlocks rfl rfl dX0_readDirection_67
      · have ho := in_ c9 ho
        refine lv_aload_n hx hb dX0_readDirection_39 rfl (lv_at hl 0 rfl) ?_
        refine lv_iconst (v := 2) hx hb dX0_readDirection_40 (by decide) ?_
        obtain ⟨q16, σ17, hq16, ho⟩ := bnm_ ho
        refine k_iV (As := [.int 2]) (rest := []) S F B (c_X0_keepNumber l G σ8 _ 2 hq16) (kq (by decide) : kd 162 = 14 ∧ 162 < NN) rfl rfl (cwV 1 hts gX0_readDirection_X0_keepNumber rfl rfl rfl (by decide +kernel) ⟨Nat.le_of_ble_eq_true rfl, Nat.le_of_ble_eq_true rfl⟩) rfl hl.1 rfl (Nat.le_of_ble_eq_true rfl) dX0_readDirection_41 ⟨Nat.le_of_ble_eq_true rfl, Nat.le_of_ble_eq_true rfl⟩ (fun H locs B => ?_)
        obtain ⟨hz, ho⟩ := bz_ ho
        cases ho
        exact e_i B hx hb hr hlocks hz rfl dX0_readDirection_44
    · have ho := in_ c6 ho
      refine lv_aload_n hx hb dX0_readDirection_24 rfl (lv_at hl 0 rfl) ?_
      refine lv_iconst (v := 1) hx hb dX0_readDirection_25 (by decide) ?_
      obtain ⟨q18, σ19, hq18, ho⟩ := bnm_ ho
      refine k_iV (As := [.int 1]) (rest := []) S F B (c_X0_keepNumber l G σ5 _ 1 hq18) (kq (by decide) : kd 162 = 14 ∧ 162 < NN) rfl rfl (cwV 1 hts gX0_readDirection_X0_keepNumber rfl rfl rfl (by decide +kernel) ⟨Nat.le_of_ble_eq_true rfl, Nat.le_of_ble_eq_true rfl⟩) rfl hl.1 rfl (Nat.le_of_ble_eq_true rfl) dX0_readDirection_26 ⟨Nat.le_of_ble_eq_true rfl, Nat.le_of_ble_eq_true rfl⟩ (fun H locs B => ?_)
      obtain ⟨hz, ho⟩ := bz_ ho
      cases ho
      exact e_i B hx hb hr hlocks hz rfl dX0_readDirection_29
  · have ho := in_ c3 ho
    refine lv_aload_n hx hb dX0_readDirection_9 rfl (lv_at hl 0 rfl) ?_
    refine lv_iconst (v := 0) hx hb dX0_readDirection_10 (by decide) ?_
    obtain ⟨q20, σ21, hq20, ho⟩ := bnm_ ho
    refine k_iV (As := [.int 0]) (rest := []) S F B (c_X0_keepNumber l G σ2 _ 0 hq20) (kq (by decide) : kd 162 = 14 ∧ 162 < NN) rfl rfl (cwV 1 hts gX0_readDirection_X0_keepNumber rfl rfl rfl (by decide +kernel) ⟨Nat.le_of_ble_eq_true rfl, Nat.le_of_ble_eq_true rfl⟩) rfl hl.1 rfl (Nat.le_of_ble_eq_true rfl) dX0_readDirection_11 ⟨Nat.le_of_ble_eq_true rfl, Nat.le_of_ble_eq_true rfl⟩ (fun H locs B => ?_)
    obtain ⟨hz, ho⟩ := bz_ ho
    cases ho
    exact e_i B hx hb hr hlocks hz rfl dX0_readDirection_14

set_option maxHeartbeats 4000000 in
set_option maxRecDepth 100000 in
theorem c_X0_readPart (l : Launch) (G : Gd) (σ : Mm) (sz : Nat) (a0 : Int32) {out : Int32 × Mm} (ho : f_X0_readPart a0 σ = some out) : Met l yX0_readPart wsX0_readPart { frames := 2, cells := 0, slots := 0, locals := 44 } (va_Pc [.ref (G.2.2 162), .int a0] (PW G σ sz)) (Qi G sz out.1 out.2) 0 0 (AA G sz) := by
  refine Met.ofW (cc := cX0_readPart) (maxL := 2) (ret := (some .boolean)) (by decide) rfl ?_
  intro p e s m args below meth c s₁ B0 hml hv
  obtain ⟨rfl, hpw⟩ := hv
  have hsz := hpw.1
  subst hsz
  obtain ⟨F, B⟩ := hpw.to
  have hx := B0.exec
  have hb := B0.bytes
  have hr := B0.returns
  have hts := atoms_spec (ws := wsX0_readPart) B0.pre
  have hown : s.vm.findClass RX0 = some m.cls := findClass_of_methodNamed B0.named
  have hlocks := B0.notSynchronized
  have S : CallFix p m c cX0_readPart 2 s _ wsX0_readPart RX0 := ⟨hx, hb, hml, hown, hts⟩
  have hl := lv_entry [.ref (G.2.2 162), .int a0] (n := 2) (Nat.le_of_ble_eq_true rfl)
  rw [lg_entry_eq]
  generalize (lg_sl [.ref (G.2.2 162), .int a0] ++ List.replicate (2 - (lg_sl [.ref (G.2.2 162), .int a0]).length) Slot.unset).toArray = ls at hl ⊢
  have hl : lv_has ls 2 [(0, .ref (G.2.2 162)), (1, .int a0)] := hl
  unfold f_X0_readPart at ho
  refine lv_iload_n hx hb dX0_readPart_0 rfl (lv_at hl 1 rfl) ?_
  by_cases c1 : a0 = 68
  · have ho := ip_ c1 ho
    refine lv_lookup (off := 49) (tgt := 50) hx hb dX0_readPart_1 (by decide) (by rw [c1]; decide) (by decide) ?_
    refine lv_aload_n hx hb dX0_readPart_50 rfl (lv_at hl 0 rfl) ?_
    refine lv_iconst (v := 1) hx hb dX0_readPart_51 (by decide) ?_
    obtain ⟨q2, σ3, hq2, ho⟩ := bnm_ ho
    refine k_iV (As := [.int 1]) (rest := []) S F B (c_X0_readNumber l G σ _ 1 hq2) (kq (by decide) : kd 162 = 14 ∧ 162 < NN) rfl rfl (cwV 1 hts gX0_readPart_X0_readNumber rfl rfl rfl (by decide +kernel) ⟨Nat.le_of_ble_eq_true rfl, Nat.le_of_ble_eq_true rfl⟩) rfl hl.1 rfl (Nat.le_of_ble_eq_true rfl) dX0_readPart_52 ⟨Nat.le_of_ble_eq_true rfl, Nat.le_of_ble_eq_true rfl⟩ (fun H locs B => ?_)
    obtain ⟨hz, ho⟩ := bz_ ho
    cases ho
    exact e_i B hx hb hr hlocks hz rfl dX0_readPart_55
  · have ho := in_ c1 ho
    by_cases c4 : a0 = 78
    · have ho := ip_ c4 ho
      refine lv_lookup (off := 43) (tgt := 44) hx hb dX0_readPart_1 (by decide) (by rw [c4]; decide) (by decide) ?_
      refine lv_aload_n hx hb dX0_readPart_44 rfl (lv_at hl 0 rfl) ?_
      refine lv_iconst (v := 2) hx hb dX0_readPart_45 (by decide) ?_
      obtain ⟨q5, σ6, hq5, ho⟩ := bnm_ ho
      refine k_iV (As := [.int 2]) (rest := []) S F B (c_X0_readNumber l G σ _ 2 hq5) (kq (by decide) : kd 162 = 14 ∧ 162 < NN) rfl rfl (cwV 1 hts gX0_readPart_X0_readNumber rfl rfl rfl (by decide +kernel) ⟨Nat.le_of_ble_eq_true rfl, Nat.le_of_ble_eq_true rfl⟩) rfl hl.1 rfl (Nat.le_of_ble_eq_true rfl) dX0_readPart_46 ⟨Nat.le_of_ble_eq_true rfl, Nat.le_of_ble_eq_true rfl⟩ (fun H locs B => ?_)
      obtain ⟨hz, ho⟩ := bz_ ho
      cases ho
      exact e_i B hx hb hr hlocks hz rfl dX0_readPart_49
    · have ho := in_ c4 ho
      by_cases c7 : a0 = 87
      · have ho := ip_ c7 ho
        refine lv_lookup (off := 78) (tgt := 79) hx hb dX0_readPart_1 (by decide) (by rw [c7]; decide) (by decide) ?_
        refine lv_aload_n hx hb dX0_readPart_79 rfl (lv_at hl 0 rfl) ?_
        obtain ⟨q8, σ9, hq8, ho⟩ := bnm_ ho
        refine k_iV (As := []) (rest := []) S F B (c_X0_readDirection l G σ _ hq8) (kq (by decide) : kd 162 = 14 ∧ 162 < NN) rfl rfl (cwV 0 hts gX0_readPart_X0_readDirection rfl rfl rfl (by decide +kernel) ⟨Nat.le_of_ble_eq_true rfl, Nat.le_of_ble_eq_true rfl⟩) rfl hl.1 rfl (Nat.le_of_ble_eq_true rfl) dX0_readPart_80 ⟨Nat.le_of_ble_eq_true rfl, Nat.le_of_ble_eq_true rfl⟩ (fun H locs B => ?_)
        obtain ⟨hz, ho⟩ := bz_ ho
        cases ho
        exact e_i B hx hb hr hlocks hz rfl dX0_readPart_83
      · have ho := in_ c7 ho
        by_cases c10 : a0 = 88
        · have ho := ip_ c10 ho
          refine lv_lookup (off := 55) (tgt := 56) hx hb dX0_readPart_1 (by decide) (by rw [c10]; decide) (by decide) ?_
          refine lv_aload_n hx hb dX0_readPart_56 rfl (lv_at hl 0 rfl) ?_
          refine lv_bipush (v := 120) hx hb dX0_readPart_57 (by decide) ?_
          obtain ⟨q11, σ12, hq11, ho⟩ := bnm_ ho
          refine k_iV (As := [.int 120]) (rest := []) S F B (c_X0_takeSign l G σ _ 120 hq11) (kq (by decide) : kd 162 = 14 ∧ 162 < NN) rfl rfl (cwV 1 hts gX0_readPart_X0_takeSign rfl rfl rfl (by decide +kernel) ⟨Nat.le_of_ble_eq_true rfl, Nat.le_of_ble_eq_true rfl⟩) rfl hl.1 rfl (Nat.le_of_ble_eq_true rfl) dX0_readPart_59 ⟨Nat.le_of_ble_eq_true rfl, Nat.le_of_ble_eq_true rfl⟩ (fun H locs B => ?_)
          refine lv_if_eq (tgt := 73) hx hb dX0_readPart_62 (by decide) (fun c13 => ?_) (fun c13 => ?_)
          · have ho := ip_ c13 ho
            refine lv_aload_n hx hb dX0_readPart_73 rfl (lv_at hl 0 rfl) ?_
            refine lv_iconst (v := 2) hx hb dX0_readPart_74 (by decide) ?_
            obtain ⟨q14, σ15, hq14, ho⟩ := bnm_ ho
            refine k_iV (As := [.int 2]) (rest := []) S F B (c_X0_readNumber l G σ12 _ 2 hq14) (kq (by decide) : kd 162 = 14 ∧ 162 < NN) rfl rfl (cwV 1 hts gX0_readPart_X0_readNumber rfl rfl rfl (by decide +kernel) ⟨Nat.le_of_ble_eq_true rfl, Nat.le_of_ble_eq_true rfl⟩) rfl hl.1 rfl (Nat.le_of_ble_eq_true rfl) dX0_readPart_75 ⟨Nat.le_of_ble_eq_true rfl, Nat.le_of_ble_eq_true rfl⟩ (fun H locs B => ?_)
            obtain ⟨hz, ho⟩ := bz_ ho
            cases ho
            exact e_i B hx hb hr hlocks hz rfl dX0_readPart_78
          · have ho := in_ c13 ho
            refine lv_aload_n hx hb dX0_readPart_65 rfl (lv_at hl 0 rfl) ?_
            refine lv_iconst (v := (-1)) hx hb dX0_readPart_66 (by decide) ?_
            obtain ⟨q16, σ17, hq16, ho⟩ := bnm_ ho
            refine k_iV (As := [.int (-1)]) (rest := []) S F B (c_X0_keepNumber l G σ12 _ (-1) hq16) (kq (by decide) : kd 162 = 14 ∧ 162 < NN) rfl rfl (cwV 1 hts gX0_readPart_X0_keepNumber rfl rfl rfl (by decide +kernel) ⟨Nat.le_of_ble_eq_true rfl, Nat.le_of_ble_eq_true rfl⟩) rfl hl.1 rfl (Nat.le_of_ble_eq_true rfl) dX0_readPart_67 ⟨Nat.le_of_ble_eq_true rfl, Nat.le_of_ble_eq_true rfl⟩ (fun H locs B => ?_)
            refine lv_goto (tgt := 78) hx hb dX0_readPart_70 (by decide) ?_
            obtain ⟨hz, ho⟩ := bz_ ho
            cases ho
            exact e_i B hx hb hr hlocks hz rfl dX0_readPart_78
        · have ho := in_ c10 ho
          refine lv_lookup (off := 83) (tgt := 84) hx hb dX0_readPart_1 (by decide) (by refine (lv_osw c1 rfl).trans ?_; refine (lv_osw c4 rfl).trans ?_; refine (lv_osw c7 rfl).trans ?_; refine (lv_osw c10 rfl).trans ?_; rfl) (by decide) ?_
          refine lv_aload_n hx hb dX0_readPart_84 rfl (lv_at hl 0 rfl) ?_
          refine lv_iload_n hx hb dX0_readPart_85 rfl (lv_at hl 1 rfl) ?_
          obtain ⟨q18, σ19, hq18, ho⟩ := bnm_ ho
          refine k_iV (As := [.int a0]) (rest := []) S F B (c_X0_takeSign l G σ _ a0 hq18) (kq (by decide) : kd 162 = 14 ∧ 162 < NN) rfl rfl (cwV 1 hts gX0_readPart_X0_takeSign rfl rfl rfl (by decide +kernel) ⟨Nat.le_of_ble_eq_true rfl, Nat.le_of_ble_eq_true rfl⟩) rfl hl.1 rfl (Nat.le_of_ble_eq_true rfl) dX0_readPart_86 ⟨Nat.le_of_ble_eq_true rfl, Nat.le_of_ble_eq_true rfl⟩ (fun H locs B => ?_)
          obtain ⟨hz, ho⟩ := bz_ ho
          cases ho
          exact e_i B hx hb hr hlocks hz rfl dX0_readPart_89

set_option maxHeartbeats 4000000 in
set_option maxRecDepth 100000 in
theorem c_X0_formOf (l : Launch) (G : Gd) (σ : Mm) (sz : Nat) (a0 : Int32) {out : Option Nat} (ho : f_X0_formOf a0 σ = some out) : Met l yX0_formOf wsX0_formOf { frames := 0, cells := 0, slots := 0, locals := 0 } (va_Pc [.int a0] (PW G σ sz)) (Qq G sz out σ) 0 0 (AA G sz) := by
  refine Met.ofW (cc := cX0_formOf) (maxL := 1) (ret := (some (.object "java/lang/String"))) (by decide) rfl ?_
  intro p e s m args below meth c s₁ B0 hml hv
  obtain ⟨rfl, hpw⟩ := hv
  have hsz := hpw.1
  subst hsz
  obtain ⟨F, B⟩ := hpw.to
  have hx := B0.exec
  have hb := B0.bytes
  have hr := B0.returns
  have hts := atoms_spec (ws := wsX0_formOf) B0.pre
  have hown : s.vm.findClass RX0 = some m.cls := findClass_of_methodNamed B0.named
  have hlocks := B0.notSynchronized
  have S : CallFix p m c cX0_formOf 1 s _ wsX0_formOf RX0 := ⟨hx, hb, hml, hown, hts⟩
  have hl := lv_entry [.int a0] (n := 1) (Nat.le_of_ble_eq_true rfl)
  rw [lg_entry_eq]
  generalize (lg_sl [.int a0] ++ List.replicate (1 - (lg_sl [.int a0]).length) Slot.unset).toArray = ls at hl ⊢
  have hl : lv_has ls 1 [(0, .int a0)] := hl
  unfold f_X0_formOf at ho
  refine lv_iload_n hx hb dX0_formOf_0 rfl (lv_at hl 0 rfl) ?_
  by_cases c1 : a0 = 98
  · have ho := ip_ c1 ho
    refine lv_tableIn (off := 118) (tgt := 119) hx hb dX0_formOf_1 (by rw [c1]; decide) (by rw [c1]; decide) (by rw [c1]; rfl) (by decide) ?_
    refine r_ldcS S F 18 (t := 418) rfl (by decide) rfl rfl dX0_formOf_119 ?_
    cases ho
    exact e_q (w := (some 418)) B hx hb hr (Or.inl ⟨_, rfl⟩) hlocks rfl dX0_formOf_121
  · have ho := in_ c1 ho
    by_cases c2 : a0 = 103
    · have ho := ip_ c2 ho
      refine lv_tableIn (off := 115) (tgt := 116) hx hb dX0_formOf_1 (by rw [c2]; decide) (by rw [c2]; decide) (by rw [c2]; rfl) (by decide) ?_
      refine r_ldcS S F 17 (t := 417) rfl (by decide) rfl rfl dX0_formOf_116 ?_
      cases ho
      exact e_q (w := (some 417)) B hx hb hr (Or.inl ⟨_, rfl⟩) hlocks rfl dX0_formOf_118
    · have ho := in_ c2 ho
      by_cases c3 : a0 = 104
      · have ho := ip_ c3 ho
        refine lv_tableIn (off := 103) (tgt := 104) hx hb dX0_formOf_1 (by rw [c3]; decide) (by rw [c3]; decide) (by rw [c3]; rfl) (by decide) ?_
        refine r_ldcS S F 13 (t := 413) rfl (by decide) rfl rfl dX0_formOf_104 ?_
        cases ho
        exact e_q (w := (some 413)) B hx hb hr (Or.inl ⟨_, rfl⟩) hlocks rfl dX0_formOf_106
      · have ho := in_ c3 ho
        by_cases c4 : a0 = 109
        · have ho := ip_ c4 ho
          refine lv_tableIn (off := 112) (tgt := 113) hx hb dX0_formOf_1 (by rw [c4]; decide) (by rw [c4]; decide) (by rw [c4]; rfl) (by decide) ?_
          refine r_ldcS S F 16 (t := 416) rfl (by decide) rfl rfl dX0_formOf_113 ?_
          cases ho
          exact e_q (w := (some 416)) B hx hb hr (Or.inl ⟨_, rfl⟩) hlocks rfl dX0_formOf_115
        · have ho := in_ c4 ho
          by_cases c5 : a0 = 114
          · have ho := ip_ c5 ho
            refine lv_tableIn (off := 124) (tgt := 125) hx hb dX0_formOf_1 (by rw [c5]; decide) (by rw [c5]; decide) (by rw [c5]; rfl) (by decide) ?_
            refine r_ldcS S F 20 (t := 420) rfl (by decide) rfl rfl dX0_formOf_125 ?_
            cases ho
            exact e_q (w := (some 420)) B hx hb hr (Or.inl ⟨_, rfl⟩) hlocks rfl dX0_formOf_127
          · have ho := in_ c5 ho
            by_cases c6 : a0 = 115
            · have ho := ip_ c6 ho
              refine lv_tableIn (off := 106) (tgt := 107) hx hb dX0_formOf_1 (by rw [c6]; decide) (by rw [c6]; decide) (by rw [c6]; rfl) (by decide) ?_
              refine r_ldcS S F 14 (t := 414) rfl (by decide) rfl rfl dX0_formOf_107 ?_
              cases ho
              exact e_q (w := (some 414)) B hx hb hr (Or.inl ⟨_, rfl⟩) hlocks rfl dX0_formOf_109
            · have ho := in_ c6 ho
              by_cases c7 : a0 = 116
              · have ho := ip_ c7 ho
                refine lv_tableIn (off := 109) (tgt := 110) hx hb dX0_formOf_1 (by rw [c7]; decide) (by rw [c7]; decide) (by rw [c7]; rfl) (by decide) ?_
                refine r_ldcS S F 15 (t := 415) rfl (by decide) rfl rfl dX0_formOf_110 ?_
                cases ho
                exact e_q (w := (some 415)) B hx hb hr (Or.inl ⟨_, rfl⟩) hlocks rfl dX0_formOf_112
              · have ho := in_ c7 ho
                by_cases c8 : a0 = 118
                · have ho := ip_ c8 ho
                  refine lv_tableIn (off := 115) (tgt := 116) hx hb dX0_formOf_1 (by rw [c8]; decide) (by rw [c8]; decide) (by rw [c8]; rfl) (by decide) ?_
                  refine r_ldcS S F 17 (t := 417) rfl (by decide) rfl rfl dX0_formOf_116 ?_
                  cases ho
                  exact e_q (w := (some 417)) B hx hb hr (Or.inl ⟨_, rfl⟩) hlocks rfl dX0_formOf_118
                · have ho := in_ c8 ho
                  by_cases c9 : a0 = 119
                  · have ho := ip_ c9 ho
                    refine lv_tableIn (off := 121) (tgt := 122) hx hb dX0_formOf_1 (by rw [c9]; decide) (by rw [c9]; decide) (by rw [c9]; rfl) (by decide) ?_
                    refine r_ldcS S F 19 (t := 419) rfl (by decide) rfl rfl dX0_formOf_122 ?_
                    cases ho
                    exact e_q (w := (some 419)) B hx hb hr (Or.inl ⟨_, rfl⟩) hlocks rfl dX0_formOf_124
                  · have ho := in_ c9 ho
                    refine t_tableD (tgt := 128) hx hb dX0_formOf_1 rfl (fun j hj => ?_) (by decide) ?_
                    · have hj : j < 22 := hj
                      rcases (show j = 0 ∨ j = 1 ∨ j = 2 ∨ j = 3 ∨ j = 4 ∨ j = 5 ∨ j = 6 ∨ j = 7 ∨ j = 8 ∨ j = 9 ∨ j = 10 ∨ j = 11 ∨ j = 12 ∨ j = 13 ∨ j = 14 ∨ j = 15 ∨ j = 16 ∨ j = 17 ∨ j = 18 ∨ j = 19 ∨ j = 20 ∨ j = 21 by omega) with rfl | rfl | rfl | rfl | rfl | rfl | rfl | rfl | rfl | rfl | rfl | rfl | rfl | rfl | rfl | rfl | rfl | rfl | rfl | rfl | rfl | rfl
                      · exact Or.inr (lv_neT c1 (by decide))
                      · exact Or.inl rfl
                      · exact Or.inl rfl
                      · exact Or.inl rfl
                      · exact Or.inl rfl
                      · exact Or.inr (lv_neT c2 (by decide))
                      · exact Or.inr (lv_neT c3 (by decide))
                      · exact Or.inl rfl
                      · exact Or.inl rfl
                      · exact Or.inl rfl
                      · exact Or.inl rfl
                      · exact Or.inr (lv_neT c4 (by decide))
                      · exact Or.inl rfl
                      · exact Or.inl rfl
                      · exact Or.inl rfl
                      · exact Or.inl rfl
                      · exact Or.inr (lv_neT c5 (by decide))
                      · exact Or.inr (lv_neT c6 (by decide))
                      · exact Or.inr (lv_neT c7 (by decide))
                      · exact Or.inl rfl
                      · exact Or.inr (lv_neT c8 (by decide))
                      · exact Or.inr (lv_neT c9 (by decide))
                    · refine lv_null hx hb dX0_formOf_128 ?_
                      cases ho
                      exact e_q (w := none) B hx hb hr (Or.inl ⟨_, rfl⟩) hlocks rfl dX0_formOf_129

set_option maxHeartbeats 4000000 in
set_option maxRecDepth 100000 in
theorem c_X0_readCommand (l : Launch) (G : Gd) (σ : Mm) (sz : Nat) {out : Int32 × Mm} (ho : f_X0_readCommand σ = some out) : Met l yX0_readCommand wsX0_readCommand { frames := 4, cells := 0, slots := 0, locals := 85 } (va_Pc [.ref (G.2.2 162)] (PW G σ sz)) (Qi G sz out.1 out.2) 0 0 (AA G sz) := by
  refine Met.ofW (cc := cX0_readCommand) (maxL := 4) (ret := (some .boolean)) (by decide) rfl ?_
  intro p e s m args below meth c s₁ B0 hml hv
  obtain ⟨rfl, hpw⟩ := hv
  have hsz := hpw.1
  subst hsz
  obtain ⟨F, B⟩ := hpw.to
  have hx := B0.exec
  have hb := B0.bytes
  have hr := B0.returns
  have hts := atoms_spec (ws := wsX0_readCommand) B0.pre
  have hown : s.vm.findClass RX0 = some m.cls := findClass_of_methodNamed B0.named
  have hlocks := B0.notSynchronized
  have S : CallFix p m c cX0_readCommand 4 s _ wsX0_readCommand RX0 := ⟨hx, hb, hml, hown, hts⟩
  have hiX0 : ∀ w ∈ u_ws RX0 TX0 8, w ∈ wsX0_readCommand := by decide +kernel
  have hl := lv_entry [.ref (G.2.2 162)] (n := 4) (Nat.le_of_ble_eq_true rfl)
  rw [lg_entry_eq]
  generalize (lg_sl [.ref (G.2.2 162)] ++ List.replicate (4 - (lg_sl [.ref (G.2.2 162)]).length) Slot.unset).toArray = ls at hl ⊢
  have hl : lv_has ls 4 [(0, .ref (G.2.2 162))] := hl
  unfold f_X0_readCommand at ho
  skip
  refine lv_aload_n hx hb dX0_readCommand_0 rfl (lv_at hl 0 rfl) ?_
  refine r_get (ci := 4) (C := RX0) (T := TX0) (N := 8) S F B (kq (by decide) : kd 162 = 14 ∧ 162 < NN) rfl rfl hiX0 4 (by decide) (by decide +kernel) rfl dX0_readCommand_1 ?_
  refine lv_aload_n hx hb dX0_readCommand_4 rfl (lv_at hl 0 rfl) ?_
  refine r_get (ci := 4) (C := RX0) (T := TX0) (N := 8) S F B (kq (by decide) : kd 162 = 14 ∧ 162 < NN) rfl rfl hiX0 3 (by decide) (by decide +kernel) rfl dX0_readCommand_5 ?_
  refine lv_icmp_ge (tgt := 20) hx hb dX0_readCommand_8 (by decide) (fun c1 => ?_) (fun c1 => ?_)
  · have ho := ip_ c1 ho
    refine lv_iconst (v := 0) hx hb dX0_readCommand_20 (by decide) ?_
    cases ho
    exact e_i B hx hb hr hlocks rfl rfl dX0_readCommand_21
  · have ho := in_ c1 ho
    refine lv_aload_n hx hb dX0_readCommand_11 rfl (lv_at hl 0 rfl) ?_
    refine r_get (ci := 4) (C := RX0) (T := TX0) (N := 8) S F B (kq (by decide) : kd 162 = 14 ∧ 162 < NN) rfl rfl hiX0 5 (by decide) (by decide +kernel) rfl dX0_readCommand_12 ?_
    refine lv_bipush (v := 30) hx hb dX0_readCommand_15 (by decide) ?_
    refine lv_icmp_lt (tgt := 22) hx hb dX0_readCommand_17 (by decide) (fun c2 => ?_) (fun c2 => ?_)
    · have ho := ip_ c2 ho
      refine lv_aload_n hx hb dX0_readCommand_22 rfl (lv_at hl 0 rfl) ?_
      refine r_get (ci := 4) (C := RX0) (T := TX0) (N := 8) S F B (kq (by decide) : kd 162 = 14 ∧ 162 < NN) rfl rfl hiX0 0 (by decide) (by decide +kernel) rfl dX0_readCommand_23 ?_
      refine lv_aload_n hx hb dX0_readCommand_26 rfl (lv_at hl 0 rfl) ?_
      refine r_get (ci := 4) (C := RX0) (T := TX0) (N := 8) S F B (kq (by decide) : kd 162 = 14 ∧ 162 < NN) rfl rfl hiX0 4 (by decide) (by decide +kernel) rfl dX0_readCommand_27 ?_
      obtain ⟨hi, ho⟩ := gd_ ho
      refine r_cald S F B (kq (by decide) : kd 163 = 15 ∧ 163 < NN) rfl hi dX0_readCommand_30 ?_
      obtain ⟨x3, ex3, ho⟩ := lt_ ho
      refine lv_nm ex3 ?_
      refine lv_istore_n (lv' := [(1, .int x3), (0, .ref (G.2.2 162))]) hx hb dX0_readCommand_31 rfl hl (by decide) rfl (fun ls hl => ?_)
      refine lv_iload_n hx hb dX0_readCommand_32 rfl (lv_at hl 0 rfl) ?_
      obtain ⟨q4, hq4, ho⟩ := bnd_ ho
      refine k_qS (As := [.int x3]) (rest := []) S F B (c_X0_formOf l G σ _ x3 hq4) (va_cwS 1 hts gX0_readCommand_X0_formOf rfl rfl rfl (by decide +kernel) ⟨Nat.le_of_ble_eq_true rfl, Nat.le_of_ble_eq_true rfl⟩) rfl hl.1 rfl (Nat.le_of_ble_eq_true rfl) dX0_readCommand_33 ⟨Nat.le_of_ble_eq_true rfl, Nat.le_of_ble_eq_true rfl⟩ (fun H locs B => ?_)
      cases q4 with
      | none =>
        have ho := oc_n ho
        refine lv_astore_nN (lv' := [(2, .null), (1, .int x3), (0, .ref (G.2.2 162))]) hx hb dX0_readCommand_36 rfl hl (by decide) rfl (fun ls hl => ?_)
        refine lv_aload_nN hx hb dX0_readCommand_37 rfl (lv_at hl 0 rfl) ?_
        refine lv_ifnonnullN hx hb dX0_readCommand_38 ?_
        refine lv_iconst (v := 0) hx hb dX0_readCommand_41 (by decide) ?_
        cases ho
        exact e_i B hx hb hr hlocks rfl rfl dX0_readCommand_42
      | some j5 =>
        have ho := oc_s ho
        have hj5 : isT j5 := kf_form hq4
        refine lv_astore_n (lv' := [(2, .ref (G.2.2 j5)), (1, .int x3), (0, .ref (G.2.2 162))]) hx hb dX0_readCommand_36 rfl hl (by decide) rfl (fun ls hl => ?_)
        refine lv_aload_n hx hb dX0_readCommand_37 rfl (lv_at hl 0 rfl) ?_
        refine lv_ifnonnull (tgt := 43) hx hb dX0_readCommand_38 (by decide) ?_
        refine lv_aload_n hx hb dX0_readCommand_43 rfl (lv_at hl 2 rfl) ?_
        refine r_get (ci := 4) (C := RX0) (T := TX0) (N := 8) S F B (kq (by decide) : kd 162 = 14 ∧ 162 < NN) rfl rfl hiX0 1 (by decide) (by decide +kernel) rfl dX0_readCommand_44 ?_
        refine lv_aload_n hx hb dX0_readCommand_47 rfl (lv_at hl 2 rfl) ?_
        refine r_get (ci := 4) (C := RX0) (T := TX0) (N := 8) S F B (kq (by decide) : kd 162 = 14 ∧ 162 < NN) rfl rfl hiX0 5 (by decide) (by decide +kernel) rfl dX0_readCommand_48 ?_
        refine lv_iload_n hx hb dX0_readCommand_51 rfl (lv_at hl 1 rfl) ?_
        obtain ⟨hi, ho⟩ := gd_ ho
        refine r_cast S F B (kq (by decide) : kd 164 = 16 ∧ 164 < NN) (fun _ => rfl) hi dX0_readCommand_52 (fun H locs B => ?_)
        obtain ⟨σ6, eσ6, ho⟩ := lt_ ho
        rw [← eσ6] at B
        refine lv_aload_n hx hb dX0_readCommand_53 rfl (lv_at hl 2 rfl) ?_
        refine lv_iconst (v := 0) hx hb dX0_readCommand_54 (by decide) ?_
        refine r_put (ci := 4) (C := RX0) (T := TX0) (N := 8) (ty := .int) S F B tyX0 tyX0_ok nmX0 (kq (by decide) : kd 162 = 14 ∧ 162 < NN) (fun _ => rfl) rfl hiX0 6 (by decide) (by decide +kernel) rfl rfl rfl rfl (fun _ => Nat.le_of_ble_eq_true rfl) (fun _ => rfl) dX0_readCommand_55 (fun H locs B => ?_)
        obtain ⟨σ7, eσ7, ho⟩ := lt_ ho
        rw [← eσ7] at B
        refine lv_aload_n hx hb dX0_readCommand_58 rfl (lv_at hl 2 rfl) ?_
        refine lv_dup hx hb dX0_readCommand_59 rfl ?_
        refine r_get (ci := 4) (C := RX0) (T := TX0) (N := 8) S F B (kq (by decide) : kd 162 = 14 ∧ 162 < NN) rfl rfl hiX0 4 (by decide) (by decide +kernel) rfl dX0_readCommand_60 ?_
        refine lv_iconst (v := 1) hx hb dX0_readCommand_63 (by decide) ?_
        refine lv_iadd hx hb dX0_readCommand_64 ?_
        refine r_put (ci := 4) (C := RX0) (T := TX0) (N := 8) (ty := .int) S F B tyX0 tyX0_ok nmX0 (kq (by decide) : kd 162 = 14 ∧ 162 < NN) (fun _ => rfl) rfl hiX0 4 (by decide) (by decide +kernel) rfl rfl rfl rfl (fun _ => Nat.le_of_ble_eq_true rfl) (fun _ => rfl) dX0_readCommand_65 (fun H locs B => ?_)
        obtain ⟨σ8, eσ8, ho⟩ := lt_ ho
        rw [← eσ8] at B
        refine lv_iconst (v := 0) hx hb dX0_readCommand_68 (by decide) ?_
        refine lv_istore_n (lv' := [(3, .int 0), (2, .ref (G.2.2 j5)), (1, .int x3), (0, .ref (G.2.2 162))]) hx hb dX0_readCommand_69 rfl hl (by decide) rfl (fun ls hl => ?_)
        have hloop70 : ∀ (n : Nat) (v12 : Int32) (σ13 : Mm) (H : Heap) (locs : List Loc) (ls : Array Slot), f_X0_readCommand_l70  j5 x3 n v12 σ13 = some out → Bd G σ13 s H locs → lv_has ls 4 [(3, .int v12), (2, .ref (G.2.2 j5)), (1, .int x3), (0, .ref (G.2.2 162))] → W p l e (headSpec wsX0_readCommand { frames := 4, cells := 0, slots := 0, locals := 85 }).room s m #[.ref (G.2.2 162)] below meth c H locs 0 0 (MQ below (Qi G s.heap.size out.1 out.2) #[.ref (G.2.2 162)] s 0 0 (AA G s.heap.size)) (F0 m 70 ls []) := by
          intro n
          induction n with
          | zero => intro v12 σ13 H locs ls ho B hl; cases ho
          | succ n ih =>
            intro v12 σ13 H locs ls ho B hl
            refine lv_iload_n hx hb dX0_readCommand_70 rfl (lv_at hl 0 rfl) ?_
            refine lv_aload_n hx hb dX0_readCommand_71 rfl (lv_at hl 1 rfl) ?_
            obtain ⟨q14, hq14, ho⟩ := bnd_ ho
            refine k_iT (As := []) (rest := [.int v12]) S F B (c_J0_length_8abf5 l G σ13 _ j5 hj5 hq14) hj5 (cwV 0 hts gX0_readCommand_J0_length_8abf5 rfl rfl rfl (by decide +kernel) ⟨Nat.le_of_ble_eq_true rfl, Nat.le_of_ble_eq_true rfl⟩) rfl hl.1 rfl (Nat.le_of_ble_eq_true rfl) dX0_readCommand_72 ⟨Nat.le_of_ble_eq_true rfl, Nat.le_of_ble_eq_true rfl⟩ (fun H locs B => ?_)
            refine lv_icmp_ge (tgt := 98) hx hb dX0_readCommand_75 (by decide) (fun c15 => ?_) (fun c15 => ?_)
            · have ho := ip_ c15 ho
              refine lv_aload_n hx hb dX0_readCommand_98 rfl (lv_at hl 3 rfl) ?_
              refine lv_dup hx hb dX0_readCommand_99 rfl ?_
              refine r_get (ci := 4) (C := RX0) (T := TX0) (N := 8) S F B (kq (by decide) : kd 162 = 14 ∧ 162 < NN) rfl rfl hiX0 5 (by decide) (by decide +kernel) rfl dX0_readCommand_100 ?_
              refine lv_iconst (v := 1) hx hb dX0_readCommand_103 (by decide) ?_
              refine lv_iadd hx hb dX0_readCommand_104 ?_
              refine r_put (ci := 4) (C := RX0) (T := TX0) (N := 8) (ty := .int) S F B tyX0 tyX0_ok nmX0 (kq (by decide) : kd 162 = 14 ∧ 162 < NN) (fun _ => rfl) rfl hiX0 5 (by decide) (by decide +kernel) rfl rfl rfl rfl (fun _ => Nat.le_of_ble_eq_true rfl) (fun _ => rfl) dX0_readCommand_105 (fun H locs B => ?_)
              obtain ⟨σ16, eσ16, ho⟩ := lt_ ho
              rw [← eσ16] at B
              refine lv_iconst (v := 1) hx hb dX0_readCommand_108 (by decide) ?_
              cases ho
              exact e_i B hx hb hr hlocks rfl rfl dX0_readCommand_109
            · have ho := in_ c15 ho
              refine lv_aload_n hx hb dX0_readCommand_78 rfl (lv_at hl 3 rfl) ?_
              refine lv_aload_n hx hb dX0_readCommand_79 rfl (lv_at hl 1 rfl) ?_
              refine lv_iload_n hx hb dX0_readCommand_80 rfl (lv_at hl 0 rfl) ?_
              obtain ⟨q17, hq17, ho⟩ := bnd_ ho
              refine k_iT (As := [.int v12]) (rest := [.ref (G.2.2 162)]) S F B (c_J0_charAt_5068e l G σ13 _ j5 v12 hj5 hq17) hj5 (cwV 1 hts gX0_readCommand_J0_charAt_5068e rfl rfl rfl (by decide +kernel) ⟨Nat.le_of_ble_eq_true rfl, Nat.le_of_ble_eq_true rfl⟩) rfl hl.1 rfl (Nat.le_of_ble_eq_true rfl) dX0_readCommand_81 ⟨Nat.le_of_ble_eq_true rfl, Nat.le_of_ble_eq_true rfl⟩ (fun H locs B => ?_)
              obtain ⟨q18, σ19, hq18, ho⟩ := bnm_ ho
              refine k_iV (As := [.int q17]) (rest := []) S F B (c_X0_readPart l G σ13 _ q17 hq18) (kq (by decide) : kd 162 = 14 ∧ 162 < NN) rfl rfl (cwV 1 hts gX0_readCommand_X0_readPart rfl rfl rfl (by decide +kernel) ⟨Nat.le_of_ble_eq_true rfl, Nat.le_of_ble_eq_true rfl⟩) rfl hl.1 rfl (Nat.le_of_ble_eq_true rfl) dX0_readCommand_84 ⟨Nat.le_of_ble_eq_true rfl, Nat.le_of_ble_eq_true rfl⟩ (fun H locs B => ?_)
              refine lv_if_ne (tgt := 92) hx hb dX0_readCommand_87 (by decide) (fun c20 => ?_) (fun c20 => ?_)
              · have ho := in_ c20 ho
                obtain ⟨x21, ex21, ho⟩ := lt_ ho
                refine lv_iinc (v := x21) (lv' := [(3, .int x21), (2, .ref (G.2.2 j5)), (1, .int x3), (0, .ref (G.2.2 162))]) hx hb dX0_readCommand_92 hl (k := 0) rfl (by rw [ex21]; rfl) (by decide) rfl (fun ls hl => ?_)
                refine lv_goto (tgt := 70) hx hb dX0_readCommand_95 (by decide) ?_
                exact ih _ _ _ _ _ ho B (lv_sub hl [0, 1, 2, 3] rfl)
              · have ho := ip_ c20 ho
                refine lv_iconst (v := 0) hx hb dX0_readCommand_90 (by decide) ?_
                cases ho
                exact e_i B hx hb hr hlocks rfl rfl dX0_readCommand_91
        exact hloop70 8 _ _ _ _ _ ho B hl
    · have ho := in_ c2 ho
      refine lv_iconst (v := 0) hx hb dX0_readCommand_20 (by decide) ?_
      cases ho
      exact e_i B hx hb hr hlocks rfl rfl dX0_readCommand_21

set_option maxHeartbeats 4000000 in
set_option maxRecDepth 100000 in
theorem c_X0_takeCommands (l : Launch) (G : Gd) (σ : Mm) (sz : Nat) {out : Int32 × Mm} (ho : f_X0_takeCommands σ = some out) : Met l yX0_takeCommands wsX0_takeCommands { frames := 5, cells := 0, slots := 0, locals := 108 } (va_Pc [.ref (G.2.2 162)] (PW G σ sz)) (Qi G sz out.1 out.2) 0 0 (AA G sz) := by
  refine Met.ofW (cc := cX0_takeCommands) (maxL := 3) (ret := (some .boolean)) (by decide) rfl ?_
  intro p e s m args below meth c s₁ B0 hml hv
  obtain ⟨rfl, hpw⟩ := hv
  have hsz := hpw.1
  subst hsz
  obtain ⟨F, B⟩ := hpw.to
  have hx := B0.exec
  have hb := B0.bytes
  have hr := B0.returns
  have hts := atoms_spec (ws := wsX0_takeCommands) B0.pre
  have hown : s.vm.findClass RX0 = some m.cls := findClass_of_methodNamed B0.named
  have hlocks := B0.notSynchronized
  have S : CallFix p m c cX0_takeCommands 3 s _ wsX0_takeCommands RX0 := ⟨hx, hb, hml, hown, hts⟩
  have hiX0 : ∀ w ∈ u_ws RX0 TX0 8, w ∈ wsX0_takeCommands := by decide +kernel
  have hl := lv_entry [.ref (G.2.2 162)] (n := 3) (Nat.le_of_ble_eq_true rfl)
  rw [lg_entry_eq]
  generalize (lg_sl [.ref (G.2.2 162)] ++ List.replicate (3 - (lg_sl [.ref (G.2.2 162)]).length) Slot.unset).toArray = ls at hl ⊢
  have hl : lv_has ls 3 [(0, .ref (G.2.2 162))] := hl
  unfold f_X0_takeCommands at ho
  skip
  refine lv_aload_n hx hb dX0_takeCommands_0 rfl (lv_at hl 0 rfl) ?_
  refine lv_iconst (v := 0) hx hb dX0_takeCommands_1 (by decide) ?_
  refine r_put (ci := 4) (C := RX0) (T := TX0) (N := 8) (ty := .int) S F B tyX0 tyX0_ok nmX0 (kq (by decide) : kd 162 = 14 ∧ 162 < NN) (fun _ => rfl) rfl hiX0 4 (by decide) (by decide +kernel) rfl rfl rfl rfl (fun _ => Nat.le_of_ble_eq_true rfl) (fun _ => rfl) dX0_takeCommands_2 (fun H locs B => ?_)
  obtain ⟨σ1, eσ1, ho⟩ := lt_ ho
  rw [← eσ1] at B
  refine lv_aload_n hx hb dX0_takeCommands_5 rfl (lv_at hl 0 rfl) ?_
  refine lv_iconst (v := 0) hx hb dX0_takeCommands_6 (by decide) ?_
  refine r_put (ci := 4) (C := RX0) (T := TX0) (N := 8) (ty := .int) S F B tyX0 tyX0_ok nmX0 (kq (by decide) : kd 162 = 14 ∧ 162 < NN) (fun _ => rfl) rfl hiX0 5 (by decide) (by decide +kernel) rfl rfl rfl rfl (fun _ => Nat.le_of_ble_eq_true rfl) (fun _ => rfl) dX0_takeCommands_7 (fun H locs B => ?_)
  obtain ⟨σ2, eσ2, ho⟩ := lt_ ho
  rw [← eσ2] at B
  refine lv_aload_n hx hb dX0_takeCommands_10 rfl (lv_at hl 0 rfl) ?_
  obtain ⟨q3, σ4, hq3, ho⟩ := bnm_ ho
  refine k_iV (As := []) (rest := []) S F B (c_X0_readCommand l G σ2 _ hq3) (kq (by decide) : kd 162 = 14 ∧ 162 < NN) rfl rfl (cwV 0 hts gX0_takeCommands_X0_readCommand rfl rfl rfl (by decide +kernel) ⟨Nat.le_of_ble_eq_true rfl, Nat.le_of_ble_eq_true rfl⟩) rfl hl.1 rfl (Nat.le_of_ble_eq_true rfl) dX0_takeCommands_11 ⟨Nat.le_of_ble_eq_true rfl, Nat.le_of_ble_eq_true rfl⟩ (fun H locs B => ?_)
  refine lv_istore_n (lv' := [(1, .int q3), (0, .ref (G.2.2 162))]) hx hb dX0_takeCommands_14 rfl hl (by decide) rfl (fun ls hl => ?_)
  refine lv_iconst (v := 0) hx hb dX0_takeCommands_15 (by decide) ?_
  refine lv_istore_n (lv' := [(2, .int 0), (1, .int q3), (0, .ref (G.2.2 162))]) hx hb dX0_takeCommands_16 rfl hl (by decide) rfl (fun ls hl => ?_)
  obtain ⟨K, hK, ho⟩ := lt_ ho
  have hexit17 : ∀ (v5 : Int32) (v6 : Int32) (σ7 : Mm) (H : Heap) (locs : List Loc) (ls : Array Slot), K v5 v6 σ7 = some out → Bd G σ7 s H locs → lv_has ls 3 [(2, .int v5), (1, .int v6), (0, .ref (G.2.2 162))] → W p l e (headSpec wsX0_takeCommands { frames := 5, cells := 0, slots := 0, locals := 108 }).room s m #[.ref (G.2.2 162)] below meth c H locs 0 0 (MQ below (Qi G s.heap.size out.1 out.2) #[.ref (G.2.2 162)] s 0 0 (AA G s.heap.size)) (F0 m 66 ls []) := by
    intro v5 v6 σ7 H locs ls ho B hl
    subst hK
    refine lv_aload_n hx hb dX0_takeCommands_66 rfl (lv_at hl 2 rfl) ?_
    refine lv_iload_n hx hb dX0_takeCommands_67 rfl (lv_at hl 1 rfl) ?_
    refine lv_if_eq (tgt := 75) hx hb dX0_takeCommands_68 (by decide) (fun c9 => ?_) (fun c9 => ?_)
    · have ho := ip_ c9 ho
      refine lv_aload_n hx hb dX0_takeCommands_75 rfl (lv_at hl 2 rfl) ?_
      refine r_get (ci := 4) (C := RX0) (T := TX0) (N := 8) S F B (kq (by decide) : kd 162 = 14 ∧ 162 < NN) rfl rfl hiX0 4 (by decide) (by decide +kernel) rfl dX0_takeCommands_76 ?_
      refine r_put (ci := 4) (C := RX0) (T := TX0) (N := 8) (ty := .int) S F B tyX0 tyX0_ok nmX0 (kq (by decide) : kd 162 = 14 ∧ 162 < NN) (fun _ => rfl) rfl hiX0 7 (by decide) (by decide +kernel) rfl rfl rfl rfl (fun _ => Nat.le_of_ble_eq_true rfl) (fun _ => rfl) dX0_takeCommands_79 (fun H locs B => ?_)
      obtain ⟨σ10, eσ10, ho⟩ := lt_ ho
      rw [← eσ10] at B
      refine lv_aload_n hx hb dX0_takeCommands_82 rfl (lv_at hl 2 rfl) ?_
      refine lv_iconst (v := 0) hx hb dX0_takeCommands_83 (by decide) ?_
      refine r_put (ci := 4) (C := RX0) (T := TX0) (N := 8) (ty := .int) S F B tyX0 tyX0_ok nmX0 (kq (by decide) : kd 162 = 14 ∧ 162 < NN) (fun _ => rfl) rfl hiX0 3 (by decide) (by decide +kernel) rfl rfl rfl rfl (fun _ => Nat.le_of_ble_eq_true rfl) (fun _ => rfl) dX0_takeCommands_84 (fun H locs B => ?_)
      obtain ⟨σ11, eσ11, ho⟩ := lt_ ho
      rw [← eσ11] at B
      refine lv_iload_n hx hb dX0_takeCommands_87 rfl (lv_at hl 1 rfl) ?_
      obtain ⟨hz, ho⟩ := bz_ ho
      cases ho
      exact e_i B hx hb hr hlocks hz rfl dX0_takeCommands_88
    · have ho := in_ c9 ho
      refine lv_iconst (v := (-1)) hx hb dX0_takeCommands_71 (by decide) ?_
      refine lv_goto (tgt := 79) hx hb dX0_takeCommands_72 (by decide) ?_
      refine r_put (ci := 4) (C := RX0) (T := TX0) (N := 8) (ty := .int) S F B tyX0 tyX0_ok nmX0 (kq (by decide) : kd 162 = 14 ∧ 162 < NN) (fun _ => rfl) rfl hiX0 7 (by decide) (by decide +kernel) rfl rfl rfl rfl (fun _ => Nat.le_of_ble_eq_true rfl) (fun _ => rfl) dX0_takeCommands_79 (fun H locs B => ?_)
      obtain ⟨σ12, eσ12, ho⟩ := lt_ ho
      rw [← eσ12] at B
      refine lv_aload_n hx hb dX0_takeCommands_82 rfl (lv_at hl 2 rfl) ?_
      refine lv_iconst (v := 0) hx hb dX0_takeCommands_83 (by decide) ?_
      refine r_put (ci := 4) (C := RX0) (T := TX0) (N := 8) (ty := .int) S F B tyX0 tyX0_ok nmX0 (kq (by decide) : kd 162 = 14 ∧ 162 < NN) (fun _ => rfl) rfl hiX0 3 (by decide) (by decide +kernel) rfl rfl rfl rfl (fun _ => Nat.le_of_ble_eq_true rfl) (fun _ => rfl) dX0_takeCommands_84 (fun H locs B => ?_)
      obtain ⟨σ13, eσ13, ho⟩ := lt_ ho
      rw [← eσ13] at B
      refine lv_iload_n hx hb dX0_takeCommands_87 rfl (lv_at hl 1 rfl) ?_
      obtain ⟨hz, ho⟩ := bz_ ho
      cases ho
      exact e_i B hx hb hr hlocks hz rfl dX0_takeCommands_88
  have hloop17 : ∀ (n : Nat) (v14 : Int32) (v15 : Int32) (σ16 : Mm) (H : Heap) (locs : List Loc) (ls : Array Slot), f_X0_takeCommands_l17 K  n v14 v15 σ16 = some out → Bd G σ16 s H locs → lv_has ls 3 [(2, .int v14), (1, .int v15), (0, .ref (G.2.2 162))] → W p l e (headSpec wsX0_takeCommands { frames := 5, cells := 0, slots := 0, locals := 108 }).room s m #[.ref (G.2.2 162)] below meth c H locs 0 0 (MQ below (Qi G s.heap.size out.1 out.2) #[.ref (G.2.2 162)] s 0 0 (AA G s.heap.size)) (F0 m 17 ls []) := by
    intro n
    induction n with
    | zero => intro v14 v15 σ16 H locs ls ho B hl; cases ho
    | succ n ih =>
      intro v14 v15 σ16 H locs ls ho B hl
      refine lv_iload_n hx hb dX0_takeCommands_17 rfl (lv_at hl 0 rfl) ?_
      refine lv_bipush (v := 60) hx hb dX0_takeCommands_18 (by decide) ?_
      refine lv_icmp_ge (tgt := 66) hx hb dX0_takeCommands_20 (by decide) (fun c17 => ?_) (fun c17 => ?_)
      · have ho := ip_ c17 ho
        exact hexit17 _ _ _ _ _ _ ho B (lv_sub hl [0, 1, 2] rfl)
      · have ho := in_ c17 ho
        refine lv_iload_n hx hb dX0_takeCommands_23 rfl (lv_at hl 1 rfl) ?_
        refine lv_if_eq (tgt := 66) hx hb dX0_takeCommands_24 (by decide) (fun c18 => ?_) (fun c18 => ?_)
        · have ho := ip_ c18 ho
          exact hexit17 _ _ _ _ _ _ ho B (lv_sub hl [0, 1, 2] rfl)
        · have ho := in_ c18 ho
          refine lv_aload_n hx hb dX0_takeCommands_27 rfl (lv_at hl 2 rfl) ?_
          refine r_get (ci := 4) (C := RX0) (T := TX0) (N := 8) S F B (kq (by decide) : kd 162 = 14 ∧ 162 < NN) rfl rfl hiX0 4 (by decide) (by decide +kernel) rfl dX0_takeCommands_28 ?_
          refine lv_aload_n hx hb dX0_takeCommands_31 rfl (lv_at hl 2 rfl) ?_
          refine r_get (ci := 4) (C := RX0) (T := TX0) (N := 8) S F B (kq (by decide) : kd 162 = 14 ∧ 162 < NN) rfl rfl hiX0 3 (by decide) (by decide +kernel) rfl dX0_takeCommands_32 ?_
          refine lv_icmp_ge (tgt := 66) hx hb dX0_takeCommands_35 (by decide) (fun c19 => ?_) (fun c19 => ?_)
          · have ho := ip_ c19 ho
            exact hexit17 _ _ _ _ _ _ ho B (lv_sub hl [0, 1, 2] rfl)
          · have ho := in_ c19 ho
            refine lv_aload_n hx hb dX0_takeCommands_38 rfl (lv_at hl 2 rfl) ?_
            refine lv_bipush (v := 59) hx hb dX0_takeCommands_39 (by decide) ?_
            obtain ⟨q20, σ21, hq20, ho⟩ := bnm_ ho
            refine k_iV (As := [.int 59]) (rest := []) S F B (c_X0_takeSign l G σ16 _ 59 hq20) (kq (by decide) : kd 162 = 14 ∧ 162 < NN) rfl rfl (cwV 1 hts gX0_takeCommands_X0_takeSign rfl rfl rfl (by decide +kernel) ⟨Nat.le_of_ble_eq_true rfl, Nat.le_of_ble_eq_true rfl⟩) rfl hl.1 rfl (Nat.le_of_ble_eq_true rfl) dX0_takeCommands_41 ⟨Nat.le_of_ble_eq_true rfl, Nat.le_of_ble_eq_true rfl⟩ (fun H locs B => ?_)
            refine lv_if_eq (tgt := 58) hx hb dX0_takeCommands_44 (by decide) (fun c22 => ?_) (fun c22 => ?_)
            · have ho := ip_ c22 ho
              refine lv_iconst (v := 0) hx hb dX0_takeCommands_58 (by decide) ?_
              refine lv_istore_n (lv' := [(1, .int 0), (2, .int v14), (0, .ref (G.2.2 162))]) hx hb dX0_takeCommands_59 rfl hl (by decide) rfl (fun ls hl => ?_)
              obtain ⟨x23, ex23, ho⟩ := lt_ ho
              refine lv_iinc (v := x23) (lv' := [(2, .int x23), (1, .int 0), (0, .ref (G.2.2 162))]) hx hb dX0_takeCommands_60 hl (k := 1) rfl (by rw [ex23]; rfl) (by decide) rfl (fun ls hl => ?_)
              refine lv_goto (tgt := 17) hx hb dX0_takeCommands_63 (by decide) ?_
              exact ih _ _ _ _ _ _ ho B (lv_sub hl [0, 1, 2] rfl)
            · have ho := in_ c22 ho
              refine lv_aload_n hx hb dX0_takeCommands_47 rfl (lv_at hl 2 rfl) ?_
              obtain ⟨q24, σ25, hq24, ho⟩ := bnm_ ho
              refine k_iV (As := []) (rest := []) S F B (c_X0_readCommand l G σ21 _ hq24) (kq (by decide) : kd 162 = 14 ∧ 162 < NN) rfl rfl (cwV 0 hts gX0_takeCommands_X0_readCommand rfl rfl rfl (by decide +kernel) ⟨Nat.le_of_ble_eq_true rfl, Nat.le_of_ble_eq_true rfl⟩) rfl hl.1 rfl (Nat.le_of_ble_eq_true rfl) dX0_takeCommands_48 ⟨Nat.le_of_ble_eq_true rfl, Nat.le_of_ble_eq_true rfl⟩ (fun H locs B => ?_)
              refine lv_if_eq (tgt := 58) hx hb dX0_takeCommands_51 (by decide) (fun c26 => ?_) (fun c26 => ?_)
              · have ho := ip_ c26 ho
                refine lv_iconst (v := 0) hx hb dX0_takeCommands_58 (by decide) ?_
                refine lv_istore_n (lv' := [(1, .int 0), (2, .int v14), (0, .ref (G.2.2 162))]) hx hb dX0_takeCommands_59 rfl hl (by decide) rfl (fun ls hl => ?_)
                obtain ⟨x27, ex27, ho⟩ := lt_ ho
                refine lv_iinc (v := x27) (lv' := [(2, .int x27), (1, .int 0), (0, .ref (G.2.2 162))]) hx hb dX0_takeCommands_60 hl (k := 1) rfl (by rw [ex27]; rfl) (by decide) rfl (fun ls hl => ?_)
                refine lv_goto (tgt := 17) hx hb dX0_takeCommands_63 (by decide) ?_
                exact ih _ _ _ _ _ _ ho B (lv_sub hl [0, 1, 2] rfl)
              · have ho := in_ c26 ho
                refine lv_iconst (v := 1) hx hb dX0_takeCommands_54 (by decide) ?_
                refine lv_goto (tgt := 59) hx hb dX0_takeCommands_55 (by decide) ?_
                refine lv_istore_n (lv' := [(1, .int 1), (2, .int v14), (0, .ref (G.2.2 162))]) hx hb dX0_takeCommands_59 rfl hl (by decide) rfl (fun ls hl => ?_)
                obtain ⟨x28, ex28, ho⟩ := lt_ ho
                refine lv_iinc (v := x28) (lv' := [(2, .int x28), (1, .int 1), (0, .ref (G.2.2 162))]) hx hb dX0_takeCommands_60 hl (k := 1) rfl (by rw [ex28]; rfl) (by decide) rfl (fun ls hl => ?_)
                refine lv_goto (tgt := 17) hx hb dX0_takeCommands_63 (by decide) ?_
                exact ih _ _ _ _ _ _ ho B (lv_sub hl [0, 1, 2] rfl)
  exact hloop17 64 _ _ _ _ _ _ ho B hl

set_option maxHeartbeats 4000000 in
set_option maxRecDepth 100000 in
theorem c_X3_carryOut (l : Launch) (G : Gd) (σ : Mm) (sz : Nat) (a1 : Int32) {out : Int32 × Mm} (ho : f_X3_carryOut a1 σ = some out) : Met l yX3_carryOut wsX3_carryOut { frames := 5, cells := 0, slots := 0, locals := 122 } (va_Pc [.ref (G.2.2 161), .ref (G.2.2 162), .int a1] (PW G σ sz)) (Qi G sz out.1 out.2) 0 0 (AA G sz) := by
  refine Met.ofW (cc := cX3_carryOut) (maxL := 6) (ret := (some .int)) (by decide) rfl ?_
  intro p e s m args below meth c s₁ B0 hml hv
  obtain ⟨rfl, hpw⟩ := hv
  have hsz := hpw.1
  subst hsz
  obtain ⟨F, B⟩ := hpw.to
  have hx := B0.exec
  have hb := B0.bytes
  have hr := B0.returns
  have hts := atoms_spec (ws := wsX3_carryOut) B0.pre
  have hown : s.vm.findClass RX3 = some m.cls := findClass_of_methodNamed B0.named
  have hlocks := B0.notSynchronized
  have S : CallFix p m c cX3_carryOut 6 s _ wsX3_carryOut RX3 := ⟨hx, hb, hml, hown, hts⟩
  have hl := lv_entry [.ref (G.2.2 161), .ref (G.2.2 162), .int a1] (n := 6) (Nat.le_of_ble_eq_true rfl)
  rw [lg_entry_eq]
  generalize (lg_sl [.ref (G.2.2 161), .ref (G.2.2 162), .int a1] ++ List.replicate (6 - (lg_sl [.ref (G.2.2 161), .ref (G.2.2 162), .int a1]).length) Slot.unset).toArray = ls at hl ⊢
  have hl : lv_has ls 6 [(0, .ref (G.2.2 161)), (1, .ref (G.2.2 162)), (2, .int a1)] := hl
  unfold f_X3_carryOut at ho
  refine lv_aload_n hx hb dX3_carryOut_0 rfl (lv_at hl 1 rfl) ?_
  refine lv_iload_n hx hb dX3_carryOut_1 rfl (lv_at hl 2 rfl) ?_
  refine lv_iconst (v := 0) hx hb dX3_carryOut_2 (by decide) ?_
  obtain ⟨q1, hq1, ho⟩ := bnd_ ho
  refine k_iV (As := [.int a1, .int 0]) (rest := []) S F B (c_X0_numberOf l G σ _ a1 0 hq1) (kq (by decide) : kd 162 = 14 ∧ 162 < NN) rfl rfl (cwV 2 hts gX3_carryOut_X0_numberOf rfl rfl rfl (by decide +kernel) ⟨Nat.le_of_ble_eq_true rfl, Nat.le_of_ble_eq_true rfl⟩) rfl hl.1 rfl (Nat.le_of_ble_eq_true rfl) dX3_carryOut_3 ⟨Nat.le_of_ble_eq_true rfl, Nat.le_of_ble_eq_true rfl⟩ (fun H locs B => ?_)
  refine lv_istore_n (lv' := [(3, .int q1), (0, .ref (G.2.2 161)), (1, .ref (G.2.2 162)), (2, .int a1)]) hx hb dX3_carryOut_6 rfl hl (by decide) rfl (fun ls hl => ?_)
  refine lv_aload_n hx hb dX3_carryOut_7 rfl (lv_at hl 2 rfl) ?_
  refine lv_iload_n hx hb dX3_carryOut_8 rfl (lv_at hl 3 rfl) ?_
  refine lv_iconst (v := 1) hx hb dX3_carryOut_9 (by decide) ?_
  obtain ⟨q2, hq2, ho⟩ := bnd_ ho
  refine k_iV (As := [.int a1, .int 1]) (rest := []) S F B (c_X0_numberOf l G σ _ a1 1 hq2) (kq (by decide) : kd 162 = 14 ∧ 162 < NN) rfl rfl (cwV 2 hts gX3_carryOut_X0_numberOf rfl rfl rfl (by decide +kernel) ⟨Nat.le_of_ble_eq_true rfl, Nat.le_of_ble_eq_true rfl⟩) rfl hl.1 rfl (Nat.le_of_ble_eq_true rfl) dX3_carryOut_10 ⟨Nat.le_of_ble_eq_true rfl, Nat.le_of_ble_eq_true rfl⟩ (fun H locs B => ?_)
  refine lv_istore (lv' := [(4, .int q2), (3, .int q1), (0, .ref (G.2.2 161)), (1, .ref (G.2.2 162)), (2, .int a1)]) hx hb dX3_carryOut_13 hl (by decide) rfl (fun ls hl => ?_)
  refine lv_aload_n hx hb dX3_carryOut_15 rfl (lv_at hl 3 rfl) ?_
  refine lv_iload_n hx hb dX3_carryOut_16 rfl (lv_at hl 4 rfl) ?_
  refine lv_iconst (v := 2) hx hb dX3_carryOut_17 (by decide) ?_
  obtain ⟨q3, hq3, ho⟩ := bnd_ ho
  refine k_iV (As := [.int a1, .int 2]) (rest := []) S F B (c_X0_numberOf l G σ _ a1 2 hq3) (kq (by decide) : kd 162 = 14 ∧ 162 < NN) rfl rfl (cwV 2 hts gX3_carryOut_X0_numberOf rfl rfl rfl (by decide +kernel) ⟨Nat.le_of_ble_eq_true rfl, Nat.le_of_ble_eq_true rfl⟩) rfl hl.1 rfl (Nat.le_of_ble_eq_true rfl) dX3_carryOut_18 ⟨Nat.le_of_ble_eq_true rfl, Nat.le_of_ble_eq_true rfl⟩ (fun H locs B => ?_)
  refine lv_istore (lv' := [(5, .int q3), (4, .int q2), (3, .int q1), (0, .ref (G.2.2 161)), (1, .ref (G.2.2 162)), (2, .int a1)]) hx hb dX3_carryOut_21 hl (by decide) rfl (fun ls hl => ?_)
  refine lv_aload_n hx hb dX3_carryOut_23 rfl (lv_at hl 4 rfl) ?_
  refine lv_iload_n hx hb dX3_carryOut_24 rfl (lv_at hl 5 rfl) ?_
  obtain ⟨q4, hq4, ho⟩ := bnd_ ho
  refine k_iV (As := [.int a1]) (rest := []) S F B (c_X0_kindOf l G σ _ a1 hq4) (kq (by decide) : kd 162 = 14 ∧ 162 < NN) rfl rfl (cwV 1 hts gX3_carryOut_X0_kindOf rfl rfl rfl (by decide +kernel) ⟨Nat.le_of_ble_eq_true rfl, Nat.le_of_ble_eq_true rfl⟩) rfl hl.1 rfl (Nat.le_of_ble_eq_true rfl) dX3_carryOut_25 ⟨Nat.le_of_ble_eq_true rfl, Nat.le_of_ble_eq_true rfl⟩ (fun H locs B => ?_)
  by_cases c5 : q4 = 98
  · have ho := ip_ c5 ho
    refine lv_tableIn (off := 147) (tgt := 175) hx hb dX3_carryOut_28 (by rw [c5]; decide) (by rw [c5]; decide) (by rw [c5]; rfl) (by decide) ?_
    refine lv_aload_n hx hb dX3_carryOut_175 rfl (lv_at hl 3 rfl) ?_
    refine lv_iload_n hx hb dX3_carryOut_176 rfl (lv_at hl 2 rfl) ?_
    refine lv_iload hx hb dX3_carryOut_177 (lv_at hl 1 rfl) ?_
    refine lv_iload hx hb dX3_carryOut_179 (lv_at hl 0 rfl) ?_
    obtain ⟨q6, σ7, hq6, ho⟩ := bnm_ ho
    refine k_iV (As := [.int q1, .int q2, .int q3]) (rest := []) S F B (c_X3_giveBond l G σ _ q1 q2 q3 hq6) (kq (by decide) : kd 161 = 13 ∧ 161 < NN) rfl rfl (cwV 3 hts gX3_carryOut_X3_giveBond rfl rfl rfl (by decide +kernel) ⟨Nat.le_of_ble_eq_true rfl, Nat.le_of_ble_eq_true rfl⟩) rfl hl.1 rfl (Nat.le_of_ble_eq_true rfl) dX3_carryOut_181 ⟨Nat.le_of_ble_eq_true rfl, Nat.le_of_ble_eq_true rfl⟩ (fun H locs B => ?_)
    cases ho
    exact e_i B hx hb hr hlocks rfl rfl dX3_carryOut_184
  · have ho := in_ c5 ho
    by_cases c8 : q4 = 103
    · have ho := ip_ c8 ho
      refine lv_tableIn (off := 135) (tgt := 163) hx hb dX3_carryOut_28 (by rw [c8]; decide) (by rw [c8]; decide) (by rw [c8]; rfl) (by decide) ?_
      refine lv_aload_n hx hb dX3_carryOut_163 rfl (lv_at hl 3 rfl) ?_
      refine lv_iload_n hx hb dX3_carryOut_164 rfl (lv_at hl 2 rfl) ?_
      obtain ⟨q9, σ10, hq9, ho⟩ := bnm_ ho
      refine k_iV (As := [.int q1]) (rest := []) S F B (c_X3_admitGardener l G σ _ q1 hq9) (kq (by decide) : kd 161 = 13 ∧ 161 < NN) rfl rfl (cwV 1 hts gX3_carryOut_X3_admitGardener rfl rfl rfl (by decide +kernel) ⟨Nat.le_of_ble_eq_true rfl, Nat.le_of_ble_eq_true rfl⟩) rfl hl.1 rfl (Nat.le_of_ble_eq_true rfl) dX3_carryOut_165 ⟨Nat.le_of_ble_eq_true rfl, Nat.le_of_ble_eq_true rfl⟩ (fun H locs B => ?_)
      cases ho
      exact e_i B hx hb hr hlocks rfl rfl dX3_carryOut_168
    · have ho := in_ c8 ho
      by_cases c11 : q4 = 104
      · have ho := ip_ c11 ho
        refine lv_tableIn (off := 104) (tgt := 132) hx hb dX3_carryOut_28 (by rw [c11]; decide) (by rw [c11]; decide) (by rw [c11]; rfl) (by decide) ?_
        refine lv_aload_n hx hb dX3_carryOut_132 rfl (lv_at hl 3 rfl) ?_
        refine lv_iload_n hx hb dX3_carryOut_133 rfl (lv_at hl 2 rfl) ?_
        refine lv_iload hx hb dX3_carryOut_134 (lv_at hl 1 rfl) ?_
        refine lv_iload hx hb dX3_carryOut_136 (lv_at hl 0 rfl) ?_
        obtain ⟨q12, σ13, hq12, ho⟩ := bnm_ ho
        refine k_iV (As := [.int q1, .int q2, .int q3]) (rest := []) S F B (c_X3_tellLeaves l G σ _ q1 q2 q3 hq12) (kq (by decide) : kd 161 = 13 ∧ 161 < NN) rfl rfl (cwV 3 hts gX3_carryOut_X3_tellLeaves rfl rfl rfl (by decide +kernel) ⟨Nat.le_of_ble_eq_true rfl, Nat.le_of_ble_eq_true rfl⟩) rfl hl.1 rfl (Nat.le_of_ble_eq_true rfl) dX3_carryOut_138 ⟨Nat.le_of_ble_eq_true rfl, Nat.le_of_ble_eq_true rfl⟩ (fun H locs B => ?_)
        cases ho
        exact e_i B hx hb hr hlocks rfl rfl dX3_carryOut_141
      · have ho := in_ c11 ho
        by_cases c14 : q4 = 109
        · have ho := ip_ c14 ho
          refine lv_tableIn (off := 129) (tgt := 157) hx hb dX3_carryOut_28 (by rw [c14]; decide) (by rw [c14]; decide) (by rw [c14]; rfl) (by decide) ?_
          refine lv_aload_n hx hb dX3_carryOut_157 rfl (lv_at hl 3 rfl) ?_
          refine lv_iload_n hx hb dX3_carryOut_158 rfl (lv_at hl 2 rfl) ?_
          obtain ⟨q15, σ16, hq15, ho⟩ := bnm_ ho
          refine k_iV (As := [.int q1]) (rest := []) S F B (c_X3_placeMinotaur l G σ _ q1 hq15) (kq (by decide) : kd 161 = 13 ∧ 161 < NN) rfl rfl (cwV 1 hts gX3_carryOut_X3_placeMinotaur rfl rfl rfl (by decide +kernel) ⟨Nat.le_of_ble_eq_true rfl, Nat.le_of_ble_eq_true rfl⟩) rfl hl.1 rfl (Nat.le_of_ble_eq_true rfl) dX3_carryOut_159 ⟨Nat.le_of_ble_eq_true rfl, Nat.le_of_ble_eq_true rfl⟩ (fun H locs B => ?_)
          cases ho
          exact e_i B hx hb hr hlocks rfl rfl dX3_carryOut_162
        · have ho := in_ c14 ho
          by_cases c17 : q4 = 115
          · have ho := ip_ c17 ho
            refine lv_tableIn (off := 114) (tgt := 142) hx hb dX3_carryOut_28 (by rw [c17]; decide) (by rw [c17]; decide) (by rw [c17]; rfl) (by decide) ?_
            refine lv_aload_n hx hb dX3_carryOut_142 rfl (lv_at hl 3 rfl) ?_
            obtain ⟨q18, σ19, hq18, ho⟩ := bnm_ ho
            refine k_iV (As := []) (rest := []) S F B (c_X3_passSummer l G σ _ hq18) (kq (by decide) : kd 161 = 13 ∧ 161 < NN) rfl rfl (cwV 0 hts gX3_carryOut_X3_passSummer rfl rfl rfl (by decide +kernel) ⟨Nat.le_of_ble_eq_true rfl, Nat.le_of_ble_eq_true rfl⟩) rfl hl.1 rfl (Nat.le_of_ble_eq_true rfl) dX3_carryOut_143 ⟨Nat.le_of_ble_eq_true rfl, Nat.le_of_ble_eq_true rfl⟩ (fun H locs B => ?_)
            cases ho
            exact e_i B hx hb hr hlocks rfl rfl dX3_carryOut_146
          · have ho := in_ c17 ho
            by_cases c20 : q4 = 116
            · have ho := ip_ c20 ho
              refine lv_tableIn (off := 119) (tgt := 147) hx hb dX3_carryOut_28 (by rw [c20]; decide) (by rw [c20]; decide) (by rw [c20]; rfl) (by decide) ?_
              refine lv_aload_n hx hb dX3_carryOut_147 rfl (lv_at hl 3 rfl) ?_
              refine lv_iload_n hx hb dX3_carryOut_148 rfl (lv_at hl 2 rfl) ?_
              refine lv_iload hx hb dX3_carryOut_149 (lv_at hl 1 rfl) ?_
              refine lv_iload hx hb dX3_carryOut_151 (lv_at hl 0 rfl) ?_
              obtain ⟨q21, σ22, hq21, ho⟩ := bnm_ ho
              refine k_iV (As := [.int q1, .int q2, .int q3]) (rest := []) S F B (c_X3_trimHedge l G σ _ q1 q2 q3 hq21) (kq (by decide) : kd 161 = 13 ∧ 161 < NN) rfl rfl (cwV 3 hts gX3_carryOut_X3_trimHedge rfl rfl rfl (by decide +kernel) ⟨Nat.le_of_ble_eq_true rfl, Nat.le_of_ble_eq_true rfl⟩) rfl hl.1 rfl (Nat.le_of_ble_eq_true rfl) dX3_carryOut_153 ⟨Nat.le_of_ble_eq_true rfl, Nat.le_of_ble_eq_true rfl⟩ (fun H locs B => ?_)
              cases ho
              exact e_i B hx hb hr hlocks rfl rfl dX3_carryOut_156
            · have ho := in_ c20 ho
              by_cases c23 : q4 = 118
              · have ho := ip_ c23 ho
                refine lv_tableIn (off := 141) (tgt := 169) hx hb dX3_carryOut_28 (by rw [c23]; decide) (by rw [c23]; decide) (by rw [c23]; rfl) (by decide) ?_
                refine lv_aload_n hx hb dX3_carryOut_169 rfl (lv_at hl 3 rfl) ?_
                refine lv_iload_n hx hb dX3_carryOut_170 rfl (lv_at hl 2 rfl) ?_
                obtain ⟨q24, σ25, hq24, ho⟩ := bnm_ ho
                refine k_iV (As := [.int q1]) (rest := []) S F B (c_X3_admitVisitor l G σ _ q1 hq24) (kq (by decide) : kd 161 = 13 ∧ 161 < NN) rfl rfl (cwV 1 hts gX3_carryOut_X3_admitVisitor rfl rfl rfl (by decide +kernel) ⟨Nat.le_of_ble_eq_true rfl, Nat.le_of_ble_eq_true rfl⟩) rfl hl.1 rfl (Nat.le_of_ble_eq_true rfl) dX3_carryOut_171 ⟨Nat.le_of_ble_eq_true rfl, Nat.le_of_ble_eq_true rfl⟩ (fun H locs B => ?_)
                cases ho
                exact e_i B hx hb hr hlocks rfl rfl dX3_carryOut_174
              · have ho := in_ c23 ho
                by_cases c26 : q4 = 119
                · have ho := ip_ c26 ho
                  refine lv_tableIn (off := 157) (tgt := 185) hx hb dX3_carryOut_28 (by rw [c26]; decide) (by rw [c26]; decide) (by rw [c26]; rfl) (by decide) ?_
                  refine lv_aload_n hx hb dX3_carryOut_185 rfl (lv_at hl 3 rfl) ?_
                  refine lv_iload_n hx hb dX3_carryOut_186 rfl (lv_at hl 2 rfl) ?_
                  refine lv_iload hx hb dX3_carryOut_187 (lv_at hl 1 rfl) ?_
                  obtain ⟨q27, σ28, hq27, ho⟩ := bnm_ ho
                  refine k_iV (As := [.int q1, .int q2]) (rest := []) S F B (c_X3_moveVisitor l G σ _ q1 q2 hq27) (kq (by decide) : kd 161 = 13 ∧ 161 < NN) rfl rfl (cwV 2 hts gX3_carryOut_X3_moveVisitor rfl rfl rfl (by decide +kernel) ⟨Nat.le_of_ble_eq_true rfl, Nat.le_of_ble_eq_true rfl⟩) rfl hl.1 rfl (Nat.le_of_ble_eq_true rfl) dX3_carryOut_189 ⟨Nat.le_of_ble_eq_true rfl, Nat.le_of_ble_eq_true rfl⟩ (fun H locs B => ?_)
                  cases ho
                  exact e_i B hx hb hr hlocks rfl rfl dX3_carryOut_192
                · have ho := in_ c26 ho
                  refine t_tableD (tgt := 193) hx hb dX3_carryOut_28 rfl (fun j hj => ?_) (by decide) ?_
                  · have hj : j < 22 := hj
                    rcases (show j = 0 ∨ j = 1 ∨ j = 2 ∨ j = 3 ∨ j = 4 ∨ j = 5 ∨ j = 6 ∨ j = 7 ∨ j = 8 ∨ j = 9 ∨ j = 10 ∨ j = 11 ∨ j = 12 ∨ j = 13 ∨ j = 14 ∨ j = 15 ∨ j = 16 ∨ j = 17 ∨ j = 18 ∨ j = 19 ∨ j = 20 ∨ j = 21 by omega) with rfl | rfl | rfl | rfl | rfl | rfl | rfl | rfl | rfl | rfl | rfl | rfl | rfl | rfl | rfl | rfl | rfl | rfl | rfl | rfl | rfl | rfl
                    · exact Or.inr (lv_neT c5 (by decide))
                    · exact Or.inl rfl
                    · exact Or.inl rfl
                    · exact Or.inl rfl
                    · exact Or.inl rfl
                    · exact Or.inr (lv_neT c8 (by decide))
                    · exact Or.inr (lv_neT c11 (by decide))
                    · exact Or.inl rfl
                    · exact Or.inl rfl
                    · exact Or.inl rfl
                    · exact Or.inl rfl
                    · exact Or.inr (lv_neT c14 (by decide))
                    · exact Or.inl rfl
                    · exact Or.inl rfl
                    · exact Or.inl rfl
                    · exact Or.inl rfl
                    · exact Or.inl rfl
                    · exact Or.inr (lv_neT c17 (by decide))
                    · exact Or.inr (lv_neT c20 (by decide))
                    · exact Or.inl rfl
                    · exact Or.inr (lv_neT c23 (by decide))
                    · exact Or.inr (lv_neT c26 (by decide))
                  · refine lv_aload_n hx hb dX3_carryOut_193 rfl (lv_at hl 3 rfl) ?_
                    refine lv_iload_n hx hb dX3_carryOut_194 rfl (lv_at hl 2 rfl) ?_
                    refine lv_iload hx hb dX3_carryOut_195 (lv_at hl 1 rfl) ?_
                    obtain ⟨q29, σ30, hq29, ho⟩ := bnm_ ho
                    refine k_iV (As := [.int q1, .int q2]) (rest := []) S F B (c_X3_restVisitor l G σ _ q1 q2 hq29) (kq (by decide) : kd 161 = 13 ∧ 161 < NN) rfl rfl (cwV 2 hts gX3_carryOut_X3_restVisitor rfl rfl rfl (by decide +kernel) ⟨Nat.le_of_ble_eq_true rfl, Nat.le_of_ble_eq_true rfl⟩) rfl hl.1 rfl (Nat.le_of_ble_eq_true rfl) dX3_carryOut_197 ⟨Nat.le_of_ble_eq_true rfl, Nat.le_of_ble_eq_true rfl⟩ (fun H locs B => ?_)
                    cases ho
                    exact e_i B hx hb hr hlocks rfl rfl dX3_carryOut_200
