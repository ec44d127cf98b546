set_option maxHeartbeats 4000000 in
set_option maxRecDepth 100000 in
theorem c_X0_add (l : Launch) (G : Gd) (σ : Mm) (sz : Nat) (a0 : Int32) {out : Mm} (ho : f_X0_add a0 σ = some out) : Met l yX0_add wsX0_add { frames := 0, cells := 0, slots := 0, locals := 0 } (va_Pc [.ref (G.2.2 162), .int a0] (PW G σ sz)) (Qv G sz out) 0 0 (AA G sz) := by
  refine Met.ofW (cc := cX0_add) (maxL := 2) (ret := none) (by decide) rfl ?_
  intro p e s m args below meth c s₁ B0 hml hv
  obtain ⟨rfl, hpw⟩ := hv
  have hsz := hpw.1
  subst hsz
  obtain ⟨F, B⟩ := hpw.to
  have hx := B0.exec
  have hb := B0.bytes
  have hr := B0.returns
  have hts := atoms_spec (ws := wsX0_add) B0.pre
  have hown : s.vm.findClass RX0 = some m.cls := findClass_of_methodNamed B0.named
  have hlocks := B0.notSynchronized
  have S : CallFix p m c cX0_add 2 s _ wsX0_add RX0 := ⟨hx, hb, hml, hown, hts⟩
  have hiX0 : ∀ w ∈ u_ws RX0 TX0 8, w ∈ wsX0_add := by decide +kernel
  have hl := lv_entry [.ref (G.2.2 162), .int a0] (n := 2) (Nat.le_of_ble_eq_true rfl)
  rw [lg_entry_eq]
  generalize (lg_sl [.ref (G.2.2 162), .int a0] ++ List.replicate (2 - (lg_sl [.ref (G.2.2 162), .int a0]).length) Slot.unset).toArray = ls at hl ⊢
  have hl : lv_has ls 2 [(0, .ref (G.2.2 162)), (1, .int a0)] := hl
  unfold f_X0_add at ho
  refine lv_aload_n hx hb dX0_add_0 rfl (lv_at hl 0 rfl) ?_
  refine r_get (ci := 4) (C := RX0) (T := TX0) (N := 8) S F B (kq (by decide) : kd 162 = 14 ∧ 162 < NN) rfl rfl hiX0 3 (by decide) (by decide +kernel) rfl dX0_add_1 ?_
  refine lv_bipush (v := 60) hx hb dX0_add_4 (by decide) ?_
  refine lv_icmp_ge (tgt := 29) hx hb dX0_add_6 (by decide) (fun c1 => ?_) (fun c1 => ?_)
  · have ho := ip_ c1 ho
    cases ho
    exact e_v B hx hb hr hlocks dX0_add_29
  · have ho := in_ c1 ho
    refine lv_aload_n hx hb dX0_add_9 rfl (lv_at hl 0 rfl) ?_
    refine r_get (ci := 4) (C := RX0) (T := TX0) (N := 8) S F B (kq (by decide) : kd 162 = 14 ∧ 162 < NN) rfl rfl hiX0 0 (by decide) (by decide +kernel) rfl dX0_add_10 ?_
    refine lv_aload_n hx hb dX0_add_13 rfl (lv_at hl 0 rfl) ?_
    refine r_get (ci := 4) (C := RX0) (T := TX0) (N := 8) S F B (kq (by decide) : kd 162 = 14 ∧ 162 < NN) rfl rfl hiX0 3 (by decide) (by decide +kernel) rfl dX0_add_14 ?_
    refine lv_iload_n hx hb dX0_add_17 rfl (lv_at hl 1 rfl) ?_
    obtain ⟨hi, ho⟩ := gd_ ho
    refine r_cast S F B (kq (by decide) : kd 163 = 15 ∧ 163 < NN) (fun _ => rfl) hi dX0_add_18 (fun H locs B => ?_)
    obtain ⟨σ2, eσ2, ho⟩ := lt_ ho
    rw [← eσ2] at B
    refine lv_aload_n hx hb dX0_add_19 rfl (lv_at hl 0 rfl) ?_
    refine lv_dup hx hb dX0_add_20 rfl ?_
    refine r_get (ci := 4) (C := RX0) (T := TX0) (N := 8) S F B (kq (by decide) : kd 162 = 14 ∧ 162 < NN) rfl rfl hiX0 3 (by decide) (by decide +kernel) rfl dX0_add_21 ?_
    refine lv_iconst (v := 1) hx hb dX0_add_24 (by decide) ?_
    refine lv_iadd hx hb dX0_add_25 ?_
    refine r_put (ci := 4) (C := RX0) (T := TX0) (N := 8) (ty := .int) S F B tyX0 tyX0_ok nmX0 (kq (by decide) : kd 162 = 14 ∧ 162 < NN) (fun _ => rfl) rfl hiX0 3 (by decide) (by decide +kernel) rfl rfl rfl rfl (fun _ => Nat.le_of_ble_eq_true rfl) (fun _ => rfl) dX0_add_26 (fun H locs B => ?_)
    obtain ⟨σ3, eσ3, ho⟩ := lt_ ho
    rw [← eσ3] at B
    cases ho
    exact e_v B hx hb hr hlocks dX0_add_29

set_option maxHeartbeats 4000000 in
set_option maxRecDepth 100000 in
theorem c_X0_kindOf (l : Launch) (G : Gd) (σ : Mm) (sz : Nat) (a0 : Int32) {out : Int32} (ho : f_X0_kindOf a0 σ = some out) : Met l yX0_kindOf wsX0_kindOf { frames := 0, cells := 0, slots := 0, locals := 0 } (va_Pc [.ref (G.2.2 162), .int a0] (PW G σ sz)) (Qi G sz out σ) 0 0 (AA G sz) := by
  refine Met.ofW (cc := cX0_kindOf) (maxL := 2) (ret := (some .char)) (by decide) rfl ?_
  intro p e s m args below meth c s₁ B0 hml hv
  obtain ⟨rfl, hpw⟩ := hv
  have hsz := hpw.1
  subst hsz
  obtain ⟨F, B⟩ := hpw.to
  have hx := B0.exec
  have hb := B0.bytes
  have hr := B0.returns
  have hts := atoms_spec (ws := wsX0_kindOf) B0.pre
  have hown : s.vm.findClass RX0 = some m.cls := findClass_of_methodNamed B0.named
  have hlocks := B0.notSynchronized
  have S : CallFix p m c cX0_kindOf 2 s _ wsX0_kindOf RX0 := ⟨hx, hb, hml, hown, hts⟩
  have hiX0 : ∀ w ∈ u_ws RX0 TX0 8, w ∈ wsX0_kindOf := by decide +kernel
  have hl := lv_entry [.ref (G.2.2 162), .int a0] (n := 2) (Nat.le_of_ble_eq_true rfl)
  rw [lg_entry_eq]
  generalize (lg_sl [.ref (G.2.2 162), .int a0] ++ List.replicate (2 - (lg_sl [.ref (G.2.2 162), .int a0]).length) Slot.unset).toArray = ls at hl ⊢
  have hl : lv_has ls 2 [(0, .ref (G.2.2 162)), (1, .int a0)] := hl
  unfold f_X0_kindOf at ho
  refine lv_iload_n hx hb dX0_kindOf_0 rfl (lv_at hl 1 rfl) ?_
  refine lv_if_lt (tgt := 21) hx hb dX0_kindOf_1 (by decide) (fun c1 => ?_) (fun c1 => ?_)
  · have ho := ip_ c1 ho
    refine lv_bipush (v := 32) hx hb dX0_kindOf_21 (by decide) ?_
    cases ho
    exact e_i B hx hb hr hlocks rfl rfl dX0_kindOf_23
  · have ho := in_ c1 ho
    refine lv_iload_n hx hb dX0_kindOf_4 rfl (lv_at hl 1 rfl) ?_
    refine lv_aload_n hx hb dX0_kindOf_5 rfl (lv_at hl 0 rfl) ?_
    refine r_get (ci := 4) (C := RX0) (T := TX0) (N := 8) S F B (kq (by decide) : kd 162 = 14 ∧ 162 < NN) rfl rfl hiX0 5 (by decide) (by decide +kernel) rfl dX0_kindOf_6 ?_
    refine lv_icmp_ge (tgt := 21) hx hb dX0_kindOf_9 (by decide) (fun c2 => ?_) (fun c2 => ?_)
    · have ho := ip_ c2 ho
      refine lv_bipush (v := 32) hx hb dX0_kindOf_21 (by decide) ?_
      cases ho
      exact e_i B hx hb hr hlocks rfl rfl dX0_kindOf_23
    · have ho := in_ c2 ho
      refine lv_aload_n hx hb dX0_kindOf_12 rfl (lv_at hl 0 rfl) ?_
      refine r_get (ci := 4) (C := RX0) (T := TX0) (N := 8) S F B (kq (by decide) : kd 162 = 14 ∧ 162 < NN) rfl rfl hiX0 1 (by decide) (by decide +kernel) rfl dX0_kindOf_13 ?_
      refine lv_iload_n hx hb dX0_kindOf_16 rfl (lv_at hl 1 rfl) ?_
      obtain ⟨hi, ho⟩ := gd_ ho
      refine r_cald S F B (kq (by decide) : kd 164 = 16 ∧ 164 < NN) rfl hi dX0_kindOf_17 ?_
      refine lv_goto (tgt := 23) hx hb dX0_kindOf_18 (by decide) ?_
      obtain ⟨hz, ho⟩ := cz_ ho
      cases ho
      exact e_i B hx hb hr hlocks hz rfl dX0_kindOf_23

set_option maxHeartbeats 4000000 in
set_option maxRecDepth 100000 in
theorem c_X0_numberOf (l : Launch) (G : Gd) (σ : Mm) (sz : Nat) (a0 : Int32) (a1 : Int32) {out : Int32} (ho : f_X0_numberOf a0 a1 σ = some out) : Met l yX0_numberOf wsX0_numberOf { frames := 0, cells := 0, slots := 0, locals := 0 } (va_Pc [.ref (G.2.2 162), .int a0, .int a1] (PW G σ sz)) (Qi G sz out σ) 0 0 (AA G sz) := by
  refine Met.ofW (cc := cX0_numberOf) (maxL := 4) (ret := (some .int)) (by decide) rfl ?_
  intro p e s m args below meth c s₁ B0 hml hv
  obtain ⟨rfl, hpw⟩ := hv
  have hsz := hpw.1
  subst hsz
  obtain ⟨F, B⟩ := hpw.to
  have hx := B0.exec
  have hb := B0.bytes
  have hr := B0.returns
  have hts := atoms_spec (ws := wsX0_numberOf) B0.pre
  have hown : s.vm.findClass RX0 = some m.cls := findClass_of_methodNamed B0.named
  have hlocks := B0.notSynchronized
  have S : CallFix p m c cX0_numberOf 4 s _ wsX0_numberOf RX0 := ⟨hx, hb, hml, hown, hts⟩
  have hiX0 : ∀ w ∈ u_ws RX0 TX0 8, w ∈ wsX0_numberOf := by decide +kernel
  have hl := lv_entry [.ref (G.2.2 162), .int a0, .int a1] (n := 4) (Nat.le_of_ble_eq_true rfl)
  rw [lg_entry_eq]
  generalize (lg_sl [.ref (G.2.2 162), .int a0, .int a1] ++ List.replicate (4 - (lg_sl [.ref (G.2.2 162), .int a0, .int a1]).length) Slot.unset).toArray = ls at hl ⊢
  have hl : lv_has ls 4 [(0, .ref (G.2.2 162)), (1, .int a0), (2, .int a1)] := hl
  unfold f_X0_numberOf at ho
  refine lv_iload_n hx hb dX0_numberOf_0 rfl (lv_at hl 1 rfl) ?_
  refine lv_if_lt (tgt := 25) hx hb dX0_numberOf_1 (by decide) (fun c1 => ?_) (fun c1 => ?_)
  · have ho := ip_ c1 ho
    refine lv_iconst (v := 0) hx hb dX0_numberOf_25 (by decide) ?_
    refine lv_istore_n (lv' := [(3, .int 0), (0, .ref (G.2.2 162)), (1, .int a0), (2, .int a1)]) hx hb dX0_numberOf_26 rfl hl (by decide) rfl (fun ls hl => ?_)
    refine lv_iload_n hx hb dX0_numberOf_27 rfl (lv_at hl 0 rfl) ?_
    refine lv_if_eq (tgt := 42) hx hb dX0_numberOf_28 (by decide) (fun _ => ?_) (fun h => absurd h (by decide))
    refine lv_iconst (v := (-1)) hx hb dX0_numberOf_42 (by decide) ?_
    cases ho
    exact e_i B hx hb hr hlocks rfl rfl dX0_numberOf_43
  · have ho := in_ c1 ho
    refine lv_iload_n hx hb dX0_numberOf_4 rfl (lv_at hl 1 rfl) ?_
    refine lv_aload_n hx hb dX0_numberOf_5 rfl (lv_at hl 0 rfl) ?_
    refine r_get (ci := 4) (C := RX0) (T := TX0) (N := 8) S F B (kq (by decide) : kd 162 = 14 ∧ 162 < NN) rfl rfl hiX0 5 (by decide) (by decide +kernel) rfl dX0_numberOf_6 ?_
    refine lv_icmp_ge (tgt := 25) hx hb dX0_numberOf_9 (by decide) (fun c2 => ?_) (fun c2 => ?_)
    · have ho := ip_ c2 ho
      refine lv_iconst (v := 0) hx hb dX0_numberOf_25 (by decide) ?_
      refine lv_istore_n (lv' := [(3, .int 0), (0, .ref (G.2.2 162)), (1, .int a0), (2, .int a1)]) hx hb dX0_numberOf_26 rfl hl (by decide) rfl (fun ls hl => ?_)
      refine lv_iload_n hx hb dX0_numberOf_27 rfl (lv_at hl 0 rfl) ?_
      refine lv_if_eq (tgt := 42) hx hb dX0_numberOf_28 (by decide) (fun _ => ?_) (fun h => absurd h (by decide))
      refine lv_iconst (v := (-1)) hx hb dX0_numberOf_42 (by decide) ?_
      cases ho
      exact e_i B hx hb hr hlocks rfl rfl dX0_numberOf_43
    · have ho := in_ c2 ho
      refine lv_iload_n hx hb dX0_numberOf_12 rfl (lv_at hl 2 rfl) ?_
      refine lv_if_lt (tgt := 25) hx hb dX0_numberOf_13 (by decide) (fun c3 => ?_) (fun c3 => ?_)
      · have ho := ip_ c3 ho
        refine lv_iconst (v := 0) hx hb dX0_numberOf_25 (by decide) ?_
        refine lv_istore_n (lv' := [(3, .int 0), (0, .ref (G.2.2 162)), (1, .int a0), (2, .int a1)]) hx hb dX0_numberOf_26 rfl hl (by decide) rfl (fun ls hl => ?_)
        refine lv_iload_n hx hb dX0_numberOf_27 rfl (lv_at hl 0 rfl) ?_
        refine lv_if_eq (tgt := 42) hx hb dX0_numberOf_28 (by decide) (fun _ => ?_) (fun h => absurd h (by decide))
        refine lv_iconst (v := (-1)) hx hb dX0_numberOf_42 (by decide) ?_
        cases ho
        exact e_i B hx hb hr hlocks rfl rfl dX0_numberOf_43
      · have ho := in_ c3 ho
        refine lv_iload_n hx hb dX0_numberOf_16 rfl (lv_at hl 2 rfl) ?_
        refine lv_iconst (v := 3) hx hb dX0_numberOf_17 (by decide) ?_
        refine lv_icmp_ge (tgt := 25) hx hb dX0_numberOf_18 (by decide) (fun c4 => ?_) (fun c4 => ?_)
        · have ho := ip_ c4 ho
          refine lv_iconst (v := 0) hx hb dX0_numberOf_25 (by decide) ?_
          refine lv_istore_n (lv' := [(3, .int 0), (0, .ref (G.2.2 162)), (1, .int a0), (2, .int a1)]) hx hb dX0_numberOf_26 rfl hl (by decide) rfl (fun ls hl => ?_)
          refine lv_iload_n hx hb dX0_numberOf_27 rfl (lv_at hl 0 rfl) ?_
          refine lv_if_eq (tgt := 42) hx hb dX0_numberOf_28 (by decide) (fun _ => ?_) (fun h => absurd h (by decide))
          refine lv_iconst (v := (-1)) hx hb dX0_numberOf_42 (by decide) ?_
          cases ho
          exact e_i B hx hb hr hlocks rfl rfl dX0_numberOf_43
        · have ho := in_ c4 ho
          refine lv_iconst (v := 1) hx hb dX0_numberOf_21 (by decide) ?_
          refine lv_goto (tgt := 26) hx hb dX0_numberOf_22 (by decide) ?_
          refine lv_istore_n (lv' := [(3, .int 1), (0, .ref (G.2.2 162)), (1, .int a0), (2, .int a1)]) hx hb dX0_numberOf_26 rfl hl (by decide) rfl (fun ls hl => ?_)
          refine lv_iload_n hx hb dX0_numberOf_27 rfl (lv_at hl 0 rfl) ?_
          refine lv_if_eq (tgt := 42) hx hb dX0_numberOf_28 (by decide) (fun h => absurd h (by decide)) (fun _ => ?_)
          refine lv_aload_n hx hb dX0_numberOf_31 rfl (lv_at hl 1 rfl) ?_
          refine r_get (ci := 4) (C := RX0) (T := TX0) (N := 8) S F B (kq (by decide) : kd 162 = 14 ∧ 162 < NN) rfl rfl hiX0 2 (by decide) (by decide +kernel) rfl dX0_numberOf_32 ?_
          refine lv_iload_n hx hb dX0_numberOf_35 rfl (lv_at hl 2 rfl) ?_
          obtain ⟨i5, ho⟩ := gd_ ho
          refine r_aaldA (t := 6) S F B (kq (by decide) : kd 165 = 17 ∧ 165 < NN) rfl rfl i5 dX0_numberOf_36 ?_
          refine lv_iload_n hx hb dX0_numberOf_37 rfl (lv_at hl 3 rfl) ?_
          obtain ⟨hi, ho⟩ := gd_ ho
          refine r_iald S F B (kgN i5 : kd (166 + a0.toNatClampNeg) = 18 ∧ (166 + a0.toNatClampNeg) < NN) rfl hi dX0_numberOf_38 ?_
          refine lv_goto (tgt := 43) hx hb dX0_numberOf_39 (by decide) ?_
          cases ho
          exact e_i B hx hb hr hlocks rfl rfl dX0_numberOf_43

set_option maxHeartbeats 4000000 in
set_option maxRecDepth 100000 in
theorem c_X0_takeSign (l : Launch) (G : Gd) (σ : Mm) (sz : Nat) (a0 : Int32) {out : Int32 × Mm} (ho : f_X0_takeSign a0 σ = some out) : Met l yX0_takeSign wsX0_takeSign { frames := 0, cells := 0, slots := 0, locals := 0 } (va_Pc [.ref (G.2.2 162), .int a0] (PW G σ sz)) (Qi G sz out.1 out.2) 0 0 (AA G sz) := by
  refine Met.ofW (cc := cX0_takeSign) (maxL := 2) (ret := (some .boolean)) (by decide) rfl ?_
  intro p e s m args below meth c s₁ B0 hml hv
  obtain ⟨rfl, hpw⟩ := hv
  have hsz := hpw.1
  subst hsz
  obtain ⟨F, B⟩ := hpw.to
  have hx := B0.exec
  have hb := B0.bytes
  have hr := B0.returns
  have hts := atoms_spec (ws := wsX0_takeSign) B0.pre
  have hown : s.vm.findClass RX0 = some m.cls := findClass_of_methodNamed B0.named
  have hlocks := B0.notSynchronized
  have S : CallFix p m c cX0_takeSign 2 s _ wsX0_takeSign RX0 := ⟨hx, hb, hml, hown, hts⟩
  have hiX0 : ∀ w ∈ u_ws RX0 TX0 8, w ∈ wsX0_takeSign := by decide +kernel
  have hl := lv_entry [.ref (G.2.2 162), .int a0] (n := 2) (Nat.le_of_ble_eq_true rfl)
  rw [lg_entry_eq]
  generalize (lg_sl [.ref (G.2.2 162), .int a0] ++ List.replicate (2 - (lg_sl [.ref (G.2.2 162), .int a0]).length) Slot.unset).toArray = ls at hl ⊢
  have hl : lv_has ls 2 [(0, .ref (G.2.2 162)), (1, .int a0)] := hl
  unfold f_X0_takeSign at ho
  refine lv_aload_n hx hb dX0_takeSign_0 rfl (lv_at hl 0 rfl) ?_
  refine r_get (ci := 4) (C := RX0) (T := TX0) (N := 8) S F B (kq (by decide) : kd 162 = 14 ∧ 162 < NN) rfl rfl hiX0 4 (by decide) (by decide +kernel) rfl dX0_takeSign_1 ?_
  refine lv_aload_n hx hb dX0_takeSign_4 rfl (lv_at hl 0 rfl) ?_
  refine r_get (ci := 4) (C := RX0) (T := TX0) (N := 8) S F B (kq (by decide) : kd 162 = 14 ∧ 162 < NN) rfl rfl hiX0 3 (by decide) (by decide +kernel) rfl dX0_takeSign_5 ?_
  refine lv_icmp_ge (tgt := 24) hx hb dX0_takeSign_8 (by decide) (fun c1 => ?_) (fun c1 => ?_)
  · have ho := ip_ c1 ho
    refine lv_iconst (v := 0) hx hb dX0_takeSign_24 (by decide) ?_
    cases ho
    exact e_i B hx hb hr hlocks rfl rfl dX0_takeSign_25
  · have ho := in_ c1 ho
    refine lv_aload_n hx hb dX0_takeSign_11 rfl (lv_at hl 0 rfl) ?_
    refine r_get (ci := 4) (C := RX0) (T := TX0) (N := 8) S F B (kq (by decide) : kd 162 = 14 ∧ 162 < NN) rfl rfl hiX0 0 (by decide) (by decide +kernel) rfl dX0_takeSign_12 ?_
    refine lv_aload_n hx hb dX0_takeSign_15 rfl (lv_at hl 0 rfl) ?_
    refine r_get (ci := 4) (C := RX0) (T := TX0) (N := 8) S F B (kq (by decide) : kd 162 = 14 ∧ 162 < NN) rfl rfl hiX0 4 (by decide) (by decide +kernel) rfl dX0_takeSign_16 ?_
    obtain ⟨hi, ho⟩ := gd_ ho
    refine r_cald S F B (kq (by decide) : kd 163 = 15 ∧ 163 < NN) rfl hi dX0_takeSign_19 ?_
    refine lv_iload_n hx hb dX0_takeSign_20 rfl (lv_at hl 1 rfl) ?_
    refine lv_icmp_eq (tgt := 26) hx hb dX0_takeSign_21 (by decide) (fun c2 => ?_) (fun c2 => ?_)
    · have ho := ip_ c2 ho
      refine lv_aload_n hx hb dX0_takeSign_26 rfl (lv_at hl 0 rfl) ?_
      refine lv_dup hx hb dX0_takeSign_27 rfl ?_
      refine r_get (ci := 4) (C := RX0) (T := TX0) (N := 8) S F B (kq (by decide) : kd 162 = 14 ∧ 162 < NN) rfl rfl hiX0 4 (by decide) (by decide +kernel) rfl dX0_takeSign_28 ?_
      refine lv_iconst (v := 1) hx hb dX0_takeSign_31 (by decide) ?_
      refine lv_iadd hx hb dX0_takeSign_32 ?_
      refine r_put (ci := 4) (C := RX0) (T := TX0) (N := 8) (ty := .int) S F B tyX0 tyX0_ok nmX0 (kq (by decide) : kd 162 = 14 ∧ 162 < NN) (fun _ => rfl) rfl hiX0 4 (by decide) (by decide +kernel) rfl rfl rfl rfl (fun _ => Nat.le_of_ble_eq_true rfl) (fun _ => rfl) dX0_takeSign_33 (fun H locs B => ?_)
      obtain ⟨σ3, eσ3, ho⟩ := lt_ ho
      rw [← eσ3] at B
      refine lv_iconst (v := 1) hx hb dX0_takeSign_36 (by decide) ?_
      cases ho
      exact e_i B hx hb hr hlocks rfl rfl dX0_takeSign_37
    · have ho := in_ c2 ho
      refine lv_iconst (v := 0) hx hb dX0_takeSign_24 (by decide) ?_
      cases ho
      exact e_i B hx hb hr hlocks rfl rfl dX0_takeSign_25

set_option maxHeartbeats 4000000 in
set_option maxRecDepth 100000 in
theorem c_X0_isAtDigit (l : Launch) (G : Gd) (σ : Mm) (sz : Nat) {out : Int32} (ho : f_X0_isAtDigit σ = some out) : Met l yX0_isAtDigit wsX0_isAtDigit { frames := 0, cells := 0, slots := 0, locals := 0 } (va_Pc [.ref (G.2.2 162)] (PW G σ sz)) (Qi G sz out σ) 0 0 (AA G sz) := by
  refine Met.ofW (cc := cX0_isAtDigit) (maxL := 1) (ret := (some .boolean)) (by decide) rfl ?_
  intro p e s m args below meth c s₁ B0 hml hv
  obtain ⟨rfl, hpw⟩ := hv
  have hsz := hpw.1
  subst hsz
  obtain ⟨F, B⟩ := hpw.to
  have hx := B0.exec
  have hb := B0.bytes
  have hr := B0.returns
  have hts := atoms_spec (ws := wsX0_isAtDigit) B0.pre
  have hown : s.vm.findClass RX0 = some m.cls := findClass_of_methodNamed B0.named
  have hlocks := B0.notSynchronized
  have S : CallFix p m c cX0_isAtDigit 1 s _ wsX0_isAtDigit RX0 := ⟨hx, hb, hml, hown, hts⟩
  have hiX0 : ∀ w ∈ u_ws RX0 TX0 8, w ∈ wsX0_isAtDigit := by decide +kernel
  have hl := lv_entry [.ref (G.2.2 162)] (n := 1) (Nat.le_of_ble_eq_true rfl)
  rw [lg_entry_eq]
  generalize (lg_sl [.ref (G.2.2 162)] ++ List.replicate (1 - (lg_sl [.ref (G.2.2 162)]).length) Slot.unset).toArray = ls at hl ⊢
  have hl : lv_has ls 1 [(0, .ref (G.2.2 162))] := hl
  unfold f_X0_isAtDigit at ho
  refine lv_aload_n hx hb dX0_isAtDigit_0 rfl (lv_at hl 0 rfl) ?_
  refine r_get (ci := 4) (C := RX0) (T := TX0) (N := 8) S F B (kq (by decide) : kd 162 = 14 ∧ 162 < NN) rfl rfl hiX0 4 (by decide) (by decide +kernel) rfl dX0_isAtDigit_1 ?_
  refine lv_aload_n hx hb dX0_isAtDigit_4 rfl (lv_at hl 0 rfl) ?_
  refine r_get (ci := 4) (C := RX0) (T := TX0) (N := 8) S F B (kq (by decide) : kd 162 = 14 ∧ 162 < NN) rfl rfl hiX0 3 (by decide) (by decide +kernel) rfl dX0_isAtDigit_5 ?_
  refine lv_icmp_ge (tgt := 43) hx hb dX0_isAtDigit_8 (by decide) (fun c1 => ?_) (fun c1 => ?_)
  · have ho := ip_ c1 ho
    refine lv_iconst (v := 0) hx hb dX0_isAtDigit_43 (by decide) ?_
    cases ho
    exact e_i B hx hb hr hlocks rfl rfl dX0_isAtDigit_44
  · have ho := in_ c1 ho
    refine lv_aload_n hx hb dX0_isAtDigit_11 rfl (lv_at hl 0 rfl) ?_
    refine r_get (ci := 4) (C := RX0) (T := TX0) (N := 8) S F B (kq (by decide) : kd 162 = 14 ∧ 162 < NN) rfl rfl hiX0 0 (by decide) (by decide +kernel) rfl dX0_isAtDigit_12 ?_
    refine lv_aload_n hx hb dX0_isAtDigit_15 rfl (lv_at hl 0 rfl) ?_
    refine r_get (ci := 4) (C := RX0) (T := TX0) (N := 8) S F B (kq (by decide) : kd 162 = 14 ∧ 162 < NN) rfl rfl hiX0 4 (by decide) (by decide +kernel) rfl dX0_isAtDigit_16 ?_
    obtain ⟨hi, ho⟩ := gd_ ho
    refine r_cald S F B (kq (by decide) : kd 163 = 15 ∧ 163 < NN) rfl hi dX0_isAtDigit_19 ?_
    refine lv_bipush (v := 48) hx hb dX0_isAtDigit_20 (by decide) ?_
    refine lv_icmp_lt (tgt := 43) hx hb dX0_isAtDigit_22 (by decide) (fun c2 => ?_) (fun c2 => ?_)
    · have ho := ip_ c2 ho
      refine lv_iconst (v := 0) hx hb dX0_isAtDigit_43 (by decide) ?_
      cases ho
      exact e_i B hx hb hr hlocks rfl rfl dX0_isAtDigit_44
    · have ho := in_ c2 ho
      refine lv_aload_n hx hb dX0_isAtDigit_25 rfl (lv_at hl 0 rfl) ?_
      refine r_get (ci := 4) (C := RX0) (T := TX0) (N := 8) S F B (kq (by decide) : kd 162 = 14 ∧ 162 < NN) rfl rfl hiX0 0 (by decide) (by decide +kernel) rfl dX0_isAtDigit_26 ?_
      refine lv_aload_n hx hb dX0_isAtDigit_29 rfl (lv_at hl 0 rfl) ?_
      refine r_get (ci := 4) (C := RX0) (T := TX0) (N := 8) S F B (kq (by decide) : kd 162 = 14 ∧ 162 < NN) rfl rfl hiX0 4 (by decide) (by decide +kernel) rfl dX0_isAtDigit_30 ?_
      obtain ⟨hi, ho⟩ := gd_ ho
      refine r_cald S F B (kq (by decide) : kd 163 = 15 ∧ 163 < NN) rfl hi dX0_isAtDigit_33 ?_
      refine lv_bipush (v := 57) hx hb dX0_isAtDigit_34 (by decide) ?_
      refine lv_icmp_gt (tgt := 43) hx hb dX0_isAtDigit_36 (by decide) (fun c3 => ?_) (fun c3 => ?_)
      · have ho := ip_ c3 ho
        refine lv_iconst (v := 0) hx hb dX0_isAtDigit_43 (by decide) ?_
        cases ho
        exact e_i B hx hb hr hlocks rfl rfl dX0_isAtDigit_44
      · have ho := in_ c3 ho
        refine lv_iconst (v := 1) hx hb dX0_isAtDigit_39 (by decide) ?_
        refine lv_goto (tgt := 44) hx hb dX0_isAtDigit_40 (by decide) ?_
        cases ho
        exact e_i B hx hb hr hlocks rfl rfl dX0_isAtDigit_44

set_option maxHeartbeats 4000000 in
set_option maxRecDepth 100000 in
theorem c_X0_keepNumber (l : Launch) (G : Gd) (σ : Mm) (sz : Nat) (a0 : Int32) {out : Int32 × Mm} (ho : f_X0_keepNumber a0 σ = some out) : Met l yX0_keepNumber wsX0_keepNumber { frames := 0, cells := 0, slots := 0, locals := 0 } (va_Pc [.ref (G.2.2 162), .int a0] (PW G σ sz)) (Qi G sz out.1 out.2) 0 0 (AA G sz) := by
  refine Met.ofW (cc := cX0_keepNumber) (maxL := 2) (ret := (some .boolean)) (by decide) rfl ?_
  intro p e s m args below meth c s₁ B0 hml hv
  obtain ⟨rfl, hpw⟩ := hv
  have hsz := hpw.1
  subst hsz
  obtain ⟨F, B⟩ := hpw.to
  have hx := B0.exec
  have hb := B0.bytes
  have hr := B0.returns
  have hts := atoms_spec (ws := wsX0_keepNumber) B0.pre
  have hown : s.vm.findClass RX0 = some m.cls := findClass_of_methodNamed B0.named
  have hlocks := B0.notSynchronized
  have S : CallFix p m c cX0_keepNumber 2 s _ wsX0_keepNumber RX0 := ⟨hx, hb, hml, hown, hts⟩
  have hiX0 : ∀ w ∈ u_ws RX0 TX0 8, w ∈ wsX0_keepNumber := by decide +kernel
  have hl := lv_entry [.ref (G.2.2 162), .int a0] (n := 2) (Nat.le_of_ble_eq_true rfl)
  rw [lg_entry_eq]
  generalize (lg_sl [.ref (G.2.2 162), .int a0] ++ List.replicate (2 - (lg_sl [.ref (G.2.2 162), .int a0]).length) Slot.unset).toArray = ls at hl ⊢
  have hl : lv_has ls 2 [(0, .ref (G.2.2 162)), (1, .int a0)] := hl
  unfold f_X0_keepNumber at ho
  refine lv_aload_n hx hb dX0_keepNumber_0 rfl (lv_at hl 0 rfl) ?_
  refine r_get (ci := 4) (C := RX0) (T := TX0) (N := 8) S F B (kq (by decide) : kd 162 = 14 ∧ 162 < NN) rfl rfl hiX0 5 (by decide) (by decide +kernel) rfl dX0_keepNumber_1 ?_
  refine lv_bipush (v := 30) hx hb dX0_keepNumber_4 (by decide) ?_
  refine lv_icmp_ge (tgt := 17) hx hb dX0_keepNumber_6 (by decide) (fun c1 => ?_) (fun c1 => ?_)
  · have ho := ip_ c1 ho
    refine lv_iconst (v := 0) hx hb dX0_keepNumber_17 (by decide) ?_
    cases ho
    exact e_i B hx hb hr hlocks rfl rfl dX0_keepNumber_18
  · have ho := in_ c1 ho
    refine lv_aload_n hx hb dX0_keepNumber_9 rfl (lv_at hl 0 rfl) ?_
    refine r_get (ci := 4) (C := RX0) (T := TX0) (N := 8) S F B (kq (by decide) : kd 162 = 14 ∧ 162 < NN) rfl rfl hiX0 6 (by decide) (by decide +kernel) rfl dX0_keepNumber_10 ?_
    refine lv_iconst (v := 3) hx hb dX0_keepNumber_13 (by decide) ?_
    refine lv_icmp_lt (tgt := 19) hx hb dX0_keepNumber_14 (by decide) (fun c2 => ?_) (fun c2 => ?_)
    · have ho := ip_ c2 ho
      refine lv_aload_n hx hb dX0_keepNumber_19 rfl (lv_at hl 0 rfl) ?_
      refine r_get (ci := 4) (C := RX0) (T := TX0) (N := 8) S F B (kq (by decide) : kd 162 = 14 ∧ 162 < NN) rfl rfl hiX0 2 (by decide) (by decide +kernel) rfl dX0_keepNumber_20 ?_
      refine lv_aload_n hx hb dX0_keepNumber_23 rfl (lv_at hl 0 rfl) ?_
      refine r_get (ci := 4) (C := RX0) (T := TX0) (N := 8) S F B (kq (by decide) : kd 162 = 14 ∧ 162 < NN) rfl rfl hiX0 5 (by decide) (by decide +kernel) rfl dX0_keepNumber_24 ?_
      obtain ⟨i3, ho⟩ := gd_ ho
      refine r_aaldA (t := 6) S F B (kq (by decide) : kd 165 = 17 ∧ 165 < NN) rfl rfl i3 dX0_keepNumber_27 ?_
      refine lv_aload_n hx hb dX0_keepNumber_28 rfl (lv_at hl 0 rfl) ?_
      refine r_get (ci := 4) (C := RX0) (T := TX0) (N := 8) S F B (kq (by decide) : kd 162 = 14 ∧ 162 < NN) rfl rfl hiX0 6 (by decide) (by decide +kernel) rfl dX0_keepNumber_29 ?_
      refine lv_iload_n hx hb dX0_keepNumber_32 rfl (lv_at hl 1 rfl) ?_
      obtain ⟨hi, ho⟩ := gd_ ho
      refine r_iast S F B (kgN i3 : kd (166 + (σ 162 5).toNatClampNeg) = 18 ∧ (166 + (σ 162 5).toNatClampNeg) < NN) (fun _ => rfl) hi dX0_keepNumber_33 (fun H locs B => ?_)
      obtain ⟨σ4, eσ4, ho⟩ := lt_ ho
      rw [← eσ4] at B
      refine lv_aload_n hx hb dX0_keepNumber_34 rfl (lv_at hl 0 rfl) ?_
      refine lv_dup hx hb dX0_keepNumber_35 rfl ?_
      refine r_get (ci := 4) (C := RX0) (T := TX0) (N := 8) S F B (kq (by decide) : kd 162 = 14 ∧ 162 < NN) rfl rfl hiX0 6 (by decide) (by decide +kernel) rfl dX0_keepNumber_36 ?_
      refine lv_iconst (v := 1) hx hb dX0_keepNumber_39 (by decide) ?_
      refine lv_iadd hx hb dX0_keepNumber_40 ?_
      refine r_put (ci := 4) (C := RX0) (T := TX0) (N := 8) (ty := .int) S F B tyX0 tyX0_ok nmX0 (kq (by decide) : kd 162 = 14 ∧ 162 < NN) (fun _ => rfl) rfl hiX0 6 (by decide) (by decide +kernel) rfl rfl rfl rfl (fun _ => Nat.le_of_ble_eq_true rfl) (fun _ => rfl) dX0_keepNumber_41 (fun H locs B => ?_)
      obtain ⟨σ5, eσ5, ho⟩ := lt_ ho
      rw [← eσ5] at B
      refine lv_iconst (v := 1) hx hb dX0_keepNumber_44 (by decide) ?_
      cases ho
      exact e_i B hx hb hr hlocks rfl rfl dX0_keepNumber_45
    · have ho := in_ c2 ho
      refine lv_iconst (v := 0) hx hb dX0_keepNumber_17 (by decide) ?_
      cases ho
      exact e_i B hx hb hr hlocks rfl rfl dX0_keepNumber_18

set_option maxHeartbeats 4000000 in
set_option maxRecDepth 100000 in
theorem c_X0_readNumber (l : Launch) (G : Gd) (σ : Mm) (sz : Nat) (a0 : Int32) {out : Int32 × Mm} (ho : f_X0_readNumber a0 σ = some out) : Met l yX0_readNumber wsX0_readNumber { frames := 1, cells := 0, slots := 0, locals := 21 } (va_Pc [.ref (G.2.2 162), .int a0] (PW G σ sz)) (Qi G sz out.1 out.2) 0 0 (AA G sz) := by
  refine Met.ofW (cc := cX0_readNumber) (maxL := 4) (ret := (some .boolean)) (by decide) rfl ?_
  intro p e s m args below meth c s₁ B0 hml hv
  obtain ⟨rfl, hpw⟩ := hv
  have hsz := hpw.1
  subst hsz
  obtain ⟨F, B⟩ := hpw.to
  have hx := B0.exec
  have hb := B0.bytes
  have hr := B0.returns
  have hts := atoms_spec (ws := wsX0_readNumber) B0.pre
  have hown : s.vm.findClass RX0 = some m.cls := findClass_of_methodNamed B0.named
  have hlocks := B0.notSynchronized
  have S : CallFix p m c cX0_readNumber 4 s _ wsX0_readNumber RX0 := ⟨hx, hb, hml, hown, hts⟩
  have hiX0 : ∀ w ∈ u_ws RX0 TX0 8, w ∈ wsX0_readNumber := by decide +kernel
  have hl := lv_entry [.ref (G.2.2 162), .int a0] (n := 4) (Nat.le_of_ble_eq_true rfl)
  rw [lg_entry_eq]
  generalize (lg_sl [.ref (G.2.2 162), .int a0] ++ List.replicate (4 - (lg_sl [.ref (G.2.2 162), .int a0]).length) Slot.unset).toArray = ls at hl ⊢
  have hl : lv_has ls 4 [(0, .ref (G.2.2 162)), (1, .int a0)] := hl
  unfold f_X0_readNumber at ho
  skip
  refine lv_aload_n hx hb dX0_readNumber_0 rfl (lv_at hl 0 rfl) ?_
  obtain ⟨q1, hq1, ho⟩ := bnd_ ho
  refine k_iV (As := []) (rest := []) S F B (c_X0_isAtDigit l G σ _ hq1) (kq (by decide) : kd 162 = 14 ∧ 162 < NN) rfl rfl (cwV 0 hts gX0_readNumber_X0_isAtDigit rfl rfl rfl (by decide +kernel) ⟨Nat.le_of_ble_eq_true rfl, Nat.le_of_ble_eq_true rfl⟩) rfl hl.1 rfl (Nat.le_of_ble_eq_true rfl) dX0_readNumber_1 ⟨Nat.le_of_ble_eq_true rfl, Nat.le_of_ble_eq_true rfl⟩ (fun H locs B => ?_)
  refine lv_if_ne (tgt := 9) hx hb dX0_readNumber_4 (by decide) (fun c2 => ?_) (fun c2 => ?_)
  · have ho := in_ c2 ho
    refine lv_iconst (v := 0) hx hb dX0_readNumber_9 (by decide) ?_
    refine lv_istore_n (lv' := [(2, .int 0), (0, .ref (G.2.2 162)), (1, .int a0)]) hx hb dX0_readNumber_10 rfl hl (by decide) rfl (fun ls hl => ?_)
    refine lv_iconst (v := 0) hx hb dX0_readNumber_11 (by decide) ?_
    refine lv_istore_n (lv' := [(3, .int 0), (2, .int 0), (0, .ref (G.2.2 162)), (1, .int a0)]) hx hb dX0_readNumber_12 rfl hl (by decide) rfl (fun ls hl => ?_)
    have hloop13 : ∀ (n : Nat) (v7 : Int32) (v8 : Int32) (σ9 : Mm) (H : Heap) (locs : List Loc) (ls : Array Slot), f_X0_readNumber_l13  a0 n v7 v8 σ9 = some out → Bd G σ9 s H locs → lv_has ls 4 [(3, .int v7), (2, .int v8), (0, .ref (G.2.2 162)), (1, .int a0)] → W p l e (headSpec wsX0_readNumber { frames := 1, cells := 0, slots := 0, locals := 21 }).room s m #[.ref (G.2.2 162), .int a0] below meth c H locs 0 0 (MQ below (Qi G s.heap.size out.1 out.2) #[.ref (G.2.2 162), .int a0] s 0 0 (AA G s.heap.size)) (F0 m 13 ls []) := by
      intro n
      induction n with
      | zero => intro v7 v8 σ9 H locs ls ho B hl; cases ho
      | succ n ih =>
        intro v7 v8 σ9 H locs ls ho B hl
        refine lv_iload_n hx hb dX0_readNumber_13 rfl (lv_at hl 0 rfl) ?_
        refine lv_iload_n hx hb dX0_readNumber_14 rfl (lv_at hl 3 rfl) ?_
        refine lv_icmp_ge (tgt := 59) hx hb dX0_readNumber_15 (by decide) (fun c10 => ?_) (fun c10 => ?_)
        · have ho := ip_ c10 ho
          refine lv_aload_n hx hb dX0_readNumber_59 rfl (lv_at hl 2 rfl) ?_
          refine lv_iload_n hx hb dX0_readNumber_60 rfl (lv_at hl 1 rfl) ?_
          obtain ⟨q11, σ12, hq11, ho⟩ := bnm_ ho
          refine k_iV (As := [.int v8]) (rest := []) S F B (c_X0_keepNumber l G σ9 _ v8 hq11) (kq (by decide) : kd 162 = 14 ∧ 162 < NN) rfl rfl (cwV 1 hts gX0_readNumber_X0_keepNumber rfl rfl rfl (by decide +kernel) ⟨Nat.le_of_ble_eq_true rfl, Nat.le_of_ble_eq_true rfl⟩) rfl hl.1 rfl (Nat.le_of_ble_eq_true rfl) dX0_readNumber_61 ⟨Nat.le_of_ble_eq_true rfl, Nat.le_of_ble_eq_true rfl⟩ (fun H locs B => ?_)
          obtain ⟨hz, ho⟩ := bz_ ho
          cases ho
          exact e_i B hx hb hr hlocks hz rfl dX0_readNumber_64
        · have ho := in_ c10 ho
          refine lv_aload_n hx hb dX0_readNumber_18 rfl (lv_at hl 2 rfl) ?_
          obtain ⟨q13, hq13, ho⟩ := bnd_ ho
          refine k_iV (As := []) (rest := []) S F B (c_X0_isAtDigit l G σ9 _ hq13) (kq (by decide) : kd 162 = 14 ∧ 162 < NN) rfl rfl (cwV 0 hts gX0_readNumber_X0_isAtDigit rfl rfl rfl (by decide +kernel) ⟨Nat.le_of_ble_eq_true rfl, Nat.le_of_ble_eq_true rfl⟩) rfl hl.1 rfl (Nat.le_of_ble_eq_true rfl) dX0_readNumber_19 ⟨Nat.le_of_ble_eq_true rfl, Nat.le_of_ble_eq_true rfl⟩ (fun H locs B => ?_)
          refine lv_if_eq (tgt := 59) hx hb dX0_readNumber_22 (by decide) (fun c14 => ?_) (fun c14 => ?_)
          · have ho := ip_ c14 ho
            refine lv_aload_n hx hb dX0_readNumber_59 rfl (lv_at hl 2 rfl) ?_
            refine lv_iload_n hx hb dX0_readNumber_60 rfl (lv_at hl 1 rfl) ?_
            obtain ⟨q15, σ16, hq15, ho⟩ := bnm_ ho
            refine k_iV (As := [.int v8]) (rest := []) S F B (c_X0_keepNumber l G σ9 _ v8 hq15) (kq (by decide) : kd 162 = 14 ∧ 162 < NN) rfl rfl (cwV 1 hts gX0_readNumber_X0_keepNumber rfl rfl rfl (by decide +kernel) ⟨Nat.le_of_ble_eq_true rfl, Nat.le_of_ble_eq_true rfl⟩) rfl hl.1 rfl (Nat.le_of_ble_eq_true rfl) dX0_readNumber_61 ⟨Nat.le_of_ble_eq_true rfl, Nat.le_of_ble_eq_true rfl⟩ (fun H locs B => ?_)
            obtain ⟨hz, ho⟩ := bz_ ho
            cases ho
            exact e_i B hx hb hr hlocks hz rfl dX0_readNumber_64
          · have ho := in_ c14 ho
            refine lv_iload_n hx hb dX0_readNumber_25 rfl (lv_at hl 1 rfl) ?_
            refine lv_bipush (v := 10) hx hb dX0_readNumber_26 (by decide) ?_
            refine lv_imul hx hb dX0_readNumber_28 ?_
            refine lv_aload_n hx hb dX0_readNumber_29 rfl (lv_at hl 2 rfl) ?_
            refine r_get (ci := 4) (C := RX0) (T := TX0) (N := 8) S F B (kq (by decide) : kd 162 = 14 ∧ 162 < NN) rfl rfl hiX0 0 (by decide) (by decide +kernel) rfl dX0_readNumber_30 ?_
            refine lv_aload_n hx hb dX0_readNumber_33 rfl (lv_at hl 2 rfl) ?_
            refine r_get (ci := 4) (C := RX0) (T := TX0) (N := 8) S F B (kq (by decide) : kd 162 = 14 ∧ 162 < NN) rfl rfl hiX0 4 (by decide) (by decide +kernel) rfl dX0_readNumber_34 ?_
            obtain ⟨hi, ho⟩ := gd_ ho
            refine r_cald S F B (kq (by decide) : kd 163 = 15 ∧ 163 < NN) rfl hi dX0_readNumber_37 ?_
            refine lv_iadd hx hb dX0_readNumber_38 ?_
            refine lv_bipush (v := 48) hx hb dX0_readNumber_39 (by decide) ?_
            refine lv_isub hx hb dX0_readNumber_41 ?_
            obtain ⟨x17, ex17, ho⟩ := lt_ ho
            refine lv_nm ex17 ?_
            refine lv_istore_n (lv' := [(2, .int x17), (3, .int v7), (0, .ref (G.2.2 162)), (1, .int a0)]) hx hb dX0_readNumber_42 rfl hl (by decide) rfl (fun ls hl => ?_)
            refine lv_aload_n hx hb dX0_readNumber_43 rfl (lv_at hl 2 rfl) ?_
            refine lv_dup hx hb dX0_readNumber_44 rfl ?_
            refine r_get (ci := 4) (C := RX0) (T := TX0) (N := 8) S F B (kq (by decide) : kd 162 = 14 ∧ 162 < NN) rfl rfl hiX0 4 (by decide) (by decide +kernel) rfl dX0_readNumber_45 ?_
            refine lv_iconst (v := 1) hx hb dX0_readNumber_48 (by decide) ?_
            refine lv_iadd hx hb dX0_readNumber_49 ?_
            refine r_put (ci := 4) (C := RX0) (T := TX0) (N := 8) (ty := .int) S F B tyX0 tyX0_ok nmX0 (kq (by decide) : kd 162 = 14 ∧ 162 < NN) (fun _ => rfl) rfl hiX0 4 (by decide) (by decide +kernel) rfl rfl rfl rfl (fun _ => Nat.le_of_ble_eq_true rfl) (fun _ => rfl) dX0_readNumber_50 (fun H locs B => ?_)
            obtain ⟨σ18, eσ18, ho⟩ := lt_ ho
            rw [← eσ18] at B
            obtain ⟨x19, ex19, ho⟩ := lt_ ho
            refine lv_iinc (v := x19) (lv' := [(3, .int x19), (2, .int x17), (0, .ref (G.2.2 162)), (1, .int a0)]) hx hb dX0_readNumber_53 hl (k := 1) rfl (by rw [ex19]; rfl) (by decide) rfl (fun ls hl => ?_)
            refine lv_goto (tgt := 13) hx hb dX0_readNumber_56 (by decide) ?_
            exact ih _ _ _ _ _ _ ho B (lv_sub hl [0, 1, 2, 3] rfl)
    exact hloop13 4 _ _ _ _ _ _ ho B hl
  · have ho := ip_ c2 ho
    refine lv_iconst (v := 0) hx hb dX0_readNumber_7 (by decide) ?_
    cases ho
    exact e_i B hx hb hr hlocks rfl rfl dX0_readNumber_8

set_option maxHeartbeats 4000000 in
set_option maxRecDepth 100000 in
theorem c_X0_readDirection (l : Launch) (G : Gd) (σ : Mm) (sz : Nat) {out : Int32 × Mm} (ho : f_X0_readDirection σ = some out) : Met l yX0_readDirection wsX0_readDirection { frames := 1, cells := 0, slots := 0, locals := 21 } (va_Pc [.ref (G.2.2 162)] (PW G σ sz)) (Qi G sz out.1 out.2) 0 0 (AA G sz) := by
  refine Met.ofW (cc := cX0_readDirection) (maxL := 1) (ret := (some .boolean)) (by decide) rfl ?_
  intro p e s m args below meth c s₁ B0 hml hv
  obtain ⟨rfl, hpw⟩ := hv
  have hsz := hpw.1
  subst hsz
  obtain ⟨F, B⟩ := hpw.to
  have hx := B0.exec
  have hb := B0.bytes
  have hr := B0.returns
  have hts := atoms_spec (ws := wsX0_readDirection) B0.pre
  have hown : s.vm.findClass RX0 = some m.cls := findClass_of_methodNamed B0.named
  have hlocks := B0.notSynchronized
  have S : CallFix p m c cX0_readDirection 1 s _ wsX0_readDirection RX0 := ⟨hx, hb, hml, hown, hts⟩
  have hl := lv_entry [.ref (G.2.2 162)] (n := 1) (Nat.le_of_ble_eq_true rfl)
  rw [lg_entry_eq]
  generalize (lg_sl [.ref (G.2.2 162)] ++ List.replicate (1 - (lg_sl [.ref (G.2.2 162)]).length) Slot.unset).toArray = ls at hl ⊢
  have hl : lv_has ls 1 [(0, .ref (G.2.2 162))] := hl
  unfold f_X0_readDirection at ho
  refine lv_aload_n hx hb dX0_readDirection_0 rfl (lv_at hl 0 rfl) ?_
  refine lv_bipush (v := 110) hx hb dX0_readDirection_1 (by decide) ?_
  obtain ⟨q1, σ2, hq1, ho⟩ := bnm_ ho
  refine k_iV (As := [.int 110]) (rest := []) S F B (c_X0_takeSign l G σ _ 110 hq1) (kq (by decide) : kd 162 = 14 ∧ 162 < NN) rfl rfl (cwV 1 hts gX0_readDirection_X0_takeSign rfl rfl rfl (by decide +kernel) ⟨Nat.le_of_ble_eq_true rfl, Nat.le_of_ble_eq_true rfl⟩) rfl hl.1 rfl (Nat.le_of_ble_eq_true rfl) dX0_readDirection_3 ⟨Nat.le_of_ble_eq_true rfl, Nat.le_of_ble_eq_true rfl⟩ (fun H locs B => ?_)
  refine lv_if_eq (tgt := 15) hx hb dX0_readDirection_6 (by decide) (fun c3 => ?_) (fun c3 => ?_)
  · have ho := ip_ c3 ho
    refine lv_aload_n hx hb dX0_readDirection_15 rfl (lv_at hl 0 rfl) ?_
    refine lv_bipush (v := 101) hx hb dX0_readDirection_16 (by decide) ?_
    obtain ⟨q4, σ5, hq4, ho⟩ := bnm_ ho
    refine k_iV (As := [.int 101]) (rest := []) S F B (c_X0_takeSign l G σ2 _ 101 hq4) (kq (by decide) : kd 162 = 14 ∧ 162 < NN) rfl rfl (cwV 1 hts gX0_readDirection_X0_takeSign rfl rfl rfl (by decide +kernel) ⟨Nat.le_of_ble_eq_true rfl, Nat.le_of_ble_eq_true rfl⟩) rfl hl.1 rfl (Nat.le_of_ble_eq_true rfl) dX0_readDirection_18 ⟨Nat.le_of_ble_eq_true rfl, Nat.le_of_ble_eq_true rfl⟩ (fun H locs B => ?_)
    refine lv_if_eq (tgt := 30) hx hb dX0_readDirection_21 (by decide) (fun c6 => ?_) (fun c6 => ?_)
    · have ho := ip_ c6 ho
      refine lv_aload_n hx hb dX0_readDirection_30 rfl (lv_at hl 0 rfl) ?_
      refine lv_bipush (v := 115) hx hb dX0_readDirection_31 (by decide) ?_
      obtain ⟨q7, σ8, hq7, ho⟩ := bnm_ ho
      refine k_iV (As := [.int 115]) (rest := []) S F B (c_X0_takeSign l G σ5 _ 115 hq7) (kq (by decide) : kd 162 = 14 ∧ 162 < NN) rfl rfl (cwV 1 hts gX0_readDirection_X0_takeSign rfl rfl rfl (by decide +kernel) ⟨Nat.le_of_ble_eq_true rfl, Nat.le_of_ble_eq_true rfl⟩) rfl hl.1 rfl (Nat.le_of_ble_eq_true rfl) dX0_readDirection_33 ⟨Nat.le_of_ble_eq_true rfl, Nat.le_of_ble_eq_true rfl⟩ (fun H locs B => ?_)
      refine lv_if_eq (tgt := 45) hx hb dX0_readDirection_36 (by decide) (fun c9 => ?_) (fun c9 => ?_)
      · have ho := ip_ c9 ho
        refine lv_aload_n hx hb dX0_readDirection_45 rfl (lv_at hl 0 rfl) ?_
        refine lv_bipush (v := 119) hx hb dX0_readDirection_46 (by decide) ?_
        obtain ⟨q10, σ11, hq10, ho⟩ := bnm_ ho
        refine k_iV (As := [.int 119]) (rest := []) S F B (c_X0_takeSign l G σ8 _ 119 hq10) (kq (by decide) : kd 162 = 14 ∧ 162 < NN) rfl rfl (cwV 1 hts gX0_readDirection_X0_takeSign rfl rfl rfl (by decide +kernel) ⟨Nat.le_of_ble_eq_true rfl, Nat.le_of_ble_eq_true rfl⟩) rfl hl.1 rfl (Nat.le_of_ble_eq_true rfl) dX0_readDirection_48 ⟨Nat.le_of_ble_eq_true rfl, Nat.le_of_ble_eq_true rfl⟩ (fun H locs B => ?_)
        refine lv_if_eq (tgt := 66) hx hb dX0_readDirection_51 (by decide) (fun c12 => ?_) (fun c12 => ?_)
        · have ho := ip_ c12 ho
          refine lv_iconst (v := 0) hx hb dX0_readDirection_66 (by decide) ?_
          cases ho
          exact e_i B hx hb hr hlocks rfl rfl dX0_readDirection_67
        · have ho := in_ c12 ho
          refine lv_aload_n hx hb dX0_readDirection_54 rfl (lv_at hl 0 rfl) ?_
          refine lv_iconst (v := 3) hx hb dX0_readDirection_55 (by decide) ?_
          obtain ⟨q13, σ14, hq13, ho⟩ := bnm_ ho
          refine k_iV (As := [.int 3]) (rest := []) S F B (c_X0_keepNumber l G σ11 _ 3 hq13) (kq (by decide) : kd 162 = 14 ∧ 162 < NN) rfl rfl (cwV 1 hts gX0_readDirection_X0_keepNumber rfl rfl rfl (by decide +kernel) ⟨Nat.le_of_ble_eq_true rfl, Nat.le_of_ble_eq_true rfl⟩) rfl hl.1 rfl (Nat.le_of_ble_eq_true rfl) dX0_readDirection_56 ⟨Nat.le_of_ble_eq_true rfl, Nat.le_of_ble_eq_true rfl⟩ (fun H locs B => ?_)
          refine lv_if_eq (tgt := 66) hx hb dX0_readDirection_59 (by decide) (fun c15 => ?_) (fun c15 => ?_)
          · have ho := ip_ c15 ho
            refine lv_iconst (v := 0) hx hb dX0_readDirection_66 (by decide) ?_
            cases ho
            exact e_i B hx hb hr hlocks rfl rfl dX0_readDirection_67
          · have ho := in_ c15 ho
            refine lv_iconst (v := 1) hx hb dX0_readDirection_62 (by decide) ?_
            refine lv_goto (tgt := 67) hx hb dX0_readDirection_63 (by decide) ?_
            cases ho
            exact e_i B hx hb hr hlocks rfl rfl dX0_readDirection_67
      · have ho := in_ c9 ho
        refine lv_aload_n hx hb dX0_readDirection_39 rfl (lv_at hl 0 rfl) ?_
        refine lv_iconst (v := 2) hx hb dX0_readDirection_40 (by decide) ?_
        obtain ⟨q16, σ17, hq16, ho⟩ := bnm_ ho
        refine k_iV (As := [.int 2]) (rest := []) S F B (c_X0_keepNumber l G σ8 _ 2 hq16) (kq (by decide) : kd 162 = 14 ∧ 162 < NN) rfl rfl (cwV 1 hts gX0_readDirection_X0_keepNumber rfl rfl rfl (by decide +kernel) ⟨Nat.le_of_ble_eq_true rfl, Nat.le_of_ble_eq_true rfl⟩) rfl hl.1 rfl (Nat.le_of_ble_eq_true rfl) dX0_readDirection_41 ⟨Nat.le_of_ble_eq_true rfl, Nat.le_of_ble_eq_true rfl⟩ (fun H locs B => ?_)
        obtain ⟨hz, ho⟩ := bz_ ho
        cases ho
        exact e_i B hx hb hr hlocks hz rfl dX0_readDirection_44
    · have ho := in_ c6 ho
      refine lv_aload_n hx hb dX0_readDirection_24 rfl (lv_at hl 0 rfl) ?_
      refine lv_iconst (v := 1) hx hb dX0_readDirection_25 (by decide) ?_
      obtain ⟨q18, σ19, hq18, ho⟩ := bnm_ ho
      refine k_iV (As := [.int 1]) (rest := []) S F B (c_X0_keepNumber l G σ5 _ 1 hq18) (kq (by decide) : kd 162 = 14 ∧ 162 < NN) rfl rfl (cwV 1 hts gX0_readDirection_X0_keepNumber rfl rfl rfl (by decide +kernel) ⟨Nat.le_of_ble_eq_true rfl, Nat.le_of_ble_eq_true rfl⟩) rfl hl.1 rfl (Nat.le_of_ble_eq_true rfl) dX0_readDirection_26 ⟨Nat.le_of_ble_eq_true rfl, Nat.le_of_ble_eq_true rfl⟩ (fun H locs B => ?_)
      obtain ⟨hz, ho⟩ := bz_ ho
      cases ho
      exact e_i B hx hb hr hlocks hz rfl dX0_readDirection_29
  · have ho := in_ c3 ho
    refine lv_aload_n hx hb dX0_readDirection_9 rfl (lv_at hl 0 rfl) ?_
    refine lv_iconst (v := 0) hx hb dX0_readDirection_10 (by decide) ?_
    obtain ⟨q20, σ21, hq20, ho⟩ := bnm_ ho
    refine k_iV (As := [.int 0]) (rest := []) S F B (c_X0_keepNumber l G σ2 _ 0 hq20) (kq (by decide) : kd 162 = 14 ∧ 162 < NN) rfl rfl (cwV 1 hts gX0_readDirection_X0_keepNumber rfl rfl rfl (by decide +kernel) ⟨Nat.le_of_ble_eq_true rfl, Nat.le_of_ble_eq_true rfl⟩) rfl hl.1 rfl (Nat.le_of_ble_eq_true rfl) dX0_readDirection_11 ⟨Nat.le_of_ble_eq_true rfl, Nat.le_of_ble_eq_true rfl⟩ (fun H locs B => ?_)
    obtain ⟨hz, ho⟩ := bz_ ho
    cases ho
    exact e_i B hx hb hr hlocks hz rfl dX0_readDirection_14

set_option maxHeartbeats 4000000 in
set_option maxRecDepth 100000 in
theorem c_X0_readPart (l : Launch) (G : Gd) (σ : Mm) (sz : Nat) (a0 : Int32) {out : Int32 × Mm} (ho : f_X0_readPart a0 σ = some out) : Met l yX0_readPart wsX0_readPart { frames := 2, cells := 0, slots := 0, locals := 44 } (va_Pc [.ref (G.2.2 162), .int a0] (PW G σ sz)) (Qi G sz out.1 out.2) 0 0 (AA G sz) := by
  refine Met.ofW (cc := cX0_readPart) (maxL := 2) (ret := (some .boolean)) (by decide) rfl ?_
  intro p e s m args below meth c s₁ B0 hml hv
  obtain ⟨rfl, hpw⟩ := hv
  have hsz := hpw.1
  subst hsz
  obtain ⟨F, B⟩ := hpw.to
  have hx := B0.exec
  have hb := B0.bytes
  have hr := B0.returns
  have hts := atoms_spec (ws := wsX0_readPart) B0.pre
  have hown : s.vm.findClass RX0 = some m.cls := findClass_of_methodNamed B0.named
  have hlocks := B0.notSynchronized
  have S : CallFix p m c cX0_readPart 2 s _ wsX0_readPart RX0 := ⟨hx, hb, hml, hown, hts⟩
  have hl := lv_entry [.ref (G.2.2 162), .int a0] (n := 2) (Nat.le_of_ble_eq_true rfl)
  rw [lg_entry_eq]
  generalize (lg_sl [.ref (G.2.2 162), .int a0] ++ List.replicate (2 - (lg_sl [.ref (G.2.2 162), .int a0]).length) Slot.unset).toArray = ls at hl ⊢
  have hl : lv_has ls 2 [(0, .ref (G.2.2 162)), (1, .int a0)] := hl
  unfold f_X0_readPart at ho
  refine lv_iload_n hx hb dX0_readPart_0 rfl (lv_at hl 1 rfl) ?_
  by_cases c1 : a0 = 68
  · have ho := ip_ c1 ho
    refine lv_lookup (off := 49) (tgt := 50) hx hb dX0_readPart_1 (by decide) (by rw [c1]; decide) (by decide) ?_
    refine lv_aload_n hx hb dX0_readPart_50 rfl (lv_at hl 0 rfl) ?_
    refine lv_iconst (v := 1) hx hb dX0_readPart_51 (by decide) ?_
    obtain ⟨q2, σ3, hq2, ho⟩ := bnm_ ho
    refine k_iV (As := [.int 1]) (rest := []) S F B (c_X0_readNumber l G σ _ 1 hq2) (kq (by decide) : kd 162 = 14 ∧ 162 < NN) rfl rfl (cwV 1 hts gX0_readPart_X0_readNumber rfl rfl rfl (by decide +kernel) ⟨Nat.le_of_ble_eq_true rfl, Nat.le_of_ble_eq_true rfl⟩) rfl hl.1 rfl (Nat.le_of_ble_eq_true rfl) dX0_readPart_52 ⟨Nat.le_of_ble_eq_true rfl, Nat.le_of_ble_eq_true rfl⟩ (fun H locs B => ?_)
    obtain ⟨hz, ho⟩ := bz_ ho
    cases ho
    exact e_i B hx hb hr hlocks hz rfl dX0_readPart_55
  · have ho := in_ c1 ho
    by_cases c4 : a0 = 78
    · have ho := ip_ c4 ho
      refine lv_lookup (off := 43) (tgt := 44) hx hb dX0_readPart_1 (by decide) (by rw [c4]; decide) (by decide) ?_
      refine lv_aload_n hx hb dX0_readPart_44 rfl (lv_at hl 0 rfl) ?_
      refine lv_iconst (v := 2) hx hb dX0_readPart_45 (by decide) ?_
      obtain ⟨q5, σ6, hq5, ho⟩ := bnm_ ho
      refine k_iV (As := [.int 2]) (rest := []) S F B (c_X0_readNumber l G σ _ 2 hq5) (kq (by decide) : kd 162 = 14 ∧ 162 < NN) rfl rfl (cwV 1 hts gX0_readPart_X0_readNumber rfl rfl rfl (by decide +kernel) ⟨Nat.le_of_ble_eq_true rfl, Nat.le_of_ble_eq_true rfl⟩) rfl hl.1 rfl (Nat.le_of_ble_eq_true rfl) dX0_readPart_46 ⟨Nat.le_of_ble_eq_true rfl, Nat.le_of_ble_eq_true rfl⟩ (fun H locs B => ?_)
      obtain ⟨hz, ho⟩ := bz_ ho
      cases ho
      exact e_i B hx hb hr hlocks hz rfl dX0_readPart_49
    · have ho := in_ c4 ho
      by_cases c7 : a0 = 87
      · have ho := ip_ c7 ho
        refine lv_lookup (off := 78) (tgt := 79) hx hb dX0_readPart_1 (by decide) (by rw [c7]; decide) (by decide) ?_
        refine lv_aload_n hx hb dX0_readPart_79 rfl (lv_at hl 0 rfl) ?_
        obtain ⟨q8, σ9, hq8, ho⟩ := bnm_ ho
        refine k_iV (As := []) (rest := []) S F B (c_X0_readDirection l G σ _ hq8) (kq (by decide) : kd 162 = 14 ∧ 162 < NN) rfl rfl (cwV 0 hts gX0_readPart_X0_readDirection rfl rfl rfl (by decide +kernel) ⟨Nat.le_of_ble_eq_true rfl, Nat.le_of_ble_eq_true rfl⟩) rfl hl.1 rfl (Nat.le_of_ble_eq_true rfl) dX0_readPart_80 ⟨Nat.le_of_ble_eq_true rfl, Nat.le_of_ble_eq_true rfl⟩ (fun H locs B => ?_)
        obtain ⟨hz, ho⟩ := bz_ ho
        cases ho
        exact e_i B hx hb hr hlocks hz rfl dX0_readPart_83
      · have ho := in_ c7 ho
        by_cases c10 : a0 = 88
        · have ho := ip_ c10 ho
          refine lv_lookup (off := 55) (tgt := 56) hx hb dX0_readPart_1 (by decide) (by rw [c10]; decide) (by decide) ?_
          refine lv_aload_n hx hb dX0_readPart_56 rfl (lv_at hl 0 rfl) ?_
          refine lv_bipush (v := 120) hx hb dX0_readPart_57 (by decide) ?_
          obtain ⟨q11, σ12, hq11, ho⟩ := bnm_ ho
          refine k_iV (As := [.int 120]) (rest := []) S F B (c_X0_takeSign l G σ _ 120 hq11) (kq (by decide) : kd 162 = 14 ∧ 162 < NN) rfl rfl (cwV 1 hts gX0_readPart_X0_takeSign rfl rfl rfl (by decide +kernel) ⟨Nat.le_of_ble_eq_true rfl, Nat.le_of_ble_eq_true rfl⟩) rfl hl.1 rfl (Nat.le_of_ble_eq_true rfl) dX0_readPart_59 ⟨Nat.le_of_ble_eq_true rfl, Nat.le_of_ble_eq_true rfl⟩ (fun H locs B => ?_)
          refine lv_if_eq (tgt := 73) hx hb dX0_readPart_62 (by decide) (fun c13 => ?_) (fun c13 => ?_)
          · have ho := ip_ c13 ho
            refine lv_aload_n hx hb dX0_readPart_73 rfl (lv_at hl 0 rfl) ?_
            refine lv_iconst (v := 2) hx hb dX0_readPart_74 (by decide) ?_
            obtain ⟨q14, σ15, hq14, ho⟩ := bnm_ ho
            refine k_iV (As := [.int 2]) (rest := []) S F B (c_X0_readNumber l G σ12 _ 2 hq14) (kq (by decide) : kd 162 = 14 ∧ 162 < NN) rfl rfl (cwV 1 hts gX0_readPart_X0_readNumber rfl rfl rfl (by decide +kernel) ⟨Nat.le_of_ble_eq_true rfl, Nat.le_of_ble_eq_true rfl⟩) rfl hl.1 rfl (Nat.le_of_ble_eq_true rfl) dX0_readPart_75 ⟨Nat.le_of_ble_eq_true rfl, Nat.le_of_ble_eq_true rfl⟩ (fun H locs B => ?_)
            obtain ⟨hz, ho⟩ := bz_ ho
            cases ho
            exact e_i B hx hb hr hlocks hz rfl dX0_readPart_78
          · have ho := in_ c13 ho
            refine lv_aload_n hx hb dX0_readPart_65 rfl (lv_at hl 0 rfl) ?_
            refine lv_iconst (v := (-1)) hx hb dX0_readPart_66 (by decide) ?_
            obtain ⟨q16, σ17, hq16, ho⟩ := bnm_ ho
            refine k_iV (As := [.int (-1)]) (rest := []) S F B (c_X0_keepNumber l G σ12 _ (-1) hq16) (kq (by decide) : kd 162 = 14 ∧ 162 < NN) rfl rfl (cwV 1 hts gX0_readPart_X0_keepNumber rfl rfl rfl (by decide +kernel) ⟨Nat.le_of_ble_eq_true rfl, Nat.le_of_ble_eq_true rfl⟩) rfl hl.1 rfl (Nat.le_of_ble_eq_true rfl) dX0_readPart_67 ⟨Nat.le_of_ble_eq_true rfl, Nat.le_of_ble_eq_true rfl⟩ (fun H locs B => ?_)
            refine lv_goto (tgt := 78) hx hb dX0_readPart_70 (by decide) ?_
            obtain ⟨hz, ho⟩ := bz_ ho
            cases ho
            exact e_i B hx hb hr hlocks hz rfl dX0_readPart_78
        · have ho := in_ c10 ho
          refine lv_lookup (off := 83) (tgt := 84) hx hb dX0_readPart_1 (by decide) (by refine (lv_osw c1 rfl).trans ?_; refine (lv_osw c4 rfl).trans ?_; refine (lv_osw c7 rfl).trans ?_; refine (lv_osw c10 rfl).trans ?_; rfl) (by decide) ?_
          refine lv_aload_n hx hb dX0_readPart_84 rfl (lv_at hl 0 rfl) ?_
          refine lv_iload_n hx hb dX0_readPart_85 rfl (lv_at hl 1 rfl) ?_
          obtain ⟨q18, σ19, hq18, ho⟩ := bnm_ ho
          refine k_iV (As := [.int a0]) (rest := []) S F B (c_X0_takeSign l G σ _ a0 hq18) (kq (by decide) : kd 162 = 14 ∧ 162 < NN) rfl rfl (cwV 1 hts gX0_readPart_X0_takeSign rfl rfl rfl (by decide +kernel) ⟨Nat.le_of_ble_eq_true rfl, Nat.le_of_ble_eq_true rfl⟩) rfl hl.1 rfl (Nat.le_of_ble_eq_true rfl) dX0_readPart_86 ⟨Nat.le_of_ble_eq_true rfl, Nat.le_of_ble_eq_true rfl⟩ (fun H locs B => ?_)
          obtain ⟨hz, ho⟩ := bz_ ho
          cases ho
          exact e_i B hx hb hr hlocks hz rfl dX0_readPart_89

set_option maxHeartbeats 4000000 in
set_option maxRecDepth 100000 in
theorem c_X0_formOf (l : Launch) (G : Gd) (σ : Mm) (sz : Nat) (a0 : Int32) {out : Option Nat} (ho : f_X0_formOf a0 σ = some out) : Met l yX0_formOf wsX0_formOf { frames := 0, cells := 0, slots := 0, locals := 0 } (va_Pc [.int a0] (PW G σ sz)) (Qq G sz out σ) 0 0 (AA G sz) := by
  refine Met.ofW (cc := cX0_formOf) (maxL := 1) (ret := (some (.object "java/lang/String"))) (by decide) rfl ?_
  intro p e s m args below meth c s₁ B0 hml hv
  obtain ⟨rfl, hpw⟩ := hv
  have hsz := hpw.1
  subst hsz
  obtain ⟨F, B⟩ := hpw.to
  have hx := B0.exec
  have hb := B0.bytes
  have hr := B0.returns
  have hts := atoms_spec (ws := wsX0_formOf) B0.pre
  have hown : s.vm.findClass RX0 = some m.cls := findClass_of_methodNamed B0.named
  have hlocks := B0.notSynchronized
  have S : CallFix p m c cX0_formOf 1 s _ wsX0_formOf RX0 := ⟨hx, hb, hml, hown, hts⟩
  have hl := lv_entry [.int a0] (n := 1) (Nat.le_of_ble_eq_true rfl)
  rw [lg_entry_eq]
  generalize (lg_sl [.int a0] ++ List.replicate (1 - (lg_sl [.int a0]).length) Slot.unset).toArray = ls at hl ⊢
  have hl : lv_has ls 1 [(0, .int a0)] := hl
  unfold f_X0_formOf at ho
  refine lv_iload_n hx hb dX0_formOf_0 rfl (lv_at hl 0 rfl) ?_
  by_cases c1 : a0 = 98
  · have ho := ip_ c1 ho
    refine lv_tableIn (off := 118) (tgt := 119) hx hb dX0_formOf_1 (by rw [c1]; decide) (by rw [c1]; decide) (by rw [c1]; rfl) (by decide) ?_
    refine r_ldcS S F 18 (t := 418) rfl (by decide) rfl rfl dX0_formOf_119 ?_
    cases ho
    exact e_q (w := (some 418)) B hx hb hr (Or.inl ⟨_, rfl⟩) hlocks rfl dX0_formOf_121
  · have ho := in_ c1 ho
    by_cases c2 : a0 = 103
    · have ho := ip_ c2 ho
      refine lv_tableIn (off := 115) (tgt := 116) hx hb dX0_formOf_1 (by rw [c2]; decide) (by rw [c2]; decide) (by rw [c2]; rfl) (by decide) ?_
      refine r_ldcS S F 17 (t := 417) rfl (by decide) rfl rfl dX0_formOf_116 ?_
      cases ho
      exact e_q (w := (some 417)) B hx hb hr (Or.inl ⟨_, rfl⟩) hlocks rfl dX0_formOf_118
    · have ho := in_ c2 ho
      by_cases c3 : a0 = 104
      · have ho := ip_ c3 ho
        refine lv_tableIn (off := 103) (tgt := 104) hx hb dX0_formOf_1 (by rw [c3]; decide) (by rw [c3]; decide) (by rw [c3]; rfl) (by decide) ?_
        refine r_ldcS S F 13 (t := 413) rfl (by decide) rfl rfl dX0_formOf_104 ?_
        cases ho
        exact e_q (w := (some 413)) B hx hb hr (Or.inl ⟨_, rfl⟩) hlocks rfl dX0_formOf_106
      · have ho := in_ c3 ho
        by_cases c4 : a0 = 109
        · have ho := ip_ c4 ho
          refine lv_tableIn (off := 112) (tgt := 113) hx hb dX0_formOf_1 (by rw [c4]; decide) (by rw [c4]; decide) (by rw [c4]; rfl) (by decide) ?_
          refine r_ldcS S F 16 (t := 416) rfl (by decide) rfl rfl dX0_formOf_113 ?_
          cases ho
          exact e_q (w := (some 416)) B hx hb hr (Or.inl ⟨_, rfl⟩) hlocks rfl dX0_formOf_115
        · have ho := in_ c4 ho
          by_cases c5 : a0 = 114
          · have ho := ip_ c5 ho
            refine lv_tableIn (off := 124) (tgt := 125) hx hb dX0_formOf_1 (by rw [c5]; decide) (by rw [c5]; decide) (by rw [c5]; rfl) (by decide) ?_
            refine r_ldcS S F 20 (t := 420) rfl (by decide) rfl rfl dX0_formOf_125 ?_
            cases ho
            exact e_q (w := (some 420)) B hx hb hr (Or.inl ⟨_, rfl⟩) hlocks rfl dX0_formOf_127
          · have ho := in_ c5 ho
            by_cases c6 : a0 = 115
            · have ho := ip_ c6 ho
              refine lv_tableIn (off := 106) (tgt := 107) hx hb dX0_formOf_1 (by rw [c6]; decide) (by rw [c6]; decide) (by rw [c6]; rfl) (by decide) ?_
              refine r_ldcS S F 14 (t := 414) rfl (by decide) rfl rfl dX0_formOf_107 ?_
              cases ho
              exact e_q (w := (some 414)) B hx hb hr (Or.inl ⟨_, rfl⟩) hlocks rfl dX0_formOf_109
            · have ho := in_ c6 ho
              by_cases c7 : a0 = 116
              · have ho := ip_ c7 ho
                refine lv_tableIn (off := 109) (tgt := 110) hx hb dX0_formOf_1 (by rw [c7]; decide) (by rw [c7]; decide) (by rw [c7]; rfl) (by decide) ?_
                refine r_ldcS S F 15 (t := 415) rfl (by decide) rfl rfl dX0_formOf_110 ?_
                cases ho
                exact e_q (w := (some 415)) B hx hb hr (Or.inl ⟨_, rfl⟩) hlocks rfl dX0_formOf_112
              · have ho := in_ c7 ho
                by_cases c8 : a0 = 118
                · have ho := ip_ c8 ho
                  refine lv_tableIn (off := 115) (tgt := 116) hx hb dX0_formOf_1 (by rw [c8]; decide) (by rw [c8]; decide) (by rw [c8]; rfl) (by decide) ?_
                  refine r_ldcS S F 17 (t := 417) rfl (by decide) rfl rfl dX0_formOf_116 ?_
                  cases ho
                  exact e_q (w := (some 417)) B hx hb hr (Or.inl ⟨_, rfl⟩) hlocks rfl dX0_formOf_118
                · have ho := in_ c8 ho
                  by_cases c9 : a0 = 119
                  · have ho := ip_ c9 ho
                    refine lv_tableIn (off := 121) (tgt := 122) hx hb dX0_formOf_1 (by rw [c9]; decide) (by rw [c9]; decide) (by rw [c9]; rfl) (by decide) ?_
                    refine r_ldcS S F 19 (t := 419) rfl (by decide) rfl rfl dX0_formOf_122 ?_
                    cases ho
                    exact e_q (w := (some 419)) B hx hb hr (Or.inl ⟨_, rfl⟩) hlocks rfl dX0_formOf_124
                  · have ho := in_ c9 ho
                    refine t_tableD (tgt := 128) hx hb dX0_formOf_1 rfl (fun j hj => ?_) (by decide) ?_
                    · have hj : j < 22 := hj
                      rcases (show j = 0 ∨ j = 1 ∨ j = 2 ∨ j = 3 ∨ j = 4 ∨ j = 5 ∨ j = 6 ∨ j = 7 ∨ j = 8 ∨ j = 9 ∨ j = 10 ∨ j = 11 ∨ j = 12 ∨ j = 13 ∨ j = 14 ∨ j = 15 ∨ j = 16 ∨ j = 17 ∨ j = 18 ∨ j = 19 ∨ j = 20 ∨ j = 21 by omega) with rfl | rfl | rfl | rfl | rfl | rfl | rfl | rfl | rfl | rfl | rfl | rfl | rfl | rfl | rfl | rfl | rfl | rfl | rfl | rfl | rfl | rfl
                      · exact Or.inr (lv_neT c1 (by decide))
                      · exact Or.inl rfl
                      · exact Or.inl rfl
                      · exact Or.inl rfl
                      · exact Or.inl rfl
                      · exact Or.inr (lv_neT c2 (by decide))
                      · exact Or.inr (lv_neT c3 (by decide))
                      · exact Or.inl rfl
                      · exact Or.inl rfl
                      · exact Or.inl rfl
                      · exact Or.inl rfl
                      · exact Or.inr (lv_neT c4 (by decide))
                      · exact Or.inl rfl
                      · exact Or.inl rfl
                      · exact Or.inl rfl
                      · exact Or.inl rfl
                      · exact Or.inr (lv_neT c5 (by decide))
                      · exact Or.inr (lv_neT c6 (by decide))
                      · exact Or.inr (lv_neT c7 (by decide))
                      · exact Or.inl rfl
                      · exact Or.inr (lv_neT c8 (by decide))
                      · exact Or.inr (lv_neT c9 (by decide))
                    · refine lv_null hx hb dX0_formOf_128 ?_
                      cases ho
                      exact e_q (w := none) B hx hb hr (Or.inl ⟨_, rfl⟩) hlocks rfl dX0_formOf_129

