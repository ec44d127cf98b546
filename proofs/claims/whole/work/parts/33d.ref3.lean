set_option maxHeartbeats 4000000 in
set_option maxRecDepth 100000 in
theorem c_X10_sign (l : Launch) (G : Gd) (σ : Mm) (sz : Nat) (a0 : Int32) {out : Mm} (ho : f_X10_sign a0 σ = some out) : Met l yX10_sign wsX10_sign { frames := 0, cells := 0, slots := 0, locals := 0 } (va_Pc [.ref (G.2.2 198), .int a0] (PW G σ sz)) (Qv G sz out) 0 0 (AA G sz) := by
  refine Met.ofW (cc := cX10_sign) (maxL := 2) (ret := none) (by decide) rfl ?_
  intro p e s m args below meth c s₁ B0 hml hv
  obtain ⟨rfl, hpw⟩ := hv
  have hsz := hpw.1
  subst hsz
  obtain ⟨F, B⟩ := hpw.to
  have hx := B0.exec
  have hb := B0.bytes
  have hr := B0.returns
  have hts := atoms_spec (ws := wsX10_sign) B0.pre
  have hown : s.vm.findClass RX10 = some m.cls := findClass_of_methodNamed B0.named
  have hlocks := B0.notSynchronized
  have S : CallFix p m c cX10_sign 2 s _ wsX10_sign RX10 := ⟨hx, hb, hml, hown, hts⟩
  have hiX10 : ∀ w ∈ u_ws RX10 TX10 21, w ∈ wsX10_sign := by decide +kernel
  have hl := lv_entry [.ref (G.2.2 198), .int a0] (n := 2) (Nat.le_of_ble_eq_true rfl)
  rw [lg_entry_eq]
  generalize (lg_sl [.ref (G.2.2 198), .int a0] ++ List.replicate (2 - (lg_sl [.ref (G.2.2 198), .int a0]).length) Slot.unset).toArray = ls at hl ⊢
  have hl : lv_has ls 2 [(0, .ref (G.2.2 198)), (1, .int a0)] := hl
  unfold f_X10_sign at ho
  refine lv_aload_n hx hb dX10_sign_0 rfl (lv_at hl 0 rfl) ?_
  refine r_get (ci := 14) (C := RX10) (T := TX10) (N := 21) S F B (kq (by decide) : kd 198 = 21 ∧ 198 < NN) rfl rfl hiX10 19 (by decide) (by decide +kernel) rfl dX10_sign_1 ?_
  refine lv_aload_n hx hb dX10_sign_4 rfl (lv_at hl 0 rfl) ?_
  refine r_get (ci := 14) (C := RX10) (T := TX10) (N := 21) S F B (kq (by decide) : kd 198 = 21 ∧ 198 < NN) rfl rfl hiX10 20 (by decide) (by decide +kernel) rfl dX10_sign_5 ?_
  refine lv_iload_n hx hb dX10_sign_8 rfl (lv_at hl 1 rfl) ?_
  obtain ⟨hi, ho⟩ := gd_ ho
  refine r_iast S F B (kq (by decide) : kd 206 = 26 ∧ 206 < NN) (fun _ => rfl) hi dX10_sign_9 (fun H locs B => ?_)
  obtain ⟨σ1, eσ1, ho⟩ := lt_ ho
  rw [← eσ1] at B
  refine lv_aload_n hx hb dX10_sign_10 rfl (lv_at hl 0 rfl) ?_
  refine lv_dup hx hb dX10_sign_11 rfl ?_
  refine r_get (ci := 14) (C := RX10) (T := TX10) (N := 21) S F B (kq (by decide) : kd 198 = 21 ∧ 198 < NN) rfl rfl hiX10 20 (by decide) (by decide +kernel) rfl dX10_sign_12 ?_
  refine lv_iconst (v := 1) hx hb dX10_sign_15 (by decide) ?_
  refine lv_iadd hx hb dX10_sign_16 ?_
  refine r_put (ci := 14) (C := RX10) (T := TX10) (N := 21) (ty := .int) S F B tyX10 tyX10_ok nmX10 (kq (by decide) : kd 198 = 21 ∧ 198 < NN) (fun _ => rfl) rfl hiX10 20 (by decide) (by decide +kernel) rfl rfl rfl rfl (fun _ => Nat.le_of_ble_eq_true rfl) (fun _ => rfl) dX10_sign_17 (fun H locs B => ?_)
  obtain ⟨σ2, eσ2, ho⟩ := lt_ ho
  rw [← eσ2] at B
  cases ho
  exact e_v B hx hb hr hlocks dX10_sign_20

set_option maxHeartbeats 4000000 in
set_option maxRecDepth 100000 in
theorem c_X10_writesNumber (l : Launch) (G : Gd) (σ : Mm) (sz : Nat) (a0 : Int32) {out : Mm} (ho : f_X10_writesNumber a0 σ = some out) : Met l yX10_writesNumber wsX10_writesNumber { frames := 1, cells := 0, slots := 0, locals := 21 } (va_Pc [.ref (G.2.2 198), .int a0] (PW G σ sz)) (Qv G sz out) 0 0 (AA G sz) := by
  refine Met.ofW (cc := cX10_writesNumber) (maxL := 4) (ret := none) (by decide) rfl ?_
  intro p e s m args below meth c s₁ B0 hml hv
  obtain ⟨rfl, hpw⟩ := hv
  have hsz := hpw.1
  subst hsz
  obtain ⟨F, B⟩ := hpw.to
  have hx := B0.exec
  have hb := B0.bytes
  have hr := B0.returns
  have hts := atoms_spec (ws := wsX10_writesNumber) B0.pre
  have hown : s.vm.findClass RX10 = some m.cls := findClass_of_methodNamed B0.named
  have hlocks := B0.notSynchronized
  have S : CallFix p m c cX10_writesNumber 4 s _ wsX10_writesNumber RX10 := ⟨hx, hb, hml, hown, hts⟩
  have hl := lv_entry [.ref (G.2.2 198), .int a0] (n := 4) (Nat.le_of_ble_eq_true rfl)
  rw [lg_entry_eq]
  generalize (lg_sl [.ref (G.2.2 198), .int a0] ++ List.replicate (4 - (lg_sl [.ref (G.2.2 198), .int a0]).length) Slot.unset).toArray = ls at hl ⊢
  have hl : lv_has ls 4 [(0, .ref (G.2.2 198)), (1, .int a0)] := hl
  unfold f_X10_writesNumber at ho
  skip
  refine lv_iconst (v := 1) hx hb dX10_writesNumber_0 (by decide) ?_
  refine lv_istore_n (lv' := [(2, .int 1), (0, .ref (G.2.2 198)), (1, .int a0)]) hx hb dX10_writesNumber_1 rfl hl (by decide) rfl (fun ls hl => ?_)
  obtain ⟨K, hK, ho⟩ := lt_ ho
  have hexit2 : ∀ (v1 : Int32) (H : Heap) (locs : List Loc) (ls : Array Slot), K v1 = some out → Bd G σ s H locs → lv_has ls 4 [(2, .int v1), (0, .ref (G.2.2 198)), (1, .int a0)] → W p l e (headSpec wsX10_writesNumber { frames := 1, cells := 0, slots := 0, locals := 21 }).room s m #[.ref (G.2.2 198), .int a0] below meth c H locs 0 0 (MQ below (Qv G s.heap.size out) #[.ref (G.2.2 198), .int a0] s 0 0 (AA G s.heap.size)) (F0 m 18 ls []) := by
    intro v1 H locs ls ho B hl
    subst hK
    refine lv_iload_n hx hb dX10_writesNumber_18 rfl (lv_at hl 0 rfl) ?_
    refine lv_istore_n (lv' := [(3, .int v1), (2, .int v1), (0, .ref (G.2.2 198)), (1, .int a0)]) hx hb dX10_writesNumber_19 rfl hl (by decide) rfl (fun ls hl => ?_)
    have hloop20 : ∀ (n : Nat) (v6 : Int32) (σ7 : Mm) (H : Heap) (locs : List Loc) (ls : Array Slot), f_X10_writesNumber_l20  v1 a0 n v6 σ7 = some out → Bd G σ7 s H locs → lv_has ls 4 [(3, .int v6), (2, .int v1), (0, .ref (G.2.2 198)), (1, .int a0)] → W p l e (headSpec wsX10_writesNumber { frames := 1, cells := 0, slots := 0, locals := 21 }).room s m #[.ref (G.2.2 198), .int a0] below meth c H locs 0 0 (MQ below (Qv G s.heap.size out) #[.ref (G.2.2 198), .int a0] s 0 0 (AA G s.heap.size)) (F0 m 20 ls []) := by
      intro n
      induction n with
      | zero => intro v6 σ7 H locs ls ho B hl; cases ho
      | succ n ih =>
        intro v6 σ7 H locs ls ho B hl
        refine lv_iload_n hx hb dX10_writesNumber_20 rfl (lv_at hl 0 rfl) ?_
        refine lv_if_le (tgt := 45) hx hb dX10_writesNumber_21 (by decide) (fun c8 => ?_) (fun c8 => ?_)
        · have ho := ip_ c8 ho
          cases ho
          exact e_v B hx hb hr hlocks dX10_writesNumber_45
        · have ho := in_ c8 ho
          refine lv_aload_n hx hb dX10_writesNumber_24 rfl (lv_at hl 2 rfl) ?_
          refine lv_bipush (v := 48) hx hb dX10_writesNumber_25 (by decide) ?_
          refine lv_iload_n hx hb dX10_writesNumber_27 rfl (lv_at hl 3 rfl) ?_
          refine lv_iload_n hx hb dX10_writesNumber_28 rfl (lv_at hl 0 rfl) ?_
          obtain ⟨h0, ho⟩ := nz_ ho
          refine lv_idiv hx hb dX10_writesNumber_29 h0 ?_
          refine lv_bipush (v := 10) hx hb dX10_writesNumber_30 (by decide) ?_
          refine lv_irem hx hb dX10_writesNumber_32 (by decide) ?_
          refine lv_iadd hx hb dX10_writesNumber_33 ?_
          obtain ⟨σ10, hq9, ho⟩ := bnd_ ho
          refine k_vV (As := [.int (48 + ((a0 / v6) - (a0 / v6) / 10 * 10))]) (rest := []) S F B (c_X10_sign l G σ7 _ (48 + ((a0 / v6) - (a0 / v6) / 10 * 10)) hq9) (kq (by decide) : kd 198 = 21 ∧ 198 < NN) rfl rfl (cwV 1 hts gX10_writesNumber_X10_sign rfl rfl rfl (by decide +kernel) ⟨Nat.le_of_ble_eq_true rfl, Nat.le_of_ble_eq_true rfl⟩) rfl hl.1 rfl (Nat.le_of_ble_eq_true rfl) dX10_writesNumber_34 ⟨Nat.le_of_ble_eq_true rfl, Nat.le_of_ble_eq_true rfl⟩ (fun H locs B => ?_)
          refine lv_iload_n hx hb dX10_writesNumber_37 rfl (lv_at hl 0 rfl) ?_
          refine lv_bipush (v := 10) hx hb dX10_writesNumber_38 (by decide) ?_
          refine lv_idiv hx hb dX10_writesNumber_40 (by decide) ?_
          obtain ⟨x11, ex11, ho⟩ := lt_ ho
          refine lv_nm ex11 ?_
          refine lv_istore_n (lv' := [(3, .int x11), (2, .int v1), (0, .ref (G.2.2 198)), (1, .int a0)]) hx hb dX10_writesNumber_41 rfl hl (by decide) rfl (fun ls hl => ?_)
          refine lv_goto (tgt := 20) hx hb dX10_writesNumber_42 (by decide) ?_
          exact ih _ _ _ _ _ ho B (lv_sub hl [0, 1, 2, 3] rfl)
    exact hloop20 12 _ _ _ _ _ ho B hl
  have hloop2 : ∀ (n : Nat) (v12 : Int32) (H : Heap) (locs : List Loc) (ls : Array Slot), f_X10_writesNumber_l2 K a0 σ n v12 = some out → Bd G σ s H locs → lv_has ls 4 [(2, .int v12), (0, .ref (G.2.2 198)), (1, .int a0)] → W p l e (headSpec wsX10_writesNumber { frames := 1, cells := 0, slots := 0, locals := 21 }).room s m #[.ref (G.2.2 198), .int a0] below meth c H locs 0 0 (MQ below (Qv G s.heap.size out) #[.ref (G.2.2 198), .int a0] s 0 0 (AA G s.heap.size)) (F0 m 2 ls []) := by
    intro n
    induction n with
    | zero => intro v12 H locs ls ho B hl; cases ho
    | succ n ih =>
      intro v12 H locs ls ho B hl
      refine lv_iload_n hx hb dX10_writesNumber_2 rfl (lv_at hl 2 rfl) ?_
      refine lv_iload_n hx hb dX10_writesNumber_3 rfl (lv_at hl 0 rfl) ?_
      obtain ⟨h0, ho⟩ := nz_ ho
      refine lv_idiv hx hb dX10_writesNumber_4 h0 ?_
      refine lv_bipush (v := 9) hx hb dX10_writesNumber_5 (by decide) ?_
      refine lv_icmp_le (tgt := 18) hx hb dX10_writesNumber_7 (by decide) (fun c13 => ?_) (fun c13 => ?_)
      · have ho := ip_ c13 ho
        exact hexit2 _  _ _ _ ho B (lv_sub hl [0, 1, 2] rfl)
      · have ho := in_ c13 ho
        refine lv_iload_n hx hb dX10_writesNumber_10 rfl (lv_at hl 0 rfl) ?_
        refine lv_bipush (v := 10) hx hb dX10_writesNumber_11 (by decide) ?_
        refine lv_imul hx hb dX10_writesNumber_13 ?_
        obtain ⟨x14, ex14, ho⟩ := lt_ ho
        refine lv_nm ex14 ?_
        refine lv_istore_n (lv' := [(2, .int x14), (0, .ref (G.2.2 198)), (1, .int a0)]) hx hb dX10_writesNumber_14 rfl hl (by decide) rfl (fun ls hl => ?_)
        refine lv_goto (tgt := 2) hx hb dX10_writesNumber_15 (by decide) ?_
        exact ih _  _ _ _ ho B (lv_sub hl [0, 1, 2] rfl)
  exact hloop2 12 _  _ _ _ ho B hl

set_option maxHeartbeats 4000000 in
set_option maxRecDepth 100000 in
theorem c_X10_line (l : Launch) (G : Gd) (σ : Mm) (sz : Nat) (a0 : Int32) {out : Int32 × Mm} (ho : f_X10_line a0 σ = some out) : Met l yX10_line wsX10_line { frames := 2, cells := 0, slots := 0, locals := 46 } (va_Pc [.ref (G.2.2 198), .int a0] (PW G σ sz)) (Qi G sz out.1 out.2) 0 0 (AA G sz) := by
  refine Met.ofW (cc := cX10_line) (maxL := 3) (ret := (some .int)) (by decide) rfl ?_
  intro p e s m args below meth c s₁ B0 hml hv
  obtain ⟨rfl, hpw⟩ := hv
  have hsz := hpw.1
  subst hsz
  obtain ⟨F, B⟩ := hpw.to
  have hx := B0.exec
  have hb := B0.bytes
  have hr := B0.returns
  have hts := atoms_spec (ws := wsX10_line) B0.pre
  have hown : s.vm.findClass RX10 = some m.cls := findClass_of_methodNamed B0.named
  have hlocks := B0.notSynchronized
  have S : CallFix p m c cX10_line 3 s _ wsX10_line RX10 := ⟨hx, hb, hml, hown, hts⟩
  have hiX10 : ∀ w ∈ u_ws RX10 TX10 21, w ∈ wsX10_line := by decide +kernel
  have hl := lv_entry [.ref (G.2.2 198), .int a0] (n := 3) (Nat.le_of_ble_eq_true rfl)
  rw [lg_entry_eq]
  generalize (lg_sl [.ref (G.2.2 198), .int a0] ++ List.replicate (3 - (lg_sl [.ref (G.2.2 198), .int a0]).length) Slot.unset).toArray = ls at hl ⊢
  have hl : lv_has ls 3 [(0, .ref (G.2.2 198)), (1, .int a0)] := hl
  unfold f_X10_line at ho
  refine lv_aload_n hx hb dX10_line_0 rfl (lv_at hl 0 rfl) ?_
  refine lv_iconst (v := 0) hx hb dX10_line_1 (by decide) ?_
  refine r_put (ci := 14) (C := RX10) (T := TX10) (N := 21) (ty := .int) S F B tyX10 tyX10_ok nmX10 (kq (by decide) : kd 198 = 21 ∧ 198 < NN) (fun _ => rfl) rfl hiX10 12 (by decide) (by decide +kernel) rfl rfl rfl rfl (fun _ => Nat.le_of_ble_eq_true rfl) (fun _ => rfl) dX10_line_2 (fun H locs B => ?_)
  obtain ⟨σ1, eσ1, ho⟩ := lt_ ho
  rw [← eσ1] at B
  refine lv_aload_n hx hb dX10_line_5 rfl (lv_at hl 0 rfl) ?_
  refine lv_iload_n hx hb dX10_line_6 rfl (lv_at hl 1 rfl) ?_
  obtain ⟨q2, hq2, ho⟩ := bnd_ ho
  refine k_iV (As := [.int a0]) (rest := []) S F B (c_X10_isVisitor l G σ1 _ a0 hq2) (kq (by decide) : kd 198 = 21 ∧ 198 < NN) rfl rfl (cwV 1 hts gX10_line_X10_isVisitor rfl rfl rfl (by decide +kernel) ⟨Nat.le_of_ble_eq_true rfl, Nat.le_of_ble_eq_true rfl⟩) rfl hl.1 rfl (Nat.le_of_ble_eq_true rfl) dX10_line_7 ⟨Nat.le_of_ble_eq_true rfl, Nat.le_of_ble_eq_true rfl⟩ (fun H locs B => ?_)
  refine lv_if_ne (tgt := 19) hx hb dX10_line_10 (by decide) (fun c3 => ?_) (fun c3 => ?_)
  · have ho := in_ c3 ho
    refine lv_iload_n hx hb dX10_line_19 rfl (lv_at hl 1 rfl) ?_
    obtain ⟨q4, hq4, ho⟩ := bnd_ ho
    refine k_iS (As := [.int a0]) (rest := []) S F B (c_X10_visitorAt l G σ1 _ a0 hq4) (va_cwS 1 hts gX10_line_X10_visitorAt rfl rfl rfl (by decide +kernel) ⟨Nat.le_of_ble_eq_true rfl, Nat.le_of_ble_eq_true rfl⟩) rfl hl.1 rfl (Nat.le_of_ble_eq_true rfl) dX10_line_20 ⟨Nat.le_of_ble_eq_true rfl, Nat.le_of_ble_eq_true rfl⟩ (fun H locs B => ?_)
    refine lv_istore_n (lv' := [(2, .int q4), (0, .ref (G.2.2 198)), (1, .int a0)]) hx hb dX10_line_23 rfl hl (by decide) rfl (fun ls hl => ?_)
    refine lv_aload_n hx hb dX10_line_24 rfl (lv_at hl 1 rfl) ?_
    refine lv_iconst (v := 0) hx hb dX10_line_25 (by decide) ?_
    refine r_put (ci := 14) (C := RX10) (T := TX10) (N := 21) (ty := .int) S F B tyX10 tyX10_ok nmX10 (kq (by decide) : kd 198 = 21 ∧ 198 < NN) (fun _ => rfl) rfl hiX10 20 (by decide) (by decide +kernel) rfl rfl rfl rfl (fun _ => Nat.le_of_ble_eq_true rfl) (fun _ => rfl) dX10_line_26 (fun H locs B => ?_)
    obtain ⟨σ5, eσ5, ho⟩ := lt_ ho
    rw [← eσ5] at B
    refine lv_aload_n hx hb dX10_line_29 rfl (lv_at hl 1 rfl) ?_
    refine r_get (ci := 14) (C := RX10) (T := TX10) (N := 21) S F B (kq (by decide) : kd 198 = 21 ∧ 198 < NN) rfl rfl hiX10 0 (by decide) (by decide +kernel) rfl dX10_line_30 ?_
    refine lv_iload_n hx hb dX10_line_33 rfl (lv_at hl 0 rfl) ?_
    refine lv_bipush (v := 7) hx hb dX10_line_34 (by decide) ?_
    refine lv_iadd hx hb dX10_line_36 ?_
    obtain ⟨hi, ho⟩ := gd_ ho
    refine r_iald S F B (kq (by decide) : kd 199 = 22 ∧ 199 < NN) rfl hi dX10_line_37 ?_
    refine lv_iconst (v := 1) hx hb dX10_line_38 (by decide) ?_
    refine lv_icmp_ne (tgt := 63) hx hb dX10_line_39 (by decide) (fun c6 => ?_) (fun c6 => ?_)
    · have ho := in_ c6 ho
      refine lv_aload_n hx hb dX10_line_63 rfl (lv_at hl 1 rfl) ?_
      refine lv_aload_n hx hb dX10_line_64 rfl (lv_at hl 1 rfl) ?_
      refine r_get (ci := 14) (C := RX10) (T := TX10) (N := 21) S F B (kq (by decide) : kd 198 = 21 ∧ 198 < NN) rfl rfl hiX10 0 (by decide) (by decide +kernel) rfl dX10_line_65 ?_
      refine lv_iload_n hx hb dX10_line_68 rfl (lv_at hl 0 rfl) ?_
      refine lv_iconst (v := 1) hx hb dX10_line_69 (by decide) ?_
      refine lv_iadd hx hb dX10_line_70 ?_
      obtain ⟨hi, ho⟩ := gd_ ho
      refine r_iald S F B (kq (by decide) : kd 199 = 22 ∧ 199 < NN) rfl hi dX10_line_71 ?_
      obtain ⟨σ8, hq7, ho⟩ := bnd_ ho
      refine k_vV (As := [.int (σ5 199 (q4 + 1).toNatClampNeg)]) (rest := []) S F B (c_X10_writesNumber l G σ5 _ (σ5 199 (q4 + 1).toNatClampNeg) hq7) (kq (by decide) : kd 198 = 21 ∧ 198 < NN) rfl rfl (cwV 1 hts gX10_line_X10_writesNumber rfl rfl rfl (by decide +kernel) ⟨Nat.le_of_ble_eq_true rfl, Nat.le_of_ble_eq_true rfl⟩) rfl hl.1 rfl (Nat.le_of_ble_eq_true rfl) dX10_line_72 ⟨Nat.le_of_ble_eq_true rfl, Nat.le_of_ble_eq_true rfl⟩ (fun H locs B => ?_)
      refine lv_aload_n hx hb dX10_line_75 rfl (lv_at hl 1 rfl) ?_
      refine lv_bipush (v := 43) hx hb dX10_line_76 (by decide) ?_
      obtain ⟨σ10, hq9, ho⟩ := bnd_ ho
      refine k_vV (As := [.int 43]) (rest := []) S F B (c_X10_sign l G σ8 _ 43 hq9) (kq (by decide) : kd 198 = 21 ∧ 198 < NN) rfl rfl (cwV 1 hts gX10_line_X10_sign rfl rfl rfl (by decide +kernel) ⟨Nat.le_of_ble_eq_true rfl, Nat.le_of_ble_eq_true rfl⟩) rfl hl.1 rfl (Nat.le_of_ble_eq_true rfl) dX10_line_78 ⟨Nat.le_of_ble_eq_true rfl, Nat.le_of_ble_eq_true rfl⟩ (fun H locs B => ?_)
      refine lv_aload_n hx hb dX10_line_81 rfl (lv_at hl 1 rfl) ?_
      refine lv_aload_n hx hb dX10_line_82 rfl (lv_at hl 1 rfl) ?_
      refine r_get (ci := 14) (C := RX10) (T := TX10) (N := 21) S F B (kq (by decide) : kd 198 = 21 ∧ 198 < NN) rfl rfl hiX10 0 (by decide) (by decide +kernel) rfl dX10_line_83 ?_
      refine lv_iload_n hx hb dX10_line_86 rfl (lv_at hl 0 rfl) ?_
      refine lv_iconst (v := 2) hx hb dX10_line_87 (by decide) ?_
      refine lv_iadd hx hb dX10_line_88 ?_
      obtain ⟨hi, ho⟩ := gd_ ho
      refine r_iald S F B (kq (by decide) : kd 199 = 22 ∧ 199 < NN) rfl hi dX10_line_89 ?_
      obtain ⟨σ12, hq11, ho⟩ := bnd_ ho
      refine k_vV (As := [.int (σ10 199 (q4 + 2).toNatClampNeg)]) (rest := []) S F B (c_X10_writesNumber l G σ10 _ (σ10 199 (q4 + 2).toNatClampNeg) hq11) (kq (by decide) : kd 198 = 21 ∧ 198 < NN) rfl rfl (cwV 1 hts gX10_line_X10_writesNumber rfl rfl rfl (by decide +kernel) ⟨Nat.le_of_ble_eq_true rfl, Nat.le_of_ble_eq_true rfl⟩) rfl hl.1 rfl (Nat.le_of_ble_eq_true rfl) dX10_line_90 ⟨Nat.le_of_ble_eq_true rfl, Nat.le_of_ble_eq_true rfl⟩ (fun H locs B => ?_)
      refine lv_aload_n hx hb dX10_line_93 rfl (lv_at hl 1 rfl) ?_
      refine r_get (ci := 14) (C := RX10) (T := TX10) (N := 21) S F B (kq (by decide) : kd 198 = 21 ∧ 198 < NN) rfl rfl hiX10 0 (by decide) (by decide +kernel) rfl dX10_line_94 ?_
      refine lv_iload_n hx hb dX10_line_97 rfl (lv_at hl 0 rfl) ?_
      refine lv_iconst (v := 4) hx hb dX10_line_98 (by decide) ?_
      refine lv_iadd hx hb dX10_line_99 ?_
      obtain ⟨hi, ho⟩ := gd_ ho
      refine r_iald S F B (kq (by decide) : kd 199 = 22 ∧ 199 < NN) rfl hi dX10_line_100 ?_
      refine lv_iconst (v := (-1)) hx hb dX10_line_101 (by decide) ?_
      refine lv_icmp_eq (tgt := 160) hx hb dX10_line_102 (by decide) (fun c13 => ?_) (fun c13 => ?_)
      · have ho := ip_ c13 ho
        refine lv_aload_n hx hb dX10_line_160 rfl (lv_at hl 1 rfl) ?_
        refine r_get (ci := 14) (C := RX10) (T := TX10) (N := 21) S F B (kq (by decide) : kd 198 = 21 ∧ 198 < NN) rfl rfl hiX10 20 (by decide) (by decide +kernel) rfl dX10_line_161 ?_
        cases ho
        exact e_i B hx hb hr hlocks rfl rfl dX10_line_164
      · have ho := in_ c13 ho
        refine lv_aload_n hx hb dX10_line_105 rfl (lv_at hl 1 rfl) ?_
        refine lv_bipush (v := 35) hx hb dX10_line_106 (by decide) ?_
        obtain ⟨σ15, hq14, ho⟩ := bnd_ ho
        refine k_vV (As := [.int 35]) (rest := []) S F B (c_X10_sign l G σ12 _ 35 hq14) (kq (by decide) : kd 198 = 21 ∧ 198 < NN) rfl rfl (cwV 1 hts gX10_line_X10_sign rfl rfl rfl (by decide +kernel) ⟨Nat.le_of_ble_eq_true rfl, Nat.le_of_ble_eq_true rfl⟩) rfl hl.1 rfl (Nat.le_of_ble_eq_true rfl) dX10_line_108 ⟨Nat.le_of_ble_eq_true rfl, Nat.le_of_ble_eq_true rfl⟩ (fun H locs B => ?_)
        refine lv_aload_n hx hb dX10_line_111 rfl (lv_at hl 1 rfl) ?_
        refine lv_aload_n hx hb dX10_line_112 rfl (lv_at hl 1 rfl) ?_
        refine r_get (ci := 14) (C := RX10) (T := TX10) (N := 21) S F B (kq (by decide) : kd 198 = 21 ∧ 198 < NN) rfl rfl hiX10 0 (by decide) (by decide +kernel) rfl dX10_line_113 ?_
        refine lv_iload_n hx hb dX10_line_116 rfl (lv_at hl 0 rfl) ?_
        refine lv_iconst (v := 4) hx hb dX10_line_117 (by decide) ?_
        refine lv_iadd hx hb dX10_line_118 ?_
        obtain ⟨hi, ho⟩ := gd_ ho
        refine r_iald S F B (kq (by decide) : kd 199 = 22 ∧ 199 < NN) rfl hi dX10_line_119 ?_
        obtain ⟨σ17, hq16, ho⟩ := bnd_ ho
        refine k_vV (As := [.int (σ15 199 (q4 + 4).toNatClampNeg)]) (rest := []) S F B (c_X10_writesNumber l G σ15 _ (σ15 199 (q4 + 4).toNatClampNeg) hq16) (kq (by decide) : kd 198 = 21 ∧ 198 < NN) rfl rfl (cwV 1 hts gX10_line_X10_writesNumber rfl rfl rfl (by decide +kernel) ⟨Nat.le_of_ble_eq_true rfl, Nat.le_of_ble_eq_true rfl⟩) rfl hl.1 rfl (Nat.le_of_ble_eq_true rfl) dX10_line_120 ⟨Nat.le_of_ble_eq_true rfl, Nat.le_of_ble_eq_true rfl⟩ (fun H locs B => ?_)
        refine lv_aload_n hx hb dX10_line_123 rfl (lv_at hl 1 rfl) ?_
        refine lv_bipush (v := 42) hx hb dX10_line_124 (by decide) ?_
        obtain ⟨σ19, hq18, ho⟩ := bnd_ ho
        refine k_vV (As := [.int 42]) (rest := []) S F B (c_X10_sign l G σ17 _ 42 hq18) (kq (by decide) : kd 198 = 21 ∧ 198 < NN) rfl rfl (cwV 1 hts gX10_line_X10_sign rfl rfl rfl (by decide +kernel) ⟨Nat.le_of_ble_eq_true rfl, Nat.le_of_ble_eq_true rfl⟩) rfl hl.1 rfl (Nat.le_of_ble_eq_true rfl) dX10_line_126 ⟨Nat.le_of_ble_eq_true rfl, Nat.le_of_ble_eq_true rfl⟩ (fun H locs B => ?_)
        refine lv_aload_n hx hb dX10_line_129 rfl (lv_at hl 1 rfl) ?_
        refine lv_aload_n hx hb dX10_line_130 rfl (lv_at hl 1 rfl) ?_
        refine r_get (ci := 14) (C := RX10) (T := TX10) (N := 21) S F B (kq (by decide) : kd 198 = 21 ∧ 198 < NN) rfl rfl hiX10 0 (by decide) (by decide +kernel) rfl dX10_line_131 ?_
        refine lv_iload_n hx hb dX10_line_134 rfl (lv_at hl 0 rfl) ?_
        refine lv_iconst (v := 5) hx hb dX10_line_135 (by decide) ?_
        refine lv_iadd hx hb dX10_line_136 ?_
        obtain ⟨hi, ho⟩ := gd_ ho
        refine r_iald S F B (kq (by decide) : kd 199 = 22 ∧ 199 < NN) rfl hi dX10_line_137 ?_
        obtain ⟨σ21, hq20, ho⟩ := bnd_ ho
        refine k_vV (As := [.int (σ19 199 (q4 + 5).toNatClampNeg)]) (rest := []) S F B (c_X10_writesNumber l G σ19 _ (σ19 199 (q4 + 5).toNatClampNeg) hq20) (kq (by decide) : kd 198 = 21 ∧ 198 < NN) rfl rfl (cwV 1 hts gX10_line_X10_writesNumber rfl rfl rfl (by decide +kernel) ⟨Nat.le_of_ble_eq_true rfl, Nat.le_of_ble_eq_true rfl⟩) rfl hl.1 rfl (Nat.le_of_ble_eq_true rfl) dX10_line_138 ⟨Nat.le_of_ble_eq_true rfl, Nat.le_of_ble_eq_true rfl⟩ (fun H locs B => ?_)
        refine lv_aload_n hx hb dX10_line_141 rfl (lv_at hl 1 rfl) ?_
        refine r_get (ci := 14) (C := RX10) (T := TX10) (N := 21) S F B (kq (by decide) : kd 198 = 21 ∧ 198 < NN) rfl rfl hiX10 0 (by decide) (by decide +kernel) rfl dX10_line_142 ?_
        refine lv_iload_n hx hb dX10_line_145 rfl (lv_at hl 0 rfl) ?_
        refine lv_bipush (v := 6) hx hb dX10_line_146 (by decide) ?_
        refine lv_iadd hx hb dX10_line_148 ?_
        obtain ⟨hi, ho⟩ := gd_ ho
        refine r_iald S F B (kq (by decide) : kd 199 = 22 ∧ 199 < NN) rfl hi dX10_line_149 ?_
        refine lv_iconst (v := 1) hx hb dX10_line_150 (by decide) ?_
        refine lv_icmp_ne (tgt := 160) hx hb dX10_line_151 (by decide) (fun c22 => ?_) (fun c22 => ?_)
        · have ho := in_ c22 ho
          refine lv_aload_n hx hb dX10_line_160 rfl (lv_at hl 1 rfl) ?_
          refine r_get (ci := 14) (C := RX10) (T := TX10) (N := 21) S F B (kq (by decide) : kd 198 = 21 ∧ 198 < NN) rfl rfl hiX10 20 (by decide) (by decide +kernel) rfl dX10_line_161 ?_
          cases ho
          exact e_i B hx hb hr hlocks rfl rfl dX10_line_164
        · have ho := ip_ c22 ho
          refine lv_aload_n hx hb dX10_line_154 rfl (lv_at hl 1 rfl) ?_
          refine lv_bipush (v := 33) hx hb dX10_line_155 (by decide) ?_
          obtain ⟨σ24, hq23, ho⟩ := bnd_ ho
          refine k_vV (As := [.int 33]) (rest := []) S F B (c_X10_sign l G σ21 _ 33 hq23) (kq (by decide) : kd 198 = 21 ∧ 198 < NN) rfl rfl (cwV 1 hts gX10_line_X10_sign rfl rfl rfl (by decide +kernel) ⟨Nat.le_of_ble_eq_true rfl, Nat.le_of_ble_eq_true rfl⟩) rfl hl.1 rfl (Nat.le_of_ble_eq_true rfl) dX10_line_157 ⟨Nat.le_of_ble_eq_true rfl, Nat.le_of_ble_eq_true rfl⟩ (fun H locs B => ?_)
          refine lv_aload_n hx hb dX10_line_160 rfl (lv_at hl 1 rfl) ?_
          refine r_get (ci := 14) (C := RX10) (T := TX10) (N := 21) S F B (kq (by decide) : kd 198 = 21 ∧ 198 < NN) rfl rfl hiX10 20 (by decide) (by decide +kernel) rfl dX10_line_161 ?_
          cases ho
          exact e_i B hx hb hr hlocks rfl rfl dX10_line_164
    · have ho := ip_ c6 ho
      refine lv_aload_n hx hb dX10_line_42 rfl (lv_at hl 1 rfl) ?_
      refine lv_bipush (v := 111) hx hb dX10_line_43 (by decide) ?_
      obtain ⟨σ26, hq25, ho⟩ := bnd_ ho
      refine k_vV (As := [.int 111]) (rest := []) S F B (c_X10_sign l G σ5 _ 111 hq25) (kq (by decide) : kd 198 = 21 ∧ 198 < NN) rfl rfl (cwV 1 hts gX10_line_X10_sign rfl rfl rfl (by decide +kernel) ⟨Nat.le_of_ble_eq_true rfl, Nat.le_of_ble_eq_true rfl⟩) rfl hl.1 rfl (Nat.le_of_ble_eq_true rfl) dX10_line_45 ⟨Nat.le_of_ble_eq_true rfl, Nat.le_of_ble_eq_true rfl⟩ (fun H locs B => ?_)
      refine lv_aload_n hx hb dX10_line_48 rfl (lv_at hl 1 rfl) ?_
      refine lv_bipush (v := 117) hx hb dX10_line_49 (by decide) ?_
      obtain ⟨σ28, hq27, ho⟩ := bnd_ ho
      refine k_vV (As := [.int 117]) (rest := []) S F B (c_X10_sign l G σ26 _ 117 hq27) (kq (by decide) : kd 198 = 21 ∧ 198 < NN) rfl rfl (cwV 1 hts gX10_line_X10_sign rfl rfl rfl (by decide +kernel) ⟨Nat.le_of_ble_eq_true rfl, Nat.le_of_ble_eq_true rfl⟩) rfl hl.1 rfl (Nat.le_of_ble_eq_true rfl) dX10_line_51 ⟨Nat.le_of_ble_eq_true rfl, Nat.le_of_ble_eq_true rfl⟩ (fun H locs B => ?_)
      refine lv_aload_n hx hb dX10_line_54 rfl (lv_at hl 1 rfl) ?_
      refine lv_bipush (v := 116) hx hb dX10_line_55 (by decide) ?_
      obtain ⟨σ30, hq29, ho⟩ := bnd_ ho
      refine k_vV (As := [.int 116]) (rest := []) S F B (c_X10_sign l G σ28 _ 116 hq29) (kq (by decide) : kd 198 = 21 ∧ 198 < NN) rfl rfl (cwV 1 hts gX10_line_X10_sign rfl rfl rfl (by decide +kernel) ⟨Nat.le_of_ble_eq_true rfl, Nat.le_of_ble_eq_true rfl⟩) rfl hl.1 rfl (Nat.le_of_ble_eq_true rfl) dX10_line_57 ⟨Nat.le_of_ble_eq_true rfl, Nat.le_of_ble_eq_true rfl⟩ (fun H locs B => ?_)
      refine lv_goto (tgt := 75) hx hb dX10_line_60 (by decide) ?_
      refine lv_aload_n hx hb dX10_line_75 rfl (lv_at hl 1 rfl) ?_
      refine lv_bipush (v := 43) hx hb dX10_line_76 (by decide) ?_
      obtain ⟨σ32, hq31, ho⟩ := bnd_ ho
      refine k_vV (As := [.int 43]) (rest := []) S F B (c_X10_sign l G σ30 _ 43 hq31) (kq (by decide) : kd 198 = 21 ∧ 198 < NN) rfl rfl (cwV 1 hts gX10_line_X10_sign rfl rfl rfl (by decide +kernel) ⟨Nat.le_of_ble_eq_true rfl, Nat.le_of_ble_eq_true rfl⟩) rfl hl.1 rfl (Nat.le_of_ble_eq_true rfl) dX10_line_78 ⟨Nat.le_of_ble_eq_true rfl, Nat.le_of_ble_eq_true rfl⟩ (fun H locs B => ?_)
      refine lv_aload_n hx hb dX10_line_81 rfl (lv_at hl 1 rfl) ?_
      refine lv_aload_n hx hb dX10_line_82 rfl (lv_at hl 1 rfl) ?_
      refine r_get (ci := 14) (C := RX10) (T := TX10) (N := 21) S F B (kq (by decide) : kd 198 = 21 ∧ 198 < NN) rfl rfl hiX10 0 (by decide) (by decide +kernel) rfl dX10_line_83 ?_
      refine lv_iload_n hx hb dX10_line_86 rfl (lv_at hl 0 rfl) ?_
      refine lv_iconst (v := 2) hx hb dX10_line_87 (by decide) ?_
      refine lv_iadd hx hb dX10_line_88 ?_
      obtain ⟨hi, ho⟩ := gd_ ho
      refine r_iald S F B (kq (by decide) : kd 199 = 22 ∧ 199 < NN) rfl hi dX10_line_89 ?_
      obtain ⟨σ34, hq33, ho⟩ := bnd_ ho
      refine k_vV (As := [.int (σ32 199 (q4 + 2).toNatClampNeg)]) (rest := []) S F B (c_X10_writesNumber l G σ32 _ (σ32 199 (q4 + 2).toNatClampNeg) hq33) (kq (by decide) : kd 198 = 21 ∧ 198 < NN) rfl rfl (cwV 1 hts gX10_line_X10_writesNumber rfl rfl rfl (by decide +kernel) ⟨Nat.le_of_ble_eq_true rfl, Nat.le_of_ble_eq_true rfl⟩) rfl hl.1 rfl (Nat.le_of_ble_eq_true rfl) dX10_line_90 ⟨Nat.le_of_ble_eq_true rfl, Nat.le_of_ble_eq_true rfl⟩ (fun H locs B => ?_)
      refine lv_aload_n hx hb dX10_line_93 rfl (lv_at hl 1 rfl) ?_
      refine r_get (ci := 14) (C := RX10) (T := TX10) (N := 21) S F B (kq (by decide) : kd 198 = 21 ∧ 198 < NN) rfl rfl hiX10 0 (by decide) (by decide +kernel) rfl dX10_line_94 ?_
      refine lv_iload_n hx hb dX10_line_97 rfl (lv_at hl 0 rfl) ?_
      refine lv_iconst (v := 4) hx hb dX10_line_98 (by decide) ?_
      refine lv_iadd hx hb dX10_line_99 ?_
      obtain ⟨hi, ho⟩ := gd_ ho
      refine r_iald S F B (kq (by decide) : kd 199 = 22 ∧ 199 < NN) rfl hi dX10_line_100 ?_
      refine lv_iconst (v := (-1)) hx hb dX10_line_101 (by decide) ?_
      refine lv_icmp_eq (tgt := 160) hx hb dX10_line_102 (by decide) (fun c35 => ?_) (fun c35 => ?_)
      · have ho := ip_ c35 ho
        refine lv_aload_n hx hb dX10_line_160 rfl (lv_at hl 1 rfl) ?_
        refine r_get (ci := 14) (C := RX10) (T := TX10) (N := 21) S F B (kq (by decide) : kd 198 = 21 ∧ 198 < NN) rfl rfl hiX10 20 (by decide) (by decide +kernel) rfl dX10_line_161 ?_
        cases ho
        exact e_i B hx hb hr hlocks rfl rfl dX10_line_164
      · have ho := in_ c35 ho
        refine lv_aload_n hx hb dX10_line_105 rfl (lv_at hl 1 rfl) ?_
        refine lv_bipush (v := 35) hx hb dX10_line_106 (by decide) ?_
        obtain ⟨σ37, hq36, ho⟩ := bnd_ ho
        refine k_vV (As := [.int 35]) (rest := []) S F B (c_X10_sign l G σ34 _ 35 hq36) (kq (by decide) : kd 198 = 21 ∧ 198 < NN) rfl rfl (cwV 1 hts gX10_line_X10_sign rfl rfl rfl (by decide +kernel) ⟨Nat.le_of_ble_eq_true rfl, Nat.le_of_ble_eq_true rfl⟩) rfl hl.1 rfl (Nat.le_of_ble_eq_true rfl) dX10_line_108 ⟨Nat.le_of_ble_eq_true rfl, Nat.le_of_ble_eq_true rfl⟩ (fun H locs B => ?_)
        refine lv_aload_n hx hb dX10_line_111 rfl (lv_at hl 1 rfl) ?_
        refine lv_aload_n hx hb dX10_line_112 rfl (lv_at hl 1 rfl) ?_
        refine r_get (ci := 14) (C := RX10) (T := TX10) (N := 21) S F B (kq (by decide) : kd 198 = 21 ∧ 198 < NN) rfl rfl hiX10 0 (by decide) (by decide +kernel) rfl dX10_line_113 ?_
        refine lv_iload_n hx hb dX10_line_116 rfl (lv_at hl 0 rfl) ?_
        refine lv_iconst (v := 4) hx hb dX10_line_117 (by decide) ?_
        refine lv_iadd hx hb dX10_line_118 ?_
        obtain ⟨hi, ho⟩ := gd_ ho
        refine r_iald S F B (kq (by decide) : kd 199 = 22 ∧ 199 < NN) rfl hi dX10_line_119 ?_
        obtain ⟨σ39, hq38, ho⟩ := bnd_ ho
        refine k_vV (As := [.int (σ37 199 (q4 + 4).toNatClampNeg)]) (rest := []) S F B (c_X10_writesNumber l G σ37 _ (σ37 199 (q4 + 4).toNatClampNeg) hq38) (kq (by decide) : kd 198 = 21 ∧ 198 < NN) rfl rfl (cwV 1 hts gX10_line_X10_writesNumber rfl rfl rfl (by decide +kernel) ⟨Nat.le_of_ble_eq_true rfl, Nat.le_of_ble_eq_true rfl⟩) rfl hl.1 rfl (Nat.le_of_ble_eq_true rfl) dX10_line_120 ⟨Nat.le_of_ble_eq_true rfl, Nat.le_of_ble_eq_true rfl⟩ (fun H locs B => ?_)
        refine lv_aload_n hx hb dX10_line_123 rfl (lv_at hl 1 rfl) ?_
        refine lv_bipush (v := 42) hx hb dX10_line_124 (by decide) ?_
        obtain ⟨σ41, hq40, ho⟩ := bnd_ ho
        refine k_vV (As := [.int 42]) (rest := []) S F B (c_X10_sign l G σ39 _ 42 hq40) (kq (by decide) : kd 198 = 21 ∧ 198 < NN) rfl rfl (cwV 1 hts gX10_line_X10_sign rfl rfl rfl (by decide +kernel) ⟨Nat.le_of_ble_eq_true rfl, Nat.le_of_ble_eq_true rfl⟩) rfl hl.1 rfl (Nat.le_of_ble_eq_true rfl) dX10_line_126 ⟨Nat.le_of_ble_eq_true rfl, Nat.le_of_ble_eq_true rfl⟩ (fun H locs B => ?_)
        refine lv_aload_n hx hb dX10_line_129 rfl (lv_at hl 1 rfl) ?_
        refine lv_aload_n hx hb dX10_line_130 rfl (lv_at hl 1 rfl) ?_
        refine r_get (ci := 14) (C := RX10) (T := TX10) (N := 21) S F B (kq (by decide) : kd 198 = 21 ∧ 198 < NN) rfl rfl hiX10 0 (by decide) (by decide +kernel) rfl dX10_line_131 ?_
        refine lv_iload_n hx hb dX10_line_134 rfl (lv_at hl 0 rfl) ?_
        refine lv_iconst (v := 5) hx hb dX10_line_135 (by decide) ?_
        refine lv_iadd hx hb dX10_line_136 ?_
        obtain ⟨hi, ho⟩ := gd_ ho
        refine r_iald S F B (kq (by decide) : kd 199 = 22 ∧ 199 < NN) rfl hi dX10_line_137 ?_
        obtain ⟨σ43, hq42, ho⟩ := bnd_ ho
        refine k_vV (As := [.int (σ41 199 (q4 + 5).toNatClampNeg)]) (rest := []) S F B (c_X10_writesNumber l G σ41 _ (σ41 199 (q4 + 5).toNatClampNeg) hq42) (kq (by decide) : kd 198 = 21 ∧ 198 < NN) rfl rfl (cwV 1 hts gX10_line_X10_writesNumber rfl rfl rfl (by decide +kernel) ⟨Nat.le_of_ble_eq_true rfl, Nat.le_of_ble_eq_true rfl⟩) rfl hl.1 rfl (Nat.le_of_ble_eq_true rfl) dX10_line_138 ⟨Nat.le_of_ble_eq_true rfl, Nat.le_of_ble_eq_true rfl⟩ (fun H locs B => ?_)
        refine lv_aload_n hx hb dX10_line_141 rfl (lv_at hl 1 rfl) ?_
        refine r_get (ci := 14) (C := RX10) (T := TX10) (N := 21) S F B (kq (by decide) : kd 198 = 21 ∧ 198 < NN) rfl rfl hiX10 0 (by decide) (by decide +kernel) rfl dX10_line_142 ?_
        refine lv_iload_n hx hb dX10_line_145 rfl (lv_at hl 0 rfl) ?_
        refine lv_bipush (v := 6) hx hb dX10_line_146 (by decide) ?_
        refine lv_iadd hx hb dX10_line_148 ?_
        obtain ⟨hi, ho⟩ := gd_ ho
        refine r_iald S F B (kq (by decide) : kd 199 = 22 ∧ 199 < NN) rfl hi dX10_line_149 ?_
        refine lv_iconst (v := 1) hx hb dX10_line_150 (by decide) ?_
        refine lv_icmp_ne (tgt := 160) hx hb dX10_line_151 (by decide) (fun c44 => ?_) (fun c44 => ?_)
        · have ho := in_ c44 ho
          refine lv_aload_n hx hb dX10_line_160 rfl (lv_at hl 1 rfl) ?_
          refine r_get (ci := 14) (C := RX10) (T := TX10) (N := 21) S F B (kq (by decide) : kd 198 = 21 ∧ 198 < NN) rfl rfl hiX10 20 (by decide) (by decide +kernel) rfl dX10_line_161 ?_
          cases ho
          exact e_i B hx hb hr hlocks rfl rfl dX10_line_164
        · have ho := ip_ c44 ho
          refine lv_aload_n hx hb dX10_line_154 rfl (lv_at hl 1 rfl) ?_
          refine lv_bipush (v := 33) hx hb dX10_line_155 (by decide) ?_
          obtain ⟨σ46, hq45, ho⟩ := bnd_ ho
          refine k_vV (As := [.int 33]) (rest := []) S F B (c_X10_sign l G σ43 _ 33 hq45) (kq (by decide) : kd 198 = 21 ∧ 198 < NN) rfl rfl (cwV 1 hts gX10_line_X10_sign rfl rfl rfl (by decide +kernel) ⟨Nat.le_of_ble_eq_true rfl, Nat.le_of_ble_eq_true rfl⟩) rfl hl.1 rfl (Nat.le_of_ble_eq_true rfl) dX10_line_157 ⟨Nat.le_of_ble_eq_true rfl, Nat.le_of_ble_eq_true rfl⟩ (fun H locs B => ?_)
          refine lv_aload_n hx hb dX10_line_160 rfl (lv_at hl 1 rfl) ?_
          refine r_get (ci := 14) (C := RX10) (T := TX10) (N := 21) S F B (kq (by decide) : kd 198 = 21 ∧ 198 < NN) rfl rfl hiX10 20 (by decide) (by decide +kernel) rfl dX10_line_161 ?_
          cases ho
          exact e_i B hx hb hr hlocks rfl rfl dX10_line_164
  · have ho := ip_ c3 ho
    refine lv_aload_n hx hb dX10_line_13 rfl (lv_at hl 0 rfl) ?_
    refine lv_iconst (v := 1) hx hb dX10_line_14 (by decide) ?_
    obtain ⟨q47, σ48, hq47, ho⟩ := bnm_ ho
    refine k_iV (As := [.int 1]) (rest := []) S F B (c_X10_throwing l G σ1 _ 1 hq47) (kq (by decide) : kd 198 = 21 ∧ 198 < NN) rfl rfl (cwV 1 hts gX10_line_X10_throwing rfl rfl rfl (by decide +kernel) ⟨Nat.le_of_ble_eq_true rfl, Nat.le_of_ble_eq_true rfl⟩) rfl hl.1 rfl (Nat.le_of_ble_eq_true rfl) dX10_line_15 ⟨Nat.le_of_ble_eq_true rfl, Nat.le_of_ble_eq_true rfl⟩ (fun H locs B => ?_)
    cases ho
    exact e_i B hx hb hr hlocks rfl rfl dX10_line_18

set_option maxHeartbeats 4000000 in
set_option maxRecDepth 100000 in
theorem c_X10_visitorsIn (l : Launch) (G : Gd) (σ : Mm) (sz : Nat) (a0 : Int32) {out : Int32} (ho : f_X10_visitorsIn a0 σ = some out) : Met l yX10_visitorsIn wsX10_visitorsIn { frames := 1, cells := 0, slots := 0, locals := 20 } (va_Pc [.ref (G.2.2 198), .int a0] (PW G σ sz)) (Qi G sz out σ) 0 0 (AA G sz) := by
  refine Met.ofW (cc := cX10_visitorsIn) (maxL := 4) (ret := (some .int)) (by decide) rfl ?_
  intro p e s m args below meth c s₁ B0 hml hv
  obtain ⟨rfl, hpw⟩ := hv
  have hsz := hpw.1
  subst hsz
  obtain ⟨F, B⟩ := hpw.to
  have hx := B0.exec
  have hb := B0.bytes
  have hr := B0.returns
  have hts := atoms_spec (ws := wsX10_visitorsIn) B0.pre
  have hown : s.vm.findClass RX10 = some m.cls := findClass_of_methodNamed B0.named
  have hlocks := B0.notSynchronized
  have S : CallFix p m c cX10_visitorsIn 4 s _ wsX10_visitorsIn RX10 := ⟨hx, hb, hml, hown, hts⟩
  have hiX10 : ∀ w ∈ u_ws RX10 TX10 21, w ∈ wsX10_visitorsIn := by decide +kernel
  have hl := lv_entry [.ref (G.2.2 198), .int a0] (n := 4) (Nat.le_of_ble_eq_true rfl)
  rw [lg_entry_eq]
  generalize (lg_sl [.ref (G.2.2 198), .int a0] ++ List.replicate (4 - (lg_sl [.ref (G.2.2 198), .int a0]).length) Slot.unset).toArray = ls at hl ⊢
  have hl : lv_has ls 4 [(0, .ref (G.2.2 198)), (1, .int a0)] := hl
  unfold f_X10_visitorsIn at ho
  skip
  refine lv_iconst (v := 0) hx hb dX10_visitorsIn_0 (by decide) ?_
  refine lv_istore_n (lv' := [(2, .int 0), (0, .ref (G.2.2 198)), (1, .int a0)]) hx hb dX10_visitorsIn_1 rfl hl (by decide) rfl (fun ls hl => ?_)
  refine lv_iconst (v := 0) hx hb dX10_visitorsIn_2 (by decide) ?_
  refine lv_istore_n (lv' := [(3, .int 0), (2, .int 0), (0, .ref (G.2.2 198)), (1, .int a0)]) hx hb dX10_visitorsIn_3 rfl hl (by decide) rfl (fun ls hl => ?_)
  have hloop4 : ∀ (n : Nat) (v4 : Int32) (v5 : Int32) (H : Heap) (locs : List Loc) (ls : Array Slot), f_X10_visitorsIn_l4  a0 σ n v4 v5 = some out → Bd G σ s H locs → lv_has ls 4 [(3, .int v4), (2, .int v5), (0, .ref (G.2.2 198)), (1, .int a0)] → W p l e (headSpec wsX10_visitorsIn { frames := 1, cells := 0, slots := 0, locals := 20 }).room s m #[.ref (G.2.2 198), .int a0] below meth c H locs 0 0 (MQ below (Qi G s.heap.size out σ) #[.ref (G.2.2 198), .int a0] s 0 0 (AA G s.heap.size)) (F0 m 4 ls []) := by
    intro n
    induction n with
    | zero => intro v4 v5 H locs ls ho B hl; cases ho
    | succ n ih =>
      intro v4 v5 H locs ls ho B hl
      refine lv_iload_n hx hb dX10_visitorsIn_4 rfl (lv_at hl 0 rfl) ?_
      refine lv_aload_n hx hb dX10_visitorsIn_5 rfl (lv_at hl 2 rfl) ?_
      refine r_get (ci := 14) (C := RX10) (T := TX10) (N := 21) S F B (kq (by decide) : kd 198 = 21 ∧ 198 < NN) rfl rfl hiX10 0 (by decide) (by decide +kernel) rfl dX10_visitorsIn_6 ?_
      refine lv_iconst (v := 1) hx hb dX10_visitorsIn_9 (by decide) ?_
      refine r_ialdc (j := 1) S F B (kq (by decide) : kd 199 = 22 ∧ 199 < NN) rfl (vpc (by decide)) (by decide) dX10_visitorsIn_10 ?_
      refine lv_icmp_ge (tgt := 58) hx hb dX10_visitorsIn_11 (by decide) (fun c6 => ?_) (fun c6 => ?_)
      · have ho := ip_ c6 ho
        refine lv_iload_n hx hb dX10_visitorsIn_58 rfl (lv_at hl 1 rfl) ?_
        cases ho
        exact e_i B hx hb hr hlocks rfl rfl dX10_visitorsIn_59
      · have ho := in_ c6 ho
        refine lv_iload_n hx hb dX10_visitorsIn_14 rfl (lv_at hl 1 rfl) ?_
        refine lv_aload_n hx hb dX10_visitorsIn_15 rfl (lv_at hl 2 rfl) ?_
        refine r_get (ci := 14) (C := RX10) (T := TX10) (N := 21) S F B (kq (by decide) : kd 198 = 21 ∧ 198 < NN) rfl rfl hiX10 0 (by decide) (by decide +kernel) rfl dX10_visitorsIn_16 ?_
        refine lv_iload_n hx hb dX10_visitorsIn_19 rfl (lv_at hl 0 rfl) ?_
        obtain ⟨q7, hq7, ho⟩ := bnd_ ho
        refine k_iS (As := [.int v4]) (rest := [.ref (G.2.2 199), .int v5]) S F B (c_X10_visitorAt l G σ _ v4 hq7) (va_cwS 1 hts gX10_visitorsIn_X10_visitorAt rfl rfl rfl (by decide +kernel) ⟨Nat.le_of_ble_eq_true rfl, Nat.le_of_ble_eq_true rfl⟩) rfl hl.1 rfl (Nat.le_of_ble_eq_true rfl) dX10_visitorsIn_20 ⟨Nat.le_of_ble_eq_true rfl, Nat.le_of_ble_eq_true rfl⟩ (fun H locs B => ?_)
        refine lv_bipush (v := 7) hx hb dX10_visitorsIn_23 (by decide) ?_
        refine lv_iadd hx hb dX10_visitorsIn_25 ?_
        obtain ⟨hi, ho⟩ := gd_ ho
        refine r_iald S F B (kq (by decide) : kd 199 = 22 ∧ 199 < NN) rfl hi dX10_visitorsIn_26 ?_
        refine lv_if_ne (tgt := 49) hx hb dX10_visitorsIn_27 (by decide) (fun c8 => ?_) (fun c8 => ?_)
        · have ho := in_ c8 ho
          refine lv_iconst (v := 0) hx hb dX10_visitorsIn_49 (by decide) ?_
          refine lv_iadd hx hb dX10_visitorsIn_50 ?_
          obtain ⟨x9, ex9, ho⟩ := lt_ ho
          refine lv_nm ex9 ?_
          refine lv_istore_n (lv' := [(2, .int x9), (3, .int v4), (0, .ref (G.2.2 198)), (1, .int a0)]) hx hb dX10_visitorsIn_51 rfl hl (by decide) rfl (fun ls hl => ?_)
          obtain ⟨x10, ex10, ho⟩ := lt_ ho
          refine lv_iinc (v := x10) (lv' := [(3, .int x10), (2, .int x9), (0, .ref (G.2.2 198)), (1, .int a0)]) hx hb dX10_visitorsIn_52 hl (k := 1) rfl (by rw [ex10]; rfl) (by decide) rfl (fun ls hl => ?_)
          refine lv_goto (tgt := 4) hx hb dX10_visitorsIn_55 (by decide) ?_
          exact ih _ _  _ _ _ ho B (lv_sub hl [0, 1, 2, 3] rfl)
        · have ho := ip_ c8 ho
          refine lv_aload_n hx hb dX10_visitorsIn_30 rfl (lv_at hl 2 rfl) ?_
          refine r_get (ci := 14) (C := RX10) (T := TX10) (N := 21) S F B (kq (by decide) : kd 198 = 21 ∧ 198 < NN) rfl rfl hiX10 0 (by decide) (by decide +kernel) rfl dX10_visitorsIn_31 ?_
          refine lv_iload_n hx hb dX10_visitorsIn_34 rfl (lv_at hl 0 rfl) ?_
          obtain ⟨q11, hq11, ho⟩ := bnd_ ho
          refine k_iS (As := [.int v4]) (rest := [.ref (G.2.2 199), .int v5]) S F B (c_X10_visitorAt l G σ _ v4 hq11) (va_cwS 1 hts gX10_visitorsIn_X10_visitorAt rfl rfl rfl (by decide +kernel) ⟨Nat.le_of_ble_eq_true rfl, Nat.le_of_ble_eq_true rfl⟩) rfl hl.1 rfl (Nat.le_of_ble_eq_true rfl) dX10_visitorsIn_35 ⟨Nat.le_of_ble_eq_true rfl, Nat.le_of_ble_eq_true rfl⟩ (fun H locs B => ?_)
          refine lv_iconst (v := 1) hx hb dX10_visitorsIn_38 (by decide) ?_
          refine lv_iadd hx hb dX10_visitorsIn_39 ?_
          obtain ⟨hi, ho⟩ := gd_ ho
          refine r_iald S F B (kq (by decide) : kd 199 = 22 ∧ 199 < NN) rfl hi dX10_visitorsIn_40 ?_
          refine lv_iload_n hx hb dX10_visitorsIn_41 rfl (lv_at hl 3 rfl) ?_
          refine lv_icmp_ne (tgt := 49) hx hb dX10_visitorsIn_42 (by decide) (fun c12 => ?_) (fun c12 => ?_)
          · have ho := in_ c12 ho
            refine lv_iconst (v := 0) hx hb dX10_visitorsIn_49 (by decide) ?_
            refine lv_iadd hx hb dX10_visitorsIn_50 ?_
            obtain ⟨x13, ex13, ho⟩ := lt_ ho
            refine lv_nm ex13 ?_
            refine lv_istore_n (lv' := [(2, .int x13), (3, .int v4), (0, .ref (G.2.2 198)), (1, .int a0)]) hx hb dX10_visitorsIn_51 rfl hl (by decide) rfl (fun ls hl => ?_)
            obtain ⟨x14, ex14, ho⟩ := lt_ ho
            refine lv_iinc (v := x14) (lv' := [(3, .int x14), (2, .int x13), (0, .ref (G.2.2 198)), (1, .int a0)]) hx hb dX10_visitorsIn_52 hl (k := 1) rfl (by rw [ex14]; rfl) (by decide) rfl (fun ls hl => ?_)
            refine lv_goto (tgt := 4) hx hb dX10_visitorsIn_55 (by decide) ?_
            exact ih _ _  _ _ _ ho B (lv_sub hl [0, 1, 2, 3] rfl)
          · have ho := ip_ c12 ho
            refine lv_iconst (v := 1) hx hb dX10_visitorsIn_45 (by decide) ?_
            refine lv_goto (tgt := 50) hx hb dX10_visitorsIn_46 (by decide) ?_
            refine lv_iadd hx hb dX10_visitorsIn_50 ?_
            obtain ⟨x15, ex15, ho⟩ := lt_ ho
            refine lv_nm ex15 ?_
            refine lv_istore_n (lv' := [(2, .int x15), (3, .int v4), (0, .ref (G.2.2 198)), (1, .int a0)]) hx hb dX10_visitorsIn_51 rfl hl (by decide) rfl (fun ls hl => ?_)
            obtain ⟨x16, ex16, ho⟩ := lt_ ho
            refine lv_iinc (v := x16) (lv' := [(3, .int x16), (2, .int x15), (0, .ref (G.2.2 198)), (1, .int a0)]) hx hb dX10_visitorsIn_52 hl (k := 1) rfl (by rw [ex16]; rfl) (by decide) rfl (fun ls hl => ?_)
            refine lv_goto (tgt := 4) hx hb dX10_visitorsIn_55 (by decide) ?_
            exact ih _ _  _ _ _ ho B (lv_sub hl [0, 1, 2, 3] rfl)
  exact hloop4 8 _ _  _ _ _ ho B hl

