set_option maxHeartbeats 4000000 in
set_option maxRecDepth 100000 in
theorem c_X10_undo (l : Launch) (G : Gd) (σ : Mm) (sz : Nat) {out : Int32 × Mm} (ho : f_X10_undo σ = some out) : Met l yX10_undo wsX10_undo { frames := 1, cells := 0, slots := 0, locals := 21 } (va_Pc [.ref (G.2.2 198)] (PW G σ sz)) (Qi G sz out.1 out.2) 0 0 (AA G sz) := by
  refine Met.ofW (cc := cX10_undo) (maxL := 2) (ret := (some .int)) (by decide) rfl ?_
  intro p e s m args below meth c s₁ B0 hml hv
  obtain ⟨rfl, hpw⟩ := hv
  have hsz := hpw.1
  subst hsz
  obtain ⟨F, B⟩ := hpw.to
  have hx := B0.exec
  have hb := B0.bytes
  have hr := B0.returns
  have hts := atoms_spec (ws := wsX10_undo) B0.pre
  have hown : s.vm.findClass RX10 = some m.cls := findClass_of_methodNamed B0.named
  have hlocks := B0.notSynchronized
  have S : CallFix p m c cX10_undo 2 s _ wsX10_undo RX10 := ⟨hx, hb, hml, hown, hts⟩
  have hiX10 : ∀ w ∈ u_ws RX10 TX10 21, w ∈ wsX10_undo := by decide +kernel
  have hl := lv_entry [.ref (G.2.2 198)] (n := 2) (Nat.le_of_ble_eq_true rfl)
  rw [lg_entry_eq]
  generalize (lg_sl [.ref (G.2.2 198)] ++ List.replicate (2 - (lg_sl [.ref (G.2.2 198)]).length) Slot.unset).toArray = ls at hl ⊢
  have hl : lv_has ls 2 [(0, .ref (G.2.2 198))] := hl
  unfold f_X10_undo at ho
  skip
  refine lv_aload_n hx hb dX10_undo_0 rfl (lv_at hl 0 rfl) ?_
  refine lv_iconst (v := 0) hx hb dX10_undo_1 (by decide) ?_
  refine r_put (ci := 14) (C := RX10) (T := TX10) (N := 21) (ty := .int) S F B tyX10 tyX10_ok nmX10 (kq (by decide) : kd 198 = 21 ∧ 198 < NN) (fun _ => rfl) rfl hiX10 12 (by decide) (by decide +kernel) rfl rfl rfl rfl (fun _ => Nat.le_of_ble_eq_true rfl) (fun _ => rfl) dX10_undo_2 (fun H locs B => ?_)
  obtain ⟨σ1, eσ1, ho⟩ := lt_ ho
  rw [← eσ1] at B
  refine lv_aload_n hx hb dX10_undo_5 rfl (lv_at hl 0 rfl) ?_
  refine r_get (ci := 14) (C := RX10) (T := TX10) (N := 21) S F B (kq (by decide) : kd 198 = 21 ∧ 198 < NN) rfl rfl hiX10 5 (by decide) (by decide +kernel) rfl dX10_undo_6 ?_
  refine lv_if_ne (tgt := 18) hx hb dX10_undo_9 (by decide) (fun c2 => ?_) (fun c2 => ?_)
  · have ho := in_ c2 ho
    refine lv_aload_n hx hb dX10_undo_18 rfl (lv_at hl 0 rfl) ?_
    refine lv_dup hx hb dX10_undo_19 rfl ?_
    refine r_get (ci := 14) (C := RX10) (T := TX10) (N := 21) S F B (kq (by decide) : kd 198 = 21 ∧ 198 < NN) rfl rfl hiX10 5 (by decide) (by decide +kernel) rfl dX10_undo_20 ?_
    refine lv_iconst (v := 1) hx hb dX10_undo_23 (by decide) ?_
    refine lv_isub hx hb dX10_undo_24 ?_
    refine r_put (ci := 14) (C := RX10) (T := TX10) (N := 21) (ty := .int) S F B tyX10 tyX10_ok nmX10 (kq (by decide) : kd 198 = 21 ∧ 198 < NN) (fun _ => rfl) rfl hiX10 5 (by decide) (by decide +kernel) rfl rfl rfl rfl (fun _ => Nat.le_of_ble_eq_true rfl) (fun _ => rfl) dX10_undo_25 (fun H locs B => ?_)
    obtain ⟨σ3, eσ3, ho⟩ := lt_ ho
    rw [← eσ3] at B
    refine lv_iconst (v := 0) hx hb dX10_undo_28 (by decide) ?_
    refine lv_istore_n (lv' := [(1, .int 0), (0, .ref (G.2.2 198))]) hx hb dX10_undo_29 rfl hl (by decide) rfl (fun ls hl => ?_)
    have hloop30 : ∀ (n : Nat) (v7 : Int32) (σ8 : Mm) (H : Heap) (locs : List Loc) (ls : Array Slot), f_X10_undo_l30   n v7 σ8 = some out → Bd G σ8 s H locs → lv_has ls 2 [(1, .int v7), (0, .ref (G.2.2 198))] → W p l e (headSpec wsX10_undo { frames := 1, cells := 0, slots := 0, locals := 21 }).room s m #[.ref (G.2.2 198)] below meth c H locs 0 0 (MQ below (Qi G s.heap.size out.1 out.2) #[.ref (G.2.2 198)] s 0 0 (AA G s.heap.size)) (F0 m 30 ls []) := by
      intro n
      induction n with
      | zero => intro v7 σ8 H locs ls ho B hl; cases ho
      | succ n ih =>
        intro v7 σ8 H locs ls ho B hl
        refine lv_iload_n hx hb dX10_undo_30 rfl (lv_at hl 0 rfl) ?_
        refine lv_bipush (v := 86) hx hb dX10_undo_31 (by decide) ?_
        refine lv_icmp_ge (tgt := 62) hx hb dX10_undo_33 (by decide) (fun c9 => ?_) (fun c9 => ?_)
        · have ho := ip_ c9 ho
          refine lv_aload_n hx hb dX10_undo_62 rfl (lv_at hl 1 rfl) ?_
          refine r_get (ci := 14) (C := RX10) (T := TX10) (N := 21) S F B (kq (by decide) : kd 198 = 21 ∧ 198 < NN) rfl rfl hiX10 5 (by decide) (by decide +kernel) rfl dX10_undo_63 ?_
          cases ho
          exact e_i B hx hb hr hlocks rfl rfl dX10_undo_66
        · have ho := in_ c9 ho
          refine lv_aload_n hx hb dX10_undo_36 rfl (lv_at hl 1 rfl) ?_
          refine r_get (ci := 14) (C := RX10) (T := TX10) (N := 21) S F B (kq (by decide) : kd 198 = 21 ∧ 198 < NN) rfl rfl hiX10 0 (by decide) (by decide +kernel) rfl dX10_undo_37 ?_
          refine lv_iload_n hx hb dX10_undo_40 rfl (lv_at hl 0 rfl) ?_
          refine lv_aload_n hx hb dX10_undo_41 rfl (lv_at hl 1 rfl) ?_
          refine r_get (ci := 14) (C := RX10) (T := TX10) (N := 21) S F B (kq (by decide) : kd 198 = 21 ∧ 198 < NN) rfl rfl hiX10 4 (by decide) (by decide +kernel) rfl dX10_undo_42 ?_
          refine lv_bipush (v := 86) hx hb dX10_undo_45 (by decide) ?_
          refine lv_aload_n hx hb dX10_undo_47 rfl (lv_at hl 1 rfl) ?_
          refine r_get (ci := 14) (C := RX10) (T := TX10) (N := 21) S F B (kq (by decide) : kd 198 = 21 ∧ 198 < NN) rfl rfl hiX10 5 (by decide) (by decide +kernel) rfl dX10_undo_48 ?_
          refine lv_imul hx hb dX10_undo_51 ?_
          refine lv_iload_n hx hb dX10_undo_52 rfl (lv_at hl 0 rfl) ?_
          refine lv_iadd hx hb dX10_undo_53 ?_
          obtain ⟨hi, ho⟩ := gd_ ho
          refine r_iald S F B (kq (by decide) : kd 202 = 23 ∧ 202 < NN) rfl hi dX10_undo_54 ?_
          obtain ⟨hi, ho⟩ := gd_ ho
          refine r_iast S F B (kq (by decide) : kd 199 = 22 ∧ 199 < NN) (fun _ => rfl) hi dX10_undo_55 (fun H locs B => ?_)
          obtain ⟨σ10, eσ10, ho⟩ := lt_ ho
          rw [← eσ10] at B
          obtain ⟨x11, ex11, ho⟩ := lt_ ho
          refine lv_iinc (v := x11) (lv' := [(1, .int x11), (0, .ref (G.2.2 198))]) hx hb dX10_undo_56 hl (k := 0) rfl (by rw [ex11]; rfl) (by decide) rfl (fun ls hl => ?_)
          refine lv_goto (tgt := 30) hx hb dX10_undo_59 (by decide) ?_
          exact ih _ _ _ _ _ ho B (lv_sub hl [0, 1] rfl)
    exact hloop30 90 _ _ _ _ _ ho B hl
  · have ho := ip_ c2 ho
    refine lv_aload_n hx hb dX10_undo_12 rfl (lv_at hl 0 rfl) ?_
    refine lv_iconst (v := 1) hx hb dX10_undo_13 (by decide) ?_
    obtain ⟨q12, σ13, hq12, ho⟩ := bnm_ ho
    refine k_iV (As := [.int 1]) (rest := []) S F B (c_X10_throwing l G σ1 _ 1 hq12) (kq (by decide) : kd 198 = 21 ∧ 198 < NN) rfl rfl (cwV 1 hts gX10_undo_X10_throwing rfl rfl rfl (by decide +kernel) ⟨Nat.le_of_ble_eq_true rfl, Nat.le_of_ble_eq_true rfl⟩) rfl hl.1 rfl (Nat.le_of_ble_eq_true rfl) dX10_undo_14 ⟨Nat.le_of_ble_eq_true rfl, Nat.le_of_ble_eq_true rfl⟩ (fun H locs B => ?_)
    cases ho
    exact e_i B hx hb hr hlocks rfl rfl dX10_undo_17

set_option maxHeartbeats 4000000 in
set_option maxRecDepth 100000 in
theorem c_X10_save (l : Launch) (G : Gd) (σ : Mm) (sz : Nat) {out : Int32 × Mm} (ho : f_X10_save σ = some out) : Met l yX10_save wsX10_save { frames := 0, cells := 0, slots := 0, locals := 0 } (va_Pc [.ref (G.2.2 198)] (PW G σ sz)) (Qi G sz out.1 out.2) 0 0 (AA G sz) := by
  refine Met.ofW (cc := cX10_save) (maxL := 2) (ret := (some .int)) (by decide) rfl ?_
  intro p e s m args below meth c s₁ B0 hml hv
  obtain ⟨rfl, hpw⟩ := hv
  have hsz := hpw.1
  subst hsz
  obtain ⟨F, B⟩ := hpw.to
  have hx := B0.exec
  have hb := B0.bytes
  have hr := B0.returns
  have hts := atoms_spec (ws := wsX10_save) B0.pre
  have hown : s.vm.findClass RX10 = some m.cls := findClass_of_methodNamed B0.named
  have hlocks := B0.notSynchronized
  have S : CallFix p m c cX10_save 2 s _ wsX10_save RX10 := ⟨hx, hb, hml, hown, hts⟩
  have hiX10 : ∀ w ∈ u_ws RX10 TX10 21, w ∈ wsX10_save := by decide +kernel
  have hl := lv_entry [.ref (G.2.2 198)] (n := 2) (Nat.le_of_ble_eq_true rfl)
  rw [lg_entry_eq]
  generalize (lg_sl [.ref (G.2.2 198)] ++ List.replicate (2 - (lg_sl [.ref (G.2.2 198)]).length) Slot.unset).toArray = ls at hl ⊢
  have hl : lv_has ls 2 [(0, .ref (G.2.2 198))] := hl
  unfold f_X10_save at ho
  skip
  refine lv_aload_n hx hb dX10_save_0 rfl (lv_at hl 0 rfl) ?_
  refine lv_iconst (v := 0) hx hb dX10_save_1 (by decide) ?_
  refine r_put (ci := 14) (C := RX10) (T := TX10) (N := 21) (ty := .int) S F B tyX10 tyX10_ok nmX10 (kq (by decide) : kd 198 = 21 ∧ 198 < NN) (fun _ => rfl) rfl hiX10 12 (by decide) (by decide +kernel) rfl rfl rfl rfl (fun _ => Nat.le_of_ble_eq_true rfl) (fun _ => rfl) dX10_save_2 (fun H locs B => ?_)
  obtain ⟨σ1, eσ1, ho⟩ := lt_ ho
  rw [← eσ1] at B
  refine lv_iconst (v := 0) hx hb dX10_save_5 (by decide) ?_
  refine lv_istore_n (lv' := [(1, .int 0), (0, .ref (G.2.2 198))]) hx hb dX10_save_6 rfl hl (by decide) rfl (fun ls hl => ?_)
  have hloop7 : ∀ (n : Nat) (v5 : Int32) (σ6 : Mm) (H : Heap) (locs : List Loc) (ls : Array Slot), f_X10_save_l7   n v5 σ6 = some out → Bd G σ6 s H locs → lv_has ls 2 [(1, .int v5), (0, .ref (G.2.2 198))] → W p l e (headSpec wsX10_save { frames := 0, cells := 0, slots := 0, locals := 0 }).room s m #[.ref (G.2.2 198)] below meth c H locs 0 0 (MQ below (Qi G s.heap.size out.1 out.2) #[.ref (G.2.2 198)] s 0 0 (AA G s.heap.size)) (F0 m 7 ls []) := by
    intro n
    induction n with
    | zero => intro v5 σ6 H locs ls ho B hl; cases ho
    | succ n ih =>
      intro v5 σ6 H locs ls ho B hl
      refine lv_iload_n hx hb dX10_save_7 rfl (lv_at hl 0 rfl) ?_
      refine lv_bipush (v := 86) hx hb dX10_save_8 (by decide) ?_
      refine lv_icmp_ge (tgt := 31) hx hb dX10_save_10 (by decide) (fun c7 => ?_) (fun c7 => ?_)
      · have ho := ip_ c7 ho
        refine lv_aload_n hx hb dX10_save_31 rfl (lv_at hl 1 rfl) ?_
        refine lv_iconst (v := 1) hx hb dX10_save_32 (by decide) ?_
        refine r_put (ci := 14) (C := RX10) (T := TX10) (N := 21) (ty := .boolean) S F B tyX10 tyX10_ok nmX10 (kq (by decide) : kd 198 = 21 ∧ 198 < NN) (fun _ => rfl) rfl hiX10 3 (by decide) (by decide +kernel) rfl rfl rfl rfl (fun _ => Nat.le_of_ble_eq_true rfl) (fun _ => rfl) dX10_save_33 (fun H locs B => ?_)
        obtain ⟨σ8, eσ8, ho⟩ := lt_ ho
        rw [← eσ8] at B
        refine lv_aload_n hx hb dX10_save_36 rfl (lv_at hl 1 rfl) ?_
        refine r_get (ci := 14) (C := RX10) (T := TX10) (N := 21) S F B (kq (by decide) : kd 198 = 21 ∧ 198 < NN) rfl rfl hiX10 0 (by decide) (by decide +kernel) rfl dX10_save_37 ?_
        refine lv_iconst (v := 1) hx hb dX10_save_40 (by decide) ?_
        refine r_ialdc (j := 1) S F B (kq (by decide) : kd 199 = 22 ∧ 199 < NN) rfl (vpc (by decide)) (by decide) dX10_save_41 ?_
        cases ho
        exact e_i B hx hb hr hlocks rfl rfl dX10_save_42
      · have ho := in_ c7 ho
        refine lv_aload_n hx hb dX10_save_13 rfl (lv_at hl 1 rfl) ?_
        refine r_get (ci := 14) (C := RX10) (T := TX10) (N := 21) S F B (kq (by decide) : kd 198 = 21 ∧ 198 < NN) rfl rfl hiX10 2 (by decide) (by decide +kernel) rfl dX10_save_14 ?_
        refine lv_iload_n hx hb dX10_save_17 rfl (lv_at hl 0 rfl) ?_
        refine lv_aload_n hx hb dX10_save_18 rfl (lv_at hl 1 rfl) ?_
        refine r_get (ci := 14) (C := RX10) (T := TX10) (N := 21) S F B (kq (by decide) : kd 198 = 21 ∧ 198 < NN) rfl rfl hiX10 0 (by decide) (by decide +kernel) rfl dX10_save_19 ?_
        refine lv_iload_n hx hb dX10_save_22 rfl (lv_at hl 0 rfl) ?_
        obtain ⟨hi, ho⟩ := gd_ ho
        refine r_iald S F B (kq (by decide) : kd 199 = 22 ∧ 199 < NN) rfl hi dX10_save_23 ?_
        obtain ⟨hi, ho⟩ := gd_ ho
        refine r_iast S F B (kq (by decide) : kd 201 = 22 ∧ 201 < NN) (fun _ => rfl) hi dX10_save_24 (fun H locs B => ?_)
        obtain ⟨σ9, eσ9, ho⟩ := lt_ ho
        rw [← eσ9] at B
        obtain ⟨x10, ex10, ho⟩ := lt_ ho
        refine lv_iinc (v := x10) (lv' := [(1, .int x10), (0, .ref (G.2.2 198))]) hx hb dX10_save_25 hl (k := 0) rfl (by rw [ex10]; rfl) (by decide) rfl (fun ls hl => ?_)
        refine lv_goto (tgt := 7) hx hb dX10_save_28 (by decide) ?_
        exact ih _ _ _ _ _ ho B (lv_sub hl [0, 1] rfl)
  exact hloop7 90 _ _ _ _ _ ho B hl

set_option maxHeartbeats 4000000 in
set_option maxRecDepth 100000 in
theorem c_X10_restore (l : Launch) (G : Gd) (σ : Mm) (sz : Nat) {out : Int32 × Mm} (ho : f_X10_restore σ = some out) : Met l yX10_restore wsX10_restore { frames := 1, cells := 0, slots := 0, locals := 21 } (va_Pc [.ref (G.2.2 198)] (PW G σ sz)) (Qi G sz out.1 out.2) 0 0 (AA G sz) := by
  refine Met.ofW (cc := cX10_restore) (maxL := 2) (ret := (some .int)) (by decide) rfl ?_
  intro p e s m args below meth c s₁ B0 hml hv
  obtain ⟨rfl, hpw⟩ := hv
  have hsz := hpw.1
  subst hsz
  obtain ⟨F, B⟩ := hpw.to
  have hx := B0.exec
  have hb := B0.bytes
  have hr := B0.returns
  have hts := atoms_spec (ws := wsX10_restore) B0.pre
  have hown : s.vm.findClass RX10 = some m.cls := findClass_of_methodNamed B0.named
  have hlocks := B0.notSynchronized
  have S : CallFix p m c cX10_restore 2 s _ wsX10_restore RX10 := ⟨hx, hb, hml, hown, hts⟩
  have hiX10 : ∀ w ∈ u_ws RX10 TX10 21, w ∈ wsX10_restore := by decide +kernel
  have hl := lv_entry [.ref (G.2.2 198)] (n := 2) (Nat.le_of_ble_eq_true rfl)
  rw [lg_entry_eq]
  generalize (lg_sl [.ref (G.2.2 198)] ++ List.replicate (2 - (lg_sl [.ref (G.2.2 198)]).length) Slot.unset).toArray = ls at hl ⊢
  have hl : lv_has ls 2 [(0, .ref (G.2.2 198))] := hl
  unfold f_X10_restore at ho
  skip
  refine lv_aload_n hx hb dX10_restore_0 rfl (lv_at hl 0 rfl) ?_
  refine lv_iconst (v := 0) hx hb dX10_restore_1 (by decide) ?_
  refine r_put (ci := 14) (C := RX10) (T := TX10) (N := 21) (ty := .int) S F B tyX10 tyX10_ok nmX10 (kq (by decide) : kd 198 = 21 ∧ 198 < NN) (fun _ => rfl) rfl hiX10 12 (by decide) (by decide +kernel) rfl rfl rfl rfl (fun _ => Nat.le_of_ble_eq_true rfl) (fun _ => rfl) dX10_restore_2 (fun H locs B => ?_)
  obtain ⟨σ1, eσ1, ho⟩ := lt_ ho
  rw [← eσ1] at B
  refine lv_aload_n hx hb dX10_restore_5 rfl (lv_at hl 0 rfl) ?_
  refine r_get (ci := 14) (C := RX10) (T := TX10) (N := 21) S F B (kq (by decide) : kd 198 = 21 ∧ 198 < NN) rfl rfl hiX10 3 (by decide) (by decide +kernel) rfl dX10_restore_6 ?_
  refine lv_if_ne (tgt := 18) hx hb dX10_restore_9 (by decide) (fun c2 => ?_) (fun c2 => ?_)
  · have ho := in_ c2 ho
    refine lv_iconst (v := 0) hx hb dX10_restore_18 (by decide) ?_
    refine lv_istore_n (lv' := [(1, .int 0), (0, .ref (G.2.2 198))]) hx hb dX10_restore_19 rfl hl (by decide) rfl (fun ls hl => ?_)
    have hloop20 : ∀ (n : Nat) (v6 : Int32) (σ7 : Mm) (H : Heap) (locs : List Loc) (ls : Array Slot), f_X10_restore_l20   n v6 σ7 = some out → Bd G σ7 s H locs → lv_has ls 2 [(1, .int v6), (0, .ref (G.2.2 198))] → W p l e (headSpec wsX10_restore { frames := 1, cells := 0, slots := 0, locals := 21 }).room s m #[.ref (G.2.2 198)] below meth c H locs 0 0 (MQ below (Qi G s.heap.size out.1 out.2) #[.ref (G.2.2 198)] s 0 0 (AA G s.heap.size)) (F0 m 20 ls []) := by
      intro n
      induction n with
      | zero => intro v6 σ7 H locs ls ho B hl; cases ho
      | succ n ih =>
        intro v6 σ7 H locs ls ho B hl
        refine lv_iload_n hx hb dX10_restore_20 rfl (lv_at hl 0 rfl) ?_
        refine lv_bipush (v := 86) hx hb dX10_restore_21 (by decide) ?_
        refine lv_icmp_ge (tgt := 44) hx hb dX10_restore_23 (by decide) (fun c8 => ?_) (fun c8 => ?_)
        · have ho := ip_ c8 ho
          refine lv_aload_n hx hb dX10_restore_44 rfl (lv_at hl 1 rfl) ?_
          refine lv_iconst (v := 0) hx hb dX10_restore_45 (by decide) ?_
          refine r_put (ci := 14) (C := RX10) (T := TX10) (N := 21) (ty := .int) S F B tyX10 tyX10_ok nmX10 (kq (by decide) : kd 198 = 21 ∧ 198 < NN) (fun _ => rfl) rfl hiX10 5 (by decide) (by decide +kernel) rfl rfl rfl rfl (fun _ => Nat.le_of_ble_eq_true rfl) (fun _ => rfl) dX10_restore_46 (fun H locs B => ?_)
          obtain ⟨σ9, eσ9, ho⟩ := lt_ ho
          rw [← eσ9] at B
          refine lv_aload_n hx hb dX10_restore_49 rfl (lv_at hl 1 rfl) ?_
          refine r_get (ci := 14) (C := RX10) (T := TX10) (N := 21) S F B (kq (by decide) : kd 198 = 21 ∧ 198 < NN) rfl rfl hiX10 0 (by decide) (by decide +kernel) rfl dX10_restore_50 ?_
          refine lv_iconst (v := 1) hx hb dX10_restore_53 (by decide) ?_
          refine r_ialdc (j := 1) S F B (kq (by decide) : kd 199 = 22 ∧ 199 < NN) rfl (vpc (by decide)) (by decide) dX10_restore_54 ?_
          cases ho
          exact e_i B hx hb hr hlocks rfl rfl dX10_restore_55
        · have ho := in_ c8 ho
          refine lv_aload_n hx hb dX10_restore_26 rfl (lv_at hl 1 rfl) ?_
          refine r_get (ci := 14) (C := RX10) (T := TX10) (N := 21) S F B (kq (by decide) : kd 198 = 21 ∧ 198 < NN) rfl rfl hiX10 0 (by decide) (by decide +kernel) rfl dX10_restore_27 ?_
          refine lv_iload_n hx hb dX10_restore_30 rfl (lv_at hl 0 rfl) ?_
          refine lv_aload_n hx hb dX10_restore_31 rfl (lv_at hl 1 rfl) ?_
          refine r_get (ci := 14) (C := RX10) (T := TX10) (N := 21) S F B (kq (by decide) : kd 198 = 21 ∧ 198 < NN) rfl rfl hiX10 2 (by decide) (by decide +kernel) rfl dX10_restore_32 ?_
          refine lv_iload_n hx hb dX10_restore_35 rfl (lv_at hl 0 rfl) ?_
          obtain ⟨hi, ho⟩ := gd_ ho
          refine r_iald S F B (kq (by decide) : kd 201 = 22 ∧ 201 < NN) rfl hi dX10_restore_36 ?_
          obtain ⟨hi, ho⟩ := gd_ ho
          refine r_iast S F B (kq (by decide) : kd 199 = 22 ∧ 199 < NN) (fun _ => rfl) hi dX10_restore_37 (fun H locs B => ?_)
          obtain ⟨σ10, eσ10, ho⟩ := lt_ ho
          rw [← eσ10] at B
          obtain ⟨x11, ex11, ho⟩ := lt_ ho
          refine lv_iinc (v := x11) (lv' := [(1, .int x11), (0, .ref (G.2.2 198))]) hx hb dX10_restore_38 hl (k := 0) rfl (by rw [ex11]; rfl) (by decide) rfl (fun ls hl => ?_)
          refine lv_goto (tgt := 20) hx hb dX10_restore_41 (by decide) ?_
          exact ih _ _ _ _ _ ho B (lv_sub hl [0, 1] rfl)
    exact hloop20 90 _ _ _ _ _ ho B hl
  · have ho := ip_ c2 ho
    refine lv_aload_n hx hb dX10_restore_12 rfl (lv_at hl 0 rfl) ?_
    refine lv_iconst (v := 1) hx hb dX10_restore_13 (by decide) ?_
    obtain ⟨q12, σ13, hq12, ho⟩ := bnm_ ho
    refine k_iV (As := [.int 1]) (rest := []) S F B (c_X10_throwing l G σ1 _ 1 hq12) (kq (by decide) : kd 198 = 21 ∧ 198 < NN) rfl rfl (cwV 1 hts gX10_restore_X10_throwing rfl rfl rfl (by decide +kernel) ⟨Nat.le_of_ble_eq_true rfl, Nat.le_of_ble_eq_true rfl⟩) rfl hl.1 rfl (Nat.le_of_ble_eq_true rfl) dX10_restore_14 ⟨Nat.le_of_ble_eq_true rfl, Nat.le_of_ble_eq_true rfl⟩ (fun H locs B => ?_)
    cases ho
    exact e_i B hx hb hr hlocks rfl rfl dX10_restore_17
