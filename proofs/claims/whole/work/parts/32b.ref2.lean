set_option maxHeartbeats 4000000 in
set_option maxRecDepth 100000 in
theorem c_X10_summersLeft (l : Launch) (G : Gd) (σ : Mm) (sz : Nat) {out : Int32 × Mm} (ho : f_X10_summersLeft σ = some out) : Met l yX10_summersLeft wsX10_summersLeft { frames := 4, cells := 0, slots := 0, locals := 105 } (va_Pc [.ref (G.2.2 198)] (PW G σ sz)) (Qi G sz out.1 out.2) 0 0 (AA G sz) := by
  refine Met.ofW (cc := cX10_summersLeft) (maxL := 3) (ret := (some .int)) (by decide) rfl ?_
  intro p e s m args below meth c s₁ B0 hml hv
  obtain ⟨rfl, hpw⟩ := hv
  have hsz := hpw.1
  subst hsz
  obtain ⟨F, B⟩ := hpw.to
  have hx := B0.exec
  have hb := B0.bytes
  have hr := B0.returns
  have hts := atoms_spec (ws := wsX10_summersLeft) B0.pre
  have hown : s.vm.findClass RX10 = some m.cls := findClass_of_methodNamed B0.named
  have hlocks := B0.notSynchronized
  have S : CallFix p m c cX10_summersLeft 3 s _ wsX10_summersLeft RX10 := ⟨hx, hb, hml, hown, hts⟩
  have hiX10 : ∀ w ∈ u_ws RX10 TX10 21, w ∈ wsX10_summersLeft := by decide +kernel
  have hl := lv_entry [.ref (G.2.2 198)] (n := 3) (Nat.le_of_ble_eq_true rfl)
  rw [lg_entry_eq]
  generalize (lg_sl [.ref (G.2.2 198)] ++ List.replicate (3 - (lg_sl [.ref (G.2.2 198)]).length) Slot.unset).toArray = ls at hl ⊢
  have hl : lv_has ls 3 [(0, .ref (G.2.2 198))] := hl
  unfold f_X10_summersLeft at ho
  skip
  refine lv_aload_n hx hb dX10_summersLeft_0 rfl (lv_at hl 0 rfl) ?_
  refine lv_iconst (v := 0) hx hb dX10_summersLeft_1 (by decide) ?_
  refine r_put (ci := 14) (C := RX10) (T := TX10) (N := 21) (ty := .int) S F B tyX10 tyX10_ok nmX10 (kq (by decide) : kd 198 = 21 ∧ 198 < NN) (fun _ => rfl) rfl hiX10 12 (by decide) (by decide +kernel) rfl rfl rfl rfl (fun _ => Nat.le_of_ble_eq_true rfl) (fun _ => rfl) dX10_summersLeft_2 (fun H locs B => ?_)
  obtain ⟨σ1, eσ1, ho⟩ := lt_ ho
  rw [← eσ1] at B
  refine lv_iconst (v := 0) hx hb dX10_summersLeft_5 (by decide) ?_
  refine lv_istore_n (lv' := [(1, .int 0), (0, .ref (G.2.2 198))]) hx hb dX10_summersLeft_6 rfl hl (by decide) rfl (fun ls hl => ?_)
  obtain ⟨K, hK, ho⟩ := lt_ ho
  have hexit7 : ∀ (v2 : Int32) (σ3 : Mm) (H : Heap) (locs : List Loc) (ls : Array Slot), K v2 σ3 = some out → Bd G σ3 s H locs → lv_has ls 3 [(1, .int v2), (0, .ref (G.2.2 198))] → W p l e (headSpec wsX10_summersLeft { frames := 4, cells := 0, slots := 0, locals := 105 }).room s m #[.ref (G.2.2 198)] below meth c H locs 0 0 (MQ below (Qi G s.heap.size out.1 out.2) #[.ref (G.2.2 198)] s 0 0 (AA G s.heap.size)) (F0 m 51 ls []) := by
    intro v2 σ3 H locs ls ho B hl
    subst hK
    refine lv_iconst (v := 0) hx hb dX10_summersLeft_51 (by decide) ?_
    refine lv_istore_n (lv' := [(2, .int 0), (1, .int v2), (0, .ref (G.2.2 198))]) hx hb dX10_summersLeft_52 rfl hl (by decide) rfl (fun ls hl => ?_)
    have hloop53 : ∀ (n : Nat) (v8 : Int32) (σ9 : Mm) (H : Heap) (locs : List Loc) (ls : Array Slot), f_X10_summersLeft_l53  v2 n v8 σ9 = some out → Bd G σ9 s H locs → lv_has ls 3 [(2, .int v8), (1, .int v2), (0, .ref (G.2.2 198))] → W p l e (headSpec wsX10_summersLeft { frames := 4, cells := 0, slots := 0, locals := 105 }).room s m #[.ref (G.2.2 198)] below meth c H locs 0 0 (MQ below (Qi G s.heap.size out.1 out.2) #[.ref (G.2.2 198)] s 0 0 (AA G s.heap.size)) (F0 m 53 ls []) := by
      intro n
      induction n with
      | zero => intro v8 σ9 H locs ls ho B hl; cases ho
      | succ n ih =>
        intro v8 σ9 H locs ls ho B hl
        refine lv_iload_n hx hb dX10_summersLeft_53 rfl (lv_at hl 0 rfl) ?_
        refine lv_bipush (v := 24) hx hb dX10_summersLeft_54 (by decide) ?_
        refine lv_icmp_ge (tgt := 78) hx hb dX10_summersLeft_56 (by decide) (fun c10 => ?_) (fun c10 => ?_)
        · have ho := ip_ c10 ho
          refine lv_iload_n hx hb dX10_summersLeft_78 rfl (lv_at hl 1 rfl) ?_
          cases ho
          exact e_i B hx hb hr hlocks rfl rfl dX10_summersLeft_79
        · have ho := in_ c10 ho
          refine lv_aload_n hx hb dX10_summersLeft_59 rfl (lv_at hl 2 rfl) ?_
          refine r_get (ci := 14) (C := RX10) (T := TX10) (N := 21) S F B (kq (by decide) : kd 198 = 21 ∧ 198 < NN) rfl rfl hiX10 0 (by decide) (by decide +kernel) rfl dX10_summersLeft_60 ?_
          refine lv_bipush (v := 6) hx hb dX10_summersLeft_63 (by decide) ?_
          refine lv_iload_n hx hb dX10_summersLeft_65 rfl (lv_at hl 0 rfl) ?_
          refine lv_iadd hx hb dX10_summersLeft_66 ?_
          refine lv_dup2_11 hx hb dX10_summersLeft_67 rfl rfl ?_
          obtain ⟨hi, ho⟩ := gd_ ho
          refine r_iald S F B (kq (by decide) : kd 199 = 22 ∧ 199 < NN) rfl hi dX10_summersLeft_68 ?_
          refine lv_iload_n hx hb dX10_summersLeft_69 rfl (lv_at hl 1 rfl) ?_
          refine lv_isub hx hb dX10_summersLeft_70 ?_
          obtain ⟨hi, ho⟩ := gd_ ho
          refine r_iast S F B (kq (by decide) : kd 199 = 22 ∧ 199 < NN) (fun _ => rfl) hi dX10_summersLeft_71 (fun H locs B => ?_)
          obtain ⟨σ11, eσ11, ho⟩ := lt_ ho
          rw [← eσ11] at B
          obtain ⟨x12, ex12, ho⟩ := lt_ ho
          refine lv_iinc (v := x12) (lv' := [(2, .int x12), (1, .int v2), (0, .ref (G.2.2 198))]) hx hb dX10_summersLeft_72 hl (k := 0) rfl (by rw [ex12]; rfl) (by decide) rfl (fun ls hl => ?_)
          refine lv_goto (tgt := 53) hx hb dX10_summersLeft_75 (by decide) ?_
          exact ih _ _ _ _ _ ho B (lv_sub hl [0, 1, 2] rfl)
    exact hloop53 30 _ _ _ _ _ ho B hl
  have hloop7 : ∀ (n : Nat) (v13 : Int32) (σ14 : Mm) (H : Heap) (locs : List Loc) (ls : Array Slot), f_X10_summersLeft_l7 K  n v13 σ14 = some out → Bd G σ14 s H locs → lv_has ls 3 [(1, .int v13), (0, .ref (G.2.2 198))] → W p l e (headSpec wsX10_summersLeft { frames := 4, cells := 0, slots := 0, locals := 105 }).room s m #[.ref (G.2.2 198)] below meth c H locs 0 0 (MQ below (Qi G s.heap.size out.1 out.2) #[.ref (G.2.2 198)] s 0 0 (AA G s.heap.size)) (F0 m 7 ls []) := by
    intro n
    induction n with
    | zero => intro v13 σ14 H locs ls ho B hl; cases ho
    | succ n ih =>
      intro v13 σ14 H locs ls ho B hl
      refine lv_aload_n hx hb dX10_summersLeft_7 rfl (lv_at hl 1 rfl) ?_
      refine lv_iconst (v := 0) hx hb dX10_summersLeft_8 (by decide) ?_
      refine lv_bipush (v := 15) hx hb dX10_summersLeft_9 (by decide) ?_
      obtain ⟨q15, σ16, hq15, ho⟩ := bnm_ ho
      refine k_iV (As := [.int 0, .int 15]) (rest := []) S F B (c_X10_hoursOf l G σ14 _ 0 15 hq15) (kq (by decide) : kd 198 = 21 ∧ 198 < NN) rfl rfl (cwV 2 hts gX10_summersLeft_X10_hoursOf rfl rfl rfl (by decide +kernel) ⟨Nat.le_of_ble_eq_true rfl, Nat.le_of_ble_eq_true rfl⟩) rfl hl.1 rfl (Nat.le_of_ble_eq_true rfl) dX10_summersLeft_11 ⟨Nat.le_of_ble_eq_true rfl, Nat.le_of_ble_eq_true rfl⟩ (fun H locs B => ?_)
      refine lv_iconst (v := (-1)) hx hb dX10_summersLeft_14 (by decide) ?_
      refine lv_icmp_eq (tgt := 51) hx hb dX10_summersLeft_15 (by decide) (fun c17 => ?_) (fun c17 => ?_)
      · have ho := ip_ c17 ho
        exact hexit7 _ _ _ _ _ ho B (lv_sub hl [0, 1] rfl)
      · have ho := in_ c17 ho
        refine lv_iconst (v := 0) hx hb dX10_summersLeft_18 (by decide) ?_
        refine lv_istore_n (lv' := [(2, .int 0), (1, .int v13), (0, .ref (G.2.2 198))]) hx hb dX10_summersLeft_19 rfl hl (by decide) rfl (fun ls hl => ?_)
        obtain ⟨K, hK, ho⟩ := lt_ ho
        have hexit20 : ∀ (v18 : Int32) (σ19 : Mm) (H : Heap) (locs : List Loc) (ls : Array Slot), K v18 σ19 = some out → Bd G σ19 s H locs → lv_has ls 3 [(2, .int v18), (1, .int v13), (0, .ref (G.2.2 198))] → W p l e (headSpec wsX10_summersLeft { frames := 4, cells := 0, slots := 0, locals := 105 }).room s m #[.ref (G.2.2 198)] below meth c H locs 0 0 (MQ below (Qi G s.heap.size out.1 out.2) #[.ref (G.2.2 198)] s 0 0 (AA G s.heap.size)) (F0 m 45 ls []) := by
          intro v18 σ19 H locs ls ho B hl
          subst hK
          obtain ⟨x21, ex21, ho⟩ := lt_ ho
          refine lv_iinc (v := x21) (lv' := [(1, .int x21), (2, .int v18), (0, .ref (G.2.2 198))]) hx hb dX10_summersLeft_45 hl (k := 1) rfl (by rw [ex21]; rfl) (by decide) rfl (fun ls hl => ?_)
          refine lv_goto (tgt := 7) hx hb dX10_summersLeft_48 (by decide) ?_
          exact ih _ _ _ _ _ ho B (lv_sub hl [0, 2] rfl)
        have hloop20 : ∀ (n : Nat) (v22 : Int32) (σ23 : Mm) (H : Heap) (locs : List Loc) (ls : Array Slot), f_X10_summersLeft_l20 K v13 n v22 σ23 = some out → Bd G σ23 s H locs → lv_has ls 3 [(2, .int v22), (1, .int v13), (0, .ref (G.2.2 198))] → W p l e (headSpec wsX10_summersLeft { frames := 4, cells := 0, slots := 0, locals := 105 }).room s m #[.ref (G.2.2 198)] below meth c H locs 0 0 (MQ below (Qi G s.heap.size out.1 out.2) #[.ref (G.2.2 198)] s 0 0 (AA G s.heap.size)) (F0 m 20 ls []) := by
          intro n
          induction n with
          | zero => intro v22 σ23 H locs ls ho B hl; cases ho
          | succ n ih =>
            intro v22 σ23 H locs ls ho B hl
            refine lv_iload_n hx hb dX10_summersLeft_20 rfl (lv_at hl 0 rfl) ?_
            refine lv_bipush (v := 24) hx hb dX10_summersLeft_21 (by decide) ?_
            refine lv_icmp_ge (tgt := 45) hx hb dX10_summersLeft_23 (by decide) (fun c24 => ?_) (fun c24 => ?_)
            · have ho := ip_ c24 ho
              exact hexit20 _ _ _ _ _ ho B (lv_sub hl [0, 1, 2] rfl)
            · have ho := in_ c24 ho
              refine lv_aload_n hx hb dX10_summersLeft_26 rfl (lv_at hl 2 rfl) ?_
              refine r_get (ci := 14) (C := RX10) (T := TX10) (N := 21) S F B (kq (by decide) : kd 198 = 21 ∧ 198 < NN) rfl rfl hiX10 0 (by decide) (by decide +kernel) rfl dX10_summersLeft_27 ?_
              refine lv_bipush (v := 6) hx hb dX10_summersLeft_30 (by decide) ?_
              refine lv_iload_n hx hb dX10_summersLeft_32 rfl (lv_at hl 0 rfl) ?_
              refine lv_iadd hx hb dX10_summersLeft_33 ?_
              refine lv_dup2_11 hx hb dX10_summersLeft_34 rfl rfl ?_
              obtain ⟨hi, ho⟩ := gd_ ho
              refine r_iald S F B (kq (by decide) : kd 199 = 22 ∧ 199 < NN) rfl hi dX10_summersLeft_35 ?_
              refine lv_iconst (v := 1) hx hb dX10_summersLeft_36 (by decide) ?_
              refine lv_iadd hx hb dX10_summersLeft_37 ?_
              obtain ⟨hi, ho⟩ := gd_ ho
              refine r_iast S F B (kq (by decide) : kd 199 = 22 ∧ 199 < NN) (fun _ => rfl) hi dX10_summersLeft_38 (fun H locs B => ?_)
              obtain ⟨σ25, eσ25, ho⟩ := lt_ ho
              rw [← eσ25] at B
              obtain ⟨x26, ex26, ho⟩ := lt_ ho
              refine lv_iinc (v := x26) (lv' := [(2, .int x26), (1, .int v13), (0, .ref (G.2.2 198))]) hx hb dX10_summersLeft_39 hl (k := 0) rfl (by rw [ex26]; rfl) (by decide) rfl (fun ls hl => ?_)
              refine lv_goto (tgt := 20) hx hb dX10_summersLeft_42 (by decide) ?_
              exact ih _ _ _ _ _ ho B (lv_sub hl [0, 1, 2] rfl)
        exact hloop20 30 _ _ _ _ _ ho B hl
  exact hloop7 30 _ _ _ _ _ ho B hl

set_option maxHeartbeats 4000000 in
set_option maxRecDepth 100000 in
theorem c_X10_lasts (l : Launch) (G : Gd) (σ : Mm) (sz : Nat) (a0 : Int32) {out : Int32} (ho : f_X10_lasts a0 σ = some out) : Met l yX10_lasts wsX10_lasts { frames := 1, cells := 0, slots := 0, locals := 20 } (va_Pc [.ref (G.2.2 198), .int a0] (PW G σ sz)) (Qi G sz out σ) 0 0 (AA G sz) := by
  refine Met.ofW (cc := cX10_lasts) (maxL := 2) (ret := (some .boolean)) (by decide) rfl ?_
  intro p e s m args below meth c s₁ B0 hml hv
  obtain ⟨rfl, hpw⟩ := hv
  have hsz := hpw.1
  subst hsz
  obtain ⟨F, B⟩ := hpw.to
  have hx := B0.exec
  have hb := B0.bytes
  have hr := B0.returns
  have hts := atoms_spec (ws := wsX10_lasts) B0.pre
  have hown : s.vm.findClass RX10 = some m.cls := findClass_of_methodNamed B0.named
  have hlocks := B0.notSynchronized
  have S : CallFix p m c cX10_lasts 2 s _ wsX10_lasts RX10 := ⟨hx, hb, hml, hown, hts⟩
  have hiX10 : ∀ w ∈ u_ws RX10 TX10 21, w ∈ wsX10_lasts := by decide +kernel
  have hl := lv_entry [.ref (G.2.2 198), .int a0] (n := 2) (Nat.le_of_ble_eq_true rfl)
  rw [lg_entry_eq]
  generalize (lg_sl [.ref (G.2.2 198), .int a0] ++ List.replicate (2 - (lg_sl [.ref (G.2.2 198), .int a0]).length) Slot.unset).toArray = ls at hl ⊢
  have hl : lv_has ls 2 [(0, .ref (G.2.2 198)), (1, .int a0)] := hl
  unfold f_X10_lasts at ho
  refine lv_aload_n hx hb dX10_lasts_0 rfl (lv_at hl 0 rfl) ?_
  refine r_get (ci := 14) (C := RX10) (T := TX10) (N := 21) S F B (kq (by decide) : kd 198 = 21 ∧ 198 < NN) rfl rfl hiX10 0 (by decide) (by decide +kernel) rfl dX10_lasts_1 ?_
  refine lv_iload_n hx hb dX10_lasts_4 rfl (lv_at hl 1 rfl) ?_
  obtain ⟨q1, hq1, ho⟩ := bnd_ ho
  refine k_iS (As := [.int a0]) (rest := [.ref (G.2.2 199)]) S F B (c_X10_visitorAt l G σ _ a0 hq1) (va_cwS 1 hts gX10_lasts_X10_visitorAt rfl rfl rfl (by decide +kernel) ⟨Nat.le_of_ble_eq_true rfl, Nat.le_of_ble_eq_true rfl⟩) rfl hl.1 rfl (Nat.le_of_ble_eq_true rfl) dX10_lasts_5 ⟨Nat.le_of_ble_eq_true rfl, Nat.le_of_ble_eq_true rfl⟩ (fun H locs B => ?_)
  refine lv_iconst (v := 4) hx hb dX10_lasts_8 (by decide) ?_
  refine lv_iadd hx hb dX10_lasts_9 ?_
  obtain ⟨hi, ho⟩ := gd_ ho
  refine r_iald S F B (kq (by decide) : kd 199 = 22 ∧ 199 < NN) rfl hi dX10_lasts_10 ?_
  refine lv_iconst (v := (-1)) hx hb dX10_lasts_11 (by decide) ?_
  refine lv_icmp_eq (tgt := 34) hx hb dX10_lasts_12 (by decide) (fun c2 => ?_) (fun c2 => ?_)
  · have ho := ip_ c2 ho
    refine lv_iconst (v := 0) hx hb dX10_lasts_34 (by decide) ?_
    cases ho
    exact e_i B hx hb hr hlocks rfl rfl dX10_lasts_35
  · have ho := in_ c2 ho
    refine lv_aload_n hx hb dX10_lasts_15 rfl (lv_at hl 0 rfl) ?_
    refine r_get (ci := 14) (C := RX10) (T := TX10) (N := 21) S F B (kq (by decide) : kd 198 = 21 ∧ 198 < NN) rfl rfl hiX10 0 (by decide) (by decide +kernel) rfl dX10_lasts_16 ?_
    refine lv_iload_n hx hb dX10_lasts_19 rfl (lv_at hl 1 rfl) ?_
    obtain ⟨q3, hq3, ho⟩ := bnd_ ho
    refine k_iS (As := [.int a0]) (rest := [.ref (G.2.2 199)]) S F B (c_X10_visitorAt l G σ _ a0 hq3) (va_cwS 1 hts gX10_lasts_X10_visitorAt rfl rfl rfl (by decide +kernel) ⟨Nat.le_of_ble_eq_true rfl, Nat.le_of_ble_eq_true rfl⟩) rfl hl.1 rfl (Nat.le_of_ble_eq_true rfl) dX10_lasts_20 ⟨Nat.le_of_ble_eq_true rfl, Nat.le_of_ble_eq_true rfl⟩ (fun H locs B => ?_)
    refine lv_bipush (v := 7) hx hb dX10_lasts_23 (by decide) ?_
    refine lv_iadd hx hb dX10_lasts_25 ?_
    obtain ⟨hi, ho⟩ := gd_ ho
    refine r_iald S F B (kq (by decide) : kd 199 = 22 ∧ 199 < NN) rfl hi dX10_lasts_26 ?_
    refine lv_if_ne (tgt := 34) hx hb dX10_lasts_27 (by decide) (fun c4 => ?_) (fun c4 => ?_)
    · have ho := in_ c4 ho
      refine lv_iconst (v := 0) hx hb dX10_lasts_34 (by decide) ?_
      cases ho
      exact e_i B hx hb hr hlocks rfl rfl dX10_lasts_35
    · have ho := ip_ c4 ho
      refine lv_iconst (v := 1) hx hb dX10_lasts_30 (by decide) ?_
      refine lv_goto (tgt := 35) hx hb dX10_lasts_31 (by decide) ?_
      cases ho
      exact e_i B hx hb hr hlocks rfl rfl dX10_lasts_35

set_option maxHeartbeats 4000000 in
set_option maxRecDepth 100000 in
theorem c_X10_lasting (l : Launch) (G : Gd) (σ : Mm) (sz : Nat) (a0 : Int32) {out : Int32} (ho : f_X10_lasting a0 σ = some out) : Met l yX10_lasting wsX10_lasting { frames := 2, cells := 0, slots := 0, locals := 41 } (va_Pc [.ref (G.2.2 198), .int a0] (PW G σ sz)) (Qi G sz out σ) 0 0 (AA G sz) := by
  refine Met.ofW (cc := cX10_lasting) (maxL := 4) (ret := (some .int)) (by decide) rfl ?_
  intro p e s m args below meth c s₁ B0 hml hv
  obtain ⟨rfl, hpw⟩ := hv
  have hsz := hpw.1
  subst hsz
  obtain ⟨F, B⟩ := hpw.to
  have hx := B0.exec
  have hb := B0.bytes
  have hr := B0.returns
  have hts := atoms_spec (ws := wsX10_lasting) B0.pre
  have hown : s.vm.findClass RX10 = some m.cls := findClass_of_methodNamed B0.named
  have hlocks := B0.notSynchronized
  have S : CallFix p m c cX10_lasting 4 s _ wsX10_lasting RX10 := ⟨hx, hb, hml, hown, hts⟩
  have hiX10 : ∀ w ∈ u_ws RX10 TX10 21, w ∈ wsX10_lasting := by decide +kernel
  have hl := lv_entry [.ref (G.2.2 198), .int a0] (n := 4) (Nat.le_of_ble_eq_true rfl)
  rw [lg_entry_eq]
  generalize (lg_sl [.ref (G.2.2 198), .int a0] ++ List.replicate (4 - (lg_sl [.ref (G.2.2 198), .int a0]).length) Slot.unset).toArray = ls at hl ⊢
  have hl : lv_has ls 4 [(0, .ref (G.2.2 198)), (1, .int a0)] := hl
  unfold f_X10_lasting at ho
  skip
  refine lv_iconst (v := 0) hx hb dX10_lasting_0 (by decide) ?_
  refine lv_istore_n (lv' := [(2, .int 0), (0, .ref (G.2.2 198)), (1, .int a0)]) hx hb dX10_lasting_1 rfl hl (by decide) rfl (fun ls hl => ?_)
  refine lv_iconst (v := 0) hx hb dX10_lasting_2 (by decide) ?_
  refine lv_istore_n (lv' := [(3, .int 0), (2, .int 0), (0, .ref (G.2.2 198)), (1, .int a0)]) hx hb dX10_lasting_3 rfl hl (by decide) rfl (fun ls hl => ?_)
  have hloop4 : ∀ (n : Nat) (v4 : Int32) (v5 : Int32) (H : Heap) (locs : List Loc) (ls : Array Slot), f_X10_lasting_l4  a0 σ n v4 v5 = some out → Bd G σ s H locs → lv_has ls 4 [(3, .int v4), (2, .int v5), (0, .ref (G.2.2 198)), (1, .int a0)] → W p l e (headSpec wsX10_lasting { frames := 2, cells := 0, slots := 0, locals := 41 }).room s m #[.ref (G.2.2 198), .int a0] below meth c H locs 0 0 (MQ below (Qi G s.heap.size out σ) #[.ref (G.2.2 198), .int a0] s 0 0 (AA G s.heap.size)) (F0 m 4 ls []) := by
    intro n
    induction n with
    | zero => intro v4 v5 H locs ls ho B hl; cases ho
    | succ n ih =>
      intro v4 v5 H locs ls ho B hl
      refine lv_iload_n hx hb dX10_lasting_4 rfl (lv_at hl 0 rfl) ?_
      refine lv_aload_n hx hb dX10_lasting_5 rfl (lv_at hl 2 rfl) ?_
      refine r_get (ci := 14) (C := RX10) (T := TX10) (N := 21) S F B (kq (by decide) : kd 198 = 21 ∧ 198 < NN) rfl rfl hiX10 0 (by decide) (by decide +kernel) rfl dX10_lasting_6 ?_
      refine lv_iconst (v := 1) hx hb dX10_lasting_9 (by decide) ?_
      refine r_ialdc (j := 1) S F B (kq (by decide) : kd 199 = 22 ∧ 199 < NN) rfl (vpc (by decide)) (by decide) dX10_lasting_10 ?_
      refine lv_icmp_ge (tgt := 56) hx hb dX10_lasting_11 (by decide) (fun c6 => ?_) (fun c6 => ?_)
      · have ho := ip_ c6 ho
        refine lv_iload_n hx hb dX10_lasting_56 rfl (lv_at hl 1 rfl) ?_
        cases ho
        exact e_i B hx hb hr hlocks rfl rfl dX10_lasting_57
      · have ho := in_ c6 ho
        refine lv_iload_n hx hb dX10_lasting_14 rfl (lv_at hl 1 rfl) ?_
        refine lv_aload_n hx hb dX10_lasting_15 rfl (lv_at hl 2 rfl) ?_
        refine lv_iload_n hx hb dX10_lasting_16 rfl (lv_at hl 0 rfl) ?_
        obtain ⟨q7, hq7, ho⟩ := bnd_ ho
        refine k_iV (As := [.int v4]) (rest := [.int v5]) S F B (c_X10_lasts l G σ _ v4 hq7) (kq (by decide) : kd 198 = 21 ∧ 198 < NN) rfl rfl (cwV 1 hts gX10_lasting_X10_lasts rfl rfl rfl (by decide +kernel) ⟨Nat.le_of_ble_eq_true rfl, Nat.le_of_ble_eq_true rfl⟩) rfl hl.1 rfl (Nat.le_of_ble_eq_true rfl) dX10_lasting_17 ⟨Nat.le_of_ble_eq_true rfl, Nat.le_of_ble_eq_true rfl⟩ (fun H locs B => ?_)
        refine lv_if_eq (tgt := 47) hx hb dX10_lasting_20 (by decide) (fun c8 => ?_) (fun c8 => ?_)
        · have ho := ip_ c8 ho
          refine lv_iconst (v := 0) hx hb dX10_lasting_47 (by decide) ?_
          refine lv_iadd hx hb dX10_lasting_48 ?_
          obtain ⟨x9, ex9, ho⟩ := lt_ ho
          refine lv_nm ex9 ?_
          refine lv_istore_n (lv' := [(2, .int x9), (3, .int v4), (0, .ref (G.2.2 198)), (1, .int a0)]) hx hb dX10_lasting_49 rfl hl (by decide) rfl (fun ls hl => ?_)
          obtain ⟨x10, ex10, ho⟩ := lt_ ho
          refine lv_iinc (v := x10) (lv' := [(3, .int x10), (2, .int x9), (0, .ref (G.2.2 198)), (1, .int a0)]) hx hb dX10_lasting_50 hl (k := 1) rfl (by rw [ex10]; rfl) (by decide) rfl (fun ls hl => ?_)
          refine lv_goto (tgt := 4) hx hb dX10_lasting_53 (by decide) ?_
          exact ih _ _  _ _ _ ho B (lv_sub hl [0, 1, 2, 3] rfl)
        · have ho := in_ c8 ho
          refine lv_iload_n hx hb dX10_lasting_23 rfl (lv_at hl 3 rfl) ?_
          refine lv_iconst (v := (-1)) hx hb dX10_lasting_24 (by decide) ?_
          refine lv_icmp_eq (tgt := 43) hx hb dX10_lasting_25 (by decide) (fun c11 => ?_) (fun c11 => ?_)
          · have ho := ip_ c11 ho
            refine lv_iconst (v := 1) hx hb dX10_lasting_43 (by decide) ?_
            refine lv_goto (tgt := 48) hx hb dX10_lasting_44 (by decide) ?_
            refine lv_iadd hx hb dX10_lasting_48 ?_
            obtain ⟨x12, ex12, ho⟩ := lt_ ho
            refine lv_nm ex12 ?_
            refine lv_istore_n (lv' := [(2, .int x12), (3, .int v4), (0, .ref (G.2.2 198)), (1, .int a0)]) hx hb dX10_lasting_49 rfl hl (by decide) rfl (fun ls hl => ?_)
            obtain ⟨x13, ex13, ho⟩ := lt_ ho
            refine lv_iinc (v := x13) (lv' := [(3, .int x13), (2, .int x12), (0, .ref (G.2.2 198)), (1, .int a0)]) hx hb dX10_lasting_50 hl (k := 1) rfl (by rw [ex13]; rfl) (by decide) rfl (fun ls hl => ?_)
            refine lv_goto (tgt := 4) hx hb dX10_lasting_53 (by decide) ?_
            exact ih _ _  _ _ _ ho B (lv_sub hl [0, 1, 2, 3] rfl)
          · have ho := in_ c11 ho
            refine lv_aload_n hx hb dX10_lasting_28 rfl (lv_at hl 2 rfl) ?_
            refine r_get (ci := 14) (C := RX10) (T := TX10) (N := 21) S F B (kq (by decide) : kd 198 = 21 ∧ 198 < NN) rfl rfl hiX10 0 (by decide) (by decide +kernel) rfl dX10_lasting_29 ?_
            refine lv_iload_n hx hb dX10_lasting_32 rfl (lv_at hl 0 rfl) ?_
            obtain ⟨q14, hq14, ho⟩ := bnd_ ho
            refine k_iS (As := [.int v4]) (rest := [.ref (G.2.2 199), .int v5]) S F B (c_X10_visitorAt l G σ _ v4 hq14) (va_cwS 1 hts gX10_lasting_X10_visitorAt rfl rfl rfl (by decide +kernel) ⟨Nat.le_of_ble_eq_true rfl, Nat.le_of_ble_eq_true rfl⟩) rfl hl.1 rfl (Nat.le_of_ble_eq_true rfl) dX10_lasting_33 ⟨Nat.le_of_ble_eq_true rfl, Nat.le_of_ble_eq_true rfl⟩ (fun H locs B => ?_)
            refine lv_iconst (v := 4) hx hb dX10_lasting_36 (by decide) ?_
            refine lv_iadd hx hb dX10_lasting_37 ?_
            obtain ⟨hi, ho⟩ := gd_ ho
            refine r_iald S F B (kq (by decide) : kd 199 = 22 ∧ 199 < NN) rfl hi dX10_lasting_38 ?_
            refine lv_iload_n hx hb dX10_lasting_39 rfl (lv_at hl 3 rfl) ?_
            refine lv_icmp_ne (tgt := 47) hx hb dX10_lasting_40 (by decide) (fun c15 => ?_) (fun c15 => ?_)
            · have ho := in_ c15 ho
              refine lv_iconst (v := 0) hx hb dX10_lasting_47 (by decide) ?_
              refine lv_iadd hx hb dX10_lasting_48 ?_
              obtain ⟨x16, ex16, ho⟩ := lt_ ho
              refine lv_nm ex16 ?_
              refine lv_istore_n (lv' := [(2, .int x16), (3, .int v4), (0, .ref (G.2.2 198)), (1, .int a0)]) hx hb dX10_lasting_49 rfl hl (by decide) rfl (fun ls hl => ?_)
              obtain ⟨x17, ex17, ho⟩ := lt_ ho
              refine lv_iinc (v := x17) (lv' := [(3, .int x17), (2, .int x16), (0, .ref (G.2.2 198)), (1, .int a0)]) hx hb dX10_lasting_50 hl (k := 1) rfl (by rw [ex17]; rfl) (by decide) rfl (fun ls hl => ?_)
              refine lv_goto (tgt := 4) hx hb dX10_lasting_53 (by decide) ?_
              exact ih _ _  _ _ _ ho B (lv_sub hl [0, 1, 2, 3] rfl)
            · have ho := ip_ c15 ho
              refine lv_iconst (v := 1) hx hb dX10_lasting_43 (by decide) ?_
              refine lv_goto (tgt := 48) hx hb dX10_lasting_44 (by decide) ?_
              refine lv_iadd hx hb dX10_lasting_48 ?_
              obtain ⟨x18, ex18, ho⟩ := lt_ ho
              refine lv_nm ex18 ?_
              refine lv_istore_n (lv' := [(2, .int x18), (3, .int v4), (0, .ref (G.2.2 198)), (1, .int a0)]) hx hb dX10_lasting_49 rfl hl (by decide) rfl (fun ls hl => ?_)
              obtain ⟨x19, ex19, ho⟩ := lt_ ho
              refine lv_iinc (v := x19) (lv' := [(3, .int x19), (2, .int x18), (0, .ref (G.2.2 198)), (1, .int a0)]) hx hb dX10_lasting_50 hl (k := 1) rfl (by rw [ex19]; rfl) (by decide) rfl (fun ls hl => ?_)
              refine lv_goto (tgt := 4) hx hb dX10_lasting_53 (by decide) ?_
              exact ih _ _  _ _ _ ho B (lv_sub hl [0, 1, 2, 3] rfl)
  exact hloop4 8 _ _  _ _ _ ho B hl

set_option maxHeartbeats 4000000 in
set_option maxRecDepth 100000 in
theorem c_X10_gardenerOf (l : Launch) (G : Gd) (σ : Mm) (sz : Nat) (a0 : Int32) (a1 : Int32) {out : Int32 × Mm} (ho : f_X10_gardenerOf a0 a1 σ = some out) : Met l yX10_gardenerOf wsX10_gardenerOf { frames := 3, cells := 0, slots := 0, locals := 64 } (va_Pc [.ref (G.2.2 198), .int a0, .int a1] (PW G σ sz)) (Qi G sz out.1 out.2) 0 0 (AA G sz) := by
  refine Met.ofW (cc := cX10_gardenerOf) (maxL := 3) (ret := (some .int)) (by decide) rfl ?_
  intro p e s m args below meth c s₁ B0 hml hv
  obtain ⟨rfl, hpw⟩ := hv
  have hsz := hpw.1
  subst hsz
  obtain ⟨F, B⟩ := hpw.to
  have hx := B0.exec
  have hb := B0.bytes
  have hr := B0.returns
  have hts := atoms_spec (ws := wsX10_gardenerOf) B0.pre
  have hown : s.vm.findClass RX10 = some m.cls := findClass_of_methodNamed B0.named
  have hlocks := B0.notSynchronized
  have S : CallFix p m c cX10_gardenerOf 3 s _ wsX10_gardenerOf RX10 := ⟨hx, hb, hml, hown, hts⟩
  have hiX10 : ∀ w ∈ u_ws RX10 TX10 21, w ∈ wsX10_gardenerOf := by decide +kernel
  have hl := lv_entry [.ref (G.2.2 198), .int a0, .int a1] (n := 3) (Nat.le_of_ble_eq_true rfl)
  rw [lg_entry_eq]
  generalize (lg_sl [.ref (G.2.2 198), .int a0, .int a1] ++ List.replicate (3 - (lg_sl [.ref (G.2.2 198), .int a0, .int a1]).length) Slot.unset).toArray = ls at hl ⊢
  have hl : lv_has ls 3 [(0, .ref (G.2.2 198)), (1, .int a0), (2, .int a1)] := hl
  unfold f_X10_gardenerOf at ho
  refine lv_aload_n hx hb dX10_gardenerOf_0 rfl (lv_at hl 0 rfl) ?_
  refine lv_iconst (v := 0) hx hb dX10_gardenerOf_1 (by decide) ?_
  refine r_put (ci := 14) (C := RX10) (T := TX10) (N := 21) (ty := .int) S F B tyX10 tyX10_ok nmX10 (kq (by decide) : kd 198 = 21 ∧ 198 < NN) (fun _ => rfl) rfl hiX10 12 (by decide) (by decide +kernel) rfl rfl rfl rfl (fun _ => Nat.le_of_ble_eq_true rfl) (fun _ => rfl) dX10_gardenerOf_2 (fun H locs B => ?_)
  obtain ⟨σ1, eσ1, ho⟩ := lt_ ho
  rw [← eσ1] at B
  refine lv_aload_n hx hb dX10_gardenerOf_5 rfl (lv_at hl 0 rfl) ?_
  refine lv_iload_n hx hb dX10_gardenerOf_6 rfl (lv_at hl 1 rfl) ?_
  obtain ⟨q2, hq2, ho⟩ := bnd_ ho
  refine k_iV (As := [.int a0]) (rest := []) S F B (c_X10_isGardener l G σ1 _ a0 hq2) (kq (by decide) : kd 198 = 21 ∧ 198 < NN) rfl rfl (cwV 1 hts gX10_gardenerOf_X10_isGardener rfl rfl rfl (by decide +kernel) ⟨Nat.le_of_ble_eq_true rfl, Nat.le_of_ble_eq_true rfl⟩) rfl hl.1 rfl (Nat.le_of_ble_eq_true rfl) dX10_gardenerOf_7 ⟨Nat.le_of_ble_eq_true rfl, Nat.le_of_ble_eq_true rfl⟩ (fun H locs B => ?_)
  refine lv_if_ne (tgt := 19) hx hb dX10_gardenerOf_10 (by decide) (fun c3 => ?_) (fun c3 => ?_)
  · have ho := in_ c3 ho
    refine lv_iload_n hx hb dX10_gardenerOf_19 rfl (lv_at hl 2 rfl) ?_
    by_cases c4 : a1 = 0
    · have ho := ip_ c4 ho
      refine lv_tableIn (off := 36) (tgt := 56) hx hb dX10_gardenerOf_20 (by rw [c4]; decide) (by rw [c4]; decide) (by rw [c4]; rfl) (by decide) ?_
      refine lv_aload_n hx hb dX10_gardenerOf_56 rfl (lv_at hl 0 rfl) ?_
      refine r_get (ci := 14) (C := RX10) (T := TX10) (N := 21) S F B (kq (by decide) : kd 198 = 21 ∧ 198 < NN) rfl rfl hiX10 0 (by decide) (by decide +kernel) rfl dX10_gardenerOf_57 ?_
      refine lv_iload_n hx hb dX10_gardenerOf_60 rfl (lv_at hl 1 rfl) ?_
      obtain ⟨q5, hq5, ho⟩ := bnd_ ho
      refine k_iS (As := [.int a0]) (rest := [.ref (G.2.2 199)]) S F B (c_X10_gardenerAt l G σ1 _ a0 hq5) (va_cwS 1 hts gX10_gardenerOf_X10_gardenerAt rfl rfl rfl (by decide +kernel) ⟨Nat.le_of_ble_eq_true rfl, Nat.le_of_ble_eq_true rfl⟩) rfl hl.1 rfl (Nat.le_of_ble_eq_true rfl) dX10_gardenerOf_61 ⟨Nat.le_of_ble_eq_true rfl, Nat.le_of_ble_eq_true rfl⟩ (fun H locs B => ?_)
      obtain ⟨hi, ho⟩ := gd_ ho
      refine r_iald S F B (kq (by decide) : kd 199 = 22 ∧ 199 < NN) rfl hi dX10_gardenerOf_64 ?_
      cases ho
      exact e_i B hx hb hr hlocks rfl rfl dX10_gardenerOf_65
    · have ho := in_ c4 ho
      by_cases c6 : a1 = 1
      · have ho := ip_ c6 ho
        refine lv_tableIn (off := 46) (tgt := 66) hx hb dX10_gardenerOf_20 (by rw [c6]; decide) (by rw [c6]; decide) (by rw [c6]; rfl) (by decide) ?_
        refine lv_aload_n hx hb dX10_gardenerOf_66 rfl (lv_at hl 0 rfl) ?_
        refine lv_iload_n hx hb dX10_gardenerOf_67 rfl (lv_at hl 1 rfl) ?_
        obtain ⟨q7, hq7, ho⟩ := bnd_ ho
        refine k_iV (As := [.int a0]) (rest := []) S F B (c_X10_lasting l G σ1 _ a0 hq7) (kq (by decide) : kd 198 = 21 ∧ 198 < NN) rfl rfl (cwV 1 hts gX10_gardenerOf_X10_lasting rfl rfl rfl (by decide +kernel) ⟨Nat.le_of_ble_eq_true rfl, Nat.le_of_ble_eq_true rfl⟩) rfl hl.1 rfl (Nat.le_of_ble_eq_true rfl) dX10_gardenerOf_68 ⟨Nat.le_of_ble_eq_true rfl, Nat.le_of_ble_eq_true rfl⟩ (fun H locs B => ?_)
        cases ho
        exact e_i B hx hb hr hlocks rfl rfl dX10_gardenerOf_71
      · have ho := in_ c6 ho
        by_cases c8 : a1 = 2
        · have ho := ip_ c8 ho
          refine lv_tableIn (off := 52) (tgt := 72) hx hb dX10_gardenerOf_20 (by rw [c8]; decide) (by rw [c8]; decide) (by rw [c8]; rfl) (by decide) ?_
          refine lv_aload_n hx hb dX10_gardenerOf_72 rfl (lv_at hl 0 rfl) ?_
          refine r_get (ci := 14) (C := RX10) (T := TX10) (N := 21) S F B (kq (by decide) : kd 198 = 21 ∧ 198 < NN) rfl rfl hiX10 0 (by decide) (by decide +kernel) rfl dX10_gardenerOf_73 ?_
          refine lv_iload_n hx hb dX10_gardenerOf_76 rfl (lv_at hl 1 rfl) ?_
          obtain ⟨q9, hq9, ho⟩ := bnd_ ho
          refine k_iS (As := [.int a0]) (rest := [.ref (G.2.2 199)]) S F B (c_X10_gardenerAt l G σ1 _ a0 hq9) (va_cwS 1 hts gX10_gardenerOf_X10_gardenerAt rfl rfl rfl (by decide +kernel) ⟨Nat.le_of_ble_eq_true rfl, Nat.le_of_ble_eq_true rfl⟩) rfl hl.1 rfl (Nat.le_of_ble_eq_true rfl) dX10_gardenerOf_77 ⟨Nat.le_of_ble_eq_true rfl, Nat.le_of_ble_eq_true rfl⟩ (fun H locs B => ?_)
          refine lv_iload_n hx hb dX10_gardenerOf_80 rfl (lv_at hl 2 rfl) ?_
          refine lv_iadd hx hb dX10_gardenerOf_81 ?_
          refine lv_iconst (v := 1) hx hb dX10_gardenerOf_82 (by decide) ?_
          refine lv_isub hx hb dX10_gardenerOf_83 ?_
          obtain ⟨hi, ho⟩ := gd_ ho
          refine r_iald S F B (kq (by decide) : kd 199 = 22 ∧ 199 < NN) rfl hi dX10_gardenerOf_84 ?_
          cases ho
          exact e_i B hx hb hr hlocks rfl rfl dX10_gardenerOf_85
        · have ho := in_ c8 ho
          by_cases c10 : a1 = 3
          · have ho := ip_ c10 ho
            refine lv_tableIn (off := 52) (tgt := 72) hx hb dX10_gardenerOf_20 (by rw [c10]; decide) (by rw [c10]; decide) (by rw [c10]; rfl) (by decide) ?_
            refine lv_aload_n hx hb dX10_gardenerOf_72 rfl (lv_at hl 0 rfl) ?_
            refine r_get (ci := 14) (C := RX10) (T := TX10) (N := 21) S F B (kq (by decide) : kd 198 = 21 ∧ 198 < NN) rfl rfl hiX10 0 (by decide) (by decide +kernel) rfl dX10_gardenerOf_73 ?_
            refine lv_iload_n hx hb dX10_gardenerOf_76 rfl (lv_at hl 1 rfl) ?_
            obtain ⟨q11, hq11, ho⟩ := bnd_ ho
            refine k_iS (As := [.int a0]) (rest := [.ref (G.2.2 199)]) S F B (c_X10_gardenerAt l G σ1 _ a0 hq11) (va_cwS 1 hts gX10_gardenerOf_X10_gardenerAt rfl rfl rfl (by decide +kernel) ⟨Nat.le_of_ble_eq_true rfl, Nat.le_of_ble_eq_true rfl⟩) rfl hl.1 rfl (Nat.le_of_ble_eq_true rfl) dX10_gardenerOf_77 ⟨Nat.le_of_ble_eq_true rfl, Nat.le_of_ble_eq_true rfl⟩ (fun H locs B => ?_)
            refine lv_iload_n hx hb dX10_gardenerOf_80 rfl (lv_at hl 2 rfl) ?_
            refine lv_iadd hx hb dX10_gardenerOf_81 ?_
            refine lv_iconst (v := 1) hx hb dX10_gardenerOf_82 (by decide) ?_
            refine lv_isub hx hb dX10_gardenerOf_83 ?_
            obtain ⟨hi, ho⟩ := gd_ ho
            refine r_iald S F B (kq (by decide) : kd 199 = 22 ∧ 199 < NN) rfl hi dX10_gardenerOf_84 ?_
            cases ho
            exact e_i B hx hb hr hlocks rfl rfl dX10_gardenerOf_85
          · have ho := in_ c10 ho
            by_cases c12 : a1 = 4
            · have ho := ip_ c12 ho
              refine lv_tableIn (off := 52) (tgt := 72) hx hb dX10_gardenerOf_20 (by rw [c12]; decide) (by rw [c12]; decide) (by rw [c12]; rfl) (by decide) ?_
              refine lv_aload_n hx hb dX10_gardenerOf_72 rfl (lv_at hl 0 rfl) ?_
              refine r_get (ci := 14) (C := RX10) (T := TX10) (N := 21) S F B (kq (by decide) : kd 198 = 21 ∧ 198 < NN) rfl rfl hiX10 0 (by decide) (by decide +kernel) rfl dX10_gardenerOf_73 ?_
              refine lv_iload_n hx hb dX10_gardenerOf_76 rfl (lv_at hl 1 rfl) ?_
              obtain ⟨q13, hq13, ho⟩ := bnd_ ho
              refine k_iS (As := [.int a0]) (rest := [.ref (G.2.2 199)]) S F B (c_X10_gardenerAt l G σ1 _ a0 hq13) (va_cwS 1 hts gX10_gardenerOf_X10_gardenerAt rfl rfl rfl (by decide +kernel) ⟨Nat.le_of_ble_eq_true rfl, Nat.le_of_ble_eq_true rfl⟩) rfl hl.1 rfl (Nat.le_of_ble_eq_true rfl) dX10_gardenerOf_77 ⟨Nat.le_of_ble_eq_true rfl, Nat.le_of_ble_eq_true rfl⟩ (fun H locs B => ?_)
              refine lv_iload_n hx hb dX10_gardenerOf_80 rfl (lv_at hl 2 rfl) ?_
              refine lv_iadd hx hb dX10_gardenerOf_81 ?_
              refine lv_iconst (v := 1) hx hb dX10_gardenerOf_82 (by decide) ?_
              refine lv_isub hx hb dX10_gardenerOf_83 ?_
              obtain ⟨hi, ho⟩ := gd_ ho
              refine r_iald S F B (kq (by decide) : kd 199 = 22 ∧ 199 < NN) rfl hi dX10_gardenerOf_84 ?_
              cases ho
              exact e_i B hx hb hr hlocks rfl rfl dX10_gardenerOf_85
            · have ho := in_ c12 ho
              refine t_tableD (tgt := 86) hx hb dX10_gardenerOf_20 rfl (fun j hj => ?_) (by decide) ?_
              · have hj : j < 5 := hj
                rcases (show j = 0 ∨ j = 1 ∨ j = 2 ∨ j = 3 ∨ j = 4 by omega) with rfl | rfl | rfl | rfl | rfl
                · exact Or.inr (lv_neT c4 (by decide))
                · exact Or.inr (lv_neT c6 (by decide))
                · exact Or.inr (lv_neT c8 (by decide))
                · exact Or.inr (lv_neT c10 (by decide))
                · exact Or.inr (lv_neT c12 (by decide))
              · refine lv_aload_n hx hb dX10_gardenerOf_86 rfl (lv_at hl 0 rfl) ?_
                refine lv_iconst (v := 2) hx hb dX10_gardenerOf_87 (by decide) ?_
                obtain ⟨q14, σ15, hq14, ho⟩ := bnm_ ho
                refine k_iV (As := [.int 2]) (rest := []) S F B (c_X10_throwing l G σ1 _ 2 hq14) (kq (by decide) : kd 198 = 21 ∧ 198 < NN) rfl rfl (cwV 1 hts gX10_gardenerOf_X10_throwing rfl rfl rfl (by decide +kernel) ⟨Nat.le_of_ble_eq_true rfl, Nat.le_of_ble_eq_true rfl⟩) rfl hl.1 rfl (Nat.le_of_ble_eq_true rfl) dX10_gardenerOf_88 ⟨Nat.le_of_ble_eq_true rfl, Nat.le_of_ble_eq_true rfl⟩ (fun H locs B => ?_)
                cases ho
                exact e_i B hx hb hr hlocks rfl rfl dX10_gardenerOf_91
  · have ho := ip_ c3 ho
    refine lv_aload_n hx hb dX10_gardenerOf_13 rfl (lv_at hl 0 rfl) ?_
    refine lv_iconst (v := 1) hx hb dX10_gardenerOf_14 (by decide) ?_
    obtain ⟨q16, σ17, hq16, ho⟩ := bnm_ ho
    refine k_iV (As := [.int 1]) (rest := []) S F B (c_X10_throwing l G σ1 _ 1 hq16) (kq (by decide) : kd 198 = 21 ∧ 198 < NN) rfl rfl (cwV 1 hts gX10_gardenerOf_X10_throwing rfl rfl rfl (by decide +kernel) ⟨Nat.le_of_ble_eq_true rfl, Nat.le_of_ble_eq_true rfl⟩) rfl hl.1 rfl (Nat.le_of_ble_eq_true rfl) dX10_gardenerOf_15 ⟨Nat.le_of_ble_eq_true rfl, Nat.le_of_ble_eq_true rfl⟩ (fun H locs B => ?_)
    cases ho
    exact e_i B hx hb hr hlocks rfl rfl dX10_gardenerOf_18

set_option maxHeartbeats 4000000 in
set_option maxRecDepth 100000 in
theorem c_X10_visitorOf (l : Launch) (G : Gd) (σ : Mm) (sz : Nat) (a0 : Int32) (a1 : Int32) {out : Int32 × Mm} (ho : f_X10_visitorOf a0 a1 σ = some out) : Met l yX10_visitorOf wsX10_visitorOf { frames := 2, cells := 0, slots := 0, locals := 54 } (va_Pc [.ref (G.2.2 198), .int a0, .int a1] (PW G σ sz)) (Qi G sz out.1 out.2) 0 0 (AA G sz) := by
  refine Met.ofW (cc := cX10_visitorOf) (maxL := 4) (ret := (some .int)) (by decide) rfl ?_
  intro p e s m args below meth c s₁ B0 hml hv
  obtain ⟨rfl, hpw⟩ := hv
  have hsz := hpw.1
  subst hsz
  obtain ⟨F, B⟩ := hpw.to
  have hx := B0.exec
  have hb := B0.bytes
  have hr := B0.returns
  have hts := atoms_spec (ws := wsX10_visitorOf) B0.pre
  have hown : s.vm.findClass RX10 = some m.cls := findClass_of_methodNamed B0.named
  have hlocks := B0.notSynchronized
  have S : CallFix p m c cX10_visitorOf 4 s _ wsX10_visitorOf RX10 := ⟨hx, hb, hml, hown, hts⟩
  have hiX10 : ∀ w ∈ u_ws RX10 TX10 21, w ∈ wsX10_visitorOf := by decide +kernel
  have hl := lv_entry [.ref (G.2.2 198), .int a0, .int a1] (n := 4) (Nat.le_of_ble_eq_true rfl)
  rw [lg_entry_eq]
  generalize (lg_sl [.ref (G.2.2 198), .int a0, .int a1] ++ List.replicate (4 - (lg_sl [.ref (G.2.2 198), .int a0, .int a1]).length) Slot.unset).toArray = ls at hl ⊢
  have hl : lv_has ls 4 [(0, .ref (G.2.2 198)), (1, .int a0), (2, .int a1)] := hl
  unfold f_X10_visitorOf at ho
  refine lv_aload_n hx hb dX10_visitorOf_0 rfl (lv_at hl 0 rfl) ?_
  refine lv_iconst (v := 0) hx hb dX10_visitorOf_1 (by decide) ?_
  refine r_put (ci := 14) (C := RX10) (T := TX10) (N := 21) (ty := .int) S F B tyX10 tyX10_ok nmX10 (kq (by decide) : kd 198 = 21 ∧ 198 < NN) (fun _ => rfl) rfl hiX10 12 (by decide) (by decide +kernel) rfl rfl rfl rfl (fun _ => Nat.le_of_ble_eq_true rfl) (fun _ => rfl) dX10_visitorOf_2 (fun H locs B => ?_)
  obtain ⟨σ1, eσ1, ho⟩ := lt_ ho
  rw [← eσ1] at B
  refine lv_aload_n hx hb dX10_visitorOf_5 rfl (lv_at hl 0 rfl) ?_
  refine lv_iload_n hx hb dX10_visitorOf_6 rfl (lv_at hl 1 rfl) ?_
  obtain ⟨q2, hq2, ho⟩ := bnd_ ho
  refine k_iV (As := [.int a0]) (rest := []) S F B (c_X10_isVisitor l G σ1 _ a0 hq2) (kq (by decide) : kd 198 = 21 ∧ 198 < NN) rfl rfl (cwV 1 hts gX10_visitorOf_X10_isVisitor rfl rfl rfl (by decide +kernel) ⟨Nat.le_of_ble_eq_true rfl, Nat.le_of_ble_eq_true rfl⟩) rfl hl.1 rfl (Nat.le_of_ble_eq_true rfl) dX10_visitorOf_7 ⟨Nat.le_of_ble_eq_true rfl, Nat.le_of_ble_eq_true rfl⟩ (fun H locs B => ?_)
  refine lv_if_ne (tgt := 19) hx hb dX10_visitorOf_10 (by decide) (fun c3 => ?_) (fun c3 => ?_)
  · have ho := in_ c3 ho
    refine lv_iload_n hx hb dX10_visitorOf_19 rfl (lv_at hl 1 rfl) ?_
    obtain ⟨q4, hq4, ho⟩ := bnd_ ho
    refine k_iS (As := [.int a0]) (rest := []) S F B (c_X10_visitorAt l G σ1 _ a0 hq4) (va_cwS 1 hts gX10_visitorOf_X10_visitorAt rfl rfl rfl (by decide +kernel) ⟨Nat.le_of_ble_eq_true rfl, Nat.le_of_ble_eq_true rfl⟩) rfl hl.1 rfl (Nat.le_of_ble_eq_true rfl) dX10_visitorOf_20 ⟨Nat.le_of_ble_eq_true rfl, Nat.le_of_ble_eq_true rfl⟩ (fun H locs B => ?_)
    refine lv_istore_n (lv' := [(3, .int q4), (0, .ref (G.2.2 198)), (1, .int a0), (2, .int a1)]) hx hb dX10_visitorOf_23 rfl hl (by decide) rfl (fun ls hl => ?_)
    refine lv_iload_n hx hb dX10_visitorOf_24 rfl (lv_at hl 3 rfl) ?_
    by_cases c5 : a1 = 0
    · have ho := ip_ c5 ho
      refine lv_tableIn (off := 51) (tgt := 76) hx hb dX10_visitorOf_25 (by rw [c5]; decide) (by rw [c5]; decide) (by rw [c5]; rfl) (by decide) ?_
      refine lv_aload_n hx hb dX10_visitorOf_76 rfl (lv_at hl 1 rfl) ?_
      refine r_get (ci := 14) (C := RX10) (T := TX10) (N := 21) S F B (kq (by decide) : kd 198 = 21 ∧ 198 < NN) rfl rfl hiX10 0 (by decide) (by decide +kernel) rfl dX10_visitorOf_77 ?_
      refine lv_iload_n hx hb dX10_visitorOf_80 rfl (lv_at hl 0 rfl) ?_
      refine lv_iload_n hx hb dX10_visitorOf_81 rfl (lv_at hl 3 rfl) ?_
      refine lv_iadd hx hb dX10_visitorOf_82 ?_
      obtain ⟨hi, ho⟩ := gd_ ho
      refine r_iald S F B (kq (by decide) : kd 199 = 22 ∧ 199 < NN) rfl hi dX10_visitorOf_83 ?_
      cases ho
      exact e_i B hx hb hr hlocks rfl rfl dX10_visitorOf_84
    · have ho := in_ c5 ho
      by_cases c6 : a1 = 1
      · have ho := ip_ c6 ho
        refine lv_tableIn (off := 51) (tgt := 76) hx hb dX10_visitorOf_25 (by rw [c6]; decide) (by rw [c6]; decide) (by rw [c6]; rfl) (by decide) ?_
        refine lv_aload_n hx hb dX10_visitorOf_76 rfl (lv_at hl 1 rfl) ?_
        refine r_get (ci := 14) (C := RX10) (T := TX10) (N := 21) S F B (kq (by decide) : kd 198 = 21 ∧ 198 < NN) rfl rfl hiX10 0 (by decide) (by decide +kernel) rfl dX10_visitorOf_77 ?_
        refine lv_iload_n hx hb dX10_visitorOf_80 rfl (lv_at hl 0 rfl) ?_
        refine lv_iload_n hx hb dX10_visitorOf_81 rfl (lv_at hl 3 rfl) ?_
        refine lv_iadd hx hb dX10_visitorOf_82 ?_
        obtain ⟨hi, ho⟩ := gd_ ho
        refine r_iald S F B (kq (by decide) : kd 199 = 22 ∧ 199 < NN) rfl hi dX10_visitorOf_83 ?_
        cases ho
        exact e_i B hx hb hr hlocks rfl rfl dX10_visitorOf_84
      · have ho := in_ c6 ho
        by_cases c7 : a1 = 2
        · have ho := ip_ c7 ho
          refine lv_tableIn (off := 51) (tgt := 76) hx hb dX10_visitorOf_25 (by rw [c7]; decide) (by rw [c7]; decide) (by rw [c7]; rfl) (by decide) ?_
          refine lv_aload_n hx hb dX10_visitorOf_76 rfl (lv_at hl 1 rfl) ?_
          refine r_get (ci := 14) (C := RX10) (T := TX10) (N := 21) S F B (kq (by decide) : kd 198 = 21 ∧ 198 < NN) rfl rfl hiX10 0 (by decide) (by decide +kernel) rfl dX10_visitorOf_77 ?_
          refine lv_iload_n hx hb dX10_visitorOf_80 rfl (lv_at hl 0 rfl) ?_
          refine lv_iload_n hx hb dX10_visitorOf_81 rfl (lv_at hl 3 rfl) ?_
          refine lv_iadd hx hb dX10_visitorOf_82 ?_
          obtain ⟨hi, ho⟩ := gd_ ho
          refine r_iald S F B (kq (by decide) : kd 199 = 22 ∧ 199 < NN) rfl hi dX10_visitorOf_83 ?_
          cases ho
          exact e_i B hx hb hr hlocks rfl rfl dX10_visitorOf_84
        · have ho := in_ c7 ho
          by_cases c8 : a1 = 3
          · have ho := ip_ c8 ho
            refine lv_tableIn (off := 51) (tgt := 76) hx hb dX10_visitorOf_25 (by rw [c8]; decide) (by rw [c8]; decide) (by rw [c8]; rfl) (by decide) ?_
            refine lv_aload_n hx hb dX10_visitorOf_76 rfl (lv_at hl 1 rfl) ?_
            refine r_get (ci := 14) (C := RX10) (T := TX10) (N := 21) S F B (kq (by decide) : kd 198 = 21 ∧ 198 < NN) rfl rfl hiX10 0 (by decide) (by decide +kernel) rfl dX10_visitorOf_77 ?_
            refine lv_iload_n hx hb dX10_visitorOf_80 rfl (lv_at hl 0 rfl) ?_
            refine lv_iload_n hx hb dX10_visitorOf_81 rfl (lv_at hl 3 rfl) ?_
            refine lv_iadd hx hb dX10_visitorOf_82 ?_
            obtain ⟨hi, ho⟩ := gd_ ho
            refine r_iald S F B (kq (by decide) : kd 199 = 22 ∧ 199 < NN) rfl hi dX10_visitorOf_83 ?_
            cases ho
            exact e_i B hx hb hr hlocks rfl rfl dX10_visitorOf_84
          · have ho := in_ c8 ho
            by_cases c9 : a1 = 4
            · have ho := ip_ c9 ho
              refine lv_tableIn (off := 60) (tgt := 85) hx hb dX10_visitorOf_25 (by rw [c9]; decide) (by rw [c9]; decide) (by rw [c9]; rfl) (by decide) ?_
              refine lv_aload_n hx hb dX10_visitorOf_85 rfl (lv_at hl 1 rfl) ?_
              refine lv_iload_n hx hb dX10_visitorOf_86 rfl (lv_at hl 2 rfl) ?_
              obtain ⟨q10, hq10, ho⟩ := bnd_ ho
              refine k_iV (As := [.int a0]) (rest := []) S F B (c_X10_lostOf l G σ1 _ a0 hq10) (kq (by decide) : kd 198 = 21 ∧ 198 < NN) rfl rfl (cwV 1 hts gX10_visitorOf_X10_lostOf rfl rfl rfl (by decide +kernel) ⟨Nat.le_of_ble_eq_true rfl, Nat.le_of_ble_eq_true rfl⟩) rfl hl.1 rfl (Nat.le_of_ble_eq_true rfl) dX10_visitorOf_87 ⟨Nat.le_of_ble_eq_true rfl, Nat.le_of_ble_eq_true rfl⟩ (fun H locs B => ?_)
              cases ho
              exact e_i B hx hb hr hlocks rfl rfl dX10_visitorOf_90
            · have ho := in_ c9 ho
              by_cases c11 : a1 = 5
              · have ho := ip_ c11 ho
                refine lv_tableIn (off := 66) (tgt := 91) hx hb dX10_visitorOf_25 (by rw [c11]; decide) (by rw [c11]; decide) (by rw [c11]; rfl) (by decide) ?_
                refine lv_aload_n hx hb dX10_visitorOf_91 rfl (lv_at hl 1 rfl) ?_
                refine r_get (ci := 14) (C := RX10) (T := TX10) (N := 21) S F B (kq (by decide) : kd 198 = 21 ∧ 198 < NN) rfl rfl hiX10 0 (by decide) (by decide +kernel) rfl dX10_visitorOf_92 ?_
                refine lv_iload_n hx hb dX10_visitorOf_95 rfl (lv_at hl 0 rfl) ?_
                refine lv_iload_n hx hb dX10_visitorOf_96 rfl (lv_at hl 3 rfl) ?_
                refine lv_iadd hx hb dX10_visitorOf_97 ?_
                refine lv_iconst (v := 1) hx hb dX10_visitorOf_98 (by decide) ?_
                refine lv_isub hx hb dX10_visitorOf_99 ?_
                obtain ⟨hi, ho⟩ := gd_ ho
                refine r_iald S F B (kq (by decide) : kd 199 = 22 ∧ 199 < NN) rfl hi dX10_visitorOf_100 ?_
                cases ho
                exact e_i B hx hb hr hlocks rfl rfl dX10_visitorOf_101
              · have ho := in_ c11 ho
                by_cases c12 : a1 = 6
                · have ho := ip_ c12 ho
                  refine lv_tableIn (off := 66) (tgt := 91) hx hb dX10_visitorOf_25 (by rw [c12]; decide) (by rw [c12]; decide) (by rw [c12]; rfl) (by decide) ?_
                  refine lv_aload_n hx hb dX10_visitorOf_91 rfl (lv_at hl 1 rfl) ?_
                  refine r_get (ci := 14) (C := RX10) (T := TX10) (N := 21) S F B (kq (by decide) : kd 198 = 21 ∧ 198 < NN) rfl rfl hiX10 0 (by decide) (by decide +kernel) rfl dX10_visitorOf_92 ?_
                  refine lv_iload_n hx hb dX10_visitorOf_95 rfl (lv_at hl 0 rfl) ?_
                  refine lv_iload_n hx hb dX10_visitorOf_96 rfl (lv_at hl 3 rfl) ?_
                  refine lv_iadd hx hb dX10_visitorOf_97 ?_
                  refine lv_iconst (v := 1) hx hb dX10_visitorOf_98 (by decide) ?_
                  refine lv_isub hx hb dX10_visitorOf_99 ?_
                  obtain ⟨hi, ho⟩ := gd_ ho
                  refine r_iald S F B (kq (by decide) : kd 199 = 22 ∧ 199 < NN) rfl hi dX10_visitorOf_100 ?_
                  cases ho
                  exact e_i B hx hb hr hlocks rfl rfl dX10_visitorOf_101
                · have ho := in_ c12 ho
                  by_cases c13 : a1 = 7
                  · have ho := ip_ c13 ho
                    refine lv_tableIn (off := 66) (tgt := 91) hx hb dX10_visitorOf_25 (by rw [c13]; decide) (by rw [c13]; decide) (by rw [c13]; rfl) (by decide) ?_
                    refine lv_aload_n hx hb dX10_visitorOf_91 rfl (lv_at hl 1 rfl) ?_
                    refine r_get (ci := 14) (C := RX10) (T := TX10) (N := 21) S F B (kq (by decide) : kd 198 = 21 ∧ 198 < NN) rfl rfl hiX10 0 (by decide) (by decide +kernel) rfl dX10_visitorOf_92 ?_
                    refine lv_iload_n hx hb dX10_visitorOf_95 rfl (lv_at hl 0 rfl) ?_
                    refine lv_iload_n hx hb dX10_visitorOf_96 rfl (lv_at hl 3 rfl) ?_
                    refine lv_iadd hx hb dX10_visitorOf_97 ?_
                    refine lv_iconst (v := 1) hx hb dX10_visitorOf_98 (by decide) ?_
                    refine lv_isub hx hb dX10_visitorOf_99 ?_
                    obtain ⟨hi, ho⟩ := gd_ ho
                    refine r_iald S F B (kq (by decide) : kd 199 = 22 ∧ 199 < NN) rfl hi dX10_visitorOf_100 ?_
                    cases ho
                    exact e_i B hx hb hr hlocks rfl rfl dX10_visitorOf_101
                  · have ho := in_ c13 ho
                    by_cases c14 : a1 = 8
                    · have ho := ip_ c14 ho
                      refine lv_tableIn (off := 66) (tgt := 91) hx hb dX10_visitorOf_25 (by rw [c14]; decide) (by rw [c14]; decide) (by rw [c14]; rfl) (by decide) ?_
                      refine lv_aload_n hx hb dX10_visitorOf_91 rfl (lv_at hl 1 rfl) ?_
                      refine r_get (ci := 14) (C := RX10) (T := TX10) (N := 21) S F B (kq (by decide) : kd 198 = 21 ∧ 198 < NN) rfl rfl hiX10 0 (by decide) (by decide +kernel) rfl dX10_visitorOf_92 ?_
                      refine lv_iload_n hx hb dX10_visitorOf_95 rfl (lv_at hl 0 rfl) ?_
                      refine lv_iload_n hx hb dX10_visitorOf_96 rfl (lv_at hl 3 rfl) ?_
                      refine lv_iadd hx hb dX10_visitorOf_97 ?_
                      refine lv_iconst (v := 1) hx hb dX10_visitorOf_98 (by decide) ?_
                      refine lv_isub hx hb dX10_visitorOf_99 ?_
                      obtain ⟨hi, ho⟩ := gd_ ho
                      refine r_iald S F B (kq (by decide) : kd 199 = 22 ∧ 199 < NN) rfl hi dX10_visitorOf_100 ?_
                      cases ho
                      exact e_i B hx hb hr hlocks rfl rfl dX10_visitorOf_101
                    · have ho := in_ c14 ho
                      refine t_tableD (tgt := 102) hx hb dX10_visitorOf_25 rfl (fun j hj => ?_) (by decide) ?_
                      · have hj : j < 9 := hj
                        rcases (show j = 0 ∨ j = 1 ∨ j = 2 ∨ j = 3 ∨ j = 4 ∨ j = 5 ∨ j = 6 ∨ j = 7 ∨ j = 8 by omega) with rfl | rfl | rfl | rfl | rfl | rfl | rfl | rfl | rfl
                        · exact Or.inr (lv_neT c5 (by decide))
                        · exact Or.inr (lv_neT c6 (by decide))
                        · exact Or.inr (lv_neT c7 (by decide))
                        · exact Or.inr (lv_neT c8 (by decide))
                        · exact Or.inr (lv_neT c9 (by decide))
                        · exact Or.inr (lv_neT c11 (by decide))
                        · exact Or.inr (lv_neT c12 (by decide))
                        · exact Or.inr (lv_neT c13 (by decide))
                        · exact Or.inr (lv_neT c14 (by decide))
                      · refine lv_aload_n hx hb dX10_visitorOf_102 rfl (lv_at hl 1 rfl) ?_
                        refine lv_iconst (v := 2) hx hb dX10_visitorOf_103 (by decide) ?_
                        obtain ⟨q15, σ16, hq15, ho⟩ := bnm_ ho
                        refine k_iV (As := [.int 2]) (rest := []) S F B (c_X10_throwing l G σ1 _ 2 hq15) (kq (by decide) : kd 198 = 21 ∧ 198 < NN) rfl rfl (cwV 1 hts gX10_visitorOf_X10_throwing rfl rfl rfl (by decide +kernel) ⟨Nat.le_of_ble_eq_true rfl, Nat.le_of_ble_eq_true rfl⟩) rfl hl.1 rfl (Nat.le_of_ble_eq_true rfl) dX10_visitorOf_104 ⟨Nat.le_of_ble_eq_true rfl, Nat.le_of_ble_eq_true rfl⟩ (fun H locs B => ?_)
                        cases ho
                        exact e_i B hx hb hr hlocks rfl rfl dX10_visitorOf_107
  · have ho := ip_ c3 ho
    refine lv_aload_n hx hb dX10_visitorOf_13 rfl (lv_at hl 0 rfl) ?_
    refine lv_iconst (v := 1) hx hb dX10_visitorOf_14 (by decide) ?_
    obtain ⟨q17, σ18, hq17, ho⟩ := bnm_ ho
    refine k_iV (As := [.int 1]) (rest := []) S F B (c_X10_throwing l G σ1 _ 1 hq17) (kq (by decide) : kd 198 = 21 ∧ 198 < NN) rfl rfl (cwV 1 hts gX10_visitorOf_X10_throwing rfl rfl rfl (by decide +kernel) ⟨Nat.le_of_ble_eq_true rfl, Nat.le_of_ble_eq_true rfl⟩) rfl hl.1 rfl (Nat.le_of_ble_eq_true rfl) dX10_visitorOf_15 ⟨Nat.le_of_ble_eq_true rfl, Nat.le_of_ble_eq_true rfl⟩ (fun H locs B => ?_)
    cases ho
    exact e_i B hx hb hr hlocks rfl rfl dX10_visitorOf_18

