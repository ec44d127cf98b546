set_option maxHeartbeats 4000000 in
set_option maxRecDepth 100000 in
theorem c_X8_distanceOf (l : Launch) (G : Gd) (σ : Mm) (sz : Nat) (a0 : Int32) {out : Int32} (ho : f_X8_distanceOf a0 σ = some out) : Met l yX8_distanceOf wsX8_distanceOf { frames := 1, cells := 0, slots := 0, locals := 20 } (va_Pc [.ref (G.2.2 158), .int a0] (PW G σ sz)) (Qi G sz out σ) 0 0 (AA G sz) := by
  refine Met.ofW (cc := cX8_distanceOf) (maxL := 2) (ret := (some .int)) (by decide) rfl ?_
  intro p e s m args below meth c s₁ B0 hml hv
  obtain ⟨rfl, hpw⟩ := hv
  have hsz := hpw.1
  subst hsz
  obtain ⟨F, B⟩ := hpw.to
  have hx := B0.exec
  have hb := B0.bytes
  have hr := B0.returns
  have hts := atoms_spec (ws := wsX8_distanceOf) B0.pre
  have hown : s.vm.findClass RX8 = some m.cls := findClass_of_methodNamed B0.named
  have hlocks := B0.notSynchronized
  have S : CallFix p m c cX8_distanceOf 2 s _ wsX8_distanceOf RX8 := ⟨hx, hb, hml, hown, hts⟩
  have hiX8 : ∀ w ∈ u_ws RX8 TX8 3, w ∈ wsX8_distanceOf := by decide +kernel
  have hl := lv_entry [.ref (G.2.2 158), .int a0] (n := 2) (Nat.le_of_ble_eq_true rfl)
  rw [lg_entry_eq]
  generalize (lg_sl [.ref (G.2.2 158), .int a0] ++ List.replicate (2 - (lg_sl [.ref (G.2.2 158), .int a0]).length) Slot.unset).toArray = ls at hl ⊢
  have hl : lv_has ls 2 [(0, .ref (G.2.2 158)), (1, .int a0)] := hl
  unfold f_X8_distanceOf at ho
  refine lv_iload_n hx hb dX8_distanceOf_0 rfl (lv_at hl 1 rfl) ?_
  obtain ⟨q1, hq1, ho⟩ := bnd_ ho
  refine k_iS (As := [.int a0]) (rest := []) S F B (c_X4_isCell l G σ _ a0 hq1) (va_cwS 1 hts gX8_distanceOf_X4_isCell rfl rfl rfl (by decide +kernel) ⟨Nat.le_of_ble_eq_true rfl, Nat.le_of_ble_eq_true rfl⟩) rfl hl.1 rfl (Nat.le_of_ble_eq_true rfl) dX8_distanceOf_1 ⟨Nat.le_of_ble_eq_true rfl, Nat.le_of_ble_eq_true rfl⟩ (fun H locs B => ?_)
  refine lv_if_eq (tgt := 16) hx hb dX8_distanceOf_4 (by decide) (fun c2 => ?_) (fun c2 => ?_)
  · have ho := ip_ c2 ho
    refine lv_sipush (v := 1000) hx hb dX8_distanceOf_16 (by decide) ?_
    cases ho
    exact e_i B hx hb hr hlocks rfl rfl dX8_distanceOf_19
  · have ho := in_ c2 ho
    refine lv_aload_n hx hb dX8_distanceOf_7 rfl (lv_at hl 0 rfl) ?_
    refine r_get (ci := 12) (C := RX8) (T := TX8) (N := 3) S F B (kq (by decide) : kd 158 = 11 ∧ 158 < NN) rfl rfl hiX8 1 (by decide) (by decide +kernel) rfl dX8_distanceOf_8 ?_
    refine lv_iload_n hx hb dX8_distanceOf_11 rfl (lv_at hl 1 rfl) ?_
    obtain ⟨hi, ho⟩ := gd_ ho
    refine r_iald S F B (kq (by decide) : kd 159 = 12 ∧ 159 < NN) rfl hi dX8_distanceOf_12 ?_
    refine lv_goto (tgt := 19) hx hb dX8_distanceOf_13 (by decide) ?_
    cases ho
    exact e_i B hx hb hr hlocks rfl rfl dX8_distanceOf_19

set_option maxHeartbeats 4000000 in
set_option maxRecDepth 100000 in
theorem c_J7_fill_53178 (l : Launch) (G : Gd) (σ : Mm) (sz : Nat) (a1 : Int32) {out : Mm} (ho : f_J7_fill_53178 a1 σ = some out) : Met l yJ7_fill_53178 wsJ7_fill_53178 { frames := 0, cells := 0, slots := 0, locals := 0 } (va_Pc [.ref (G.2.2 159), .int a1] (PW G σ sz)) (Qv G sz out) 0 0 (AA G sz) := by
  refine Met.ofW (cc := cJ7_fill_53178) (maxL := 4) (ret := none) (by decide) rfl ?_
  intro p e s m args below meth c s₁ B0 hml hv
  obtain ⟨rfl, hpw⟩ := hv
  have hsz := hpw.1
  subst hsz
  obtain ⟨F, B⟩ := hpw.to
  have hx := B0.exec
  have hb := B0.bytes
  have hr := B0.returns
  have hts := atoms_spec (ws := wsJ7_fill_53178) B0.pre
  have hown : s.vm.findClass RJ7 = some m.cls := findClass_of_methodNamed B0.named
  have hlocks := B0.notSynchronized
  have S : CallFix p m c cJ7_fill_53178 4 s _ wsJ7_fill_53178 RJ7 := ⟨hx, hb, hml, hown, hts⟩
  have hl := lv_entry [.ref (G.2.2 159), .int a1] (n := 4) (Nat.le_of_ble_eq_true rfl)
  rw [lg_entry_eq]
  generalize (lg_sl [.ref (G.2.2 159), .int a1] ++ List.replicate (4 - (lg_sl [.ref (G.2.2 159), .int a1]).length) Slot.unset).toArray = ls at hl ⊢
  have hl : lv_has ls 4 [(0, .ref (G.2.2 159)), (1, .int a1)] := hl
  unfold f_J7_fill_53178 at ho
  skip
  refine lv_iconst (v := 0) hx hb dJ7_fill_53178_0 (by decide) ?_
  refine lv_istore_n (lv' := [(2, .int 0), (0, .ref (G.2.2 159)), (1, .int a1)]) hx hb dJ7_fill_53178_1 rfl hl (by decide) rfl (fun ls hl => ?_)
  refine lv_aload_n hx hb dJ7_fill_53178_2 rfl (lv_at hl 1 rfl) ?_
  refine r_alen (t := 0) (v := 16) S F B (kq (by decide) : kd 159 = 12 ∧ 159 < NN) rfl rfl rfl dJ7_fill_53178_3 ?_
  refine lv_istore_n (lv' := [(3, .int 16), (2, .int 0), (0, .ref (G.2.2 159)), (1, .int a1)]) hx hb dJ7_fill_53178_4 rfl hl (by decide) rfl (fun ls hl => ?_)
  have hloop5 : ∀ (n : Nat) (v4 : Int32) (σ5 : Mm) (H : Heap) (locs : List Loc) (ls : Array Slot), f_J7_fill_53178_l5  a1 n v4 σ5 = some out → Bd G σ5 s H locs → lv_has ls 4 [(3, .int 16), (2, .int v4), (0, .ref (G.2.2 159)), (1, .int a1)] → W p l e (headSpec wsJ7_fill_53178 { frames := 0, cells := 0, slots := 0, locals := 0 }).room s m #[.ref (G.2.2 159), .int a1] below meth c H locs 0 0 (MQ below (Qv G s.heap.size out) #[.ref (G.2.2 159), .int a1] s 0 0 (AA G s.heap.size)) (F0 m 5 ls []) := by
    intro n
    induction n with
    | zero => intro v4 σ5 H locs ls ho B hl; cases ho
    | succ n ih =>
      intro v4 σ5 H locs ls ho B hl
      refine lv_iload_n hx hb dJ7_fill_53178_5 rfl (lv_at hl 1 rfl) ?_
      refine lv_iload_n hx hb dJ7_fill_53178_6 rfl (lv_at hl 0 rfl) ?_
      refine lv_icmp_ge (tgt := 20) hx hb dJ7_fill_53178_7 (by decide) (fun c6 => ?_) (fun c6 => ?_)
      · have ho := ip_ c6 ho
        cases ho
        exact e_v B hx hb hr hlocks dJ7_fill_53178_20
      · have ho := in_ c6 ho
        refine lv_aload_n hx hb dJ7_fill_53178_10 rfl (lv_at hl 2 rfl) ?_
        refine lv_iload_n hx hb dJ7_fill_53178_11 rfl (lv_at hl 1 rfl) ?_
        refine lv_iload_n hx hb dJ7_fill_53178_12 rfl (lv_at hl 3 rfl) ?_
        obtain ⟨hi, ho⟩ := gd_ ho
        refine r_iast S F B (kq (by decide) : kd 159 = 12 ∧ 159 < NN) (fun _ => rfl) hi dJ7_fill_53178_13 (fun H locs B => ?_)
        obtain ⟨σ7, eσ7, ho⟩ := lt_ ho
        rw [← eσ7] at B
        obtain ⟨x8, ex8, ho⟩ := lt_ ho
        refine lv_iinc (v := x8) (lv' := [(2, .int x8), (3, .int 16), (0, .ref (G.2.2 159)), (1, .int a1)]) hx hb dJ7_fill_53178_14 hl (k := 1) rfl (by rw [ex8]; rfl) (by decide) rfl (fun ls hl => ?_)
        refine lv_goto (tgt := 5) hx hb dJ7_fill_53178_17 (by decide) ?_
        exact ih _ _ _ _ _ ho B (lv_sub hl [1, 0, 2, 3] rfl)
  exact hloop5 20 _ _ _ _ _ ho B hl

set_option maxHeartbeats 4000000 in
set_option maxRecDepth 100000 in
theorem c_X8_startFrom (l : Launch) (G : Gd) (σ : Mm) (sz : Nat) (a0 : Int32) {out : Mm} (ho : f_X8_startFrom a0 σ = some out) : Met l yX8_startFrom wsX8_startFrom { frames := 1, cells := 0, slots := 0, locals := 23 } (va_Pc [.ref (G.2.2 158), .int a0] (PW G σ sz)) (Qv G sz out) 0 0 (AA G sz) := by
  refine Met.ofW (cc := cX8_startFrom) (maxL := 2) (ret := none) (by decide) rfl ?_
  intro p e s m args below meth c s₁ B0 hml hv
  obtain ⟨rfl, hpw⟩ := hv
  have hsz := hpw.1
  subst hsz
  obtain ⟨F, B⟩ := hpw.to
  have hx := B0.exec
  have hb := B0.bytes
  have hr := B0.returns
  have hts := atoms_spec (ws := wsX8_startFrom) B0.pre
  have hown : s.vm.findClass RX8 = some m.cls := findClass_of_methodNamed B0.named
  have hlocks := B0.notSynchronized
  have S : CallFix p m c cX8_startFrom 2 s _ wsX8_startFrom RX8 := ⟨hx, hb, hml, hown, hts⟩
  have hiX8 : ∀ w ∈ u_ws RX8 TX8 3, w ∈ wsX8_startFrom := by decide +kernel
  have hl := lv_entry [.ref (G.2.2 158), .int a0] (n := 2) (Nat.le_of_ble_eq_true rfl)
  rw [lg_entry_eq]
  generalize (lg_sl [.ref (G.2.2 158), .int a0] ++ List.replicate (2 - (lg_sl [.ref (G.2.2 158), .int a0]).length) Slot.unset).toArray = ls at hl ⊢
  have hl : lv_has ls 2 [(0, .ref (G.2.2 158)), (1, .int a0)] := hl
  unfold f_X8_startFrom at ho
  refine lv_aload_n hx hb dX8_startFrom_0 rfl (lv_at hl 0 rfl) ?_
  refine r_get (ci := 12) (C := RX8) (T := TX8) (N := 3) S F B (kq (by decide) : kd 158 = 11 ∧ 158 < NN) rfl rfl hiX8 1 (by decide) (by decide +kernel) rfl dX8_startFrom_1 ?_
  refine lv_sipush (v := 1000) hx hb dX8_startFrom_4 (by decide) ?_
  obtain ⟨σ2, hq1, ho⟩ := bnd_ ho
  refine k_vS (As := [.ref (G.2.2 159), .int 1000]) (rest := []) S F B (c_J7_fill_53178 l G σ _ 1000 hq1) (va_cwS 2 hts gX8_startFrom_J7_fill_53178 rfl rfl rfl (by decide +kernel) ⟨Nat.le_of_ble_eq_true rfl, Nat.le_of_ble_eq_true rfl⟩) rfl hl.1 rfl (Nat.le_of_ble_eq_true rfl) dX8_startFrom_7 ⟨Nat.le_of_ble_eq_true rfl, Nat.le_of_ble_eq_true rfl⟩ (fun H locs B => ?_)
  refine lv_iload_n hx hb dX8_startFrom_10 rfl (lv_at hl 1 rfl) ?_
  obtain ⟨q3, hq3, ho⟩ := bnd_ ho
  refine k_iS (As := [.int a0]) (rest := []) S F B (c_X4_isCell l G σ2 _ a0 hq3) (va_cwS 1 hts gX8_startFrom_X4_isCell rfl rfl rfl (by decide +kernel) ⟨Nat.le_of_ble_eq_true rfl, Nat.le_of_ble_eq_true rfl⟩) rfl hl.1 rfl (Nat.le_of_ble_eq_true rfl) dX8_startFrom_11 ⟨Nat.le_of_ble_eq_true rfl, Nat.le_of_ble_eq_true rfl⟩ (fun H locs B => ?_)
  refine lv_if_eq (tgt := 24) hx hb dX8_startFrom_14 (by decide) (fun c4 => ?_) (fun c4 => ?_)
  · have ho := ip_ c4 ho
    cases ho
    exact e_v B hx hb hr hlocks dX8_startFrom_24
  · have ho := in_ c4 ho
    refine lv_aload_n hx hb dX8_startFrom_17 rfl (lv_at hl 0 rfl) ?_
    refine r_get (ci := 12) (C := RX8) (T := TX8) (N := 3) S F B (kq (by decide) : kd 158 = 11 ∧ 158 < NN) rfl rfl hiX8 1 (by decide) (by decide +kernel) rfl dX8_startFrom_18 ?_
    refine lv_iload_n hx hb dX8_startFrom_21 rfl (lv_at hl 1 rfl) ?_
    refine lv_iconst (v := 0) hx hb dX8_startFrom_22 (by decide) ?_
    obtain ⟨hi, ho⟩ := gd_ ho
    refine r_iast S F B (kq (by decide) : kd 159 = 12 ∧ 159 < NN) (fun _ => rfl) hi dX8_startFrom_23 (fun H locs B => ?_)
    obtain ⟨σ5, eσ5, ho⟩ := lt_ ho
    rw [← eσ5] at B
    cases ho
    exact e_v B hx hb hr hlocks dX8_startFrom_24

set_option maxHeartbeats 4000000 in
set_option maxRecDepth 100000 in
theorem c_X8_measureFrom (l : Launch) (G : Gd) (σ : Mm) (sz : Nat) (a0 : Int32) {out : Mm} (ho : f_X8_measureFrom a0 σ = some out) : Met l yX8_measureFrom wsX8_measureFrom { frames := 2, cells := 0, slots := 0, locals := 44 } (va_Pc [.ref (G.2.2 158), .int a0] (PW G σ sz)) (Qv G sz out) 0 0 (AA G sz) := by
  refine Met.ofW (cc := cX8_measureFrom) (maxL := 8) (ret := none) (by decide) rfl ?_
  intro p e s m args below meth c s₁ B0 hml hv
  obtain ⟨rfl, hpw⟩ := hv
  have hsz := hpw.1
  subst hsz
  obtain ⟨F, B⟩ := hpw.to
  have hx := B0.exec
  have hb := B0.bytes
  have hr := B0.returns
  have hts := atoms_spec (ws := wsX8_measureFrom) B0.pre
  have hown : s.vm.findClass RX8 = some m.cls := findClass_of_methodNamed B0.named
  have hlocks := B0.notSynchronized
  have S : CallFix p m c cX8_measureFrom 8 s _ wsX8_measureFrom RX8 := ⟨hx, hb, hml, hown, hts⟩
  have hiX8 : ∀ w ∈ u_ws RX8 TX8 3, w ∈ wsX8_measureFrom := by decide +kernel
  have hl := lv_entry [.ref (G.2.2 158), .int a0] (n := 8) (Nat.le_of_ble_eq_true rfl)
  rw [lg_entry_eq]
  generalize (lg_sl [.ref (G.2.2 158), .int a0] ++ List.replicate (8 - (lg_sl [.ref (G.2.2 158), .int a0]).length) Slot.unset).toArray = ls at hl ⊢
  have hl : lv_has ls 8 [(0, .ref (G.2.2 158)), (1, .int a0)] := hl
  unfold f_X8_measureFrom at ho
  skip
  refine lv_aload_n hx hb dX8_measureFrom_0 rfl (lv_at hl 0 rfl) ?_
  refine lv_iload_n hx hb dX8_measureFrom_1 rfl (lv_at hl 1 rfl) ?_
  obtain ⟨σ2, hq1, ho⟩ := bnd_ ho
  refine k_vV (As := [.int a0]) (rest := []) S F B (c_X8_startFrom l G σ _ a0 hq1) (kq (by decide) : kd 158 = 11 ∧ 158 < NN) rfl rfl (cwV 1 hts gX8_measureFrom_X8_startFrom rfl rfl rfl (by decide +kernel) ⟨Nat.le_of_ble_eq_true rfl, Nat.le_of_ble_eq_true rfl⟩) rfl hl.1 rfl (Nat.le_of_ble_eq_true rfl) dX8_measureFrom_2 ⟨Nat.le_of_ble_eq_true rfl, Nat.le_of_ble_eq_true rfl⟩ (fun H locs B => ?_)
  refine lv_aload_n hx hb dX8_measureFrom_5 rfl (lv_at hl 0 rfl) ?_
  refine r_get (ci := 12) (C := RX8) (T := TX8) (N := 3) S F B (kq (by decide) : kd 158 = 11 ∧ 158 < NN) rfl rfl hiX8 2 (by decide) (by decide +kernel) rfl dX8_measureFrom_6 ?_
  refine lv_iconst (v := 0) hx hb dX8_measureFrom_9 (by decide) ?_
  refine lv_iload_n hx hb dX8_measureFrom_10 rfl (lv_at hl 1 rfl) ?_
  refine r_iastc (j := 0) S F B (kq (by decide) : kd 160 = 12 ∧ 160 < NN) (fun _ => rfl) (vpc (by decide)) (by decide) dX8_measureFrom_11 (fun H locs B => ?_)
  obtain ⟨σ3, eσ3, ho⟩ := lt_ ho
  rw [← eσ3] at B
  refine lv_iconst (v := 1) hx hb dX8_measureFrom_12 (by decide) ?_
  refine lv_istore_n (lv' := [(2, .int 1), (0, .ref (G.2.2 158)), (1, .int a0)]) hx hb dX8_measureFrom_13 rfl hl (by decide) rfl (fun ls hl => ?_)
  refine lv_iconst (v := 0) hx hb dX8_measureFrom_14 (by decide) ?_
  refine lv_istore_n (lv' := [(3, .int 0), (2, .int 1), (0, .ref (G.2.2 158)), (1, .int a0)]) hx hb dX8_measureFrom_15 rfl hl (by decide) rfl (fun ls hl => ?_)
  have hloop16 : ∀ (n : Nat) (v8 : Int32) (v9 : Int32) (σ10 : Mm) (H : Heap) (locs : List Loc) (ls : Array Slot), f_X8_measureFrom_l16  a0 n v8 v9 σ10 = some out → Bd G σ10 s H locs → lv_has ls 8 [(3, .int v8), (2, .int v9), (0, .ref (G.2.2 158)), (1, .int a0)] → W p l e (headSpec wsX8_measureFrom { frames := 2, cells := 0, slots := 0, locals := 44 }).room s m #[.ref (G.2.2 158), .int a0] below meth c H locs 0 0 (MQ below (Qv G s.heap.size out) #[.ref (G.2.2 158), .int a0] s 0 0 (AA G s.heap.size)) (F0 m 16 ls []) := by
    intro n
    induction n with
    | zero => intro v8 v9 σ10 H locs ls ho B hl; cases ho
    | succ n ih =>
      intro v8 v9 σ10 H locs ls ho B hl
      refine lv_iload_n hx hb dX8_measureFrom_16 rfl (lv_at hl 0 rfl) ?_
      refine lv_iload_n hx hb dX8_measureFrom_17 rfl (lv_at hl 1 rfl) ?_
      refine lv_icmp_ge (tgt := 143) hx hb dX8_measureFrom_18 (by decide) (fun c11 => ?_) (fun c11 => ?_)
      · have ho := ip_ c11 ho
        cases ho
        exact e_v B hx hb hr hlocks dX8_measureFrom_143
      · have ho := in_ c11 ho
        refine lv_iload_n hx hb dX8_measureFrom_21 rfl (lv_at hl 0 rfl) ?_
        refine lv_bipush (v := 16) hx hb dX8_measureFrom_22 (by decide) ?_
        refine lv_icmp_ge (tgt := 143) hx hb dX8_measureFrom_24 (by decide) (fun c12 => ?_) (fun c12 => ?_)
        · have ho := ip_ c12 ho
          cases ho
          exact e_v B hx hb hr hlocks dX8_measureFrom_143
        · have ho := in_ c12 ho
          refine lv_aload_n hx hb dX8_measureFrom_27 rfl (lv_at hl 2 rfl) ?_
          refine r_get (ci := 12) (C := RX8) (T := TX8) (N := 3) S F B (kq (by decide) : kd 158 = 11 ∧ 158 < NN) rfl rfl hiX8 2 (by decide) (by decide +kernel) rfl dX8_measureFrom_28 ?_
          refine lv_iload_n hx hb dX8_measureFrom_31 rfl (lv_at hl 0 rfl) ?_
          obtain ⟨hi, ho⟩ := gd_ ho
          refine r_iald S F B (kq (by decide) : kd 160 = 12 ∧ 160 < NN) rfl hi dX8_measureFrom_32 ?_
          obtain ⟨x13, ex13, ho⟩ := lt_ ho
          refine lv_nm ex13 ?_
          refine lv_istore (lv' := [(4, .int x13), (3, .int v8), (2, .int v9), (0, .ref (G.2.2 158)), (1, .int a0)]) hx hb dX8_measureFrom_33 hl (by decide) rfl (fun ls hl => ?_)
          refine lv_iconst (v := 0) hx hb dX8_measureFrom_35 (by decide) ?_
          refine lv_istore (lv' := [(5, .int 0), (4, .int x13), (3, .int v8), (2, .int v9), (0, .ref (G.2.2 158)), (1, .int a0)]) hx hb dX8_measureFrom_36 hl (by decide) rfl (fun ls hl => ?_)
          obtain ⟨K, hK, ho⟩ := lt_ ho
          have hexit38 : ∀ (v14 : Int32) (v15 : Int32) (σ16 : Mm) (H : Heap) (locs : List Loc) (ls : Array Slot), K v14 v15 σ16 = some out → Bd G σ16 s H locs → lv_has ls 8 [(5, .int v14), (4, .int x13), (3, .int v8), (2, .int v15), (0, .ref (G.2.2 158)), (1, .int a0)] → W p l e (headSpec wsX8_measureFrom { frames := 2, cells := 0, slots := 0, locals := 44 }).room s m #[.ref (G.2.2 158), .int a0] below meth c H locs 0 0 (MQ below (Qv G s.heap.size out) #[.ref (G.2.2 158), .int a0] s 0 0 (AA G s.heap.size)) (F0 m 137 ls []) := by
            intro v14 v15 σ16 H locs ls ho B hl
            subst hK
            obtain ⟨x18, ex18, ho⟩ := lt_ ho
            refine lv_iinc (v := x18) (lv' := [(3, .int x18), (5, .int v14), (4, .int x13), (2, .int v15), (0, .ref (G.2.2 158)), (1, .int a0)]) hx hb dX8_measureFrom_137 hl (k := 2) rfl (by rw [ex18]; rfl) (by decide) rfl (fun ls hl => ?_)
            refine lv_goto (tgt := 16) hx hb dX8_measureFrom_140 (by decide) ?_
            exact ih _ _ _ _ _ _ ho B (lv_sub hl [0, 3, 4, 5] rfl)
          have hloop38 : ∀ (n : Nat) (v19 : Int32) (v20 : Int32) (σ21 : Mm) (H : Heap) (locs : List Loc) (ls : Array Slot), f_X8_measureFrom_l38 K x13 v8 a0 n v19 v20 σ21 = some out → Bd G σ21 s H locs → lv_has ls 8 [(5, .int v19), (4, .int x13), (3, .int v8), (2, .int v20), (0, .ref (G.2.2 158)), (1, .int a0)] → W p l e (headSpec wsX8_measureFrom { frames := 2, cells := 0, slots := 0, locals := 44 }).room s m #[.ref (G.2.2 158), .int a0] below meth c H locs 0 0 (MQ below (Qv G s.heap.size out) #[.ref (G.2.2 158), .int a0] s 0 0 (AA G s.heap.size)) (F0 m 38 ls []) := by
            intro n
            induction n with
            | zero => intro v19 v20 σ21 H locs ls ho B hl; cases ho
            | succ n ih =>
              intro v19 v20 σ21 H locs ls ho B hl
              refine lv_iload hx hb dX8_measureFrom_38 (lv_at hl 0 rfl) ?_
              refine lv_bipush (v := 24) hx hb dX8_measureFrom_40 (by decide) ?_
              refine lv_icmp_ge (tgt := 137) hx hb dX8_measureFrom_42 (by decide) (fun c22 => ?_) (fun c22 => ?_)
              · have ho := ip_ c22 ho
                exact hexit38 _ _ _ _ _ _ ho B (lv_sub hl [0, 1, 2, 3, 4, 5] rfl)
              · have ho := in_ c22 ho
                refine lv_iload hx hb dX8_measureFrom_45 (lv_at hl 0 rfl) ?_
                refine lv_iload hx hb dX8_measureFrom_47 (lv_at hl 1 rfl) ?_
                obtain ⟨q23, hq23, ho⟩ := bnd_ ho
                refine k_iS (As := [.int v19, .int x13]) (rest := []) S F B (c_X4_cellAcross l G σ21 _ v19 x13 hq23) (va_cwS 2 hts gX8_measureFrom_X4_cellAcross rfl rfl rfl (by decide +kernel) ⟨Nat.le_of_ble_eq_true rfl, Nat.le_of_ble_eq_true rfl⟩) rfl hl.1 rfl (Nat.le_of_ble_eq_true rfl) dX8_measureFrom_49 ⟨Nat.le_of_ble_eq_true rfl, Nat.le_of_ble_eq_true rfl⟩ (fun H locs B => ?_)
                refine lv_istore (lv' := [(6, .int q23), (5, .int v19), (4, .int x13), (3, .int v8), (2, .int v20), (0, .ref (G.2.2 158)), (1, .int a0)]) hx hb dX8_measureFrom_52 hl (by decide) rfl (fun ls hl => ?_)
                refine lv_iload hx hb dX8_measureFrom_54 (lv_at hl 0 rfl) ?_
                obtain ⟨q24, hq24, ho⟩ := bnd_ ho
                refine k_iS (As := [.int q23]) (rest := []) S F B (c_X4_isCell l G σ21 _ q23 hq24) (va_cwS 1 hts gX8_measureFrom_X4_isCell rfl rfl rfl (by decide +kernel) ⟨Nat.le_of_ble_eq_true rfl, Nat.le_of_ble_eq_true rfl⟩) rfl hl.1 rfl (Nat.le_of_ble_eq_true rfl) dX8_measureFrom_56 ⟨Nat.le_of_ble_eq_true rfl, Nat.le_of_ble_eq_true rfl⟩ (fun H locs B => ?_)
                refine lv_if_eq (tgt := 91) hx hb dX8_measureFrom_59 (by decide) (fun c25 => ?_) (fun c25 => ?_)
                · have ho := ip_ c25 ho
                  refine lv_iconst (v := 0) hx hb dX8_measureFrom_91 (by decide) ?_
                  refine lv_istore (lv' := [(7, .int 0), (6, .int q23), (5, .int v19), (4, .int x13), (3, .int v8), (2, .int v20), (0, .ref (G.2.2 158)), (1, .int a0)]) hx hb dX8_measureFrom_92 hl (by decide) rfl (fun ls hl => ?_)
                  refine lv_iload hx hb dX8_measureFrom_94 (lv_at hl 0 rfl) ?_
                  refine lv_if_eq (tgt := 131) hx hb dX8_measureFrom_96 (by decide) (fun _ => ?_) (fun h => absurd h (by decide))
                  obtain ⟨x26, ex26, ho⟩ := lt_ ho
                  refine lv_iinc (v := x26) (lv' := [(5, .int x26), (7, .int 0), (6, .int q23), (4, .int x13), (3, .int v8), (2, .int v20), (0, .ref (G.2.2 158)), (1, .int a0)]) hx hb dX8_measureFrom_131 hl (k := 2) rfl (by rw [ex26]; rfl) (by decide) rfl (fun ls hl => ?_)
                  refine lv_goto (tgt := 38) hx hb dX8_measureFrom_134 (by decide) ?_
                  exact ih _ _ _ _ _ _ ho B (lv_sub hl [0, 3, 4, 5, 6, 7] rfl)
                · have ho := in_ c25 ho
                  refine lv_aload_n hx hb dX8_measureFrom_62 rfl (lv_at hl 5 rfl) ?_
                  refine r_get (ci := 12) (C := RX8) (T := TX8) (N := 3) S F B (kq (by decide) : kd 158 = 11 ∧ 158 < NN) rfl rfl hiX8 0 (by decide) (by decide +kernel) rfl dX8_measureFrom_63 ?_
                  refine lv_iload hx hb dX8_measureFrom_66 (lv_at hl 1 rfl) ?_
                  obtain ⟨q27, hq27, ho⟩ := bnd_ ho
                  refine k_iV (As := [.int v19]) (rest := []) S F B (c_X4_isOpen l G σ21 _ v19 hq27) (kq (by decide) : kd 1 = 1 ∧ 1 < NN) rfl rfl (cwV 1 hts gX8_measureFrom_X4_isOpen rfl rfl rfl (by decide +kernel) ⟨Nat.le_of_ble_eq_true rfl, Nat.le_of_ble_eq_true rfl⟩) rfl hl.1 rfl (Nat.le_of_ble_eq_true rfl) dX8_measureFrom_68 ⟨Nat.le_of_ble_eq_true rfl, Nat.le_of_ble_eq_true rfl⟩ (fun H locs B => ?_)
                  refine lv_if_eq (tgt := 91) hx hb dX8_measureFrom_71 (by decide) (fun c28 => ?_) (fun c28 => ?_)
                  · have ho := ip_ c28 ho
                    refine lv_iconst (v := 0) hx hb dX8_measureFrom_91 (by decide) ?_
                    refine lv_istore (lv' := [(7, .int 0), (6, .int q23), (5, .int v19), (4, .int x13), (3, .int v8), (2, .int v20), (0, .ref (G.2.2 158)), (1, .int a0)]) hx hb dX8_measureFrom_92 hl (by decide) rfl (fun ls hl => ?_)
                    refine lv_iload hx hb dX8_measureFrom_94 (lv_at hl 0 rfl) ?_
                    refine lv_if_eq (tgt := 131) hx hb dX8_measureFrom_96 (by decide) (fun _ => ?_) (fun h => absurd h (by decide))
                    obtain ⟨x29, ex29, ho⟩ := lt_ ho
                    refine lv_iinc (v := x29) (lv' := [(5, .int x29), (7, .int 0), (6, .int q23), (4, .int x13), (3, .int v8), (2, .int v20), (0, .ref (G.2.2 158)), (1, .int a0)]) hx hb dX8_measureFrom_131 hl (k := 2) rfl (by rw [ex29]; rfl) (by decide) rfl (fun ls hl => ?_)
                    refine lv_goto (tgt := 38) hx hb dX8_measureFrom_134 (by decide) ?_
                    exact ih _ _ _ _ _ _ ho B (lv_sub hl [0, 3, 4, 5, 6, 7] rfl)
                  · have ho := in_ c28 ho
                    refine lv_aload_n hx hb dX8_measureFrom_74 rfl (lv_at hl 5 rfl) ?_
                    refine r_get (ci := 12) (C := RX8) (T := TX8) (N := 3) S F B (kq (by decide) : kd 158 = 11 ∧ 158 < NN) rfl rfl hiX8 1 (by decide) (by decide +kernel) rfl dX8_measureFrom_75 ?_
                    refine lv_iload hx hb dX8_measureFrom_78 (lv_at hl 0 rfl) ?_
                    obtain ⟨hi, ho⟩ := gd_ ho
                    refine r_iald S F B (kq (by decide) : kd 159 = 12 ∧ 159 < NN) rfl hi dX8_measureFrom_80 ?_
                    refine lv_sipush (v := 1000) hx hb dX8_measureFrom_81 (by decide) ?_
                    refine lv_icmp_ne (tgt := 91) hx hb dX8_measureFrom_84 (by decide) (fun c30 => ?_) (fun c30 => ?_)
                    · have ho := in_ c30 ho
                      refine lv_iconst (v := 0) hx hb dX8_measureFrom_91 (by decide) ?_
                      refine lv_istore (lv' := [(7, .int 0), (6, .int q23), (5, .int v19), (4, .int x13), (3, .int v8), (2, .int v20), (0, .ref (G.2.2 158)), (1, .int a0)]) hx hb dX8_measureFrom_92 hl (by decide) rfl (fun ls hl => ?_)
                      refine lv_iload hx hb dX8_measureFrom_94 (lv_at hl 0 rfl) ?_
                      refine lv_if_eq (tgt := 131) hx hb dX8_measureFrom_96 (by decide) (fun _ => ?_) (fun h => absurd h (by decide))
                      obtain ⟨x31, ex31, ho⟩ := lt_ ho
                      refine lv_iinc (v := x31) (lv' := [(5, .int x31), (7, .int 0), (6, .int q23), (4, .int x13), (3, .int v8), (2, .int v20), (0, .ref (G.2.2 158)), (1, .int a0)]) hx hb dX8_measureFrom_131 hl (k := 2) rfl (by rw [ex31]; rfl) (by decide) rfl (fun ls hl => ?_)
                      refine lv_goto (tgt := 38) hx hb dX8_measureFrom_134 (by decide) ?_
                      exact ih _ _ _ _ _ _ ho B (lv_sub hl [0, 3, 4, 5, 6, 7] rfl)
                    · have ho := ip_ c30 ho
                      refine lv_iconst (v := 1) hx hb dX8_measureFrom_87 (by decide) ?_
                      refine lv_goto (tgt := 92) hx hb dX8_measureFrom_88 (by decide) ?_
                      refine lv_istore (lv' := [(7, .int 1), (6, .int q23), (5, .int v19), (4, .int x13), (3, .int v8), (2, .int v20), (0, .ref (G.2.2 158)), (1, .int a0)]) hx hb dX8_measureFrom_92 hl (by decide) rfl (fun ls hl => ?_)
                      refine lv_iload hx hb dX8_measureFrom_94 (lv_at hl 0 rfl) ?_
                      refine lv_if_eq (tgt := 131) hx hb dX8_measureFrom_96 (by decide) (fun h => absurd h (by decide)) (fun _ => ?_)
                      refine lv_iload_n hx hb dX8_measureFrom_99 rfl (lv_at hl 5 rfl) ?_
                      refine lv_bipush (v := 16) hx hb dX8_measureFrom_100 (by decide) ?_
                      refine lv_icmp_ge (tgt := 131) hx hb dX8_measureFrom_102 (by decide) (fun c32 => ?_) (fun c32 => ?_)
                      · have ho := ip_ c32 ho
                        obtain ⟨x33, ex33, ho⟩ := lt_ ho
                        refine lv_iinc (v := x33) (lv' := [(5, .int x33), (7, .int 1), (6, .int q23), (4, .int x13), (3, .int v8), (2, .int v20), (0, .ref (G.2.2 158)), (1, .int a0)]) hx hb dX8_measureFrom_131 hl (k := 2) rfl (by rw [ex33]; rfl) (by decide) rfl (fun ls hl => ?_)
                        refine lv_goto (tgt := 38) hx hb dX8_measureFrom_134 (by decide) ?_
                        exact ih _ _ _ _ _ _ ho B (lv_sub hl [0, 3, 4, 5, 6, 7] rfl)
                      · have ho := in_ c32 ho
                        refine lv_aload_n hx hb dX8_measureFrom_105 rfl (lv_at hl 6 rfl) ?_
                        refine r_get (ci := 12) (C := RX8) (T := TX8) (N := 3) S F B (kq (by decide) : kd 158 = 11 ∧ 158 < NN) rfl rfl hiX8 1 (by decide) (by decide +kernel) rfl dX8_measureFrom_106 ?_
                        refine lv_iload hx hb dX8_measureFrom_109 (lv_at hl 1 rfl) ?_
                        refine lv_aload_n hx hb dX8_measureFrom_111 rfl (lv_at hl 6 rfl) ?_
                        refine lv_iload hx hb dX8_measureFrom_112 (lv_at hl 3 rfl) ?_
                        obtain ⟨q34, hq34, ho⟩ := bnd_ ho
                        refine k_iV (As := [.int x13]) (rest := [.int q23, .ref (G.2.2 159)]) S F B (c_X8_distanceOf l G σ21 _ x13 hq34) (kq (by decide) : kd 158 = 11 ∧ 158 < NN) rfl rfl (cwV 1 hts gX8_measureFrom_X8_distanceOf rfl rfl rfl (by decide +kernel) ⟨Nat.le_of_ble_eq_true rfl, Nat.le_of_ble_eq_true rfl⟩) rfl hl.1 rfl (Nat.le_of_ble_eq_true rfl) dX8_measureFrom_114 ⟨Nat.le_of_ble_eq_true rfl, Nat.le_of_ble_eq_true rfl⟩ (fun H locs B => ?_)
                        refine lv_iconst (v := 1) hx hb dX8_measureFrom_117 (by decide) ?_
                        refine lv_iadd hx hb dX8_measureFrom_118 ?_
                        obtain ⟨hi, ho⟩ := gd_ ho
                        refine r_iast S F B (kq (by decide) : kd 159 = 12 ∧ 159 < NN) (fun _ => rfl) hi dX8_measureFrom_119 (fun H locs B => ?_)
                        obtain ⟨σ35, eσ35, ho⟩ := lt_ ho
                        rw [← eσ35] at B
                        refine lv_aload_n hx hb dX8_measureFrom_120 rfl (lv_at hl 6 rfl) ?_
                        refine r_get (ci := 12) (C := RX8) (T := TX8) (N := 3) S F B (kq (by decide) : kd 158 = 11 ∧ 158 < NN) rfl rfl hiX8 2 (by decide) (by decide +kernel) rfl dX8_measureFrom_121 ?_
                        refine lv_iload_n hx hb dX8_measureFrom_124 rfl (lv_at hl 5 rfl) ?_
                        refine lv_iload hx hb dX8_measureFrom_125 (lv_at hl 1 rfl) ?_
                        obtain ⟨hi, ho⟩ := gd_ ho
                        refine r_iast S F B (kq (by decide) : kd 160 = 12 ∧ 160 < NN) (fun _ => rfl) hi dX8_measureFrom_127 (fun H locs B => ?_)
                        obtain ⟨σ36, eσ36, ho⟩ := lt_ ho
                        rw [← eσ36] at B
                        obtain ⟨x37, ex37, ho⟩ := lt_ ho
                        refine lv_iinc (v := x37) (lv' := [(2, .int x37), (7, .int 1), (6, .int q23), (5, .int v19), (4, .int x13), (3, .int v8), (0, .ref (G.2.2 158)), (1, .int a0)]) hx hb dX8_measureFrom_128 hl (k := 5) rfl (by rw [ex37]; rfl) (by decide) rfl (fun ls hl => ?_)
                        obtain ⟨x38, ex38, ho⟩ := lt_ ho
                        refine lv_iinc (v := x38) (lv' := [(5, .int x38), (2, .int x37), (7, .int 1), (6, .int q23), (4, .int x13), (3, .int v8), (0, .ref (G.2.2 158)), (1, .int a0)]) hx hb dX8_measureFrom_131 hl (k := 3) rfl (by rw [ex38]; rfl) (by decide) rfl (fun ls hl => ?_)
                        refine lv_goto (tgt := 38) hx hb dX8_measureFrom_134 (by decide) ?_
                        exact ih _ _ _ _ _ _ ho B (lv_sub hl [0, 4, 5, 1, 6, 7] rfl)
          exact hloop38 30 _ _ _ _ _ _ ho B hl
  exact hloop16 30 _ _ _ _ _ _ ho B hl

set_option maxHeartbeats 4000000 in
set_option maxRecDepth 100000 in
theorem c_X8_hoursByDistance (l : Launch) (G : Gd) (σ : Mm) (sz : Nat) (a0 : Int32) (a1 : Int32) {out : Int32 × Mm} (ho : f_X8_hoursByDistance a0 a1 σ = some out) : Met l yX8_hoursByDistance wsX8_hoursByDistance { frames := 3, cells := 0, slots := 0, locals := 71 } (va_Pc [.ref (G.2.2 158), .int a0, .int a1] (PW G σ sz)) (Qi G sz out.1 out.2) 0 0 (AA G sz) := by
  refine Met.ofW (cc := cX8_hoursByDistance) (maxL := 3) (ret := (some .int)) (by decide) rfl ?_
  intro p e s m args below meth c s₁ B0 hml hv
  obtain ⟨rfl, hpw⟩ := hv
  have hsz := hpw.1
  subst hsz
  obtain ⟨F, B⟩ := hpw.to
  have hx := B0.exec
  have hb := B0.bytes
  have hr := B0.returns
  have hts := atoms_spec (ws := wsX8_hoursByDistance) B0.pre
  have hown : s.vm.findClass RX8 = some m.cls := findClass_of_methodNamed B0.named
  have hlocks := B0.notSynchronized
  have S : CallFix p m c cX8_hoursByDistance 3 s _ wsX8_hoursByDistance RX8 := ⟨hx, hb, hml, hown, hts⟩
  have hl := lv_entry [.ref (G.2.2 158), .int a0, .int a1] (n := 3) (Nat.le_of_ble_eq_true rfl)
  rw [lg_entry_eq]
  generalize (lg_sl [.ref (G.2.2 158), .int a0, .int a1] ++ List.replicate (3 - (lg_sl [.ref (G.2.2 158), .int a0, .int a1]).length) Slot.unset).toArray = ls at hl ⊢
  have hl : lv_has ls 3 [(0, .ref (G.2.2 158)), (1, .int a0), (2, .int a1)] := hl
  unfold f_X8_hoursByDistance at ho
  refine lv_aload_n hx hb dX8_hoursByDistance_0 rfl (lv_at hl 0 rfl) ?_
  refine lv_iload_n hx hb dX8_hoursByDistance_1 rfl (lv_at hl 1 rfl) ?_
  obtain ⟨σ2, hq1, ho⟩ := bnd_ ho
  refine k_vV (As := [.int a0]) (rest := []) S F B (c_X8_measureFrom l G σ _ a0 hq1) (kq (by decide) : kd 158 = 11 ∧ 158 < NN) rfl rfl (cwV 1 hts gX8_hoursByDistance_X8_measureFrom rfl rfl rfl (by decide +kernel) ⟨Nat.le_of_ble_eq_true rfl, Nat.le_of_ble_eq_true rfl⟩) rfl hl.1 rfl (Nat.le_of_ble_eq_true rfl) dX8_hoursByDistance_2 ⟨Nat.le_of_ble_eq_true rfl, Nat.le_of_ble_eq_true rfl⟩ (fun H locs B => ?_)
  refine lv_aload_n hx hb dX8_hoursByDistance_5 rfl (lv_at hl 0 rfl) ?_
  refine lv_iload_n hx hb dX8_hoursByDistance_6 rfl (lv_at hl 2 rfl) ?_
  obtain ⟨q3, hq3, ho⟩ := bnd_ ho
  refine k_iV (As := [.int a1]) (rest := []) S F B (c_X8_distanceOf l G σ2 _ a1 hq3) (kq (by decide) : kd 158 = 11 ∧ 158 < NN) rfl rfl (cwV 1 hts gX8_hoursByDistance_X8_distanceOf rfl rfl rfl (by decide +kernel) ⟨Nat.le_of_ble_eq_true rfl, Nat.le_of_ble_eq_true rfl⟩) rfl hl.1 rfl (Nat.le_of_ble_eq_true rfl) dX8_hoursByDistance_7 ⟨Nat.le_of_ble_eq_true rfl, Nat.le_of_ble_eq_true rfl⟩ (fun H locs B => ?_)
  cases ho
  exact e_i B hx hb hr hlocks rfl rfl dX8_hoursByDistance_10

set_option maxHeartbeats 4000000 in
set_option maxRecDepth 100000 in
theorem c_X8_lower (l : Launch) (G : Gd) (σ : Mm) (sz : Nat) (a0 : Int32) (a1 : Int32) (a2 : Int32) {out : Int32 × Mm} (ho : f_X8_lower a0 a1 a2 σ = some out) : Met l yX8_lower wsX8_lower { frames := 2, cells := 0, slots := 0, locals := 41 } (va_Pc [.ref (G.2.2 158), .int a0, .int a1, .int a2] (PW G σ sz)) (Qi G sz out.1 out.2) 0 0 (AA G sz) := by
  refine Met.ofW (cc := cX8_lower) (maxL := 5) (ret := (some .boolean)) (by decide) rfl ?_
  intro p e s m args below meth c s₁ B0 hml hv
  obtain ⟨rfl, hpw⟩ := hv
  have hsz := hpw.1
  subst hsz
  obtain ⟨F, B⟩ := hpw.to
  have hx := B0.exec
  have hb := B0.bytes
  have hr := B0.returns
  have hts := atoms_spec (ws := wsX8_lower) B0.pre
  have hown : s.vm.findClass RX8 = some m.cls := findClass_of_methodNamed B0.named
  have hlocks := B0.notSynchronized
  have S : CallFix p m c cX8_lower 5 s _ wsX8_lower RX8 := ⟨hx, hb, hml, hown, hts⟩
  have hiX8 : ∀ w ∈ u_ws RX8 TX8 3, w ∈ wsX8_lower := by decide +kernel
  have hl := lv_entry [.ref (G.2.2 158), .int a0, .int a1, .int a2] (n := 5) (Nat.le_of_ble_eq_true rfl)
  rw [lg_entry_eq]
  generalize (lg_sl [.ref (G.2.2 158), .int a0, .int a1, .int a2] ++ List.replicate (5 - (lg_sl [.ref (G.2.2 158), .int a0, .int a1, .int a2]).length) Slot.unset).toArray = ls at hl ⊢
  have hl : lv_has ls 5 [(0, .ref (G.2.2 158)), (1, .int a0), (2, .int a1), (3, .int a2)] := hl
  unfold f_X8_lower at ho
  refine lv_aload_n hx hb dX8_lower_0 rfl (lv_at hl 0 rfl) ?_
  refine lv_iload_n hx hb dX8_lower_1 rfl (lv_at hl 2 rfl) ?_
  obtain ⟨q1, hq1, ho⟩ := bnd_ ho
  refine k_iV (As := [.int a1]) (rest := []) S F B (c_X8_distanceOf l G σ _ a1 hq1) (kq (by decide) : kd 158 = 11 ∧ 158 < NN) rfl rfl (cwV 1 hts gX8_lower_X8_distanceOf rfl rfl rfl (by decide +kernel) ⟨Nat.le_of_ble_eq_true rfl, Nat.le_of_ble_eq_true rfl⟩) rfl hl.1 rfl (Nat.le_of_ble_eq_true rfl) dX8_lower_2 ⟨Nat.le_of_ble_eq_true rfl, Nat.le_of_ble_eq_true rfl⟩ (fun H locs B => ?_)
  refine lv_iload_n hx hb dX8_lower_5 rfl (lv_at hl 3 rfl) ?_
  refine lv_iadd hx hb dX8_lower_6 ?_
  obtain ⟨x2, ex2, ho⟩ := lt_ ho
  refine lv_nm ex2 ?_
  refine lv_istore (lv' := [(4, .int x2), (0, .ref (G.2.2 158)), (1, .int a0), (2, .int a1), (3, .int a2)]) hx hb dX8_lower_7 hl (by decide) rfl (fun ls hl => ?_)
  refine lv_iload_n hx hb dX8_lower_9 rfl (lv_at hl 2 rfl) ?_
  obtain ⟨q3, hq3, ho⟩ := bnd_ ho
  refine k_iS (As := [.int a0]) (rest := []) S F B (c_X4_isCell l G σ _ a0 hq3) (va_cwS 1 hts gX8_lower_X4_isCell rfl rfl rfl (by decide +kernel) ⟨Nat.le_of_ble_eq_true rfl, Nat.le_of_ble_eq_true rfl⟩) rfl hl.1 rfl (Nat.le_of_ble_eq_true rfl) dX8_lower_10 ⟨Nat.le_of_ble_eq_true rfl, Nat.le_of_ble_eq_true rfl⟩ (fun H locs B => ?_)
  refine lv_if_eq (tgt := 27) hx hb dX8_lower_13 (by decide) (fun c4 => ?_) (fun c4 => ?_)
  · have ho := ip_ c4 ho
    refine lv_iconst (v := 0) hx hb dX8_lower_27 (by decide) ?_
    cases ho
    exact e_i B hx hb hr hlocks rfl rfl dX8_lower_28
  · have ho := in_ c4 ho
    refine lv_iload hx hb dX8_lower_16 (lv_at hl 0 rfl) ?_
    refine lv_aload_n hx hb dX8_lower_18 rfl (lv_at hl 1 rfl) ?_
    refine r_get (ci := 12) (C := RX8) (T := TX8) (N := 3) S F B (kq (by decide) : kd 158 = 11 ∧ 158 < NN) rfl rfl hiX8 1 (by decide) (by decide +kernel) rfl dX8_lower_19 ?_
    refine lv_iload_n hx hb dX8_lower_22 rfl (lv_at hl 2 rfl) ?_
    obtain ⟨hi, ho⟩ := gd_ ho
    refine r_iald S F B (kq (by decide) : kd 159 = 12 ∧ 159 < NN) rfl hi dX8_lower_23 ?_
    refine lv_icmp_lt (tgt := 29) hx hb dX8_lower_24 (by decide) (fun c5 => ?_) (fun c5 => ?_)
    · have ho := ip_ c5 ho
      refine lv_aload_n hx hb dX8_lower_29 rfl (lv_at hl 1 rfl) ?_
      refine r_get (ci := 12) (C := RX8) (T := TX8) (N := 3) S F B (kq (by decide) : kd 158 = 11 ∧ 158 < NN) rfl rfl hiX8 1 (by decide) (by decide +kernel) rfl dX8_lower_30 ?_
      refine lv_iload_n hx hb dX8_lower_33 rfl (lv_at hl 2 rfl) ?_
      refine lv_iload hx hb dX8_lower_34 (lv_at hl 0 rfl) ?_
      obtain ⟨hi, ho⟩ := gd_ ho
      refine r_iast S F B (kq (by decide) : kd 159 = 12 ∧ 159 < NN) (fun _ => rfl) hi dX8_lower_36 (fun H locs B => ?_)
      obtain ⟨σ6, eσ6, ho⟩ := lt_ ho
      rw [← eσ6] at B
      refine lv_iconst (v := 1) hx hb dX8_lower_37 (by decide) ?_
      cases ho
      exact e_i B hx hb hr hlocks rfl rfl dX8_lower_38
    · have ho := in_ c5 ho
      refine lv_iconst (v := 0) hx hb dX8_lower_27 (by decide) ?_
      cases ho
      exact e_i B hx hb hr hlocks rfl rfl dX8_lower_28

set_option maxHeartbeats 4000000 in
set_option maxRecDepth 100000 in
theorem c_X8_relaxFrom (l : Launch) (G : Gd) (σ : Mm) (sz : Nat) (a0 : Int32) (a1 : Int32) (a2 : Int32) {out : Mm} (ho : f_X8_relaxFrom a0 a1 a2 σ = some out) : Met l yX8_relaxFrom wsX8_relaxFrom { frames := 3, cells := 0, slots := 0, locals := 65 } (va_Pc [.ref (G.2.2 158), .int a0, .int a1, .int a2] (PW G σ sz)) (Qv G sz out) 0 0 (AA G sz) := by
  refine Met.ofW (cc := cX8_relaxFrom) (maxL := 10) (ret := none) (by decide) rfl ?_
  intro p e s m args below meth c s₁ B0 hml hv
  obtain ⟨rfl, hpw⟩ := hv
  have hsz := hpw.1
  subst hsz
  obtain ⟨F, B⟩ := hpw.to
  have hx := B0.exec
  have hb := B0.bytes
  have hr := B0.returns
  have hts := atoms_spec (ws := wsX8_relaxFrom) B0.pre
  have hown : s.vm.findClass RX8 = some m.cls := findClass_of_methodNamed B0.named
  have hlocks := B0.notSynchronized
  have S : CallFix p m c cX8_relaxFrom 10 s _ wsX8_relaxFrom RX8 := ⟨hx, hb, hml, hown, hts⟩
  have hiX8 : ∀ w ∈ u_ws RX8 TX8 3, w ∈ wsX8_relaxFrom := by decide +kernel
  have hl := lv_entry [.ref (G.2.2 158), .int a0, .int a1, .int a2] (n := 10) (Nat.le_of_ble_eq_true rfl)
  rw [lg_entry_eq]
  generalize (lg_sl [.ref (G.2.2 158), .int a0, .int a1, .int a2] ++ List.replicate (10 - (lg_sl [.ref (G.2.2 158), .int a0, .int a1, .int a2]).length) Slot.unset).toArray = ls at hl ⊢
  have hl : lv_has ls 10 [(0, .ref (G.2.2 158)), (1, .int a0), (2, .int a1), (3, .int a2)] := hl
  unfold f_X8_relaxFrom at ho
  skip
  refine lv_aload_n hx hb dX8_relaxFrom_0 rfl (lv_at hl 0 rfl) ?_
  refine lv_iload_n hx hb dX8_relaxFrom_1 rfl (lv_at hl 1 rfl) ?_
  obtain ⟨σ2, hq1, ho⟩ := bnd_ ho
  refine k_vV (As := [.int a0]) (rest := []) S F B (c_X8_startFrom l G σ _ a0 hq1) (kq (by decide) : kd 158 = 11 ∧ 158 < NN) rfl rfl (cwV 1 hts gX8_relaxFrom_X8_startFrom rfl rfl rfl (by decide +kernel) ⟨Nat.le_of_ble_eq_true rfl, Nat.le_of_ble_eq_true rfl⟩) rfl hl.1 rfl (Nat.le_of_ble_eq_true rfl) dX8_relaxFrom_2 ⟨Nat.le_of_ble_eq_true rfl, Nat.le_of_ble_eq_true rfl⟩ (fun H locs B => ?_)
  refine lv_iconst (v := 1) hx hb dX8_relaxFrom_5 (by decide) ?_
  refine lv_istore (lv' := [(4, .int 1), (0, .ref (G.2.2 158)), (1, .int a0), (2, .int a1), (3, .int a2)]) hx hb dX8_relaxFrom_6 hl (by decide) rfl (fun ls hl => ?_)
  refine lv_iconst (v := 0) hx hb dX8_relaxFrom_8 (by decide) ?_
  refine lv_istore (lv' := [(5, .int 0), (4, .int 1), (0, .ref (G.2.2 158)), (1, .int a0), (2, .int a1), (3, .int a2)]) hx hb dX8_relaxFrom_9 hl (by decide) rfl (fun ls hl => ?_)
  have hloop11 : ∀ (n : Nat) (v7 : Int32) (v8 : Int32) (σ9 : Mm) (H : Heap) (locs : List Loc) (ls : Array Slot), f_X8_relaxFrom_l11  a0 a1 a2 n v7 v8 σ9 = some out → Bd G σ9 s H locs → lv_has ls 10 [(5, .int v7), (4, .int v8), (0, .ref (G.2.2 158)), (1, .int a0), (2, .int a1), (3, .int a2)] → W p l e (headSpec wsX8_relaxFrom { frames := 3, cells := 0, slots := 0, locals := 65 }).room s m #[.ref (G.2.2 158), .int a0, .int a1, .int a2] below meth c H locs 0 0 (MQ below (Qv G s.heap.size out) #[.ref (G.2.2 158), .int a0, .int a1, .int a2] s 0 0 (AA G s.heap.size)) (F0 m 11 ls []) := by
    intro n
    induction n with
    | zero => intro v7 v8 σ9 H locs ls ho B hl; cases ho
    | succ n ih =>
      intro v7 v8 σ9 H locs ls ho B hl
      refine lv_iload hx hb dX8_relaxFrom_11 (lv_at hl 0 rfl) ?_
      refine lv_bipush (v := 16) hx hb dX8_relaxFrom_13 (by decide) ?_
      refine lv_icmp_ge (tgt := 129) hx hb dX8_relaxFrom_15 (by decide) (fun c10 => ?_) (fun c10 => ?_)
      · have ho := ip_ c10 ho
        cases ho
        exact e_v B hx hb hr hlocks dX8_relaxFrom_129
      · have ho := in_ c10 ho
        refine lv_iload hx hb dX8_relaxFrom_18 (lv_at hl 1 rfl) ?_
        refine lv_if_eq (tgt := 129) hx hb dX8_relaxFrom_20 (by decide) (fun c11 => ?_) (fun c11 => ?_)
        · have ho := ip_ c11 ho
          cases ho
          exact e_v B hx hb hr hlocks dX8_relaxFrom_129
        · have ho := in_ c11 ho
          refine lv_iconst (v := 0) hx hb dX8_relaxFrom_23 (by decide) ?_
          refine lv_istore (lv' := [(4, .int 0), (5, .int v7), (0, .ref (G.2.2 158)), (1, .int a0), (2, .int a1), (3, .int a2)]) hx hb dX8_relaxFrom_24 hl (by decide) rfl (fun ls hl => ?_)
          refine lv_iconst (v := 0) hx hb dX8_relaxFrom_26 (by decide) ?_
          refine lv_istore (lv' := [(6, .int 0), (4, .int 0), (5, .int v7), (0, .ref (G.2.2 158)), (1, .int a0), (2, .int a1), (3, .int a2)]) hx hb dX8_relaxFrom_27 hl (by decide) rfl (fun ls hl => ?_)
          obtain ⟨K, hK, ho⟩ := lt_ ho
          have hexit29 : ∀ (v12 : Int32) (v13 : Int32) (σ14 : Mm) (H : Heap) (locs : List Loc) (ls : Array Slot), K v12 v13 σ14 = some out → Bd G σ14 s H locs → lv_has ls 10 [(6, .int v12), (4, .int v13), (5, .int v7), (0, .ref (G.2.2 158)), (1, .int a0), (2, .int a1), (3, .int a2)] → W p l e (headSpec wsX8_relaxFrom { frames := 3, cells := 0, slots := 0, locals := 65 }).room s m #[.ref (G.2.2 158), .int a0, .int a1, .int a2] below meth c H locs 0 0 (MQ below (Qv G s.heap.size out) #[.ref (G.2.2 158), .int a0, .int a1, .int a2] s 0 0 (AA G s.heap.size)) (F0 m 123 ls []) := by
            intro v12 v13 σ14 H locs ls ho B hl
            subst hK
            obtain ⟨x16, ex16, ho⟩ := lt_ ho
            refine lv_iinc (v := x16) (lv' := [(5, .int x16), (6, .int v12), (4, .int v13), (0, .ref (G.2.2 158)), (1, .int a0), (2, .int a1), (3, .int a2)]) hx hb dX8_relaxFrom_123 hl (k := 2) rfl (by rw [ex16]; rfl) (by decide) rfl (fun ls hl => ?_)
            refine lv_goto (tgt := 11) hx hb dX8_relaxFrom_126 (by decide) ?_
            exact ih _ _ _ _ _ _ ho B (lv_sub hl [0, 2, 3, 4, 5, 6] rfl)
          have hloop29 : ∀ (n : Nat) (v17 : Int32) (v18 : Int32) (σ19 : Mm) (H : Heap) (locs : List Loc) (ls : Array Slot), f_X8_relaxFrom_l29 K v7 a0 a1 a2 n v17 v18 σ19 = some out → Bd G σ19 s H locs → lv_has ls 10 [(6, .int v17), (4, .int v18), (5, .int v7), (0, .ref (G.2.2 158)), (1, .int a0), (2, .int a1), (3, .int a2)] → W p l e (headSpec wsX8_relaxFrom { frames := 3, cells := 0, slots := 0, locals := 65 }).room s m #[.ref (G.2.2 158), .int a0, .int a1, .int a2] below meth c H locs 0 0 (MQ below (Qv G s.heap.size out) #[.ref (G.2.2 158), .int a0, .int a1, .int a2] s 0 0 (AA G s.heap.size)) (F0 m 29 ls []) := by
            intro n
            induction n with
            | zero => intro v17 v18 σ19 H locs ls ho B hl; cases ho
            | succ n ih =>
              intro v17 v18 σ19 H locs ls ho B hl
              refine lv_iload hx hb dX8_relaxFrom_29 (lv_at hl 0 rfl) ?_
              refine lv_bipush (v := 24) hx hb dX8_relaxFrom_31 (by decide) ?_
              refine lv_icmp_ge (tgt := 123) hx hb dX8_relaxFrom_33 (by decide) (fun c20 => ?_) (fun c20 => ?_)
              · have ho := ip_ c20 ho
                exact hexit29 _ _ _ _ _ _ ho B (lv_sub hl [0, 1, 2, 3, 4, 5, 6] rfl)
              · have ho := in_ c20 ho
                refine lv_aload_n hx hb dX8_relaxFrom_36 rfl (lv_at hl 3 rfl) ?_
                refine r_get (ci := 12) (C := RX8) (T := TX8) (N := 3) S F B (kq (by decide) : kd 158 = 11 ∧ 158 < NN) rfl rfl hiX8 0 (by decide) (by decide +kernel) rfl dX8_relaxFrom_37 ?_
                refine lv_iload hx hb dX8_relaxFrom_40 (lv_at hl 0 rfl) ?_
                obtain ⟨q21, hq21, ho⟩ := bnd_ ho
                refine k_iV (As := [.int v17]) (rest := []) S F B (c_X4_isOpen l G σ19 _ v17 hq21) (kq (by decide) : kd 1 = 1 ∧ 1 < NN) rfl rfl (cwV 1 hts gX8_relaxFrom_X4_isOpen rfl rfl rfl (by decide +kernel) ⟨Nat.le_of_ble_eq_true rfl, Nat.le_of_ble_eq_true rfl⟩) rfl hl.1 rfl (Nat.le_of_ble_eq_true rfl) dX8_relaxFrom_42 ⟨Nat.le_of_ble_eq_true rfl, Nat.le_of_ble_eq_true rfl⟩ (fun H locs B => ?_)
                refine lv_if_eq (tgt := 52) hx hb dX8_relaxFrom_45 (by decide) (fun c22 => ?_) (fun c22 => ?_)
                · have ho := ip_ c22 ho
                  refine lv_iload_n hx hb dX8_relaxFrom_52 rfl (lv_at hl 6 rfl) ?_
                  refine lv_istore (lv' := [(7, .int a2), (6, .int v17), (4, .int v18), (5, .int v7), (0, .ref (G.2.2 158)), (1, .int a0), (2, .int a1), (3, .int a2)]) hx hb dX8_relaxFrom_53 hl (by decide) rfl (fun ls hl => ?_)
                  refine lv_aload_n hx hb dX8_relaxFrom_55 rfl (lv_at hl 4 rfl) ?_
                  refine r_getsN S F B F.upp.1 (by decide) dX8_relaxFrom_56 ?_
                  refine lv_iload hx hb dX8_relaxFrom_59 (lv_at hl 1 rfl) ?_
                  obtain ⟨hi, ho⟩ := gd_ ho
                  refine r_ti S B F.upp.2 hi dX8_relaxFrom_61 ?_
                  refine r_getsN S F B F.low.1 (by decide) dX8_relaxFrom_62 ?_
                  refine lv_iload hx hb dX8_relaxFrom_65 (lv_at hl 1 rfl) ?_
                  obtain ⟨hi, ho⟩ := gd_ ho
                  refine r_ti S B F.low.2 hi dX8_relaxFrom_67 ?_
                  refine lv_iload hx hb dX8_relaxFrom_68 (lv_at hl 0 rfl) ?_
                  obtain ⟨q23, σ24, hq23, ho⟩ := bnm_ ho
                  refine k_iV (As := [.int (uppC v17.toNatClampNeg), .int (lowC v17.toNatClampNeg), .int a2]) (rest := []) S F B (c_X8_lower l G σ19 _ (uppC v17.toNatClampNeg) (lowC v17.toNatClampNeg) a2 hq23) (kq (by decide) : kd 158 = 11 ∧ 158 < NN) rfl rfl (cwV 3 hts gX8_relaxFrom_X8_lower rfl rfl rfl (by decide +kernel) ⟨Nat.le_of_ble_eq_true rfl, Nat.le_of_ble_eq_true rfl⟩) rfl hl.1 rfl (Nat.le_of_ble_eq_true rfl) dX8_relaxFrom_70 ⟨Nat.le_of_ble_eq_true rfl, Nat.le_of_ble_eq_true rfl⟩ (fun H locs B => ?_)
                  refine lv_istore (lv' := [(8, .int q23), (7, .int a2), (6, .int v17), (4, .int v18), (5, .int v7), (0, .ref (G.2.2 158)), (1, .int a0), (2, .int a1), (3, .int a2)]) hx hb dX8_relaxFrom_73 hl (by decide) rfl (fun ls hl => ?_)
                  refine lv_aload_n hx hb dX8_relaxFrom_75 rfl (lv_at hl 5 rfl) ?_
                  refine r_getsN S F B F.low.1 (by decide) dX8_relaxFrom_76 ?_
                  refine lv_iload hx hb dX8_relaxFrom_79 (lv_at hl 2 rfl) ?_
                  obtain ⟨hi, ho⟩ := gd_ ho
                  refine r_ti S B F.low.2 hi dX8_relaxFrom_81 ?_
                  refine r_getsN S F B F.upp.1 (by decide) dX8_relaxFrom_82 ?_
                  refine lv_iload hx hb dX8_relaxFrom_85 (lv_at hl 2 rfl) ?_
                  obtain ⟨hi, ho⟩ := gd_ ho
                  refine r_ti S B F.upp.2 hi dX8_relaxFrom_87 ?_
                  refine lv_iload hx hb dX8_relaxFrom_88 (lv_at hl 1 rfl) ?_
                  obtain ⟨q25, σ26, hq25, ho⟩ := bnm_ ho
                  refine k_iV (As := [.int (lowC v17.toNatClampNeg), .int (uppC v17.toNatClampNeg), .int a2]) (rest := []) S F B (c_X8_lower l G σ24 _ (lowC v17.toNatClampNeg) (uppC v17.toNatClampNeg) a2 hq25) (kq (by decide) : kd 158 = 11 ∧ 158 < NN) rfl rfl (cwV 3 hts gX8_relaxFrom_X8_lower rfl rfl rfl (by decide +kernel) ⟨Nat.le_of_ble_eq_true rfl, Nat.le_of_ble_eq_true rfl⟩) rfl hl.1 rfl (Nat.le_of_ble_eq_true rfl) dX8_relaxFrom_90 ⟨Nat.le_of_ble_eq_true rfl, Nat.le_of_ble_eq_true rfl⟩ (fun H locs B => ?_)
                  refine lv_istore (lv' := [(9, .int q25), (8, .int q23), (7, .int a2), (6, .int v17), (4, .int v18), (5, .int v7), (0, .ref (G.2.2 158)), (1, .int a0), (2, .int a1), (3, .int a2)]) hx hb dX8_relaxFrom_93 hl (by decide) rfl (fun ls hl => ?_)
                  refine lv_iload hx hb dX8_relaxFrom_95 (lv_at hl 4 rfl) ?_
                  refine lv_if_ne (tgt := 110) hx hb dX8_relaxFrom_97 (by decide) (fun c27 => ?_) (fun c27 => ?_)
                  · have ho := in_ c27 ho
                    refine lv_iconst (v := 1) hx hb dX8_relaxFrom_110 (by decide) ?_
                    refine lv_goto (tgt := 115) hx hb dX8_relaxFrom_111 (by decide) ?_
                    refine lv_istore (lv' := [(4, .int 1), (9, .int q25), (8, .int q23), (7, .int a2), (6, .int v17), (5, .int v7), (0, .ref (G.2.2 158)), (1, .int a0), (2, .int a1), (3, .int a2)]) hx hb dX8_relaxFrom_115 hl (by decide) rfl (fun ls hl => ?_)
                    obtain ⟨x28, ex28, ho⟩ := lt_ ho
                    refine lv_iinc (v := x28) (lv' := [(6, .int x28), (4, .int 1), (9, .int q25), (8, .int q23), (7, .int a2), (5, .int v7), (0, .ref (G.2.2 158)), (1, .int a0), (2, .int a1), (3, .int a2)]) hx hb dX8_relaxFrom_117 hl (k := 4) rfl (by rw [ex28]; rfl) (by decide) rfl (fun ls hl => ?_)
                    refine lv_goto (tgt := 29) hx hb dX8_relaxFrom_120 (by decide) ?_
                    exact ih _ _ _ _ _ _ ho B (lv_sub hl [0, 1, 5, 6, 7, 8, 9] rfl)
                  · have ho := ip_ c27 ho
                    refine lv_iload hx hb dX8_relaxFrom_100 (lv_at hl 1 rfl) ?_
                    refine lv_if_ne (tgt := 110) hx hb dX8_relaxFrom_102 (by decide) (fun c29 => ?_) (fun c29 => ?_)
                    · have ho := in_ c29 ho
                      refine lv_iconst (v := 1) hx hb dX8_relaxFrom_110 (by decide) ?_
                      refine lv_goto (tgt := 115) hx hb dX8_relaxFrom_111 (by decide) ?_
                      refine lv_istore (lv' := [(4, .int 1), (9, .int q25), (8, .int q23), (7, .int a2), (6, .int v17), (5, .int v7), (0, .ref (G.2.2 158)), (1, .int a0), (2, .int a1), (3, .int a2)]) hx hb dX8_relaxFrom_115 hl (by decide) rfl (fun ls hl => ?_)
                      obtain ⟨x30, ex30, ho⟩ := lt_ ho
                      refine lv_iinc (v := x30) (lv' := [(6, .int x30), (4, .int 1), (9, .int q25), (8, .int q23), (7, .int a2), (5, .int v7), (0, .ref (G.2.2 158)), (1, .int a0), (2, .int a1), (3, .int a2)]) hx hb dX8_relaxFrom_117 hl (k := 4) rfl (by rw [ex30]; rfl) (by decide) rfl (fun ls hl => ?_)
                      refine lv_goto (tgt := 29) hx hb dX8_relaxFrom_120 (by decide) ?_
                      exact ih _ _ _ _ _ _ ho B (lv_sub hl [0, 1, 5, 6, 7, 8, 9] rfl)
                    · have ho := ip_ c29 ho
                      refine lv_iload hx hb dX8_relaxFrom_105 (lv_at hl 0 rfl) ?_
                      refine lv_if_eq (tgt := 114) hx hb dX8_relaxFrom_107 (by decide) (fun c31 => ?_) (fun c31 => ?_)
                      · have ho := ip_ c31 ho
                        refine lv_iconst (v := 0) hx hb dX8_relaxFrom_114 (by decide) ?_
                        refine lv_istore (lv' := [(4, .int 0), (9, .int q25), (8, .int q23), (7, .int a2), (6, .int v17), (5, .int v7), (0, .ref (G.2.2 158)), (1, .int a0), (2, .int a1), (3, .int a2)]) hx hb dX8_relaxFrom_115 hl (by decide) rfl (fun ls hl => ?_)
                        obtain ⟨x32, ex32, ho⟩ := lt_ ho
                        refine lv_iinc (v := x32) (lv' := [(6, .int x32), (4, .int 0), (9, .int q25), (8, .int q23), (7, .int a2), (5, .int v7), (0, .ref (G.2.2 158)), (1, .int a0), (2, .int a1), (3, .int a2)]) hx hb dX8_relaxFrom_117 hl (k := 4) rfl (by rw [ex32]; rfl) (by decide) rfl (fun ls hl => ?_)
                        refine lv_goto (tgt := 29) hx hb dX8_relaxFrom_120 (by decide) ?_
                        exact ih _ _ _ _ _ _ ho B (lv_sub hl [0, 1, 5, 6, 7, 8, 9] rfl)
                      · have ho := in_ c31 ho
                        refine lv_iconst (v := 1) hx hb dX8_relaxFrom_110 (by decide) ?_
                        refine lv_goto (tgt := 115) hx hb dX8_relaxFrom_111 (by decide) ?_
                        refine lv_istore (lv' := [(4, .int 1), (9, .int q25), (8, .int q23), (7, .int a2), (6, .int v17), (5, .int v7), (0, .ref (G.2.2 158)), (1, .int a0), (2, .int a1), (3, .int a2)]) hx hb dX8_relaxFrom_115 hl (by decide) rfl (fun ls hl => ?_)
                        obtain ⟨x33, ex33, ho⟩ := lt_ ho
                        refine lv_iinc (v := x33) (lv' := [(6, .int x33), (4, .int 1), (9, .int q25), (8, .int q23), (7, .int a2), (5, .int v7), (0, .ref (G.2.2 158)), (1, .int a0), (2, .int a1), (3, .int a2)]) hx hb dX8_relaxFrom_117 hl (k := 4) rfl (by rw [ex33]; rfl) (by decide) rfl (fun ls hl => ?_)
                        refine lv_goto (tgt := 29) hx hb dX8_relaxFrom_120 (by decide) ?_
                        exact ih _ _ _ _ _ _ ho B (lv_sub hl [0, 1, 5, 6, 7, 8, 9] rfl)
                · have ho := in_ c22 ho
                  refine lv_iload_n hx hb dX8_relaxFrom_48 rfl (lv_at hl 5 rfl) ?_
                  refine lv_goto (tgt := 53) hx hb dX8_relaxFrom_49 (by decide) ?_
                  refine lv_istore (lv' := [(7, .int a1), (6, .int v17), (4, .int v18), (5, .int v7), (0, .ref (G.2.2 158)), (1, .int a0), (2, .int a1), (3, .int a2)]) hx hb dX8_relaxFrom_53 hl (by decide) rfl (fun ls hl => ?_)
                  refine lv_aload_n hx hb dX8_relaxFrom_55 rfl (lv_at hl 4 rfl) ?_
                  refine r_getsN S F B F.upp.1 (by decide) dX8_relaxFrom_56 ?_
                  refine lv_iload hx hb dX8_relaxFrom_59 (lv_at hl 1 rfl) ?_
                  obtain ⟨hi, ho⟩ := gd_ ho
                  refine r_ti S B F.upp.2 hi dX8_relaxFrom_61 ?_
                  refine r_getsN S F B F.low.1 (by decide) dX8_relaxFrom_62 ?_
                  refine lv_iload hx hb dX8_relaxFrom_65 (lv_at hl 1 rfl) ?_
                  obtain ⟨hi, ho⟩ := gd_ ho
                  refine r_ti S B F.low.2 hi dX8_relaxFrom_67 ?_
                  refine lv_iload hx hb dX8_relaxFrom_68 (lv_at hl 0 rfl) ?_
                  obtain ⟨q34, σ35, hq34, ho⟩ := bnm_ ho
                  refine k_iV (As := [.int (uppC v17.toNatClampNeg), .int (lowC v17.toNatClampNeg), .int a1]) (rest := []) S F B (c_X8_lower l G σ19 _ (uppC v17.toNatClampNeg) (lowC v17.toNatClampNeg) a1 hq34) (kq (by decide) : kd 158 = 11 ∧ 158 < NN) rfl rfl (cwV 3 hts gX8_relaxFrom_X8_lower rfl rfl rfl (by decide +kernel) ⟨Nat.le_of_ble_eq_true rfl, Nat.le_of_ble_eq_true rfl⟩) rfl hl.1 rfl (Nat.le_of_ble_eq_true rfl) dX8_relaxFrom_70 ⟨Nat.le_of_ble_eq_true rfl, Nat.le_of_ble_eq_true rfl⟩ (fun H locs B => ?_)
                  refine lv_istore (lv' := [(8, .int q34), (7, .int a1), (6, .int v17), (4, .int v18), (5, .int v7), (0, .ref (G.2.2 158)), (1, .int a0), (2, .int a1), (3, .int a2)]) hx hb dX8_relaxFrom_73 hl (by decide) rfl (fun ls hl => ?_)
                  refine lv_aload_n hx hb dX8_relaxFrom_75 rfl (lv_at hl 5 rfl) ?_
                  refine r_getsN S F B F.low.1 (by decide) dX8_relaxFrom_76 ?_
                  refine lv_iload hx hb dX8_relaxFrom_79 (lv_at hl 2 rfl) ?_
                  obtain ⟨hi, ho⟩ := gd_ ho
                  refine r_ti S B F.low.2 hi dX8_relaxFrom_81 ?_
                  refine r_getsN S F B F.upp.1 (by decide) dX8_relaxFrom_82 ?_
                  refine lv_iload hx hb dX8_relaxFrom_85 (lv_at hl 2 rfl) ?_
                  obtain ⟨hi, ho⟩ := gd_ ho
                  refine r_ti S B F.upp.2 hi dX8_relaxFrom_87 ?_
                  refine lv_iload hx hb dX8_relaxFrom_88 (lv_at hl 1 rfl) ?_
                  obtain ⟨q36, σ37, hq36, ho⟩ := bnm_ ho
                  refine k_iV (As := [.int (lowC v17.toNatClampNeg), .int (uppC v17.toNatClampNeg), .int a1]) (rest := []) S F B (c_X8_lower l G σ35 _ (lowC v17.toNatClampNeg) (uppC v17.toNatClampNeg) a1 hq36) (kq (by decide) : kd 158 = 11 ∧ 158 < NN) rfl rfl (cwV 3 hts gX8_relaxFrom_X8_lower rfl rfl rfl (by decide +kernel) ⟨Nat.le_of_ble_eq_true rfl, Nat.le_of_ble_eq_true rfl⟩) rfl hl.1 rfl (Nat.le_of_ble_eq_true rfl) dX8_relaxFrom_90 ⟨Nat.le_of_ble_eq_true rfl, Nat.le_of_ble_eq_true rfl⟩ (fun H locs B => ?_)
                  refine lv_istore (lv' := [(9, .int q36), (8, .int q34), (7, .int a1), (6, .int v17), (4, .int v18), (5, .int v7), (0, .ref (G.2.2 158)), (1, .int a0), (2, .int a1), (3, .int a2)]) hx hb dX8_relaxFrom_93 hl (by decide) rfl (fun ls hl => ?_)
                  refine lv_iload hx hb dX8_relaxFrom_95 (lv_at hl 4 rfl) ?_
                  refine lv_if_ne (tgt := 110) hx hb dX8_relaxFrom_97 (by decide) (fun c38 => ?_) (fun c38 => ?_)
                  · have ho := in_ c38 ho
                    refine lv_iconst (v := 1) hx hb dX8_relaxFrom_110 (by decide) ?_
                    refine lv_goto (tgt := 115) hx hb dX8_relaxFrom_111 (by decide) ?_
                    refine lv_istore (lv' := [(4, .int 1), (9, .int q36), (8, .int q34), (7, .int a1), (6, .int v17), (5, .int v7), (0, .ref (G.2.2 158)), (1, .int a0), (2, .int a1), (3, .int a2)]) hx hb dX8_relaxFrom_115 hl (by decide) rfl (fun ls hl => ?_)
                    obtain ⟨x39, ex39, ho⟩ := lt_ ho
                    refine lv_iinc (v := x39) (lv' := [(6, .int x39), (4, .int 1), (9, .int q36), (8, .int q34), (7, .int a1), (5, .int v7), (0, .ref (G.2.2 158)), (1, .int a0), (2, .int a1), (3, .int a2)]) hx hb dX8_relaxFrom_117 hl (k := 4) rfl (by rw [ex39]; rfl) (by decide) rfl (fun ls hl => ?_)
                    refine lv_goto (tgt := 29) hx hb dX8_relaxFrom_120 (by decide) ?_
                    exact ih _ _ _ _ _ _ ho B (lv_sub hl [0, 1, 5, 6, 7, 8, 9] rfl)
                  · have ho := ip_ c38 ho
                    refine lv_iload hx hb dX8_relaxFrom_100 (lv_at hl 1 rfl) ?_
                    refine lv_if_ne (tgt := 110) hx hb dX8_relaxFrom_102 (by decide) (fun c40 => ?_) (fun c40 => ?_)
                    · have ho := in_ c40 ho
                      refine lv_iconst (v := 1) hx hb dX8_relaxFrom_110 (by decide) ?_
                      refine lv_goto (tgt := 115) hx hb dX8_relaxFrom_111 (by decide) ?_
                      refine lv_istore (lv' := [(4, .int 1), (9, .int q36), (8, .int q34), (7, .int a1), (6, .int v17), (5, .int v7), (0, .ref (G.2.2 158)), (1, .int a0), (2, .int a1), (3, .int a2)]) hx hb dX8_relaxFrom_115 hl (by decide) rfl (fun ls hl => ?_)
                      obtain ⟨x41, ex41, ho⟩ := lt_ ho
                      refine lv_iinc (v := x41) (lv' := [(6, .int x41), (4, .int 1), (9, .int q36), (8, .int q34), (7, .int a1), (5, .int v7), (0, .ref (G.2.2 158)), (1, .int a0), (2, .int a1), (3, .int a2)]) hx hb dX8_relaxFrom_117 hl (k := 4) rfl (by rw [ex41]; rfl) (by decide) rfl (fun ls hl => ?_)
                      refine lv_goto (tgt := 29) hx hb dX8_relaxFrom_120 (by decide) ?_
                      exact ih _ _ _ _ _ _ ho B (lv_sub hl [0, 1, 5, 6, 7, 8, 9] rfl)
                    · have ho := ip_ c40 ho
                      refine lv_iload hx hb dX8_relaxFrom_105 (lv_at hl 0 rfl) ?_
                      refine lv_if_eq (tgt := 114) hx hb dX8_relaxFrom_107 (by decide) (fun c42 => ?_) (fun c42 => ?_)
                      · have ho := ip_ c42 ho
                        refine lv_iconst (v := 0) hx hb dX8_relaxFrom_114 (by decide) ?_
                        refine lv_istore (lv' := [(4, .int 0), (9, .int q36), (8, .int q34), (7, .int a1), (6, .int v17), (5, .int v7), (0, .ref (G.2.2 158)), (1, .int a0), (2, .int a1), (3, .int a2)]) hx hb dX8_relaxFrom_115 hl (by decide) rfl (fun ls hl => ?_)
                        obtain ⟨x43, ex43, ho⟩ := lt_ ho
                        refine lv_iinc (v := x43) (lv' := [(6, .int x43), (4, .int 0), (9, .int q36), (8, .int q34), (7, .int a1), (5, .int v7), (0, .ref (G.2.2 158)), (1, .int a0), (2, .int a1), (3, .int a2)]) hx hb dX8_relaxFrom_117 hl (k := 4) rfl (by rw [ex43]; rfl) (by decide) rfl (fun ls hl => ?_)
                        refine lv_goto (tgt := 29) hx hb dX8_relaxFrom_120 (by decide) ?_
                        exact ih _ _ _ _ _ _ ho B (lv_sub hl [0, 1, 5, 6, 7, 8, 9] rfl)
                      · have ho := in_ c42 ho
                        refine lv_iconst (v := 1) hx hb dX8_relaxFrom_110 (by decide) ?_
                        refine lv_goto (tgt := 115) hx hb dX8_relaxFrom_111 (by decide) ?_
                        refine lv_istore (lv' := [(4, .int 1), (9, .int q36), (8, .int q34), (7, .int a1), (6, .int v17), (5, .int v7), (0, .ref (G.2.2 158)), (1, .int a0), (2, .int a1), (3, .int a2)]) hx hb dX8_relaxFrom_115 hl (by decide) rfl (fun ls hl => ?_)
                        obtain ⟨x44, ex44, ho⟩ := lt_ ho
                        refine lv_iinc (v := x44) (lv' := [(6, .int x44), (4, .int 1), (9, .int q36), (8, .int q34), (7, .int a1), (5, .int v7), (0, .ref (G.2.2 158)), (1, .int a0), (2, .int a1), (3, .int a2)]) hx hb dX8_relaxFrom_117 hl (k := 4) rfl (by rw [ex44]; rfl) (by decide) rfl (fun ls hl => ?_)
                        refine lv_goto (tgt := 29) hx hb dX8_relaxFrom_120 (by decide) ?_
                        exact ih _ _ _ _ _ _ ho B (lv_sub hl [0, 1, 5, 6, 7, 8, 9] rfl)
          exact hloop29 30 _ _ _ _ _ _ ho B hl
  exact hloop11 30 _ _ _ _ _ _ ho B hl

