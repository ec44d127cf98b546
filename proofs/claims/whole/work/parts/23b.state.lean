set_option maxHeartbeats 4000000 in
set_option maxRecDepth 100000 in
theorem c_X6_gardenersAhead (l : Launch) (G : Gd) (σ : Mm) (sz : Nat) (a0 : Int32) {out : Int32} (ho : f_X6_gardenersAhead a0 σ = some out) : Met l yX6_gardenersAhead wsX6_gardenersAhead { frames := 5, cells := 0, slots := 0, locals := 122 } (va_Pc [.ref (G.2.2 0), .int a0] (PW G σ sz)) (Qi G sz out σ) 0 0 (AA G sz) := by
  refine Met.ofW (cc := cX6_gardenersAhead) (maxL := 4) (ret := (some .int)) (by decide) rfl ?_
  intro p e s m args below meth c s₁ B0 hml hv
  obtain ⟨rfl, hpw⟩ := hv
  have hsz := hpw.1
  subst hsz
  obtain ⟨F, B⟩ := hpw.to
  have hx := B0.exec
  have hb := B0.bytes
  have hr := B0.returns
  have hts := atoms_spec (ws := wsX6_gardenersAhead) B0.pre
  have hown : s.vm.findClass RX6 = some m.cls := findClass_of_methodNamed B0.named
  have hlocks := B0.notSynchronized
  have S : CallFix p m c cX6_gardenersAhead 4 s _ wsX6_gardenersAhead RX6 := ⟨hx, hb, hml, hown, hts⟩
  have hiX6 : ∀ w ∈ u_ws RX6 TX6 9, w ∈ wsX6_gardenersAhead := by decide +kernel
  have hl := lv_entry [.ref (G.2.2 0), .int a0] (n := 4) (Nat.le_of_ble_eq_true rfl)
  rw [lg_entry_eq]
  generalize (lg_sl [.ref (G.2.2 0), .int a0] ++ List.replicate (4 - (lg_sl [.ref (G.2.2 0), .int a0]).length) Slot.unset).toArray = ls at hl ⊢
  have hl : lv_has ls 4 [(0, .ref (G.2.2 0)), (1, .int a0)] := hl
  unfold f_X6_gardenersAhead at ho
  skip
  refine lv_iconst (v := 0) hx hb dX6_gardenersAhead_0 (by decide) ?_
  refine lv_istore_n (lv' := [(2, .int 0), (0, .ref (G.2.2 0)), (1, .int a0)]) hx hb dX6_gardenersAhead_1 rfl hl (by decide) rfl (fun ls hl => ?_)
  refine lv_iconst (v := 0) hx hb dX6_gardenersAhead_2 (by decide) ?_
  refine lv_istore_n (lv' := [(3, .int 0), (2, .int 0), (0, .ref (G.2.2 0)), (1, .int a0)]) hx hb dX6_gardenersAhead_3 rfl hl (by decide) rfl (fun ls hl => ?_)
  have hloop4 : ∀ (n : Nat) (v4 : Int32) (v5 : Int32) (H : Heap) (locs : List Loc) (ls : Array Slot), f_X6_gardenersAhead_l4  a0 σ n v4 v5 = some out → Bd G σ s H locs → lv_has ls 4 [(3, .int v4), (2, .int v5), (0, .ref (G.2.2 0)), (1, .int a0)] → W p l e (headSpec wsX6_gardenersAhead { frames := 5, cells := 0, slots := 0, locals := 122 }).room s m #[.ref (G.2.2 0), .int a0] below meth c H locs 0 0 (MQ below (Qi G s.heap.size out σ) #[.ref (G.2.2 0), .int a0] s 0 0 (AA G s.heap.size)) (F0 m 4 ls []) := by
    intro n
    induction n with
    | zero => intro v4 v5 H locs ls ho B hl; cases ho
    | succ n ih =>
      intro v4 v5 H locs ls ho B hl
      refine lv_iload_n hx hb dX6_gardenersAhead_4 rfl (lv_at hl 0 rfl) ?_
      refine lv_aload_n hx hb dX6_gardenersAhead_5 rfl (lv_at hl 2 rfl) ?_
      refine r_get (ci := 10) (C := RX6) (T := TX6) (N := 9) S F B (kq (by decide) : kd 0 = 0 ∧ 0 < NN) rfl rfl hiX6 3 (by decide) (by decide +kernel) rfl dX6_gardenersAhead_6 ?_
      refine lv_icmp_ge (tgt := 30) hx hb dX6_gardenersAhead_9 (by decide) (fun c6 => ?_) (fun c6 => ?_)
      · have ho := ip_ c6 ho
        refine lv_iload_n hx hb dX6_gardenersAhead_30 rfl (lv_at hl 1 rfl) ?_
        cases ho
        exact e_i B hx hb hr hlocks rfl rfl dX6_gardenersAhead_31
      · have ho := in_ c6 ho
        refine lv_aload_n hx hb dX6_gardenersAhead_12 rfl (lv_at hl 2 rfl) ?_
        refine lv_iload_n hx hb dX6_gardenersAhead_13 rfl (lv_at hl 0 rfl) ?_
        refine lv_iload_n hx hb dX6_gardenersAhead_14 rfl (lv_at hl 3 rfl) ?_
        obtain ⟨q7, hq7, ho⟩ := bnd_ ho
        refine k_iV (As := [.int v4, .int a0]) (rest := []) S F B (c_X6_isRicher l G σ _ v4 a0 hq7) (kq (by decide) : kd 0 = 0 ∧ 0 < NN) rfl rfl (cwV 2 hts gX6_gardenersAhead_X6_isRicher rfl rfl rfl (by decide +kernel) ⟨Nat.le_of_ble_eq_true rfl, Nat.le_of_ble_eq_true rfl⟩) rfl hl.1 rfl (Nat.le_of_ble_eq_true rfl) dX6_gardenersAhead_15 ⟨Nat.le_of_ble_eq_true rfl, Nat.le_of_ble_eq_true rfl⟩ (fun H locs B => ?_)
        refine lv_if_eq (tgt := 24) hx hb dX6_gardenersAhead_18 (by decide) (fun c8 => ?_) (fun c8 => ?_)
        · have ho := ip_ c8 ho
          obtain ⟨x9, ex9, ho⟩ := lt_ ho
          refine lv_iinc (v := x9) (lv' := [(3, .int x9), (2, .int v5), (0, .ref (G.2.2 0)), (1, .int a0)]) hx hb dX6_gardenersAhead_24 hl (k := 0) rfl (by rw [ex9]; rfl) (by decide) rfl (fun ls hl => ?_)
          refine lv_goto (tgt := 4) hx hb dX6_gardenersAhead_27 (by decide) ?_
          exact ih _ _  _ _ _ ho B (lv_sub hl [0, 1, 2, 3] rfl)
        · have ho := in_ c8 ho
          obtain ⟨x10, ex10, ho⟩ := lt_ ho
          refine lv_iinc (v := x10) (lv' := [(2, .int x10), (3, .int v4), (0, .ref (G.2.2 0)), (1, .int a0)]) hx hb dX6_gardenersAhead_21 hl (k := 1) rfl (by rw [ex10]; rfl) (by decide) rfl (fun ls hl => ?_)
          obtain ⟨x11, ex11, ho⟩ := lt_ ho
          refine lv_iinc (v := x11) (lv' := [(3, .int x11), (2, .int x10), (0, .ref (G.2.2 0)), (1, .int a0)]) hx hb dX6_gardenersAhead_24 hl (k := 1) rfl (by rw [ex11]; rfl) (by decide) rfl (fun ls hl => ?_)
          refine lv_goto (tgt := 4) hx hb dX6_gardenersAhead_27 (by decide) ?_
          exact ih _ _  _ _ _ ho B (lv_sub hl [0, 1, 2, 3] rfl)
  exact hloop4 8 _ _  _ _ _ ho B hl

set_option maxHeartbeats 4000000 in
set_option maxRecDepth 100000 in
theorem c_X6_copyFrom (l : Launch) (G : Gd) (σ : Mm) (sz : Nat) (i : Nat) (o0 : Nat) (hi9 : isS i) (ho0 : isS o0) {out : Mm} (ho : f_X6_copyFrom i o0 σ = some out) : Met l yX6_copyFrom wsX6_copyFrom { frames := 2, cells := 0, slots := 0, locals := 61 } (va_Pc [.ref (G.2.2 i), .ref (G.2.2 o0)] (PW G σ sz)) (Qv G sz out) 0 0 (AA G sz) := by
  refine Met.ofW (cc := cX6_copyFrom) (maxL := 3) (ret := none) (by decide) rfl ?_
  intro p e s m args below meth c s₁ B0 hml hv
  obtain ⟨rfl, hpw⟩ := hv
  have hsz := hpw.1
  subst hsz
  obtain ⟨F, B⟩ := hpw.to
  have hx := B0.exec
  have hb := B0.bytes
  have hr := B0.returns
  have hts := atoms_spec (ws := wsX6_copyFrom) B0.pre
  have hown : s.vm.findClass RX6 = some m.cls := findClass_of_methodNamed B0.named
  have hlocks := B0.notSynchronized
  have S : CallFix p m c cX6_copyFrom 3 s _ wsX6_copyFrom RX6 := ⟨hx, hb, hml, hown, hts⟩
  have hiX6 : ∀ w ∈ u_ws RX6 TX6 9, w ∈ wsX6_copyFrom := by decide +kernel
  have hl := lv_entry [.ref (G.2.2 i), .ref (G.2.2 o0)] (n := 3) (Nat.le_of_ble_eq_true rfl)
  rw [lg_entry_eq]
  generalize (lg_sl [.ref (G.2.2 i), .ref (G.2.2 o0)] ++ List.replicate (3 - (lg_sl [.ref (G.2.2 i), .ref (G.2.2 o0)]).length) Slot.unset).toArray = ls at hl ⊢
  have hl : lv_has ls 3 [(0, .ref (G.2.2 i)), (1, .ref (G.2.2 o0))] := hl
  unfold f_X6_copyFrom at ho
  skip
  refine lv_aload_n hx hb dX6_copyFrom_0 rfl (lv_at hl 0 rfl) ?_
  refine r_get (ci := 10) (C := RX6) (T := TX6) (N := 9) S F B hi9.k0 rfl rfl hiX6 0 (by decide) (by decide +kernel) rfl dX6_copyFrom_1 ?_
  refine lv_aload_n hx hb dX6_copyFrom_4 rfl (lv_at hl 1 rfl) ?_
  refine r_get (ci := 10) (C := RX6) (T := TX6) (N := 9) S F B ho0.k0 rfl rfl hiX6 0 (by decide) (by decide +kernel) rfl dX6_copyFrom_5 ?_
  obtain ⟨σ2, hq1, ho⟩ := bnd_ ho
  refine k_vV (As := [.ref (G.2.2 (o0 + 1))]) (rest := []) S F B (c_X4_copyFrom l G σ _ i o0 hi9 ho0 hq1) (hi9.t1) rfl rfl (cwV 1 hts gX6_copyFrom_X4_copyFrom rfl rfl rfl (by decide +kernel) ⟨Nat.le_of_ble_eq_true rfl, Nat.le_of_ble_eq_true rfl⟩) rfl hl.1 rfl (Nat.le_of_ble_eq_true rfl) dX6_copyFrom_8 ⟨Nat.le_of_ble_eq_true rfl, Nat.le_of_ble_eq_true rfl⟩ (fun H locs B => ?_)
  refine lv_iconst (v := 0) hx hb dX6_copyFrom_11 (by decide) ?_
  refine lv_istore_n (lv' := [(2, .int 0), (0, .ref (G.2.2 i)), (1, .ref (G.2.2 o0))]) hx hb dX6_copyFrom_12 rfl hl (by decide) rfl (fun ls hl => ?_)
  obtain ⟨K, hK, ho⟩ := lt_ ho
  have hexit13 : ∀ (v3 : Int32) (σ4 : Mm) (H : Heap) (locs : List Loc) (ls : Array Slot), K v3 σ4 = some out → Bd G σ4 s H locs → lv_has ls 3 [(2, .int v3), (0, .ref (G.2.2 i)), (1, .ref (G.2.2 o0))] → W p l e (headSpec wsX6_copyFrom { frames := 2, cells := 0, slots := 0, locals := 61 }).room s m #[.ref (G.2.2 i), .ref (G.2.2 o0)] below meth c H locs 0 0 (MQ below (Qv G s.heap.size out) #[.ref (G.2.2 i), .ref (G.2.2 o0)] s 0 0 (AA G s.heap.size)) (F0 m 39 ls []) := by
    intro v3 σ4 H locs ls ho B hl
    subst hK
    refine lv_iconst (v := 0) hx hb dX6_copyFrom_39 (by decide) ?_
    refine lv_istore_n (lv' := [(2, .int 0), (0, .ref (G.2.2 i)), (1, .ref (G.2.2 o0))]) hx hb dX6_copyFrom_40 rfl hl (by decide) rfl (fun ls hl => ?_)
    obtain ⟨K, hK, ho⟩ := lt_ ho
    have hexit41 : ∀ (v6 : Int32) (σ7 : Mm) (H : Heap) (locs : List Loc) (ls : Array Slot), K v6 σ7 = some out → Bd G σ7 s H locs → lv_has ls 3 [(2, .int v6), (0, .ref (G.2.2 i)), (1, .ref (G.2.2 o0))] → W p l e (headSpec wsX6_copyFrom { frames := 2, cells := 0, slots := 0, locals := 61 }).room s m #[.ref (G.2.2 i), .ref (G.2.2 o0)] below meth c H locs 0 0 (MQ below (Qv G s.heap.size out) #[.ref (G.2.2 i), .ref (G.2.2 o0)] s 0 0 (AA G s.heap.size)) (F0 m 67 ls []) := by
      intro v6 σ7 H locs ls ho B hl
      subst hK
      refine lv_aload_n hx hb dX6_copyFrom_67 rfl (lv_at hl 1 rfl) ?_
      refine lv_aload_n hx hb dX6_copyFrom_68 rfl (lv_at hl 2 rfl) ?_
      refine r_get (ci := 10) (C := RX6) (T := TX6) (N := 9) S F B ho0.k0 rfl rfl hiX6 3 (by decide) (by decide +kernel) rfl dX6_copyFrom_69 ?_
      refine r_put (ci := 10) (C := RX6) (T := TX6) (N := 9) (ty := .int) S F B tyX6 tyX6_ok nmX6 hi9.k0 (fun _ => rfl) rfl hiX6 3 (by decide) (by decide +kernel) rfl rfl rfl rfl (fun _ => Nat.le_of_ble_eq_true rfl) (fun _ => rfl) dX6_copyFrom_72 (fun H locs B => ?_)
      obtain ⟨σ9, eσ9, ho⟩ := lt_ ho
      rw [← eσ9] at B
      refine lv_aload_n hx hb dX6_copyFrom_75 rfl (lv_at hl 1 rfl) ?_
      refine lv_aload_n hx hb dX6_copyFrom_76 rfl (lv_at hl 2 rfl) ?_
      refine r_get (ci := 10) (C := RX6) (T := TX6) (N := 9) S F B ho0.k0 rfl rfl hiX6 4 (by decide) (by decide +kernel) rfl dX6_copyFrom_77 ?_
      refine r_put (ci := 10) (C := RX6) (T := TX6) (N := 9) (ty := .int) S F B tyX6 tyX6_ok nmX6 hi9.k0 (fun _ => rfl) rfl hiX6 4 (by decide) (by decide +kernel) rfl rfl rfl rfl (fun _ => Nat.le_of_ble_eq_true rfl) (fun _ => rfl) dX6_copyFrom_80 (fun H locs B => ?_)
      obtain ⟨σ10, eσ10, ho⟩ := lt_ ho
      rw [← eσ10] at B
      refine lv_aload_n hx hb dX6_copyFrom_83 rfl (lv_at hl 1 rfl) ?_
      refine lv_aload_n hx hb dX6_copyFrom_84 rfl (lv_at hl 2 rfl) ?_
      refine r_get (ci := 10) (C := RX6) (T := TX6) (N := 9) S F B ho0.k0 rfl rfl hiX6 5 (by decide) (by decide +kernel) rfl dX6_copyFrom_85 ?_
      refine r_put (ci := 10) (C := RX6) (T := TX6) (N := 9) (ty := .int) S F B tyX6 tyX6_ok nmX6 hi9.k0 (fun _ => rfl) rfl hiX6 5 (by decide) (by decide +kernel) rfl rfl rfl rfl (fun _ => Nat.le_of_ble_eq_true rfl) (fun _ => rfl) dX6_copyFrom_88 (fun H locs B => ?_)
      obtain ⟨σ11, eσ11, ho⟩ := lt_ ho
      rw [← eσ11] at B
      refine lv_aload_n hx hb dX6_copyFrom_91 rfl (lv_at hl 1 rfl) ?_
      refine lv_aload_n hx hb dX6_copyFrom_92 rfl (lv_at hl 2 rfl) ?_
      refine r_get (ci := 10) (C := RX6) (T := TX6) (N := 9) S F B ho0.k0 rfl rfl hiX6 6 (by decide) (by decide +kernel) rfl dX6_copyFrom_93 ?_
      refine r_put (ci := 10) (C := RX6) (T := TX6) (N := 9) (ty := .int) S F B tyX6 tyX6_ok nmX6 hi9.k0 (fun _ => rfl) rfl hiX6 6 (by decide) (by decide +kernel) rfl rfl rfl rfl (fun _ => Nat.le_of_ble_eq_true rfl) (fun _ => rfl) dX6_copyFrom_96 (fun H locs B => ?_)
      obtain ⟨σ12, eσ12, ho⟩ := lt_ ho
      rw [← eσ12] at B
      refine lv_aload_n hx hb dX6_copyFrom_99 rfl (lv_at hl 1 rfl) ?_
      refine lv_aload_n hx hb dX6_copyFrom_100 rfl (lv_at hl 2 rfl) ?_
      refine r_get (ci := 10) (C := RX6) (T := TX6) (N := 9) S F B ho0.k0 rfl rfl hiX6 7 (by decide) (by decide +kernel) rfl dX6_copyFrom_101 ?_
      refine r_put (ci := 10) (C := RX6) (T := TX6) (N := 9) (ty := .int) S F B tyX6 tyX6_ok nmX6 hi9.k0 (fun _ => rfl) rfl hiX6 7 (by decide) (by decide +kernel) rfl rfl rfl rfl (fun _ => Nat.le_of_ble_eq_true rfl) (fun _ => rfl) dX6_copyFrom_104 (fun H locs B => ?_)
      obtain ⟨σ13, eσ13, ho⟩ := lt_ ho
      rw [← eσ13] at B
      refine lv_aload_n hx hb dX6_copyFrom_107 rfl (lv_at hl 1 rfl) ?_
      refine lv_aload_n hx hb dX6_copyFrom_108 rfl (lv_at hl 2 rfl) ?_
      refine r_get (ci := 10) (C := RX6) (T := TX6) (N := 9) S F B ho0.k0 rfl rfl hiX6 8 (by decide) (by decide +kernel) rfl dX6_copyFrom_109 ?_
      refine r_put (ci := 10) (C := RX6) (T := TX6) (N := 9) (ty := .int) S F B tyX6 tyX6_ok nmX6 hi9.k0 (fun _ => rfl) rfl hiX6 8 (by decide) (by decide +kernel) rfl rfl rfl rfl (fun _ => Nat.le_of_ble_eq_true rfl) (fun _ => rfl) dX6_copyFrom_112 (fun H locs B => ?_)
      obtain ⟨σ14, eσ14, ho⟩ := lt_ ho
      rw [← eσ14] at B
      cases ho
      exact e_v B hx hb hr hlocks dX6_copyFrom_115
    have hloop41 : ∀ (n : Nat) (v15 : Int32) (σ16 : Mm) (H : Heap) (locs : List Loc) (ls : Array Slot), f_X6_copyFrom_l41 K i o0 n v15 σ16 = some out → Bd G σ16 s H locs → lv_has ls 3 [(2, .int v15), (0, .ref (G.2.2 i)), (1, .ref (G.2.2 o0))] → W p l e (headSpec wsX6_copyFrom { frames := 2, cells := 0, slots := 0, locals := 61 }).room s m #[.ref (G.2.2 i), .ref (G.2.2 o0)] below meth c H locs 0 0 (MQ below (Qv G s.heap.size out) #[.ref (G.2.2 i), .ref (G.2.2 o0)] s 0 0 (AA G s.heap.size)) (F0 m 41 ls []) := by
      intro n
      induction n with
      | zero => intro v15 σ16 H locs ls ho B hl; cases ho
      | succ n ih =>
        intro v15 σ16 H locs ls ho B hl
        refine lv_iload_n hx hb dX6_copyFrom_41 rfl (lv_at hl 0 rfl) ?_
        refine lv_iconst (v := 5) hx hb dX6_copyFrom_42 (by decide) ?_
        refine lv_icmp_ge (tgt := 67) hx hb dX6_copyFrom_43 (by decide) (fun c17 => ?_) (fun c17 => ?_)
        · have ho := ip_ c17 ho
          exact hexit41 _ _ _ _ _ ho B (lv_sub hl [0, 1, 2] rfl)
        · have ho := in_ c17 ho
          refine lv_aload_n hx hb dX6_copyFrom_46 rfl (lv_at hl 1 rfl) ?_
          refine r_get (ci := 10) (C := RX6) (T := TX6) (N := 9) S F B hi9.k0 rfl rfl hiX6 2 (by decide) (by decide +kernel) rfl dX6_copyFrom_47 ?_
          refine lv_iload_n hx hb dX6_copyFrom_50 rfl (lv_at hl 0 rfl) ?_
          obtain ⟨i18, ho⟩ := gd_ ho
          refine r_aald (t := 4) S F B (hi9.t5) rfl rfl i18 dX6_copyFrom_51 ?_
          refine lv_aload_n hx hb dX6_copyFrom_52 rfl (lv_at hl 2 rfl) ?_
          refine r_get (ci := 10) (C := RX6) (T := TX6) (N := 9) S F B ho0.k0 rfl rfl hiX6 2 (by decide) (by decide +kernel) rfl dX6_copyFrom_53 ?_
          refine lv_iload_n hx hb dX6_copyFrom_56 rfl (lv_at hl 0 rfl) ?_
          obtain ⟨i19, ho⟩ := gd_ ho
          refine r_aald (t := 4) S F B (ho0.t5) rfl rfl i19 dX6_copyFrom_57 ?_
          obtain ⟨σ21, hq20, ho⟩ := bnd_ ho
          refine k_vV (As := [.ref (G.2.2 ((o0 + 8) + 1 + v15.toNatClampNeg))]) (rest := []) S F B (c_X7_copyFrom l G σ16 _ ((i + 8) + 1 + v15.toNatClampNeg) ((o0 + 8) + 1 + v15.toNatClampNeg) (hi9.e6 i18) (ho0.e6 i19) hq20) (hi9.e6 i18) rfl rfl (cwV 1 hts gX6_copyFrom_X7_copyFrom rfl rfl rfl (by decide +kernel) ⟨Nat.le_of_ble_eq_true rfl, Nat.le_of_ble_eq_true rfl⟩) rfl hl.1 rfl (Nat.le_of_ble_eq_true rfl) dX6_copyFrom_58 ⟨Nat.le_of_ble_eq_true rfl, Nat.le_of_ble_eq_true rfl⟩ (fun H locs B => ?_)
          obtain ⟨x22, ex22, ho⟩ := lt_ ho
          refine lv_iinc (v := x22) (lv' := [(2, .int x22), (0, .ref (G.2.2 i)), (1, .ref (G.2.2 o0))]) hx hb dX6_copyFrom_61 hl (k := 0) rfl (by rw [ex22]; rfl) (by decide) rfl (fun ls hl => ?_)
          refine lv_goto (tgt := 41) hx hb dX6_copyFrom_64 (by decide) ?_
          exact ih _ _ _ _ _ ho B (lv_sub hl [0, 1, 2] rfl)
    exact hloop41 8 _ _ _ _ _ ho B hl
  have hloop13 : ∀ (n : Nat) (v23 : Int32) (σ24 : Mm) (H : Heap) (locs : List Loc) (ls : Array Slot), f_X6_copyFrom_l13 K i o0 n v23 σ24 = some out → Bd G σ24 s H locs → lv_has ls 3 [(2, .int v23), (0, .ref (G.2.2 i)), (1, .ref (G.2.2 o0))] → W p l e (headSpec wsX6_copyFrom { frames := 2, cells := 0, slots := 0, locals := 61 }).room s m #[.ref (G.2.2 i), .ref (G.2.2 o0)] below meth c H locs 0 0 (MQ below (Qv G s.heap.size out) #[.ref (G.2.2 i), .ref (G.2.2 o0)] s 0 0 (AA G s.heap.size)) (F0 m 13 ls []) := by
    intro n
    induction n with
    | zero => intro v23 σ24 H locs ls ho B hl; cases ho
    | succ n ih =>
      intro v23 σ24 H locs ls ho B hl
      refine lv_iload_n hx hb dX6_copyFrom_13 rfl (lv_at hl 0 rfl) ?_
      refine lv_iconst (v := 4) hx hb dX6_copyFrom_14 (by decide) ?_
      refine lv_icmp_ge (tgt := 39) hx hb dX6_copyFrom_15 (by decide) (fun c25 => ?_) (fun c25 => ?_)
      · have ho := ip_ c25 ho
        exact hexit13 _ _ _ _ _ ho B (lv_sub hl [0, 1, 2] rfl)
      · have ho := in_ c25 ho
        refine lv_aload_n hx hb dX6_copyFrom_18 rfl (lv_at hl 1 rfl) ?_
        refine r_get (ci := 10) (C := RX6) (T := TX6) (N := 9) S F B hi9.k0 rfl rfl hiX6 1 (by decide) (by decide +kernel) rfl dX6_copyFrom_19 ?_
        refine lv_iload_n hx hb dX6_copyFrom_22 rfl (lv_at hl 0 rfl) ?_
        obtain ⟨i26, ho⟩ := gd_ ho
        refine r_aald (t := 3) S F B (hi9.t3) rfl rfl i26 dX6_copyFrom_23 ?_
        refine lv_aload_n hx hb dX6_copyFrom_24 rfl (lv_at hl 2 rfl) ?_
        refine r_get (ci := 10) (C := RX6) (T := TX6) (N := 9) S F B ho0.k0 rfl rfl hiX6 1 (by decide) (by decide +kernel) rfl dX6_copyFrom_25 ?_
        refine lv_iload_n hx hb dX6_copyFrom_28 rfl (lv_at hl 0 rfl) ?_
        obtain ⟨i27, ho⟩ := gd_ ho
        refine r_aald (t := 3) S F B (ho0.t3) rfl rfl i27 dX6_copyFrom_29 ?_
        obtain ⟨σ29, hq28, ho⟩ := bnd_ ho
        refine k_vV (As := [.ref (G.2.2 ((o0 + 3) + 1 + v23.toNatClampNeg))]) (rest := []) S F B (c_X1_copyFrom l G σ24 _ ((i + 3) + 1 + v23.toNatClampNeg) ((o0 + 3) + 1 + v23.toNatClampNeg) (hi9.e4 i26) (ho0.e4 i27) hq28) (hi9.e4 i26) rfl rfl (cwV 1 hts gX6_copyFrom_X1_copyFrom rfl rfl rfl (by decide +kernel) ⟨Nat.le_of_ble_eq_true rfl, Nat.le_of_ble_eq_true rfl⟩) rfl hl.1 rfl (Nat.le_of_ble_eq_true rfl) dX6_copyFrom_30 ⟨Nat.le_of_ble_eq_true rfl, Nat.le_of_ble_eq_true rfl⟩ (fun H locs B => ?_)
        obtain ⟨x30, ex30, ho⟩ := lt_ ho
        refine lv_iinc (v := x30) (lv' := [(2, .int x30), (0, .ref (G.2.2 i)), (1, .ref (G.2.2 o0))]) hx hb dX6_copyFrom_33 hl (k := 0) rfl (by rw [ex30]; rfl) (by decide) rfl (fun ls hl => ?_)
        refine lv_goto (tgt := 13) hx hb dX6_copyFrom_36 (by decide) ?_
        exact ih _ _ _ _ _ ho B (lv_sub hl [0, 1, 2] rfl)
  exact hloop13 8 _ _ _ _ _ ho B hl
