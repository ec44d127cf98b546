set_option maxHeartbeats 4000000 in
set_option maxRecDepth 100000 in
theorem c_X10_gaps (l : Launch) (G : Gd) (σ : Mm) (sz : Nat) {out : Int32} (ho : f_X10_gaps σ = some out) : Met l yX10_gaps wsX10_gaps { frames := 1, cells := 0, slots := 0, locals := 21 } (va_Pc [.ref (G.2.2 198)] (PW G σ sz)) (Qi G sz out σ) 0 0 (AA G sz) := by
  refine Met.ofW (cc := cX10_gaps) (maxL := 3) (ret := (some .int)) (by decide) rfl ?_
  intro p e s m args below meth c s₁ B0 hml hv
  obtain ⟨rfl, hpw⟩ := hv
  have hsz := hpw.1
  subst hsz
  obtain ⟨F, B⟩ := hpw.to
  have hx := B0.exec
  have hb := B0.bytes
  have hr := B0.returns
  have hts := atoms_spec (ws := wsX10_gaps) B0.pre
  have hown : s.vm.findClass RX10 = some m.cls := findClass_of_methodNamed B0.named
  have hlocks := B0.notSynchronized
  have S : CallFix p m c cX10_gaps 3 s _ wsX10_gaps RX10 := ⟨hx, hb, hml, hown, hts⟩
  have hl := lv_entry [.ref (G.2.2 198)] (n := 3) (Nat.le_of_ble_eq_true rfl)
  rw [lg_entry_eq]
  generalize (lg_sl [.ref (G.2.2 198)] ++ List.replicate (3 - (lg_sl [.ref (G.2.2 198)]).length) Slot.unset).toArray = ls at hl ⊢
  have hl : lv_has ls 3 [(0, .ref (G.2.2 198))] := hl
  unfold f_X10_gaps at ho
  skip
  refine lv_iconst (v := 0) hx hb dX10_gaps_0 (by decide) ?_
  refine lv_istore_n (lv' := [(1, .int 0), (0, .ref (G.2.2 198))]) hx hb dX10_gaps_1 rfl hl (by decide) rfl (fun ls hl => ?_)
  refine lv_iconst (v := 0) hx hb dX10_gaps_2 (by decide) ?_
  refine lv_istore_n (lv' := [(2, .int 0), (1, .int 0), (0, .ref (G.2.2 198))]) hx hb dX10_gaps_3 rfl hl (by decide) rfl (fun ls hl => ?_)
  have hloop4 : ∀ (n : Nat) (v4 : Int32) (v5 : Int32) (H : Heap) (locs : List Loc) (ls : Array Slot), f_X10_gaps_l4  σ n v4 v5 = some out → Bd G σ s H locs → lv_has ls 3 [(2, .int v4), (1, .int v5), (0, .ref (G.2.2 198))] → W p l e (headSpec wsX10_gaps { frames := 1, cells := 0, slots := 0, locals := 21 }).room s m #[.ref (G.2.2 198)] below meth c H locs 0 0 (MQ below (Qi G s.heap.size out σ) #[.ref (G.2.2 198)] s 0 0 (AA G s.heap.size)) (F0 m 4 ls []) := by
    intro n
    induction n with
    | zero => intro v4 v5 H locs ls ho B hl; cases ho
    | succ n ih =>
      intro v4 v5 H locs ls ho B hl
      refine lv_iload_n hx hb dX10_gaps_4 rfl (lv_at hl 0 rfl) ?_
      refine lv_bipush (v := 24) hx hb dX10_gaps_5 (by decide) ?_
      refine lv_icmp_ge (tgt := 35) hx hb dX10_gaps_7 (by decide) (fun c6 => ?_) (fun c6 => ?_)
      · have ho := ip_ c6 ho
        refine lv_iload_n hx hb dX10_gaps_35 rfl (lv_at hl 1 rfl) ?_
        cases ho
        exact e_i B hx hb hr hlocks rfl rfl dX10_gaps_36
      · have ho := in_ c6 ho
        refine lv_iload_n hx hb dX10_gaps_10 rfl (lv_at hl 1 rfl) ?_
        refine lv_aload_n hx hb dX10_gaps_11 rfl (lv_at hl 2 rfl) ?_
        refine lv_bipush (v := 6) hx hb dX10_gaps_12 (by decide) ?_
        refine lv_iload_n hx hb dX10_gaps_14 rfl (lv_at hl 0 rfl) ?_
        refine lv_iadd hx hb dX10_gaps_15 ?_
        obtain ⟨q7, hq7, ho⟩ := bnd_ ho
        refine k_iV (As := [.int (6 + v4)]) (rest := [.int v5]) S F B (c_X10_isGapAt l G σ _ (6 + v4) hq7) (kq (by decide) : kd 198 = 21 ∧ 198 < NN) rfl rfl (cwV 1 hts gX10_gaps_X10_isGapAt rfl rfl rfl (by decide +kernel) ⟨Nat.le_of_ble_eq_true rfl, Nat.le_of_ble_eq_true rfl⟩) rfl hl.1 rfl (Nat.le_of_ble_eq_true rfl) dX10_gaps_16 ⟨Nat.le_of_ble_eq_true rfl, Nat.le_of_ble_eq_true rfl⟩ (fun H locs B => ?_)
        refine lv_if_eq (tgt := 26) hx hb dX10_gaps_19 (by decide) (fun c8 => ?_) (fun c8 => ?_)
        · have ho := ip_ c8 ho
          refine lv_iconst (v := 0) hx hb dX10_gaps_26 (by decide) ?_
          refine lv_iadd hx hb dX10_gaps_27 ?_
          obtain ⟨x9, ex9, ho⟩ := lt_ ho
          refine lv_nm ex9 ?_
          refine lv_istore_n (lv' := [(1, .int x9), (2, .int v4), (0, .ref (G.2.2 198))]) hx hb dX10_gaps_28 rfl hl (by decide) rfl (fun ls hl => ?_)
          obtain ⟨x10, ex10, ho⟩ := lt_ ho
          refine lv_iinc (v := x10) (lv' := [(2, .int x10), (1, .int x9), (0, .ref (G.2.2 198))]) hx hb dX10_gaps_29 hl (k := 1) rfl (by rw [ex10]; rfl) (by decide) rfl (fun ls hl => ?_)
          refine lv_goto (tgt := 4) hx hb dX10_gaps_32 (by decide) ?_
          exact ih _ _  _ _ _ ho B (lv_sub hl [0, 1, 2] rfl)
        · have ho := in_ c8 ho
          refine lv_iconst (v := 1) hx hb dX10_gaps_22 (by decide) ?_
          refine lv_goto (tgt := 27) hx hb dX10_gaps_23 (by decide) ?_
          refine lv_iadd hx hb dX10_gaps_27 ?_
          obtain ⟨x11, ex11, ho⟩ := lt_ ho
          refine lv_nm ex11 ?_
          refine lv_istore_n (lv' := [(1, .int x11), (2, .int v4), (0, .ref (G.2.2 198))]) hx hb dX10_gaps_28 rfl hl (by decide) rfl (fun ls hl => ?_)
          obtain ⟨x12, ex12, ho⟩ := lt_ ho
          refine lv_iinc (v := x12) (lv' := [(2, .int x12), (1, .int x11), (0, .ref (G.2.2 198))]) hx hb dX10_gaps_29 hl (k := 1) rfl (by rw [ex12]; rfl) (by decide) rfl (fun ls hl => ?_)
          refine lv_goto (tgt := 4) hx hb dX10_gaps_32 (by decide) ?_
          exact ih _ _  _ _ _ ho B (lv_sub hl [0, 1, 2] rfl)
  exact hloop4 30 _ _  _ _ _ ho B hl

set_option maxHeartbeats 4000000 in
set_option maxRecDepth 100000 in
theorem c_X10_areNeighbours (l : Launch) (G : Gd) (σ : Mm) (sz : Nat) (a0 : Int32) (a1 : Int32) {out : Int32 × Mm} (ho : f_X10_areNeighbours a0 a1 σ = some out) : Met l yX10_areNeighbours wsX10_areNeighbours { frames := 2, cells := 0, slots := 0, locals := 55 } (va_Pc [.ref (G.2.2 198), .int a0, .int a1] (PW G σ sz)) (Qi G sz out.1 out.2) 0 0 (AA G sz) := by
  refine Met.ofW (cc := cX10_areNeighbours) (maxL := 3) (ret := (some .boolean)) (by decide) rfl ?_
  intro p e s m args below meth c s₁ B0 hml hv
  obtain ⟨rfl, hpw⟩ := hv
  have hsz := hpw.1
  subst hsz
  obtain ⟨F, B⟩ := hpw.to
  have hx := B0.exec
  have hb := B0.bytes
  have hr := B0.returns
  have hts := atoms_spec (ws := wsX10_areNeighbours) B0.pre
  have hown : s.vm.findClass RX10 = some m.cls := findClass_of_methodNamed B0.named
  have hlocks := B0.notSynchronized
  have S : CallFix p m c cX10_areNeighbours 3 s _ wsX10_areNeighbours RX10 := ⟨hx, hb, hml, hown, hts⟩
  have hl := lv_entry [.ref (G.2.2 198), .int a0, .int a1] (n := 3) (Nat.le_of_ble_eq_true rfl)
  rw [lg_entry_eq]
  generalize (lg_sl [.ref (G.2.2 198), .int a0, .int a1] ++ List.replicate (3 - (lg_sl [.ref (G.2.2 198), .int a0, .int a1]).length) Slot.unset).toArray = ls at hl ⊢
  have hl : lv_has ls 3 [(0, .ref (G.2.2 198)), (1, .int a0), (2, .int a1)] := hl
  unfold f_X10_areNeighbours at ho
  refine lv_iload_n hx hb dX10_areNeighbours_0 rfl (lv_at hl 1 rfl) ?_
  obtain ⟨q1, hq1, ho⟩ := bnd_ ho
  refine k_iS (As := [.int a0]) (rest := []) S F B (c_X10_isCell l G σ _ a0 hq1) (va_cwS 1 hts gX10_areNeighbours_X10_isCell rfl rfl rfl (by decide +kernel) ⟨Nat.le_of_ble_eq_true rfl, Nat.le_of_ble_eq_true rfl⟩) rfl hl.1 rfl (Nat.le_of_ble_eq_true rfl) dX10_areNeighbours_1 ⟨Nat.le_of_ble_eq_true rfl, Nat.le_of_ble_eq_true rfl⟩ (fun H locs B => ?_)
  refine lv_if_eq (tgt := 14) hx hb dX10_areNeighbours_4 (by decide) (fun c2 => ?_) (fun c2 => ?_)
  · have ho := ip_ c2 ho
    refine lv_aload_n hx hb dX10_areNeighbours_14 rfl (lv_at hl 0 rfl) ?_
    refine lv_iconst (v := 1) hx hb dX10_areNeighbours_15 (by decide) ?_
    refine lv_iconst (v := 0) hx hb dX10_areNeighbours_16 (by decide) ?_
    obtain ⟨q3, σ4, hq3, ho⟩ := bnm_ ho
    refine k_iV (As := [.int 1, .int 0]) (rest := []) S F B (c_X10_refuse l G σ _ 1 0 hq3) (kq (by decide) : kd 198 = 21 ∧ 198 < NN) rfl rfl (cwV 2 hts gX10_areNeighbours_X10_refuse rfl rfl rfl (by decide +kernel) ⟨Nat.le_of_ble_eq_true rfl, Nat.le_of_ble_eq_true rfl⟩) rfl hl.1 rfl (Nat.le_of_ble_eq_true rfl) dX10_areNeighbours_17 ⟨Nat.le_of_ble_eq_true rfl, Nat.le_of_ble_eq_true rfl⟩ (fun H locs B => ?_)
    refine lv_pop hx hb dX10_areNeighbours_20 rfl ?_
    refine lv_iconst (v := 0) hx hb dX10_areNeighbours_21 (by decide) ?_
    cases ho
    exact e_i B hx hb hr hlocks rfl rfl dX10_areNeighbours_22
  · have ho := in_ c2 ho
    refine lv_iload_n hx hb dX10_areNeighbours_7 rfl (lv_at hl 2 rfl) ?_
    obtain ⟨q5, hq5, ho⟩ := bnd_ ho
    refine k_iS (As := [.int a1]) (rest := []) S F B (c_X10_isCell l G σ _ a1 hq5) (va_cwS 1 hts gX10_areNeighbours_X10_isCell rfl rfl rfl (by decide +kernel) ⟨Nat.le_of_ble_eq_true rfl, Nat.le_of_ble_eq_true rfl⟩) rfl hl.1 rfl (Nat.le_of_ble_eq_true rfl) dX10_areNeighbours_8 ⟨Nat.le_of_ble_eq_true rfl, Nat.le_of_ble_eq_true rfl⟩ (fun H locs B => ?_)
    refine lv_if_ne (tgt := 23) hx hb dX10_areNeighbours_11 (by decide) (fun c6 => ?_) (fun c6 => ?_)
    · have ho := in_ c6 ho
      refine lv_iload_n hx hb dX10_areNeighbours_23 rfl (lv_at hl 1 rfl) ?_
      refine lv_iload_n hx hb dX10_areNeighbours_24 rfl (lv_at hl 2 rfl) ?_
      obtain ⟨q7, hq7, ho⟩ := bnd_ ho
      refine k_iS (As := [.int a0, .int a1]) (rest := []) S F B (c_X10_hedgeAt l G σ _ a0 a1 hq7) (va_cwS 2 hts gX10_areNeighbours_X10_hedgeAt rfl rfl rfl (by decide +kernel) ⟨Nat.le_of_ble_eq_true rfl, Nat.le_of_ble_eq_true rfl⟩) rfl hl.1 rfl (Nat.le_of_ble_eq_true rfl) dX10_areNeighbours_25 ⟨Nat.le_of_ble_eq_true rfl, Nat.le_of_ble_eq_true rfl⟩ (fun H locs B => ?_)
      refine lv_iconst (v := (-1)) hx hb dX10_areNeighbours_28 (by decide) ?_
      refine lv_icmp_ne (tgt := 45) hx hb dX10_areNeighbours_29 (by decide) (fun c8 => ?_) (fun c8 => ?_)
      · have ho := in_ c8 ho
        refine lv_iconst (v := 1) hx hb dX10_areNeighbours_45 (by decide) ?_
        cases ho
        exact e_i B hx hb hr hlocks rfl rfl dX10_areNeighbours_46
      · have ho := ip_ c8 ho
        refine lv_aload_n hx hb dX10_areNeighbours_32 rfl (lv_at hl 0 rfl) ?_
        refine lv_iconst (v := 2) hx hb dX10_areNeighbours_33 (by decide) ?_
        refine lv_iload_n hx hb dX10_areNeighbours_34 rfl (lv_at hl 1 rfl) ?_
        refine lv_iload_n hx hb dX10_areNeighbours_35 rfl (lv_at hl 2 rfl) ?_
        refine va_mmax hx hb (hml.trans hl.1.symm) hown (hts _ (by decide +kernel)) (hts _ (by decide +kernel)) (hts _ (by decide +kernel)) (hts _ (by decide +kernel)) (Nat.le_of_ble_eq_true rfl) (Nat.le_of_ble_eq_true rfl) (Nat.le_of_ble_eq_true rfl) (Nat.le_of_ble_eq_true rfl) dX10_areNeighbours_36 ?_
        obtain ⟨q9, σ10, hq9, ho⟩ := bnm_ ho
        refine k_iV (As := [.int 2, .int (if a0 < a1 then a1 else a0)]) (rest := []) S F B (c_X10_refuse l G σ _ 2 (if a0 < a1 then a1 else a0) hq9) (kq (by decide) : kd 198 = 21 ∧ 198 < NN) rfl rfl (cwV 2 hts gX10_areNeighbours_X10_refuse rfl rfl rfl (by decide +kernel) ⟨Nat.le_of_ble_eq_true rfl, Nat.le_of_ble_eq_true rfl⟩) rfl hl.1 rfl (Nat.le_of_ble_eq_true rfl) dX10_areNeighbours_39 ⟨Nat.le_of_ble_eq_true rfl, Nat.le_of_ble_eq_true rfl⟩ (fun H locs B => ?_)
        refine lv_pop hx hb dX10_areNeighbours_42 rfl ?_
        refine lv_iconst (v := 0) hx hb dX10_areNeighbours_43 (by decide) ?_
        cases ho
        exact e_i B hx hb hr hlocks rfl rfl dX10_areNeighbours_44
    · have ho := ip_ c6 ho
      refine lv_aload_n hx hb dX10_areNeighbours_14 rfl (lv_at hl 0 rfl) ?_
      refine lv_iconst (v := 1) hx hb dX10_areNeighbours_15 (by decide) ?_
      refine lv_iconst (v := 0) hx hb dX10_areNeighbours_16 (by decide) ?_
      obtain ⟨q11, σ12, hq11, ho⟩ := bnm_ ho
      refine k_iV (As := [.int 1, .int 0]) (rest := []) S F B (c_X10_refuse l G σ _ 1 0 hq11) (kq (by decide) : kd 198 = 21 ∧ 198 < NN) rfl rfl (cwV 2 hts gX10_areNeighbours_X10_refuse rfl rfl rfl (by decide +kernel) ⟨Nat.le_of_ble_eq_true rfl, Nat.le_of_ble_eq_true rfl⟩) rfl hl.1 rfl (Nat.le_of_ble_eq_true rfl) dX10_areNeighbours_17 ⟨Nat.le_of_ble_eq_true rfl, Nat.le_of_ble_eq_true rfl⟩ (fun H locs B => ?_)
      refine lv_pop hx hb dX10_areNeighbours_20 rfl ?_
      refine lv_iconst (v := 0) hx hb dX10_areNeighbours_21 (by decide) ?_
      cases ho
      exact e_i B hx hb hr hlocks rfl rfl dX10_areNeighbours_22

set_option maxHeartbeats 4000000 in
set_option maxRecDepth 100000 in
theorem c_X10_hedgeIt (l : Launch) (G : Gd) (σ : Mm) (sz : Nat) (a0 : Int32) (a1 : Int32) (a2 : Int32) {out : Int32 × Mm} (ho : f_X10_hedgeIt a0 a1 a2 σ = some out) : Met l yX10_hedgeIt wsX10_hedgeIt { frames := 3, cells := 0, slots := 0, locals := 77 } (va_Pc [.ref (G.2.2 198), .int a0, .int a1, .int a2] (PW G σ sz)) (Qi G sz out.1 out.2) 0 0 (AA G sz) := by
  refine Met.ofW (cc := cX10_hedgeIt) (maxL := 6) (ret := (some .int)) (by decide) rfl ?_
  intro p e s m args below meth c s₁ B0 hml hv
  obtain ⟨rfl, hpw⟩ := hv
  have hsz := hpw.1
  subst hsz
  obtain ⟨F, B⟩ := hpw.to
  have hx := B0.exec
  have hb := B0.bytes
  have hr := B0.returns
  have hts := atoms_spec (ws := wsX10_hedgeIt) B0.pre
  have hown : s.vm.findClass RX10 = some m.cls := findClass_of_methodNamed B0.named
  have hlocks := B0.notSynchronized
  have S : CallFix p m c cX10_hedgeIt 6 s _ wsX10_hedgeIt RX10 := ⟨hx, hb, hml, hown, hts⟩
  have hiX10 : ∀ w ∈ u_ws RX10 TX10 21, w ∈ wsX10_hedgeIt := by decide +kernel
  have hl := lv_entry [.ref (G.2.2 198), .int a0, .int a1, .int a2] (n := 6) (Nat.le_of_ble_eq_true rfl)
  rw [lg_entry_eq]
  generalize (lg_sl [.ref (G.2.2 198), .int a0, .int a1, .int a2] ++ List.replicate (6 - (lg_sl [.ref (G.2.2 198), .int a0, .int a1, .int a2]).length) Slot.unset).toArray = ls at hl ⊢
  have hl : lv_has ls 6 [(0, .ref (G.2.2 198)), (1, .int a0), (2, .int a1), (3, .int a2)] := hl
  unfold f_X10_hedgeIt at ho
  refine lv_iload_n hx hb dX10_hedgeIt_0 rfl (lv_at hl 3 rfl) ?_
  refine lv_i2l hx hb dX10_hedgeIt_1 rfl ?_
  refine lv_lconst (v := 0) hx hb dX10_hedgeIt_2 (by decide) ?_
  refine lv_ldc2 (v := 9) hx hb hown (hts _ (by decide +kernel)) dX10_hedgeIt_3 ?_
  obtain ⟨q1, hq1, ho⟩ := bnd_ ho
  refine k_iS (As := [.long a2.toInt64, .long 0, .long 9]) (rest := []) S F B (c_X10_in l G σ _ a2.toInt64 0 9 hq1) (va_cwS 3 hts gX10_hedgeIt_X10_in rfl rfl rfl (by decide +kernel) ⟨Nat.le_of_ble_eq_true rfl, Nat.le_of_ble_eq_true rfl⟩) rfl hl.1 rfl (Nat.le_of_ble_eq_true rfl) dX10_hedgeIt_6 ⟨Nat.le_of_ble_eq_true rfl, Nat.le_of_ble_eq_true rfl⟩ (fun H locs B => ?_)
  refine lv_if_ne (tgt := 19) hx hb dX10_hedgeIt_9 (by decide) (fun c2 => ?_) (fun c2 => ?_)
  · have ho := in_ c2 ho
    refine lv_aload_n hx hb dX10_hedgeIt_19 rfl (lv_at hl 0 rfl) ?_
    refine lv_iload_n hx hb dX10_hedgeIt_20 rfl (lv_at hl 1 rfl) ?_
    refine lv_iload_n hx hb dX10_hedgeIt_21 rfl (lv_at hl 2 rfl) ?_
    obtain ⟨q3, σ4, hq3, ho⟩ := bnm_ ho
    refine k_iV (As := [.int a0, .int a1]) (rest := []) S F B (c_X10_areNeighbours l G σ _ a0 a1 hq3) (kq (by decide) : kd 198 = 21 ∧ 198 < NN) rfl rfl (cwV 2 hts gX10_hedgeIt_X10_areNeighbours rfl rfl rfl (by decide +kernel) ⟨Nat.le_of_ble_eq_true rfl, Nat.le_of_ble_eq_true rfl⟩) rfl hl.1 rfl (Nat.le_of_ble_eq_true rfl) dX10_hedgeIt_22 ⟨Nat.le_of_ble_eq_true rfl, Nat.le_of_ble_eq_true rfl⟩ (fun H locs B => ?_)
    refine lv_if_ne (tgt := 30) hx hb dX10_hedgeIt_25 (by decide) (fun c5 => ?_) (fun c5 => ?_)
    · have ho := in_ c5 ho
      refine lv_iload_n hx hb dX10_hedgeIt_30 rfl (lv_at hl 1 rfl) ?_
      refine lv_iload_n hx hb dX10_hedgeIt_31 rfl (lv_at hl 2 rfl) ?_
      obtain ⟨q6, hq6, ho⟩ := bnd_ ho
      refine k_iS (As := [.int a0, .int a1]) (rest := []) S F B (c_X10_hedgeAt l G σ4 _ a0 a1 hq6) (va_cwS 2 hts gX10_hedgeIt_X10_hedgeAt rfl rfl rfl (by decide +kernel) ⟨Nat.le_of_ble_eq_true rfl, Nat.le_of_ble_eq_true rfl⟩) rfl hl.1 rfl (Nat.le_of_ble_eq_true rfl) dX10_hedgeIt_32 ⟨Nat.le_of_ble_eq_true rfl, Nat.le_of_ble_eq_true rfl⟩ (fun H locs B => ?_)
      refine lv_istore (lv' := [(4, .int q6), (0, .ref (G.2.2 198)), (1, .int a0), (2, .int a1), (3, .int a2)]) hx hb dX10_hedgeIt_35 hl (by decide) rfl (fun ls hl => ?_)
      refine lv_aload_n hx hb dX10_hedgeIt_37 rfl (lv_at hl 1 rfl) ?_
      refine r_get (ci := 14) (C := RX10) (T := TX10) (N := 21) S F B (kq (by decide) : kd 198 = 21 ∧ 198 < NN) rfl rfl hiX10 0 (by decide) (by decide +kernel) rfl dX10_hedgeIt_38 ?_
      refine lv_iload hx hb dX10_hedgeIt_41 (lv_at hl 0 rfl) ?_
      obtain ⟨hi, ho⟩ := gd_ ho
      refine r_iald S F B (kq (by decide) : kd 199 = 22 ∧ 199 < NN) rfl hi dX10_hedgeIt_43 ?_
      obtain ⟨x7, ex7, ho⟩ := lt_ ho
      refine lv_nm ex7 ?_
      refine lv_istore (lv' := [(5, .int x7), (4, .int q6), (0, .ref (G.2.2 198)), (1, .int a0), (2, .int a1), (3, .int a2)]) hx hb dX10_hedgeIt_44 hl (by decide) rfl (fun ls hl => ?_)
      refine lv_iload hx hb dX10_hedgeIt_46 (lv_at hl 0 rfl) ?_
      refine lv_iload_n hx hb dX10_hedgeIt_48 rfl (lv_at hl 5 rfl) ?_
      refine lv_icmp_ne (tgt := 59) hx hb dX10_hedgeIt_49 (by decide) (fun c8 => ?_) (fun c8 => ?_)
      · have ho := in_ c8 ho
        refine lv_aload_n hx hb dX10_hedgeIt_59 rfl (lv_at hl 2 rfl) ?_
        refine r_get (ci := 14) (C := RX10) (T := TX10) (N := 21) S F B (kq (by decide) : kd 198 = 21 ∧ 198 < NN) rfl rfl hiX10 0 (by decide) (by decide +kernel) rfl dX10_hedgeIt_60 ?_
        refine lv_iload hx hb dX10_hedgeIt_63 (lv_at hl 1 rfl) ?_
        refine lv_iload_n hx hb dX10_hedgeIt_65 rfl (lv_at hl 5 rfl) ?_
        obtain ⟨hi, ho⟩ := gd_ ho
        refine r_iast S F B (kq (by decide) : kd 199 = 22 ∧ 199 < NN) (fun _ => rfl) hi dX10_hedgeIt_66 (fun H locs B => ?_)
        obtain ⟨σ9, eσ9, ho⟩ := lt_ ho
        rw [← eσ9] at B
        refine lv_iload hx hb dX10_hedgeIt_67 (lv_at hl 0 rfl) ?_
        cases ho
        exact e_i B hx hb hr hlocks rfl rfl dX10_hedgeIt_69
      · have ho := ip_ c8 ho
        refine lv_aload_n hx hb dX10_hedgeIt_52 rfl (lv_at hl 2 rfl) ?_
        refine lv_iconst (v := 3) hx hb dX10_hedgeIt_53 (by decide) ?_
        refine lv_iload_n hx hb dX10_hedgeIt_54 rfl (lv_at hl 5 rfl) ?_
        obtain ⟨q10, σ11, hq10, ho⟩ := bnm_ ho
        refine k_iV (As := [.int 3, .int a2]) (rest := []) S F B (c_X10_refuse l G σ4 _ 3 a2 hq10) (kq (by decide) : kd 198 = 21 ∧ 198 < NN) rfl rfl (cwV 2 hts gX10_hedgeIt_X10_refuse rfl rfl rfl (by decide +kernel) ⟨Nat.le_of_ble_eq_true rfl, Nat.le_of_ble_eq_true rfl⟩) rfl hl.1 rfl (Nat.le_of_ble_eq_true rfl) dX10_hedgeIt_55 ⟨Nat.le_of_ble_eq_true rfl, Nat.le_of_ble_eq_true rfl⟩ (fun H locs B => ?_)
        cases ho
        exact e_i B hx hb hr hlocks rfl rfl dX10_hedgeIt_58
    · have ho := ip_ c5 ho
      refine lv_iconst (v := (-1)) hx hb dX10_hedgeIt_28 (by decide) ?_
      cases ho
      exact e_i B hx hb hr hlocks rfl rfl dX10_hedgeIt_29
  · have ho := ip_ c2 ho
    refine lv_aload_n hx hb dX10_hedgeIt_12 rfl (lv_at hl 0 rfl) ?_
    refine lv_iconst (v := 1) hx hb dX10_hedgeIt_13 (by decide) ?_
    refine lv_iconst (v := 0) hx hb dX10_hedgeIt_14 (by decide) ?_
    obtain ⟨q12, σ13, hq12, ho⟩ := bnm_ ho
    refine k_iV (As := [.int 1, .int 0]) (rest := []) S F B (c_X10_refuse l G σ _ 1 0 hq12) (kq (by decide) : kd 198 = 21 ∧ 198 < NN) rfl rfl (cwV 2 hts gX10_hedgeIt_X10_refuse rfl rfl rfl (by decide +kernel) ⟨Nat.le_of_ble_eq_true rfl, Nat.le_of_ble_eq_true rfl⟩) rfl hl.1 rfl (Nat.le_of_ble_eq_true rfl) dX10_hedgeIt_15 ⟨Nat.le_of_ble_eq_true rfl, Nat.le_of_ble_eq_true rfl⟩ (fun H locs B => ?_)
    cases ho
    exact e_i B hx hb hr hlocks rfl rfl dX10_hedgeIt_18

set_option maxHeartbeats 4000000 in
set_option maxRecDepth 100000 in
theorem c_X10_hedge (l : Launch) (G : Gd) (σ : Mm) (sz : Nat) (a0 : Int32) (a1 : Int32) (a2 : Int32) {out : Int32 × Mm} (ho : f_X10_hedge a0 a1 a2 σ = some out) : Met l yX10_hedge wsX10_hedge { frames := 4, cells := 0, slots := 0, locals := 102 } (va_Pc [.ref (G.2.2 198), .int a0, .int a1, .int a2] (PW G σ sz)) (Qi G sz out.1 out.2) 0 0 (AA G sz) := by
  refine Met.ofW (cc := cX10_hedge) (maxL := 4) (ret := (some .int)) (by decide) rfl ?_
  intro p e s m args below meth c s₁ B0 hml hv
  obtain ⟨rfl, hpw⟩ := hv
  have hsz := hpw.1
  subst hsz
  obtain ⟨F, B⟩ := hpw.to
  have hx := B0.exec
  have hb := B0.bytes
  have hr := B0.returns
  have hts := atoms_spec (ws := wsX10_hedge) B0.pre
  have hown : s.vm.findClass RX10 = some m.cls := findClass_of_methodNamed B0.named
  have hlocks := B0.notSynchronized
  have S : CallFix p m c cX10_hedge 4 s _ wsX10_hedge RX10 := ⟨hx, hb, hml, hown, hts⟩
  have hl := lv_entry [.ref (G.2.2 198), .int a0, .int a1, .int a2] (n := 4) (Nat.le_of_ble_eq_true rfl)
  rw [lg_entry_eq]
  generalize (lg_sl [.ref (G.2.2 198), .int a0, .int a1, .int a2] ++ List.replicate (4 - (lg_sl [.ref (G.2.2 198), .int a0, .int a1, .int a2]).length) Slot.unset).toArray = ls at hl ⊢
  have hl : lv_has ls 4 [(0, .ref (G.2.2 198)), (1, .int a0), (2, .int a1), (3, .int a2)] := hl
  unfold f_X10_hedge at ho
  refine lv_aload_n hx hb dX10_hedge_0 rfl (lv_at hl 0 rfl) ?_
  obtain ⟨σ2, hq1, ho⟩ := bnd_ ho
  refine k_vV (As := []) (rest := []) S F B (c_X10_starts l G σ _ hq1) (kq (by decide) : kd 198 = 21 ∧ 198 < NN) rfl rfl (cwV 0 hts gX10_hedge_X10_starts rfl rfl rfl (by decide +kernel) ⟨Nat.le_of_ble_eq_true rfl, Nat.le_of_ble_eq_true rfl⟩) rfl hl.1 rfl (Nat.le_of_ble_eq_true rfl) dX10_hedge_1 ⟨Nat.le_of_ble_eq_true rfl, Nat.le_of_ble_eq_true rfl⟩ (fun H locs B => ?_)
  refine lv_aload_n hx hb dX10_hedge_4 rfl (lv_at hl 0 rfl) ?_
  refine lv_aload_n hx hb dX10_hedge_5 rfl (lv_at hl 0 rfl) ?_
  refine lv_iload_n hx hb dX10_hedge_6 rfl (lv_at hl 1 rfl) ?_
  refine lv_iload_n hx hb dX10_hedge_7 rfl (lv_at hl 2 rfl) ?_
  refine lv_iload_n hx hb dX10_hedge_8 rfl (lv_at hl 3 rfl) ?_
  obtain ⟨q3, σ4, hq3, ho⟩ := bnm_ ho
  refine k_iV (As := [.int a0, .int a1, .int a2]) (rest := [.ref (G.2.2 198)]) S F B (c_X10_hedgeIt l G σ2 _ a0 a1 a2 hq3) (kq (by decide) : kd 198 = 21 ∧ 198 < NN) rfl rfl (cwV 3 hts gX10_hedge_X10_hedgeIt rfl rfl rfl (by decide +kernel) ⟨Nat.le_of_ble_eq_true rfl, Nat.le_of_ble_eq_true rfl⟩) rfl hl.1 rfl (Nat.le_of_ble_eq_true rfl) dX10_hedge_9 ⟨Nat.le_of_ble_eq_true rfl, Nat.le_of_ble_eq_true rfl⟩ (fun H locs B => ?_)
  obtain ⟨q5, σ6, hq5, ho⟩ := bnm_ ho
  refine k_iV (As := [.int q3]) (rest := []) S F B (c_X10_changed l G σ4 _ q3 hq5) (kq (by decide) : kd 198 = 21 ∧ 198 < NN) rfl rfl (cwV 1 hts gX10_hedge_X10_changed rfl rfl rfl (by decide +kernel) ⟨Nat.le_of_ble_eq_true rfl, Nat.le_of_ble_eq_true rfl⟩) rfl hl.1 rfl (Nat.le_of_ble_eq_true rfl) dX10_hedge_12 ⟨Nat.le_of_ble_eq_true rfl, Nat.le_of_ble_eq_true rfl⟩ (fun H locs B => ?_)
  cases ho
  exact e_i B hx hb hr hlocks rfl rfl dX10_hedge_15

set_option maxHeartbeats 4000000 in
set_option maxRecDepth 100000 in
theorem c_X10_summerIt (l : Launch) (G : Gd) (σ : Mm) (sz : Nat) {out : Int32 × Mm} (ho : f_X10_summerIt σ = some out) : Met l yX10_summerIt wsX10_summerIt { frames := 2, cells := 0, slots := 0, locals := 43 } (va_Pc [.ref (G.2.2 198)] (PW G σ sz)) (Qi G sz out.1 out.2) 0 0 (AA G sz) := by
  refine Met.ofW (cc := cX10_summerIt) (maxL := 3) (ret := (some .int)) (by decide) rfl ?_
  intro p e s m args below meth c s₁ B0 hml hv
  obtain ⟨rfl, hpw⟩ := hv
  have hsz := hpw.1
  subst hsz
  obtain ⟨F, B⟩ := hpw.to
  have hx := B0.exec
  have hb := B0.bytes
  have hr := B0.returns
  have hts := atoms_spec (ws := wsX10_summerIt) B0.pre
  have hown : s.vm.findClass RX10 = some m.cls := findClass_of_methodNamed B0.named
  have hlocks := B0.notSynchronized
  have S : CallFix p m c cX10_summerIt 3 s _ wsX10_summerIt RX10 := ⟨hx, hb, hml, hown, hts⟩
  have hiX10 : ∀ w ∈ u_ws RX10 TX10 21, w ∈ wsX10_summerIt := by decide +kernel
  have hl := lv_entry [.ref (G.2.2 198)] (n := 3) (Nat.le_of_ble_eq_true rfl)
  rw [lg_entry_eq]
  generalize (lg_sl [.ref (G.2.2 198)] ++ List.replicate (3 - (lg_sl [.ref (G.2.2 198)]).length) Slot.unset).toArray = ls at hl ⊢
  have hl : lv_has ls 3 [(0, .ref (G.2.2 198))] := hl
  unfold f_X10_summerIt at ho
  skip
  refine lv_aload_n hx hb dX10_summerIt_0 rfl (lv_at hl 0 rfl) ?_
  obtain ⟨q1, hq1, ho⟩ := bnd_ ho
  refine k_iV (As := []) (rest := []) S F B (c_X10_gaps l G σ _ hq1) (kq (by decide) : kd 198 = 21 ∧ 198 < NN) rfl rfl (cwV 0 hts gX10_summerIt_X10_gaps rfl rfl rfl (by decide +kernel) ⟨Nat.le_of_ble_eq_true rfl, Nat.le_of_ble_eq_true rfl⟩) rfl hl.1 rfl (Nat.le_of_ble_eq_true rfl) dX10_summerIt_1 ⟨Nat.le_of_ble_eq_true rfl, Nat.le_of_ble_eq_true rfl⟩ (fun H locs B => ?_)
  refine lv_istore_n (lv' := [(1, .int q1), (0, .ref (G.2.2 198))]) hx hb dX10_summerIt_4 rfl hl (by decide) rfl (fun ls hl => ?_)
  refine lv_iconst (v := 0) hx hb dX10_summerIt_5 (by decide) ?_
  refine lv_istore_n (lv' := [(2, .int 0), (1, .int q1), (0, .ref (G.2.2 198))]) hx hb dX10_summerIt_6 rfl hl (by decide) rfl (fun ls hl => ?_)
  have hloop7 : ∀ (n : Nat) (v5 : Int32) (σ6 : Mm) (H : Heap) (locs : List Loc) (ls : Array Slot), f_X10_summerIt_l7  q1 n v5 σ6 = some out → Bd G σ6 s H locs → lv_has ls 3 [(2, .int v5), (1, .int q1), (0, .ref (G.2.2 198))] → W p l e (headSpec wsX10_summerIt { frames := 2, cells := 0, slots := 0, locals := 43 }).room s m #[.ref (G.2.2 198)] below meth c H locs 0 0 (MQ below (Qi G s.heap.size out.1 out.2) #[.ref (G.2.2 198)] s 0 0 (AA G s.heap.size)) (F0 m 7 ls []) := by
    intro n
    induction n with
    | zero => intro v5 σ6 H locs ls ho B hl; cases ho
    | succ n ih =>
      intro v5 σ6 H locs ls ho B hl
      refine lv_iload_n hx hb dX10_summerIt_7 rfl (lv_at hl 0 rfl) ?_
      refine lv_bipush (v := 24) hx hb dX10_summerIt_8 (by decide) ?_
      refine lv_icmp_ge (tgt := 44) hx hb dX10_summerIt_10 (by decide) (fun c7 => ?_) (fun c7 => ?_)
      · have ho := ip_ c7 ho
        refine lv_aload_n hx hb dX10_summerIt_44 rfl (lv_at hl 2 rfl) ?_
        refine r_get (ci := 14) (C := RX10) (T := TX10) (N := 21) S F B (kq (by decide) : kd 198 = 21 ∧ 198 < NN) rfl rfl hiX10 0 (by decide) (by decide +kernel) rfl dX10_summerIt_45 ?_
        refine lv_iconst (v := 3) hx hb dX10_summerIt_48 (by decide) ?_
        refine lv_dup2_11 hx hb dX10_summerIt_49 rfl rfl ?_
        refine r_ialdc (j := 3) S F B (kq (by decide) : kd 199 = 22 ∧ 199 < NN) rfl (vpc (by decide)) (by decide) dX10_summerIt_50 ?_
        refine lv_iconst (v := 1) hx hb dX10_summerIt_51 (by decide) ?_
        refine lv_iadd hx hb dX10_summerIt_52 ?_
        refine r_iastc (j := 3) S F B (kq (by decide) : kd 199 = 22 ∧ 199 < NN) (fun _ => rfl) (vpc (by decide)) (by decide) dX10_summerIt_53 (fun H locs B => ?_)
        obtain ⟨σ8, eσ8, ho⟩ := lt_ ho
        rw [← eσ8] at B
        refine lv_iload_n hx hb dX10_summerIt_54 rfl (lv_at hl 1 rfl) ?_
        refine lv_aload_n hx hb dX10_summerIt_55 rfl (lv_at hl 2 rfl) ?_
        obtain ⟨q9, hq9, ho⟩ := bnd_ ho
        refine k_iV (As := []) (rest := [.int q1]) S F B (c_X10_gaps l G σ8 _ hq9) (kq (by decide) : kd 198 = 21 ∧ 198 < NN) rfl rfl (cwV 0 hts gX10_summerIt_X10_gaps rfl rfl rfl (by decide +kernel) ⟨Nat.le_of_ble_eq_true rfl, Nat.le_of_ble_eq_true rfl⟩) rfl hl.1 rfl (Nat.le_of_ble_eq_true rfl) dX10_summerIt_56 ⟨Nat.le_of_ble_eq_true rfl, Nat.le_of_ble_eq_true rfl⟩ (fun H locs B => ?_)
        refine lv_isub hx hb dX10_summerIt_59 ?_
        cases ho
        exact e_i B hx hb hr hlocks rfl rfl dX10_summerIt_60
      · have ho := in_ c7 ho
        refine lv_aload_n hx hb dX10_summerIt_13 rfl (lv_at hl 2 rfl) ?_
        refine r_get (ci := 14) (C := RX10) (T := TX10) (N := 21) S F B (kq (by decide) : kd 198 = 21 ∧ 198 < NN) rfl rfl hiX10 0 (by decide) (by decide +kernel) rfl dX10_summerIt_14 ?_
        refine lv_bipush (v := 6) hx hb dX10_summerIt_17 (by decide) ?_
        refine lv_iload_n hx hb dX10_summerIt_19 rfl (lv_at hl 0 rfl) ?_
        refine lv_iadd hx hb dX10_summerIt_20 ?_
        refine lv_bipush (v := 9) hx hb dX10_summerIt_21 (by decide) ?_
        refine lv_aload_n hx hb dX10_summerIt_23 rfl (lv_at hl 2 rfl) ?_
        refine r_get (ci := 14) (C := RX10) (T := TX10) (N := 21) S F B (kq (by decide) : kd 198 = 21 ∧ 198 < NN) rfl rfl hiX10 0 (by decide) (by decide +kernel) rfl dX10_summerIt_24 ?_
        refine lv_bipush (v := 6) hx hb dX10_summerIt_27 (by decide) ?_
        refine lv_iload_n hx hb dX10_summerIt_29 rfl (lv_at hl 0 rfl) ?_
        refine lv_iadd hx hb dX10_summerIt_30 ?_
        obtain ⟨hi, ho⟩ := gd_ ho
        refine r_iald S F B (kq (by decide) : kd 199 = 22 ∧ 199 < NN) rfl hi dX10_summerIt_31 ?_
        refine lv_iconst (v := 1) hx hb dX10_summerIt_32 (by decide) ?_
        refine lv_iadd hx hb dX10_summerIt_33 ?_
        refine va_mmin hx hb (hml.trans hl.1.symm) hown (hts _ (by decide +kernel)) (hts _ (by decide +kernel)) (hts _ (by decide +kernel)) (hts _ (by decide +kernel)) (Nat.le_of_ble_eq_true rfl) (Nat.le_of_ble_eq_true rfl) (Nat.le_of_ble_eq_true rfl) (Nat.le_of_ble_eq_true rfl) dX10_summerIt_34 ?_
        obtain ⟨hi, ho⟩ := gd_ ho
        refine r_iast S F B (kq (by decide) : kd 199 = 22 ∧ 199 < NN) (fun _ => rfl) hi dX10_summerIt_37 (fun H locs B => ?_)
        obtain ⟨σ10, eσ10, ho⟩ := lt_ ho
        rw [← eσ10] at B
        obtain ⟨x11, ex11, ho⟩ := lt_ ho
        refine lv_iinc (v := x11) (lv' := [(2, .int x11), (1, .int q1), (0, .ref (G.2.2 198))]) hx hb dX10_summerIt_38 hl (k := 0) rfl (by rw [ex11]; rfl) (by decide) rfl (fun ls hl => ?_)
        refine lv_goto (tgt := 7) hx hb dX10_summerIt_41 (by decide) ?_
        exact ih _ _ _ _ _ ho B (lv_sub hl [0, 1, 2] rfl)
  exact hloop7 30 _ _ _ _ _ ho B hl

set_option maxHeartbeats 4000000 in
set_option maxRecDepth 100000 in
theorem c_X10_summer (l : Launch) (G : Gd) (σ : Mm) (sz : Nat) {out : Int32 × Mm} (ho : f_X10_summer σ = some out) : Met l yX10_summer wsX10_summer { frames := 3, cells := 0, slots := 0, locals := 65 } (va_Pc [.ref (G.2.2 198)] (PW G σ sz)) (Qi G sz out.1 out.2) 0 0 (AA G sz) := by
  refine Met.ofW (cc := cX10_summer) (maxL := 1) (ret := (some .int)) (by decide) rfl ?_
  intro p e s m args below meth c s₁ B0 hml hv
  obtain ⟨rfl, hpw⟩ := hv
  have hsz := hpw.1
  subst hsz
  obtain ⟨F, B⟩ := hpw.to
  have hx := B0.exec
  have hb := B0.bytes
  have hr := B0.returns
  have hts := atoms_spec (ws := wsX10_summer) B0.pre
  have hown : s.vm.findClass RX10 = some m.cls := findClass_of_methodNamed B0.named
  have hlocks := B0.notSynchronized
  have S : CallFix p m c cX10_summer 1 s _ wsX10_summer RX10 := ⟨hx, hb, hml, hown, hts⟩
  have hl := lv_entry [.ref (G.2.2 198)] (n := 1) (Nat.le_of_ble_eq_true rfl)
  rw [lg_entry_eq]
  generalize (lg_sl [.ref (G.2.2 198)] ++ List.replicate (1 - (lg_sl [.ref (G.2.2 198)]).length) Slot.unset).toArray = ls at hl ⊢
  have hl : lv_has ls 1 [(0, .ref (G.2.2 198))] := hl
  unfold f_X10_summer at ho
  refine lv_aload_n hx hb dX10_summer_0 rfl (lv_at hl 0 rfl) ?_
  obtain ⟨σ2, hq1, ho⟩ := bnd_ ho
  refine k_vV (As := []) (rest := []) S F B (c_X10_starts l G σ _ hq1) (kq (by decide) : kd 198 = 21 ∧ 198 < NN) rfl rfl (cwV 0 hts gX10_summer_X10_starts rfl rfl rfl (by decide +kernel) ⟨Nat.le_of_ble_eq_true rfl, Nat.le_of_ble_eq_true rfl⟩) rfl hl.1 rfl (Nat.le_of_ble_eq_true rfl) dX10_summer_1 ⟨Nat.le_of_ble_eq_true rfl, Nat.le_of_ble_eq_true rfl⟩ (fun H locs B => ?_)
  refine lv_aload_n hx hb dX10_summer_4 rfl (lv_at hl 0 rfl) ?_
  refine lv_aload_n hx hb dX10_summer_5 rfl (lv_at hl 0 rfl) ?_
  obtain ⟨q3, σ4, hq3, ho⟩ := bnm_ ho
  refine k_iV (As := []) (rest := [.ref (G.2.2 198)]) S F B (c_X10_summerIt l G σ2 _ hq3) (kq (by decide) : kd 198 = 21 ∧ 198 < NN) rfl rfl (cwV 0 hts gX10_summer_X10_summerIt rfl rfl rfl (by decide +kernel) ⟨Nat.le_of_ble_eq_true rfl, Nat.le_of_ble_eq_true rfl⟩) rfl hl.1 rfl (Nat.le_of_ble_eq_true rfl) dX10_summer_6 ⟨Nat.le_of_ble_eq_true rfl, Nat.le_of_ble_eq_true rfl⟩ (fun H locs B => ?_)
  obtain ⟨q5, σ6, hq5, ho⟩ := bnm_ ho
  refine k_iV (As := [.int q3]) (rest := []) S F B (c_X10_changed l G σ4 _ q3 hq5) (kq (by decide) : kd 198 = 21 ∧ 198 < NN) rfl rfl (cwV 1 hts gX10_summer_X10_changed rfl rfl rfl (by decide +kernel) ⟨Nat.le_of_ble_eq_true rfl, Nat.le_of_ble_eq_true rfl⟩) rfl hl.1 rfl (Nat.le_of_ble_eq_true rfl) dX10_summer_9 ⟨Nat.le_of_ble_eq_true rfl, Nat.le_of_ble_eq_true rfl⟩ (fun H locs B => ?_)
  cases ho
  exact e_i B hx hb hr hlocks rfl rfl dX10_summer_12

set_option maxHeartbeats 4000000 in
set_option maxRecDepth 100000 in
theorem c_X10_trimIt (l : Launch) (G : Gd) (σ : Mm) (sz : Nat) (a0 : Int32) (a1 : Int32) (a2 : Int32) {out : Int32 × Mm} (ho : f_X10_trimIt a0 a1 a2 σ = some out) : Met l yX10_trimIt wsX10_trimIt { frames := 3, cells := 0, slots := 0, locals := 77 } (va_Pc [.ref (G.2.2 198), .int a0, .int a1, .int a2] (PW G σ sz)) (Qi G sz out.1 out.2) 0 0 (AA G sz) := by
  refine Met.ofW (cc := cX10_trimIt) (maxL := 6) (ret := (some .int)) (by decide) rfl ?_
  intro p e s m args below meth c s₁ B0 hml hv
  obtain ⟨rfl, hpw⟩ := hv
  have hsz := hpw.1
  subst hsz
  obtain ⟨F, B⟩ := hpw.to
  have hx := B0.exec
  have hb := B0.bytes
  have hr := B0.returns
  have hts := atoms_spec (ws := wsX10_trimIt) B0.pre
  have hown : s.vm.findClass RX10 = some m.cls := findClass_of_methodNamed B0.named
  have hlocks := B0.notSynchronized
  have S : CallFix p m c cX10_trimIt 6 s _ wsX10_trimIt RX10 := ⟨hx, hb, hml, hown, hts⟩
  have hiX10 : ∀ w ∈ u_ws RX10 TX10 21, w ∈ wsX10_trimIt := by decide +kernel
  have hl := lv_entry [.ref (G.2.2 198), .int a0, .int a1, .int a2] (n := 6) (Nat.le_of_ble_eq_true rfl)
  rw [lg_entry_eq]
  generalize (lg_sl [.ref (G.2.2 198), .int a0, .int a1, .int a2] ++ List.replicate (6 - (lg_sl [.ref (G.2.2 198), .int a0, .int a1, .int a2]).length) Slot.unset).toArray = ls at hl ⊢
  have hl : lv_has ls 6 [(0, .ref (G.2.2 198)), (1, .int a0), (2, .int a1), (3, .int a2)] := hl
  unfold f_X10_trimIt at ho
  refine lv_aload_n hx hb dX10_trimIt_0 rfl (lv_at hl 0 rfl) ?_
  refine lv_iload_n hx hb dX10_trimIt_1 rfl (lv_at hl 1 rfl) ?_
  obtain ⟨q1, hq1, ho⟩ := bnd_ ho
  refine k_iV (As := [.int a0]) (rest := []) S F B (c_X10_isGardener l G σ _ a0 hq1) (kq (by decide) : kd 198 = 21 ∧ 198 < NN) rfl rfl (cwV 1 hts gX10_trimIt_X10_isGardener rfl rfl rfl (by decide +kernel) ⟨Nat.le_of_ble_eq_true rfl, Nat.le_of_ble_eq_true rfl⟩) rfl hl.1 rfl (Nat.le_of_ble_eq_true rfl) dX10_trimIt_2 ⟨Nat.le_of_ble_eq_true rfl, Nat.le_of_ble_eq_true rfl⟩ (fun H locs B => ?_)
  refine lv_if_ne (tgt := 20) hx hb dX10_trimIt_5 (by decide) (fun c2 => ?_) (fun c2 => ?_)
  · have ho := in_ c2 ho
    refine lv_aload_n hx hb dX10_trimIt_20 rfl (lv_at hl 0 rfl) ?_
    refine lv_iload_n hx hb dX10_trimIt_21 rfl (lv_at hl 2 rfl) ?_
    refine lv_iload_n hx hb dX10_trimIt_22 rfl (lv_at hl 3 rfl) ?_
    obtain ⟨q3, σ4, hq3, ho⟩ := bnm_ ho
    refine k_iV (As := [.int a1, .int a2]) (rest := []) S F B (c_X10_areNeighbours l G σ _ a1 a2 hq3) (kq (by decide) : kd 198 = 21 ∧ 198 < NN) rfl rfl (cwV 2 hts gX10_trimIt_X10_areNeighbours rfl rfl rfl (by decide +kernel) ⟨Nat.le_of_ble_eq_true rfl, Nat.le_of_ble_eq_true rfl⟩) rfl hl.1 rfl (Nat.le_of_ble_eq_true rfl) dX10_trimIt_23 ⟨Nat.le_of_ble_eq_true rfl, Nat.le_of_ble_eq_true rfl⟩ (fun H locs B => ?_)
    refine lv_if_ne (tgt := 31) hx hb dX10_trimIt_26 (by decide) (fun c5 => ?_) (fun c5 => ?_)
    · have ho := in_ c5 ho
      refine lv_iload_n hx hb dX10_trimIt_31 rfl (lv_at hl 2 rfl) ?_
      refine lv_iload_n hx hb dX10_trimIt_32 rfl (lv_at hl 3 rfl) ?_
      obtain ⟨q6, hq6, ho⟩ := bnd_ ho
      refine k_iS (As := [.int a1, .int a2]) (rest := []) S F B (c_X10_hedgeAt l G σ4 _ a1 a2 hq6) (va_cwS 2 hts gX10_trimIt_X10_hedgeAt rfl rfl rfl (by decide +kernel) ⟨Nat.le_of_ble_eq_true rfl, Nat.le_of_ble_eq_true rfl⟩) rfl hl.1 rfl (Nat.le_of_ble_eq_true rfl) dX10_trimIt_33 ⟨Nat.le_of_ble_eq_true rfl, Nat.le_of_ble_eq_true rfl⟩ (fun H locs B => ?_)
      refine lv_istore (lv' := [(4, .int q6), (0, .ref (G.2.2 198)), (1, .int a0), (2, .int a1), (3, .int a2)]) hx hb dX10_trimIt_36 hl (by decide) rfl (fun ls hl => ?_)
      refine lv_iload_n hx hb dX10_trimIt_38 rfl (lv_at hl 2 rfl) ?_
      obtain ⟨q7, hq7, ho⟩ := bnd_ ho
      refine k_iS (As := [.int a0]) (rest := []) S F B (c_X10_gardenerAt l G σ4 _ a0 hq7) (va_cwS 1 hts gX10_trimIt_X10_gardenerAt rfl rfl rfl (by decide +kernel) ⟨Nat.le_of_ble_eq_true rfl, Nat.le_of_ble_eq_true rfl⟩) rfl hl.1 rfl (Nat.le_of_ble_eq_true rfl) dX10_trimIt_39 ⟨Nat.le_of_ble_eq_true rfl, Nat.le_of_ble_eq_true rfl⟩ (fun H locs B => ?_)
      refine lv_istore (lv' := [(5, .int q7), (4, .int q6), (0, .ref (G.2.2 198)), (1, .int a0), (2, .int a1), (3, .int a2)]) hx hb dX10_trimIt_42 hl (by decide) rfl (fun ls hl => ?_)
      refine lv_aload_n hx hb dX10_trimIt_44 rfl (lv_at hl 2 rfl) ?_
      refine r_get (ci := 14) (C := RX10) (T := TX10) (N := 21) S F B (kq (by decide) : kd 198 = 21 ∧ 198 < NN) rfl rfl hiX10 0 (by decide) (by decide +kernel) rfl dX10_trimIt_45 ?_
      refine lv_iload hx hb dX10_trimIt_48 (lv_at hl 1 rfl) ?_
      obtain ⟨hi, ho⟩ := gd_ ho
      refine r_iald S F B (kq (by decide) : kd 199 = 22 ∧ 199 < NN) rfl hi dX10_trimIt_50 ?_
      refine lv_if_ne (tgt := 61) hx hb dX10_trimIt_51 (by decide) (fun c8 => ?_) (fun c8 => ?_)
      · have ho := in_ c8 ho
        refine lv_aload_n hx hb dX10_trimIt_61 rfl (lv_at hl 2 rfl) ?_
        refine r_get (ci := 14) (C := RX10) (T := TX10) (N := 21) S F B (kq (by decide) : kd 198 = 21 ∧ 198 < NN) rfl rfl hiX10 0 (by decide) (by decide +kernel) rfl dX10_trimIt_62 ?_
        refine lv_iload hx hb dX10_trimIt_65 (lv_at hl 0 rfl) ?_
        obtain ⟨hi, ho⟩ := gd_ ho
        refine r_iald S F B (kq (by decide) : kd 199 = 22 ∧ 199 < NN) rfl hi dX10_trimIt_67 ?_
        refine lv_iconst (v := 2) hx hb dX10_trimIt_68 (by decide) ?_
        refine lv_icmp_ge (tgt := 87) hx hb dX10_trimIt_69 (by decide) (fun c9 => ?_) (fun c9 => ?_)
        · have ho := ip_ c9 ho
          refine lv_aload_n hx hb dX10_trimIt_87 rfl (lv_at hl 2 rfl) ?_
          refine r_get (ci := 14) (C := RX10) (T := TX10) (N := 21) S F B (kq (by decide) : kd 198 = 21 ∧ 198 < NN) rfl rfl hiX10 0 (by decide) (by decide +kernel) rfl dX10_trimIt_88 ?_
          refine lv_iload hx hb dX10_trimIt_91 (lv_at hl 1 rfl) ?_
          refine lv_iconst (v := 0) hx hb dX10_trimIt_93 (by decide) ?_
          obtain ⟨hi, ho⟩ := gd_ ho
          refine r_iast S F B (kq (by decide) : kd 199 = 22 ∧ 199 < NN) (fun _ => rfl) hi dX10_trimIt_94 (fun H locs B => ?_)
          obtain ⟨σ10, eσ10, ho⟩ := lt_ ho
          rw [← eσ10] at B
          refine lv_aload_n hx hb dX10_trimIt_95 rfl (lv_at hl 2 rfl) ?_
          refine r_get (ci := 14) (C := RX10) (T := TX10) (N := 21) S F B (kq (by decide) : kd 198 = 21 ∧ 198 < NN) rfl rfl hiX10 0 (by decide) (by decide +kernel) rfl dX10_trimIt_96 ?_
          refine lv_iload hx hb dX10_trimIt_99 (lv_at hl 0 rfl) ?_
          refine lv_dup2_11 hx hb dX10_trimIt_101 rfl rfl ?_
          obtain ⟨hi, ho⟩ := gd_ ho
          refine r_iald S F B (kq (by decide) : kd 199 = 22 ∧ 199 < NN) rfl hi dX10_trimIt_102 ?_
          refine lv_iconst (v := 2) hx hb dX10_trimIt_103 (by decide) ?_
          refine lv_isub hx hb dX10_trimIt_104 ?_
          obtain ⟨hi, ho⟩ := gd_ ho
          refine r_iast S F B (kq (by decide) : kd 199 = 22 ∧ 199 < NN) (fun _ => rfl) hi dX10_trimIt_105 (fun H locs B => ?_)
          obtain ⟨σ11, eσ11, ho⟩ := lt_ ho
          rw [← eσ11] at B
          refine lv_aload_n hx hb dX10_trimIt_106 rfl (lv_at hl 2 rfl) ?_
          refine r_get (ci := 14) (C := RX10) (T := TX10) (N := 21) S F B (kq (by decide) : kd 198 = 21 ∧ 198 < NN) rfl rfl hiX10 0 (by decide) (by decide +kernel) rfl dX10_trimIt_107 ?_
          refine lv_iload hx hb dX10_trimIt_110 (lv_at hl 0 rfl) ?_
          refine lv_iconst (v := 3) hx hb dX10_trimIt_112 (by decide) ?_
          refine lv_iadd hx hb dX10_trimIt_113 ?_
          refine lv_dup2_11 hx hb dX10_trimIt_114 rfl rfl ?_
          obtain ⟨hi, ho⟩ := gd_ ho
          refine r_iald S F B (kq (by decide) : kd 199 = 22 ∧ 199 < NN) rfl hi dX10_trimIt_115 ?_
          refine lv_iconst (v := 1) hx hb dX10_trimIt_116 (by decide) ?_
          refine lv_iadd hx hb dX10_trimIt_117 ?_
          obtain ⟨hi, ho⟩ := gd_ ho
          refine r_iast S F B (kq (by decide) : kd 199 = 22 ∧ 199 < NN) (fun _ => rfl) hi dX10_trimIt_118 (fun H locs B => ?_)
          obtain ⟨σ12, eσ12, ho⟩ := lt_ ho
          rw [← eσ12] at B
          refine lv_aload_n hx hb dX10_trimIt_119 rfl (lv_at hl 2 rfl) ?_
          refine r_get (ci := 14) (C := RX10) (T := TX10) (N := 21) S F B (kq (by decide) : kd 198 = 21 ∧ 198 < NN) rfl rfl hiX10 0 (by decide) (by decide +kernel) rfl dX10_trimIt_120 ?_
          refine lv_iconst (v := 5) hx hb dX10_trimIt_123 (by decide) ?_
          refine lv_dup2_11 hx hb dX10_trimIt_124 rfl rfl ?_
          refine r_ialdc (j := 5) S F B (kq (by decide) : kd 199 = 22 ∧ 199 < NN) rfl (vpc (by decide)) (by decide) dX10_trimIt_125 ?_
          refine lv_iconst (v := 2) hx hb dX10_trimIt_126 (by decide) ?_
          refine lv_iadd hx hb dX10_trimIt_127 ?_
          refine r_iastc (j := 5) S F B (kq (by decide) : kd 199 = 22 ∧ 199 < NN) (fun _ => rfl) (vpc (by decide)) (by decide) dX10_trimIt_128 (fun H locs B => ?_)
          obtain ⟨σ13, eσ13, ho⟩ := lt_ ho
          rw [← eσ13] at B
          refine lv_aload_n hx hb dX10_trimIt_129 rfl (lv_at hl 2 rfl) ?_
          refine r_get (ci := 14) (C := RX10) (T := TX10) (N := 21) S F B (kq (by decide) : kd 198 = 21 ∧ 198 < NN) rfl rfl hiX10 0 (by decide) (by decide +kernel) rfl dX10_trimIt_130 ?_
          refine lv_iload hx hb dX10_trimIt_133 (lv_at hl 0 rfl) ?_
          obtain ⟨hi, ho⟩ := gd_ ho
          refine r_iald S F B (kq (by decide) : kd 199 = 22 ∧ 199 < NN) rfl hi dX10_trimIt_135 ?_
          cases ho
          exact e_i B hx hb hr hlocks rfl rfl dX10_trimIt_136
        · have ho := in_ c9 ho
          refine lv_aload_n hx hb dX10_trimIt_72 rfl (lv_at hl 2 rfl) ?_
          refine lv_iconst (v := 5) hx hb dX10_trimIt_73 (by decide) ?_
          refine lv_iconst (v := 2) hx hb dX10_trimIt_74 (by decide) ?_
          refine lv_aload_n hx hb dX10_trimIt_75 rfl (lv_at hl 2 rfl) ?_
          refine r_get (ci := 14) (C := RX10) (T := TX10) (N := 21) S F B (kq (by decide) : kd 198 = 21 ∧ 198 < NN) rfl rfl hiX10 0 (by decide) (by decide +kernel) rfl dX10_trimIt_76 ?_
          refine lv_iload hx hb dX10_trimIt_79 (lv_at hl 0 rfl) ?_
          obtain ⟨hi, ho⟩ := gd_ ho
          refine r_iald S F B (kq (by decide) : kd 199 = 22 ∧ 199 < NN) rfl hi dX10_trimIt_81 ?_
          refine lv_isub hx hb dX10_trimIt_82 ?_
          obtain ⟨q14, σ15, hq14, ho⟩ := bnm_ ho
          refine k_iV (As := [.int 5, .int (2 - (σ4 199 q7.toNatClampNeg))]) (rest := []) S F B (c_X10_refuse l G σ4 _ 5 (2 - (σ4 199 q7.toNatClampNeg)) hq14) (kq (by decide) : kd 198 = 21 ∧ 198 < NN) rfl rfl (cwV 2 hts gX10_trimIt_X10_refuse rfl rfl rfl (by decide +kernel) ⟨Nat.le_of_ble_eq_true rfl, Nat.le_of_ble_eq_true rfl⟩) rfl hl.1 rfl (Nat.le_of_ble_eq_true rfl) dX10_trimIt_83 ⟨Nat.le_of_ble_eq_true rfl, Nat.le_of_ble_eq_true rfl⟩ (fun H locs B => ?_)
          cases ho
          exact e_i B hx hb hr hlocks rfl rfl dX10_trimIt_86
      · have ho := ip_ c8 ho
        refine lv_aload_n hx hb dX10_trimIt_54 rfl (lv_at hl 2 rfl) ?_
        refine lv_iconst (v := 3) hx hb dX10_trimIt_55 (by decide) ?_
        refine lv_iconst (v := 0) hx hb dX10_trimIt_56 (by decide) ?_
        obtain ⟨q16, σ17, hq16, ho⟩ := bnm_ ho
        refine k_iV (As := [.int 3, .int 0]) (rest := []) S F B (c_X10_refuse l G σ4 _ 3 0 hq16) (kq (by decide) : kd 198 = 21 ∧ 198 < NN) rfl rfl (cwV 2 hts gX10_trimIt_X10_refuse rfl rfl rfl (by decide +kernel) ⟨Nat.le_of_ble_eq_true rfl, Nat.le_of_ble_eq_true rfl⟩) rfl hl.1 rfl (Nat.le_of_ble_eq_true rfl) dX10_trimIt_57 ⟨Nat.le_of_ble_eq_true rfl, Nat.le_of_ble_eq_true rfl⟩ (fun H locs B => ?_)
        cases ho
        exact e_i B hx hb hr hlocks rfl rfl dX10_trimIt_60
    · have ho := ip_ c5 ho
      refine lv_iconst (v := (-1)) hx hb dX10_trimIt_29 (by decide) ?_
      cases ho
      exact e_i B hx hb hr hlocks rfl rfl dX10_trimIt_30
  · have ho := ip_ c2 ho
    refine lv_aload_n hx hb dX10_trimIt_8 rfl (lv_at hl 0 rfl) ?_
    refine lv_iconst (v := 4) hx hb dX10_trimIt_9 (by decide) ?_
    refine lv_aload_n hx hb dX10_trimIt_10 rfl (lv_at hl 0 rfl) ?_
    refine r_get (ci := 14) (C := RX10) (T := TX10) (N := 21) S F B (kq (by decide) : kd 198 = 21 ∧ 198 < NN) rfl rfl hiX10 0 (by decide) (by decide +kernel) rfl dX10_trimIt_11 ?_
    refine lv_iconst (v := 0) hx hb dX10_trimIt_14 (by decide) ?_
    refine r_ialdc (j := 0) S F B (kq (by decide) : kd 199 = 22 ∧ 199 < NN) rfl (vpc (by decide)) (by decide) dX10_trimIt_15 ?_
    obtain ⟨q18, σ19, hq18, ho⟩ := bnm_ ho
    refine k_iV (As := [.int 4, .int (σ 199 0)]) (rest := []) S F B (c_X10_refuse l G σ _ 4 (σ 199 0) hq18) (kq (by decide) : kd 198 = 21 ∧ 198 < NN) rfl rfl (cwV 2 hts gX10_trimIt_X10_refuse rfl rfl rfl (by decide +kernel) ⟨Nat.le_of_ble_eq_true rfl, Nat.le_of_ble_eq_true rfl⟩) rfl hl.1 rfl (Nat.le_of_ble_eq_true rfl) dX10_trimIt_16 ⟨Nat.le_of_ble_eq_true rfl, Nat.le_of_ble_eq_true rfl⟩ (fun H locs B => ?_)
    cases ho
    exact e_i B hx hb hr hlocks rfl rfl dX10_trimIt_19

set_option maxHeartbeats 4000000 in
set_option maxRecDepth 100000 in
theorem c_X10_trim (l : Launch) (G : Gd) (σ : Mm) (sz : Nat) (a0 : Int32) (a1 : Int32) (a2 : Int32) {out : Int32 × Mm} (ho : f_X10_trim a0 a1 a2 σ = some out) : Met l yX10_trim wsX10_trim { frames := 4, cells := 0, slots := 0, locals := 102 } (va_Pc [.ref (G.2.2 198), .int a0, .int a1, .int a2] (PW G σ sz)) (Qi G sz out.1 out.2) 0 0 (AA G sz) := by
  refine Met.ofW (cc := cX10_trim) (maxL := 4) (ret := (some .int)) (by decide) rfl ?_
  intro p e s m args below meth c s₁ B0 hml hv
  obtain ⟨rfl, hpw⟩ := hv
  have hsz := hpw.1
  subst hsz
  obtain ⟨F, B⟩ := hpw.to
  have hx := B0.exec
  have hb := B0.bytes
  have hr := B0.returns
  have hts := atoms_spec (ws := wsX10_trim) B0.pre
  have hown : s.vm.findClass RX10 = some m.cls := findClass_of_methodNamed B0.named
  have hlocks := B0.notSynchronized
  have S : CallFix p m c cX10_trim 4 s _ wsX10_trim RX10 := ⟨hx, hb, hml, hown, hts⟩
  have hl := lv_entry [.ref (G.2.2 198), .int a0, .int a1, .int a2] (n := 4) (Nat.le_of_ble_eq_true rfl)
  rw [lg_entry_eq]
  generalize (lg_sl [.ref (G.2.2 198), .int a0, .int a1, .int a2] ++ List.replicate (4 - (lg_sl [.ref (G.2.2 198), .int a0, .int a1, .int a2]).length) Slot.unset).toArray = ls at hl ⊢
  have hl : lv_has ls 4 [(0, .ref (G.2.2 198)), (1, .int a0), (2, .int a1), (3, .int a2)] := hl
  unfold f_X10_trim at ho
  refine lv_aload_n hx hb dX10_trim_0 rfl (lv_at hl 0 rfl) ?_
  obtain ⟨σ2, hq1, ho⟩ := bnd_ ho
  refine k_vV (As := []) (rest := []) S F B (c_X10_starts l G σ _ hq1) (kq (by decide) : kd 198 = 21 ∧ 198 < NN) rfl rfl (cwV 0 hts gX10_trim_X10_starts rfl rfl rfl (by decide +kernel) ⟨Nat.le_of_ble_eq_true rfl, Nat.le_of_ble_eq_true rfl⟩) rfl hl.1 rfl (Nat.le_of_ble_eq_true rfl) dX10_trim_1 ⟨Nat.le_of_ble_eq_true rfl, Nat.le_of_ble_eq_true rfl⟩ (fun H locs B => ?_)
  refine lv_aload_n hx hb dX10_trim_4 rfl (lv_at hl 0 rfl) ?_
  refine lv_aload_n hx hb dX10_trim_5 rfl (lv_at hl 0 rfl) ?_
  refine lv_iload_n hx hb dX10_trim_6 rfl (lv_at hl 1 rfl) ?_
  refine lv_iload_n hx hb dX10_trim_7 rfl (lv_at hl 2 rfl) ?_
  refine lv_iload_n hx hb dX10_trim_8 rfl (lv_at hl 3 rfl) ?_
  obtain ⟨q3, σ4, hq3, ho⟩ := bnm_ ho
  refine k_iV (As := [.int a0, .int a1, .int a2]) (rest := [.ref (G.2.2 198)]) S F B (c_X10_trimIt l G σ2 _ a0 a1 a2 hq3) (kq (by decide) : kd 198 = 21 ∧ 198 < NN) rfl rfl (cwV 3 hts gX10_trim_X10_trimIt rfl rfl rfl (by decide +kernel) ⟨Nat.le_of_ble_eq_true rfl, Nat.le_of_ble_eq_true rfl⟩) rfl hl.1 rfl (Nat.le_of_ble_eq_true rfl) dX10_trim_9 ⟨Nat.le_of_ble_eq_true rfl, Nat.le_of_ble_eq_true rfl⟩ (fun H locs B => ?_)
  obtain ⟨q5, σ6, hq5, ho⟩ := bnm_ ho
  refine k_iV (As := [.int q3]) (rest := []) S F B (c_X10_changed l G σ4 _ q3 hq5) (kq (by decide) : kd 198 = 21 ∧ 198 < NN) rfl rfl (cwV 1 hts gX10_trim_X10_changed rfl rfl rfl (by decide +kernel) ⟨Nat.le_of_ble_eq_true rfl, Nat.le_of_ble_eq_true rfl⟩) rfl hl.1 rfl (Nat.le_of_ble_eq_true rfl) dX10_trim_12 ⟨Nat.le_of_ble_eq_true rfl, Nat.le_of_ble_eq_true rfl⟩ (fun H locs B => ?_)
  cases ho
  exact e_i B hx hb hr hlocks rfl rfl dX10_trim_15

set_option maxHeartbeats 4000000 in
set_option maxRecDepth 100000 in
theorem c_X10_meets (l : Launch) (G : Gd) (σ : Mm) (sz : Nat) (a0 : Int32) {out : Int32} (ho : f_X10_meets a0 σ = some out) : Met l yX10_meets wsX10_meets { frames := 1, cells := 0, slots := 0, locals := 20 } (va_Pc [.ref (G.2.2 198), .int a0] (PW G σ sz)) (Qi G sz out σ) 0 0 (AA G sz) := by
  refine Met.ofW (cc := cX10_meets) (maxL := 3) (ret := (some .boolean)) (by decide) rfl ?_
  intro p e s m args below meth c s₁ B0 hml hv
  obtain ⟨rfl, hpw⟩ := hv
  have hsz := hpw.1
  subst hsz
  obtain ⟨F, B⟩ := hpw.to
  have hx := B0.exec
  have hb := B0.bytes
  have hr := B0.returns
  have hts := atoms_spec (ws := wsX10_meets) B0.pre
  have hown : s.vm.findClass RX10 = some m.cls := findClass_of_methodNamed B0.named
  have hlocks := B0.notSynchronized
  have S : CallFix p m c cX10_meets 3 s _ wsX10_meets RX10 := ⟨hx, hb, hml, hown, hts⟩
  have hiX10 : ∀ w ∈ u_ws RX10 TX10 21, w ∈ wsX10_meets := by decide +kernel
  have hl := lv_entry [.ref (G.2.2 198), .int a0] (n := 3) (Nat.le_of_ble_eq_true rfl)
  rw [lg_entry_eq]
  generalize (lg_sl [.ref (G.2.2 198), .int a0] ++ List.replicate (3 - (lg_sl [.ref (G.2.2 198), .int a0]).length) Slot.unset).toArray = ls at hl ⊢
  have hl : lv_has ls 3 [(0, .ref (G.2.2 198)), (1, .int a0)] := hl
  unfold f_X10_meets at ho
  refine lv_iload_n hx hb dX10_meets_0 rfl (lv_at hl 1 rfl) ?_
  obtain ⟨q1, hq1, ho⟩ := bnd_ ho
  refine k_iS (As := [.int a0]) (rest := []) S F B (c_X10_visitorAt l G σ _ a0 hq1) (va_cwS 1 hts gX10_meets_X10_visitorAt rfl rfl rfl (by decide +kernel) ⟨Nat.le_of_ble_eq_true rfl, Nat.le_of_ble_eq_true rfl⟩) rfl hl.1 rfl (Nat.le_of_ble_eq_true rfl) dX10_meets_1 ⟨Nat.le_of_ble_eq_true rfl, Nat.le_of_ble_eq_true rfl⟩ (fun H locs B => ?_)
  refine lv_istore_n (lv' := [(2, .int q1), (0, .ref (G.2.2 198)), (1, .int a0)]) hx hb dX10_meets_4 rfl hl (by decide) rfl (fun ls hl => ?_)
  refine lv_aload_n hx hb dX10_meets_5 rfl (lv_at hl 1 rfl) ?_
  refine r_get (ci := 14) (C := RX10) (T := TX10) (N := 21) S F B (kq (by decide) : kd 198 = 21 ∧ 198 < NN) rfl rfl hiX10 0 (by decide) (by decide +kernel) rfl dX10_meets_6 ?_
  refine lv_iload_n hx hb dX10_meets_9 rfl (lv_at hl 0 rfl) ?_
  refine lv_bipush (v := 7) hx hb dX10_meets_10 (by decide) ?_
  refine lv_iadd hx hb dX10_meets_12 ?_
  obtain ⟨hi, ho⟩ := gd_ ho
  refine r_iald S F B (kq (by decide) : kd 199 = 22 ∧ 199 < NN) rfl hi dX10_meets_13 ?_
  refine lv_if_ne (tgt := 38) hx hb dX10_meets_14 (by decide) (fun c2 => ?_) (fun c2 => ?_)
  · have ho := in_ c2 ho
    refine lv_iconst (v := 0) hx hb dX10_meets_38 (by decide) ?_
    cases ho
    exact e_i B hx hb hr hlocks rfl rfl dX10_meets_39
  · have ho := ip_ c2 ho
    refine lv_aload_n hx hb dX10_meets_17 rfl (lv_at hl 1 rfl) ?_
    refine r_get (ci := 14) (C := RX10) (T := TX10) (N := 21) S F B (kq (by decide) : kd 198 = 21 ∧ 198 < NN) rfl rfl hiX10 0 (by decide) (by decide +kernel) rfl dX10_meets_18 ?_
    refine lv_iload_n hx hb dX10_meets_21 rfl (lv_at hl 0 rfl) ?_
    refine lv_iconst (v := 1) hx hb dX10_meets_22 (by decide) ?_
    refine lv_iadd hx hb dX10_meets_23 ?_
    obtain ⟨hi, ho⟩ := gd_ ho
    refine r_iald S F B (kq (by decide) : kd 199 = 22 ∧ 199 < NN) rfl hi dX10_meets_24 ?_
    refine lv_aload_n hx hb dX10_meets_25 rfl (lv_at hl 1 rfl) ?_
    refine r_get (ci := 14) (C := RX10) (T := TX10) (N := 21) S F B (kq (by decide) : kd 198 = 21 ∧ 198 < NN) rfl rfl hiX10 0 (by decide) (by decide +kernel) rfl dX10_meets_26 ?_
    refine lv_iconst (v := 2) hx hb dX10_meets_29 (by decide) ?_
    refine r_ialdc (j := 2) S F B (kq (by decide) : kd 199 = 22 ∧ 199 < NN) rfl (vpc (by decide)) (by decide) dX10_meets_30 ?_
    refine lv_icmp_ne (tgt := 38) hx hb dX10_meets_31 (by decide) (fun c3 => ?_) (fun c3 => ?_)
    · have ho := in_ c3 ho
      refine lv_iconst (v := 0) hx hb dX10_meets_38 (by decide) ?_
      cases ho
      exact e_i B hx hb hr hlocks rfl rfl dX10_meets_39
    · have ho := ip_ c3 ho
      refine lv_iconst (v := 1) hx hb dX10_meets_34 (by decide) ?_
      refine lv_goto (tgt := 39) hx hb dX10_meets_35 (by decide) ?_
      cases ho
      exact e_i B hx hb hr hlocks rfl rfl dX10_meets_39

