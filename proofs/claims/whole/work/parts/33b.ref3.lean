set_option maxHeartbeats 4000000 in
set_option maxRecDepth 100000 in
theorem c_X10_readOrder (l : Launch) (G : Gd) (σ : Mm) (sz : Nat) {out : Mm} (ho : f_X10_readOrder σ = some out) : Met l yX10_readOrder wsX10_readOrder { frames := 4, cells := 0, slots := 0, locals := 88 } (va_Pc [.ref (G.2.2 198)] (PW G σ sz)) (Qv G sz out) 0 0 (AA G sz) := by
  refine Met.ofW (cc := cX10_readOrder) (maxL := 3) (ret := none) (by decide) rfl ?_
  intro p e s m args below meth c s₁ B0 hml hv
  obtain ⟨rfl, hpw⟩ := hv
  have hsz := hpw.1
  subst hsz
  obtain ⟨F, B⟩ := hpw.to
  have hx := B0.exec
  have hb := B0.bytes
  have hr := B0.returns
  have hts := atoms_spec (ws := wsX10_readOrder) B0.pre
  have hown : s.vm.findClass RX10 = some m.cls := findClass_of_methodNamed B0.named
  have hlocks := B0.notSynchronized
  have S : CallFix p m c cX10_readOrder 3 s _ wsX10_readOrder RX10 := ⟨hx, hb, hml, hown, hts⟩
  have hiX10 : ∀ w ∈ u_ws RX10 TX10 21, w ∈ wsX10_readOrder := by decide +kernel
  have hl := lv_entry [.ref (G.2.2 198)] (n := 3) (Nat.le_of_ble_eq_true rfl)
  rw [lg_entry_eq]
  generalize (lg_sl [.ref (G.2.2 198)] ++ List.replicate (3 - (lg_sl [.ref (G.2.2 198)]).length) Slot.unset).toArray = ls at hl ⊢
  have hl : lv_has ls 3 [(0, .ref (G.2.2 198))] := hl
  unfold f_X10_readOrder at ho
  refine lv_iconst (v := 4) hx hb dX10_readOrder_0 (by decide) ?_
  refine lv_aload_n hx hb dX10_readOrder_1 rfl (lv_at hl 0 rfl) ?_
  refine r_get (ci := 14) (C := RX10) (T := TX10) (N := 21) S F B (kq (by decide) : kd 198 = 21 ∧ 198 < NN) rfl rfl hiX10 15 (by decide) (by decide +kernel) rfl dX10_readOrder_2 ?_
  refine lv_imul hx hb dX10_readOrder_5 ?_
  obtain ⟨x1, ex1, ho⟩ := lt_ ho
  refine lv_nm ex1 ?_
  refine lv_istore_n (lv' := [(1, .int x1), (0, .ref (G.2.2 198))]) hx hb dX10_readOrder_6 rfl hl (by decide) rfl (fun ls hl => ?_)
  refine lv_aload_n hx hb dX10_readOrder_7 rfl (lv_at hl 1 rfl) ?_
  obtain ⟨q2, hq2, ho⟩ := bnd_ ho
  refine k_iV (As := []) (rest := []) S F B (c_X10_here l G σ _ hq2) (kq (by decide) : kd 198 = 21 ∧ 198 < NN) rfl rfl (cwV 0 hts gX10_readOrder_X10_here rfl rfl rfl (by decide +kernel) ⟨Nat.le_of_ble_eq_true rfl, Nat.le_of_ble_eq_true rfl⟩) rfl hl.1 rfl (Nat.le_of_ble_eq_true rfl) dX10_readOrder_8 ⟨Nat.le_of_ble_eq_true rfl, Nat.le_of_ble_eq_true rfl⟩ (fun H locs B => ?_)
  refine lv_istore_n (lv' := [(2, .int q2), (1, .int x1), (0, .ref (G.2.2 198))]) hx hb dX10_readOrder_11 rfl hl (by decide) rfl (fun ls hl => ?_)
  refine lv_aload_n hx hb dX10_readOrder_12 rfl (lv_at hl 2 rfl) ?_
  obtain ⟨K4, hK4, ho⟩ := lt_ ho
  have hjoin13 : ∀ (y3 : Int32) (H : Heap) (locs : List Loc) (ls : Array Slot), K4 y3 = some out → Bd G σ s H locs → lv_has ls 3 [(2, .int q2), (1, .int x1), (0, .ref (G.2.2 198))] → W p l e (headSpec wsX10_readOrder { frames := 4, cells := 0, slots := 0, locals := 88 }).room s m #[.ref (G.2.2 198)] below meth c H locs 0 0 (MQ below (Qv G s.heap.size out) #[.ref (G.2.2 198)] s 0 0 (AA G s.heap.size)) (F0 m 72 ls [.int y3, .ref (G.2.2 198)]) := by
    intro y3 H locs ls ho B hl
    subst hK4
    obtain ⟨σ6, hq5, ho⟩ := bnd_ ho
    refine k_vV (As := [.int y3]) (rest := []) S F B (c_X10_expects l G σ _ y3 hq5) (kq (by decide) : kd 198 = 21 ∧ 198 < NN) rfl rfl (cwV 1 hts gX10_readOrder_X10_expects rfl rfl rfl (by decide +kernel) ⟨Nat.le_of_ble_eq_true rfl, Nat.le_of_ble_eq_true rfl⟩) rfl hl.1 rfl (Nat.le_of_ble_eq_true rfl) dX10_readOrder_72 ⟨Nat.le_of_ble_eq_true rfl, Nat.le_of_ble_eq_true rfl⟩ (fun H locs B => ?_)
    refine lv_aload_n hx hb dX10_readOrder_75 rfl (lv_at hl 2 rfl) ?_
    refine r_get (ci := 14) (C := RX10) (T := TX10) (N := 21) S F B (kq (by decide) : kd 198 = 21 ∧ 198 < NN) rfl rfl hiX10 14 (by decide) (by decide +kernel) rfl dX10_readOrder_76 ?_
    refine lv_iload_n hx hb dX10_readOrder_79 rfl (lv_at hl 1 rfl) ?_
    refine lv_iload_n hx hb dX10_readOrder_80 rfl (lv_at hl 0 rfl) ?_
    obtain ⟨hi, ho⟩ := gd_ ho
    refine r_iast S F B (kq (by decide) : kd 205 = 25 ∧ 205 < NN) (fun _ => rfl) hi dX10_readOrder_81 (fun H locs B => ?_)
    obtain ⟨σ7, eσ7, ho⟩ := lt_ ho
    rw [← eσ7] at B
    refine lv_aload_n hx hb dX10_readOrder_82 rfl (lv_at hl 2 rfl) ?_
    refine lv_dup hx hb dX10_readOrder_83 rfl ?_
    refine r_get (ci := 14) (C := RX10) (T := TX10) (N := 21) S F B (kq (by decide) : kd 198 = 21 ∧ 198 < NN) rfl rfl hiX10 15 (by decide) (by decide +kernel) rfl dX10_readOrder_84 ?_
    refine lv_iconst (v := 1) hx hb dX10_readOrder_87 (by decide) ?_
    refine lv_iadd hx hb dX10_readOrder_88 ?_
    refine r_put (ci := 14) (C := RX10) (T := TX10) (N := 21) (ty := .int) S F B tyX10 tyX10_ok nmX10 (kq (by decide) : kd 198 = 21 ∧ 198 < NN) (fun _ => rfl) rfl hiX10 15 (by decide) (by decide +kernel) rfl rfl rfl rfl (fun _ => Nat.le_of_ble_eq_true rfl) (fun _ => rfl) dX10_readOrder_89 (fun H locs B => ?_)
    obtain ⟨σ8, eσ8, ho⟩ := lt_ ho
    rw [← eσ8] at B
    refine lv_iload_n hx hb dX10_readOrder_92 rfl (lv_at hl 0 rfl) ?_
    by_cases c9 : q2 = 98
    · have ho := ip_ c9 ho
      refine lv_tableIn (off := 244) (tgt := 337) hx hb dX10_readOrder_93 (by rw [c9]; decide) (by rw [c9]; decide) (by rw [c9]; rfl) (by decide) ?_
      refine lv_aload_n hx hb dX10_readOrder_337 rfl (lv_at hl 2 rfl) ?_
      refine r_get (ci := 14) (C := RX10) (T := TX10) (N := 21) S F B (kq (by decide) : kd 198 = 21 ∧ 198 < NN) rfl rfl hiX10 14 (by decide) (by decide +kernel) rfl dX10_readOrder_338 ?_
      refine lv_iload_n hx hb dX10_readOrder_341 rfl (lv_at hl 1 rfl) ?_
      refine lv_iconst (v := 1) hx hb dX10_readOrder_342 (by decide) ?_
      refine lv_iadd hx hb dX10_readOrder_343 ?_
      refine lv_aload_n hx hb dX10_readOrder_344 rfl (lv_at hl 2 rfl) ?_
      obtain ⟨q10, σ11, hq10, ho⟩ := bnm_ ho
      refine k_iV (As := []) (rest := [.int (x1 + 1), .ref (G.2.2 205)]) S F B (c_X10_digit l G σ8 _ hq10) (kq (by decide) : kd 198 = 21 ∧ 198 < NN) rfl rfl (cwV 0 hts gX10_readOrder_X10_digit rfl rfl rfl (by decide +kernel) ⟨Nat.le_of_ble_eq_true rfl, Nat.le_of_ble_eq_true rfl⟩) rfl hl.1 rfl (Nat.le_of_ble_eq_true rfl) dX10_readOrder_345 ⟨Nat.le_of_ble_eq_true rfl, Nat.le_of_ble_eq_true rfl⟩ (fun H locs B => ?_)
      obtain ⟨hi, ho⟩ := gd_ ho
      refine r_iast S F B (kq (by decide) : kd 205 = 25 ∧ 205 < NN) (fun _ => rfl) hi dX10_readOrder_348 (fun H locs B => ?_)
      obtain ⟨σ12, eσ12, ho⟩ := lt_ ho
      rw [← eσ12] at B
      refine lv_aload_n hx hb dX10_readOrder_349 rfl (lv_at hl 2 rfl) ?_
      refine lv_aload_n hx hb dX10_readOrder_350 rfl (lv_at hl 2 rfl) ?_
      obtain ⟨q13, hq13, ho⟩ := bnd_ ho
      refine k_iV (As := []) (rest := [.ref (G.2.2 198)]) S F B (c_X10_here l G σ12 _ hq13) (kq (by decide) : kd 198 = 21 ∧ 198 < NN) rfl rfl (cwV 0 hts gX10_readOrder_X10_here rfl rfl rfl (by decide +kernel) ⟨Nat.le_of_ble_eq_true rfl, Nat.le_of_ble_eq_true rfl⟩) rfl hl.1 rfl (Nat.le_of_ble_eq_true rfl) dX10_readOrder_351 ⟨Nat.le_of_ble_eq_true rfl, Nat.le_of_ble_eq_true rfl⟩ (fun H locs B => ?_)
      refine lv_bipush (v := 62) hx hb dX10_readOrder_354 (by decide) ?_
      refine lv_icmp_ne (tgt := 363) hx hb dX10_readOrder_356 (by decide) (fun c14 => ?_) (fun c14 => ?_)
      · have ho := in_ c14 ho
        refine lv_iconst (v := 0) hx hb dX10_readOrder_363 (by decide) ?_
        obtain ⟨σ16, hq15, ho⟩ := bnd_ ho
        refine k_vV (As := [.int 0]) (rest := []) S F B (c_X10_expects l G σ12 _ 0 hq15) (kq (by decide) : kd 198 = 21 ∧ 198 < NN) rfl rfl (cwV 1 hts gX10_readOrder_X10_expects rfl rfl rfl (by decide +kernel) ⟨Nat.le_of_ble_eq_true rfl, Nat.le_of_ble_eq_true rfl⟩) rfl hl.1 rfl (Nat.le_of_ble_eq_true rfl) dX10_readOrder_364 ⟨Nat.le_of_ble_eq_true rfl, Nat.le_of_ble_eq_true rfl⟩ (fun H locs B => ?_)
        refine lv_aload_n hx hb dX10_readOrder_367 rfl (lv_at hl 2 rfl) ?_
        refine r_get (ci := 14) (C := RX10) (T := TX10) (N := 21) S F B (kq (by decide) : kd 198 = 21 ∧ 198 < NN) rfl rfl hiX10 14 (by decide) (by decide +kernel) rfl dX10_readOrder_368 ?_
        refine lv_iload_n hx hb dX10_readOrder_371 rfl (lv_at hl 1 rfl) ?_
        refine lv_iconst (v := 2) hx hb dX10_readOrder_372 (by decide) ?_
        refine lv_iadd hx hb dX10_readOrder_373 ?_
        refine lv_aload_n hx hb dX10_readOrder_374 rfl (lv_at hl 2 rfl) ?_
        obtain ⟨q17, σ18, hq17, ho⟩ := bnm_ ho
        refine k_iV (As := []) (rest := [.int (x1 + 2), .ref (G.2.2 205)]) S F B (c_X10_digit l G σ16 _ hq17) (kq (by decide) : kd 198 = 21 ∧ 198 < NN) rfl rfl (cwV 0 hts gX10_readOrder_X10_digit rfl rfl rfl (by decide +kernel) ⟨Nat.le_of_ble_eq_true rfl, Nat.le_of_ble_eq_true rfl⟩) rfl hl.1 rfl (Nat.le_of_ble_eq_true rfl) dX10_readOrder_375 ⟨Nat.le_of_ble_eq_true rfl, Nat.le_of_ble_eq_true rfl⟩ (fun H locs B => ?_)
        obtain ⟨hi, ho⟩ := gd_ ho
        refine r_iast S F B (kq (by decide) : kd 205 = 25 ∧ 205 < NN) (fun _ => rfl) hi dX10_readOrder_378 (fun H locs B => ?_)
        obtain ⟨σ19, eσ19, ho⟩ := lt_ ho
        rw [← eσ19] at B
        refine lv_aload_n hx hb dX10_readOrder_379 rfl (lv_at hl 2 rfl) ?_
        refine lv_aload_n hx hb dX10_readOrder_380 rfl (lv_at hl 2 rfl) ?_
        obtain ⟨q20, hq20, ho⟩ := bnd_ ho
        refine k_iV (As := []) (rest := [.ref (G.2.2 198)]) S F B (c_X10_here l G σ19 _ hq20) (kq (by decide) : kd 198 = 21 ∧ 198 < NN) rfl rfl (cwV 0 hts gX10_readOrder_X10_here rfl rfl rfl (by decide +kernel) ⟨Nat.le_of_ble_eq_true rfl, Nat.le_of_ble_eq_true rfl⟩) rfl hl.1 rfl (Nat.le_of_ble_eq_true rfl) dX10_readOrder_381 ⟨Nat.le_of_ble_eq_true rfl, Nat.le_of_ble_eq_true rfl⟩ (fun H locs B => ?_)
        refine lv_bipush (v := 42) hx hb dX10_readOrder_384 (by decide) ?_
        refine lv_icmp_ne (tgt := 393) hx hb dX10_readOrder_386 (by decide) (fun c21 => ?_) (fun c21 => ?_)
        · have ho := in_ c21 ho
          refine lv_iconst (v := 0) hx hb dX10_readOrder_393 (by decide) ?_
          obtain ⟨σ23, hq22, ho⟩ := bnd_ ho
          refine k_vV (As := [.int 0]) (rest := []) S F B (c_X10_expects l G σ19 _ 0 hq22) (kq (by decide) : kd 198 = 21 ∧ 198 < NN) rfl rfl (cwV 1 hts gX10_readOrder_X10_expects rfl rfl rfl (by decide +kernel) ⟨Nat.le_of_ble_eq_true rfl, Nat.le_of_ble_eq_true rfl⟩) rfl hl.1 rfl (Nat.le_of_ble_eq_true rfl) dX10_readOrder_394 ⟨Nat.le_of_ble_eq_true rfl, Nat.le_of_ble_eq_true rfl⟩ (fun H locs B => ?_)
          refine lv_aload_n hx hb dX10_readOrder_397 rfl (lv_at hl 2 rfl) ?_
          refine r_get (ci := 14) (C := RX10) (T := TX10) (N := 21) S F B (kq (by decide) : kd 198 = 21 ∧ 198 < NN) rfl rfl hiX10 14 (by decide) (by decide +kernel) rfl dX10_readOrder_398 ?_
          refine lv_iload_n hx hb dX10_readOrder_401 rfl (lv_at hl 1 rfl) ?_
          refine lv_iconst (v := 3) hx hb dX10_readOrder_402 (by decide) ?_
          refine lv_iadd hx hb dX10_readOrder_403 ?_
          refine lv_aload_n hx hb dX10_readOrder_404 rfl (lv_at hl 2 rfl) ?_
          obtain ⟨q24, σ25, hq24, ho⟩ := bnm_ ho
          refine k_iV (As := []) (rest := [.int (x1 + 3), .ref (G.2.2 205)]) S F B (c_X10_digit l G σ23 _ hq24) (kq (by decide) : kd 198 = 21 ∧ 198 < NN) rfl rfl (cwV 0 hts gX10_readOrder_X10_digit rfl rfl rfl (by decide +kernel) ⟨Nat.le_of_ble_eq_true rfl, Nat.le_of_ble_eq_true rfl⟩) rfl hl.1 rfl (Nat.le_of_ble_eq_true rfl) dX10_readOrder_405 ⟨Nat.le_of_ble_eq_true rfl, Nat.le_of_ble_eq_true rfl⟩ (fun H locs B => ?_)
          obtain ⟨hi, ho⟩ := gd_ ho
          refine r_iast S F B (kq (by decide) : kd 205 = 25 ∧ 205 < NN) (fun _ => rfl) hi dX10_readOrder_408 (fun H locs B => ?_)
          obtain ⟨σ26, eσ26, ho⟩ := lt_ ho
          rw [← eσ26] at B
          refine lv_goto (tgt := 508) hx hb dX10_readOrder_409 (by decide) ?_
          cases ho
          exact e_v B hx hb hr hlocks dX10_readOrder_508
        · have ho := ip_ c21 ho
          refine lv_iconst (v := 1) hx hb dX10_readOrder_389 (by decide) ?_
          refine lv_goto (tgt := 394) hx hb dX10_readOrder_390 (by decide) ?_
          obtain ⟨σ28, hq27, ho⟩ := bnd_ ho
          refine k_vV (As := [.int 1]) (rest := []) S F B (c_X10_expects l G σ19 _ 1 hq27) (kq (by decide) : kd 198 = 21 ∧ 198 < NN) rfl rfl (cwV 1 hts gX10_readOrder_X10_expects rfl rfl rfl (by decide +kernel) ⟨Nat.le_of_ble_eq_true rfl, Nat.le_of_ble_eq_true rfl⟩) rfl hl.1 rfl (Nat.le_of_ble_eq_true rfl) dX10_readOrder_394 ⟨Nat.le_of_ble_eq_true rfl, Nat.le_of_ble_eq_true rfl⟩ (fun H locs B => ?_)
          refine lv_aload_n hx hb dX10_readOrder_397 rfl (lv_at hl 2 rfl) ?_
          refine r_get (ci := 14) (C := RX10) (T := TX10) (N := 21) S F B (kq (by decide) : kd 198 = 21 ∧ 198 < NN) rfl rfl hiX10 14 (by decide) (by decide +kernel) rfl dX10_readOrder_398 ?_
          refine lv_iload_n hx hb dX10_readOrder_401 rfl (lv_at hl 1 rfl) ?_
          refine lv_iconst (v := 3) hx hb dX10_readOrder_402 (by decide) ?_
          refine lv_iadd hx hb dX10_readOrder_403 ?_
          refine lv_aload_n hx hb dX10_readOrder_404 rfl (lv_at hl 2 rfl) ?_
          obtain ⟨q29, σ30, hq29, ho⟩ := bnm_ ho
          refine k_iV (As := []) (rest := [.int (x1 + 3), .ref (G.2.2 205)]) S F B (c_X10_digit l G σ28 _ hq29) (kq (by decide) : kd 198 = 21 ∧ 198 < NN) rfl rfl (cwV 0 hts gX10_readOrder_X10_digit rfl rfl rfl (by decide +kernel) ⟨Nat.le_of_ble_eq_true rfl, Nat.le_of_ble_eq_true rfl⟩) rfl hl.1 rfl (Nat.le_of_ble_eq_true rfl) dX10_readOrder_405 ⟨Nat.le_of_ble_eq_true rfl, Nat.le_of_ble_eq_true rfl⟩ (fun H locs B => ?_)
          obtain ⟨hi, ho⟩ := gd_ ho
          refine r_iast S F B (kq (by decide) : kd 205 = 25 ∧ 205 < NN) (fun _ => rfl) hi dX10_readOrder_408 (fun H locs B => ?_)
          obtain ⟨σ31, eσ31, ho⟩ := lt_ ho
          rw [← eσ31] at B
          refine lv_goto (tgt := 508) hx hb dX10_readOrder_409 (by decide) ?_
          cases ho
          exact e_v B hx hb hr hlocks dX10_readOrder_508
      · have ho := ip_ c14 ho
        refine lv_iconst (v := 1) hx hb dX10_readOrder_359 (by decide) ?_
        refine lv_goto (tgt := 364) hx hb dX10_readOrder_360 (by decide) ?_
        obtain ⟨σ33, hq32, ho⟩ := bnd_ ho
        refine k_vV (As := [.int 1]) (rest := []) S F B (c_X10_expects l G σ12 _ 1 hq32) (kq (by decide) : kd 198 = 21 ∧ 198 < NN) rfl rfl (cwV 1 hts gX10_readOrder_X10_expects rfl rfl rfl (by decide +kernel) ⟨Nat.le_of_ble_eq_true rfl, Nat.le_of_ble_eq_true rfl⟩) rfl hl.1 rfl (Nat.le_of_ble_eq_true rfl) dX10_readOrder_364 ⟨Nat.le_of_ble_eq_true rfl, Nat.le_of_ble_eq_true rfl⟩ (fun H locs B => ?_)
        refine lv_aload_n hx hb dX10_readOrder_367 rfl (lv_at hl 2 rfl) ?_
        refine r_get (ci := 14) (C := RX10) (T := TX10) (N := 21) S F B (kq (by decide) : kd 198 = 21 ∧ 198 < NN) rfl rfl hiX10 14 (by decide) (by decide +kernel) rfl dX10_readOrder_368 ?_
        refine lv_iload_n hx hb dX10_readOrder_371 rfl (lv_at hl 1 rfl) ?_
        refine lv_iconst (v := 2) hx hb dX10_readOrder_372 (by decide) ?_
        refine lv_iadd hx hb dX10_readOrder_373 ?_
        refine lv_aload_n hx hb dX10_readOrder_374 rfl (lv_at hl 2 rfl) ?_
        obtain ⟨q34, σ35, hq34, ho⟩ := bnm_ ho
        refine k_iV (As := []) (rest := [.int (x1 + 2), .ref (G.2.2 205)]) S F B (c_X10_digit l G σ33 _ hq34) (kq (by decide) : kd 198 = 21 ∧ 198 < NN) rfl rfl (cwV 0 hts gX10_readOrder_X10_digit rfl rfl rfl (by decide +kernel) ⟨Nat.le_of_ble_eq_true rfl, Nat.le_of_ble_eq_true rfl⟩) rfl hl.1 rfl (Nat.le_of_ble_eq_true rfl) dX10_readOrder_375 ⟨Nat.le_of_ble_eq_true rfl, Nat.le_of_ble_eq_true rfl⟩ (fun H locs B => ?_)
        obtain ⟨hi, ho⟩ := gd_ ho
        refine r_iast S F B (kq (by decide) : kd 205 = 25 ∧ 205 < NN) (fun _ => rfl) hi dX10_readOrder_378 (fun H locs B => ?_)
        obtain ⟨σ36, eσ36, ho⟩ := lt_ ho
        rw [← eσ36] at B
        refine lv_aload_n hx hb dX10_readOrder_379 rfl (lv_at hl 2 rfl) ?_
        refine lv_aload_n hx hb dX10_readOrder_380 rfl (lv_at hl 2 rfl) ?_
        obtain ⟨q37, hq37, ho⟩ := bnd_ ho
        refine k_iV (As := []) (rest := [.ref (G.2.2 198)]) S F B (c_X10_here l G σ36 _ hq37) (kq (by decide) : kd 198 = 21 ∧ 198 < NN) rfl rfl (cwV 0 hts gX10_readOrder_X10_here rfl rfl rfl (by decide +kernel) ⟨Nat.le_of_ble_eq_true rfl, Nat.le_of_ble_eq_true rfl⟩) rfl hl.1 rfl (Nat.le_of_ble_eq_true rfl) dX10_readOrder_381 ⟨Nat.le_of_ble_eq_true rfl, Nat.le_of_ble_eq_true rfl⟩ (fun H locs B => ?_)
        refine lv_bipush (v := 42) hx hb dX10_readOrder_384 (by decide) ?_
        refine lv_icmp_ne (tgt := 393) hx hb dX10_readOrder_386 (by decide) (fun c38 => ?_) (fun c38 => ?_)
        · have ho := in_ c38 ho
          refine lv_iconst (v := 0) hx hb dX10_readOrder_393 (by decide) ?_
          obtain ⟨σ40, hq39, ho⟩ := bnd_ ho
          refine k_vV (As := [.int 0]) (rest := []) S F B (c_X10_expects l G σ36 _ 0 hq39) (kq (by decide) : kd 198 = 21 ∧ 198 < NN) rfl rfl (cwV 1 hts gX10_readOrder_X10_expects rfl rfl rfl (by decide +kernel) ⟨Nat.le_of_ble_eq_true rfl, Nat.le_of_ble_eq_true rfl⟩) rfl hl.1 rfl (Nat.le_of_ble_eq_true rfl) dX10_readOrder_394 ⟨Nat.le_of_ble_eq_true rfl, Nat.le_of_ble_eq_true rfl⟩ (fun H locs B => ?_)
          refine lv_aload_n hx hb dX10_readOrder_397 rfl (lv_at hl 2 rfl) ?_
          refine r_get (ci := 14) (C := RX10) (T := TX10) (N := 21) S F B (kq (by decide) : kd 198 = 21 ∧ 198 < NN) rfl rfl hiX10 14 (by decide) (by decide +kernel) rfl dX10_readOrder_398 ?_
          refine lv_iload_n hx hb dX10_readOrder_401 rfl (lv_at hl 1 rfl) ?_
          refine lv_iconst (v := 3) hx hb dX10_readOrder_402 (by decide) ?_
          refine lv_iadd hx hb dX10_readOrder_403 ?_
          refine lv_aload_n hx hb dX10_readOrder_404 rfl (lv_at hl 2 rfl) ?_
          obtain ⟨q41, σ42, hq41, ho⟩ := bnm_ ho
          refine k_iV (As := []) (rest := [.int (x1 + 3), .ref (G.2.2 205)]) S F B (c_X10_digit l G σ40 _ hq41) (kq (by decide) : kd 198 = 21 ∧ 198 < NN) rfl rfl (cwV 0 hts gX10_readOrder_X10_digit rfl rfl rfl (by decide +kernel) ⟨Nat.le_of_ble_eq_true rfl, Nat.le_of_ble_eq_true rfl⟩) rfl hl.1 rfl (Nat.le_of_ble_eq_true rfl) dX10_readOrder_405 ⟨Nat.le_of_ble_eq_true rfl, Nat.le_of_ble_eq_true rfl⟩ (fun H locs B => ?_)
          obtain ⟨hi, ho⟩ := gd_ ho
          refine r_iast S F B (kq (by decide) : kd 205 = 25 ∧ 205 < NN) (fun _ => rfl) hi dX10_readOrder_408 (fun H locs B => ?_)
          obtain ⟨σ43, eσ43, ho⟩ := lt_ ho
          rw [← eσ43] at B
          refine lv_goto (tgt := 508) hx hb dX10_readOrder_409 (by decide) ?_
          cases ho
          exact e_v B hx hb hr hlocks dX10_readOrder_508
        · have ho := ip_ c38 ho
          refine lv_iconst (v := 1) hx hb dX10_readOrder_389 (by decide) ?_
          refine lv_goto (tgt := 394) hx hb dX10_readOrder_390 (by decide) ?_
          obtain ⟨σ45, hq44, ho⟩ := bnd_ ho
          refine k_vV (As := [.int 1]) (rest := []) S F B (c_X10_expects l G σ36 _ 1 hq44) (kq (by decide) : kd 198 = 21 ∧ 198 < NN) rfl rfl (cwV 1 hts gX10_readOrder_X10_expects rfl rfl rfl (by decide +kernel) ⟨Nat.le_of_ble_eq_true rfl, Nat.le_of_ble_eq_true rfl⟩) rfl hl.1 rfl (Nat.le_of_ble_eq_true rfl) dX10_readOrder_394 ⟨Nat.le_of_ble_eq_true rfl, Nat.le_of_ble_eq_true rfl⟩ (fun H locs B => ?_)
          refine lv_aload_n hx hb dX10_readOrder_397 rfl (lv_at hl 2 rfl) ?_
          refine r_get (ci := 14) (C := RX10) (T := TX10) (N := 21) S F B (kq (by decide) : kd 198 = 21 ∧ 198 < NN) rfl rfl hiX10 14 (by decide) (by decide +kernel) rfl dX10_readOrder_398 ?_
          refine lv_iload_n hx hb dX10_readOrder_401 rfl (lv_at hl 1 rfl) ?_
          refine lv_iconst (v := 3) hx hb dX10_readOrder_402 (by decide) ?_
          refine lv_iadd hx hb dX10_readOrder_403 ?_
          refine lv_aload_n hx hb dX10_readOrder_404 rfl (lv_at hl 2 rfl) ?_
          obtain ⟨q46, σ47, hq46, ho⟩ := bnm_ ho
          refine k_iV (As := []) (rest := [.int (x1 + 3), .ref (G.2.2 205)]) S F B (c_X10_digit l G σ45 _ hq46) (kq (by decide) : kd 198 = 21 ∧ 198 < NN) rfl rfl (cwV 0 hts gX10_readOrder_X10_digit rfl rfl rfl (by decide +kernel) ⟨Nat.le_of_ble_eq_true rfl, Nat.le_of_ble_eq_true rfl⟩) rfl hl.1 rfl (Nat.le_of_ble_eq_true rfl) dX10_readOrder_405 ⟨Nat.le_of_ble_eq_true rfl, Nat.le_of_ble_eq_true rfl⟩ (fun H locs B => ?_)
          obtain ⟨hi, ho⟩ := gd_ ho
          refine r_iast S F B (kq (by decide) : kd 205 = 25 ∧ 205 < NN) (fun _ => rfl) hi dX10_readOrder_408 (fun H locs B => ?_)
          obtain ⟨σ48, eσ48, ho⟩ := lt_ ho
          rw [← eσ48] at B
          refine lv_goto (tgt := 508) hx hb dX10_readOrder_409 (by decide) ?_
          cases ho
          exact e_v B hx hb hr hlocks dX10_readOrder_508
    · have ho := in_ c9 ho
      by_cases c49 : q2 = 103
      · have ho := ip_ c49 ho
        refine lv_tableIn (off := 229) (tgt := 322) hx hb dX10_readOrder_93 (by rw [c49]; decide) (by rw [c49]; decide) (by rw [c49]; rfl) (by decide) ?_
        refine lv_aload_n hx hb dX10_readOrder_322 rfl (lv_at hl 2 rfl) ?_
        refine r_get (ci := 14) (C := RX10) (T := TX10) (N := 21) S F B (kq (by decide) : kd 198 = 21 ∧ 198 < NN) rfl rfl hiX10 14 (by decide) (by decide +kernel) rfl dX10_readOrder_323 ?_
        refine lv_iload_n hx hb dX10_readOrder_326 rfl (lv_at hl 1 rfl) ?_
        refine lv_iconst (v := 1) hx hb dX10_readOrder_327 (by decide) ?_
        refine lv_iadd hx hb dX10_readOrder_328 ?_
        refine lv_aload_n hx hb dX10_readOrder_329 rfl (lv_at hl 2 rfl) ?_
        obtain ⟨q50, σ51, hq50, ho⟩ := bnm_ ho
        refine k_iV (As := []) (rest := [.int (x1 + 1), .ref (G.2.2 205)]) S F B (c_X10_number l G σ8 _ hq50) (kq (by decide) : kd 198 = 21 ∧ 198 < NN) rfl rfl (cwV 0 hts gX10_readOrder_X10_number rfl rfl rfl (by decide +kernel) ⟨Nat.le_of_ble_eq_true rfl, Nat.le_of_ble_eq_true rfl⟩) rfl hl.1 rfl (Nat.le_of_ble_eq_true rfl) dX10_readOrder_330 ⟨Nat.le_of_ble_eq_true rfl, Nat.le_of_ble_eq_true rfl⟩ (fun H locs B => ?_)
        obtain ⟨hi, ho⟩ := gd_ ho
        refine r_iast S F B (kq (by decide) : kd 205 = 25 ∧ 205 < NN) (fun _ => rfl) hi dX10_readOrder_333 (fun H locs B => ?_)
        obtain ⟨σ52, eσ52, ho⟩ := lt_ ho
        rw [← eσ52] at B
        refine lv_goto (tgt := 508) hx hb dX10_readOrder_334 (by decide) ?_
        cases ho
        exact e_v B hx hb hr hlocks dX10_readOrder_508
      · have ho := in_ c49 ho
        by_cases c53 : q2 = 104
        · have ho := ip_ c53 ho
          refine lv_tableIn (off := 103) (tgt := 196) hx hb dX10_readOrder_93 (by rw [c53]; decide) (by rw [c53]; decide) (by rw [c53]; rfl) (by decide) ?_
          refine lv_aload_n hx hb dX10_readOrder_196 rfl (lv_at hl 2 rfl) ?_
          refine lv_iload_n hx hb dX10_readOrder_197 rfl (lv_at hl 1 rfl) ?_
          refine lv_iconst (v := 1) hx hb dX10_readOrder_198 (by decide) ?_
          refine lv_iadd hx hb dX10_readOrder_199 ?_
          obtain ⟨σ55, hq54, ho⟩ := bnd_ ho
          refine k_vV (As := [.int (x1 + 1)]) (rest := []) S F B (c_X10_cells l G σ8 _ (x1 + 1) hq54) (kq (by decide) : kd 198 = 21 ∧ 198 < NN) rfl rfl (cwV 1 hts gX10_readOrder_X10_cells rfl rfl rfl (by decide +kernel) ⟨Nat.le_of_ble_eq_true rfl, Nat.le_of_ble_eq_true rfl⟩) rfl hl.1 rfl (Nat.le_of_ble_eq_true rfl) dX10_readOrder_200 ⟨Nat.le_of_ble_eq_true rfl, Nat.le_of_ble_eq_true rfl⟩ (fun H locs B => ?_)
          refine lv_aload_n hx hb dX10_readOrder_203 rfl (lv_at hl 2 rfl) ?_
          refine lv_aload_n hx hb dX10_readOrder_204 rfl (lv_at hl 2 rfl) ?_
          obtain ⟨q56, hq56, ho⟩ := bnd_ ho
          refine k_iV (As := []) (rest := [.ref (G.2.2 198)]) S F B (c_X10_here l G σ55 _ hq56) (kq (by decide) : kd 198 = 21 ∧ 198 < NN) rfl rfl (cwV 0 hts gX10_readOrder_X10_here rfl rfl rfl (by decide +kernel) ⟨Nat.le_of_ble_eq_true rfl, Nat.le_of_ble_eq_true rfl⟩) rfl hl.1 rfl (Nat.le_of_ble_eq_true rfl) dX10_readOrder_205 ⟨Nat.le_of_ble_eq_true rfl, Nat.le_of_ble_eq_true rfl⟩ (fun H locs B => ?_)
          refine lv_bipush (v := 61) hx hb dX10_readOrder_208 (by decide) ?_
          refine lv_icmp_ne (tgt := 217) hx hb dX10_readOrder_210 (by decide) (fun c57 => ?_) (fun c57 => ?_)
          · have ho := in_ c57 ho
            refine lv_iconst (v := 0) hx hb dX10_readOrder_217 (by decide) ?_
            obtain ⟨σ59, hq58, ho⟩ := bnd_ ho
            refine k_vV (As := [.int 0]) (rest := []) S F B (c_X10_expects l G σ55 _ 0 hq58) (kq (by decide) : kd 198 = 21 ∧ 198 < NN) rfl rfl (cwV 1 hts gX10_readOrder_X10_expects rfl rfl rfl (by decide +kernel) ⟨Nat.le_of_ble_eq_true rfl, Nat.le_of_ble_eq_true rfl⟩) rfl hl.1 rfl (Nat.le_of_ble_eq_true rfl) dX10_readOrder_218 ⟨Nat.le_of_ble_eq_true rfl, Nat.le_of_ble_eq_true rfl⟩ (fun H locs B => ?_)
            refine lv_aload_n hx hb dX10_readOrder_221 rfl (lv_at hl 2 rfl) ?_
            refine r_get (ci := 14) (C := RX10) (T := TX10) (N := 21) S F B (kq (by decide) : kd 198 = 21 ∧ 198 < NN) rfl rfl hiX10 14 (by decide) (by decide +kernel) rfl dX10_readOrder_222 ?_
            refine lv_iload_n hx hb dX10_readOrder_225 rfl (lv_at hl 1 rfl) ?_
            refine lv_iconst (v := 3) hx hb dX10_readOrder_226 (by decide) ?_
            refine lv_iadd hx hb dX10_readOrder_227 ?_
            refine lv_aload_n hx hb dX10_readOrder_228 rfl (lv_at hl 2 rfl) ?_
            obtain ⟨q60, σ61, hq60, ho⟩ := bnm_ ho
            refine k_iV (As := []) (rest := [.int (x1 + 3), .ref (G.2.2 205)]) S F B (c_X10_digit l G σ59 _ hq60) (kq (by decide) : kd 198 = 21 ∧ 198 < NN) rfl rfl (cwV 0 hts gX10_readOrder_X10_digit rfl rfl rfl (by decide +kernel) ⟨Nat.le_of_ble_eq_true rfl, Nat.le_of_ble_eq_true rfl⟩) rfl hl.1 rfl (Nat.le_of_ble_eq_true rfl) dX10_readOrder_229 ⟨Nat.le_of_ble_eq_true rfl, Nat.le_of_ble_eq_true rfl⟩ (fun H locs B => ?_)
            obtain ⟨hi, ho⟩ := gd_ ho
            refine r_iast S F B (kq (by decide) : kd 205 = 25 ∧ 205 < NN) (fun _ => rfl) hi dX10_readOrder_232 (fun H locs B => ?_)
            obtain ⟨σ62, eσ62, ho⟩ := lt_ ho
            rw [← eσ62] at B
            refine lv_goto (tgt := 508) hx hb dX10_readOrder_233 (by decide) ?_
            cases ho
            exact e_v B hx hb hr hlocks dX10_readOrder_508
          · have ho := ip_ c57 ho
            refine lv_iconst (v := 1) hx hb dX10_readOrder_213 (by decide) ?_
            refine lv_goto (tgt := 218) hx hb dX10_readOrder_214 (by decide) ?_
            obtain ⟨σ64, hq63, ho⟩ := bnd_ ho
            refine k_vV (As := [.int 1]) (rest := []) S F B (c_X10_expects l G σ55 _ 1 hq63) (kq (by decide) : kd 198 = 21 ∧ 198 < NN) rfl rfl (cwV 1 hts gX10_readOrder_X10_expects rfl rfl rfl (by decide +kernel) ⟨Nat.le_of_ble_eq_true rfl, Nat.le_of_ble_eq_true rfl⟩) rfl hl.1 rfl (Nat.le_of_ble_eq_true rfl) dX10_readOrder_218 ⟨Nat.le_of_ble_eq_true rfl, Nat.le_of_ble_eq_true rfl⟩ (fun H locs B => ?_)
            refine lv_aload_n hx hb dX10_readOrder_221 rfl (lv_at hl 2 rfl) ?_
            refine r_get (ci := 14) (C := RX10) (T := TX10) (N := 21) S F B (kq (by decide) : kd 198 = 21 ∧ 198 < NN) rfl rfl hiX10 14 (by decide) (by decide +kernel) rfl dX10_readOrder_222 ?_
            refine lv_iload_n hx hb dX10_readOrder_225 rfl (lv_at hl 1 rfl) ?_
            refine lv_iconst (v := 3) hx hb dX10_readOrder_226 (by decide) ?_
            refine lv_iadd hx hb dX10_readOrder_227 ?_
            refine lv_aload_n hx hb dX10_readOrder_228 rfl (lv_at hl 2 rfl) ?_
            obtain ⟨q65, σ66, hq65, ho⟩ := bnm_ ho
            refine k_iV (As := []) (rest := [.int (x1 + 3), .ref (G.2.2 205)]) S F B (c_X10_digit l G σ64 _ hq65) (kq (by decide) : kd 198 = 21 ∧ 198 < NN) rfl rfl (cwV 0 hts gX10_readOrder_X10_digit rfl rfl rfl (by decide +kernel) ⟨Nat.le_of_ble_eq_true rfl, Nat.le_of_ble_eq_true rfl⟩) rfl hl.1 rfl (Nat.le_of_ble_eq_true rfl) dX10_readOrder_229 ⟨Nat.le_of_ble_eq_true rfl, Nat.le_of_ble_eq_true rfl⟩ (fun H locs B => ?_)
            obtain ⟨hi, ho⟩ := gd_ ho
            refine r_iast S F B (kq (by decide) : kd 205 = 25 ∧ 205 < NN) (fun _ => rfl) hi dX10_readOrder_232 (fun H locs B => ?_)
            obtain ⟨σ67, eσ67, ho⟩ := lt_ ho
            rw [← eσ67] at B
            refine lv_goto (tgt := 508) hx hb dX10_readOrder_233 (by decide) ?_
            cases ho
            exact e_v B hx hb hr hlocks dX10_readOrder_508
        · have ho := in_ c53 ho
          by_cases c68 : q2 = 109
          · have ho := ip_ c68 ho
            refine lv_tableIn (off := 183) (tgt := 276) hx hb dX10_readOrder_93 (by rw [c68]; decide) (by rw [c68]; decide) (by rw [c68]; rfl) (by decide) ?_
            refine lv_aload_n hx hb dX10_readOrder_276 rfl (lv_at hl 2 rfl) ?_
            obtain ⟨q69, hq69, ho⟩ := bnd_ ho
            refine k_iV (As := []) (rest := []) S F B (c_X10_here l G σ8 _ hq69) (kq (by decide) : kd 198 = 21 ∧ 198 < NN) rfl rfl (cwV 0 hts gX10_readOrder_X10_here rfl rfl rfl (by decide +kernel) ⟨Nat.le_of_ble_eq_true rfl, Nat.le_of_ble_eq_true rfl⟩) rfl hl.1 rfl (Nat.le_of_ble_eq_true rfl) dX10_readOrder_277 ⟨Nat.le_of_ble_eq_true rfl, Nat.le_of_ble_eq_true rfl⟩ (fun H locs B => ?_)
            refine lv_bipush (v := 120) hx hb dX10_readOrder_280 (by decide) ?_
            refine lv_icmp_ne (tgt := 307) hx hb dX10_readOrder_282 (by decide) (fun c70 => ?_) (fun c70 => ?_)
            · have ho := in_ c70 ho
              refine lv_aload_n hx hb dX10_readOrder_307 rfl (lv_at hl 2 rfl) ?_
              refine r_get (ci := 14) (C := RX10) (T := TX10) (N := 21) S F B (kq (by decide) : kd 198 = 21 ∧ 198 < NN) rfl rfl hiX10 14 (by decide) (by decide +kernel) rfl dX10_readOrder_308 ?_
              refine lv_iload_n hx hb dX10_readOrder_311 rfl (lv_at hl 1 rfl) ?_
              refine lv_iconst (v := 1) hx hb dX10_readOrder_312 (by decide) ?_
              refine lv_iadd hx hb dX10_readOrder_313 ?_
              refine lv_aload_n hx hb dX10_readOrder_314 rfl (lv_at hl 2 rfl) ?_
              obtain ⟨q71, σ72, hq71, ho⟩ := bnm_ ho
              refine k_iV (As := []) (rest := [.int (x1 + 1), .ref (G.2.2 205)]) S F B (c_X10_number l G σ8 _ hq71) (kq (by decide) : kd 198 = 21 ∧ 198 < NN) rfl rfl (cwV 0 hts gX10_readOrder_X10_number rfl rfl rfl (by decide +kernel) ⟨Nat.le_of_ble_eq_true rfl, Nat.le_of_ble_eq_true rfl⟩) rfl hl.1 rfl (Nat.le_of_ble_eq_true rfl) dX10_readOrder_315 ⟨Nat.le_of_ble_eq_true rfl, Nat.le_of_ble_eq_true rfl⟩ (fun H locs B => ?_)
              obtain ⟨hi, ho⟩ := gd_ ho
              refine r_iast S F B (kq (by decide) : kd 205 = 25 ∧ 205 < NN) (fun _ => rfl) hi dX10_readOrder_318 (fun H locs B => ?_)
              obtain ⟨σ73, eσ73, ho⟩ := lt_ ho
              rw [← eσ73] at B
              refine lv_goto (tgt := 508) hx hb dX10_readOrder_319 (by decide) ?_
              cases ho
              exact e_v B hx hb hr hlocks dX10_readOrder_508
            · have ho := ip_ c70 ho
              refine lv_aload_n hx hb dX10_readOrder_285 rfl (lv_at hl 2 rfl) ?_
              refine lv_dup hx hb dX10_readOrder_286 rfl ?_
              refine r_get (ci := 14) (C := RX10) (T := TX10) (N := 21) S F B (kq (by decide) : kd 198 = 21 ∧ 198 < NN) rfl rfl hiX10 16 (by decide) (by decide +kernel) rfl dX10_readOrder_287 ?_
              refine lv_iconst (v := 1) hx hb dX10_readOrder_290 (by decide) ?_
              refine lv_iadd hx hb dX10_readOrder_291 ?_
              refine r_put (ci := 14) (C := RX10) (T := TX10) (N := 21) (ty := .int) S F B tyX10 tyX10_ok nmX10 (kq (by decide) : kd 198 = 21 ∧ 198 < NN) (fun _ => rfl) rfl hiX10 16 (by decide) (by decide +kernel) rfl rfl rfl rfl (fun _ => Nat.le_of_ble_eq_true rfl) (fun _ => rfl) dX10_readOrder_292 (fun H locs B => ?_)
              obtain ⟨σ74, eσ74, ho⟩ := lt_ ho
              rw [← eσ74] at B
              refine lv_aload_n hx hb dX10_readOrder_295 rfl (lv_at hl 2 rfl) ?_
              refine r_get (ci := 14) (C := RX10) (T := TX10) (N := 21) S F B (kq (by decide) : kd 198 = 21 ∧ 198 < NN) rfl rfl hiX10 14 (by decide) (by decide +kernel) rfl dX10_readOrder_296 ?_
              refine lv_iload_n hx hb dX10_readOrder_299 rfl (lv_at hl 1 rfl) ?_
              refine lv_iconst (v := 1) hx hb dX10_readOrder_300 (by decide) ?_
              refine lv_iadd hx hb dX10_readOrder_301 ?_
              refine lv_iconst (v := (-1)) hx hb dX10_readOrder_302 (by decide) ?_
              obtain ⟨hi, ho⟩ := gd_ ho
              refine r_iast S F B (kq (by decide) : kd 205 = 25 ∧ 205 < NN) (fun _ => rfl) hi dX10_readOrder_303 (fun H locs B => ?_)
              obtain ⟨σ75, eσ75, ho⟩ := lt_ ho
              rw [← eσ75] at B
              refine lv_goto (tgt := 508) hx hb dX10_readOrder_304 (by decide) ?_
              cases ho
              exact e_v B hx hb hr hlocks dX10_readOrder_508
          · have ho := in_ c68 ho
            by_cases c76 : q2 = 114
            · have ho := ip_ c76 ho
              refine lv_tableIn (off := 370) (tgt := 463) hx hb dX10_readOrder_93 (by rw [c76]; decide) (by rw [c76]; decide) (by rw [c76]; rfl) (by decide) ?_
              refine lv_aload_n hx hb dX10_readOrder_463 rfl (lv_at hl 2 rfl) ?_
              refine r_get (ci := 14) (C := RX10) (T := TX10) (N := 21) S F B (kq (by decide) : kd 198 = 21 ∧ 198 < NN) rfl rfl hiX10 14 (by decide) (by decide +kernel) rfl dX10_readOrder_464 ?_
              refine lv_iload_n hx hb dX10_readOrder_467 rfl (lv_at hl 1 rfl) ?_
              refine lv_iconst (v := 1) hx hb dX10_readOrder_468 (by decide) ?_
              refine lv_iadd hx hb dX10_readOrder_469 ?_
              refine lv_aload_n hx hb dX10_readOrder_470 rfl (lv_at hl 2 rfl) ?_
              obtain ⟨q77, σ78, hq77, ho⟩ := bnm_ ho
              refine k_iV (As := []) (rest := [.int (x1 + 1), .ref (G.2.2 205)]) S F B (c_X10_digit l G σ8 _ hq77) (kq (by decide) : kd 198 = 21 ∧ 198 < NN) rfl rfl (cwV 0 hts gX10_readOrder_X10_digit rfl rfl rfl (by decide +kernel) ⟨Nat.le_of_ble_eq_true rfl, Nat.le_of_ble_eq_true rfl⟩) rfl hl.1 rfl (Nat.le_of_ble_eq_true rfl) dX10_readOrder_471 ⟨Nat.le_of_ble_eq_true rfl, Nat.le_of_ble_eq_true rfl⟩ (fun H locs B => ?_)
              obtain ⟨hi, ho⟩ := gd_ ho
              refine r_iast S F B (kq (by decide) : kd 205 = 25 ∧ 205 < NN) (fun _ => rfl) hi dX10_readOrder_474 (fun H locs B => ?_)
              obtain ⟨σ79, eσ79, ho⟩ := lt_ ho
              rw [← eσ79] at B
              refine lv_aload_n hx hb dX10_readOrder_475 rfl (lv_at hl 2 rfl) ?_
              refine lv_aload_n hx hb dX10_readOrder_476 rfl (lv_at hl 2 rfl) ?_
              obtain ⟨q80, hq80, ho⟩ := bnd_ ho
              refine k_iV (As := []) (rest := [.ref (G.2.2 198)]) S F B (c_X10_here l G σ79 _ hq80) (kq (by decide) : kd 198 = 21 ∧ 198 < NN) rfl rfl (cwV 0 hts gX10_readOrder_X10_here rfl rfl rfl (by decide +kernel) ⟨Nat.le_of_ble_eq_true rfl, Nat.le_of_ble_eq_true rfl⟩) rfl hl.1 rfl (Nat.le_of_ble_eq_true rfl) dX10_readOrder_477 ⟨Nat.le_of_ble_eq_true rfl, Nat.le_of_ble_eq_true rfl⟩ (fun H locs B => ?_)
              refine lv_bipush (v := 43) hx hb dX10_readOrder_480 (by decide) ?_
              refine lv_icmp_ne (tgt := 489) hx hb dX10_readOrder_482 (by decide) (fun c81 => ?_) (fun c81 => ?_)
              · have ho := in_ c81 ho
                refine lv_iconst (v := 0) hx hb dX10_readOrder_489 (by decide) ?_
                obtain ⟨σ83, hq82, ho⟩ := bnd_ ho
                refine k_vV (As := [.int 0]) (rest := []) S F B (c_X10_expects l G σ79 _ 0 hq82) (kq (by decide) : kd 198 = 21 ∧ 198 < NN) rfl rfl (cwV 1 hts gX10_readOrder_X10_expects rfl rfl rfl (by decide +kernel) ⟨Nat.le_of_ble_eq_true rfl, Nat.le_of_ble_eq_true rfl⟩) rfl hl.1 rfl (Nat.le_of_ble_eq_true rfl) dX10_readOrder_490 ⟨Nat.le_of_ble_eq_true rfl, Nat.le_of_ble_eq_true rfl⟩ (fun H locs B => ?_)
                refine lv_aload_n hx hb dX10_readOrder_493 rfl (lv_at hl 2 rfl) ?_
                refine r_get (ci := 14) (C := RX10) (T := TX10) (N := 21) S F B (kq (by decide) : kd 198 = 21 ∧ 198 < NN) rfl rfl hiX10 14 (by decide) (by decide +kernel) rfl dX10_readOrder_494 ?_
                refine lv_iload_n hx hb dX10_readOrder_497 rfl (lv_at hl 1 rfl) ?_
                refine lv_iconst (v := 2) hx hb dX10_readOrder_498 (by decide) ?_
                refine lv_iadd hx hb dX10_readOrder_499 ?_
                refine lv_aload_n hx hb dX10_readOrder_500 rfl (lv_at hl 2 rfl) ?_
                obtain ⟨q84, σ85, hq84, ho⟩ := bnm_ ho
                refine k_iV (As := []) (rest := [.int (x1 + 2), .ref (G.2.2 205)]) S F B (c_X10_digit l G σ83 _ hq84) (kq (by decide) : kd 198 = 21 ∧ 198 < NN) rfl rfl (cwV 0 hts gX10_readOrder_X10_digit rfl rfl rfl (by decide +kernel) ⟨Nat.le_of_ble_eq_true rfl, Nat.le_of_ble_eq_true rfl⟩) rfl hl.1 rfl (Nat.le_of_ble_eq_true rfl) dX10_readOrder_501 ⟨Nat.le_of_ble_eq_true rfl, Nat.le_of_ble_eq_true rfl⟩ (fun H locs B => ?_)
                obtain ⟨hi, ho⟩ := gd_ ho
                refine r_iast S F B (kq (by decide) : kd 205 = 25 ∧ 205 < NN) (fun _ => rfl) hi dX10_readOrder_504 (fun H locs B => ?_)
                obtain ⟨σ86, eσ86, ho⟩ := lt_ ho
                rw [← eσ86] at B
                refine lv_goto (tgt := 508) hx hb dX10_readOrder_505 (by decide) ?_
                cases ho
                exact e_v B hx hb hr hlocks dX10_readOrder_508
              · have ho := ip_ c81 ho
                refine lv_iconst (v := 1) hx hb dX10_readOrder_485 (by decide) ?_
                refine lv_goto (tgt := 490) hx hb dX10_readOrder_486 (by decide) ?_
                obtain ⟨σ88, hq87, ho⟩ := bnd_ ho
                refine k_vV (As := [.int 1]) (rest := []) S F B (c_X10_expects l G σ79 _ 1 hq87) (kq (by decide) : kd 198 = 21 ∧ 198 < NN) rfl rfl (cwV 1 hts gX10_readOrder_X10_expects rfl rfl rfl (by decide +kernel) ⟨Nat.le_of_ble_eq_true rfl, Nat.le_of_ble_eq_true rfl⟩) rfl hl.1 rfl (Nat.le_of_ble_eq_true rfl) dX10_readOrder_490 ⟨Nat.le_of_ble_eq_true rfl, Nat.le_of_ble_eq_true rfl⟩ (fun H locs B => ?_)
                refine lv_aload_n hx hb dX10_readOrder_493 rfl (lv_at hl 2 rfl) ?_
                refine r_get (ci := 14) (C := RX10) (T := TX10) (N := 21) S F B (kq (by decide) : kd 198 = 21 ∧ 198 < NN) rfl rfl hiX10 14 (by decide) (by decide +kernel) rfl dX10_readOrder_494 ?_
                refine lv_iload_n hx hb dX10_readOrder_497 rfl (lv_at hl 1 rfl) ?_
                refine lv_iconst (v := 2) hx hb dX10_readOrder_498 (by decide) ?_
                refine lv_iadd hx hb dX10_readOrder_499 ?_
                refine lv_aload_n hx hb dX10_readOrder_500 rfl (lv_at hl 2 rfl) ?_
                obtain ⟨q89, σ90, hq89, ho⟩ := bnm_ ho
                refine k_iV (As := []) (rest := [.int (x1 + 2), .ref (G.2.2 205)]) S F B (c_X10_digit l G σ88 _ hq89) (kq (by decide) : kd 198 = 21 ∧ 198 < NN) rfl rfl (cwV 0 hts gX10_readOrder_X10_digit rfl rfl rfl (by decide +kernel) ⟨Nat.le_of_ble_eq_true rfl, Nat.le_of_ble_eq_true rfl⟩) rfl hl.1 rfl (Nat.le_of_ble_eq_true rfl) dX10_readOrder_501 ⟨Nat.le_of_ble_eq_true rfl, Nat.le_of_ble_eq_true rfl⟩ (fun H locs B => ?_)
                obtain ⟨hi, ho⟩ := gd_ ho
                refine r_iast S F B (kq (by decide) : kd 205 = 25 ∧ 205 < NN) (fun _ => rfl) hi dX10_readOrder_504 (fun H locs B => ?_)
                obtain ⟨σ91, eσ91, ho⟩ := lt_ ho
                rw [← eσ91] at B
                refine lv_goto (tgt := 508) hx hb dX10_readOrder_505 (by decide) ?_
                cases ho
                exact e_v B hx hb hr hlocks dX10_readOrder_508
            · have ho := in_ c76 ho
              by_cases c92 : q2 = 116
              · have ho := ip_ c92 ho
                refine lv_tableIn (off := 143) (tgt := 236) hx hb dX10_readOrder_93 (by rw [c92]; decide) (by rw [c92]; decide) (by rw [c92]; rfl) (by decide) ?_
                refine lv_aload_n hx hb dX10_readOrder_236 rfl (lv_at hl 2 rfl) ?_
                refine r_get (ci := 14) (C := RX10) (T := TX10) (N := 21) S F B (kq (by decide) : kd 198 = 21 ∧ 198 < NN) rfl rfl hiX10 14 (by decide) (by decide +kernel) rfl dX10_readOrder_237 ?_
                refine lv_iload_n hx hb dX10_readOrder_240 rfl (lv_at hl 1 rfl) ?_
                refine lv_iconst (v := 1) hx hb dX10_readOrder_241 (by decide) ?_
                refine lv_iadd hx hb dX10_readOrder_242 ?_
                refine lv_aload_n hx hb dX10_readOrder_243 rfl (lv_at hl 2 rfl) ?_
                obtain ⟨q93, σ94, hq93, ho⟩ := bnm_ ho
                refine k_iV (As := []) (rest := [.int (x1 + 1), .ref (G.2.2 205)]) S F B (c_X10_digit l G σ8 _ hq93) (kq (by decide) : kd 198 = 21 ∧ 198 < NN) rfl rfl (cwV 0 hts gX10_readOrder_X10_digit rfl rfl rfl (by decide +kernel) ⟨Nat.le_of_ble_eq_true rfl, Nat.le_of_ble_eq_true rfl⟩) rfl hl.1 rfl (Nat.le_of_ble_eq_true rfl) dX10_readOrder_244 ⟨Nat.le_of_ble_eq_true rfl, Nat.le_of_ble_eq_true rfl⟩ (fun H locs B => ?_)
                obtain ⟨hi, ho⟩ := gd_ ho
                refine r_iast S F B (kq (by decide) : kd 205 = 25 ∧ 205 < NN) (fun _ => rfl) hi dX10_readOrder_247 (fun H locs B => ?_)
                obtain ⟨σ95, eσ95, ho⟩ := lt_ ho
                rw [← eσ95] at B
                refine lv_aload_n hx hb dX10_readOrder_248 rfl (lv_at hl 2 rfl) ?_
                refine lv_aload_n hx hb dX10_readOrder_249 rfl (lv_at hl 2 rfl) ?_
                obtain ⟨q96, hq96, ho⟩ := bnd_ ho
                refine k_iV (As := []) (rest := [.ref (G.2.2 198)]) S F B (c_X10_here l G σ95 _ hq96) (kq (by decide) : kd 198 = 21 ∧ 198 < NN) rfl rfl (cwV 0 hts gX10_readOrder_X10_here rfl rfl rfl (by decide +kernel) ⟨Nat.le_of_ble_eq_true rfl, Nat.le_of_ble_eq_true rfl⟩) rfl hl.1 rfl (Nat.le_of_ble_eq_true rfl) dX10_readOrder_250 ⟨Nat.le_of_ble_eq_true rfl, Nat.le_of_ble_eq_true rfl⟩ (fun H locs B => ?_)
                refine lv_bipush (v := 58) hx hb dX10_readOrder_253 (by decide) ?_
                refine lv_icmp_ne (tgt := 262) hx hb dX10_readOrder_255 (by decide) (fun c97 => ?_) (fun c97 => ?_)
                · have ho := in_ c97 ho
                  refine lv_iconst (v := 0) hx hb dX10_readOrder_262 (by decide) ?_
                  obtain ⟨σ99, hq98, ho⟩ := bnd_ ho
                  refine k_vV (As := [.int 0]) (rest := []) S F B (c_X10_expects l G σ95 _ 0 hq98) (kq (by decide) : kd 198 = 21 ∧ 198 < NN) rfl rfl (cwV 1 hts gX10_readOrder_X10_expects rfl rfl rfl (by decide +kernel) ⟨Nat.le_of_ble_eq_true rfl, Nat.le_of_ble_eq_true rfl⟩) rfl hl.1 rfl (Nat.le_of_ble_eq_true rfl) dX10_readOrder_263 ⟨Nat.le_of_ble_eq_true rfl, Nat.le_of_ble_eq_true rfl⟩ (fun H locs B => ?_)
                  refine lv_aload_n hx hb dX10_readOrder_266 rfl (lv_at hl 2 rfl) ?_
                  refine lv_iload_n hx hb dX10_readOrder_267 rfl (lv_at hl 1 rfl) ?_
                  refine lv_iconst (v := 2) hx hb dX10_readOrder_268 (by decide) ?_
                  refine lv_iadd hx hb dX10_readOrder_269 ?_
                  obtain ⟨σ101, hq100, ho⟩ := bnd_ ho
                  refine k_vV (As := [.int (x1 + 2)]) (rest := []) S F B (c_X10_cells l G σ99 _ (x1 + 2) hq100) (kq (by decide) : kd 198 = 21 ∧ 198 < NN) rfl rfl (cwV 1 hts gX10_readOrder_X10_cells rfl rfl rfl (by decide +kernel) ⟨Nat.le_of_ble_eq_true rfl, Nat.le_of_ble_eq_true rfl⟩) rfl hl.1 rfl (Nat.le_of_ble_eq_true rfl) dX10_readOrder_270 ⟨Nat.le_of_ble_eq_true rfl, Nat.le_of_ble_eq_true rfl⟩ (fun H locs B => ?_)
                  refine lv_goto (tgt := 508) hx hb dX10_readOrder_273 (by decide) ?_
                  cases ho
                  exact e_v B hx hb hr hlocks dX10_readOrder_508
                · have ho := ip_ c97 ho
                  refine lv_iconst (v := 1) hx hb dX10_readOrder_258 (by decide) ?_
                  refine lv_goto (tgt := 263) hx hb dX10_readOrder_259 (by decide) ?_
                  obtain ⟨σ103, hq102, ho⟩ := bnd_ ho
                  refine k_vV (As := [.int 1]) (rest := []) S F B (c_X10_expects l G σ95 _ 1 hq102) (kq (by decide) : kd 198 = 21 ∧ 198 < NN) rfl rfl (cwV 1 hts gX10_readOrder_X10_expects rfl rfl rfl (by decide +kernel) ⟨Nat.le_of_ble_eq_true rfl, Nat.le_of_ble_eq_true rfl⟩) rfl hl.1 rfl (Nat.le_of_ble_eq_true rfl) dX10_readOrder_263 ⟨Nat.le_of_ble_eq_true rfl, Nat.le_of_ble_eq_true rfl⟩ (fun H locs B => ?_)
                  refine lv_aload_n hx hb dX10_readOrder_266 rfl (lv_at hl 2 rfl) ?_
                  refine lv_iload_n hx hb dX10_readOrder_267 rfl (lv_at hl 1 rfl) ?_
                  refine lv_iconst (v := 2) hx hb dX10_readOrder_268 (by decide) ?_
                  refine lv_iadd hx hb dX10_readOrder_269 ?_
                  obtain ⟨σ105, hq104, ho⟩ := bnd_ ho
                  refine k_vV (As := [.int (x1 + 2)]) (rest := []) S F B (c_X10_cells l G σ103 _ (x1 + 2) hq104) (kq (by decide) : kd 198 = 21 ∧ 198 < NN) rfl rfl (cwV 1 hts gX10_readOrder_X10_cells rfl rfl rfl (by decide +kernel) ⟨Nat.le_of_ble_eq_true rfl, Nat.le_of_ble_eq_true rfl⟩) rfl hl.1 rfl (Nat.le_of_ble_eq_true rfl) dX10_readOrder_270 ⟨Nat.le_of_ble_eq_true rfl, Nat.le_of_ble_eq_true rfl⟩ (fun H locs B => ?_)
                  refine lv_goto (tgt := 508) hx hb dX10_readOrder_273 (by decide) ?_
                  cases ho
                  exact e_v B hx hb hr hlocks dX10_readOrder_508
              · have ho := in_ c92 ho
                by_cases c106 : q2 = 118
                · have ho := ip_ c106 ho
                  refine lv_tableIn (off := 229) (tgt := 322) hx hb dX10_readOrder_93 (by rw [c106]; decide) (by rw [c106]; decide) (by rw [c106]; rfl) (by decide) ?_
                  refine lv_aload_n hx hb dX10_readOrder_322 rfl (lv_at hl 2 rfl) ?_
                  refine r_get (ci := 14) (C := RX10) (T := TX10) (N := 21) S F B (kq (by decide) : kd 198 = 21 ∧ 198 < NN) rfl rfl hiX10 14 (by decide) (by decide +kernel) rfl dX10_readOrder_323 ?_
                  refine lv_iload_n hx hb dX10_readOrder_326 rfl (lv_at hl 1 rfl) ?_
                  refine lv_iconst (v := 1) hx hb dX10_readOrder_327 (by decide) ?_
                  refine lv_iadd hx hb dX10_readOrder_328 ?_
                  refine lv_aload_n hx hb dX10_readOrder_329 rfl (lv_at hl 2 rfl) ?_
                  obtain ⟨q107, σ108, hq107, ho⟩ := bnm_ ho
                  refine k_iV (As := []) (rest := [.int (x1 + 1), .ref (G.2.2 205)]) S F B (c_X10_number l G σ8 _ hq107) (kq (by decide) : kd 198 = 21 ∧ 198 < NN) rfl rfl (cwV 0 hts gX10_readOrder_X10_number rfl rfl rfl (by decide +kernel) ⟨Nat.le_of_ble_eq_true rfl, Nat.le_of_ble_eq_true rfl⟩) rfl hl.1 rfl (Nat.le_of_ble_eq_true rfl) dX10_readOrder_330 ⟨Nat.le_of_ble_eq_true rfl, Nat.le_of_ble_eq_true rfl⟩ (fun H locs B => ?_)
                  obtain ⟨hi, ho⟩ := gd_ ho
                  refine r_iast S F B (kq (by decide) : kd 205 = 25 ∧ 205 < NN) (fun _ => rfl) hi dX10_readOrder_333 (fun H locs B => ?_)
                  obtain ⟨σ109, eσ109, ho⟩ := lt_ ho
                  rw [← eσ109] at B
                  refine lv_goto (tgt := 508) hx hb dX10_readOrder_334 (by decide) ?_
                  cases ho
                  exact e_v B hx hb hr hlocks dX10_readOrder_508
                · have ho := in_ c106 ho
                  by_cases c110 : q2 = 119
                  · have ho := ip_ c110 ho
                    refine lv_tableIn (off := 319) (tgt := 412) hx hb dX10_readOrder_93 (by rw [c110]; decide) (by rw [c110]; decide) (by rw [c110]; rfl) (by decide) ?_
                    refine lv_aload_n hx hb dX10_readOrder_412 rfl (lv_at hl 2 rfl) ?_
                    refine r_get (ci := 14) (C := RX10) (T := TX10) (N := 21) S F B (kq (by decide) : kd 198 = 21 ∧ 198 < NN) rfl rfl hiX10 14 (by decide) (by decide +kernel) rfl dX10_readOrder_413 ?_
                    refine lv_iload_n hx hb dX10_readOrder_416 rfl (lv_at hl 1 rfl) ?_
                    refine lv_iconst (v := 1) hx hb dX10_readOrder_417 (by decide) ?_
                    refine lv_iadd hx hb dX10_readOrder_418 ?_
                    refine lv_aload_n hx hb dX10_readOrder_419 rfl (lv_at hl 2 rfl) ?_
                    obtain ⟨q111, σ112, hq111, ho⟩ := bnm_ ho
                    refine k_iV (As := []) (rest := [.int (x1 + 1), .ref (G.2.2 205)]) S F B (c_X10_digit l G σ8 _ hq111) (kq (by decide) : kd 198 = 21 ∧ 198 < NN) rfl rfl (cwV 0 hts gX10_readOrder_X10_digit rfl rfl rfl (by decide +kernel) ⟨Nat.le_of_ble_eq_true rfl, Nat.le_of_ble_eq_true rfl⟩) rfl hl.1 rfl (Nat.le_of_ble_eq_true rfl) dX10_readOrder_420 ⟨Nat.le_of_ble_eq_true rfl, Nat.le_of_ble_eq_true rfl⟩ (fun H locs B => ?_)
                    obtain ⟨hi, ho⟩ := gd_ ho
                    refine r_iast S F B (kq (by decide) : kd 205 = 25 ∧ 205 < NN) (fun _ => rfl) hi dX10_readOrder_423 (fun H locs B => ?_)
                    obtain ⟨σ113, eσ113, ho⟩ := lt_ ho
                    rw [← eσ113] at B
                    refine lv_aload_n hx hb dX10_readOrder_424 rfl (lv_at hl 2 rfl) ?_
                    refine r_get (ci := 14) (C := RX10) (T := TX10) (N := 21) S F B (kq (by decide) : kd 198 = 21 ∧ 198 < NN) rfl rfl hiX10 14 (by decide) (by decide +kernel) rfl dX10_readOrder_425 ?_
                    refine lv_iload_n hx hb dX10_readOrder_428 rfl (lv_at hl 1 rfl) ?_
                    refine lv_iconst (v := 2) hx hb dX10_readOrder_429 (by decide) ?_
                    refine lv_iadd hx hb dX10_readOrder_430 ?_
                    refine lv_aload_n hx hb dX10_readOrder_431 rfl (lv_at hl 2 rfl) ?_
                    obtain ⟨q114, hq114, ho⟩ := bnd_ ho
                    refine k_iV (As := []) (rest := [.int (x1 + 2), .ref (G.2.2 205)]) S F B (c_X10_here l G σ113 _ hq114) (kq (by decide) : kd 198 = 21 ∧ 198 < NN) rfl rfl (cwV 0 hts gX10_readOrder_X10_here rfl rfl rfl (by decide +kernel) ⟨Nat.le_of_ble_eq_true rfl, Nat.le_of_ble_eq_true rfl⟩) rfl hl.1 rfl (Nat.le_of_ble_eq_true rfl) dX10_readOrder_432 ⟨Nat.le_of_ble_eq_true rfl, Nat.le_of_ble_eq_true rfl⟩ (fun H locs B => ?_)
                    obtain ⟨q115, hq115, ho⟩ := bnd_ ho
                    refine k_iS (As := [.int q114]) (rest := [.int (x1 + 2), .ref (G.2.2 205)]) S F B (c_X10_directionOf l G σ113 _ q114 hq115) (va_cwS 1 hts gX10_readOrder_X10_directionOf rfl rfl rfl (by decide +kernel) ⟨Nat.le_of_ble_eq_true rfl, Nat.le_of_ble_eq_true rfl⟩) rfl hl.1 rfl (Nat.le_of_ble_eq_true rfl) dX10_readOrder_435 ⟨Nat.le_of_ble_eq_true rfl, Nat.le_of_ble_eq_true rfl⟩ (fun H locs B => ?_)
                    obtain ⟨hi, ho⟩ := gd_ ho
                    refine r_iast S F B (kq (by decide) : kd 205 = 25 ∧ 205 < NN) (fun _ => rfl) hi dX10_readOrder_438 (fun H locs B => ?_)
                    obtain ⟨σ116, eσ116, ho⟩ := lt_ ho
                    rw [← eσ116] at B
                    refine lv_aload_n hx hb dX10_readOrder_439 rfl (lv_at hl 2 rfl) ?_
                    refine lv_aload_n hx hb dX10_readOrder_440 rfl (lv_at hl 2 rfl) ?_
                    refine r_get (ci := 14) (C := RX10) (T := TX10) (N := 21) S F B (kq (by decide) : kd 198 = 21 ∧ 198 < NN) rfl rfl hiX10 14 (by decide) (by decide +kernel) rfl dX10_readOrder_441 ?_
                    refine lv_iload_n hx hb dX10_readOrder_444 rfl (lv_at hl 1 rfl) ?_
                    refine lv_iconst (v := 2) hx hb dX10_readOrder_445 (by decide) ?_
                    refine lv_iadd hx hb dX10_readOrder_446 ?_
                    obtain ⟨hi, ho⟩ := gd_ ho
                    refine r_iald S F B (kq (by decide) : kd 205 = 25 ∧ 205 < NN) rfl hi dX10_readOrder_447 ?_
                    refine lv_iconst (v := (-1)) hx hb dX10_readOrder_448 (by decide) ?_
                    refine lv_icmp_eq (tgt := 456) hx hb dX10_readOrder_449 (by decide) (fun c117 => ?_) (fun c117 => ?_)
                    · have ho := ip_ c117 ho
                      refine lv_iconst (v := 0) hx hb dX10_readOrder_456 (by decide) ?_
                      obtain ⟨σ119, hq118, ho⟩ := bnd_ ho
                      refine k_vV (As := [.int 0]) (rest := []) S F B (c_X10_expects l G σ116 _ 0 hq118) (kq (by decide) : kd 198 = 21 ∧ 198 < NN) rfl rfl (cwV 1 hts gX10_readOrder_X10_expects rfl rfl rfl (by decide +kernel) ⟨Nat.le_of_ble_eq_true rfl, Nat.le_of_ble_eq_true rfl⟩) rfl hl.1 rfl (Nat.le_of_ble_eq_true rfl) dX10_readOrder_457 ⟨Nat.le_of_ble_eq_true rfl, Nat.le_of_ble_eq_true rfl⟩ (fun H locs B => ?_)
                      refine lv_goto (tgt := 508) hx hb dX10_readOrder_460 (by decide) ?_
                      cases ho
                      exact e_v B hx hb hr hlocks dX10_readOrder_508
                    · have ho := in_ c117 ho
                      refine lv_iconst (v := 1) hx hb dX10_readOrder_452 (by decide) ?_
                      refine lv_goto (tgt := 457) hx hb dX10_readOrder_453 (by decide) ?_
                      obtain ⟨σ121, hq120, ho⟩ := bnd_ ho
                      refine k_vV (As := [.int 1]) (rest := []) S F B (c_X10_expects l G σ116 _ 1 hq120) (kq (by decide) : kd 198 = 21 ∧ 198 < NN) rfl rfl (cwV 1 hts gX10_readOrder_X10_expects rfl rfl rfl (by decide +kernel) ⟨Nat.le_of_ble_eq_true rfl, Nat.le_of_ble_eq_true rfl⟩) rfl hl.1 rfl (Nat.le_of_ble_eq_true rfl) dX10_readOrder_457 ⟨Nat.le_of_ble_eq_true rfl, Nat.le_of_ble_eq_true rfl⟩ (fun H locs B => ?_)
                      refine lv_goto (tgt := 508) hx hb dX10_readOrder_460 (by decide) ?_
                      cases ho
                      exact e_v B hx hb hr hlocks dX10_readOrder_508
                  · have ho := in_ c110 ho
                    refine t_tableD (tgt := 508) hx hb dX10_readOrder_93 rfl (fun j hj => ?_) (by decide) ?_
                    · have hj : j < 22 := hj
                      rcases (show j = 0 ∨ j = 1 ∨ j = 2 ∨ j = 3 ∨ j = 4 ∨ j = 5 ∨ j = 6 ∨ j = 7 ∨ j = 8 ∨ j = 9 ∨ j = 10 ∨ j = 11 ∨ j = 12 ∨ j = 13 ∨ j = 14 ∨ j = 15 ∨ j = 16 ∨ j = 17 ∨ j = 18 ∨ j = 19 ∨ j = 20 ∨ j = 21 by omega) with rfl | rfl | rfl | rfl | rfl | rfl | rfl | rfl | rfl | rfl | rfl | rfl | rfl | rfl | rfl | rfl | rfl | rfl | rfl | rfl | rfl | rfl
                      · exact Or.inr (lv_neT c9 (by decide))
                      · exact Or.inl rfl
                      · exact Or.inl rfl
                      · exact Or.inl rfl
                      · exact Or.inl rfl
                      · exact Or.inr (lv_neT c49 (by decide))
                      · exact Or.inr (lv_neT c53 (by decide))
                      · exact Or.inl rfl
                      · exact Or.inl rfl
                      · exact Or.inl rfl
                      · exact Or.inl rfl
                      · exact Or.inr (lv_neT c68 (by decide))
                      · exact Or.inl rfl
                      · exact Or.inl rfl
                      · exact Or.inl rfl
                      · exact Or.inl rfl
                      · exact Or.inr (lv_neT c76 (by decide))
                      · exact Or.inl rfl
                      · exact Or.inr (lv_neT c92 (by decide))
                      · exact Or.inl rfl
                      · exact Or.inr (lv_neT c106 (by decide))
                      · exact Or.inr (lv_neT c110 (by decide))
                    · cases ho
                      exact e_v B hx hb hr hlocks dX10_readOrder_508
  refine lv_iload_n hx hb dX10_readOrder_13 rfl (lv_at hl 0 rfl) ?_
  refine lv_bipush (v := 104) hx hb dX10_readOrder_14 (by decide) ?_
  refine lv_icmp_eq (tgt := 67) hx hb dX10_readOrder_16 (by decide) (fun c122 => ?_) (fun c122 => ?_)
  · have ho := ip_ c122 ho
    refine lv_iconst (v := 1) hx hb dX10_readOrder_67 (by decide) ?_
    refine lv_goto (tgt := 72) hx hb dX10_readOrder_68 (by decide) ?_
    exact hjoin13 _  _ _ _ ho B (lv_sub hl [0, 1, 2] rfl)
  · have ho := in_ c122 ho
    refine lv_iload_n hx hb dX10_readOrder_19 rfl (lv_at hl 0 rfl) ?_
    refine lv_bipush (v := 115) hx hb dX10_readOrder_20 (by decide) ?_
    refine lv_icmp_eq (tgt := 67) hx hb dX10_readOrder_22 (by decide) (fun c123 => ?_) (fun c123 => ?_)
    · have ho := ip_ c123 ho
      refine lv_iconst (v := 1) hx hb dX10_readOrder_67 (by decide) ?_
      refine lv_goto (tgt := 72) hx hb dX10_readOrder_68 (by decide) ?_
      exact hjoin13 _  _ _ _ ho B (lv_sub hl [0, 1, 2] rfl)
    · have ho := in_ c123 ho
      refine lv_iload_n hx hb dX10_readOrder_25 rfl (lv_at hl 0 rfl) ?_
      refine lv_bipush (v := 116) hx hb dX10_readOrder_26 (by decide) ?_
      refine lv_icmp_eq (tgt := 67) hx hb dX10_readOrder_28 (by decide) (fun c124 => ?_) (fun c124 => ?_)
      · have ho := ip_ c124 ho
        refine lv_iconst (v := 1) hx hb dX10_readOrder_67 (by decide) ?_
        refine lv_goto (tgt := 72) hx hb dX10_readOrder_68 (by decide) ?_
        exact hjoin13 _  _ _ _ ho B (lv_sub hl [0, 1, 2] rfl)
      · have ho := in_ c124 ho
        refine lv_iload_n hx hb dX10_readOrder_31 rfl (lv_at hl 0 rfl) ?_
        refine lv_bipush (v := 109) hx hb dX10_readOrder_32 (by decide) ?_
        refine lv_icmp_eq (tgt := 67) hx hb dX10_readOrder_34 (by decide) (fun c125 => ?_) (fun c125 => ?_)
        · have ho := ip_ c125 ho
          refine lv_iconst (v := 1) hx hb dX10_readOrder_67 (by decide) ?_
          refine lv_goto (tgt := 72) hx hb dX10_readOrder_68 (by decide) ?_
          exact hjoin13 _  _ _ _ ho B (lv_sub hl [0, 1, 2] rfl)
        · have ho := in_ c125 ho
          refine lv_iload_n hx hb dX10_readOrder_37 rfl (lv_at hl 0 rfl) ?_
          refine lv_bipush (v := 103) hx hb dX10_readOrder_38 (by decide) ?_
          refine lv_icmp_eq (tgt := 67) hx hb dX10_readOrder_40 (by decide) (fun c126 => ?_) (fun c126 => ?_)
          · have ho := ip_ c126 ho
            refine lv_iconst (v := 1) hx hb dX10_readOrder_67 (by decide) ?_
            refine lv_goto (tgt := 72) hx hb dX10_readOrder_68 (by decide) ?_
            exact hjoin13 _  _ _ _ ho B (lv_sub hl [0, 1, 2] rfl)
          · have ho := in_ c126 ho
            refine lv_iload_n hx hb dX10_readOrder_43 rfl (lv_at hl 0 rfl) ?_
            refine lv_bipush (v := 118) hx hb dX10_readOrder_44 (by decide) ?_
            refine lv_icmp_eq (tgt := 67) hx hb dX10_readOrder_46 (by decide) (fun c127 => ?_) (fun c127 => ?_)
            · have ho := ip_ c127 ho
              refine lv_iconst (v := 1) hx hb dX10_readOrder_67 (by decide) ?_
              refine lv_goto (tgt := 72) hx hb dX10_readOrder_68 (by decide) ?_
              exact hjoin13 _  _ _ _ ho B (lv_sub hl [0, 1, 2] rfl)
            · have ho := in_ c127 ho
              refine lv_iload_n hx hb dX10_readOrder_49 rfl (lv_at hl 0 rfl) ?_
              refine lv_bipush (v := 98) hx hb dX10_readOrder_50 (by decide) ?_
              refine lv_icmp_eq (tgt := 67) hx hb dX10_readOrder_52 (by decide) (fun c128 => ?_) (fun c128 => ?_)
              · have ho := ip_ c128 ho
                refine lv_iconst (v := 1) hx hb dX10_readOrder_67 (by decide) ?_
                refine lv_goto (tgt := 72) hx hb dX10_readOrder_68 (by decide) ?_
                exact hjoin13 _  _ _ _ ho B (lv_sub hl [0, 1, 2] rfl)
              · have ho := in_ c128 ho
                refine lv_iload_n hx hb dX10_readOrder_55 rfl (lv_at hl 0 rfl) ?_
                refine lv_bipush (v := 119) hx hb dX10_readOrder_56 (by decide) ?_
                refine lv_icmp_eq (tgt := 67) hx hb dX10_readOrder_58 (by decide) (fun c129 => ?_) (fun c129 => ?_)
                · have ho := ip_ c129 ho
                  refine lv_iconst (v := 1) hx hb dX10_readOrder_67 (by decide) ?_
                  refine lv_goto (tgt := 72) hx hb dX10_readOrder_68 (by decide) ?_
                  exact hjoin13 _  _ _ _ ho B (lv_sub hl [0, 1, 2] rfl)
                · have ho := in_ c129 ho
                  refine lv_iload_n hx hb dX10_readOrder_61 rfl (lv_at hl 0 rfl) ?_
                  refine lv_bipush (v := 114) hx hb dX10_readOrder_62 (by decide) ?_
                  refine lv_icmp_ne (tgt := 71) hx hb dX10_readOrder_64 (by decide) (fun c130 => ?_) (fun c130 => ?_)
                  · have ho := in_ c130 ho
                    refine lv_iconst (v := 0) hx hb dX10_readOrder_71 (by decide) ?_
                    exact hjoin13 _  _ _ _ ho B (lv_sub hl [0, 1, 2] rfl)
                  · have ho := ip_ c130 ho
                    refine lv_iconst (v := 1) hx hb dX10_readOrder_67 (by decide) ?_
                    refine lv_goto (tgt := 72) hx hb dX10_readOrder_68 (by decide) ?_
                    exact hjoin13 _  _ _ _ ho B (lv_sub hl [0, 1, 2] rfl)

