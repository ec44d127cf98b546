section LC
variable {p : Program} {l : Launch} {e : Env} {s : State} {m : MethodId} {below : List Frame} {meth : Method} {c : Code} {b L : Nat} {xs : Nat → Int32} {Q : State → Prop}
set_option maxHeartbeats 4000000 in
set_option maxRecDepth 100000 in
theorem law_4 {σ : Mm} {G : Gd} {H : Heap} {locs : List Loc} {ls : Array Slot} {i : Int32} {B cells slots : Nat} (hl9 : l.stackTraces = false) (C0 : L0 p s m meth c b L xs) (h1 : vp_in (i + 1) L) (h2 : vp_in (i + 2) L) (h3 : vp_in (i + 3) L) (hB : B + 300 ≤ 1000000) (hrm : cells + 2 ≤ 603072 ∧ slots + 12 ≤ 7202922) (hL : LB G σ s H locs ls b i B)
    (kk : ∀ (G1 : Gd) (ρ : Mm) (H1 : Heap) (locs1 : List Loc) (ls1 : Array Slot), LB G1 ρ s H1 locs1 ls1 b i (B + 300) → W p l e room_1 s m #[Value.ref b] below meth c H1 locs1 (cells + 2) (slots + 12) Q (F0 m 2408 ls1 [])) : W p l e room_1 s m #[Value.ref b] below meth c H locs cells slots Q (F0 m 445 ls []) := by
  obtain ⟨S, hX, hbl⟩ := C0
  obtain ⟨hx, hb, -⟩ := id S
  have hts := S.2.2.2.2
  obtain ⟨F, B1, R0, hAA, hl⟩ := hL
  have hbA : ¬ AA G s.heap.size b := fun q => absurd (hAA b q) (Nat.not_le.mpr hbl)
  refine lv_aload_n hx hb dL_law_445 rfl (lv_at hl 1 rfl) ?_
  refine lv_aload_n hx hb dL_law_446 rfl (lv_at hl 0 rfl) ?_
  refine lv_iload hx hb dL_law_447 (lv_at hl 5 rfl) ?_
  refine lv_iconst (v := 1) hx hb dL_law_449 (by decide) ?_
  refine lv_iadd hx hb dL_law_450 ?_
  refine va_sld hx hb hX hbl hbA B1.2 h1 dL_law_451 ?_
  obtain ⟨out, τ, g1, r9, ρ, g2, R1, sm⟩ := q_gardener R0 (xs (i + 1).toNatClampNeg)
  obtain ⟨hn, f2, f3⟩ := fin1 sm
  obtain ⟨G1, eG, F1, hA, hk, hw⟩ := aft_L F out τ
  refine lv_aload_n hx hb dL_law_452 rfl (lv_at hl 3 rfl) ?_
  refine k_iSW (As := [.ref (G.2.2 154), .int (xs (i + 1).toNatClampNeg), .ref (G.2.2 207)]) (rest := []) (v := _) (τ := τ) (G1 := G1) (mc := 1) (ms := 6) S F B1 (by rw [← eG]; exact c_L_gardener l hl9 G σ _ (xs (i + 1).toNatClampNeg) (out := (out, τ)) g1 (fun _ => 1) hn) hA (vx_cwSW 3 hts (gdl gL_law_L_gardener) rfl rfl rfl (by decide +kernel) ⟨Nat.le_of_ble_eq_true rfl, Nat.le_of_ble_eq_true rfl⟩) rfl hl.1 rfl (Nat.le_of_ble_eq_true rfl) dL_law_453 ⟨by show cells + 1 ≤ 603072; omega, by show slots + 6 ≤ 7202922; omega⟩ (fun H locs B1 => ?_)
  have hl : lv_has ls 10 [(0, .ref b), (1, .ref (G1.2.2 154)), (2, .ref (G1.2.2 198)), (3, .ref (G1.2.2 207)), (4, .ref (G1.2.2 208)), (5, .int i)] := by rw [hk 154 (by decide), hk 198 (by decide), hk 207 (by decide), hk 208 (by decide)]; exact hl
  have hbA : ¬ AA G1 s.heap.size b := by rw [hA]; exact hbA
  have hAA : ∀ q, AA G1 s.heap.size q → s.heap.size ≤ q := by rw [hA]; exact hAA
  refine lv_istore (lv' := (6, .int (hp (fun _ => 1) (out, τ))) :: [(0, .ref b), (1, .ref (G1.2.2 154)), (2, .ref (G1.2.2 198)), (3, .ref (G1.2.2 207)), (4, .ref (G1.2.2 208)), (5, .int i)]) hx hb dL_law_456 hl (by decide) rfl (fun ls hl => ?_)
  refine lv_aload_n hx hb dL_law_458 rfl (lv_at hl 3 rfl) ?_
  refine lv_aload_n hx hb dL_law_459 rfl (lv_at hl 1 rfl) ?_
  refine lv_iload hx hb dL_law_460 (lv_at hl 6 rfl) ?_
  refine lv_iconst (v := 1) hx hb dL_law_462 (by decide) ?_
  refine lv_iadd hx hb dL_law_463 ?_
  refine va_sld hx hb hX hbl hbA B1.2 h1 dL_law_464 ?_
  refine k_iV (As := [.int (xs (i + 1).toNatClampNeg)]) (rest := []) S F1 B1 (c_X10_gardener l G1 τ _ (xs (i + 1).toNatClampNeg) (out := (r9, ρ)) g2) (kq (by decide) : kd 198 = 21 ∧ 198 < NN) rfl rfl (cwV 1 hts (gdl gL_law_X10_gardener) rfl rfl rfl (by decide +kernel) ⟨Nat.le_of_ble_eq_true rfl, Nat.le_of_ble_eq_true rfl⟩) rfl hl.1 rfl (Nat.le_of_ble_eq_true rfl) dL_law_465 ⟨by show cells + 1 ≤ 603072; omega, by show slots + 6 ≤ 7202922; omega⟩ (fun H locs B1 => ?_)
  refine lv_istore (lv' := (7, .int r9) :: (6, .int (hp (fun _ => 1) (out, τ))) :: [(0, .ref b), (1, .ref (G1.2.2 154)), (2, .ref (G1.2.2 198)), (3, .ref (G1.2.2 207)), (4, .ref (G1.2.2 208)), (5, .int i)]) hx hb dL_law_468 hl (by decide) rfl (fun ls hl => ?_)
  refine lv_aload_n hx hb dL_law_470 rfl (lv_at hl 4 rfl) ?_
  refine k_iV (As := []) (rest := []) S F1 B1 (c_X10_thrown l G1 ρ _ (out := ρ 198 12) rfl) (kq (by decide) : kd 198 = 21 ∧ 198 < NN) rfl rfl (cwV 0 hts (gdl gL_law_X10_thrown) rfl rfl rfl (by decide +kernel) ⟨Nat.le_of_ble_eq_true rfl, Nat.le_of_ble_eq_true rfl⟩) rfl hl.1 rfl (Nat.le_of_ble_eq_true rfl) dL_law_471 ⟨by show cells + 1 ≤ 603072; omega, by show slots + 6 ≤ 7202922; omega⟩ (fun H locs B1 => ?_)
  refine lv_iload hx hb dL_law_474 (lv_at hl 1 rfl) ?_
  refine lv_icmp_eq (tgt := 481) hx hb dL_law_476 (by decide) (fun _ => ?_) (fun c1 => absurd f2 c1)
  refine lv_iload hx hb dL_law_481 (lv_at hl 1 rfl) ?_
  refine lv_if_ne (tgt := 498) hx hb dL_law_483 (by decide) (fun _ => ?_) (fun c1 => ?_)
  · refine lv_goto (tgt := 2408) hx hb dL_law_498 (by decide) ?_
    refine W.widen (k := cells + 2) (n := slots + 12) (by omega) (by omega) ?_
    exact kk _ _ _ _ _ ⟨F1, B1, R1.mono (by omega), hAA, lv_sub hl [2, 3, 4, 5, 6, 7] rfl⟩
  · have eo := f3 (f2.trans c1)
    have ew := hw _ eo
    refine lv_aload_n hx hb dL_law_486 rfl (lv_at hl 5 rfl) ?_
    refine lv_iconst (v := 0) hx hb dL_law_487 (by decide) ?_
    refine r_lald S F1 B1 dL_law_488 ?_
    refine lv_iload hx hb dL_law_489 (lv_at hl 0 rfl) ?_
    refine lv_i2l hx hb dL_law_491 rfl ?_
    refine W.lcmp hx hb dL_law_492 ?_
    rw [ew]
    refine lv_if_eq (tgt := 498) hx hb dL_law_493 (by decide) (fun _ => ?_) (fun c2 => absurd (lg_same _) c2)
    refine lv_goto (tgt := 2408) hx hb dL_law_498 (by decide) ?_
    refine W.widen (k := cells + 2) (n := slots + 12) (by omega) (by omega) ?_
    exact kk _ _ _ _ _ ⟨F1, B1, R1.mono (by omega), hAA, lv_sub hl [2, 3, 4, 5, 6, 7] rfl⟩

set_option maxHeartbeats 4000000 in
set_option maxRecDepth 100000 in
theorem law_10 {σ : Mm} {G : Gd} {H : Heap} {locs : List Loc} {ls : Array Slot} {i : Int32} {B cells slots : Nat} (hl9 : l.stackTraces = false) (C0 : L0 p s m meth c b L xs) (h1 : vp_in (i + 1) L) (h2 : vp_in (i + 2) L) (h3 : vp_in (i + 3) L) (hB : B + 300 ≤ 1000000) (hrm : cells + 2 ≤ 603072 ∧ slots + 12 ≤ 7202922) (hL : LB G σ s H locs ls b i B)
    (kk : ∀ (G1 : Gd) (ρ : Mm) (H1 : Heap) (locs1 : List Loc) (ls1 : Array Slot), LB G1 ρ s H1 locs1 ls1 b i (B + 300) → W p l e room_1 s m #[Value.ref b] below meth c H1 locs1 (cells + 2) (slots + 12) Q (F0 m 2408 ls1 [])) : W p l e room_1 s m #[Value.ref b] below meth c H locs cells slots Q (F0 m 841 ls []) := by
  obtain ⟨S, hX, hbl⟩ := C0
  obtain ⟨hx, hb, -⟩ := id S
  have hts := S.2.2.2.2
  obtain ⟨F, B1, R0, hAA, hl⟩ := hL
  have hbA : ¬ AA G s.heap.size b := fun q => absurd (hAA b q) (Nat.not_le.mpr hbl)
  refine lv_aload_n hx hb dL_law_841 rfl (lv_at hl 1 rfl) ?_
  refine lv_aload_n hx hb dL_law_842 rfl (lv_at hl 0 rfl) ?_
  refine lv_iload hx hb dL_law_843 (lv_at hl 5 rfl) ?_
  refine lv_iconst (v := 1) hx hb dL_law_845 (by decide) ?_
  refine lv_iadd hx hb dL_law_846 ?_
  refine va_sld hx hb hX hbl hbA B1.2 h1 dL_law_847 ?_
  refine lv_aload_n hx hb dL_law_848 rfl (lv_at hl 0 rfl) ?_
  refine lv_iload hx hb dL_law_849 (lv_at hl 5 rfl) ?_
  refine lv_iconst (v := 2) hx hb dL_law_851 (by decide) ?_
  refine lv_iadd hx hb dL_law_852 ?_
  refine va_sld hx hb hX hbl hbA B1.2 h2 dL_law_853 ?_
  obtain ⟨out, τ, g1, r9, ρ, g2, R1, sm⟩ := one_of (fun e2 => q_isGap e2 R0 (xs (i + 1).toNatClampNeg) (xs (i + 2).toNatClampNeg))
  obtain ⟨hn, f2, f3⟩ := fin1 sm
  obtain ⟨G1, eG, F1, hA, hk, hw⟩ := aft_B F out τ
  refine lv_aload_n hx hb dL_law_854 rfl (lv_at hl 3 rfl) ?_
  refine k_iSW (As := [.ref (G.2.2 154), .int (xs (i + 1).toNatClampNeg), .int (xs (i + 2).toNatClampNeg), .ref (G.2.2 207)]) (rest := []) (v := _) (τ := τ) (G1 := G1) (mc := 1) (ms := 6) S F B1 (by rw [← eG]; exact c_L_isGap l hl9 G σ _ (xs (i + 1).toNatClampNeg) (xs (i + 2).toNatClampNeg) (out := (out, τ)) g1 (fun _ => 1) hn) hA (vx_cwSW 4 hts (gdl gL_law_L_isGap) rfl rfl rfl (by decide +kernel) ⟨Nat.le_of_ble_eq_true rfl, Nat.le_of_ble_eq_true rfl⟩) rfl hl.1 rfl (Nat.le_of_ble_eq_true rfl) dL_law_855 ⟨by show cells + 1 ≤ 603072; omega, by show slots + 6 ≤ 7202922; omega⟩ (fun H locs B1 => ?_)
  have hl : lv_has ls 10 [(0, .ref b), (1, .ref (G1.2.2 154)), (2, .ref (G1.2.2 198)), (3, .ref (G1.2.2 207)), (4, .ref (G1.2.2 208)), (5, .int i)] := by rw [hk 154 (by decide), hk 198 (by decide), hk 207 (by decide), hk 208 (by decide)]; exact hl
  have hbA : ¬ AA G1 s.heap.size b := by rw [hA]; exact hbA
  have hAA : ∀ q, AA G1 s.heap.size q → s.heap.size ≤ q := by rw [hA]; exact hAA
  refine lv_istore (lv' := (6, .int (hp (fun _ => 1) (out, τ))) :: [(0, .ref b), (1, .ref (G1.2.2 154)), (2, .ref (G1.2.2 198)), (3, .ref (G1.2.2 207)), (4, .ref (G1.2.2 208)), (5, .int i)]) hx hb dL_law_858 hl (by decide) rfl (fun ls hl => ?_)
  refine lv_aload_n hx hb dL_law_860 rfl (lv_at hl 3 rfl) ?_
  refine lv_aload_n hx hb dL_law_861 rfl (lv_at hl 1 rfl) ?_
  refine lv_iload hx hb dL_law_862 (lv_at hl 6 rfl) ?_
  refine lv_iconst (v := 1) hx hb dL_law_864 (by decide) ?_
  refine lv_iadd hx hb dL_law_865 ?_
  refine va_sld hx hb hX hbl hbA B1.2 h1 dL_law_866 ?_
  refine lv_aload_n hx hb dL_law_867 rfl (lv_at hl 1 rfl) ?_
  refine lv_iload hx hb dL_law_868 (lv_at hl 6 rfl) ?_
  refine lv_iconst (v := 2) hx hb dL_law_870 (by decide) ?_
  refine lv_iadd hx hb dL_law_871 ?_
  refine va_sld hx hb hX hbl hbA B1.2 h2 dL_law_872 ?_
  refine k_iV (As := [.int (xs (i + 1).toNatClampNeg), .int (xs (i + 2).toNatClampNeg)]) (rest := []) S F1 B1 (c_X10_isGap l G1 τ _ (xs (i + 1).toNatClampNeg) (xs (i + 2).toNatClampNeg) (out := (r9, ρ)) g2) (kq (by decide) : kd 198 = 21 ∧ 198 < NN) rfl rfl (cwV 2 hts (gdl gL_law_X10_isGap) rfl rfl rfl (by decide +kernel) ⟨Nat.le_of_ble_eq_true rfl, Nat.le_of_ble_eq_true rfl⟩) rfl hl.1 rfl (Nat.le_of_ble_eq_true rfl) dL_law_873 ⟨by show cells + 1 ≤ 603072; omega, by show slots + 6 ≤ 7202922; omega⟩ (fun H locs B1 => ?_)
  refine lv_istore (lv' := (7, .int r9) :: (6, .int (hp (fun _ => 1) (out, τ))) :: [(0, .ref b), (1, .ref (G1.2.2 154)), (2, .ref (G1.2.2 198)), (3, .ref (G1.2.2 207)), (4, .ref (G1.2.2 208)), (5, .int i)]) hx hb dL_law_876 hl (by decide) rfl (fun ls hl => ?_)
  refine lv_aload_n hx hb dL_law_878 rfl (lv_at hl 4 rfl) ?_
  refine k_iV (As := []) (rest := []) S F1 B1 (c_X10_thrown l G1 ρ _ (out := ρ 198 12) rfl) (kq (by decide) : kd 198 = 21 ∧ 198 < NN) rfl rfl (cwV 0 hts (gdl gL_law_X10_thrown) rfl rfl rfl (by decide +kernel) ⟨Nat.le_of_ble_eq_true rfl, Nat.le_of_ble_eq_true rfl⟩) rfl hl.1 rfl (Nat.le_of_ble_eq_true rfl) dL_law_879 ⟨by show cells + 1 ≤ 603072; omega, by show slots + 6 ≤ 7202922; omega⟩ (fun H locs B1 => ?_)
  refine lv_iload hx hb dL_law_882 (lv_at hl 1 rfl) ?_
  refine lv_icmp_eq (tgt := 889) hx hb dL_law_884 (by decide) (fun _ => ?_) (fun c1 => absurd f2 c1)
  refine lv_iload hx hb dL_law_889 (lv_at hl 1 rfl) ?_
  refine lv_if_ne (tgt := 913) hx hb dL_law_891 (by decide) (fun _ => ?_) (fun c1 => ?_)
  · refine lv_goto (tgt := 2408) hx hb dL_law_913 (by decide) ?_
    refine W.widen (k := cells + 2) (n := slots + 12) (by omega) (by omega) ?_
    exact kk _ _ _ _ _ ⟨F1, B1, R1.mono (by omega), hAA, lv_sub hl [2, 3, 4, 5, 6, 7] rfl⟩
  · have eo := f3 (f2.trans c1)
    have ew := hw _ eo
    refine lv_aload_n hx hb dL_law_894 rfl (lv_at hl 5 rfl) ?_
    refine lv_iconst (v := 0) hx hb dL_law_895 (by decide) ?_
    refine r_lald S F1 B1 dL_law_896 ?_
    refine lv_iload hx hb dL_law_897 (lv_at hl 0 rfl) ?_
    refine lv_if_eq (tgt := 906) hx hb dL_law_899 (by decide) (fun c3 => ?_) (fun c3 => ?_)
    · rw [if_pos c3] at ew
      refine lv_lconst (v := 0) hx hb dL_law_906 (by decide) ?_
      refine W.lcmp hx hb dL_law_907 ?_
      rw [ew]
      refine lv_if_eq (tgt := 913) hx hb dL_law_908 (by decide) (fun _ => ?_) (fun c2 => absurd (lg_same _) c2)
      refine lv_goto (tgt := 2408) hx hb dL_law_913 (by decide) ?_
      refine W.widen (k := cells + 2) (n := slots + 12) (by omega) (by omega) ?_
      exact kk _ _ _ _ _ ⟨F1, B1, R1.mono (by omega), hAA, lv_sub hl [2, 3, 4, 5, 6, 7] rfl⟩
    · rw [if_neg c3] at ew
      refine lv_lconst (v := 1) hx hb dL_law_902 (by decide) ?_
      refine lv_goto (tgt := 907) hx hb dL_law_903 (by decide) ?_
      refine W.lcmp hx hb dL_law_907 ?_
      rw [ew]
      refine lv_if_eq (tgt := 913) hx hb dL_law_908 (by decide) (fun _ => ?_) (fun c2 => absurd (lg_same _) c2)
      refine lv_goto (tgt := 2408) hx hb dL_law_913 (by decide) ?_
      refine W.widen (k := cells + 2) (n := slots + 12) (by omega) (by omega) ?_
      exact kk _ _ _ _ _ ⟨F1, B1, R1.mono (by omega), hAA, lv_sub hl [2, 3, 4, 5, 6, 7] rfl⟩

set_option maxHeartbeats 4000000 in
set_option maxRecDepth 100000 in
theorem law_16 {σ : Mm} {G : Gd} {H : Heap} {locs : List Loc} {ls : Array Slot} {i : Int32} {B cells slots : Nat} (hl9 : l.stackTraces = false) (C0 : L0 p s m meth c b L xs) (h1 : vp_in (i + 1) L) (h2 : vp_in (i + 2) L) (h3 : vp_in (i + 3) L) (hB : B + 300 ≤ 1000000) (hrm : cells + 2 ≤ 603072 ∧ slots + 12 ≤ 7202922) (hL : LB G σ s H locs ls b i B)
    (kk : ∀ (G1 : Gd) (ρ : Mm) (H1 : Heap) (locs1 : List Loc) (ls1 : Array Slot), LB G1 ρ s H1 locs1 ls1 b i (B + 300) → W p l e room_1 s m #[Value.ref b] below meth c H1 locs1 (cells + 2) (slots + 12) Q (F0 m 2408 ls1 [])) : W p l e room_1 s m #[Value.ref b] below meth c H locs cells slots Q (F0 m 1220 ls []) := by
  obtain ⟨S, hX, hbl⟩ := C0
  obtain ⟨hx, hb, -⟩ := id S
  have hts := S.2.2.2.2
  obtain ⟨F, B1, R0, hAA, hl⟩ := hL
  have hbA : ¬ AA G s.heap.size b := fun q => absurd (hAA b q) (Nat.not_le.mpr hbl)
  refine lv_aload_n hx hb dL_law_1220 rfl (lv_at hl 1 rfl) ?_
  refine lv_aload_n hx hb dL_law_1221 rfl (lv_at hl 0 rfl) ?_
  refine lv_iload hx hb dL_law_1222 (lv_at hl 5 rfl) ?_
  refine lv_iconst (v := 1) hx hb dL_law_1224 (by decide) ?_
  refine lv_iadd hx hb dL_law_1225 ?_
  refine va_sld hx hb hX hbl hbA B1.2 h1 dL_law_1226 ?_
  obtain ⟨out, τ, g1, r9, ρ, g2, R1, sm⟩ := one_of (fun e2 => q_trimsAgain e2 R0 (xs (i + 1).toNatClampNeg))
  obtain ⟨hn, f2, f3⟩ := fin1 sm
  obtain ⟨G1, eG, F1, hA, hk, hw⟩ := aft_L F out τ
  refine lv_aload_n hx hb dL_law_1227 rfl (lv_at hl 3 rfl) ?_
  refine k_iSW (As := [.ref (G.2.2 154), .int (xs (i + 1).toNatClampNeg), .ref (G.2.2 207)]) (rest := []) (v := _) (τ := τ) (G1 := G1) (mc := 1) (ms := 6) S F B1 (by rw [← eG]; exact c_L_trimsAgain l hl9 G σ _ (xs (i + 1).toNatClampNeg) (out := (out, τ)) g1 (fun _ => 1) hn) hA (vx_cwSW 3 hts (gdl gL_law_L_trimsAgain) rfl rfl rfl (by decide +kernel) ⟨Nat.le_of_ble_eq_true rfl, Nat.le_of_ble_eq_true rfl⟩) rfl hl.1 rfl (Nat.le_of_ble_eq_true rfl) dL_law_1228 ⟨by show cells + 1 ≤ 603072; omega, by show slots + 6 ≤ 7202922; omega⟩ (fun H locs B1 => ?_)
  have hl : lv_has ls 10 [(0, .ref b), (1, .ref (G1.2.2 154)), (2, .ref (G1.2.2 198)), (3, .ref (G1.2.2 207)), (4, .ref (G1.2.2 208)), (5, .int i)] := by rw [hk 154 (by decide), hk 198 (by decide), hk 207 (by decide), hk 208 (by decide)]; exact hl
  have hbA : ¬ AA G1 s.heap.size b := by rw [hA]; exact hbA
  have hAA : ∀ q, AA G1 s.heap.size q → s.heap.size ≤ q := by rw [hA]; exact hAA
  refine lv_istore (lv' := (6, .int (hp (fun _ => 1) (out, τ))) :: [(0, .ref b), (1, .ref (G1.2.2 154)), (2, .ref (G1.2.2 198)), (3, .ref (G1.2.2 207)), (4, .ref (G1.2.2 208)), (5, .int i)]) hx hb dL_law_1231 hl (by decide) rfl (fun ls hl => ?_)
  refine lv_aload_n hx hb dL_law_1233 rfl (lv_at hl 3 rfl) ?_
  refine lv_aload_n hx hb dL_law_1234 rfl (lv_at hl 1 rfl) ?_
  refine lv_iload hx hb dL_law_1235 (lv_at hl 6 rfl) ?_
  refine lv_iconst (v := 1) hx hb dL_law_1237 (by decide) ?_
  refine lv_iadd hx hb dL_law_1238 ?_
  refine va_sld hx hb hX hbl hbA B1.2 h1 dL_law_1239 ?_
  refine k_iV (As := [.int (xs (i + 1).toNatClampNeg)]) (rest := []) S F1 B1 (c_X10_trimsAgain l G1 τ _ (xs (i + 1).toNatClampNeg) (out := (r9, ρ)) g2) (kq (by decide) : kd 198 = 21 ∧ 198 < NN) rfl rfl (cwV 1 hts (gdl gL_law_X10_trimsAgain) rfl rfl rfl (by decide +kernel) ⟨Nat.le_of_ble_eq_true rfl, Nat.le_of_ble_eq_true rfl⟩) rfl hl.1 rfl (Nat.le_of_ble_eq_true rfl) dL_law_1240 ⟨by show cells + 1 ≤ 603072; omega, by show slots + 6 ≤ 7202922; omega⟩ (fun H locs B1 => ?_)
  refine lv_istore (lv' := (7, .int r9) :: (6, .int (hp (fun _ => 1) (out, τ))) :: [(0, .ref b), (1, .ref (G1.2.2 154)), (2, .ref (G1.2.2 198)), (3, .ref (G1.2.2 207)), (4, .ref (G1.2.2 208)), (5, .int i)]) hx hb dL_law_1243 hl (by decide) rfl (fun ls hl => ?_)
  refine lv_aload_n hx hb dL_law_1245 rfl (lv_at hl 4 rfl) ?_
  refine k_iV (As := []) (rest := []) S F1 B1 (c_X10_thrown l G1 ρ _ (out := ρ 198 12) rfl) (kq (by decide) : kd 198 = 21 ∧ 198 < NN) rfl rfl (cwV 0 hts (gdl gL_law_X10_thrown) rfl rfl rfl (by decide +kernel) ⟨Nat.le_of_ble_eq_true rfl, Nat.le_of_ble_eq_true rfl⟩) rfl hl.1 rfl (Nat.le_of_ble_eq_true rfl) dL_law_1246 ⟨by show cells + 1 ≤ 603072; omega, by show slots + 6 ≤ 7202922; omega⟩ (fun H locs B1 => ?_)
  refine lv_iload hx hb dL_law_1249 (lv_at hl 1 rfl) ?_
  refine lv_icmp_eq (tgt := 1256) hx hb dL_law_1251 (by decide) (fun _ => ?_) (fun c1 => absurd f2 c1)
  refine lv_iload hx hb dL_law_1256 (lv_at hl 1 rfl) ?_
  refine lv_if_ne (tgt := 1273) hx hb dL_law_1258 (by decide) (fun _ => ?_) (fun c1 => ?_)
  · refine lv_goto (tgt := 2408) hx hb dL_law_1273 (by decide) ?_
    refine W.widen (k := cells + 2) (n := slots + 12) (by omega) (by omega) ?_
    exact kk _ _ _ _ _ ⟨F1, B1, R1.mono (by omega), hAA, lv_sub hl [2, 3, 4, 5, 6, 7] rfl⟩
  · have eo := f3 (f2.trans c1)
    have ew := hw _ eo
    refine lv_aload_n hx hb dL_law_1261 rfl (lv_at hl 5 rfl) ?_
    refine lv_iconst (v := 0) hx hb dL_law_1262 (by decide) ?_
    refine r_lald S F1 B1 dL_law_1263 ?_
    refine lv_iload hx hb dL_law_1264 (lv_at hl 0 rfl) ?_
    refine lv_i2l hx hb dL_law_1266 rfl ?_
    refine W.lcmp hx hb dL_law_1267 ?_
    rw [ew]
    refine lv_if_eq (tgt := 1273) hx hb dL_law_1268 (by decide) (fun _ => ?_) (fun c2 => absurd (lg_same _) c2)
    refine lv_goto (tgt := 2408) hx hb dL_law_1273 (by decide) ?_
    refine W.widen (k := cells + 2) (n := slots + 12) (by omega) (by omega) ?_
    exact kk _ _ _ _ _ ⟨F1, B1, R1.mono (by omega), hAA, lv_sub hl [2, 3, 4, 5, 6, 7] rfl⟩

set_option maxHeartbeats 4000000 in
set_option maxRecDepth 100000 in
theorem law_23 {σ : Mm} {G : Gd} {H : Heap} {locs : List Loc} {ls : Array Slot} {i : Int32} {B cells slots : Nat} (hl9 : l.stackTraces = false) (C0 : L0 p s m meth c b L xs) (h1 : vp_in (i + 1) L) (h2 : vp_in (i + 2) L) (h3 : vp_in (i + 3) L) (hB : B + 300 ≤ 1000000) (hrm : cells + 2 ≤ 603072 ∧ slots + 12 ≤ 7202922) (hL : LB G σ s H locs ls b i B)
    (kk : ∀ (G1 : Gd) (ρ : Mm) (H1 : Heap) (locs1 : List Loc) (ls1 : Array Slot), LB G1 ρ s H1 locs1 ls1 b i (B + 300) → W p l e room_1 s m #[Value.ref b] below meth c H1 locs1 (cells + 2) (slots + 12) Q (F0 m 2408 ls1 [])) : W p l e room_1 s m #[Value.ref b] below meth c H locs cells slots Q (F0 m 1624 ls []) := by
  obtain ⟨S, hX, hbl⟩ := C0
  obtain ⟨hx, hb, -⟩ := id S
  have hts := S.2.2.2.2
  obtain ⟨F, B1, R0, hAA, hl⟩ := hL
  have hbA : ¬ AA G s.heap.size b := fun q => absurd (hAA b q) (Nat.not_le.mpr hbl)
  refine lv_aload_n hx hb dL_law_1624 rfl (lv_at hl 1 rfl) ?_
  refine lv_aload_n hx hb dL_law_1625 rfl (lv_at hl 0 rfl) ?_
  refine lv_iload hx hb dL_law_1626 (lv_at hl 5 rfl) ?_
  refine lv_iconst (v := 1) hx hb dL_law_1628 (by decide) ?_
  refine lv_iadd hx hb dL_law_1629 ?_
  refine va_sld hx hb hX hbl hbA B1.2 h1 dL_law_1630 ?_
  obtain ⟨out, τ, g1, r9, ρ, g2, R1, sm⟩ := one_of (fun e2 => q_owed e2 R0 (xs (i + 1).toNatClampNeg))
  obtain ⟨hn, f2, f3⟩ := fin1 sm
  obtain ⟨G1, eG, F1, hA, hk, hw⟩ := aft_L F out τ
  refine lv_aload_n hx hb dL_law_1631 rfl (lv_at hl 3 rfl) ?_
  refine k_iSW (As := [.ref (G.2.2 154), .int (xs (i + 1).toNatClampNeg), .ref (G.2.2 207)]) (rest := []) (v := _) (τ := τ) (G1 := G1) (mc := 1) (ms := 6) S F B1 (by rw [← eG]; exact c_L_owed l hl9 G σ _ (xs (i + 1).toNatClampNeg) (out := (out, τ)) g1 (fun _ => 1) hn) hA (vx_cwSW 3 hts (gdl gL_law_L_owed) rfl rfl rfl (by decide +kernel) ⟨Nat.le_of_ble_eq_true rfl, Nat.le_of_ble_eq_true rfl⟩) rfl hl.1 rfl (Nat.le_of_ble_eq_true rfl) dL_law_1632 ⟨by show cells + 1 ≤ 603072; omega, by show slots + 6 ≤ 7202922; omega⟩ (fun H locs B1 => ?_)
  have hl : lv_has ls 10 [(0, .ref b), (1, .ref (G1.2.2 154)), (2, .ref (G1.2.2 198)), (3, .ref (G1.2.2 207)), (4, .ref (G1.2.2 208)), (5, .int i)] := by rw [hk 154 (by decide), hk 198 (by decide), hk 207 (by decide), hk 208 (by decide)]; exact hl
  have hbA : ¬ AA G1 s.heap.size b := by rw [hA]; exact hbA
  have hAA : ∀ q, AA G1 s.heap.size q → s.heap.size ≤ q := by rw [hA]; exact hAA
  refine lv_istore (lv' := (6, .int (hp (fun _ => 1) (out, τ))) :: [(0, .ref b), (1, .ref (G1.2.2 154)), (2, .ref (G1.2.2 198)), (3, .ref (G1.2.2 207)), (4, .ref (G1.2.2 208)), (5, .int i)]) hx hb dL_law_1635 hl (by decide) rfl (fun ls hl => ?_)
  refine lv_aload_n hx hb dL_law_1637 rfl (lv_at hl 3 rfl) ?_
  refine lv_aload_n hx hb dL_law_1638 rfl (lv_at hl 1 rfl) ?_
  refine lv_iload hx hb dL_law_1639 (lv_at hl 6 rfl) ?_
  refine lv_iconst (v := 1) hx hb dL_law_1641 (by decide) ?_
  refine lv_iadd hx hb dL_law_1642 ?_
  refine va_sld hx hb hX hbl hbA B1.2 h1 dL_law_1643 ?_
  refine k_iV (As := [.int (xs (i + 1).toNatClampNeg)]) (rest := []) S F1 B1 (c_X10_owed l G1 τ _ (xs (i + 1).toNatClampNeg) (out := (r9, ρ)) g2) (kq (by decide) : kd 198 = 21 ∧ 198 < NN) rfl rfl (cwV 1 hts (gdl gL_law_X10_owed) rfl rfl rfl (by decide +kernel) ⟨Nat.le_of_ble_eq_true rfl, Nat.le_of_ble_eq_true rfl⟩) rfl hl.1 rfl (Nat.le_of_ble_eq_true rfl) dL_law_1644 ⟨by show cells + 1 ≤ 603072; omega, by show slots + 6 ≤ 7202922; omega⟩ (fun H locs B1 => ?_)
  refine lv_istore (lv' := (7, .int r9) :: (6, .int (hp (fun _ => 1) (out, τ))) :: [(0, .ref b), (1, .ref (G1.2.2 154)), (2, .ref (G1.2.2 198)), (3, .ref (G1.2.2 207)), (4, .ref (G1.2.2 208)), (5, .int i)]) hx hb dL_law_1647 hl (by decide) rfl (fun ls hl => ?_)
  refine lv_aload_n hx hb dL_law_1649 rfl (lv_at hl 4 rfl) ?_
  refine k_iV (As := []) (rest := []) S F1 B1 (c_X10_thrown l G1 ρ _ (out := ρ 198 12) rfl) (kq (by decide) : kd 198 = 21 ∧ 198 < NN) rfl rfl (cwV 0 hts (gdl gL_law_X10_thrown) rfl rfl rfl (by decide +kernel) ⟨Nat.le_of_ble_eq_true rfl, Nat.le_of_ble_eq_true rfl⟩) rfl hl.1 rfl (Nat.le_of_ble_eq_true rfl) dL_law_1650 ⟨by show cells + 1 ≤ 603072; omega, by show slots + 6 ≤ 7202922; omega⟩ (fun H locs B1 => ?_)
  refine lv_iload hx hb dL_law_1653 (lv_at hl 1 rfl) ?_
  refine lv_icmp_eq (tgt := 1660) hx hb dL_law_1655 (by decide) (fun _ => ?_) (fun c1 => absurd f2 c1)
  refine lv_iload hx hb dL_law_1660 (lv_at hl 1 rfl) ?_
  refine lv_if_ne (tgt := 1677) hx hb dL_law_1662 (by decide) (fun _ => ?_) (fun c1 => ?_)
  · refine lv_goto (tgt := 2408) hx hb dL_law_1677 (by decide) ?_
    refine W.widen (k := cells + 2) (n := slots + 12) (by omega) (by omega) ?_
    exact kk _ _ _ _ _ ⟨F1, B1, R1.mono (by omega), hAA, lv_sub hl [2, 3, 4, 5, 6, 7] rfl⟩
  · have eo := f3 (f2.trans c1)
    have ew := hw _ eo
    refine lv_aload_n hx hb dL_law_1665 rfl (lv_at hl 5 rfl) ?_
    refine lv_iconst (v := 0) hx hb dL_law_1666 (by decide) ?_
    refine r_lald S F1 B1 dL_law_1667 ?_
    refine lv_iload hx hb dL_law_1668 (lv_at hl 0 rfl) ?_
    refine lv_i2l hx hb dL_law_1670 rfl ?_
    refine W.lcmp hx hb dL_law_1671 ?_
    rw [ew]
    refine lv_if_eq (tgt := 1677) hx hb dL_law_1672 (by decide) (fun _ => ?_) (fun c2 => absurd (lg_same _) c2)
    refine lv_goto (tgt := 2408) hx hb dL_law_1677 (by decide) ?_
    refine W.widen (k := cells + 2) (n := slots + 12) (by omega) (by omega) ?_
    exact kk _ _ _ _ _ ⟨F1, B1, R1.mono (by omega), hAA, lv_sub hl [2, 3, 4, 5, 6, 7] rfl⟩

set_option maxHeartbeats 4000000 in
set_option maxRecDepth 100000 in
theorem law_30 {σ : Mm} {G : Gd} {H : Heap} {locs : List Loc} {ls : Array Slot} {i : Int32} {B cells slots : Nat} (hl9 : l.stackTraces = false) (C0 : L0 p s m meth c b L xs) (h1 : vp_in (i + 1) L) (h2 : vp_in (i + 2) L) (h3 : vp_in (i + 3) L) (hB : B + 300 ≤ 1000000) (hrm : cells + 2 ≤ 603072 ∧ slots + 12 ≤ 7202922) (hL : LB G σ s H locs ls b i B)
    (kk : ∀ (G1 : Gd) (ρ : Mm) (H1 : Heap) (locs1 : List Loc) (ls1 : Array Slot), LB G1 ρ s H1 locs1 ls1 b i (B + 300) → W p l e room_1 s m #[Value.ref b] below meth c H1 locs1 (cells + 2) (slots + 12) Q (F0 m 2408 ls1 [])) : W p l e room_1 s m #[Value.ref b] below meth c H locs cells slots Q (F0 m 1975 ls []) := by
  obtain ⟨S, hX, hbl⟩ := C0
  obtain ⟨hx, hb, -⟩ := id S
  have hts := S.2.2.2.2
  obtain ⟨F, B1, R0, hAA, hl⟩ := hL
  have hbA : ¬ AA G s.heap.size b := fun q => absurd (hAA b q) (Nat.not_le.mpr hbl)
  refine lv_aload_n hx hb dL_law_1975 rfl (lv_at hl 1 rfl) ?_
  refine lv_aload_n hx hb dL_law_1976 rfl (lv_at hl 0 rfl) ?_
  refine lv_iload hx hb dL_law_1977 (lv_at hl 5 rfl) ?_
  refine lv_iconst (v := 1) hx hb dL_law_1979 (by decide) ?_
  refine lv_iadd hx hb dL_law_1980 ?_
  refine va_sld hx hb hX hbl hbA B1.2 h1 dL_law_1981 ?_
  obtain ⟨out, τ, g1, r9, ρ, g2, R1, sm⟩ := one_of (fun e2 => q_line e2 (by omega) R0 (xs (i + 1).toNatClampNeg))
  obtain ⟨hn, f2, f3⟩ := fin1 sm
  obtain ⟨G1, eG, F1, hA, hk, hw⟩ := aft_L F out τ
  refine lv_aload_n hx hb dL_law_1982 rfl (lv_at hl 3 rfl) ?_
  refine k_iSW (As := [.ref (G.2.2 154), .int (xs (i + 1).toNatClampNeg), .ref (G.2.2 207)]) (rest := []) (v := _) (τ := τ) (G1 := G1) (mc := 1) (ms := 6) S F B1 (by rw [← eG]; exact c_L_line l hl9 G σ _ (xs (i + 1).toNatClampNeg) (out := (out, τ)) g1 (fun _ => 1) hn) hA (vx_cwSW 3 hts (gdl gL_law_L_line) rfl rfl rfl (by decide +kernel) ⟨Nat.le_of_ble_eq_true rfl, Nat.le_of_ble_eq_true rfl⟩) rfl hl.1 rfl (Nat.le_of_ble_eq_true rfl) dL_law_1983 ⟨by show cells + 1 ≤ 603072; omega, by show slots + 6 ≤ 7202922; omega⟩ (fun H locs B1 => ?_)
  have hl : lv_has ls 10 [(0, .ref b), (1, .ref (G1.2.2 154)), (2, .ref (G1.2.2 198)), (3, .ref (G1.2.2 207)), (4, .ref (G1.2.2 208)), (5, .int i)] := by rw [hk 154 (by decide), hk 198 (by decide), hk 207 (by decide), hk 208 (by decide)]; exact hl
  have hbA : ¬ AA G1 s.heap.size b := by rw [hA]; exact hbA
  have hAA : ∀ q, AA G1 s.heap.size q → s.heap.size ≤ q := by rw [hA]; exact hAA
  refine lv_istore (lv' := (6, .int (hp (fun _ => 1) (out, τ))) :: [(0, .ref b), (1, .ref (G1.2.2 154)), (2, .ref (G1.2.2 198)), (3, .ref (G1.2.2 207)), (4, .ref (G1.2.2 208)), (5, .int i)]) hx hb dL_law_1986 hl (by decide) rfl (fun ls hl => ?_)
  refine lv_aload_n hx hb dL_law_1988 rfl (lv_at hl 3 rfl) ?_
  refine lv_aload_n hx hb dL_law_1989 rfl (lv_at hl 1 rfl) ?_
  refine lv_iload hx hb dL_law_1990 (lv_at hl 6 rfl) ?_
  refine lv_iconst (v := 1) hx hb dL_law_1992 (by decide) ?_
  refine lv_iadd hx hb dL_law_1993 ?_
  refine va_sld hx hb hX hbl hbA B1.2 h1 dL_law_1994 ?_
  refine k_iV (As := [.int (xs (i + 1).toNatClampNeg)]) (rest := []) S F1 B1 (c_X10_line l G1 τ _ (xs (i + 1).toNatClampNeg) (out := (r9, ρ)) g2) (kq (by decide) : kd 198 = 21 ∧ 198 < NN) rfl rfl (cwV 1 hts (gdl gL_law_X10_line) rfl rfl rfl (by decide +kernel) ⟨Nat.le_of_ble_eq_true rfl, Nat.le_of_ble_eq_true rfl⟩) rfl hl.1 rfl (Nat.le_of_ble_eq_true rfl) dL_law_1995 ⟨by show cells + 1 ≤ 603072; omega, by show slots + 6 ≤ 7202922; omega⟩ (fun H locs B1 => ?_)
  refine lv_istore (lv' := (7, .int r9) :: (6, .int (hp (fun _ => 1) (out, τ))) :: [(0, .ref b), (1, .ref (G1.2.2 154)), (2, .ref (G1.2.2 198)), (3, .ref (G1.2.2 207)), (4, .ref (G1.2.2 208)), (5, .int i)]) hx hb dL_law_1998 hl (by decide) rfl (fun ls hl => ?_)
  refine lv_aload_n hx hb dL_law_2000 rfl (lv_at hl 4 rfl) ?_
  refine k_iV (As := []) (rest := []) S F1 B1 (c_X10_thrown l G1 ρ _ (out := ρ 198 12) rfl) (kq (by decide) : kd 198 = 21 ∧ 198 < NN) rfl rfl (cwV 0 hts (gdl gL_law_X10_thrown) rfl rfl rfl (by decide +kernel) ⟨Nat.le_of_ble_eq_true rfl, Nat.le_of_ble_eq_true rfl⟩) rfl hl.1 rfl (Nat.le_of_ble_eq_true rfl) dL_law_2001 ⟨by show cells + 1 ≤ 603072; omega, by show slots + 6 ≤ 7202922; omega⟩ (fun H locs B1 => ?_)
  refine lv_iload hx hb dL_law_2004 (lv_at hl 1 rfl) ?_
  refine lv_icmp_eq (tgt := 2011) hx hb dL_law_2006 (by decide) (fun _ => ?_) (fun c1 => absurd f2 c1)
  refine lv_iload hx hb dL_law_2011 (lv_at hl 1 rfl) ?_
  refine lv_if_ne (tgt := 2028) hx hb dL_law_2013 (by decide) (fun _ => ?_) (fun c1 => ?_)
  · refine lv_goto (tgt := 2408) hx hb dL_law_2028 (by decide) ?_
    refine W.widen (k := cells + 2) (n := slots + 12) (by omega) (by omega) ?_
    exact kk _ _ _ _ _ ⟨F1, B1, R1.mono (by omega), hAA, lv_sub hl [2, 3, 4, 5, 6, 7] rfl⟩
  · have eo := f3 (f2.trans c1)
    have ew := hw _ eo
    refine lv_aload_n hx hb dL_law_2016 rfl (lv_at hl 5 rfl) ?_
    refine lv_iconst (v := 0) hx hb dL_law_2017 (by decide) ?_
    refine r_lald S F1 B1 dL_law_2018 ?_
    refine lv_iload hx hb dL_law_2019 (lv_at hl 0 rfl) ?_
    refine lv_i2l hx hb dL_law_2021 rfl ?_
    refine W.lcmp hx hb dL_law_2022 ?_
    rw [ew]
    refine lv_if_eq (tgt := 2028) hx hb dL_law_2023 (by decide) (fun _ => ?_) (fun c2 => absurd (lg_same _) c2)
    refine lv_goto (tgt := 2408) hx hb dL_law_2028 (by decide) ?_
    refine W.widen (k := cells + 2) (n := slots + 12) (by omega) (by omega) ?_
    exact kk _ _ _ _ _ ⟨F1, B1, R1.mono (by omega), hAA, lv_sub hl [2, 3, 4, 5, 6, 7] rfl⟩

end LC
