section LC
variable {p : Program} {l : Launch} {e : Env} {s : State} {m : MethodId} {below : List Frame} {meth : Method} {c : Code} {b L : Nat} {xs : Nat → Int32} {Q : State → Prop}
set_option maxHeartbeats 4000000 in
set_option maxRecDepth 100000 in
theorem law_6 {σ : Mm} {G : Gd} {H : Heap} {locs : List Loc} {ls : Array Slot} {i : Int32} {B cells slots : Nat} (hl9 : l.stackTraces = false) (C0 : L0 p s m meth c b L xs) (h1 : vp_in (i + 1) L) (h2 : vp_in (i + 2) L) (h3 : vp_in (i + 3) L) (hB : B + 300 ≤ 1000000) (hrm : cells + 2 ≤ 603072 ∧ slots + 12 ≤ 7202922) (hL : LB G σ s H locs ls b i B)
    (kk : ∀ (G1 : Gd) (ρ : Mm) (H1 : Heap) (locs1 : List Loc) (ls1 : Array Slot), LB G1 ρ s H1 locs1 ls1 b i (B + 300) → W p l e room_1 s m #[Value.ref b] below meth c H1 locs1 (cells + 2) (slots + 12) Q (F0 m 2408 ls1 [])) : W p l e room_1 s m #[Value.ref b] below meth c H locs cells slots Q (F0 m 557 ls []) := by
  obtain ⟨S, hX, hbl⟩ := C0
  obtain ⟨hx, hb, -⟩ := id S
  have hts := S.2.2.2.2
  obtain ⟨F, B1, R0, hAA, hl⟩ := hL
  have hbA : ¬ AA G s.heap.size b := fun q => absurd (hAA b q) (Nat.not_le.mpr hbl)
  refine lv_aload_n hx hb dL_law_557 rfl (lv_at hl 1 rfl) ?_
  refine lv_aload_n hx hb dL_law_558 rfl (lv_at hl 0 rfl) ?_
  refine lv_iload hx hb dL_law_559 (lv_at hl 5 rfl) ?_
  refine lv_iconst (v := 1) hx hb dL_law_561 (by decide) ?_
  refine lv_iadd hx hb dL_law_562 ?_
  refine va_sld hx hb hX hbl hbA B1.2 h1 dL_law_563 ?_
  refine lv_aload_n hx hb dL_law_564 rfl (lv_at hl 0 rfl) ?_
  refine lv_iload hx hb dL_law_565 (lv_at hl 5 rfl) ?_
  refine lv_iconst (v := 2) hx hb dL_law_567 (by decide) ?_
  refine lv_iadd hx hb dL_law_568 ?_
  refine va_sld hx hb hX hbl hbA B1.2 h2 dL_law_569 ?_
  refine lv_aload_n hx hb dL_law_570 rfl (lv_at hl 0 rfl) ?_
  refine lv_iload hx hb dL_law_571 (lv_at hl 5 rfl) ?_
  refine lv_iconst (v := 3) hx hb dL_law_573 (by decide) ?_
  refine lv_iadd hx hb dL_law_574 ?_
  refine va_sld hx hb hX hbl hbA B1.2 h3 dL_law_575 ?_
  obtain ⟨out, τ, g1, r9, ρ, g2, R1, sm⟩ := q_bond R0 (xs (i + 1).toNatClampNeg) (xs (i + 2).toNatClampNeg) (xs (i + 3).toNatClampNeg)
  obtain ⟨hn, f2, f3⟩ := fin1 sm
  obtain ⟨G1, eG, F1, hA, hk, hw⟩ := aft_L F out τ
  refine lv_aload_n hx hb dL_law_576 rfl (lv_at hl 3 rfl) ?_
  refine k_iSW (As := [.ref (G.2.2 154), .int (xs (i + 1).toNatClampNeg), .int (xs (i + 2).toNatClampNeg), .int (xs (i + 3).toNatClampNeg), .ref (G.2.2 207)]) (rest := []) (v := _) (τ := τ) (G1 := G1) (mc := 1) (ms := 6) S F B1 (by rw [← eG]; exact c_L_bond l hl9 G σ _ (xs (i + 1).toNatClampNeg) (xs (i + 2).toNatClampNeg) (xs (i + 3).toNatClampNeg) (out := (out, τ)) g1 (fun _ => 1) hn) hA (vx_cwSW 5 hts (gdl gL_law_L_bond) rfl rfl rfl (by decide +kernel) ⟨Nat.le_of_ble_eq_true rfl, Nat.le_of_ble_eq_true rfl⟩) rfl hl.1 rfl (Nat.le_of_ble_eq_true rfl) dL_law_577 ⟨by show cells + 1 ≤ 603072; omega, by show slots + 6 ≤ 7202922; omega⟩ (fun H locs B1 => ?_)
  have hl : lv_has ls 10 [(0, .ref b), (1, .ref (G1.2.2 154)), (2, .ref (G1.2.2 198)), (3, .ref (G1.2.2 207)), (4, .ref (G1.2.2 208)), (5, .int i)] := by rw [hk 154 (by decide), hk 198 (by decide), hk 207 (by decide), hk 208 (by decide)]; exact hl
  have hbA : ¬ AA G1 s.heap.size b := by rw [hA]; exact hbA
  have hAA : ∀ q, AA G1 s.heap.size q → s.heap.size ≤ q := by rw [hA]; exact hAA
  refine lv_istore (lv' := (6, .int (hp (fun _ => 1) (out, τ))) :: [(0, .ref b), (1, .ref (G1.2.2 154)), (2, .ref (G1.2.2 198)), (3, .ref (G1.2.2 207)), (4, .ref (G1.2.2 208)), (5, .int i)]) hx hb dL_law_580 hl (by decide) rfl (fun ls hl => ?_)
  refine lv_aload_n hx hb dL_law_582 rfl (lv_at hl 3 rfl) ?_
  refine lv_aload_n hx hb dL_law_583 rfl (lv_at hl 1 rfl) ?_
  refine lv_iload hx hb dL_law_584 (lv_at hl 6 rfl) ?_
  refine lv_iconst (v := 1) hx hb dL_law_586 (by decide) ?_
  refine lv_iadd hx hb dL_law_587 ?_
  refine va_sld hx hb hX hbl hbA B1.2 h1 dL_law_588 ?_
  refine lv_aload_n hx hb dL_law_589 rfl (lv_at hl 1 rfl) ?_
  refine lv_iload hx hb dL_law_590 (lv_at hl 6 rfl) ?_
  refine lv_iconst (v := 2) hx hb dL_law_592 (by decide) ?_
  refine lv_iadd hx hb dL_law_593 ?_
  refine va_sld hx hb hX hbl hbA B1.2 h2 dL_law_594 ?_
  refine lv_aload_n hx hb dL_law_595 rfl (lv_at hl 1 rfl) ?_
  refine lv_iload hx hb dL_law_596 (lv_at hl 6 rfl) ?_
  refine lv_iconst (v := 3) hx hb dL_law_598 (by decide) ?_
  refine lv_iadd hx hb dL_law_599 ?_
  refine va_sld hx hb hX hbl hbA B1.2 h3 dL_law_600 ?_
  refine k_iV (As := [.int (xs (i + 1).toNatClampNeg), .int (xs (i + 2).toNatClampNeg), .int (xs (i + 3).toNatClampNeg)]) (rest := []) S F1 B1 (c_X10_bond l G1 τ _ (xs (i + 1).toNatClampNeg) (xs (i + 2).toNatClampNeg) (xs (i + 3).toNatClampNeg) (out := (r9, ρ)) g2) (kq (by decide) : kd 198 = 21 ∧ 198 < NN) rfl rfl (cwV 3 hts (gdl gL_law_X10_bond) rfl rfl rfl (by decide +kernel) ⟨Nat.le_of_ble_eq_true rfl, Nat.le_of_ble_eq_true rfl⟩) rfl hl.1 rfl (Nat.le_of_ble_eq_true rfl) dL_law_601 ⟨by show cells + 1 ≤ 603072; omega, by show slots + 6 ≤ 7202922; omega⟩ (fun H locs B1 => ?_)
  refine lv_istore (lv' := (7, .int r9) :: (6, .int (hp (fun _ => 1) (out, τ))) :: [(0, .ref b), (1, .ref (G1.2.2 154)), (2, .ref (G1.2.2 198)), (3, .ref (G1.2.2 207)), (4, .ref (G1.2.2 208)), (5, .int i)]) hx hb dL_law_604 hl (by decide) rfl (fun ls hl => ?_)
  refine lv_aload_n hx hb dL_law_606 rfl (lv_at hl 4 rfl) ?_
  refine k_iV (As := []) (rest := []) S F1 B1 (c_X10_thrown l G1 ρ _ (out := ρ 198 12) rfl) (kq (by decide) : kd 198 = 21 ∧ 198 < NN) rfl rfl (cwV 0 hts (gdl gL_law_X10_thrown) rfl rfl rfl (by decide +kernel) ⟨Nat.le_of_ble_eq_true rfl, Nat.le_of_ble_eq_true rfl⟩) rfl hl.1 rfl (Nat.le_of_ble_eq_true rfl) dL_law_607 ⟨by show cells + 1 ≤ 603072; omega, by show slots + 6 ≤ 7202922; omega⟩ (fun H locs B1 => ?_)
  refine lv_iload hx hb dL_law_610 (lv_at hl 1 rfl) ?_
  refine lv_icmp_eq (tgt := 617) hx hb dL_law_612 (by decide) (fun _ => ?_) (fun c1 => absurd f2 c1)
  refine lv_iload hx hb dL_law_617 (lv_at hl 1 rfl) ?_
  refine lv_if_ne (tgt := 634) hx hb dL_law_619 (by decide) (fun _ => ?_) (fun c1 => ?_)
  · refine lv_goto (tgt := 2408) hx hb dL_law_634 (by decide) ?_
    refine W.widen (k := cells + 2) (n := slots + 12) (by omega) (by omega) ?_
    exact kk _ _ _ _ _ ⟨F1, B1, R1.mono (by omega), hAA, lv_sub hl [2, 3, 4, 5, 6, 7] rfl⟩
  · have eo := f3 (f2.trans c1)
    have ew := hw _ eo
    refine lv_aload_n hx hb dL_law_622 rfl (lv_at hl 5 rfl) ?_
    refine lv_iconst (v := 0) hx hb dL_law_623 (by decide) ?_
    refine r_lald S F1 B1 dL_law_624 ?_
    refine lv_iload hx hb dL_law_625 (lv_at hl 0 rfl) ?_
    refine lv_i2l hx hb dL_law_627 rfl ?_
    refine W.lcmp hx hb dL_law_628 ?_
    rw [ew]
    refine lv_if_eq (tgt := 634) hx hb dL_law_629 (by decide) (fun _ => ?_) (fun c2 => absurd (lg_same _) c2)
    refine lv_goto (tgt := 2408) hx hb dL_law_634 (by decide) ?_
    refine W.widen (k := cells + 2) (n := slots + 12) (by omega) (by omega) ?_
    exact kk _ _ _ _ _ ⟨F1, B1, R1.mono (by omega), hAA, lv_sub hl [2, 3, 4, 5, 6, 7] rfl⟩

set_option maxHeartbeats 4000000 in
set_option maxRecDepth 100000 in
theorem law_12 {σ : Mm} {G : Gd} {H : Heap} {locs : List Loc} {ls : Array Slot} {i : Int32} {B cells slots : Nat} (hl9 : l.stackTraces = false) (C0 : L0 p s m meth c b L xs) (h1 : vp_in (i + 1) L) (h2 : vp_in (i + 2) L) (h3 : vp_in (i + 3) L) (hB : B + 300 ≤ 1000000) (hrm : cells + 2 ≤ 603072 ∧ slots + 12 ≤ 7202922) (hL : LB G σ s H locs ls b i B)
    (kk : ∀ (G1 : Gd) (ρ : Mm) (H1 : Heap) (locs1 : List Loc) (ls1 : Array Slot), LB G1 ρ s H1 locs1 ls1 b i (B + 300) → W p l e room_1 s m #[Value.ref b] below meth c H1 locs1 (cells + 2) (slots + 12) Q (F0 m 2408 ls1 [])) : W p l e room_1 s m #[Value.ref b] below meth c H locs cells slots Q (F0 m 984 ls []) := by
  obtain ⟨S, hX, hbl⟩ := C0
  obtain ⟨hx, hb, -⟩ := id S
  have hts := S.2.2.2.2
  obtain ⟨F, B1, R0, hAA, hl⟩ := hL
  have hbA : ¬ AA G s.heap.size b := fun q => absurd (hAA b q) (Nat.not_le.mpr hbl)
  refine lv_aload_n hx hb dL_law_984 rfl (lv_at hl 1 rfl) ?_
  refine lv_aload_n hx hb dL_law_985 rfl (lv_at hl 0 rfl) ?_
  refine lv_iload hx hb dL_law_986 (lv_at hl 5 rfl) ?_
  refine lv_iconst (v := 1) hx hb dL_law_988 (by decide) ?_
  refine lv_iadd hx hb dL_law_989 ?_
  refine va_sld hx hb hX hbl hbA B1.2 h1 dL_law_990 ?_
  refine lv_aload_n hx hb dL_law_991 rfl (lv_at hl 0 rfl) ?_
  refine lv_iload hx hb dL_law_992 (lv_at hl 5 rfl) ?_
  refine lv_iconst (v := 2) hx hb dL_law_994 (by decide) ?_
  refine lv_iadd hx hb dL_law_995 ?_
  refine va_sld hx hb hX hbl hbA B1.2 h2 dL_law_996 ?_
  obtain ⟨out, τ, g1, r9, ρ, g2, R1, sm⟩ := q_hoursAgain R0 (xs (i + 1).toNatClampNeg) (xs (i + 2).toNatClampNeg)
  obtain ⟨hn, f2, f3⟩ := fin2 (by decide) sm
  obtain ⟨G1, eG, F1, hA, hk, hw⟩ := aft_L F out τ
  refine lv_aload_n hx hb dL_law_997 rfl (lv_at hl 3 rfl) ?_
  refine k_iSW (As := [.ref (G.2.2 154), .int (xs (i + 1).toNatClampNeg), .int (xs (i + 2).toNatClampNeg), .ref (G.2.2 207)]) (rest := []) (v := _) (τ := τ) (G1 := G1) (mc := 2) (ms := 12) S F B1 (by rw [← eG]; exact c_L_hoursAgain l hl9 G σ _ (xs (i + 1).toNatClampNeg) (xs (i + 2).toNatClampNeg) (out := (out, τ)) g1 (fun n => if n = 1 then 1 else 2) hn) hA (vx_cwSW 4 hts (gdm (gdl gL_law_L_hoursAgain) (goodIn_sub (by decide +kernel) (by decide +kernel))) rfl rfl rfl (by decide +kernel) ⟨Nat.le_of_ble_eq_true rfl, Nat.le_of_ble_eq_true rfl⟩) rfl hl.1 rfl (Nat.le_of_ble_eq_true rfl) dL_law_998 ⟨by show cells + 2 ≤ 603072; omega, by show slots + 12 ≤ 7202922; omega⟩ (fun H locs B1 => ?_)
  have hl : lv_has ls 10 [(0, .ref b), (1, .ref (G1.2.2 154)), (2, .ref (G1.2.2 198)), (3, .ref (G1.2.2 207)), (4, .ref (G1.2.2 208)), (5, .int i)] := by rw [hk 154 (by decide), hk 198 (by decide), hk 207 (by decide), hk 208 (by decide)]; exact hl
  have hbA : ¬ AA G1 s.heap.size b := by rw [hA]; exact hbA
  have hAA : ∀ q, AA G1 s.heap.size q → s.heap.size ≤ q := by rw [hA]; exact hAA
  refine lv_istore (lv' := (6, .int (hp (fun n => if n = 1 then 1 else 2) (out, τ))) :: [(0, .ref b), (1, .ref (G1.2.2 154)), (2, .ref (G1.2.2 198)), (3, .ref (G1.2.2 207)), (4, .ref (G1.2.2 208)), (5, .int i)]) hx hb dL_law_1001 hl (by decide) rfl (fun ls hl => ?_)
  refine lv_aload_n hx hb dL_law_1003 rfl (lv_at hl 3 rfl) ?_
  refine lv_aload_n hx hb dL_law_1004 rfl (lv_at hl 1 rfl) ?_
  refine lv_iload hx hb dL_law_1005 (lv_at hl 6 rfl) ?_
  refine lv_iconst (v := 1) hx hb dL_law_1007 (by decide) ?_
  refine lv_iadd hx hb dL_law_1008 ?_
  refine va_sld hx hb hX hbl hbA B1.2 h1 dL_law_1009 ?_
  refine lv_aload_n hx hb dL_law_1010 rfl (lv_at hl 1 rfl) ?_
  refine lv_iload hx hb dL_law_1011 (lv_at hl 6 rfl) ?_
  refine lv_iconst (v := 2) hx hb dL_law_1013 (by decide) ?_
  refine lv_iadd hx hb dL_law_1014 ?_
  refine va_sld hx hb hX hbl hbA B1.2 h2 dL_law_1015 ?_
  refine k_iV (As := [.int (xs (i + 1).toNatClampNeg), .int (xs (i + 2).toNatClampNeg)]) (rest := []) S F1 B1 (c_X10_hoursAgain l G1 τ _ (xs (i + 1).toNatClampNeg) (xs (i + 2).toNatClampNeg) (out := (r9, ρ)) g2) (kq (by decide) : kd 198 = 21 ∧ 198 < NN) rfl rfl (cwV 2 hts (gdl gL_law_X10_hoursAgain) rfl rfl rfl (by decide +kernel) ⟨Nat.le_of_ble_eq_true rfl, Nat.le_of_ble_eq_true rfl⟩) rfl hl.1 rfl (Nat.le_of_ble_eq_true rfl) dL_law_1016 ⟨by show cells + 2 ≤ 603072; omega, by show slots + 12 ≤ 7202922; omega⟩ (fun H locs B1 => ?_)
  refine lv_istore (lv' := (7, .int r9) :: (6, .int (hp (fun n => if n = 1 then 1 else 2) (out, τ))) :: [(0, .ref b), (1, .ref (G1.2.2 154)), (2, .ref (G1.2.2 198)), (3, .ref (G1.2.2 207)), (4, .ref (G1.2.2 208)), (5, .int i)]) hx hb dL_law_1019 hl (by decide) rfl (fun ls hl => ?_)
  refine lv_aload_n hx hb dL_law_1021 rfl (lv_at hl 4 rfl) ?_
  refine k_iV (As := []) (rest := []) S F1 B1 (c_X10_thrown l G1 ρ _ (out := ρ 198 12) rfl) (kq (by decide) : kd 198 = 21 ∧ 198 < NN) rfl rfl (cwV 0 hts (gdl gL_law_X10_thrown) rfl rfl rfl (by decide +kernel) ⟨Nat.le_of_ble_eq_true rfl, Nat.le_of_ble_eq_true rfl⟩) rfl hl.1 rfl (Nat.le_of_ble_eq_true rfl) dL_law_1022 ⟨by show cells + 2 ≤ 603072; omega, by show slots + 12 ≤ 7202922; omega⟩ (fun H locs B1 => ?_)
  refine lv_iload hx hb dL_law_1025 (lv_at hl 1 rfl) ?_
  refine lv_icmp_eq (tgt := 1032) hx hb dL_law_1027 (by decide) (fun _ => ?_) (fun c1 => absurd f2 c1)
  refine lv_iload hx hb dL_law_1032 (lv_at hl 1 rfl) ?_
  refine lv_if_ne (tgt := 1049) hx hb dL_law_1034 (by decide) (fun _ => ?_) (fun c1 => ?_)
  · refine lv_goto (tgt := 2408) hx hb dL_law_1049 (by decide) ?_
    refine W.widen (k := cells + 2) (n := slots + 12) (by omega) (by omega) ?_
    exact kk _ _ _ _ _ ⟨F1, B1, R1.mono (by omega), hAA, lv_sub hl [2, 3, 4, 5, 6, 7] rfl⟩
  · have eo := f3 (f2.trans c1)
    have ew := hw _ eo
    refine lv_aload_n hx hb dL_law_1037 rfl (lv_at hl 5 rfl) ?_
    refine lv_iconst (v := 0) hx hb dL_law_1038 (by decide) ?_
    refine r_lald S F1 B1 dL_law_1039 ?_
    refine lv_iload hx hb dL_law_1040 (lv_at hl 0 rfl) ?_
    refine lv_i2l hx hb dL_law_1042 rfl ?_
    refine W.lcmp hx hb dL_law_1043 ?_
    rw [ew]
    refine lv_if_eq (tgt := 1049) hx hb dL_law_1044 (by decide) (fun _ => ?_) (fun c2 => absurd (lg_same _) c2)
    refine lv_goto (tgt := 2408) hx hb dL_law_1049 (by decide) ?_
    refine W.widen (k := cells + 2) (n := slots + 12) (by omega) (by omega) ?_
    exact kk _ _ _ _ _ ⟨F1, B1, R1.mono (by omega), hAA, lv_sub hl [2, 3, 4, 5, 6, 7] rfl⟩

set_option maxHeartbeats 4000000 in
set_option maxRecDepth 100000 in
theorem law_18 {σ : Mm} {G : Gd} {H : Heap} {locs : List Loc} {ls : Array Slot} {i : Int32} {B cells slots : Nat} (hl9 : l.stackTraces = false) (C0 : L0 p s m meth c b L xs) (h1 : vp_in (i + 1) L) (h2 : vp_in (i + 2) L) (h3 : vp_in (i + 3) L) (hB : B + 300 ≤ 1000000) (hrm : cells + 2 ≤ 603072 ∧ slots + 12 ≤ 7202922) (hL : LB G σ s H locs ls b i B)
    (kk : ∀ (G1 : Gd) (ρ : Mm) (H1 : Heap) (locs1 : List Loc) (ls1 : Array Slot), LB G1 ρ s H1 locs1 ls1 b i (B + 300) → W p l e room_1 s m #[Value.ref b] below meth c H1 locs1 (cells + 2) (slots + 12) Q (F0 m 2408 ls1 [])) : W p l e room_1 s m #[Value.ref b] below meth c H locs cells slots Q (F0 m 1351 ls []) := by
  obtain ⟨S, hX, hbl⟩ := C0
  obtain ⟨hx, hb, -⟩ := id S
  have hts := S.2.2.2.2
  obtain ⟨F, B1, R0, hAA, hl⟩ := hL
  have hbA : ¬ AA G s.heap.size b := fun q => absurd (hAA b q) (Nat.not_le.mpr hbl)
  refine lv_aload_n hx hb dL_law_1351 rfl (lv_at hl 1 rfl) ?_
  refine lv_aload_n hx hb dL_law_1352 rfl (lv_at hl 0 rfl) ?_
  refine lv_iload hx hb dL_law_1353 (lv_at hl 5 rfl) ?_
  refine lv_iconst (v := 1) hx hb dL_law_1355 (by decide) ?_
  refine lv_iadd hx hb dL_law_1356 ?_
  refine va_sld hx hb hX hbl hbA B1.2 h1 dL_law_1357 ?_
  refine lv_aload_n hx hb dL_law_1358 rfl (lv_at hl 0 rfl) ?_
  refine lv_iload hx hb dL_law_1359 (lv_at hl 5 rfl) ?_
  refine lv_iconst (v := 2) hx hb dL_law_1361 (by decide) ?_
  refine lv_iadd hx hb dL_law_1362 ?_
  refine va_sld hx hb hX hbl hbA B1.2 h2 dL_law_1363 ?_
  obtain ⟨out, τ, g1, r9, ρ, g2, R1, sm⟩ := q_closesIn R0 (xs (i + 1).toNatClampNeg) (xs (i + 2).toNatClampNeg)
  obtain ⟨hn, f2, f3⟩ := fin2 (by decide) sm
  obtain ⟨G1, eG, F1, hA, hk, hw⟩ := aft_L F out τ
  refine lv_aload_n hx hb dL_law_1364 rfl (lv_at hl 3 rfl) ?_
  refine k_iSW (As := [.ref (G.2.2 154), .int (xs (i + 1).toNatClampNeg), .int (xs (i + 2).toNatClampNeg), .ref (G.2.2 207)]) (rest := []) (v := _) (τ := τ) (G1 := G1) (mc := 2) (ms := 12) S F B1 (by rw [← eG]; exact c_L_closesIn l hl9 G σ _ (xs (i + 1).toNatClampNeg) (xs (i + 2).toNatClampNeg) (out := (out, τ)) g1 (fun n => if n = 1 then 1 else 2) hn) hA (vx_cwSW 4 hts (gdm (gdl gL_law_L_closesIn) (goodIn_sub (by decide +kernel) (by decide +kernel))) rfl rfl rfl (by decide +kernel) ⟨Nat.le_of_ble_eq_true rfl, Nat.le_of_ble_eq_true rfl⟩) rfl hl.1 rfl (Nat.le_of_ble_eq_true rfl) dL_law_1365 ⟨by show cells + 2 ≤ 603072; omega, by show slots + 12 ≤ 7202922; omega⟩ (fun H locs B1 => ?_)
  have hl : lv_has ls 10 [(0, .ref b), (1, .ref (G1.2.2 154)), (2, .ref (G1.2.2 198)), (3, .ref (G1.2.2 207)), (4, .ref (G1.2.2 208)), (5, .int i)] := by rw [hk 154 (by decide), hk 198 (by decide), hk 207 (by decide), hk 208 (by decide)]; exact hl
  have hbA : ¬ AA G1 s.heap.size b := by rw [hA]; exact hbA
  have hAA : ∀ q, AA G1 s.heap.size q → s.heap.size ≤ q := by rw [hA]; exact hAA
  refine lv_istore (lv' := (6, .int (hp (fun n => if n = 1 then 1 else 2) (out, τ))) :: [(0, .ref b), (1, .ref (G1.2.2 154)), (2, .ref (G1.2.2 198)), (3, .ref (G1.2.2 207)), (4, .ref (G1.2.2 208)), (5, .int i)]) hx hb dL_law_1368 hl (by decide) rfl (fun ls hl => ?_)
  refine lv_aload_n hx hb dL_law_1370 rfl (lv_at hl 3 rfl) ?_
  refine lv_aload_n hx hb dL_law_1371 rfl (lv_at hl 1 rfl) ?_
  refine lv_iload hx hb dL_law_1372 (lv_at hl 6 rfl) ?_
  refine lv_iconst (v := 1) hx hb dL_law_1374 (by decide) ?_
  refine lv_iadd hx hb dL_law_1375 ?_
  refine va_sld hx hb hX hbl hbA B1.2 h1 dL_law_1376 ?_
  refine lv_aload_n hx hb dL_law_1377 rfl (lv_at hl 1 rfl) ?_
  refine lv_iload hx hb dL_law_1378 (lv_at hl 6 rfl) ?_
  refine lv_iconst (v := 2) hx hb dL_law_1380 (by decide) ?_
  refine lv_iadd hx hb dL_law_1381 ?_
  refine va_sld hx hb hX hbl hbA B1.2 h2 dL_law_1382 ?_
  refine k_iV (As := [.int (xs (i + 1).toNatClampNeg), .int (xs (i + 2).toNatClampNeg)]) (rest := []) S F1 B1 (c_X10_closesIn l G1 τ _ (xs (i + 1).toNatClampNeg) (xs (i + 2).toNatClampNeg) (out := (r9, ρ)) g2) (kq (by decide) : kd 198 = 21 ∧ 198 < NN) rfl rfl (cwV 2 hts (gdl gL_law_X10_closesIn) rfl rfl rfl (by decide +kernel) ⟨Nat.le_of_ble_eq_true rfl, Nat.le_of_ble_eq_true rfl⟩) rfl hl.1 rfl (Nat.le_of_ble_eq_true rfl) dL_law_1383 ⟨by show cells + 2 ≤ 603072; omega, by show slots + 12 ≤ 7202922; omega⟩ (fun H locs B1 => ?_)
  refine lv_istore (lv' := (7, .int r9) :: (6, .int (hp (fun n => if n = 1 then 1 else 2) (out, τ))) :: [(0, .ref b), (1, .ref (G1.2.2 154)), (2, .ref (G1.2.2 198)), (3, .ref (G1.2.2 207)), (4, .ref (G1.2.2 208)), (5, .int i)]) hx hb dL_law_1386 hl (by decide) rfl (fun ls hl => ?_)
  refine lv_aload_n hx hb dL_law_1388 rfl (lv_at hl 4 rfl) ?_
  refine k_iV (As := []) (rest := []) S F1 B1 (c_X10_thrown l G1 ρ _ (out := ρ 198 12) rfl) (kq (by decide) : kd 198 = 21 ∧ 198 < NN) rfl rfl (cwV 0 hts (gdl gL_law_X10_thrown) rfl rfl rfl (by decide +kernel) ⟨Nat.le_of_ble_eq_true rfl, Nat.le_of_ble_eq_true rfl⟩) rfl hl.1 rfl (Nat.le_of_ble_eq_true rfl) dL_law_1389 ⟨by show cells + 2 ≤ 603072; omega, by show slots + 12 ≤ 7202922; omega⟩ (fun H locs B1 => ?_)
  refine lv_iload hx hb dL_law_1392 (lv_at hl 1 rfl) ?_
  refine lv_icmp_eq (tgt := 1399) hx hb dL_law_1394 (by decide) (fun _ => ?_) (fun c1 => absurd f2 c1)
  refine lv_iload hx hb dL_law_1399 (lv_at hl 1 rfl) ?_
  refine lv_if_ne (tgt := 1416) hx hb dL_law_1401 (by decide) (fun _ => ?_) (fun c1 => ?_)
  · refine lv_goto (tgt := 2408) hx hb dL_law_1416 (by decide) ?_
    refine W.widen (k := cells + 2) (n := slots + 12) (by omega) (by omega) ?_
    exact kk _ _ _ _ _ ⟨F1, B1, R1.mono (by omega), hAA, lv_sub hl [2, 3, 4, 5, 6, 7] rfl⟩
  · have eo := f3 (f2.trans c1)
    have ew := hw _ eo
    refine lv_aload_n hx hb dL_law_1404 rfl (lv_at hl 5 rfl) ?_
    refine lv_iconst (v := 0) hx hb dL_law_1405 (by decide) ?_
    refine r_lald S F1 B1 dL_law_1406 ?_
    refine lv_iload hx hb dL_law_1407 (lv_at hl 0 rfl) ?_
    refine lv_i2l hx hb dL_law_1409 rfl ?_
    refine W.lcmp hx hb dL_law_1410 ?_
    rw [ew]
    refine lv_if_eq (tgt := 1416) hx hb dL_law_1411 (by decide) (fun _ => ?_) (fun c2 => absurd (lg_same _) c2)
    refine lv_goto (tgt := 2408) hx hb dL_law_1416 (by decide) ?_
    refine W.widen (k := cells + 2) (n := slots + 12) (by omega) (by omega) ?_
    exact kk _ _ _ _ _ ⟨F1, B1, R1.mono (by omega), hAA, lv_sub hl [2, 3, 4, 5, 6, 7] rfl⟩

set_option maxHeartbeats 4000000 in
set_option maxRecDepth 100000 in
theorem law_25 {σ : Mm} {G : Gd} {H : Heap} {locs : List Loc} {ls : Array Slot} {i : Int32} {B cells slots : Nat} (hl9 : l.stackTraces = false) (C0 : L0 p s m meth c b L xs) (h1 : vp_in (i + 1) L) (h2 : vp_in (i + 2) L) (h3 : vp_in (i + 3) L) (hB : B + 300 ≤ 1000000) (hrm : cells + 2 ≤ 603072 ∧ slots + 12 ≤ 7202922) (hL : LB G σ s H locs ls b i B)
    (kk : ∀ (G1 : Gd) (ρ : Mm) (H1 : Heap) (locs1 : List Loc) (ls1 : Array Slot), LB G1 ρ s H1 locs1 ls1 b i (B + 300) → W p l e room_1 s m #[Value.ref b] below meth c H1 locs1 (cells + 2) (slots + 12) Q (F0 m 2408 ls1 [])) : W p l e room_1 s m #[Value.ref b] below meth c H locs cells slots Q (F0 m 1748 ls []) := by
  obtain ⟨S, hX, hbl⟩ := C0
  obtain ⟨hx, hb, -⟩ := id S
  have hts := S.2.2.2.2
  obtain ⟨F, B1, R0, hAA, hl⟩ := hL
  have hbA : ¬ AA G s.heap.size b := fun q => absurd (hAA b q) (Nat.not_le.mpr hbl)
  refine lv_aload_n hx hb dL_law_1748 rfl (lv_at hl 1 rfl) ?_
  refine lv_aload_n hx hb dL_law_1749 rfl (lv_at hl 0 rfl) ?_
  refine lv_iload hx hb dL_law_1750 (lv_at hl 5 rfl) ?_
  refine lv_iconst (v := 1) hx hb dL_law_1752 (by decide) ?_
  refine lv_iadd hx hb dL_law_1753 ?_
  refine va_sld hx hb hX hbl hbA B1.2 h1 dL_law_1754 ?_
  obtain ⟨out, τ, g1, r9, ρ, g2, R1, sm⟩ := one_of (fun e2 => q_richest e2 R0 (xs (i + 1).toNatClampNeg))
  obtain ⟨hn, f2, f3⟩ := fin1 sm
  obtain ⟨G1, eG, F1, hA, hk, hw⟩ := aft_L F out τ
  refine lv_aload_n hx hb dL_law_1755 rfl (lv_at hl 3 rfl) ?_
  refine k_iSW (As := [.ref (G.2.2 154), .int (xs (i + 1).toNatClampNeg), .ref (G.2.2 207)]) (rest := []) (v := _) (τ := τ) (G1 := G1) (mc := 1) (ms := 6) S F B1 (by rw [← eG]; exact c_L_richest l hl9 G σ _ (xs (i + 1).toNatClampNeg) (out := (out, τ)) g1 (fun _ => 1) hn) hA (vx_cwSW 3 hts (gdl gL_law_L_richest) rfl rfl rfl (by decide +kernel) ⟨Nat.le_of_ble_eq_true rfl, Nat.le_of_ble_eq_true rfl⟩) rfl hl.1 rfl (Nat.le_of_ble_eq_true rfl) dL_law_1756 ⟨by show cells + 1 ≤ 603072; omega, by show slots + 6 ≤ 7202922; omega⟩ (fun H locs B1 => ?_)
  have hl : lv_has ls 10 [(0, .ref b), (1, .ref (G1.2.2 154)), (2, .ref (G1.2.2 198)), (3, .ref (G1.2.2 207)), (4, .ref (G1.2.2 208)), (5, .int i)] := by rw [hk 154 (by decide), hk 198 (by decide), hk 207 (by decide), hk 208 (by decide)]; exact hl
  have hbA : ¬ AA G1 s.heap.size b := by rw [hA]; exact hbA
  have hAA : ∀ q, AA G1 s.heap.size q → s.heap.size ≤ q := by rw [hA]; exact hAA
  refine lv_istore (lv' := (6, .int (hp (fun _ => 1) (out, τ))) :: [(0, .ref b), (1, .ref (G1.2.2 154)), (2, .ref (G1.2.2 198)), (3, .ref (G1.2.2 207)), (4, .ref (G1.2.2 208)), (5, .int i)]) hx hb dL_law_1759 hl (by decide) rfl (fun ls hl => ?_)
  refine lv_aload_n hx hb dL_law_1761 rfl (lv_at hl 3 rfl) ?_
  refine lv_aload_n hx hb dL_law_1762 rfl (lv_at hl 1 rfl) ?_
  refine lv_iload hx hb dL_law_1763 (lv_at hl 6 rfl) ?_
  refine lv_iconst (v := 1) hx hb dL_law_1765 (by decide) ?_
  refine lv_iadd hx hb dL_law_1766 ?_
  refine va_sld hx hb hX hbl hbA B1.2 h1 dL_law_1767 ?_
  refine k_iV (As := [.int (xs (i + 1).toNatClampNeg)]) (rest := []) S F1 B1 (c_X10_richest l G1 τ _ (xs (i + 1).toNatClampNeg) (out := (r9, ρ)) g2) (kq (by decide) : kd 198 = 21 ∧ 198 < NN) rfl rfl (cwV 1 hts (gdl gL_law_X10_richest) rfl rfl rfl (by decide +kernel) ⟨Nat.le_of_ble_eq_true rfl, Nat.le_of_ble_eq_true rfl⟩) rfl hl.1 rfl (Nat.le_of_ble_eq_true rfl) dL_law_1768 ⟨by show cells + 1 ≤ 603072; omega, by show slots + 6 ≤ 7202922; omega⟩ (fun H locs B1 => ?_)
  refine lv_istore (lv' := (7, .int r9) :: (6, .int (hp (fun _ => 1) (out, τ))) :: [(0, .ref b), (1, .ref (G1.2.2 154)), (2, .ref (G1.2.2 198)), (3, .ref (G1.2.2 207)), (4, .ref (G1.2.2 208)), (5, .int i)]) hx hb dL_law_1771 hl (by decide) rfl (fun ls hl => ?_)
  refine lv_aload_n hx hb dL_law_1773 rfl (lv_at hl 4 rfl) ?_
  refine k_iV (As := []) (rest := []) S F1 B1 (c_X10_thrown l G1 ρ _ (out := ρ 198 12) rfl) (kq (by decide) : kd 198 = 21 ∧ 198 < NN) rfl rfl (cwV 0 hts (gdl gL_law_X10_thrown) rfl rfl rfl (by decide +kernel) ⟨Nat.le_of_ble_eq_true rfl, Nat.le_of_ble_eq_true rfl⟩) rfl hl.1 rfl (Nat.le_of_ble_eq_true rfl) dL_law_1774 ⟨by show cells + 1 ≤ 603072; omega, by show slots + 6 ≤ 7202922; omega⟩ (fun H locs B1 => ?_)
  refine lv_iload hx hb dL_law_1777 (lv_at hl 1 rfl) ?_
  refine lv_icmp_eq (tgt := 1784) hx hb dL_law_1779 (by decide) (fun _ => ?_) (fun c1 => absurd f2 c1)
  refine lv_iload hx hb dL_law_1784 (lv_at hl 1 rfl) ?_
  refine lv_if_ne (tgt := 1801) hx hb dL_law_1786 (by decide) (fun _ => ?_) (fun c1 => ?_)
  · refine lv_goto (tgt := 2408) hx hb dL_law_1801 (by decide) ?_
    refine W.widen (k := cells + 2) (n := slots + 12) (by omega) (by omega) ?_
    exact kk _ _ _ _ _ ⟨F1, B1, R1.mono (by omega), hAA, lv_sub hl [2, 3, 4, 5, 6, 7] rfl⟩
  · have eo := f3 (f2.trans c1)
    have ew := hw _ eo
    refine lv_aload_n hx hb dL_law_1789 rfl (lv_at hl 5 rfl) ?_
    refine lv_iconst (v := 0) hx hb dL_law_1790 (by decide) ?_
    refine r_lald S F1 B1 dL_law_1791 ?_
    refine lv_iload hx hb dL_law_1792 (lv_at hl 0 rfl) ?_
    refine lv_i2l hx hb dL_law_1794 rfl ?_
    refine W.lcmp hx hb dL_law_1795 ?_
    rw [ew]
    refine lv_if_eq (tgt := 1801) hx hb dL_law_1796 (by decide) (fun _ => ?_) (fun c2 => absurd (lg_same _) c2)
    refine lv_goto (tgt := 2408) hx hb dL_law_1801 (by decide) ?_
    refine W.widen (k := cells + 2) (n := slots + 12) (by omega) (by omega) ?_
    exact kk _ _ _ _ _ ⟨F1, B1, R1.mono (by omega), hAA, lv_sub hl [2, 3, 4, 5, 6, 7] rfl⟩

set_option maxHeartbeats 4000000 in
set_option maxRecDepth 100000 in
theorem law_32 {σ : Mm} {G : Gd} {H : Heap} {locs : List Loc} {ls : Array Slot} {i : Int32} {B cells slots : Nat} (hl9 : l.stackTraces = false) (C0 : L0 p s m meth c b L xs) (h1 : vp_in (i + 1) L) (h2 : vp_in (i + 2) L) (h3 : vp_in (i + 3) L) (hB : B + 300 ≤ 1000000) (hrm : cells + 2 ≤ 603072 ∧ slots + 12 ≤ 7202922) (hL : LB G σ s H locs ls b i B)
    (kk : ∀ (G1 : Gd) (ρ : Mm) (H1 : Heap) (locs1 : List Loc) (ls1 : Array Slot), LB G1 ρ s H1 locs1 ls1 b i (B + 300) → W p l e room_1 s m #[Value.ref b] below meth c H1 locs1 (cells + 2) (slots + 12) Q (F0 m 2408 ls1 [])) : W p l e room_1 s m #[Value.ref b] below meth c H locs cells slots Q (F0 m 2087 ls []) := by
  obtain ⟨S, hX, hbl⟩ := C0
  obtain ⟨hx, hb, -⟩ := id S
  have hts := S.2.2.2.2
  obtain ⟨F, B1, R0, hAA, hl⟩ := hL
  have hbA : ¬ AA G s.heap.size b := fun q => absurd (hAA b q) (Nat.not_le.mpr hbl)
  refine lv_aload_n hx hb dL_law_2087 rfl (lv_at hl 1 rfl) ?_
  refine lv_aload_n hx hb dL_law_2088 rfl (lv_at hl 0 rfl) ?_
  refine lv_iload hx hb dL_law_2089 (lv_at hl 5 rfl) ?_
  refine lv_iconst (v := 1) hx hb dL_law_2091 (by decide) ?_
  refine lv_iadd hx hb dL_law_2092 ?_
  refine va_sld hx hb hX hbl hbA B1.2 h1 dL_law_2093 ?_
  obtain ⟨out, τ, g1, r9, ρ, g2, R1, sm⟩ := one_of (fun e2 => q_character e2 R0 (xs (i + 1).toNatClampNeg))
  obtain ⟨hn, f2, f3⟩ := fin1 sm
  obtain ⟨G1, eG, F1, hA, hk, hw⟩ := aft_L F out τ
  refine lv_aload_n hx hb dL_law_2094 rfl (lv_at hl 3 rfl) ?_
  refine k_iSW (As := [.ref (G.2.2 154), .int (xs (i + 1).toNatClampNeg), .ref (G.2.2 207)]) (rest := []) (v := _) (τ := τ) (G1 := G1) (mc := 1) (ms := 6) S F B1 (by rw [← eG]; exact c_L_character l hl9 G σ _ (xs (i + 1).toNatClampNeg) (out := (out, τ)) g1 (fun _ => 1) hn) hA (vx_cwSW 3 hts (gdl gL_law_L_character) rfl rfl rfl (by decide +kernel) ⟨Nat.le_of_ble_eq_true rfl, Nat.le_of_ble_eq_true rfl⟩) rfl hl.1 rfl (Nat.le_of_ble_eq_true rfl) dL_law_2095 ⟨by show cells + 1 ≤ 603072; omega, by show slots + 6 ≤ 7202922; omega⟩ (fun H locs B1 => ?_)
  have hl : lv_has ls 10 [(0, .ref b), (1, .ref (G1.2.2 154)), (2, .ref (G1.2.2 198)), (3, .ref (G1.2.2 207)), (4, .ref (G1.2.2 208)), (5, .int i)] := by rw [hk 154 (by decide), hk 198 (by decide), hk 207 (by decide), hk 208 (by decide)]; exact hl
  have hbA : ¬ AA G1 s.heap.size b := by rw [hA]; exact hbA
  have hAA : ∀ q, AA G1 s.heap.size q → s.heap.size ≤ q := by rw [hA]; exact hAA
  refine lv_istore (lv' := (6, .int (hp (fun _ => 1) (out, τ))) :: [(0, .ref b), (1, .ref (G1.2.2 154)), (2, .ref (G1.2.2 198)), (3, .ref (G1.2.2 207)), (4, .ref (G1.2.2 208)), (5, .int i)]) hx hb dL_law_2098 hl (by decide) rfl (fun ls hl => ?_)
  refine lv_aload_n hx hb dL_law_2100 rfl (lv_at hl 3 rfl) ?_
  refine lv_aload_n hx hb dL_law_2101 rfl (lv_at hl 1 rfl) ?_
  refine lv_iload hx hb dL_law_2102 (lv_at hl 6 rfl) ?_
  refine lv_iconst (v := 1) hx hb dL_law_2104 (by decide) ?_
  refine lv_iadd hx hb dL_law_2105 ?_
  refine va_sld hx hb hX hbl hbA B1.2 h1 dL_law_2106 ?_
  refine k_iV (As := [.int (xs (i + 1).toNatClampNeg)]) (rest := []) S F1 B1 (c_X10_character l G1 τ _ (xs (i + 1).toNatClampNeg) (out := (r9, ρ)) g2) (kq (by decide) : kd 198 = 21 ∧ 198 < NN) rfl rfl (cwV 1 hts (gdl gL_law_X10_character) rfl rfl rfl (by decide +kernel) ⟨Nat.le_of_ble_eq_true rfl, Nat.le_of_ble_eq_true rfl⟩) rfl hl.1 rfl (Nat.le_of_ble_eq_true rfl) dL_law_2107 ⟨by show cells + 1 ≤ 603072; omega, by show slots + 6 ≤ 7202922; omega⟩ (fun H locs B1 => ?_)
  refine lv_istore (lv' := (7, .int r9) :: (6, .int (hp (fun _ => 1) (out, τ))) :: [(0, .ref b), (1, .ref (G1.2.2 154)), (2, .ref (G1.2.2 198)), (3, .ref (G1.2.2 207)), (4, .ref (G1.2.2 208)), (5, .int i)]) hx hb dL_law_2110 hl (by decide) rfl (fun ls hl => ?_)
  refine lv_aload_n hx hb dL_law_2112 rfl (lv_at hl 4 rfl) ?_
  refine k_iV (As := []) (rest := []) S F1 B1 (c_X10_thrown l G1 ρ _ (out := ρ 198 12) rfl) (kq (by decide) : kd 198 = 21 ∧ 198 < NN) rfl rfl (cwV 0 hts (gdl gL_law_X10_thrown) rfl rfl rfl (by decide +kernel) ⟨Nat.le_of_ble_eq_true rfl, Nat.le_of_ble_eq_true rfl⟩) rfl hl.1 rfl (Nat.le_of_ble_eq_true rfl) dL_law_2113 ⟨by show cells + 1 ≤ 603072; omega, by show slots + 6 ≤ 7202922; omega⟩ (fun H locs B1 => ?_)
  refine lv_iload hx hb dL_law_2116 (lv_at hl 1 rfl) ?_
  refine lv_icmp_eq (tgt := 2123) hx hb dL_law_2118 (by decide) (fun _ => ?_) (fun c1 => absurd f2 c1)
  refine lv_iload hx hb dL_law_2123 (lv_at hl 1 rfl) ?_
  refine lv_if_ne (tgt := 2140) hx hb dL_law_2125 (by decide) (fun _ => ?_) (fun c1 => ?_)
  · refine lv_goto (tgt := 2408) hx hb dL_law_2140 (by decide) ?_
    refine W.widen (k := cells + 2) (n := slots + 12) (by omega) (by omega) ?_
    exact kk _ _ _ _ _ ⟨F1, B1, R1.mono (by omega), hAA, lv_sub hl [2, 3, 4, 5, 6, 7] rfl⟩
  · have eo := f3 (f2.trans c1)
    have ew := hw _ eo
    refine lv_aload_n hx hb dL_law_2128 rfl (lv_at hl 5 rfl) ?_
    refine lv_iconst (v := 0) hx hb dL_law_2129 (by decide) ?_
    refine r_lald S F1 B1 dL_law_2130 ?_
    refine lv_iload hx hb dL_law_2131 (lv_at hl 0 rfl) ?_
    refine lv_i2l hx hb dL_law_2133 rfl ?_
    refine W.lcmp hx hb dL_law_2134 ?_
    rw [ew]
    refine lv_if_eq (tgt := 2140) hx hb dL_law_2135 (by decide) (fun _ => ?_) (fun c2 => absurd (lg_same _) c2)
    refine lv_goto (tgt := 2408) hx hb dL_law_2140 (by decide) ?_
    refine W.widen (k := cells + 2) (n := slots + 12) (by omega) (by omega) ?_
    exact kk _ _ _ _ _ ⟨F1, B1, R1.mono (by omega), hAA, lv_sub hl [2, 3, 4, 5, 6, 7] rfl⟩

end LC
