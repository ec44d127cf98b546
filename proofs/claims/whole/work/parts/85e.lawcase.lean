section LC
variable {p : Program} {l : Launch} {e : Env} {s : State} {m : MethodId} {below : List Frame} {meth : Method} {c : Code} {b L : Nat} {xs : Nat → Int32} {Q : State → Prop}
set_option maxHeartbeats 4000000 in
set_option maxRecDepth 100000 in
theorem law_5 {σ : Mm} {G : Gd} {H : Heap} {locs : List Loc} {ls : Array Slot} {i : Int32} {B cells slots : Nat} (hl9 : l.stackTraces = false) (C0 : L0 p s m meth c b L xs) (h1 : vp_in (i + 1) L) (h2 : vp_in (i + 2) L) (h3 : vp_in (i + 3) L) (hB : B + 300 ≤ 1000000) (hrm : cells + 2 ≤ 603072 ∧ slots + 12 ≤ 7202922) (hL : LB G σ s H locs ls b i B)
    (kk : ∀ (G1 : Gd) (ρ : Mm) (H1 : Heap) (locs1 : List Loc) (ls1 : Array Slot), LB G1 ρ s H1 locs1 ls1 b i (B + 300) → W p l e room_1 s m #[Value.ref b] below meth c H1 locs1 (cells + 2) (slots + 12) Q (F0 m 2408 ls1 [])) : W p l e room_1 s m #[Value.ref b] below meth c H locs cells slots Q (F0 m 501 ls []) := by
  obtain ⟨S, hX, hbl⟩ := C0
  obtain ⟨hx, hb, -⟩ := id S
  have hts := S.2.2.2.2
  obtain ⟨F, B1, R0, hAA, hl⟩ := hL
  have hbA : ¬ AA G s.heap.size b := fun q => absurd (hAA b q) (Nat.not_le.mpr hbl)
  refine lv_aload_n hx hb dL_law_501 rfl (lv_at hl 1 rfl) ?_
  refine lv_aload_n hx hb dL_law_502 rfl (lv_at hl 0 rfl) ?_
  refine lv_iload hx hb dL_law_503 (lv_at hl 5 rfl) ?_
  refine lv_iconst (v := 1) hx hb dL_law_505 (by decide) ?_
  refine lv_iadd hx hb dL_law_506 ?_
  refine va_sld hx hb hX hbl hbA B1.2 h1 dL_law_507 ?_
  obtain ⟨out, τ, g1, r9, ρ, g2, R1, sm⟩ := q_visitor R0 (xs (i + 1).toNatClampNeg)
  obtain ⟨hn, f2, f3⟩ := fin1 sm
  obtain ⟨G1, eG, F1, hA, hk, hw⟩ := aft_L F out τ
  refine lv_aload_n hx hb dL_law_508 rfl (lv_at hl 3 rfl) ?_
  refine k_iSW (As := [.ref (G.2.2 154), .int (xs (i + 1).toNatClampNeg), .ref (G.2.2 207)]) (rest := []) (v := _) (τ := τ) (G1 := G1) (mc := 1) (ms := 6) S F B1 (by rw [← eG]; exact c_L_visitor l hl9 G σ _ (xs (i + 1).toNatClampNeg) (out := (out, τ)) g1 (fun _ => 1) hn) hA (vx_cwSW 3 hts (gdl gL_law_L_visitor) rfl rfl rfl (by decide +kernel) ⟨Nat.le_of_ble_eq_true rfl, Nat.le_of_ble_eq_true rfl⟩) rfl hl.1 rfl (Nat.le_of_ble_eq_true rfl) dL_law_509 ⟨by show cells + 1 ≤ 603072; omega, by show slots + 6 ≤ 7202922; omega⟩ (fun H locs B1 => ?_)
  have hl : lv_has ls 10 [(0, .ref b), (1, .ref (G1.2.2 154)), (2, .ref (G1.2.2 198)), (3, .ref (G1.2.2 207)), (4, .ref (G1.2.2 208)), (5, .int i)] := by rw [hk 154 (by decide), hk 198 (by decide), hk 207 (by decide), hk 208 (by decide)]; exact hl
  have hbA : ¬ AA G1 s.heap.size b := by rw [hA]; exact hbA
  have hAA : ∀ q, AA G1 s.heap.size q → s.heap.size ≤ q := by rw [hA]; exact hAA
  refine lv_istore (lv' := (6, .int (hp (fun _ => 1) (out, τ))) :: [(0, .ref b), (1, .ref (G1.2.2 154)), (2, .ref (G1.2.2 198)), (3, .ref (G1.2.2 207)), (4, .ref (G1.2.2 208)), (5, .int i)]) hx hb dL_law_512 hl (by decide) rfl (fun ls hl => ?_)
  refine lv_aload_n hx hb dL_law_514 rfl (lv_at hl 3 rfl) ?_
  refine lv_aload_n hx hb dL_law_515 rfl (lv_at hl 1 rfl) ?_
  refine lv_iload hx hb dL_law_516 (lv_at hl 6 rfl) ?_
  refine lv_iconst (v := 1) hx hb dL_law_518 (by decide) ?_
  refine lv_iadd hx hb dL_law_519 ?_
  refine va_sld hx hb hX hbl hbA B1.2 h1 dL_law_520 ?_
  refine k_iV (As := [.int (xs (i + 1).toNatClampNeg)]) (rest := []) S F1 B1 (c_X10_visitor l G1 τ _ (xs (i + 1).toNatClampNeg) (out := (r9, ρ)) g2) (kq (by decide) : kd 198 = 21 ∧ 198 < NN) rfl rfl (cwV 1 hts (gdl gL_law_X10_visitor) rfl rfl rfl (by decide +kernel) ⟨Nat.le_of_ble_eq_true rfl, Nat.le_of_ble_eq_true rfl⟩) rfl hl.1 rfl (Nat.le_of_ble_eq_true rfl) dL_law_521 ⟨by show cells + 1 ≤ 603072; omega, by show slots + 6 ≤ 7202922; omega⟩ (fun H locs B1 => ?_)
  refine lv_istore (lv' := (7, .int r9) :: (6, .int (hp (fun _ => 1) (out, τ))) :: [(0, .ref b), (1, .ref (G1.2.2 154)), (2, .ref (G1.2.2 198)), (3, .ref (G1.2.2 207)), (4, .ref (G1.2.2 208)), (5, .int i)]) hx hb dL_law_524 hl (by decide) rfl (fun ls hl => ?_)
  refine lv_aload_n hx hb dL_law_526 rfl (lv_at hl 4 rfl) ?_
  refine k_iV (As := []) (rest := []) S F1 B1 (c_X10_thrown l G1 ρ _ (out := ρ 198 12) rfl) (kq (by decide) : kd 198 = 21 ∧ 198 < NN) rfl rfl (cwV 0 hts (gdl gL_law_X10_thrown) rfl rfl rfl (by decide +kernel) ⟨Nat.le_of_ble_eq_true rfl, Nat.le_of_ble_eq_true rfl⟩) rfl hl.1 rfl (Nat.le_of_ble_eq_true rfl) dL_law_527 ⟨by show cells + 1 ≤ 603072; omega, by show slots + 6 ≤ 7202922; omega⟩ (fun H locs B1 => ?_)
  refine lv_iload hx hb dL_law_530 (lv_at hl 1 rfl) ?_
  refine lv_icmp_eq (tgt := 537) hx hb dL_law_532 (by decide) (fun _ => ?_) (fun c1 => absurd f2 c1)
  refine lv_iload hx hb dL_law_537 (lv_at hl 1 rfl) ?_
  refine lv_if_ne (tgt := 554) hx hb dL_law_539 (by decide) (fun _ => ?_) (fun c1 => ?_)
  · refine lv_goto (tgt := 2408) hx hb dL_law_554 (by decide) ?_
    refine W.widen (k := cells + 2) (n := slots + 12) (by omega) (by omega) ?_
    exact kk _ _ _ _ _ ⟨F1, B1, R1.mono (by omega), hAA, lv_sub hl [2, 3, 4, 5, 6, 7] rfl⟩
  · have eo := f3 (f2.trans c1)
    have ew := hw _ eo
    refine lv_aload_n hx hb dL_law_542 rfl (lv_at hl 5 rfl) ?_
    refine lv_iconst (v := 0) hx hb dL_law_543 (by decide) ?_
    refine r_lald S F1 B1 dL_law_544 ?_
    refine lv_iload hx hb dL_law_545 (lv_at hl 0 rfl) ?_
    refine lv_i2l hx hb dL_law_547 rfl ?_
    refine W.lcmp hx hb dL_law_548 ?_
    rw [ew]
    refine lv_if_eq (tgt := 554) hx hb dL_law_549 (by decide) (fun _ => ?_) (fun c2 => absurd (lg_same _) c2)
    refine lv_goto (tgt := 2408) hx hb dL_law_554 (by decide) ?_
    refine W.widen (k := cells + 2) (n := slots + 12) (by omega) (by omega) ?_
    exact kk _ _ _ _ _ ⟨F1, B1, R1.mono (by omega), hAA, lv_sub hl [2, 3, 4, 5, 6, 7] rfl⟩

set_option maxHeartbeats 4000000 in
set_option maxRecDepth 100000 in
theorem law_11 {σ : Mm} {G : Gd} {H : Heap} {locs : List Loc} {ls : Array Slot} {i : Int32} {B cells slots : Nat} (hl9 : l.stackTraces = false) (C0 : L0 p s m meth c b L xs) (h1 : vp_in (i + 1) L) (h2 : vp_in (i + 2) L) (h3 : vp_in (i + 3) L) (hB : B + 300 ≤ 1000000) (hrm : cells + 2 ≤ 603072 ∧ slots + 12 ≤ 7202922) (hL : LB G σ s H locs ls b i B)
    (kk : ∀ (G1 : Gd) (ρ : Mm) (H1 : Heap) (locs1 : List Loc) (ls1 : Array Slot), LB G1 ρ s H1 locs1 ls1 b i (B + 300) → W p l e room_1 s m #[Value.ref b] below meth c H1 locs1 (cells + 2) (slots + 12) Q (F0 m 2408 ls1 [])) : W p l e room_1 s m #[Value.ref b] below meth c H locs cells slots Q (F0 m 916 ls []) := by
  obtain ⟨S, hX, hbl⟩ := C0
  obtain ⟨hx, hb, -⟩ := id S
  have hts := S.2.2.2.2
  obtain ⟨F, B1, R0, hAA, hl⟩ := hL
  have hbA : ¬ AA G s.heap.size b := fun q => absurd (hAA b q) (Nat.not_le.mpr hbl)
  refine lv_aload_n hx hb dL_law_916 rfl (lv_at hl 1 rfl) ?_
  refine lv_aload_n hx hb dL_law_917 rfl (lv_at hl 0 rfl) ?_
  refine lv_iload hx hb dL_law_918 (lv_at hl 5 rfl) ?_
  refine lv_iconst (v := 1) hx hb dL_law_920 (by decide) ?_
  refine lv_iadd hx hb dL_law_921 ?_
  refine va_sld hx hb hX hbl hbA B1.2 h1 dL_law_922 ?_
  refine lv_aload_n hx hb dL_law_923 rfl (lv_at hl 0 rfl) ?_
  refine lv_iload hx hb dL_law_924 (lv_at hl 5 rfl) ?_
  refine lv_iconst (v := 2) hx hb dL_law_926 (by decide) ?_
  refine lv_iadd hx hb dL_law_927 ?_
  refine va_sld hx hb hX hbl hbA B1.2 h2 dL_law_928 ?_
  obtain ⟨out, τ, g1, r9, ρ, g2, R1, sm⟩ := q_hours R0 (xs (i + 1).toNatClampNeg) (xs (i + 2).toNatClampNeg)
  obtain ⟨hn, f2, f3⟩ := fin2 (by decide) sm
  obtain ⟨G1, eG, F1, hA, hk, hw⟩ := aft_L F out τ
  refine lv_aload_n hx hb dL_law_929 rfl (lv_at hl 3 rfl) ?_
  refine k_iSW (As := [.ref (G.2.2 154), .int (xs (i + 1).toNatClampNeg), .int (xs (i + 2).toNatClampNeg), .ref (G.2.2 207)]) (rest := []) (v := _) (τ := τ) (G1 := G1) (mc := 2) (ms := 12) S F B1 (by rw [← eG]; exact c_L_hours l hl9 G σ _ (xs (i + 1).toNatClampNeg) (xs (i + 2).toNatClampNeg) (out := (out, τ)) g1 (fun n => if n = 1 then 1 else 2) hn) hA (vx_cwSW 4 hts (gdm (gdl gL_law_L_hours) (goodIn_sub (by decide +kernel) (by decide +kernel))) rfl rfl rfl (by decide +kernel) ⟨Nat.le_of_ble_eq_true rfl, Nat.le_of_ble_eq_true rfl⟩) rfl hl.1 rfl (Nat.le_of_ble_eq_true rfl) dL_law_930 ⟨by show cells + 2 ≤ 603072; omega, by show slots + 12 ≤ 7202922; omega⟩ (fun H locs B1 => ?_)
  have hl : lv_has ls 10 [(0, .ref b), (1, .ref (G1.2.2 154)), (2, .ref (G1.2.2 198)), (3, .ref (G1.2.2 207)), (4, .ref (G1.2.2 208)), (5, .int i)] := by rw [hk 154 (by decide), hk 198 (by decide), hk 207 (by decide), hk 208 (by decide)]; exact hl
  have hbA : ¬ AA G1 s.heap.size b := by rw [hA]; exact hbA
  have hAA : ∀ q, AA G1 s.heap.size q → s.heap.size ≤ q := by rw [hA]; exact hAA
  refine lv_istore (lv' := (6, .int (hp (fun n => if n = 1 then 1 else 2) (out, τ))) :: [(0, .ref b), (1, .ref (G1.2.2 154)), (2, .ref (G1.2.2 198)), (3, .ref (G1.2.2 207)), (4, .ref (G1.2.2 208)), (5, .int i)]) hx hb dL_law_933 hl (by decide) rfl (fun ls hl => ?_)
  refine lv_aload_n hx hb dL_law_935 rfl (lv_at hl 3 rfl) ?_
  refine lv_aload_n hx hb dL_law_936 rfl (lv_at hl 1 rfl) ?_
  refine lv_iload hx hb dL_law_937 (lv_at hl 6 rfl) ?_
  refine lv_iconst (v := 1) hx hb dL_law_939 (by decide) ?_
  refine lv_iadd hx hb dL_law_940 ?_
  refine va_sld hx hb hX hbl hbA B1.2 h1 dL_law_941 ?_
  refine lv_aload_n hx hb dL_law_942 rfl (lv_at hl 1 rfl) ?_
  refine lv_iload hx hb dL_law_943 (lv_at hl 6 rfl) ?_
  refine lv_iconst (v := 2) hx hb dL_law_945 (by decide) ?_
  refine lv_iadd hx hb dL_law_946 ?_
  refine va_sld hx hb hX hbl hbA B1.2 h2 dL_law_947 ?_
  refine k_iV (As := [.int (xs (i + 1).toNatClampNeg), .int (xs (i + 2).toNatClampNeg)]) (rest := []) S F1 B1 (c_X10_hours l G1 τ _ (xs (i + 1).toNatClampNeg) (xs (i + 2).toNatClampNeg) (out := (r9, ρ)) g2) (kq (by decide) : kd 198 = 21 ∧ 198 < NN) rfl rfl (cwV 2 hts (gdl gL_law_X10_hours) rfl rfl rfl (by decide +kernel) ⟨Nat.le_of_ble_eq_true rfl, Nat.le_of_ble_eq_true rfl⟩) rfl hl.1 rfl (Nat.le_of_ble_eq_true rfl) dL_law_948 ⟨by show cells + 2 ≤ 603072; omega, by show slots + 12 ≤ 7202922; omega⟩ (fun H locs B1 => ?_)
  refine lv_istore (lv' := (7, .int r9) :: (6, .int (hp (fun n => if n = 1 then 1 else 2) (out, τ))) :: [(0, .ref b), (1, .ref (G1.2.2 154)), (2, .ref (G1.2.2 198)), (3, .ref (G1.2.2 207)), (4, .ref (G1.2.2 208)), (5, .int i)]) hx hb dL_law_951 hl (by decide) rfl (fun ls hl => ?_)
  refine lv_aload_n hx hb dL_law_953 rfl (lv_at hl 4 rfl) ?_
  refine k_iV (As := []) (rest := []) S F1 B1 (c_X10_thrown l G1 ρ _ (out := ρ 198 12) rfl) (kq (by decide) : kd 198 = 21 ∧ 198 < NN) rfl rfl (cwV 0 hts (gdl gL_law_X10_thrown) rfl rfl rfl (by decide +kernel) ⟨Nat.le_of_ble_eq_true rfl, Nat.le_of_ble_eq_true rfl⟩) rfl hl.1 rfl (Nat.le_of_ble_eq_true rfl) dL_law_954 ⟨by show cells + 2 ≤ 603072; omega, by show slots + 12 ≤ 7202922; omega⟩ (fun H locs B1 => ?_)
  refine lv_iload hx hb dL_law_957 (lv_at hl 1 rfl) ?_
  refine lv_icmp_eq (tgt := 964) hx hb dL_law_959 (by decide) (fun _ => ?_) (fun c1 => absurd f2 c1)
  refine lv_iload hx hb dL_law_964 (lv_at hl 1 rfl) ?_
  refine lv_if_ne (tgt := 981) hx hb dL_law_966 (by decide) (fun _ => ?_) (fun c1 => ?_)
  · refine lv_goto (tgt := 2408) hx hb dL_law_981 (by decide) ?_
    refine W.widen (k := cells + 2) (n := slots + 12) (by omega) (by omega) ?_
    exact kk _ _ _ _ _ ⟨F1, B1, R1.mono (by omega), hAA, lv_sub hl [2, 3, 4, 5, 6, 7] rfl⟩
  · have eo := f3 (f2.trans c1)
    have ew := hw _ eo
    refine lv_aload_n hx hb dL_law_969 rfl (lv_at hl 5 rfl) ?_
    refine lv_iconst (v := 0) hx hb dL_law_970 (by decide) ?_
    refine r_lald S F1 B1 dL_law_971 ?_
    refine lv_iload hx hb dL_law_972 (lv_at hl 0 rfl) ?_
    refine lv_i2l hx hb dL_law_974 rfl ?_
    refine W.lcmp hx hb dL_law_975 ?_
    rw [ew]
    refine lv_if_eq (tgt := 981) hx hb dL_law_976 (by decide) (fun _ => ?_) (fun c2 => absurd (lg_same _) c2)
    refine lv_goto (tgt := 2408) hx hb dL_law_981 (by decide) ?_
    refine W.widen (k := cells + 2) (n := slots + 12) (by omega) (by omega) ?_
    exact kk _ _ _ _ _ ⟨F1, B1, R1.mono (by omega), hAA, lv_sub hl [2, 3, 4, 5, 6, 7] rfl⟩

set_option maxHeartbeats 4000000 in
set_option maxRecDepth 100000 in
theorem law_17 {σ : Mm} {G : Gd} {H : Heap} {locs : List Loc} {ls : Array Slot} {i : Int32} {B cells slots : Nat} (hl9 : l.stackTraces = false) (C0 : L0 p s m meth c b L xs) (h1 : vp_in (i + 1) L) (h2 : vp_in (i + 2) L) (h3 : vp_in (i + 3) L) (hB : B + 300 ≤ 1000000) (hrm : cells + 2 ≤ 603072 ∧ slots + 12 ≤ 7202922) (hL : LB G σ s H locs ls b i B)
    (kk : ∀ (G1 : Gd) (ρ : Mm) (H1 : Heap) (locs1 : List Loc) (ls1 : Array Slot), LB G1 ρ s H1 locs1 ls1 b i (B + 300) → W p l e room_1 s m #[Value.ref b] below meth c H1 locs1 (cells + 2) (slots + 12) Q (F0 m 2408 ls1 [])) : W p l e room_1 s m #[Value.ref b] below meth c H locs cells slots Q (F0 m 1276 ls []) := by
  obtain ⟨S, hX, hbl⟩ := C0
  obtain ⟨hx, hb, -⟩ := id S
  have hts := S.2.2.2.2
  obtain ⟨F, B1, R0, hAA, hl⟩ := hL
  have hbA : ¬ AA G s.heap.size b := fun q => absurd (hAA b q) (Nat.not_le.mpr hbl)
  refine lv_aload_n hx hb dL_law_1276 rfl (lv_at hl 1 rfl) ?_
  refine lv_aload_n hx hb dL_law_1277 rfl (lv_at hl 0 rfl) ?_
  refine lv_iload hx hb dL_law_1278 (lv_at hl 5 rfl) ?_
  refine lv_iconst (v := 1) hx hb dL_law_1280 (by decide) ?_
  refine lv_iadd hx hb dL_law_1281 ?_
  refine va_sld hx hb hX hbl hbA B1.2 h1 dL_law_1282 ?_
  refine lv_aload_n hx hb dL_law_1283 rfl (lv_at hl 0 rfl) ?_
  refine lv_iload hx hb dL_law_1284 (lv_at hl 5 rfl) ?_
  refine lv_iconst (v := 2) hx hb dL_law_1286 (by decide) ?_
  refine lv_iadd hx hb dL_law_1287 ?_
  refine va_sld hx hb hX hbl hbA B1.2 h2 dL_law_1288 ?_
  obtain ⟨out, τ, g1, r9, ρ, g2, R1, sm⟩ := q_isNeeded R0 (xs (i + 1).toNatClampNeg) (xs (i + 2).toNatClampNeg)
  obtain ⟨hn, f2, f3⟩ := fin2 (by decide) sm
  obtain ⟨G1, eG, F1, hA, hk, hw⟩ := aft_B F out τ
  refine lv_aload_n hx hb dL_law_1289 rfl (lv_at hl 3 rfl) ?_
  refine k_iSW (As := [.ref (G.2.2 154), .int (xs (i + 1).toNatClampNeg), .int (xs (i + 2).toNatClampNeg), .ref (G.2.2 207)]) (rest := []) (v := _) (τ := τ) (G1 := G1) (mc := 2) (ms := 12) S F B1 (by rw [← eG]; exact c_L_isNeeded l hl9 G σ _ (xs (i + 1).toNatClampNeg) (xs (i + 2).toNatClampNeg) (out := (out, τ)) g1 (fun n => if n = 1 then 1 else 2) hn) hA (vx_cwSW 4 hts (gdm (gdl gL_law_L_isNeeded) (goodIn_sub (by decide +kernel) (by decide +kernel))) rfl rfl rfl (by decide +kernel) ⟨Nat.le_of_ble_eq_true rfl, Nat.le_of_ble_eq_true rfl⟩) rfl hl.1 rfl (Nat.le_of_ble_eq_true rfl) dL_law_1290 ⟨by show cells + 2 ≤ 603072; omega, by show slots + 12 ≤ 7202922; omega⟩ (fun H locs B1 => ?_)
  have hl : lv_has ls 10 [(0, .ref b), (1, .ref (G1.2.2 154)), (2, .ref (G1.2.2 198)), (3, .ref (G1.2.2 207)), (4, .ref (G1.2.2 208)), (5, .int i)] := by rw [hk 154 (by decide), hk 198 (by decide), hk 207 (by decide), hk 208 (by decide)]; exact hl
  have hbA : ¬ AA G1 s.heap.size b := by rw [hA]; exact hbA
  have hAA : ∀ q, AA G1 s.heap.size q → s.heap.size ≤ q := by rw [hA]; exact hAA
  refine lv_istore (lv' := (6, .int (hp (fun n => if n = 1 then 1 else 2) (out, τ))) :: [(0, .ref b), (1, .ref (G1.2.2 154)), (2, .ref (G1.2.2 198)), (3, .ref (G1.2.2 207)), (4, .ref (G1.2.2 208)), (5, .int i)]) hx hb dL_law_1293 hl (by decide) rfl (fun ls hl => ?_)
  refine lv_aload_n hx hb dL_law_1295 rfl (lv_at hl 3 rfl) ?_
  refine lv_aload_n hx hb dL_law_1296 rfl (lv_at hl 1 rfl) ?_
  refine lv_iload hx hb dL_law_1297 (lv_at hl 6 rfl) ?_
  refine lv_iconst (v := 1) hx hb dL_law_1299 (by decide) ?_
  refine lv_iadd hx hb dL_law_1300 ?_
  refine va_sld hx hb hX hbl hbA B1.2 h1 dL_law_1301 ?_
  refine lv_aload_n hx hb dL_law_1302 rfl (lv_at hl 1 rfl) ?_
  refine lv_iload hx hb dL_law_1303 (lv_at hl 6 rfl) ?_
  refine lv_iconst (v := 2) hx hb dL_law_1305 (by decide) ?_
  refine lv_iadd hx hb dL_law_1306 ?_
  refine va_sld hx hb hX hbl hbA B1.2 h2 dL_law_1307 ?_
  refine k_iV (As := [.int (xs (i + 1).toNatClampNeg), .int (xs (i + 2).toNatClampNeg)]) (rest := []) S F1 B1 (c_X10_isNeeded l G1 τ _ (xs (i + 1).toNatClampNeg) (xs (i + 2).toNatClampNeg) (out := (r9, ρ)) g2) (kq (by decide) : kd 198 = 21 ∧ 198 < NN) rfl rfl (cwV 2 hts (gdl gL_law_X10_isNeeded) rfl rfl rfl (by decide +kernel) ⟨Nat.le_of_ble_eq_true rfl, Nat.le_of_ble_eq_true rfl⟩) rfl hl.1 rfl (Nat.le_of_ble_eq_true rfl) dL_law_1308 ⟨by show cells + 2 ≤ 603072; omega, by show slots + 12 ≤ 7202922; omega⟩ (fun H locs B1 => ?_)
  refine lv_istore (lv' := (7, .int r9) :: (6, .int (hp (fun n => if n = 1 then 1 else 2) (out, τ))) :: [(0, .ref b), (1, .ref (G1.2.2 154)), (2, .ref (G1.2.2 198)), (3, .ref (G1.2.2 207)), (4, .ref (G1.2.2 208)), (5, .int i)]) hx hb dL_law_1311 hl (by decide) rfl (fun ls hl => ?_)
  refine lv_aload_n hx hb dL_law_1313 rfl (lv_at hl 4 rfl) ?_
  refine k_iV (As := []) (rest := []) S F1 B1 (c_X10_thrown l G1 ρ _ (out := ρ 198 12) rfl) (kq (by decide) : kd 198 = 21 ∧ 198 < NN) rfl rfl (cwV 0 hts (gdl gL_law_X10_thrown) rfl rfl rfl (by decide +kernel) ⟨Nat.le_of_ble_eq_true rfl, Nat.le_of_ble_eq_true rfl⟩) rfl hl.1 rfl (Nat.le_of_ble_eq_true rfl) dL_law_1314 ⟨by show cells + 2 ≤ 603072; omega, by show slots + 12 ≤ 7202922; omega⟩ (fun H locs B1 => ?_)
  refine lv_iload hx hb dL_law_1317 (lv_at hl 1 rfl) ?_
  refine lv_icmp_eq (tgt := 1324) hx hb dL_law_1319 (by decide) (fun _ => ?_) (fun c1 => absurd f2 c1)
  refine lv_iload hx hb dL_law_1324 (lv_at hl 1 rfl) ?_
  refine lv_if_ne (tgt := 1348) hx hb dL_law_1326 (by decide) (fun _ => ?_) (fun c1 => ?_)
  · refine lv_goto (tgt := 2408) hx hb dL_law_1348 (by decide) ?_
    refine W.widen (k := cells + 2) (n := slots + 12) (by omega) (by omega) ?_
    exact kk _ _ _ _ _ ⟨F1, B1, R1.mono (by omega), hAA, lv_sub hl [2, 3, 4, 5, 6, 7] rfl⟩
  · have eo := f3 (f2.trans c1)
    have ew := hw _ eo
    refine lv_aload_n hx hb dL_law_1329 rfl (lv_at hl 5 rfl) ?_
    refine lv_iconst (v := 0) hx hb dL_law_1330 (by decide) ?_
    refine r_lald S F1 B1 dL_law_1331 ?_
    refine lv_iload hx hb dL_law_1332 (lv_at hl 0 rfl) ?_
    refine lv_if_eq (tgt := 1341) hx hb dL_law_1334 (by decide) (fun c3 => ?_) (fun c3 => ?_)
    · rw [if_pos c3] at ew
      refine lv_lconst (v := 0) hx hb dL_law_1341 (by decide) ?_
      refine W.lcmp hx hb dL_law_1342 ?_
      rw [ew]
      refine lv_if_eq (tgt := 1348) hx hb dL_law_1343 (by decide) (fun _ => ?_) (fun c2 => absurd (lg_same _) c2)
      refine lv_goto (tgt := 2408) hx hb dL_law_1348 (by decide) ?_
      refine W.widen (k := cells + 2) (n := slots + 12) (by omega) (by omega) ?_
      exact kk _ _ _ _ _ ⟨F1, B1, R1.mono (by omega), hAA, lv_sub hl [2, 3, 4, 5, 6, 7] rfl⟩
    · rw [if_neg c3] at ew
      refine lv_lconst (v := 1) hx hb dL_law_1337 (by decide) ?_
      refine lv_goto (tgt := 1342) hx hb dL_law_1338 (by decide) ?_
      refine W.lcmp hx hb dL_law_1342 ?_
      rw [ew]
      refine lv_if_eq (tgt := 1348) hx hb dL_law_1343 (by decide) (fun _ => ?_) (fun c2 => absurd (lg_same _) c2)
      refine lv_goto (tgt := 2408) hx hb dL_law_1348 (by decide) ?_
      refine W.widen (k := cells + 2) (n := slots + 12) (by omega) (by omega) ?_
      exact kk _ _ _ _ _ ⟨F1, B1, R1.mono (by omega), hAA, lv_sub hl [2, 3, 4, 5, 6, 7] rfl⟩

set_option maxHeartbeats 4000000 in
set_option maxRecDepth 100000 in
theorem law_24 {σ : Mm} {G : Gd} {H : Heap} {locs : List Loc} {ls : Array Slot} {i : Int32} {B cells slots : Nat} (hl9 : l.stackTraces = false) (C0 : L0 p s m meth c b L xs) (h1 : vp_in (i + 1) L) (h2 : vp_in (i + 2) L) (h3 : vp_in (i + 3) L) (hB : B + 300 ≤ 1000000) (hrm : cells + 2 ≤ 603072 ∧ slots + 12 ≤ 7202922) (hL : LB G σ s H locs ls b i B)
    (kk : ∀ (G1 : Gd) (ρ : Mm) (H1 : Heap) (locs1 : List Loc) (ls1 : Array Slot), LB G1 ρ s H1 locs1 ls1 b i (B + 300) → W p l e room_1 s m #[Value.ref b] below meth c H1 locs1 (cells + 2) (slots + 12) Q (F0 m 2408 ls1 [])) : W p l e room_1 s m #[Value.ref b] below meth c H locs cells slots Q (F0 m 1680 ls []) := by
  obtain ⟨S, hX, hbl⟩ := C0
  obtain ⟨hx, hb, -⟩ := id S
  have hts := S.2.2.2.2
  obtain ⟨F, B1, R0, hAA, hl⟩ := hL
  have hbA : ¬ AA G s.heap.size b := fun q => absurd (hAA b q) (Nat.not_le.mpr hbl)
  refine lv_aload_n hx hb dL_law_1680 rfl (lv_at hl 1 rfl) ?_
  refine lv_aload_n hx hb dL_law_1681 rfl (lv_at hl 0 rfl) ?_
  refine lv_iload hx hb dL_law_1682 (lv_at hl 5 rfl) ?_
  refine lv_iconst (v := 1) hx hb dL_law_1684 (by decide) ?_
  refine lv_iadd hx hb dL_law_1685 ?_
  refine va_sld hx hb hX hbl hbA B1.2 h1 dL_law_1686 ?_
  refine lv_aload_n hx hb dL_law_1687 rfl (lv_at hl 0 rfl) ?_
  refine lv_iload hx hb dL_law_1688 (lv_at hl 5 rfl) ?_
  refine lv_iconst (v := 2) hx hb dL_law_1690 (by decide) ?_
  refine lv_iadd hx hb dL_law_1691 ?_
  refine va_sld hx hb hX hbl hbA B1.2 h2 dL_law_1692 ?_
  obtain ⟨out, τ, g1, r9, ρ, g2, R1, sm⟩ := q_ranked R0 (xs (i + 1).toNatClampNeg) (xs (i + 2).toNatClampNeg)
  obtain ⟨hn, f2, f3⟩ := fin2 (by decide) sm
  obtain ⟨G1, eG, F1, hA, hk, hw⟩ := aft_L F out τ
  refine lv_aload_n hx hb dL_law_1693 rfl (lv_at hl 3 rfl) ?_
  refine k_iSW (As := [.ref (G.2.2 154), .int (xs (i + 1).toNatClampNeg), .int (xs (i + 2).toNatClampNeg), .ref (G.2.2 207)]) (rest := []) (v := _) (τ := τ) (G1 := G1) (mc := 1) (ms := 6) S F B1 (by rw [← eG]; exact c_L_ranked l hl9 G σ _ (xs (i + 1).toNatClampNeg) (xs (i + 2).toNatClampNeg) (out := (out, τ)) g1 (fun n => if n = 3 then 1 else 2) hn) hA (vx_cwSW 4 hts (gdm (gdl gL_law_L_ranked) (goodIn_sub (by decide +kernel) (by decide +kernel))) rfl rfl rfl (by decide +kernel) ⟨Nat.le_of_ble_eq_true rfl, Nat.le_of_ble_eq_true rfl⟩) rfl hl.1 rfl (Nat.le_of_ble_eq_true rfl) dL_law_1694 ⟨by show cells + 1 ≤ 603072; omega, by show slots + 6 ≤ 7202922; omega⟩ (fun H locs B1 => ?_)
  have hl : lv_has ls 10 [(0, .ref b), (1, .ref (G1.2.2 154)), (2, .ref (G1.2.2 198)), (3, .ref (G1.2.2 207)), (4, .ref (G1.2.2 208)), (5, .int i)] := by rw [hk 154 (by decide), hk 198 (by decide), hk 207 (by decide), hk 208 (by decide)]; exact hl
  have hbA : ¬ AA G1 s.heap.size b := by rw [hA]; exact hbA
  have hAA : ∀ q, AA G1 s.heap.size q → s.heap.size ≤ q := by rw [hA]; exact hAA
  refine lv_istore (lv' := (6, .int (hp (fun n => if n = 3 then 1 else 2) (out, τ))) :: [(0, .ref b), (1, .ref (G1.2.2 154)), (2, .ref (G1.2.2 198)), (3, .ref (G1.2.2 207)), (4, .ref (G1.2.2 208)), (5, .int i)]) hx hb dL_law_1697 hl (by decide) rfl (fun ls hl => ?_)
  refine lv_aload_n hx hb dL_law_1699 rfl (lv_at hl 3 rfl) ?_
  refine lv_aload_n hx hb dL_law_1700 rfl (lv_at hl 1 rfl) ?_
  refine lv_iload hx hb dL_law_1701 (lv_at hl 6 rfl) ?_
  refine lv_iconst (v := 1) hx hb dL_law_1703 (by decide) ?_
  refine lv_iadd hx hb dL_law_1704 ?_
  refine va_sld hx hb hX hbl hbA B1.2 h1 dL_law_1705 ?_
  refine lv_aload_n hx hb dL_law_1706 rfl (lv_at hl 1 rfl) ?_
  refine lv_iload hx hb dL_law_1707 (lv_at hl 6 rfl) ?_
  refine lv_iconst (v := 2) hx hb dL_law_1709 (by decide) ?_
  refine lv_iadd hx hb dL_law_1710 ?_
  refine va_sld hx hb hX hbl hbA B1.2 h2 dL_law_1711 ?_
  refine k_iV (As := [.int (xs (i + 1).toNatClampNeg), .int (xs (i + 2).toNatClampNeg)]) (rest := []) S F1 B1 (c_X10_ranked l G1 τ _ (xs (i + 1).toNatClampNeg) (xs (i + 2).toNatClampNeg) (out := (r9, ρ)) g2) (kq (by decide) : kd 198 = 21 ∧ 198 < NN) rfl rfl (cwV 2 hts (gdl gL_law_X10_ranked) rfl rfl rfl (by decide +kernel) ⟨Nat.le_of_ble_eq_true rfl, Nat.le_of_ble_eq_true rfl⟩) rfl hl.1 rfl (Nat.le_of_ble_eq_true rfl) dL_law_1712 ⟨by show cells + 1 ≤ 603072; omega, by show slots + 6 ≤ 7202922; omega⟩ (fun H locs B1 => ?_)
  refine lv_istore (lv' := (7, .int r9) :: (6, .int (hp (fun n => if n = 3 then 1 else 2) (out, τ))) :: [(0, .ref b), (1, .ref (G1.2.2 154)), (2, .ref (G1.2.2 198)), (3, .ref (G1.2.2 207)), (4, .ref (G1.2.2 208)), (5, .int i)]) hx hb dL_law_1715 hl (by decide) rfl (fun ls hl => ?_)
  refine lv_aload_n hx hb dL_law_1717 rfl (lv_at hl 4 rfl) ?_
  refine k_iV (As := []) (rest := []) S F1 B1 (c_X10_thrown l G1 ρ _ (out := ρ 198 12) rfl) (kq (by decide) : kd 198 = 21 ∧ 198 < NN) rfl rfl (cwV 0 hts (gdl gL_law_X10_thrown) rfl rfl rfl (by decide +kernel) ⟨Nat.le_of_ble_eq_true rfl, Nat.le_of_ble_eq_true rfl⟩) rfl hl.1 rfl (Nat.le_of_ble_eq_true rfl) dL_law_1718 ⟨by show cells + 1 ≤ 603072; omega, by show slots + 6 ≤ 7202922; omega⟩ (fun H locs B1 => ?_)
  refine lv_iload hx hb dL_law_1721 (lv_at hl 1 rfl) ?_
  refine lv_icmp_eq (tgt := 1728) hx hb dL_law_1723 (by decide) (fun _ => ?_) (fun c1 => absurd f2 c1)
  refine lv_iload hx hb dL_law_1728 (lv_at hl 1 rfl) ?_
  refine lv_if_ne (tgt := 1745) hx hb dL_law_1730 (by decide) (fun _ => ?_) (fun c1 => ?_)
  · refine lv_goto (tgt := 2408) hx hb dL_law_1745 (by decide) ?_
    refine W.widen (k := cells + 2) (n := slots + 12) (by omega) (by omega) ?_
    exact kk _ _ _ _ _ ⟨F1, B1, R1.mono (by omega), hAA, lv_sub hl [2, 3, 4, 5, 6, 7] rfl⟩
  · have eo := f3 (f2.trans c1)
    have ew := hw _ eo
    refine lv_aload_n hx hb dL_law_1733 rfl (lv_at hl 5 rfl) ?_
    refine lv_iconst (v := 0) hx hb dL_law_1734 (by decide) ?_
    refine r_lald S F1 B1 dL_law_1735 ?_
    refine lv_iload hx hb dL_law_1736 (lv_at hl 0 rfl) ?_
    refine lv_i2l hx hb dL_law_1738 rfl ?_
    refine W.lcmp hx hb dL_law_1739 ?_
    rw [ew]
    refine lv_if_eq (tgt := 1745) hx hb dL_law_1740 (by decide) (fun _ => ?_) (fun c2 => absurd (lg_same _) c2)
    refine lv_goto (tgt := 2408) hx hb dL_law_1745 (by decide) ?_
    refine W.widen (k := cells + 2) (n := slots + 12) (by omega) (by omega) ?_
    exact kk _ _ _ _ _ ⟨F1, B1, R1.mono (by omega), hAA, lv_sub hl [2, 3, 4, 5, 6, 7] rfl⟩

set_option maxHeartbeats 4000000 in
set_option maxRecDepth 100000 in
theorem law_31 {σ : Mm} {G : Gd} {H : Heap} {locs : List Loc} {ls : Array Slot} {i : Int32} {B cells slots : Nat} (hl9 : l.stackTraces = false) (C0 : L0 p s m meth c b L xs) (h1 : vp_in (i + 1) L) (h2 : vp_in (i + 2) L) (h3 : vp_in (i + 3) L) (hB : B + 300 ≤ 1000000) (hrm : cells + 2 ≤ 603072 ∧ slots + 12 ≤ 7202922) (hL : LB G σ s H locs ls b i B)
    (kk : ∀ (G1 : Gd) (ρ : Mm) (H1 : Heap) (locs1 : List Loc) (ls1 : Array Slot), LB G1 ρ s H1 locs1 ls1 b i (B + 300) → W p l e room_1 s m #[Value.ref b] below meth c H1 locs1 (cells + 2) (slots + 12) Q (F0 m 2408 ls1 [])) : W p l e room_1 s m #[Value.ref b] below meth c H locs cells slots Q (F0 m 2031 ls []) := by
  obtain ⟨S, hX, hbl⟩ := C0
  obtain ⟨hx, hb, -⟩ := id S
  have hts := S.2.2.2.2
  obtain ⟨F, B1, R0, hAA, hl⟩ := hL
  have hbA : ¬ AA G s.heap.size b := fun q => absurd (hAA b q) (Nat.not_le.mpr hbl)
  refine lv_aload_n hx hb dL_law_2031 rfl (lv_at hl 1 rfl) ?_
  refine lv_aload_n hx hb dL_law_2032 rfl (lv_at hl 0 rfl) ?_
  refine lv_iload hx hb dL_law_2033 (lv_at hl 5 rfl) ?_
  refine lv_iconst (v := 1) hx hb dL_law_2035 (by decide) ?_
  refine lv_iadd hx hb dL_law_2036 ?_
  refine va_sld hx hb hX hbl hbA B1.2 h1 dL_law_2037 ?_
  obtain ⟨out, τ, g1, r9, ρ, g2, R1, sm⟩ := one_of (fun e2 => q_row e2 R0 (xs (i + 1).toNatClampNeg))
  obtain ⟨hn, f2, f3⟩ := fin1 sm
  obtain ⟨G1, eG, F1, hA, hk, hw⟩ := aft_L F out τ
  refine lv_aload_n hx hb dL_law_2038 rfl (lv_at hl 3 rfl) ?_
  refine k_iSW (As := [.ref (G.2.2 154), .int (xs (i + 1).toNatClampNeg), .ref (G.2.2 207)]) (rest := []) (v := _) (τ := τ) (G1 := G1) (mc := 1) (ms := 6) S F B1 (by rw [← eG]; exact c_L_row l hl9 G σ _ (xs (i + 1).toNatClampNeg) (out := (out, τ)) g1 (fun _ => 1) hn) hA (vx_cwSW 3 hts (gdl gL_law_L_row) rfl rfl rfl (by decide +kernel) ⟨Nat.le_of_ble_eq_true rfl, Nat.le_of_ble_eq_true rfl⟩) rfl hl.1 rfl (Nat.le_of_ble_eq_true rfl) dL_law_2039 ⟨by show cells + 1 ≤ 603072; omega, by show slots + 6 ≤ 7202922; omega⟩ (fun H locs B1 => ?_)
  have hl : lv_has ls 10 [(0, .ref b), (1, .ref (G1.2.2 154)), (2, .ref (G1.2.2 198)), (3, .ref (G1.2.2 207)), (4, .ref (G1.2.2 208)), (5, .int i)] := by rw [hk 154 (by decide), hk 198 (by decide), hk 207 (by decide), hk 208 (by decide)]; exact hl
  have hbA : ¬ AA G1 s.heap.size b := by rw [hA]; exact hbA
  have hAA : ∀ q, AA G1 s.heap.size q → s.heap.size ≤ q := by rw [hA]; exact hAA
  refine lv_istore (lv' := (6, .int (hp (fun _ => 1) (out, τ))) :: [(0, .ref b), (1, .ref (G1.2.2 154)), (2, .ref (G1.2.2 198)), (3, .ref (G1.2.2 207)), (4, .ref (G1.2.2 208)), (5, .int i)]) hx hb dL_law_2042 hl (by decide) rfl (fun ls hl => ?_)
  refine lv_aload_n hx hb dL_law_2044 rfl (lv_at hl 3 rfl) ?_
  refine lv_aload_n hx hb dL_law_2045 rfl (lv_at hl 1 rfl) ?_
  refine lv_iload hx hb dL_law_2046 (lv_at hl 6 rfl) ?_
  refine lv_iconst (v := 1) hx hb dL_law_2048 (by decide) ?_
  refine lv_iadd hx hb dL_law_2049 ?_
  refine va_sld hx hb hX hbl hbA B1.2 h1 dL_law_2050 ?_
  refine k_iV (As := [.int (xs (i + 1).toNatClampNeg)]) (rest := []) S F1 B1 (c_X10_row l G1 τ _ (xs (i + 1).toNatClampNeg) (out := (r9, ρ)) g2) (kq (by decide) : kd 198 = 21 ∧ 198 < NN) rfl rfl (cwV 1 hts (gdl gL_law_X10_row) rfl rfl rfl (by decide +kernel) ⟨Nat.le_of_ble_eq_true rfl, Nat.le_of_ble_eq_true rfl⟩) rfl hl.1 rfl (Nat.le_of_ble_eq_true rfl) dL_law_2051 ⟨by show cells + 1 ≤ 603072; omega, by show slots + 6 ≤ 7202922; omega⟩ (fun H locs B1 => ?_)
  refine lv_istore (lv' := (7, .int r9) :: (6, .int (hp (fun _ => 1) (out, τ))) :: [(0, .ref b), (1, .ref (G1.2.2 154)), (2, .ref (G1.2.2 198)), (3, .ref (G1.2.2 207)), (4, .ref (G1.2.2 208)), (5, .int i)]) hx hb dL_law_2054 hl (by decide) rfl (fun ls hl => ?_)
  refine lv_aload_n hx hb dL_law_2056 rfl (lv_at hl 4 rfl) ?_
  refine k_iV (As := []) (rest := []) S F1 B1 (c_X10_thrown l G1 ρ _ (out := ρ 198 12) rfl) (kq (by decide) : kd 198 = 21 ∧ 198 < NN) rfl rfl (cwV 0 hts (gdl gL_law_X10_thrown) rfl rfl rfl (by decide +kernel) ⟨Nat.le_of_ble_eq_true rfl, Nat.le_of_ble_eq_true rfl⟩) rfl hl.1 rfl (Nat.le_of_ble_eq_true rfl) dL_law_2057 ⟨by show cells + 1 ≤ 603072; omega, by show slots + 6 ≤ 7202922; omega⟩ (fun H locs B1 => ?_)
  refine lv_iload hx hb dL_law_2060 (lv_at hl 1 rfl) ?_
  refine lv_icmp_eq (tgt := 2067) hx hb dL_law_2062 (by decide) (fun _ => ?_) (fun c1 => absurd f2 c1)
  refine lv_iload hx hb dL_law_2067 (lv_at hl 1 rfl) ?_
  refine lv_if_ne (tgt := 2084) hx hb dL_law_2069 (by decide) (fun _ => ?_) (fun c1 => ?_)
  · refine lv_goto (tgt := 2408) hx hb dL_law_2084 (by decide) ?_
    refine W.widen (k := cells + 2) (n := slots + 12) (by omega) (by omega) ?_
    exact kk _ _ _ _ _ ⟨F1, B1, R1.mono (by omega), hAA, lv_sub hl [2, 3, 4, 5, 6, 7] rfl⟩
  · have eo := f3 (f2.trans c1)
    have ew := hw _ eo
    refine lv_aload_n hx hb dL_law_2072 rfl (lv_at hl 5 rfl) ?_
    refine lv_iconst (v := 0) hx hb dL_law_2073 (by decide) ?_
    refine r_lald S F1 B1 dL_law_2074 ?_
    refine lv_iload hx hb dL_law_2075 (lv_at hl 0 rfl) ?_
    refine lv_i2l hx hb dL_law_2077 rfl ?_
    refine W.lcmp hx hb dL_law_2078 ?_
    rw [ew]
    refine lv_if_eq (tgt := 2084) hx hb dL_law_2079 (by decide) (fun _ => ?_) (fun c2 => absurd (lg_same _) c2)
    refine lv_goto (tgt := 2408) hx hb dL_law_2084 (by decide) ?_
    refine W.widen (k := cells + 2) (n := slots + 12) (by omega) (by omega) ?_
    exact kk _ _ _ _ _ ⟨F1, B1, R1.mono (by omega), hAA, lv_sub hl [2, 3, 4, 5, 6, 7] rfl⟩

end LC
