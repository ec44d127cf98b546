section LC
variable {p : Program} {l : Launch} {e : Env} {s : State} {m : MethodId} {below : List Frame} {meth : Method} {c : Code} {b L : Nat} {xs : Nat → Int32} {Q : State → Prop}
set_option maxHeartbeats 4000000 in
set_option maxRecDepth 100000 in
theorem law_0 {σ : Mm} {G : Gd} {H : Heap} {locs : List Loc} {ls : Array Slot} {i : Int32} {B cells slots : Nat} (hl9 : l.stackTraces = false) (C0 : L0 p s m meth c b L xs) (h1 : vp_in (i + 1) L) (h2 : vp_in (i + 2) L) (h3 : vp_in (i + 3) L) (hB : B + 300 ≤ 1000000) (hrm : cells + 2 ≤ 603072 ∧ slots + 12 ≤ 7202922) (hL : LB G σ s H locs ls b i B)
    (kk : ∀ (G1 : Gd) (ρ : Mm) (H1 : Heap) (locs1 : List Loc) (ls1 : Array Slot), LB G1 ρ s H1 locs1 ls1 b i (B + 300) → W p l e room_1 s m #[Value.ref b] below meth c H1 locs1 (cells + 2) (slots + 12) Q (F0 m 2408 ls1 [])) : W p l e room_1 s m #[Value.ref b] below meth c H locs cells slots Q (F0 m 216 ls []) := by
  obtain ⟨S, hX, hbl⟩ := C0
  obtain ⟨hx, hb, -⟩ := id S
  have hts := S.2.2.2.2
  obtain ⟨F, B1, R0, hAA, hl⟩ := hL
  have hbA : ¬ AA G s.heap.size b := fun q => absurd (hAA b q) (Nat.not_le.mpr hbl)
  refine lv_aload_n hx hb dL_law_216 rfl (lv_at hl 1 rfl) ?_
  refine lv_aload_n hx hb dL_law_217 rfl (lv_at hl 0 rfl) ?_
  refine lv_iload hx hb dL_law_218 (lv_at hl 5 rfl) ?_
  refine lv_iconst (v := 1) hx hb dL_law_220 (by decide) ?_
  refine lv_iadd hx hb dL_law_221 ?_
  refine va_sld hx hb hX hbl hbA B1.2 h1 dL_law_222 ?_
  refine lv_aload_n hx hb dL_law_223 rfl (lv_at hl 0 rfl) ?_
  refine lv_iload hx hb dL_law_224 (lv_at hl 5 rfl) ?_
  refine lv_iconst (v := 2) hx hb dL_law_226 (by decide) ?_
  refine lv_iadd hx hb dL_law_227 ?_
  refine va_sld hx hb hX hbl hbA B1.2 h2 dL_law_228 ?_
  refine lv_aload_n hx hb dL_law_229 rfl (lv_at hl 0 rfl) ?_
  refine lv_iload hx hb dL_law_230 (lv_at hl 5 rfl) ?_
  refine lv_iconst (v := 3) hx hb dL_law_232 (by decide) ?_
  refine lv_iadd hx hb dL_law_233 ?_
  refine va_sld hx hb hX hbl hbA B1.2 h3 dL_law_234 ?_
  obtain ⟨out, τ, g1, r9, ρ, g2, R1, sm⟩ := q_hedge R0 (xs (i + 1).toNatClampNeg) (xs (i + 2).toNatClampNeg) (xs (i + 3).toNatClampNeg)
  obtain ⟨hn, f2, f3⟩ := fin1 sm
  obtain ⟨G1, eG, F1, hA, hk, hw⟩ := aft_L F out τ
  refine lv_aload_n hx hb dL_law_235 rfl (lv_at hl 3 rfl) ?_
  refine k_iSW (As := [.ref (G.2.2 154), .int (xs (i + 1).toNatClampNeg), .int (xs (i + 2).toNatClampNeg), .int (xs (i + 3).toNatClampNeg), .ref (G.2.2 207)]) (rest := []) (v := _) (τ := τ) (G1 := G1) (mc := 1) (ms := 6) S F B1 (by rw [← eG]; exact c_L_hedge l hl9 G σ _ (xs (i + 1).toNatClampNeg) (xs (i + 2).toNatClampNeg) (xs (i + 3).toNatClampNeg) (out := (out, τ)) g1 (fun _ => 1) hn) hA (vx_cwSW 5 hts (gdl gL_law_L_hedge) rfl rfl rfl (by decide +kernel) ⟨Nat.le_of_ble_eq_true rfl, Nat.le_of_ble_eq_true rfl⟩) rfl hl.1 rfl (Nat.le_of_ble_eq_true rfl) dL_law_236 ⟨by show cells + 1 ≤ 603072; omega, by show slots + 6 ≤ 7202922; omega⟩ (fun H locs B1 => ?_)
  have hl : lv_has ls 10 [(0, .ref b), (1, .ref (G1.2.2 154)), (2, .ref (G1.2.2 198)), (3, .ref (G1.2.2 207)), (4, .ref (G1.2.2 208)), (5, .int i)] := by rw [hk 154 (by decide), hk 198 (by decide), hk 207 (by decide), hk 208 (by decide)]; exact hl
  have hbA : ¬ AA G1 s.heap.size b := by rw [hA]; exact hbA
  have hAA : ∀ q, AA G1 s.heap.size q → s.heap.size ≤ q := by rw [hA]; exact hAA
  refine lv_istore (lv' := (6, .int (hp (fun _ => 1) (out, τ))) :: [(0, .ref b), (1, .ref (G1.2.2 154)), (2, .ref (G1.2.2 198)), (3, .ref (G1.2.2 207)), (4, .ref (G1.2.2 208)), (5, .int i)]) hx hb dL_law_239 hl (by decide) rfl (fun ls hl => ?_)
  refine lv_aload_n hx hb dL_law_241 rfl (lv_at hl 3 rfl) ?_
  refine lv_aload_n hx hb dL_law_242 rfl (lv_at hl 1 rfl) ?_
  refine lv_iload hx hb dL_law_243 (lv_at hl 6 rfl) ?_
  refine lv_iconst (v := 1) hx hb dL_law_245 (by decide) ?_
  refine lv_iadd hx hb dL_law_246 ?_
  refine va_sld hx hb hX hbl hbA B1.2 h1 dL_law_247 ?_
  refine lv_aload_n hx hb dL_law_248 rfl (lv_at hl 1 rfl) ?_
  refine lv_iload hx hb dL_law_249 (lv_at hl 6 rfl) ?_
  refine lv_iconst (v := 2) hx hb dL_law_251 (by decide) ?_
  refine lv_iadd hx hb dL_law_252 ?_
  refine va_sld hx hb hX hbl hbA B1.2 h2 dL_law_253 ?_
  refine lv_aload_n hx hb dL_law_254 rfl (lv_at hl 1 rfl) ?_
  refine lv_iload hx hb dL_law_255 (lv_at hl 6 rfl) ?_
  refine lv_iconst (v := 3) hx hb dL_law_257 (by decide) ?_
  refine lv_iadd hx hb dL_law_258 ?_
  refine va_sld hx hb hX hbl hbA B1.2 h3 dL_law_259 ?_
  refine k_iV (As := [.int (xs (i + 1).toNatClampNeg), .int (xs (i + 2).toNatClampNeg), .int (xs (i + 3).toNatClampNeg)]) (rest := []) S F1 B1 (c_X10_hedge l G1 τ _ (xs (i + 1).toNatClampNeg) (xs (i + 2).toNatClampNeg) (xs (i + 3).toNatClampNeg) (out := (r9, ρ)) g2) (kq (by decide) : kd 198 = 21 ∧ 198 < NN) rfl rfl (cwV 3 hts (gdl gL_law_X10_hedge) rfl rfl rfl (by decide +kernel) ⟨Nat.le_of_ble_eq_true rfl, Nat.le_of_ble_eq_true rfl⟩) rfl hl.1 rfl (Nat.le_of_ble_eq_true rfl) dL_law_260 ⟨by show cells + 1 ≤ 603072; omega, by show slots + 6 ≤ 7202922; omega⟩ (fun H locs B1 => ?_)
  refine lv_istore (lv' := (7, .int r9) :: (6, .int (hp (fun _ => 1) (out, τ))) :: [(0, .ref b), (1, .ref (G1.2.2 154)), (2, .ref (G1.2.2 198)), (3, .ref (G1.2.2 207)), (4, .ref (G1.2.2 208)), (5, .int i)]) hx hb dL_law_263 hl (by decide) rfl (fun ls hl => ?_)
  refine lv_aload_n hx hb dL_law_265 rfl (lv_at hl 4 rfl) ?_
  refine k_iV (As := []) (rest := []) S F1 B1 (c_X10_thrown l G1 ρ _ (out := ρ 198 12) rfl) (kq (by decide) : kd 198 = 21 ∧ 198 < NN) rfl rfl (cwV 0 hts (gdl gL_law_X10_thrown) rfl rfl rfl (by decide +kernel) ⟨Nat.le_of_ble_eq_true rfl, Nat.le_of_ble_eq_true rfl⟩) rfl hl.1 rfl (Nat.le_of_ble_eq_true rfl) dL_law_266 ⟨by show cells + 1 ≤ 603072; omega, by show slots + 6 ≤ 7202922; omega⟩ (fun H locs B1 => ?_)
  refine lv_iload hx hb dL_law_269 (lv_at hl 1 rfl) ?_
  refine lv_icmp_eq (tgt := 276) hx hb dL_law_271 (by decide) (fun _ => ?_) (fun c1 => absurd f2 c1)
  refine lv_iload hx hb dL_law_276 (lv_at hl 1 rfl) ?_
  refine lv_if_ne (tgt := 293) hx hb dL_law_278 (by decide) (fun _ => ?_) (fun c1 => ?_)
  · refine lv_goto (tgt := 2408) hx hb dL_law_293 (by decide) ?_
    refine W.widen (k := cells + 2) (n := slots + 12) (by omega) (by omega) ?_
    exact kk _ _ _ _ _ ⟨F1, B1, R1.mono (by omega), hAA, lv_sub hl [2, 3, 4, 5, 6, 7] rfl⟩
  · have eo := f3 (f2.trans c1)
    have ew := hw _ eo
    refine lv_aload_n hx hb dL_law_281 rfl (lv_at hl 5 rfl) ?_
    refine lv_iconst (v := 0) hx hb dL_law_282 (by decide) ?_
    refine r_lald S F1 B1 dL_law_283 ?_
    refine lv_iload hx hb dL_law_284 (lv_at hl 0 rfl) ?_
    refine lv_i2l hx hb dL_law_286 rfl ?_
    refine W.lcmp hx hb dL_law_287 ?_
    rw [ew]
    refine lv_if_eq (tgt := 293) hx hb dL_law_288 (by decide) (fun _ => ?_) (fun c2 => absurd (lg_same _) c2)
    refine lv_goto (tgt := 2408) hx hb dL_law_293 (by decide) ?_
    refine W.widen (k := cells + 2) (n := slots + 12) (by omega) (by omega) ?_
    exact kk _ _ _ _ _ ⟨F1, B1, R1.mono (by omega), hAA, lv_sub hl [2, 3, 4, 5, 6, 7] rfl⟩

set_option maxHeartbeats 4000000 in
set_option maxRecDepth 100000 in
theorem law_7 {σ : Mm} {G : Gd} {H : Heap} {locs : List Loc} {ls : Array Slot} {i : Int32} {B cells slots : Nat} (hl9 : l.stackTraces = false) (C0 : L0 p s m meth c b L xs) (h1 : vp_in (i + 1) L) (h2 : vp_in (i + 2) L) (h3 : vp_in (i + 3) L) (hB : B + 300 ≤ 1000000) (hrm : cells + 2 ≤ 603072 ∧ slots + 12 ≤ 7202922) (hL : LB G σ s H locs ls b i B)
    (kk : ∀ (G1 : Gd) (ρ : Mm) (H1 : Heap) (locs1 : List Loc) (ls1 : Array Slot), LB G1 ρ s H1 locs1 ls1 b i (B + 300) → W p l e room_1 s m #[Value.ref b] below meth c H1 locs1 (cells + 2) (slots + 12) Q (F0 m 2408 ls1 [])) : W p l e room_1 s m #[Value.ref b] below meth c H locs cells slots Q (F0 m 637 ls []) := by
  obtain ⟨S, hX, hbl⟩ := C0
  obtain ⟨hx, hb, -⟩ := id S
  have hts := S.2.2.2.2
  obtain ⟨F, B1, R0, hAA, hl⟩ := hL
  have hbA : ¬ AA G s.heap.size b := fun q => absurd (hAA b q) (Nat.not_le.mpr hbl)
  refine lv_aload_n hx hb dL_law_637 rfl (lv_at hl 1 rfl) ?_
  refine lv_aload_n hx hb dL_law_638 rfl (lv_at hl 0 rfl) ?_
  refine lv_iload hx hb dL_law_639 (lv_at hl 5 rfl) ?_
  refine lv_iconst (v := 1) hx hb dL_law_641 (by decide) ?_
  refine lv_iadd hx hb dL_law_642 ?_
  refine va_sld hx hb hX hbl hbA B1.2 h1 dL_law_643 ?_
  refine lv_aload_n hx hb dL_law_644 rfl (lv_at hl 0 rfl) ?_
  refine lv_iload hx hb dL_law_645 (lv_at hl 5 rfl) ?_
  refine lv_iconst (v := 2) hx hb dL_law_647 (by decide) ?_
  refine lv_iadd hx hb dL_law_648 ?_
  refine va_sld hx hb hX hbl hbA B1.2 h2 dL_law_649 ?_
  obtain ⟨out, τ, g1, r9, ρ, g2, R1, sm⟩ := q_walk (by omega) R0 (xs (i + 1).toNatClampNeg) (xs (i + 2).toNatClampNeg)
  obtain ⟨hn, f2, f3⟩ := fin1 sm
  obtain ⟨G1, eG, F1, hA, hk, hw⟩ := aft_L F out τ
  refine lv_aload_n hx hb dL_law_650 rfl (lv_at hl 3 rfl) ?_
  refine k_iSW (As := [.ref (G.2.2 154), .int (xs (i + 1).toNatClampNeg), .int (xs (i + 2).toNatClampNeg), .ref (G.2.2 207)]) (rest := []) (v := _) (τ := τ) (G1 := G1) (mc := 1) (ms := 6) S F B1 (by rw [← eG]; exact c_L_walk l hl9 G σ _ (xs (i + 1).toNatClampNeg) (xs (i + 2).toNatClampNeg) (out := (out, τ)) g1 (fun _ => 1) hn) hA (vx_cwSW 4 hts (gdl gL_law_L_walk) rfl rfl rfl (by decide +kernel) ⟨Nat.le_of_ble_eq_true rfl, Nat.le_of_ble_eq_true rfl⟩) rfl hl.1 rfl (Nat.le_of_ble_eq_true rfl) dL_law_651 ⟨by show cells + 1 ≤ 603072; omega, by show slots + 6 ≤ 7202922; omega⟩ (fun H locs B1 => ?_)
  have hl : lv_has ls 10 [(0, .ref b), (1, .ref (G1.2.2 154)), (2, .ref (G1.2.2 198)), (3, .ref (G1.2.2 207)), (4, .ref (G1.2.2 208)), (5, .int i)] := by rw [hk 154 (by decide), hk 198 (by decide), hk 207 (by decide), hk 208 (by decide)]; exact hl
  have hbA : ¬ AA G1 s.heap.size b := by rw [hA]; exact hbA
  have hAA : ∀ q, AA G1 s.heap.size q → s.heap.size ≤ q := by rw [hA]; exact hAA
  refine lv_istore (lv' := (6, .int (hp (fun _ => 1) (out, τ))) :: [(0, .ref b), (1, .ref (G1.2.2 154)), (2, .ref (G1.2.2 198)), (3, .ref (G1.2.2 207)), (4, .ref (G1.2.2 208)), (5, .int i)]) hx hb dL_law_654 hl (by decide) rfl (fun ls hl => ?_)
  refine lv_aload_n hx hb dL_law_656 rfl (lv_at hl 3 rfl) ?_
  refine lv_aload_n hx hb dL_law_657 rfl (lv_at hl 1 rfl) ?_
  refine lv_iload hx hb dL_law_658 (lv_at hl 6 rfl) ?_
  refine lv_iconst (v := 1) hx hb dL_law_660 (by decide) ?_
  refine lv_iadd hx hb dL_law_661 ?_
  refine va_sld hx hb hX hbl hbA B1.2 h1 dL_law_662 ?_
  refine lv_aload_n hx hb dL_law_663 rfl (lv_at hl 1 rfl) ?_
  refine lv_iload hx hb dL_law_664 (lv_at hl 6 rfl) ?_
  refine lv_iconst (v := 2) hx hb dL_law_666 (by decide) ?_
  refine lv_iadd hx hb dL_law_667 ?_
  refine va_sld hx hb hX hbl hbA B1.2 h2 dL_law_668 ?_
  refine k_iV (As := [.int (xs (i + 1).toNatClampNeg), .int (xs (i + 2).toNatClampNeg)]) (rest := []) S F1 B1 (c_X10_walk l G1 τ _ (xs (i + 1).toNatClampNeg) (xs (i + 2).toNatClampNeg) (out := (r9, ρ)) g2) (kq (by decide) : kd 198 = 21 ∧ 198 < NN) rfl rfl (cwV 2 hts (gdl gL_law_X10_walk) rfl rfl rfl (by decide +kernel) ⟨Nat.le_of_ble_eq_true rfl, Nat.le_of_ble_eq_true rfl⟩) rfl hl.1 rfl (Nat.le_of_ble_eq_true rfl) dL_law_669 ⟨by show cells + 1 ≤ 603072; omega, by show slots + 6 ≤ 7202922; omega⟩ (fun H locs B1 => ?_)
  refine lv_istore (lv' := (7, .int r9) :: (6, .int (hp (fun _ => 1) (out, τ))) :: [(0, .ref b), (1, .ref (G1.2.2 154)), (2, .ref (G1.2.2 198)), (3, .ref (G1.2.2 207)), (4, .ref (G1.2.2 208)), (5, .int i)]) hx hb dL_law_672 hl (by decide) rfl (fun ls hl => ?_)
  refine lv_aload_n hx hb dL_law_674 rfl (lv_at hl 4 rfl) ?_
  refine k_iV (As := []) (rest := []) S F1 B1 (c_X10_thrown l G1 ρ _ (out := ρ 198 12) rfl) (kq (by decide) : kd 198 = 21 ∧ 198 < NN) rfl rfl (cwV 0 hts (gdl gL_law_X10_thrown) rfl rfl rfl (by decide +kernel) ⟨Nat.le_of_ble_eq_true rfl, Nat.le_of_ble_eq_true rfl⟩) rfl hl.1 rfl (Nat.le_of_ble_eq_true rfl) dL_law_675 ⟨by show cells + 1 ≤ 603072; omega, by show slots + 6 ≤ 7202922; omega⟩ (fun H locs B1 => ?_)
  refine lv_iload hx hb dL_law_678 (lv_at hl 1 rfl) ?_
  refine lv_icmp_eq (tgt := 685) hx hb dL_law_680 (by decide) (fun _ => ?_) (fun c1 => absurd f2 c1)
  refine lv_iload hx hb dL_law_685 (lv_at hl 1 rfl) ?_
  refine lv_if_ne (tgt := 702) hx hb dL_law_687 (by decide) (fun _ => ?_) (fun c1 => ?_)
  · refine lv_goto (tgt := 2408) hx hb dL_law_702 (by decide) ?_
    refine W.widen (k := cells + 2) (n := slots + 12) (by omega) (by omega) ?_
    exact kk _ _ _ _ _ ⟨F1, B1, R1.mono (by omega), hAA, lv_sub hl [2, 3, 4, 5, 6, 7] rfl⟩
  · have eo := f3 (f2.trans c1)
    have ew := hw _ eo
    refine lv_aload_n hx hb dL_law_690 rfl (lv_at hl 5 rfl) ?_
    refine lv_iconst (v := 0) hx hb dL_law_691 (by decide) ?_
    refine r_lald S F1 B1 dL_law_692 ?_
    refine lv_iload hx hb dL_law_693 (lv_at hl 0 rfl) ?_
    refine lv_i2l hx hb dL_law_695 rfl ?_
    refine W.lcmp hx hb dL_law_696 ?_
    rw [ew]
    refine lv_if_eq (tgt := 702) hx hb dL_law_697 (by decide) (fun _ => ?_) (fun c2 => absurd (lg_same _) c2)
    refine lv_goto (tgt := 2408) hx hb dL_law_702 (by decide) ?_
    refine W.widen (k := cells + 2) (n := slots + 12) (by omega) (by omega) ?_
    exact kk _ _ _ _ _ ⟨F1, B1, R1.mono (by omega), hAA, lv_sub hl [2, 3, 4, 5, 6, 7] rfl⟩

set_option maxHeartbeats 4000000 in
set_option maxRecDepth 100000 in
theorem law_13 {σ : Mm} {G : Gd} {H : Heap} {locs : List Loc} {ls : Array Slot} {i : Int32} {B cells slots : Nat} (hl9 : l.stackTraces = false) (C0 : L0 p s m meth c b L xs) (h1 : vp_in (i + 1) L) (h2 : vp_in (i + 2) L) (h3 : vp_in (i + 3) L) (hB : B + 300 ≤ 1000000) (hrm : cells + 2 ≤ 603072 ∧ slots + 12 ≤ 7202922) (hL : LB G σ s H locs ls b i B)
    (kk : ∀ (G1 : Gd) (ρ : Mm) (H1 : Heap) (locs1 : List Loc) (ls1 : Array Slot), LB G1 ρ s H1 locs1 ls1 b i (B + 300) → W p l e room_1 s m #[Value.ref b] below meth c H1 locs1 (cells + 2) (slots + 12) Q (F0 m 2408 ls1 [])) : W p l e room_1 s m #[Value.ref b] below meth c H locs cells slots Q (F0 m 1052 ls []) := by
  obtain ⟨S, hX, hbl⟩ := C0
  obtain ⟨hx, hb, -⟩ := id S
  have hts := S.2.2.2.2
  obtain ⟨F, B1, R0, hAA, hl⟩ := hL
  have hbA : ¬ AA G s.heap.size b := fun q => absurd (hAA b q) (Nat.not_le.mpr hbl)
  refine lv_aload_n hx hb dL_law_1052 rfl (lv_at hl 1 rfl) ?_
  refine lv_aload_n hx hb dL_law_1053 rfl (lv_at hl 0 rfl) ?_
  refine lv_iload hx hb dL_law_1054 (lv_at hl 5 rfl) ?_
  refine lv_iconst (v := 1) hx hb dL_law_1056 (by decide) ?_
  refine lv_iadd hx hb dL_law_1057 ?_
  refine va_sld hx hb hX hbl hbA B1.2 h1 dL_law_1058 ?_
  obtain ⟨out, τ, g1, r9, ρ, g2, R1, sm⟩ := q_next R0 (xs (i + 1).toNatClampNeg)
  obtain ⟨hn, f2, f3⟩ := fin2 (by decide) sm
  obtain ⟨G1, eG, F1, hA, hk, hw⟩ := aft_L F out τ
  refine lv_aload_n hx hb dL_law_1059 rfl (lv_at hl 3 rfl) ?_
  refine k_iSW (As := [.ref (G.2.2 154), .int (xs (i + 1).toNatClampNeg), .ref (G.2.2 207)]) (rest := []) (v := _) (τ := τ) (G1 := G1) (mc := 2) (ms := 12) S F B1 (by rw [← eG]; exact c_L_next l hl9 G σ _ (xs (i + 1).toNatClampNeg) (out := (out, τ)) g1 (fun n => if n = 1 then 1 else 2) hn) hA (vx_cwSW 3 hts (gdm (gdl gL_law_L_next) (goodIn_sub (by decide +kernel) (by decide +kernel))) rfl rfl rfl (by decide +kernel) ⟨Nat.le_of_ble_eq_true rfl, Nat.le_of_ble_eq_true rfl⟩) rfl hl.1 rfl (Nat.le_of_ble_eq_true rfl) dL_law_1060 ⟨by show cells + 2 ≤ 603072; omega, by show slots + 12 ≤ 7202922; omega⟩ (fun H locs B1 => ?_)
  have hl : lv_has ls 10 [(0, .ref b), (1, .ref (G1.2.2 154)), (2, .ref (G1.2.2 198)), (3, .ref (G1.2.2 207)), (4, .ref (G1.2.2 208)), (5, .int i)] := by rw [hk 154 (by decide), hk 198 (by decide), hk 207 (by decide), hk 208 (by decide)]; exact hl
  have hbA : ¬ AA G1 s.heap.size b := by rw [hA]; exact hbA
  have hAA : ∀ q, AA G1 s.heap.size q → s.heap.size ≤ q := by rw [hA]; exact hAA
  refine lv_istore (lv' := (6, .int (hp (fun n => if n = 1 then 1 else 2) (out, τ))) :: [(0, .ref b), (1, .ref (G1.2.2 154)), (2, .ref (G1.2.2 198)), (3, .ref (G1.2.2 207)), (4, .ref (G1.2.2 208)), (5, .int i)]) hx hb dL_law_1063 hl (by decide) rfl (fun ls hl => ?_)
  refine lv_aload_n hx hb dL_law_1065 rfl (lv_at hl 3 rfl) ?_
  refine lv_aload_n hx hb dL_law_1066 rfl (lv_at hl 1 rfl) ?_
  refine lv_iload hx hb dL_law_1067 (lv_at hl 6 rfl) ?_
  refine lv_iconst (v := 1) hx hb dL_law_1069 (by decide) ?_
  refine lv_iadd hx hb dL_law_1070 ?_
  refine va_sld hx hb hX hbl hbA B1.2 h1 dL_law_1071 ?_
  refine k_iV (As := [.int (xs (i + 1).toNatClampNeg)]) (rest := []) S F1 B1 (c_X10_next l G1 τ _ (xs (i + 1).toNatClampNeg) (out := (r9, ρ)) g2) (kq (by decide) : kd 198 = 21 ∧ 198 < NN) rfl rfl (cwV 1 hts (gdl gL_law_X10_next) rfl rfl rfl (by decide +kernel) ⟨Nat.le_of_ble_eq_true rfl, Nat.le_of_ble_eq_true rfl⟩) rfl hl.1 rfl (Nat.le_of_ble_eq_true rfl) dL_law_1072 ⟨by show cells + 2 ≤ 603072; omega, by show slots + 12 ≤ 7202922; omega⟩ (fun H locs B1 => ?_)
  refine lv_istore (lv' := (7, .int r9) :: (6, .int (hp (fun n => if n = 1 then 1 else 2) (out, τ))) :: [(0, .ref b), (1, .ref (G1.2.2 154)), (2, .ref (G1.2.2 198)), (3, .ref (G1.2.2 207)), (4, .ref (G1.2.2 208)), (5, .int i)]) hx hb dL_law_1075 hl (by decide) rfl (fun ls hl => ?_)
  refine lv_aload_n hx hb dL_law_1077 rfl (lv_at hl 4 rfl) ?_
  refine k_iV (As := []) (rest := []) S F1 B1 (c_X10_thrown l G1 ρ _ (out := ρ 198 12) rfl) (kq (by decide) : kd 198 = 21 ∧ 198 < NN) rfl rfl (cwV 0 hts (gdl gL_law_X10_thrown) rfl rfl rfl (by decide +kernel) ⟨Nat.le_of_ble_eq_true rfl, Nat.le_of_ble_eq_true rfl⟩) rfl hl.1 rfl (Nat.le_of_ble_eq_true rfl) dL_law_1078 ⟨by show cells + 2 ≤ 603072; omega, by show slots + 12 ≤ 7202922; omega⟩ (fun H locs B1 => ?_)
  refine lv_iload hx hb dL_law_1081 (lv_at hl 1 rfl) ?_
  refine lv_icmp_eq (tgt := 1088) hx hb dL_law_1083 (by decide) (fun _ => ?_) (fun c1 => absurd f2 c1)
  refine lv_iload hx hb dL_law_1088 (lv_at hl 1 rfl) ?_
  refine lv_if_ne (tgt := 1105) hx hb dL_law_1090 (by decide) (fun _ => ?_) (fun c1 => ?_)
  · refine lv_goto (tgt := 2408) hx hb dL_law_1105 (by decide) ?_
    refine W.widen (k := cells + 2) (n := slots + 12) (by omega) (by omega) ?_
    exact kk _ _ _ _ _ ⟨F1, B1, R1.mono (by omega), hAA, lv_sub hl [2, 3, 4, 5, 6, 7] rfl⟩
  · have eo := f3 (f2.trans c1)
    have ew := hw _ eo
    refine lv_aload_n hx hb dL_law_1093 rfl (lv_at hl 5 rfl) ?_
    refine lv_iconst (v := 0) hx hb dL_law_1094 (by decide) ?_
    refine r_lald S F1 B1 dL_law_1095 ?_
    refine lv_iload hx hb dL_law_1096 (lv_at hl 0 rfl) ?_
    refine lv_i2l hx hb dL_law_1098 rfl ?_
    refine W.lcmp hx hb dL_law_1099 ?_
    rw [ew]
    refine lv_if_eq (tgt := 1105) hx hb dL_law_1100 (by decide) (fun _ => ?_) (fun c2 => absurd (lg_same _) c2)
    refine lv_goto (tgt := 2408) hx hb dL_law_1105 (by decide) ?_
    refine W.widen (k := cells + 2) (n := slots + 12) (by omega) (by omega) ?_
    exact kk _ _ _ _ _ ⟨F1, B1, R1.mono (by omega), hAA, lv_sub hl [2, 3, 4, 5, 6, 7] rfl⟩

set_option maxHeartbeats 4000000 in
set_option maxRecDepth 100000 in
theorem law_20 {σ : Mm} {G : Gd} {H : Heap} {locs : List Loc} {ls : Array Slot} {i : Int32} {B cells slots : Nat} (hl9 : l.stackTraces = false) (C0 : L0 p s m meth c b L xs) (h1 : vp_in (i + 1) L) (h2 : vp_in (i + 2) L) (h3 : vp_in (i + 3) L) (hB : B + 300 ≤ 1000000) (hrm : cells + 2 ≤ 603072 ∧ slots + 12 ≤ 7202922) (hL : LB G σ s H locs ls b i B)
    (kk : ∀ (G1 : Gd) (ρ : Mm) (H1 : Heap) (locs1 : List Loc) (ls1 : Array Slot), LB G1 ρ s H1 locs1 ls1 b i (B + 300) → W p l e room_1 s m #[Value.ref b] below meth c H1 locs1 (cells + 2) (slots + 12) Q (F0 m 2408 ls1 [])) : W p l e room_1 s m #[Value.ref b] below meth c H locs cells slots Q (F0 m 1432 ls []) := by
  obtain ⟨S, hX, hbl⟩ := C0
  obtain ⟨hx, hb, -⟩ := id S
  have hts := S.2.2.2.2
  obtain ⟨F, B1, R0, hAA, hl⟩ := hL
  have hbA : ¬ AA G s.heap.size b := fun q => absurd (hAA b q) (Nat.not_le.mpr hbl)
  refine lv_aload_n hx hb dL_law_1432 rfl (lv_at hl 1 rfl) ?_
  refine lv_aload_n hx hb dL_law_1433 rfl (lv_at hl 0 rfl) ?_
  refine lv_iload hx hb dL_law_1434 (lv_at hl 5 rfl) ?_
  refine lv_iconst (v := 1) hx hb dL_law_1436 (by decide) ?_
  refine lv_iadd hx hb dL_law_1437 ?_
  refine va_sld hx hb hX hbl hbA B1.2 h1 dL_law_1438 ?_
  refine lv_aload_n hx hb dL_law_1439 rfl (lv_at hl 0 rfl) ?_
  refine lv_iload hx hb dL_law_1440 (lv_at hl 5 rfl) ?_
  refine lv_iconst (v := 2) hx hb dL_law_1442 (by decide) ?_
  refine lv_iadd hx hb dL_law_1443 ?_
  refine va_sld hx hb hX hbl hbA B1.2 h2 dL_law_1444 ?_
  obtain ⟨out, τ, g1, r9, ρ, g2, R1, sm⟩ := q_gardenerOf R0 (xs (i + 1).toNatClampNeg) (xs (i + 2).toNatClampNeg)
  obtain ⟨hn, f2, f3⟩ := fin2 (by decide) sm
  obtain ⟨G1, eG, F1, hA, hk, hw⟩ := aft_L F out τ
  refine lv_aload_n hx hb dL_law_1445 rfl (lv_at hl 3 rfl) ?_
  refine k_iSW (As := [.ref (G.2.2 154), .int (xs (i + 1).toNatClampNeg), .int (xs (i + 2).toNatClampNeg), .ref (G.2.2 207)]) (rest := []) (v := _) (τ := τ) (G1 := G1) (mc := 2) (ms := 12) S F B1 (by rw [← eG]; exact c_L_gardenerOf l hl9 G σ _ (xs (i + 1).toNatClampNeg) (xs (i + 2).toNatClampNeg) (out := (out, τ)) g1 (fun n => if n = 1 then 1 else 2) hn) hA (vx_cwSW 4 hts (gdm (gdl gL_law_L_gardenerOf) (goodIn_sub (by decide +kernel) (by decide +kernel))) rfl rfl rfl (by decide +kernel) ⟨Nat.le_of_ble_eq_true rfl, Nat.le_of_ble_eq_true rfl⟩) rfl hl.1 rfl (Nat.le_of_ble_eq_true rfl) dL_law_1446 ⟨by show cells + 2 ≤ 603072; omega, by show slots + 12 ≤ 7202922; omega⟩ (fun H locs B1 => ?_)
  have hl : lv_has ls 10 [(0, .ref b), (1, .ref (G1.2.2 154)), (2, .ref (G1.2.2 198)), (3, .ref (G1.2.2 207)), (4, .ref (G1.2.2 208)), (5, .int i)] := by rw [hk 154 (by decide), hk 198 (by decide), hk 207 (by decide), hk 208 (by decide)]; exact hl
  have hbA : ¬ AA G1 s.heap.size b := by rw [hA]; exact hbA
  have hAA : ∀ q, AA G1 s.heap.size q → s.heap.size ≤ q := by rw [hA]; exact hAA
  refine lv_istore (lv' := (6, .int (hp (fun n => if n = 1 then 1 else 2) (out, τ))) :: [(0, .ref b), (1, .ref (G1.2.2 154)), (2, .ref (G1.2.2 198)), (3, .ref (G1.2.2 207)), (4, .ref (G1.2.2 208)), (5, .int i)]) hx hb dL_law_1449 hl (by decide) rfl (fun ls hl => ?_)
  refine lv_aload_n hx hb dL_law_1451 rfl (lv_at hl 3 rfl) ?_
  refine lv_aload_n hx hb dL_law_1452 rfl (lv_at hl 1 rfl) ?_
  refine lv_iload hx hb dL_law_1453 (lv_at hl 6 rfl) ?_
  refine lv_iconst (v := 1) hx hb dL_law_1455 (by decide) ?_
  refine lv_iadd hx hb dL_law_1456 ?_
  refine va_sld hx hb hX hbl hbA B1.2 h1 dL_law_1457 ?_
  refine lv_aload_n hx hb dL_law_1458 rfl (lv_at hl 1 rfl) ?_
  refine lv_iload hx hb dL_law_1459 (lv_at hl 6 rfl) ?_
  refine lv_iconst (v := 2) hx hb dL_law_1461 (by decide) ?_
  refine lv_iadd hx hb dL_law_1462 ?_
  refine va_sld hx hb hX hbl hbA B1.2 h2 dL_law_1463 ?_
  refine k_iV (As := [.int (xs (i + 1).toNatClampNeg), .int (xs (i + 2).toNatClampNeg)]) (rest := []) S F1 B1 (c_X10_gardenerOf l G1 τ _ (xs (i + 1).toNatClampNeg) (xs (i + 2).toNatClampNeg) (out := (r9, ρ)) g2) (kq (by decide) : kd 198 = 21 ∧ 198 < NN) rfl rfl (cwV 2 hts (gdl gL_law_X10_gardenerOf) rfl rfl rfl (by decide +kernel) ⟨Nat.le_of_ble_eq_true rfl, Nat.le_of_ble_eq_true rfl⟩) rfl hl.1 rfl (Nat.le_of_ble_eq_true rfl) dL_law_1464 ⟨by show cells + 2 ≤ 603072; omega, by show slots + 12 ≤ 7202922; omega⟩ (fun H locs B1 => ?_)
  refine lv_istore (lv' := (7, .int r9) :: (6, .int (hp (fun n => if n = 1 then 1 else 2) (out, τ))) :: [(0, .ref b), (1, .ref (G1.2.2 154)), (2, .ref (G1.2.2 198)), (3, .ref (G1.2.2 207)), (4, .ref (G1.2.2 208)), (5, .int i)]) hx hb dL_law_1467 hl (by decide) rfl (fun ls hl => ?_)
  refine lv_aload_n hx hb dL_law_1469 rfl (lv_at hl 4 rfl) ?_
  refine k_iV (As := []) (rest := []) S F1 B1 (c_X10_thrown l G1 ρ _ (out := ρ 198 12) rfl) (kq (by decide) : kd 198 = 21 ∧ 198 < NN) rfl rfl (cwV 0 hts (gdl gL_law_X10_thrown) rfl rfl rfl (by decide +kernel) ⟨Nat.le_of_ble_eq_true rfl, Nat.le_of_ble_eq_true rfl⟩) rfl hl.1 rfl (Nat.le_of_ble_eq_true rfl) dL_law_1470 ⟨by show cells + 2 ≤ 603072; omega, by show slots + 12 ≤ 7202922; omega⟩ (fun H locs B1 => ?_)
  refine lv_iload hx hb dL_law_1473 (lv_at hl 1 rfl) ?_
  refine lv_icmp_eq (tgt := 1480) hx hb dL_law_1475 (by decide) (fun _ => ?_) (fun c1 => absurd f2 c1)
  refine lv_iload hx hb dL_law_1480 (lv_at hl 1 rfl) ?_
  refine lv_if_ne (tgt := 1497) hx hb dL_law_1482 (by decide) (fun _ => ?_) (fun c1 => ?_)
  · refine lv_goto (tgt := 2408) hx hb dL_law_1497 (by decide) ?_
    refine W.widen (k := cells + 2) (n := slots + 12) (by omega) (by omega) ?_
    exact kk _ _ _ _ _ ⟨F1, B1, R1.mono (by omega), hAA, lv_sub hl [2, 3, 4, 5, 6, 7] rfl⟩
  · have eo := f3 (f2.trans c1)
    have ew := hw _ eo
    refine lv_aload_n hx hb dL_law_1485 rfl (lv_at hl 5 rfl) ?_
    refine lv_iconst (v := 0) hx hb dL_law_1486 (by decide) ?_
    refine r_lald S F1 B1 dL_law_1487 ?_
    refine lv_iload hx hb dL_law_1488 (lv_at hl 0 rfl) ?_
    refine lv_i2l hx hb dL_law_1490 rfl ?_
    refine W.lcmp hx hb dL_law_1491 ?_
    rw [ew]
    refine lv_if_eq (tgt := 1497) hx hb dL_law_1492 (by decide) (fun _ => ?_) (fun c2 => absurd (lg_same _) c2)
    refine lv_goto (tgt := 2408) hx hb dL_law_1497 (by decide) ?_
    refine W.widen (k := cells + 2) (n := slots + 12) (by omega) (by omega) ?_
    exact kk _ _ _ _ _ ⟨F1, B1, R1.mono (by omega), hAA, lv_sub hl [2, 3, 4, 5, 6, 7] rfl⟩

set_option maxHeartbeats 4000000 in
set_option maxRecDepth 100000 in
theorem law_26 {σ : Mm} {G : Gd} {H : Heap} {locs : List Loc} {ls : Array Slot} {i : Int32} {B cells slots : Nat} (hl9 : l.stackTraces = false) (C0 : L0 p s m meth c b L xs) (h1 : vp_in (i + 1) L) (h2 : vp_in (i + 2) L) (h3 : vp_in (i + 3) L) (hB : B + 300 ≤ 1000000) (hrm : cells + 2 ≤ 603072 ∧ slots + 12 ≤ 7202922) (hL : LB G σ s H locs ls b i B)
    (kk : ∀ (G1 : Gd) (ρ : Mm) (H1 : Heap) (locs1 : List Loc) (ls1 : Array Slot), LB G1 ρ s H1 locs1 ls1 b i (B + 300) → W p l e room_1 s m #[Value.ref b] below meth c H1 locs1 (cells + 2) (slots + 12) Q (F0 m 2408 ls1 [])) : W p l e room_1 s m #[Value.ref b] below meth c H locs cells slots Q (F0 m 1804 ls []) := by
  obtain ⟨S, hX, hbl⟩ := C0
  obtain ⟨hx, hb, -⟩ := id S
  have hts := S.2.2.2.2
  obtain ⟨F, B1, R0, hAA, hl⟩ := hL
  have hbA : ¬ AA G s.heap.size b := fun q => absurd (hAA b q) (Nat.not_le.mpr hbl)
  obtain ⟨ch, hc65, hch⟩ := ch_of (xs (i + 1).toNatClampNeg)
  refine lv_aload_n hx hb dL_law_1804 rfl (lv_at hl 1 rfl) ?_
  refine lv_aload_n hx hb dL_law_1805 rfl (lv_at hl 0 rfl) ?_
  refine lv_iload hx hb dL_law_1806 (lv_at hl 5 rfl) ?_
  refine lv_iconst (v := 1) hx hb dL_law_1808 (by decide) ?_
  refine lv_iadd hx hb dL_law_1809 ?_
  refine va_sld hx hb hX hbl hbA B1.2 h1 dL_law_1810 ?_
  refine lv_i2c (v := I ch) hx hb dL_law_1811 hch.symm ?_
  obtain ⟨out, τ, g1, r9, ρ, g2, R1, sm⟩ := one_of (fun e2 => q_append e2 R0 hc65)
  obtain ⟨hn, f2, f3⟩ := fin1 sm
  obtain ⟨G1, eG, F1, hA, hk, hw⟩ := aft_L F out τ
  refine lv_aload_n hx hb dL_law_1812 rfl (lv_at hl 3 rfl) ?_
  refine k_iSW (As := [.ref (G.2.2 154), .int (I ch), .ref (G.2.2 207)]) (rest := []) (v := _) (τ := τ) (G1 := G1) (mc := 1) (ms := 6) S F B1 (by rw [← eG]; exact c_L_append l hl9 G σ _ (I ch) (out := (out, τ)) g1 (fun _ => 1) hn) hA (vx_cwSW 3 hts (gdl gL_law_L_append) rfl rfl rfl (by decide +kernel) ⟨Nat.le_of_ble_eq_true rfl, Nat.le_of_ble_eq_true rfl⟩) rfl hl.1 rfl (Nat.le_of_ble_eq_true rfl) dL_law_1813 ⟨by show cells + 1 ≤ 603072; omega, by show slots + 6 ≤ 7202922; omega⟩ (fun H locs B1 => ?_)
  have hl : lv_has ls 10 [(0, .ref b), (1, .ref (G1.2.2 154)), (2, .ref (G1.2.2 198)), (3, .ref (G1.2.2 207)), (4, .ref (G1.2.2 208)), (5, .int i)] := by rw [hk 154 (by decide), hk 198 (by decide), hk 207 (by decide), hk 208 (by decide)]; exact hl
  have hbA : ¬ AA G1 s.heap.size b := by rw [hA]; exact hbA
  have hAA : ∀ q, AA G1 s.heap.size q → s.heap.size ≤ q := by rw [hA]; exact hAA
  refine lv_istore (lv' := (6, .int (hp (fun _ => 1) (out, τ))) :: [(0, .ref b), (1, .ref (G1.2.2 154)), (2, .ref (G1.2.2 198)), (3, .ref (G1.2.2 207)), (4, .ref (G1.2.2 208)), (5, .int i)]) hx hb dL_law_1816 hl (by decide) rfl (fun ls hl => ?_)
  refine lv_aload_n hx hb dL_law_1818 rfl (lv_at hl 3 rfl) ?_
  refine lv_aload_n hx hb dL_law_1819 rfl (lv_at hl 1 rfl) ?_
  refine lv_iload hx hb dL_law_1820 (lv_at hl 6 rfl) ?_
  refine lv_iconst (v := 1) hx hb dL_law_1822 (by decide) ?_
  refine lv_iadd hx hb dL_law_1823 ?_
  refine va_sld hx hb hX hbl hbA B1.2 h1 dL_law_1824 ?_
  refine lv_i2c (v := I ch) hx hb dL_law_1825 hch.symm ?_
  refine k_iV (As := [.int (I ch)]) (rest := []) S F1 B1 (c_X10_append l G1 τ _ (I ch) (out := (r9, ρ)) g2) (kq (by decide) : kd 198 = 21 ∧ 198 < NN) rfl rfl (cwV 1 hts (gdl gL_law_X10_append) rfl rfl rfl (by decide +kernel) ⟨Nat.le_of_ble_eq_true rfl, Nat.le_of_ble_eq_true rfl⟩) rfl hl.1 rfl (Nat.le_of_ble_eq_true rfl) dL_law_1826 ⟨by show cells + 1 ≤ 603072; omega, by show slots + 6 ≤ 7202922; omega⟩ (fun H locs B1 => ?_)
  refine lv_istore (lv' := (7, .int r9) :: (6, .int (hp (fun _ => 1) (out, τ))) :: [(0, .ref b), (1, .ref (G1.2.2 154)), (2, .ref (G1.2.2 198)), (3, .ref (G1.2.2 207)), (4, .ref (G1.2.2 208)), (5, .int i)]) hx hb dL_law_1829 hl (by decide) rfl (fun ls hl => ?_)
  refine lv_aload_n hx hb dL_law_1831 rfl (lv_at hl 4 rfl) ?_
  refine k_iV (As := []) (rest := []) S F1 B1 (c_X10_thrown l G1 ρ _ (out := ρ 198 12) rfl) (kq (by decide) : kd 198 = 21 ∧ 198 < NN) rfl rfl (cwV 0 hts (gdl gL_law_X10_thrown) rfl rfl rfl (by decide +kernel) ⟨Nat.le_of_ble_eq_true rfl, Nat.le_of_ble_eq_true rfl⟩) rfl hl.1 rfl (Nat.le_of_ble_eq_true rfl) dL_law_1832 ⟨by show cells + 1 ≤ 603072; omega, by show slots + 6 ≤ 7202922; omega⟩ (fun H locs B1 => ?_)
  refine lv_iload hx hb dL_law_1835 (lv_at hl 1 rfl) ?_
  refine lv_icmp_eq (tgt := 1842) hx hb dL_law_1837 (by decide) (fun _ => ?_) (fun c1 => absurd f2 c1)
  refine lv_iload hx hb dL_law_1842 (lv_at hl 1 rfl) ?_
  refine lv_if_ne (tgt := 1859) hx hb dL_law_1844 (by decide) (fun _ => ?_) (fun c1 => ?_)
  · refine lv_goto (tgt := 2408) hx hb dL_law_1859 (by decide) ?_
    refine W.widen (k := cells + 2) (n := slots + 12) (by omega) (by omega) ?_
    exact kk _ _ _ _ _ ⟨F1, B1, R1.mono (by omega), hAA, lv_sub hl [2, 3, 4, 5, 6, 7] rfl⟩
  · have eo := f3 (f2.trans c1)
    have ew := hw _ eo
    refine lv_aload_n hx hb dL_law_1847 rfl (lv_at hl 5 rfl) ?_
    refine lv_iconst (v := 0) hx hb dL_law_1848 (by decide) ?_
    refine r_lald S F1 B1 dL_law_1849 ?_
    refine lv_iload hx hb dL_law_1850 (lv_at hl 0 rfl) ?_
    refine lv_i2l hx hb dL_law_1852 rfl ?_
    refine W.lcmp hx hb dL_law_1853 ?_
    rw [ew]
    refine lv_if_eq (tgt := 1859) hx hb dL_law_1854 (by decide) (fun _ => ?_) (fun c2 => absurd (lg_same _) c2)
    refine lv_goto (tgt := 2408) hx hb dL_law_1859 (by decide) ?_
    refine W.widen (k := cells + 2) (n := slots + 12) (by omega) (by omega) ?_
    exact kk _ _ _ _ _ ⟨F1, B1, R1.mono (by omega), hAA, lv_sub hl [2, 3, 4, 5, 6, 7] rfl⟩

set_option maxHeartbeats 4000000 in
set_option maxRecDepth 100000 in
theorem law_35 {σ : Mm} {G : Gd} {H : Heap} {locs : List Loc} {ls : Array Slot} {i : Int32} {B cells slots : Nat} (hl9 : l.stackTraces = false) (C0 : L0 p s m meth c b L xs) (h1 : vp_in (i + 1) L) (h2 : vp_in (i + 2) L) (h3 : vp_in (i + 3) L) (hB : B + 300 ≤ 1000000) (hrm : cells + 2 ≤ 603072 ∧ slots + 12 ≤ 7202922) (hL : LB G σ s H locs ls b i B)
    (kk : ∀ (G1 : Gd) (ρ : Mm) (H1 : Heap) (locs1 : List Loc) (ls1 : Array Slot), LB G1 ρ s H1 locs1 ls1 b i (B + 300) → W p l e room_1 s m #[Value.ref b] below meth c H1 locs1 (cells + 2) (slots + 12) Q (F0 m 2408 ls1 [])) : W p l e room_1 s m #[Value.ref b] below meth c H locs cells slots Q (F0 m 2251 ls []) := by
  obtain ⟨S, hX, hbl⟩ := C0
  obtain ⟨hx, hb, -⟩ := id S
  have hts := S.2.2.2.2
  obtain ⟨F, B1, R0, hAA, hl⟩ := hL
  have hbA : ¬ AA G s.heap.size b := fun q => absurd (hAA b q) (Nat.not_le.mpr hbl)
  refine lv_aload_n hx hb dL_law_2251 rfl (lv_at hl 1 rfl) ?_
  refine lv_aload_n hx hb dL_law_2252 rfl (lv_at hl 0 rfl) ?_
  refine lv_iload hx hb dL_law_2253 (lv_at hl 5 rfl) ?_
  refine lv_iconst (v := 1) hx hb dL_law_2255 (by decide) ?_
  refine lv_iadd hx hb dL_law_2256 ?_
  refine va_sld hx hb hX hbl hbA B1.2 h1 dL_law_2257 ?_
  obtain ⟨out, τ, g1, r9, ρ, g2, R1, sm⟩ := one_of (fun e2 => q_account e2 R0 (xs (i + 1).toNatClampNeg))
  obtain ⟨hn, f2, f3⟩ := fin1 sm
  obtain ⟨G1, eG, F1, hA, hk, hw⟩ := aft_L F out τ
  refine lv_aload_n hx hb dL_law_2258 rfl (lv_at hl 3 rfl) ?_
  refine k_iSW (As := [.ref (G.2.2 154), .int (xs (i + 1).toNatClampNeg), .ref (G.2.2 207)]) (rest := []) (v := _) (τ := τ) (G1 := G1) (mc := 1) (ms := 6) S F B1 (by rw [← eG]; exact c_L_account l hl9 G σ _ (xs (i + 1).toNatClampNeg) (out := (out, τ)) g1 (fun _ => 1) hn) hA (vx_cwSW 3 hts (gdl gL_law_L_account) rfl rfl rfl (by decide +kernel) ⟨Nat.le_of_ble_eq_true rfl, Nat.le_of_ble_eq_true rfl⟩) rfl hl.1 rfl (Nat.le_of_ble_eq_true rfl) dL_law_2259 ⟨by show cells + 1 ≤ 603072; omega, by show slots + 6 ≤ 7202922; omega⟩ (fun H locs B1 => ?_)
  have hl : lv_has ls 10 [(0, .ref b), (1, .ref (G1.2.2 154)), (2, .ref (G1.2.2 198)), (3, .ref (G1.2.2 207)), (4, .ref (G1.2.2 208)), (5, .int i)] := by rw [hk 154 (by decide), hk 198 (by decide), hk 207 (by decide), hk 208 (by decide)]; exact hl
  have hbA : ¬ AA G1 s.heap.size b := by rw [hA]; exact hbA
  have hAA : ∀ q, AA G1 s.heap.size q → s.heap.size ≤ q := by rw [hA]; exact hAA
  refine lv_istore (lv' := (6, .int (hp (fun _ => 1) (out, τ))) :: [(0, .ref b), (1, .ref (G1.2.2 154)), (2, .ref (G1.2.2 198)), (3, .ref (G1.2.2 207)), (4, .ref (G1.2.2 208)), (5, .int i)]) hx hb dL_law_2262 hl (by decide) rfl (fun ls hl => ?_)
  refine lv_aload_n hx hb dL_law_2264 rfl (lv_at hl 3 rfl) ?_
  refine lv_aload_n hx hb dL_law_2265 rfl (lv_at hl 1 rfl) ?_
  refine lv_iload hx hb dL_law_2266 (lv_at hl 6 rfl) ?_
  refine lv_iconst (v := 1) hx hb dL_law_2268 (by decide) ?_
  refine lv_iadd hx hb dL_law_2269 ?_
  refine va_sld hx hb hX hbl hbA B1.2 h1 dL_law_2270 ?_
  refine k_iV (As := [.int (xs (i + 1).toNatClampNeg)]) (rest := []) S F1 B1 (c_X10_account l G1 τ _ (xs (i + 1).toNatClampNeg) (out := (r9, ρ)) g2) (kq (by decide) : kd 198 = 21 ∧ 198 < NN) rfl rfl (cwV 1 hts (gdl gL_law_X10_account) rfl rfl rfl (by decide +kernel) ⟨Nat.le_of_ble_eq_true rfl, Nat.le_of_ble_eq_true rfl⟩) rfl hl.1 rfl (Nat.le_of_ble_eq_true rfl) dL_law_2271 ⟨by show cells + 1 ≤ 603072; omega, by show slots + 6 ≤ 7202922; omega⟩ (fun H locs B1 => ?_)
  refine lv_istore (lv' := (7, .int r9) :: (6, .int (hp (fun _ => 1) (out, τ))) :: [(0, .ref b), (1, .ref (G1.2.2 154)), (2, .ref (G1.2.2 198)), (3, .ref (G1.2.2 207)), (4, .ref (G1.2.2 208)), (5, .int i)]) hx hb dL_law_2274 hl (by decide) rfl (fun ls hl => ?_)
  refine lv_aload_n hx hb dL_law_2276 rfl (lv_at hl 4 rfl) ?_
  refine k_iV (As := []) (rest := []) S F1 B1 (c_X10_thrown l G1 ρ _ (out := ρ 198 12) rfl) (kq (by decide) : kd 198 = 21 ∧ 198 < NN) rfl rfl (cwV 0 hts (gdl gL_law_X10_thrown) rfl rfl rfl (by decide +kernel) ⟨Nat.le_of_ble_eq_true rfl, Nat.le_of_ble_eq_true rfl⟩) rfl hl.1 rfl (Nat.le_of_ble_eq_true rfl) dL_law_2277 ⟨by show cells + 1 ≤ 603072; omega, by show slots + 6 ≤ 7202922; omega⟩ (fun H locs B1 => ?_)
  refine lv_iload hx hb dL_law_2280 (lv_at hl 1 rfl) ?_
  refine lv_icmp_eq (tgt := 2287) hx hb dL_law_2282 (by decide) (fun _ => ?_) (fun c1 => absurd f2 c1)
  refine lv_iload hx hb dL_law_2287 (lv_at hl 1 rfl) ?_
  refine lv_if_ne (tgt := 2304) hx hb dL_law_2289 (by decide) (fun _ => ?_) (fun c1 => ?_)
  · refine lv_goto (tgt := 2408) hx hb dL_law_2304 (by decide) ?_
    refine W.widen (k := cells + 2) (n := slots + 12) (by omega) (by omega) ?_
    exact kk _ _ _ _ _ ⟨F1, B1, R1.mono (by omega), hAA, lv_sub hl [2, 3, 4, 5, 6, 7] rfl⟩
  · have eo := f3 (f2.trans c1)
    have ew := hw _ eo
    refine lv_aload_n hx hb dL_law_2292 rfl (lv_at hl 5 rfl) ?_
    refine lv_iconst (v := 0) hx hb dL_law_2293 (by decide) ?_
    refine r_lald S F1 B1 dL_law_2294 ?_
    refine lv_iload hx hb dL_law_2295 (lv_at hl 0 rfl) ?_
    refine lv_i2l hx hb dL_law_2297 rfl ?_
    refine W.lcmp hx hb dL_law_2298 ?_
    rw [ew]
    refine lv_if_eq (tgt := 2304) hx hb dL_law_2299 (by decide) (fun _ => ?_) (fun c2 => absurd (lg_same _) c2)
    refine lv_goto (tgt := 2408) hx hb dL_law_2304 (by decide) ?_
    refine W.widen (k := cells + 2) (n := slots + 12) (by omega) (by omega) ?_
    exact kk _ _ _ _ _ ⟨F1, B1, R1.mono (by omega), hAA, lv_sub hl [2, 3, 4, 5, 6, 7] rfl⟩

end LC
