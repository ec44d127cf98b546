theorem finD {out : UInt64 ⊕ Nat} {r : UInt64} {t : Int32} {τ : Mm} (h : sameD out r t) : (∀ n, (out, τ).1 = .inr n → n = 5 ∧ (fun _ : Nat => (1 : Int32)) n = 1) ∧ t = hp (fun _ => 1) (out, τ) ∧ (t = 0 → out = .inl r ∧ FP.Core.dIsNaN r = false) := by
  cases out with
  | inl a =>
    obtain ⟨h1, h2, h3⟩ := h
    exact ⟨fun n q => (nomatch q), h1, fun _ => ⟨by rw [h2], by rw [h2]; exact h3⟩⟩
  | inr k =>
    obtain ⟨h1, h2⟩ := h
    exact ⟨fun n q => by cases q; exact ⟨h1, rfl⟩, h2, fun q => absurd (h2.symm.trans q) (by decide)⟩
section LC
variable {p : Program} {l : Launch} {e : Env} {s : State} {m : MethodId} {below : List Frame} {meth : Method} {c : Code} {b L : Nat} {xs : Nat → Int32} {Q : State → Prop}
set_option maxHeartbeats 4000000 in
set_option maxRecDepth 100000 in
theorem law_1 {σ : Mm} {G : Gd} {H : Heap} {locs : List Loc} {ls : Array Slot} {i : Int32} {B cells slots : Nat} (hl9 : l.stackTraces = false) (C0 : L0 p s m meth c b L xs) (h1 : vp_in (i + 1) L) (h2 : vp_in (i + 2) L) (h3 : vp_in (i + 3) L) (hB : B + 300 ≤ 1000000) (hrm : cells + 2 ≤ 603072 ∧ slots + 12 ≤ 7202922) (hL : LB G σ s H locs ls b i B)
    (kk : ∀ (G1 : Gd) (ρ : Mm) (H1 : Heap) (locs1 : List Loc) (ls1 : Array Slot), LB G1 ρ s H1 locs1 ls1 b i (B + 300) → W p l e room_1 s m #[Value.ref b] below meth c H1 locs1 (cells + 2) (slots + 12) Q (F0 m 2408 ls1 [])) : W p l e room_1 s m #[Value.ref b] below meth c H locs cells slots Q (F0 m 296 ls []) := by
  obtain ⟨S, hX, hbl⟩ := C0
  obtain ⟨hx, hb, -⟩ := id S
  have hts := S.2.2.2.2
  obtain ⟨F, B1, R0, hAA, hl⟩ := hL
  have hbA : ¬ AA G s.heap.size b := fun q => absurd (hAA b q) (Nat.not_le.mpr hbl)
  obtain ⟨r9, τ, g1, ρ, g2, R1⟩ := q_summerY R0
  refine lv_aload_n hx hb dL_law_296 rfl (lv_at hl 1 rfl) ?_
  refine xk_iV (v := r9) (τ := τ) (mc := 1) (ms := 6) (As := []) (rest := []) S F B1 (c_X9_summer l hl9 G σ _ g1) (kq (by decide) : kd 154 = 7 ∧ 154 < NN) rfl rfl (cwV 0 hts (gdl gL_law_X9_summer) rfl rfl rfl (by decide +kernel) ⟨Nat.le_of_ble_eq_true rfl, Nat.le_of_ble_eq_true rfl⟩) rfl hl.1 rfl (Nat.le_of_ble_eq_true rfl) dL_law_297 ⟨by show cells + 1 ≤ 603072; omega, by show slots + 6 ≤ 7202922; omega⟩ (fun H locs B1 => ?_)
  refine lv_aload_n hx hb dL_law_300 rfl (lv_at hl 2 rfl) ?_
  refine k_iV (As := []) (rest := [.int r9]) S F B1 (c_X10_summer l G τ _ (out := (r9, ρ)) g2) (kq (by decide) : kd 198 = 21 ∧ 198 < NN) rfl rfl (cwV 0 hts (gdl gL_law_X10_summer) rfl rfl rfl (by decide +kernel) ⟨Nat.le_of_ble_eq_true rfl, Nat.le_of_ble_eq_true rfl⟩) rfl hl.1 rfl (Nat.le_of_ble_eq_true rfl) dL_law_301 ⟨by show cells + 1 ≤ 603072; omega, by show slots + 6 ≤ 7202922; omega⟩ (fun H locs B1 => ?_)
  refine lv_icmp_eq (tgt := 2408) hx hb dL_law_304 (by decide) (fun _ => ?_) (fun c1 => absurd rfl c1)
  refine W.widen (k := cells + 2) (n := slots + 12) (by omega) (by omega) ?_
  exact kk _ _ _ _ _ ⟨F, B1, R1.mono (by omega), hAA, hl⟩

set_option maxHeartbeats 4000000 in
set_option maxRecDepth 100000 in
theorem law_19 {σ : Mm} {G : Gd} {H : Heap} {locs : List Loc} {ls : Array Slot} {i : Int32} {B cells slots : Nat} (hl9 : l.stackTraces = false) (C0 : L0 p s m meth c b L xs) (h1 : vp_in (i + 1) L) (h2 : vp_in (i + 2) L) (h3 : vp_in (i + 3) L) (hB : B + 300 ≤ 1000000) (hrm : cells + 2 ≤ 603072 ∧ slots + 12 ≤ 7202922) (hL : LB G σ s H locs ls b i B)
    (kk : ∀ (G1 : Gd) (ρ : Mm) (H1 : Heap) (locs1 : List Loc) (ls1 : Array Slot), LB G1 ρ s H1 locs1 ls1 b i (B + 300) → W p l e room_1 s m #[Value.ref b] below meth c H1 locs1 (cells + 2) (slots + 12) Q (F0 m 2408 ls1 [])) : W p l e room_1 s m #[Value.ref b] below meth c H locs cells slots Q (F0 m 1419 ls []) := by
  obtain ⟨S, hX, hbl⟩ := C0
  obtain ⟨hx, hb, -⟩ := id S
  have hts := S.2.2.2.2
  obtain ⟨F, B1, R0, hAA, hl⟩ := hL
  have hbA : ¬ AA G s.heap.size b := fun q => absurd (hAA b q) (Nat.not_le.mpr hbl)
  obtain ⟨r9, g1, ρ, g2, R1⟩ := q_summersLeft R0
  refine lv_aload_n hx hb dL_law_1419 rfl (lv_at hl 1 rfl) ?_
  refine k_iV (As := []) (rest := []) S F B1 (c_X9_summersLeft l G σ _ (out := r9) g1) (kq (by decide) : kd 154 = 7 ∧ 154 < NN) rfl rfl (cwV 0 hts (gdl gL_law_X9_summersLeft) rfl rfl rfl (by decide +kernel) ⟨Nat.le_of_ble_eq_true rfl, Nat.le_of_ble_eq_true rfl⟩) rfl hl.1 rfl (Nat.le_of_ble_eq_true rfl) dL_law_1420 ⟨by show cells + 0 ≤ 603072; omega, by show slots + 0 ≤ 7202922; omega⟩ (fun H locs B1 => ?_)
  refine lv_aload_n hx hb dL_law_1423 rfl (lv_at hl 2 rfl) ?_
  refine k_iV (As := []) (rest := [.int r9]) S F B1 (c_X10_summersLeft l G σ _ (out := (r9, ρ)) g2) (kq (by decide) : kd 198 = 21 ∧ 198 < NN) rfl rfl (cwV 0 hts (gdl gL_law_X10_summersLeft) rfl rfl rfl (by decide +kernel) ⟨Nat.le_of_ble_eq_true rfl, Nat.le_of_ble_eq_true rfl⟩) rfl hl.1 rfl (Nat.le_of_ble_eq_true rfl) dL_law_1424 ⟨by show cells + 0 ≤ 603072; omega, by show slots + 0 ≤ 7202922; omega⟩ (fun H locs B1 => ?_)
  refine lv_icmp_eq (tgt := 2408) hx hb dL_law_1427 (by decide) (fun _ => ?_) (fun c1 => absurd rfl c1)
  refine W.widen (k := cells + 2) (n := slots + 12) (by omega) (by omega) ?_
  exact kk _ _ _ _ _ ⟨F, B1, R1.mono (by omega), hAA, hl⟩

set_option maxHeartbeats 4000000 in
set_option maxRecDepth 100000 in
theorem law_28 {σ : Mm} {G : Gd} {H : Heap} {locs : List Loc} {ls : Array Slot} {i : Int32} {B cells slots : Nat} (hl9 : l.stackTraces = false) (C0 : L0 p s m meth c b L xs) (h1 : vp_in (i + 1) L) (h2 : vp_in (i + 2) L) (h3 : vp_in (i + 3) L) (hB : B + 300 ≤ 1000000) (hrm : cells + 2 ≤ 603072 ∧ slots + 12 ≤ 7202922) (hL : LB G σ s H locs ls b i B)
    (kk : ∀ (G1 : Gd) (ρ : Mm) (H1 : Heap) (locs1 : List Loc) (ls1 : Array Slot), LB G1 ρ s H1 locs1 ls1 b i (B + 300) → W p l e room_1 s m #[Value.ref b] below meth c H1 locs1 (cells + 2) (slots + 12) Q (F0 m 2408 ls1 [])) : W p l e room_1 s m #[Value.ref b] below meth c H locs cells slots Q (F0 m 1906 ls []) := by
  obtain ⟨S, hX, hbl⟩ := C0
  obtain ⟨hx, hb, -⟩ := id S
  have hts := S.2.2.2.2
  obtain ⟨F, B1, R0, hAA, hl⟩ := hL
  have hbA : ¬ AA G s.heap.size b := fun q => absurd (hAA b q) (Nat.not_le.mpr hbl)
  obtain ⟨r9, g1, ρ, g2, R1⟩ := q_fault R0
  refine lv_aload_n hx hb dL_law_1906 rfl (lv_at hl 1 rfl) ?_
  refine k_iV (As := []) (rest := []) S F B1 (c_X9_faultPosition l G σ _ (out := r9) g1) (kq (by decide) : kd 154 = 7 ∧ 154 < NN) rfl rfl (cwV 0 hts (gdl gL_law_X9_faultPosition) rfl rfl rfl (by decide +kernel) ⟨Nat.le_of_ble_eq_true rfl, Nat.le_of_ble_eq_true rfl⟩) rfl hl.1 rfl (Nat.le_of_ble_eq_true rfl) dL_law_1907 ⟨by show cells + 0 ≤ 603072; omega, by show slots + 0 ≤ 7202922; omega⟩ (fun H locs B1 => ?_)
  refine lv_aload_n hx hb dL_law_1910 rfl (lv_at hl 2 rfl) ?_
  refine k_iV (As := []) (rest := [.int r9]) S F B1 (c_X10_faultPosition l G σ _ (out := (r9, ρ)) g2) (kq (by decide) : kd 198 = 21 ∧ 198 < NN) rfl rfl (cwV 0 hts (gdl gL_law_X10_faultPosition) rfl rfl rfl (by decide +kernel) ⟨Nat.le_of_ble_eq_true rfl, Nat.le_of_ble_eq_true rfl⟩) rfl hl.1 rfl (Nat.le_of_ble_eq_true rfl) dL_law_1911 ⟨by show cells + 0 ≤ 603072; omega, by show slots + 0 ≤ 7202922; omega⟩ (fun H locs B1 => ?_)
  refine lv_icmp_eq (tgt := 2408) hx hb dL_law_1914 (by decide) (fun _ => ?_) (fun c1 => absurd rfl c1)
  refine W.widen (k := cells + 2) (n := slots + 12) (by omega) (by omega) ?_
  exact kk _ _ _ _ _ ⟨F, B1, R1.mono (by omega), hAA, hl⟩

set_option maxHeartbeats 4000000 in
set_option maxRecDepth 100000 in
theorem law_37 {σ : Mm} {G : Gd} {H : Heap} {locs : List Loc} {ls : Array Slot} {i : Int32} {B cells slots : Nat} (hl9 : l.stackTraces = false) (C0 : L0 p s m meth c b L xs) (h1 : vp_in (i + 1) L) (h2 : vp_in (i + 2) L) (h3 : vp_in (i + 3) L) (hB : B + 300 ≤ 1000000) (hrm : cells + 2 ≤ 603072 ∧ slots + 12 ≤ 7202922) (hL : LB G σ s H locs ls b i B)
    (kk : ∀ (G1 : Gd) (ρ : Mm) (H1 : Heap) (locs1 : List Loc) (ls1 : Array Slot), LB G1 ρ s H1 locs1 ls1 b i (B + 300) → W p l e room_1 s m #[Value.ref b] below meth c H1 locs1 (cells + 2) (slots + 12) Q (F0 m 2408 ls1 [])) : W p l e room_1 s m #[Value.ref b] below meth c H locs cells slots Q (F0 m 2351 ls []) := by
  obtain ⟨S, hX, hbl⟩ := C0
  obtain ⟨hx, hb, -⟩ := id S
  have hts := S.2.2.2.2
  obtain ⟨F, B1, R0, hAA, hl⟩ := hL
  have hbA : ¬ AA G s.heap.size b := fun q => absurd (hAA b q) (Nat.not_le.mpr hbl)
  obtain ⟨r9, τ, g1, ρ, g2, R1⟩ := q_save R0
  refine lv_aload_n hx hb dL_law_2351 rfl (lv_at hl 1 rfl) ?_
  refine k_iV (As := []) (rest := []) S F B1 (c_X9_save l G σ _ (out := (r9, τ)) g1) (kq (by decide) : kd 154 = 7 ∧ 154 < NN) rfl rfl (cwV 0 hts (gdl gL_law_X9_save) rfl rfl rfl (by decide +kernel) ⟨Nat.le_of_ble_eq_true rfl, Nat.le_of_ble_eq_true rfl⟩) rfl hl.1 rfl (Nat.le_of_ble_eq_true rfl) dL_law_2352 ⟨by show cells + 0 ≤ 603072; omega, by show slots + 0 ≤ 7202922; omega⟩ (fun H locs B1 => ?_)
  refine lv_aload_n hx hb dL_law_2355 rfl (lv_at hl 2 rfl) ?_
  refine k_iV (As := []) (rest := [.int r9]) S F B1 (c_X10_save l G τ _ (out := (r9, ρ)) g2) (kq (by decide) : kd 198 = 21 ∧ 198 < NN) rfl rfl (cwV 0 hts (gdl gL_law_X10_save) rfl rfl rfl (by decide +kernel) ⟨Nat.le_of_ble_eq_true rfl, Nat.le_of_ble_eq_true rfl⟩) rfl hl.1 rfl (Nat.le_of_ble_eq_true rfl) dL_law_2356 ⟨by show cells + 0 ≤ 603072; omega, by show slots + 0 ≤ 7202922; omega⟩ (fun H locs B1 => ?_)
  refine lv_icmp_eq (tgt := 2408) hx hb dL_law_2359 (by decide) (fun _ => ?_) (fun c1 => absurd rfl c1)
  refine W.widen (k := cells + 2) (n := slots + 12) (by omega) (by omega) ?_
  exact kk _ _ _ _ _ ⟨F, B1, R1.mono (by omega), hAA, hl⟩

set_option maxHeartbeats 4000000 in
set_option maxRecDepth 100000 in
theorem law_33 {σ : Mm} {G : Gd} {H : Heap} {locs : List Loc} {ls : Array Slot} {i : Int32} {B cells slots : Nat} (hl9 : l.stackTraces = false) (C0 : L0 p s m meth c b L xs) (h1 : vp_in (i + 1) L) (h2 : vp_in (i + 2) L) (h3 : vp_in (i + 3) L) (hB : B + 300 ≤ 1000000) (hrm : cells + 2 ≤ 603072 ∧ slots + 12 ≤ 7202922) (hL : LB G σ s H locs ls b i B)
    (kk : ∀ (G1 : Gd) (ρ : Mm) (H1 : Heap) (locs1 : List Loc) (ls1 : Array Slot), LB G1 ρ s H1 locs1 ls1 b i (B + 300) → W p l e room_1 s m #[Value.ref b] below meth c H1 locs1 (cells + 2) (slots + 12) Q (F0 m 2408 ls1 [])) : W p l e room_1 s m #[Value.ref b] below meth c H locs cells slots Q (F0 m 2143 ls []) := by
  obtain ⟨S, hX, hbl⟩ := C0
  obtain ⟨hx, hb, -⟩ := id S
  have hts := S.2.2.2.2
  obtain ⟨F, B1, R0, hAA, hl⟩ := hL
  have hbA : ¬ AA G s.heap.size b := fun q => absurd (hAA b q) (Nat.not_le.mpr hbl)
  obtain ⟨out, τ, g1, r9, ρ, g2, R1, sm⟩ := q_meanLost R0
  obtain ⟨hn, f2, f3⟩ := finD sm
  obtain ⟨G1, eG, F1, hA, hk, hw⟩ := aft_D F out τ
  refine lv_aload_n hx hb dL_law_2143 rfl (lv_at hl 1 rfl) ?_
  refine lv_aload hx hb dL_law_2144 (lv_at hl 4 rfl) ?_
  refine k_iSW (As := [.ref (G.2.2 154), .ref (G.2.2 208)]) (rest := []) (v := _) (τ := τ) (G1 := G1) (mc := 1) (ms := 6) S F B1 (by rw [← eG]; exact c_L_meanLost l hl9 G σ _ (out := (out, τ)) g1 (fun _ => 1) hn) hA (vx_cwSW 2 hts (gdl gL_law_L_meanLost) rfl rfl rfl (by decide +kernel) ⟨Nat.le_of_ble_eq_true rfl, Nat.le_of_ble_eq_true rfl⟩) rfl hl.1 rfl (Nat.le_of_ble_eq_true rfl) dL_law_2146 ⟨by show cells + 1 ≤ 603072; omega, by show slots + 6 ≤ 7202922; omega⟩ (fun H locs B1 => ?_)
  have hl : lv_has ls 10 [(0, .ref b), (1, .ref (G1.2.2 154)), (2, .ref (G1.2.2 198)), (3, .ref (G1.2.2 207)), (4, .ref (G1.2.2 208)), (5, .int i)] := by rw [hk 154 (by decide), hk 198 (by decide), hk 207 (by decide), hk 208 (by decide)]; exact hl
  have hAA : ∀ q, AA G1 s.heap.size q → s.heap.size ≤ q := by rw [hA]; exact hAA
  refine lv_istore (lv' := (6, .int (hp (fun _ => 1) (out, τ))) :: [(0, .ref b), (1, .ref (G1.2.2 154)), (2, .ref (G1.2.2 198)), (3, .ref (G1.2.2 207)), (4, .ref (G1.2.2 208)), (5, .int i)]) hx hb dL_law_2149 hl (by decide) rfl (fun ls hl => ?_)
  refine lv_aload_n hx hb dL_law_2151 rfl (lv_at hl 3 rfl) ?_
  refine k_dV (As := []) (rest := []) S F1 B1 (c_X10_meanLost l G1 τ _ (out := (r9, ρ)) g2) (kq (by decide) : kd 198 = 21 ∧ 198 < NN) rfl rfl (cwV 0 hts (gdl gL_law_X10_meanLost) rfl rfl rfl (by decide +kernel) ⟨Nat.le_of_ble_eq_true rfl, Nat.le_of_ble_eq_true rfl⟩) rfl hl.1 rfl (Nat.le_of_ble_eq_true rfl) dL_law_2152 ⟨by show cells + 1 ≤ 603072; omega, by show slots + 6 ≤ 7202922; omega⟩ (fun H locs B1 => ?_)
  refine lv_dstore (lv' := (7, .double r9) :: (6, .int (hp (fun _ => 1) (out, τ))) :: [(0, .ref b), (1, .ref (G1.2.2 154)), (2, .ref (G1.2.2 198)), (3, .ref (G1.2.2 207)), (4, .ref (G1.2.2 208)), (5, .int i)]) hx hb dL_law_2155 hl (by decide) rfl (fun ls hl => ?_)
  refine lv_aload_n hx hb dL_law_2157 rfl (lv_at hl 4 rfl) ?_
  refine k_iV (As := []) (rest := []) S F1 B1 (c_X10_thrown l G1 ρ _ (out := ρ 198 12) rfl) (kq (by decide) : kd 198 = 21 ∧ 198 < NN) rfl rfl (cwV 0 hts (gdl gL_law_X10_thrown) rfl rfl rfl (by decide +kernel) ⟨Nat.le_of_ble_eq_true rfl, Nat.le_of_ble_eq_true rfl⟩) rfl hl.1 rfl (Nat.le_of_ble_eq_true rfl) dL_law_2158 ⟨by show cells + 1 ≤ 603072; omega, by show slots + 6 ≤ 7202922; omega⟩ (fun H locs B1 => ?_)
  refine lv_iload hx hb dL_law_2161 (lv_at hl 1 rfl) ?_
  refine lv_icmp_eq (tgt := 2168) hx hb dL_law_2163 (by decide) (fun _ => ?_) (fun c1 => absurd f2 c1)
  refine lv_iload hx hb dL_law_2168 (lv_at hl 1 rfl) ?_
  refine lv_if_ne (tgt := 2205) hx hb dL_law_2170 (by decide) (fun _ => ?_) (fun c1 => ?_)
  · refine lv_goto (tgt := 2408) hx hb dL_law_2205 (by decide) ?_
    refine W.widen (k := cells + 2) (n := slots + 12) (by omega) (by omega) ?_
    exact kk _ _ _ _ _ ⟨F1, B1, R1.mono (by omega), hAA, lv_sub hl [2, 3, 4, 5, 6, 7] rfl⟩
  · obtain ⟨eo, nn⟩ := f3 (f2.trans c1)
    have ew := hw _ eo
    refine lv_aload hx hb dL_law_2173 (lv_at hl 6 rfl) ?_
    refine lv_iconst (v := 0) hx hb dL_law_2175 (by decide) ?_
    refine r_dald S F1 B1 dL_law_2176 ?_
    refine lv_dload hx hb dL_law_2177 (lv_at hl 0 rfl) ?_
    refine lv_dcmp hx hb dL_law_2179 ?_
    rw [ew, cmp_same nn]
    refine lv_if_eq (tgt := 2205) hx hb dL_law_2180 (by decide) (fun _ => ?_) (fun c2 => absurd rfl c2)
    refine lv_goto (tgt := 2408) hx hb dL_law_2205 (by decide) ?_
    refine W.widen (k := cells + 2) (n := slots + 12) (by omega) (by omega) ?_
    exact kk _ _ _ _ _ ⟨F1, B1, R1.mono (by omega), hAA, lv_sub hl [2, 3, 4, 5, 6, 7] rfl⟩

set_option maxHeartbeats 4000000 in
set_option maxRecDepth 100000 in
theorem law_34 {σ : Mm} {G : Gd} {H : Heap} {locs : List Loc} {ls : Array Slot} {i : Int32} {B cells slots : Nat} (hl9 : l.stackTraces = false) (C0 : L0 p s m meth c b L xs) (h1 : vp_in (i + 1) L) (h2 : vp_in (i + 2) L) (h3 : vp_in (i + 3) L) (hB : B + 300 ≤ 1000000) (hrm : cells + 2 ≤ 603072 ∧ slots + 12 ≤ 7202922) (hL : LB G σ s H locs ls b i B)
    (kk : ∀ (G1 : Gd) (ρ : Mm) (H1 : Heap) (locs1 : List Loc) (ls1 : Array Slot), LB G1 ρ s H1 locs1 ls1 b i (B + 300) → W p l e room_1 s m #[Value.ref b] below meth c H1 locs1 (cells + 2) (slots + 12) Q (F0 m 2408 ls1 [])) : W p l e room_1 s m #[Value.ref b] below meth c H locs cells slots Q (F0 m 2208 ls []) := by
  obtain ⟨S, hX, hbl⟩ := C0
  obtain ⟨hx, hb, -⟩ := id S
  have hts := S.2.2.2.2
  obtain ⟨F, B1, R0, hAA, hl⟩ := hL
  have hbA : ¬ AA G s.heap.size b := fun q => absurd (hAA b q) (Nat.not_le.mpr hbl)
  obtain ⟨v, g1, nn, ρ, g2, R1⟩ := q_gapShare R0
  refine lv_aload_n hx hb dL_law_2208 rfl (lv_at hl 1 rfl) ?_
  refine k_fV (As := []) (rest := []) S F B1 (c_X9_gapShare l G σ _ (out := v) g1) (kq (by decide) : kd 154 = 7 ∧ 154 < NN) rfl rfl (cwV 0 hts (gdl gL_law_X9_gapShare) rfl rfl rfl (by decide +kernel) ⟨Nat.le_of_ble_eq_true rfl, Nat.le_of_ble_eq_true rfl⟩) rfl hl.1 rfl (Nat.le_of_ble_eq_true rfl) dL_law_2209 ⟨by show cells ≤ 603072; omega, by show slots ≤ 7202922; omega⟩ (fun H locs B1 => ?_)
  refine lv_f2d hx hb dL_law_2212 (n64_of (f2d_nn nn)) ?_
  refine lv_dstore (lv' := (6, .double (FP.f2d v)) :: [(0, .ref b), (1, .ref (G.2.2 154)), (2, .ref (G.2.2 198)), (3, .ref (G.2.2 207)), (4, .ref (G.2.2 208)), (5, .int i)]) hx hb dL_law_2213 hl (by decide) rfl (fun ls hl => ?_)
  refine lv_aload_n hx hb dL_law_2215 rfl (lv_at hl 3 rfl) ?_
  refine k_fV (As := []) (rest := []) S F B1 (c_X10_gapShare l G σ _ (out := (v, ρ)) g2) (kq (by decide) : kd 198 = 21 ∧ 198 < NN) rfl rfl (cwV 0 hts (gdl gL_law_X10_gapShare) rfl rfl rfl (by decide +kernel) ⟨Nat.le_of_ble_eq_true rfl, Nat.le_of_ble_eq_true rfl⟩) rfl hl.1 rfl (Nat.le_of_ble_eq_true rfl) dL_law_2216 ⟨by show cells ≤ 603072; omega, by show slots ≤ 7202922; omega⟩ (fun H locs B1 => ?_)
  refine lv_f2d hx hb dL_law_2219 (n64_of (f2d_nn nn)) ?_
  refine lv_dstore (lv' := (8, .double (FP.f2d v)) :: (6, .double (FP.f2d v)) :: [(0, .ref b), (1, .ref (G.2.2 154)), (2, .ref (G.2.2 198)), (3, .ref (G.2.2 207)), (4, .ref (G.2.2 208)), (5, .int i)]) hx hb dL_law_2220 hl (by decide) rfl (fun ls hl => ?_)
  refine lv_dload hx hb dL_law_2222 (lv_at hl 1 rfl) ?_
  refine lv_dload hx hb dL_law_2224 (lv_at hl 0 rfl) ?_
  refine lv_dcmp hx hb dL_law_2226 ?_
  rw [cmp_same (f2d_nn nn)]
  refine lv_if_eq (tgt := 2248) hx hb dL_law_2227 (by decide) (fun _ => ?_) (fun c2 => absurd rfl c2)
  refine lv_goto (tgt := 2408) hx hb dL_law_2248 (by decide) ?_
  refine W.widen (k := cells + 2) (n := slots + 12) (by omega) (by omega) ?_
  exact kk _ _ _ _ _ ⟨F, B1, R1.mono (by omega), hAA, lv_sub hl [2, 3, 4, 5, 6, 7] rfl⟩

end LC
