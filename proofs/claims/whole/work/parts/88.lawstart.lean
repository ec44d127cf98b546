/-! THE LAW, from its entry -/
set_option maxHeartbeats 8000000 in
set_option maxRecDepth 100000 in
theorem whole_start {p : Program} {e : Env} {s : State} {m : MethodId} {below : List Frame} {meth : Method} {c : Code} (l : Launch) (hflags : l.flags = flags0) {b L : Nat} {xs : Nat → Int32} (hL : L ≤ 2048) (C0 : lw_At p s m meth c b L xs) : W p l e room_1 s m #[Value.ref b] below meth c s.heap [] 0 0 (lw_Z below #[Value.ref b] s) (entryFrame m ([Value.ref b] : List Value).toArray 10) := by
  obtain ⟨hx, hb, hr, hml, hown, hts0, hX, hbl, hlocks, hgv⟩ := C0
  have hts : ∀ w ∈ lwT, w.before #[Value.ref b] s = true := lwT_ok hts0
  have hl9 : l.stackTraces = false := by
    unfold Launch.stackTraces
    rw [hflags]
    decide +kernel
  have S : CallFix p m c cL_law 10 s #[Value.ref b] lwT RL := ⟨hx, hb, hml, hown, hts⟩
  obtain ⟨z, hz⟩ := start_EV hts0 (flat_of_before _ hgv)
  obtain ⟨D, C, hK⟩ := start_K hts0
  have hA0 : ∀ q : Nat, s.heap.size ≤ q → (fun q : Nat => s.heap.size ≤ q) q := fun _ h => h
  have EVz := hz (D, C, z) (fun _ _ _ => rfl)
  have hao : ∀ K, Cond.arrayOver (.object K) ∈ lw_tbl → va_AO K s := fun K h => va_AO.of (hts0 _ h)
  have F : Fk D C (fun q : Nat => s.heap.size ≤ q) s := ⟨hK, ⟨EVz.1, EVz.2.1, ⟨hao RX1 (by decide +kernel), hao RX6 (by decide +kernel), hao RX7 (by decide +kernel), va_AOA.of (hts0 (.arrayOver (.array .int)) (by decide +kernel))⟩, EVz.2.2.2.2.2.2.2.2.1.1⟩, hA0⟩
  have B : Bk D (fun q : Nat => s.heap.size ≤ q) [] s s.heap [] := ⟨fun k q h => (nomatch h), ⟨fun i j p q h => (nomatch h), fun k q h => (nomatch h)⟩, va_S.rf⟩
  have hl := lv_entry [.ref b] (n := 10) (Nat.le_of_ble_eq_true rfl)
  rw [lg_entry_eq]
  generalize (lg_sl [.ref b] ++ List.replicate (10 - (lg_sl [.ref b]).length) Slot.unset).toArray = ls at hl ⊢
  have hl : lv_has ls 10 [(0, .ref b)] := hl
  generalize hA : (fun q : Nat => s.heap.size ≤ q) = A at F B
  refine n_obj S F B (K := RX9) (T := TX9) (N := 10) (ci := 13) (fs := [.null, .null, .null, .int 0, .null, .null, .null, .null, .null, .null]) inX9 tyX9 tyX9_ok (by decide +kernel) (by decide +kernel) (by decide +kernel) rfl (fun j hj => by rcases (show j = 0 ∨ j = 1 ∨ j = 2 ∨ j = 3 ∨ j = 4 ∨ j = 5 ∨ j = 6 ∨ j = 7 ∨ j = 8 ∨ j = 9 by omega) with rfl | rfl | rfl | rfl | rfl | rfl | rfl | rfl | rfl | rfl <;> rfl) ⟨Nat.le_of_ble_eq_true rfl, Nat.le_of_ble_eq_true rfl⟩ dL_law_0 (fun h H B => ?_)
  refine lv_dup hx hb dL_law_3 rfl ?_
  refine n_call (wr := []) (q := h) (e0 := .inr (13, [.null, .null, .null, .int 0, .null, .null, .null, .null, .null, .null])) (As := []) (rest := [.ref h]) S F B (c_X9_init l D C h H.size) (cwI 0 hts (gdl gL_law_X9_init) rfl rfl rfl (hts (.initialized RX9) (by decide +kernel)) (hts (.methodLink RL 131 yX9_init) (by decide +kernel)) (hts (.instanceMethod yX9_init) (by decide +kernel)) rfl (by decide +kernel) ⟨Nat.le_of_ble_eq_true rfl, Nat.le_of_ble_eq_true rfl⟩) rfl hl.1 rfl (Nat.le_of_ble_eq_true rfl) dL_law_4 ⟨Nat.le_of_ble_eq_true rfl, Nat.le_of_ble_eq_true rfl⟩ (fun u H locs _ B => ?_)
  refine lv_astore_n (lv' := [(1, .ref h), (0, .ref b)]) hx hb dL_law_7 rfl hl (by decide) rfl (fun ls hl => ?_)
  refine n_obj S F B (K := RX10) (T := TX10) (N := 21) (ci := 14) (fs := [.null, .null, .null, .int 0, .null, .int 0, .int 0, .int 0, .int 0, .int 0, .null, .int 0, .int 0, .null, .null, .int 0, .int 0, .int 0, .int 0, .null, .int 0]) inX10 tyX10 tyX10_ok (by decide +kernel) (by decide +kernel) (by decide +kernel) rfl (fun j hj => by rcases (show j = 0 ∨ j = 1 ∨ j = 2 ∨ j = 3 ∨ j = 4 ∨ j = 5 ∨ j = 6 ∨ j = 7 ∨ j = 8 ∨ j = 9 ∨ j = 10 ∨ j = 11 ∨ j = 12 ∨ j = 13 ∨ j = 14 ∨ j = 15 ∨ j = 16 ∨ j = 17 ∨ j = 18 ∨ j = 19 ∨ j = 20 by omega) with rfl | rfl | rfl | rfl | rfl | rfl | rfl | rfl | rfl | rfl | rfl | rfl | rfl | rfl | rfl | rfl | rfl | rfl | rfl | rfl | rfl <;> rfl) ⟨Nat.le_of_ble_eq_true rfl, Nat.le_of_ble_eq_true rfl⟩ dL_law_8 (fun h10 H B => ?_)
  refine lv_dup hx hb dL_law_11 rfl ?_
  refine n_call (q := h10) (e0 := .inr (14, [.null, .null, .null, .int 0, .null, .int 0, .int 0, .int 0, .int 0, .int 0, .null, .int 0, .int 0, .null, .null, .int 0, .int 0, .int 0, .int 0, .null, .int 0])) (As := []) (rest := [.ref h10]) S F B (c_X10_init l D C h10 H.size) (cwI 0 hts (gdl gL_law_X10_init) rfl rfl rfl (hts (.initialized RX10) (by decide +kernel)) (hts (.methodLink RL 134 yX10_init) (by decide +kernel)) (hts (.instanceMethod yX10_init) (by decide +kernel)) rfl (by decide +kernel) ⟨Nat.le_of_ble_eq_true rfl, Nat.le_of_ble_eq_true rfl⟩) rfl hl.1 rfl (Nat.le_of_ble_eq_true rfl) dL_law_12 ⟨Nat.le_of_ble_eq_true rfl, Nat.le_of_ble_eq_true rfl⟩ (fun d H locs _ B => ?_)
  refine lv_astore_n (lv' := [(2, .ref h10), (1, .ref h), (0, .ref b)]) hx hb dL_law_15 rfl hl (by decide) rfl (fun ls hl => ?_)
  refine lv_iconst (v := 1) hx hb dL_law_16 (by decide) ?_
  refine n_arr S F B (atype := .long) (ty := .long) (t := 7) (c0 := C 7) (n := 1) (N' := 1) (a0 := (1, .inr (.inl (fun _ => 0)))) (by decide +kernel) rfl rfl (fun _ => rfl) (by decide) (by decide) (by decide) ⟨Nat.le_of_ble_eq_true rfl, Nat.le_of_ble_eq_true rfl⟩ dL_law_17 (fun q7 H B => ?_)
  refine lv_astore_n (lv' := [(3, .ref q7), (2, .ref h10), (1, .ref h), (0, .ref b)]) hx hb dL_law_19 rfl hl (by decide) rfl (fun ls hl => ?_)
  refine lv_iconst (v := 1) hx hb dL_law_20 (by decide) ?_
  refine n_arr S F B (atype := .double) (ty := .double) (t := 8) (c0 := C 8) (n := 1) (N' := 1) (a0 := (1, .inr (.inr (.inr (.inl (fun _ => 0)))))) (by decide +kernel) rfl rfl (fun _ => rfl) (by decide) (by decide) (by decide) ⟨Nat.le_of_ble_eq_true rfl, Nat.le_of_ble_eq_true rfl⟩ dL_law_21 (fun q8 H B => ?_)
  refine lv_astore (lv' := [(4, .ref q8), (3, .ref q7), (2, .ref h10), (1, .ref h), (0, .ref b)]) hx hb dL_law_23 hl (by decide) rfl (fun ls hl => ?_)
  refine lv_iconst (v := 0) hx hb dL_law_25 (by decide) ?_
  refine lv_istore (lv' := [(5, .int 0), (4, .ref q8), (3, .ref q7), (2, .ref h10), (1, .ref h), (0, .ref b)]) hx hb dL_law_26 hl (by decide) rfl (fun ls hl => ?_)
  have B : Bk D A (((((((([(h, .inr (13, [.ref (u.1.2 0 0), .ref (u.1.2 1 0), .ref (u.1.2 2 0), .int 0, .ref (u.1.1 155), .ref (u.1.1 157), .ref (u.1.1 158), .ref (u.1.1 161), .ref (u.1.1 162), .ref (u.1.1 196)]))] ++ blk (D, C, u.1.2 0) (List.range 14)) ++ blk (D, C, u.1.2 1) (List.range 14)) ++ blk (D, C, u.1.2 2) (List.range 14)) ++ (((((((([(u.1.1 155, .inr (6, [.ref u.2.1.1, .int 0, .int 0])), (u.2.1.1, .inl (C 5, 8, .inr (.inr (.inr (.inr (fun j => if j < 8 then some (u.2.1.2 j 0) else none))))))] ++ blk (D, C, u.2.1.2 0) (List.range 14)) ++ blk (D, C, u.2.1.2 1) (List.range 14)) ++ blk (D, C, u.2.1.2 2) (List.range 14)) ++ blk (D, C, u.2.1.2 3) (List.range 14)) ++ blk (D, C, u.2.1.2 4) (List.range 14)) ++ blk (D, C, u.2.1.2 5) (List.range 14)) ++ blk (D, C, u.2.1.2 6) (List.range 14)) ++ blk (D, C, u.2.1.2 7) (List.range 14))) ++ [(u.1.1 157, .inr (9, [.int 0, .int 0, .int 0])), (u.1.1 158, .inr (12, [.ref (u.1.2 0 1), .ref (u.1.1 159), .ref (u.1.1 160)])), (u.1.1 159, .inl (C 0, 16, .inl (fun _ => 0))), (u.1.1 160, .inl (C 0, 16, .inl (fun _ => 0))), (u.1.1 161, .inr (7, [.ref (u.1.2 0 0), .ref (u.1.1 158), .ref (u.1.1 157)]))]) ++ ([(u.1.1 162, .inr (4, [.ref (u.2.2 0), .ref (u.2.2 1), .ref (u.2.2 2), .int 0, .int 0, .int 0, .int 0, .int (-1)])), (u.2.2 0, .inl (C 1, 60, .inl (fun _ => 0))), (u.2.2 1, .inl (C 1, 30, .inl (fun _ => 0))), (u.2.2 2, .inl (C 6, 30, .inr (.inr (.inr (.inr (fun i => if i < 30 then some (u.2.2 (3 + i)) else none))))))] ++ (List.range 30).map (fun i => (u.2.2 (3 + i), .inl (C 0, 3, .inl (fun _ => 0)))))) ++ [(u.1.1 196, .inr (1, [.ref (u.1.1 197), .int 0, .int 0, .int 0])), (u.1.1 197, .inl (C 2, 16, .inl (fun _ => 0)))]) ++ [(h10, .inr (14, [.ref (d 0), .ref (d 1), .ref (d 2), .int 0, .ref (d 3), .int 0, .int 0, .int 0, .int 0, .int (-1), .ref (d 4), .int 0, .int 0, .ref (d 5), .ref (d 6), .int 0, .int 0, .int 0, .int 0, .ref (d 7), .int 0])), (d 0, .inl (C 0, 86, .inl (upd (fun _ => 0) (Int32.toNatClampNeg 2) (-1)))), (d 1, .inl (C 0, 86, .inl (fun _ => 0))), (d 2, .inl (C 0, 86, .inl (fun _ => 0))), (d 3, .inl (C 0, 688, .inl (fun _ => 0))), (d 4, .inl (C 0, 60, .inl (fun _ => 0))), (d 5, .inl (C 0, 16, .inl (fun _ => 0))), (d 6, .inl (C 0, 244, .inl (fun _ => 0))), (d 7, .inl (C 0, 30, .inl (fun _ => 0)))] ++ [(q7, .inl (C 7, 1, .inr (.inl (fun _ => 0)))), (q8, .inl (C 8, 1, .inr (.inr (.inr (.inl (fun _ => 0))))))]) s H locs := ⟨fun k q hq => B.1 k q (by rw [← hq]; simp only [List.append_assoc, List.nil_append, List.cons_append]), by
    have h9 := B.2.1
    simp only [List.append_assoc, List.nil_append, List.cons_append] at h9 ⊢
    exact h9, B.2.2⟩
  obtain ⟨G, hG⟩ : ∃ G : Gd, G = (D, C, adr u d h h10 q7 q8 z) := ⟨_, rfl⟩
  obtain ⟨w1, w2, w3⟩ := lay_HW (C := C) (G := G) (by rw [hG]) (by rw [hG]; exact lay_eq D C) B
  subst hA
  have hAA : AA G s.heap.size = fun q : Nat => s.heap.size ≤ q := by
    funext q
    apply propext
    exact ⟨fun h9 => h9.elim (fun ⟨i, hi, e⟩ => by rw [e]; exact w3 i hi) id, Or.inr⟩
  have FG : Fx G s := ⟨by rw [hG]; exact hK, w2, by rw [hAA]; exact hz G (fun i h1 h2 => by
    rw [hG]
    show adr u d h h10 q7 q8 z i = z i
    unfold adr
    rw [if_neg (by omega), if_neg (by omega), if_neg (by omega), if_neg (by omega), if_neg (by omega), if_neg (by omega), if_neg (by omega), if_neg (by omega), if_neg (by omega), if_neg (by omega), if_neg (by omega), if_pos (by omega)])⟩
  have BG : Bd G σ0 s H locs := ⟨w1, by rw [hAA]; exact B.2.2⟩
  have hlG : lv_has ls 10 [(0, .ref b), (1, .ref (G.2.2 154)), (2, .ref (G.2.2 198)), (3, .ref (G.2.2 207)), (4, .ref (G.2.2 208)), (5, .int (I (4 * 0)))] := by
    rw [hG]
    exact lv_sub hl [5, 4, 3, 2, 1, 0] rfl
  refine W.widen (k := 1000 + 2 * 0) (n := 5000 + 12 * 0) (Nat.le_of_ble_eq_true rfl) (Nat.le_of_ble_eq_true rfl) ?_
  exact law_loop hl9 ⟨S, hX, hbl⟩ hr hlocks hL (kc := 1000) (kn := 5000) (by decide) (L + 1) 0 σ0 G H locs ls (by omega) (by omega) ⟨FG, BG, RR0, fun q hq => by rw [hAA] at hq; exact hq, hlG⟩
