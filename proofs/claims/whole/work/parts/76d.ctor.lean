set_option maxHeartbeats 8000000 in
set_option maxRecDepth 100000 in
theorem c_X2_init (l : Launch) (D : va_G) (C : Nat → ClassId) (h sz : Nat) : Met l yX2_init wsX2_init { frames := 3, cells := 113, slots := 800, locals := 53 } (va_Pc [.ref h] (PK D C sz [(h, .inr (6, [.null, .int 0, .int 0]))])) (QK D sz [(h, .inr (6, [.null, .int 0, .int 0]))] (fun a : Nat × (Nat → Nat → Nat) => True) (fun a : Nat × (Nat → Nat → Nat) => (((((((([(h, .inr (6, [.ref a.1, .int 0, .int 0])), (a.1, .inl (C 5, 8, .inr (.inr (.inr (.inr (fun j => if j < 8 then some (a.2 j 0) else none))))))] ++ blk (D, C, a.2 0) (List.range 14)) ++ blk (D, C, a.2 1) (List.range 14)) ++ blk (D, C, a.2 2) (List.range 14)) ++ blk (D, C, a.2 3) (List.range 14)) ++ blk (D, C, a.2 4) (List.range 14)) ++ blk (D, C, a.2 5) (List.range 14)) ++ blk (D, C, a.2 6) (List.range 14)) ++ blk (D, C, a.2 7) (List.range 14)))) 113 800 (va_A [(h, .inr (6, [.null, .int 0, .int 0]))] sz) := by
  refine Met.ofW (cc := cX2_init) (maxL := 2) (ret := none) (by decide) rfl ?_
  intro p e s m args below meth c s₁ B0 hml hv
  obtain ⟨rfl, hpk⟩ := hv
  have hsz := hpk.1
  subst hsz
  obtain ⟨F, B⟩ := hpk.to
  have hx := B0.exec
  have hb := B0.bytes
  have hr := B0.returns
  have hts := atoms_spec (ws := wsX2_init) B0.pre
  have hown : s.vm.findClass RX2 = some m.cls := findClass_of_methodNamed B0.named
  have hlocks := B0.notSynchronized
  have hin2 : meth.name = "<init>" := (name_of_methodNamed B0.named B0.method).1
  have S : CallFix p m c cX2_init 2 s _ wsX2_init RX2 := ⟨hx, hb, hml, hown, hts⟩
  have hl := lv_entry [.ref h] (n := 2) (Nat.le_of_ble_eq_true rfl)
  rw [lg_entry_eq]
  generalize (lg_sl [.ref h] ++ List.replicate (2 - (lg_sl [.ref h]).length) Slot.unset).toArray = ls at hl ⊢
  have hl : lv_has ls 2 [(0, .ref h)] := hl
  generalize hA : va_A [(h, .inr (6, [.null, .int 0, .int 0]))] s.heap.size = A at F B ⊢
  refine lv_aload_n hx hb dX2_init_0 rfl (lv_at hl 0 rfl) ?_
  refine n_oinit S (by decide +kernel) (by decide +kernel) (by decide +kernel) hl.1 dX2_init_1 (Nat.le_of_ble_eq_true rfl) (Nat.le_of_ble_eq_true rfl) ?_
  refine lv_aload_n hx hb dX2_init_4 rfl (lv_at hl 0 rfl) ?_
  refine lv_bipush (v := 8) hx hb dX2_init_5 (by decide) ?_
  refine n_arrR S F B (K := RX6) (t := 5) (c0 := C 5) (n := 8) (N' := 8) (by decide +kernel) F.2.1.2.2.1.2.1 rfl (by decide) (by decide) (by decide) ⟨Nat.le_of_ble_eq_true rfl, Nat.le_of_ble_eq_true rfl⟩ dX2_init_7 (fun q1 H B => ?_)
  have B : Bk D A ([(h, .inr (6, [.null, .int 0, .int 0])), (q1, .inl (C 5, 8, .inr (.inr (.inr (.inr (fun _ => none))))))]) s H [] := B
  refine n_putF S F B hin2 (K := RX2) (T := TX2) (N := 3) (ci := 6) (ty := (.array (.object "MazeBonds$State"))) (v := .ref q1) (by decide +kernel) tyX2 tyX2_ok nmX2 0 rfl rfl 0 (by decide) (by decide +kernel) rfl rfl (by decide +kernel) rfl rfl (Nat.le_of_ble_eq_true rfl) dX2_init_10 (fun H locs B => ?_)
  have B : Bk D A ([(h, .inr (6, [.ref q1, .int 0, .int 0])), (q1, .inl (C 5, 8, .inr (.inr (.inr (.inr (fun _ => none))))))]) s H locs := B
  refine lv_iconst (v := 0) hx hb dX2_init_13 (by decide) ?_
  refine lv_istore_n (lv' := [(1, .int 0), (0, .ref h)]) hx hb dX2_init_14 rfl hl (by decide) rfl (fun ls hl => ?_)
  refine lv_iload_n hx hb dX2_init_15 rfl (lv_at hl 0 rfl) ?_
  refine lv_bipush (v := 8) hx hb dX2_init_16 (by decide) ?_
  refine lv_icmp_ge (tgt := 40) hx hb dX2_init_18 (by decide) (fun h => absurd h (by decide)) (fun _ => ?_)
  refine lv_aload_n hx hb dX2_init_21 rfl (lv_at hl 1 rfl) ?_
  refine n_get S F B (K := RX2) (T := TX2) (N := 3) (ci := 6) (v := .ref q1) (by decide +kernel) 0 rfl rfl 0 (by decide) (by decide +kernel) rfl dX2_init_22 ?_
  refine lv_iload_n hx hb dX2_init_25 rfl (lv_at hl 0 rfl) ?_
  refine n_obj S F B (K := RX6) (T := TX6) (N := 9) (ci := 10) (fs := [.null, .null, .null, .int 0, .int 0, .int 0, .int 0, .int 0, .int 0]) (by decide +kernel) tyX6 tyX6_ok (by decide +kernel) (by decide +kernel) (by decide +kernel) rfl (fun j hj => by rcases (show j = 0 ∨ j = 1 ∨ j = 2 ∨ j = 3 ∨ j = 4 ∨ j = 5 ∨ j = 6 ∨ j = 7 ∨ j = 8 by omega) with rfl | rfl | rfl | rfl | rfl | rfl | rfl | rfl | rfl <;> rfl) ⟨Nat.le_of_ble_eq_true rfl, Nat.le_of_ble_eq_true rfl⟩ dX2_init_26 (fun q2 H B => ?_)
  refine lv_dup hx hb dX2_init_29 rfl ?_
  refine n_call (wr := [(h, .inr (6, [.ref q1, .int 0, .int 0])), (q1, .inl (C 5, 8, .inr (.inr (.inr (.inr (fun _ => none))))))]) (q := q2) (e0 := .inr (10, [.null, .null, .null, .int 0, .int 0, .int 0, .int 0, .int 0, .int 0])) (As := []) (rest := [.ref q2, .int 0, .ref q1]) S F B (c_X6_init l D C q2 H.size) (cwI 0 hts gX2_init_X6_init rfl rfl rfl (hts (.initialized RX6) (by decide +kernel)) (hts (.methodLink RX2 17 yX6_init) (by decide +kernel)) (hts (.instanceMethod yX6_init) (by decide +kernel)) rfl (by decide +kernel) ⟨Nat.le_of_ble_eq_true rfl, Nat.le_of_ble_eq_true rfl⟩) rfl hl.1 rfl (Nat.le_of_ble_eq_true rfl) dX2_init_30 ⟨Nat.le_of_ble_eq_true rfl, Nat.le_of_ble_eq_true rfl⟩ (fun a3 H locs hpa3 B9 => ?_)
  obtain rfl := hpa3
  have B : Bk D A (([(h, .inr (6, [.ref q1, .int 0, .int 0])), (q1, .inl (C 5, 8, .inr (.inr (.inr (.inr (fun _ => none))))))] ++ blk (D, C, a3) (List.range 14))) s H locs := B9
  refine n_aast S F B 1 5 2 10 (r := (RX6, TX6, 9)) (n := 8) (f := (fun _ => none)) rfl rfl rfl rfl (vpc (by decide)) dX2_init_33 (fun H locs B => ?_)
  have B : Bk D A (([(h, .inr (6, [.ref q1, .int 0, .int 0])), (q1, .inl (C 5, 8, .inr (.inr (.inr (.inr (va_up (fun _ => none) (Int32.toNatClampNeg 0) (some (a3 0))))))))] ++ blk (D, C, a3) (List.range 14))) s H locs := B
  refine lv_iinc (v := 1) (lv' := [(1, .int 1), (0, .ref h)]) hx hb dX2_init_34 hl (k := 0) rfl (by decide) (by decide) rfl (fun ls hl => ?_)
  refine lv_goto (tgt := 15) hx hb dX2_init_37 (by decide) ?_
  refine lv_iload_n hx hb dX2_init_15 rfl (lv_at hl 0 rfl) ?_
  refine lv_bipush (v := 8) hx hb dX2_init_16 (by decide) ?_
  refine lv_icmp_ge (tgt := 40) hx hb dX2_init_18 (by decide) (fun h => absurd h (by decide)) (fun _ => ?_)
  refine lv_aload_n hx hb dX2_init_21 rfl (lv_at hl 1 rfl) ?_
  refine n_get S F B (K := RX2) (T := TX2) (N := 3) (ci := 6) (v := .ref q1) (by decide +kernel) 0 rfl rfl 0 (by decide) (by decide +kernel) rfl dX2_init_22 ?_
  refine lv_iload_n hx hb dX2_init_25 rfl (lv_at hl 0 rfl) ?_
  refine n_obj S F B (K := RX6) (T := TX6) (N := 9) (ci := 10) (fs := [.null, .null, .null, .int 0, .int 0, .int 0, .int 0, .int 0, .int 0]) (by decide +kernel) tyX6 tyX6_ok (by decide +kernel) (by decide +kernel) (by decide +kernel) rfl (fun j hj => by rcases (show j = 0 ∨ j = 1 ∨ j = 2 ∨ j = 3 ∨ j = 4 ∨ j = 5 ∨ j = 6 ∨ j = 7 ∨ j = 8 by omega) with rfl | rfl | rfl | rfl | rfl | rfl | rfl | rfl | rfl <;> rfl) ⟨Nat.le_of_ble_eq_true rfl, Nat.le_of_ble_eq_true rfl⟩ dX2_init_26 (fun q4 H B => ?_)
  refine lv_dup hx hb dX2_init_29 rfl ?_
  refine n_call (wr := ([(h, .inr (6, [.ref q1, .int 0, .int 0])), (q1, .inl (C 5, 8, .inr (.inr (.inr (.inr (va_up (fun _ => none) (Int32.toNatClampNeg 0) (some (a3 0))))))))] ++ blk (D, C, a3) (List.range 14))) (q := q4) (e0 := .inr (10, [.null, .null, .null, .int 0, .int 0, .int 0, .int 0, .int 0, .int 0])) (As := []) (rest := [.ref q4, .int 1, .ref q1]) S F B (c_X6_init l D C q4 H.size) (cwI 0 hts gX2_init_X6_init rfl rfl rfl (hts (.initialized RX6) (by decide +kernel)) (hts (.methodLink RX2 17 yX6_init) (by decide +kernel)) (hts (.instanceMethod yX6_init) (by decide +kernel)) rfl (by decide +kernel) ⟨Nat.le_of_ble_eq_true rfl, Nat.le_of_ble_eq_true rfl⟩) rfl hl.1 rfl (Nat.le_of_ble_eq_true rfl) dX2_init_30 ⟨Nat.le_of_ble_eq_true rfl, Nat.le_of_ble_eq_true rfl⟩ (fun a5 H locs hpa5 B9 => ?_)
  obtain rfl := hpa5
  have B : Bk D A ((([(h, .inr (6, [.ref q1, .int 0, .int 0])), (q1, .inl (C 5, 8, .inr (.inr (.inr (.inr (va_up (fun _ => none) (Int32.toNatClampNeg 0) (some (a3 0))))))))] ++ blk (D, C, a3) (List.range 14)) ++ blk (D, C, a5) (List.range 14))) s H locs := B9
  refine n_aast S F B 1 5 16 10 (r := (RX6, TX6, 9)) (n := 8) (f := (va_up (fun _ => none) (Int32.toNatClampNeg 0) (some (a3 0)))) rfl rfl rfl rfl (vpc (by decide)) dX2_init_33 (fun H locs B => ?_)
  have B : Bk D A ((([(h, .inr (6, [.ref q1, .int 0, .int 0])), (q1, .inl (C 5, 8, .inr (.inr (.inr (.inr (va_up (va_up (fun _ => none) (Int32.toNatClampNeg 0) (some (a3 0))) (Int32.toNatClampNeg 1) (some (a5 0))))))))] ++ blk (D, C, a3) (List.range 14)) ++ blk (D, C, a5) (List.range 14))) s H locs := B
  refine lv_iinc (v := 2) (lv' := [(1, .int 2), (0, .ref h)]) hx hb dX2_init_34 hl (k := 0) rfl (by decide) (by decide) rfl (fun ls hl => ?_)
  refine lv_goto (tgt := 15) hx hb dX2_init_37 (by decide) ?_
  refine lv_iload_n hx hb dX2_init_15 rfl (lv_at hl 0 rfl) ?_
  refine lv_bipush (v := 8) hx hb dX2_init_16 (by decide) ?_
  refine lv_icmp_ge (tgt := 40) hx hb dX2_init_18 (by decide) (fun h => absurd h (by decide)) (fun _ => ?_)
  refine lv_aload_n hx hb dX2_init_21 rfl (lv_at hl 1 rfl) ?_
  refine n_get S F B (K := RX2) (T := TX2) (N := 3) (ci := 6) (v := .ref q1) (by decide +kernel) 0 rfl rfl 0 (by decide) (by decide +kernel) rfl dX2_init_22 ?_
  refine lv_iload_n hx hb dX2_init_25 rfl (lv_at hl 0 rfl) ?_
  refine n_obj S F B (K := RX6) (T := TX6) (N := 9) (ci := 10) (fs := [.null, .null, .null, .int 0, .int 0, .int 0, .int 0, .int 0, .int 0]) (by decide +kernel) tyX6 tyX6_ok (by decide +kernel) (by decide +kernel) (by decide +kernel) rfl (fun j hj => by rcases (show j = 0 ∨ j = 1 ∨ j = 2 ∨ j = 3 ∨ j = 4 ∨ j = 5 ∨ j = 6 ∨ j = 7 ∨ j = 8 by omega) with rfl | rfl | rfl | rfl | rfl | rfl | rfl | rfl | rfl <;> rfl) ⟨Nat.le_of_ble_eq_true rfl, Nat.le_of_ble_eq_true rfl⟩ dX2_init_26 (fun q6 H B => ?_)
  refine lv_dup hx hb dX2_init_29 rfl ?_
  refine n_call (wr := (([(h, .inr (6, [.ref q1, .int 0, .int 0])), (q1, .inl (C 5, 8, .inr (.inr (.inr (.inr (va_up (va_up (fun _ => none) (Int32.toNatClampNeg 0) (some (a3 0))) (Int32.toNatClampNeg 1) (some (a5 0))))))))] ++ blk (D, C, a3) (List.range 14)) ++ blk (D, C, a5) (List.range 14))) (q := q6) (e0 := .inr (10, [.null, .null, .null, .int 0, .int 0, .int 0, .int 0, .int 0, .int 0])) (As := []) (rest := [.ref q6, .int 2, .ref q1]) S F B (c_X6_init l D C q6 H.size) (cwI 0 hts gX2_init_X6_init rfl rfl rfl (hts (.initialized RX6) (by decide +kernel)) (hts (.methodLink RX2 17 yX6_init) (by decide +kernel)) (hts (.instanceMethod yX6_init) (by decide +kernel)) rfl (by decide +kernel) ⟨Nat.le_of_ble_eq_true rfl, Nat.le_of_ble_eq_true rfl⟩) rfl hl.1 rfl (Nat.le_of_ble_eq_true rfl) dX2_init_30 ⟨Nat.le_of_ble_eq_true rfl, Nat.le_of_ble_eq_true rfl⟩ (fun a7 H locs hpa7 B9 => ?_)
  obtain rfl := hpa7
  have B : Bk D A (((([(h, .inr (6, [.ref q1, .int 0, .int 0])), (q1, .inl (C 5, 8, .inr (.inr (.inr (.inr (va_up (va_up (fun _ => none) (Int32.toNatClampNeg 0) (some (a3 0))) (Int32.toNatClampNeg 1) (some (a5 0))))))))] ++ blk (D, C, a3) (List.range 14)) ++ blk (D, C, a5) (List.range 14)) ++ blk (D, C, a7) (List.range 14))) s H locs := B9
  refine n_aast S F B 1 5 30 10 (r := (RX6, TX6, 9)) (n := 8) (f := (va_up (va_up (fun _ => none) (Int32.toNatClampNeg 0) (some (a3 0))) (Int32.toNatClampNeg 1) (some (a5 0)))) rfl rfl rfl rfl (vpc (by decide)) dX2_init_33 (fun H locs B => ?_)
  have B : Bk D A (((([(h, .inr (6, [.ref q1, .int 0, .int 0])), (q1, .inl (C 5, 8, .inr (.inr (.inr (.inr (va_up (va_up (va_up (fun _ => none) (Int32.toNatClampNeg 0) (some (a3 0))) (Int32.toNatClampNeg 1) (some (a5 0))) (Int32.toNatClampNeg 2) (some (a7 0))))))))] ++ blk (D, C, a3) (List.range 14)) ++ blk (D, C, a5) (List.range 14)) ++ blk (D, C, a7) (List.range 14))) s H locs := B
  refine lv_iinc (v := 3) (lv' := [(1, .int 3), (0, .ref h)]) hx hb dX2_init_34 hl (k := 0) rfl (by decide) (by decide) rfl (fun ls hl => ?_)
  refine lv_goto (tgt := 15) hx hb dX2_init_37 (by decide) ?_
  refine lv_iload_n hx hb dX2_init_15 rfl (lv_at hl 0 rfl) ?_
  refine lv_bipush (v := 8) hx hb dX2_init_16 (by decide) ?_
  refine lv_icmp_ge (tgt := 40) hx hb dX2_init_18 (by decide) (fun h => absurd h (by decide)) (fun _ => ?_)
  refine lv_aload_n hx hb dX2_init_21 rfl (lv_at hl 1 rfl) ?_
  refine n_get S F B (K := RX2) (T := TX2) (N := 3) (ci := 6) (v := .ref q1) (by decide +kernel) 0 rfl rfl 0 (by decide) (by decide +kernel) rfl dX2_init_22 ?_
  refine lv_iload_n hx hb dX2_init_25 rfl (lv_at hl 0 rfl) ?_
  refine n_obj S F B (K := RX6) (T := TX6) (N := 9) (ci := 10) (fs := [.null, .null, .null, .int 0, .int 0, .int 0, .int 0, .int 0, .int 0]) (by decide +kernel) tyX6 tyX6_ok (by decide +kernel) (by decide +kernel) (by decide +kernel) rfl (fun j hj => by rcases (show j = 0 ∨ j = 1 ∨ j = 2 ∨ j = 3 ∨ j = 4 ∨ j = 5 ∨ j = 6 ∨ j = 7 ∨ j = 8 by omega) with rfl | rfl | rfl | rfl | rfl | rfl | rfl | rfl | rfl <;> rfl) ⟨Nat.le_of_ble_eq_true rfl, Nat.le_of_ble_eq_true rfl⟩ dX2_init_26 (fun q8 H B => ?_)
  refine lv_dup hx hb dX2_init_29 rfl ?_
  refine n_call (wr := ((([(h, .inr (6, [.ref q1, .int 0, .int 0])), (q1, .inl (C 5, 8, .inr (.inr (.inr (.inr (va_up (va_up (va_up (fun _ => none) (Int32.toNatClampNeg 0) (some (a3 0))) (Int32.toNatClampNeg 1) (some (a5 0))) (Int32.toNatClampNeg 2) (some (a7 0))))))))] ++ blk (D, C, a3) (List.range 14)) ++ blk (D, C, a5) (List.range 14)) ++ blk (D, C, a7) (List.range 14))) (q := q8) (e0 := .inr (10, [.null, .null, .null, .int 0, .int 0, .int 0, .int 0, .int 0, .int 0])) (As := []) (rest := [.ref q8, .int 3, .ref q1]) S F B (c_X6_init l D C q8 H.size) (cwI 0 hts gX2_init_X6_init rfl rfl rfl (hts (.initialized RX6) (by decide +kernel)) (hts (.methodLink RX2 17 yX6_init) (by decide +kernel)) (hts (.instanceMethod yX6_init) (by decide +kernel)) rfl (by decide +kernel) ⟨Nat.le_of_ble_eq_true rfl, Nat.le_of_ble_eq_true rfl⟩) rfl hl.1 rfl (Nat.le_of_ble_eq_true rfl) dX2_init_30 ⟨Nat.le_of_ble_eq_true rfl, Nat.le_of_ble_eq_true rfl⟩ (fun a9 H locs hpa9 B9 => ?_)
  obtain rfl := hpa9
  have B : Bk D A ((((([(h, .inr (6, [.ref q1, .int 0, .int 0])), (q1, .inl (C 5, 8, .inr (.inr (.inr (.inr (va_up (va_up (va_up (fun _ => none) (Int32.toNatClampNeg 0) (some (a3 0))) (Int32.toNatClampNeg 1) (some (a5 0))) (Int32.toNatClampNeg 2) (some (a7 0))))))))] ++ blk (D, C, a3) (List.range 14)) ++ blk (D, C, a5) (List.range 14)) ++ blk (D, C, a7) (List.range 14)) ++ blk (D, C, a9) (List.range 14))) s H locs := B9
  refine n_aast S F B 1 5 44 10 (r := (RX6, TX6, 9)) (n := 8) (f := (va_up (va_up (va_up (fun _ => none) (Int32.toNatClampNeg 0) (some (a3 0))) (Int32.toNatClampNeg 1) (some (a5 0))) (Int32.toNatClampNeg 2) (some (a7 0)))) rfl rfl rfl rfl (vpc (by decide)) dX2_init_33 (fun H locs B => ?_)
  have B : Bk D A ((((([(h, .inr (6, [.ref q1, .int 0, .int 0])), (q1, .inl (C 5, 8, .inr (.inr (.inr (.inr (va_up (va_up (va_up (va_up (fun _ => none) (Int32.toNatClampNeg 0) (some (a3 0))) (Int32.toNatClampNeg 1) (some (a5 0))) (Int32.toNatClampNeg 2) (some (a7 0))) (Int32.toNatClampNeg 3) (some (a9 0))))))))] ++ blk (D, C, a3) (List.range 14)) ++ blk (D, C, a5) (List.range 14)) ++ blk (D, C, a7) (List.range 14)) ++ blk (D, C, a9) (List.range 14))) s H locs := B
  refine lv_iinc (v := 4) (lv' := [(1, .int 4), (0, .ref h)]) hx hb dX2_init_34 hl (k := 0) rfl (by decide) (by decide) rfl (fun ls hl => ?_)
  refine lv_goto (tgt := 15) hx hb dX2_init_37 (by decide) ?_
  refine lv_iload_n hx hb dX2_init_15 rfl (lv_at hl 0 rfl) ?_
  refine lv_bipush (v := 8) hx hb dX2_init_16 (by decide) ?_
  refine lv_icmp_ge (tgt := 40) hx hb dX2_init_18 (by decide) (fun h => absurd h (by decide)) (fun _ => ?_)
  refine lv_aload_n hx hb dX2_init_21 rfl (lv_at hl 1 rfl) ?_
  refine n_get S F B (K := RX2) (T := TX2) (N := 3) (ci := 6) (v := .ref q1) (by decide +kernel) 0 rfl rfl 0 (by decide) (by decide +kernel) rfl dX2_init_22 ?_
  refine lv_iload_n hx hb dX2_init_25 rfl (lv_at hl 0 rfl) ?_
  refine n_obj S F B (K := RX6) (T := TX6) (N := 9) (ci := 10) (fs := [.null, .null, .null, .int 0, .int 0, .int 0, .int 0, .int 0, .int 0]) (by decide +kernel) tyX6 tyX6_ok (by decide +kernel) (by decide +kernel) (by decide +kernel) rfl (fun j hj => by rcases (show j = 0 ∨ j = 1 ∨ j = 2 ∨ j = 3 ∨ j = 4 ∨ j = 5 ∨ j = 6 ∨ j = 7 ∨ j = 8 by omega) with rfl | rfl | rfl | rfl | rfl | rfl | rfl | rfl | rfl <;> rfl) ⟨Nat.le_of_ble_eq_true rfl, Nat.le_of_ble_eq_true rfl⟩ dX2_init_26 (fun q10 H B => ?_)
  refine lv_dup hx hb dX2_init_29 rfl ?_
  refine n_call (wr := (((([(h, .inr (6, [.ref q1, .int 0, .int 0])), (q1, .inl (C 5, 8, .inr (.inr (.inr (.inr (va_up (va_up (va_up (va_up (fun _ => none) (Int32.toNatClampNeg 0) (some (a3 0))) (Int32.toNatClampNeg 1) (some (a5 0))) (Int32.toNatClampNeg 2) (some (a7 0))) (Int32.toNatClampNeg 3) (some (a9 0))))))))] ++ blk (D, C, a3) (List.range 14)) ++ blk (D, C, a5) (List.range 14)) ++ blk (D, C, a7) (List.range 14)) ++ blk (D, C, a9) (List.range 14))) (q := q10) (e0 := .inr (10, [.null, .null, .null, .int 0, .int 0, .int 0, .int 0, .int 0, .int 0])) (As := []) (rest := [.ref q10, .int 4, .ref q1]) S F B (c_X6_init l D C q10 H.size) (cwI 0 hts gX2_init_X6_init rfl rfl rfl (hts (.initialized RX6) (by decide +kernel)) (hts (.methodLink RX2 17 yX6_init) (by decide +kernel)) (hts (.instanceMethod yX6_init) (by decide +kernel)) rfl (by decide +kernel) ⟨Nat.le_of_ble_eq_true rfl, Nat.le_of_ble_eq_true rfl⟩) rfl hl.1 rfl (Nat.le_of_ble_eq_true rfl) dX2_init_30 ⟨Nat.le_of_ble_eq_true rfl, Nat.le_of_ble_eq_true rfl⟩ (fun a11 H locs hpa11 B9 => ?_)
  obtain rfl := hpa11
  have B : Bk D A (((((([(h, .inr (6, [.ref q1, .int 0, .int 0])), (q1, .inl (C 5, 8, .inr (.inr (.inr (.inr (va_up (va_up (va_up (va_up (fun _ => none) (Int32.toNatClampNeg 0) (some (a3 0))) (Int32.toNatClampNeg 1) (some (a5 0))) (Int32.toNatClampNeg 2) (some (a7 0))) (Int32.toNatClampNeg 3) (some (a9 0))))))))] ++ blk (D, C, a3) (List.range 14)) ++ blk (D, C, a5) (List.range 14)) ++ blk (D, C, a7) (List.range 14)) ++ blk (D, C, a9) (List.range 14)) ++ blk (D, C, a11) (List.range 14))) s H locs := B9
  refine n_aast S F B 1 5 58 10 (r := (RX6, TX6, 9)) (n := 8) (f := (va_up (va_up (va_up (va_up (fun _ => none) (Int32.toNatClampNeg 0) (some (a3 0))) (Int32.toNatClampNeg 1) (some (a5 0))) (Int32.toNatClampNeg 2) (some (a7 0))) (Int32.toNatClampNeg 3) (some (a9 0)))) rfl rfl rfl rfl (vpc (by decide)) dX2_init_33 (fun H locs B => ?_)
  have B : Bk D A (((((([(h, .inr (6, [.ref q1, .int 0, .int 0])), (q1, .inl (C 5, 8, .inr (.inr (.inr (.inr (va_up (va_up (va_up (va_up (va_up (fun _ => none) (Int32.toNatClampNeg 0) (some (a3 0))) (Int32.toNatClampNeg 1) (some (a5 0))) (Int32.toNatClampNeg 2) (some (a7 0))) (Int32.toNatClampNeg 3) (some (a9 0))) (Int32.toNatClampNeg 4) (some (a11 0))))))))] ++ blk (D, C, a3) (List.range 14)) ++ blk (D, C, a5) (List.range 14)) ++ blk (D, C, a7) (List.range 14)) ++ blk (D, C, a9) (List.range 14)) ++ blk (D, C, a11) (List.range 14))) s H locs := B
  refine lv_iinc (v := 5) (lv' := [(1, .int 5), (0, .ref h)]) hx hb dX2_init_34 hl (k := 0) rfl (by decide) (by decide) rfl (fun ls hl => ?_)
  refine lv_goto (tgt := 15) hx hb dX2_init_37 (by decide) ?_
  refine lv_iload_n hx hb dX2_init_15 rfl (lv_at hl 0 rfl) ?_
  refine lv_bipush (v := 8) hx hb dX2_init_16 (by decide) ?_
  refine lv_icmp_ge (tgt := 40) hx hb dX2_init_18 (by decide) (fun h => absurd h (by decide)) (fun _ => ?_)
  refine lv_aload_n hx hb dX2_init_21 rfl (lv_at hl 1 rfl) ?_
  refine n_get S F B (K := RX2) (T := TX2) (N := 3) (ci := 6) (v := .ref q1) (by decide +kernel) 0 rfl rfl 0 (by decide) (by decide +kernel) rfl dX2_init_22 ?_
  refine lv_iload_n hx hb dX2_init_25 rfl (lv_at hl 0 rfl) ?_
  refine n_obj S F B (K := RX6) (T := TX6) (N := 9) (ci := 10) (fs := [.null, .null, .null, .int 0, .int 0, .int 0, .int 0, .int 0, .int 0]) (by decide +kernel) tyX6 tyX6_ok (by decide +kernel) (by decide +kernel) (by decide +kernel) rfl (fun j hj => by rcases (show j = 0 ∨ j = 1 ∨ j = 2 ∨ j = 3 ∨ j = 4 ∨ j = 5 ∨ j = 6 ∨ j = 7 ∨ j = 8 by omega) with rfl | rfl | rfl | rfl | rfl | rfl | rfl | rfl | rfl <;> rfl) ⟨Nat.le_of_ble_eq_true rfl, Nat.le_of_ble_eq_true rfl⟩ dX2_init_26 (fun q12 H B => ?_)
  refine lv_dup hx hb dX2_init_29 rfl ?_
  refine n_call (wr := ((((([(h, .inr (6, [.ref q1, .int 0, .int 0])), (q1, .inl (C 5, 8, .inr (.inr (.inr (.inr (va_up (va_up (va_up (va_up (va_up (fun _ => none) (Int32.toNatClampNeg 0) (some (a3 0))) (Int32.toNatClampNeg 1) (some (a5 0))) (Int32.toNatClampNeg 2) (some (a7 0))) (Int32.toNatClampNeg 3) (some (a9 0))) (Int32.toNatClampNeg 4) (some (a11 0))))))))] ++ blk (D, C, a3) (List.range 14)) ++ blk (D, C, a5) (List.range 14)) ++ blk (D, C, a7) (List.range 14)) ++ blk (D, C, a9) (List.range 14)) ++ blk (D, C, a11) (List.range 14))) (q := q12) (e0 := .inr (10, [.null, .null, .null, .int 0, .int 0, .int 0, .int 0, .int 0, .int 0])) (As := []) (rest := [.ref q12, .int 5, .ref q1]) S F B (c_X6_init l D C q12 H.size) (cwI 0 hts gX2_init_X6_init rfl rfl rfl (hts (.initialized RX6) (by decide +kernel)) (hts (.methodLink RX2 17 yX6_init) (by decide +kernel)) (hts (.instanceMethod yX6_init) (by decide +kernel)) rfl (by decide +kernel) ⟨Nat.le_of_ble_eq_true rfl, Nat.le_of_ble_eq_true rfl⟩) rfl hl.1 rfl (Nat.le_of_ble_eq_true rfl) dX2_init_30 ⟨Nat.le_of_ble_eq_true rfl, Nat.le_of_ble_eq_true rfl⟩ (fun a13 H locs hpa13 B9 => ?_)
  obtain rfl := hpa13
  have B : Bk D A ((((((([(h, .inr (6, [.ref q1, .int 0, .int 0])), (q1, .inl (C 5, 8, .inr (.inr (.inr (.inr (va_up (va_up (va_up (va_up (va_up (fun _ => none) (Int32.toNatClampNeg 0) (some (a3 0))) (Int32.toNatClampNeg 1) (some (a5 0))) (Int32.toNatClampNeg 2) (some (a7 0))) (Int32.toNatClampNeg 3) (some (a9 0))) (Int32.toNatClampNeg 4) (some (a11 0))))))))] ++ blk (D, C, a3) (List.range 14)) ++ blk (D, C, a5) (List.range 14)) ++ blk (D, C, a7) (List.range 14)) ++ blk (D, C, a9) (List.range 14)) ++ blk (D, C, a11) (List.range 14)) ++ blk (D, C, a13) (List.range 14))) s H locs := B9
  refine n_aast S F B 1 5 72 10 (r := (RX6, TX6, 9)) (n := 8) (f := (va_up (va_up (va_up (va_up (va_up (fun _ => none) (Int32.toNatClampNeg 0) (some (a3 0))) (Int32.toNatClampNeg 1) (some (a5 0))) (Int32.toNatClampNeg 2) (some (a7 0))) (Int32.toNatClampNeg 3) (some (a9 0))) (Int32.toNatClampNeg 4) (some (a11 0)))) rfl rfl rfl rfl (vpc (by decide)) dX2_init_33 (fun H locs B => ?_)
  have B : Bk D A ((((((([(h, .inr (6, [.ref q1, .int 0, .int 0])), (q1, .inl (C 5, 8, .inr (.inr (.inr (.inr (va_up (va_up (va_up (va_up (va_up (va_up (fun _ => none) (Int32.toNatClampNeg 0) (some (a3 0))) (Int32.toNatClampNeg 1) (some (a5 0))) (Int32.toNatClampNeg 2) (some (a7 0))) (Int32.toNatClampNeg 3) (some (a9 0))) (Int32.toNatClampNeg 4) (some (a11 0))) (Int32.toNatClampNeg 5) (some (a13 0))))))))] ++ blk (D, C, a3) (List.range 14)) ++ blk (D, C, a5) (List.range 14)) ++ blk (D, C, a7) (List.range 14)) ++ blk (D, C, a9) (List.range 14)) ++ blk (D, C, a11) (List.range 14)) ++ blk (D, C, a13) (List.range 14))) s H locs := B
  refine lv_iinc (v := 6) (lv' := [(1, .int 6), (0, .ref h)]) hx hb dX2_init_34 hl (k := 0) rfl (by decide) (by decide) rfl (fun ls hl => ?_)
  refine lv_goto (tgt := 15) hx hb dX2_init_37 (by decide) ?_
  refine lv_iload_n hx hb dX2_init_15 rfl (lv_at hl 0 rfl) ?_
  refine lv_bipush (v := 8) hx hb dX2_init_16 (by decide) ?_
  refine lv_icmp_ge (tgt := 40) hx hb dX2_init_18 (by decide) (fun h => absurd h (by decide)) (fun _ => ?_)
  refine lv_aload_n hx hb dX2_init_21 rfl (lv_at hl 1 rfl) ?_
  refine n_get S F B (K := RX2) (T := TX2) (N := 3) (ci := 6) (v := .ref q1) (by decide +kernel) 0 rfl rfl 0 (by decide) (by decide +kernel) rfl dX2_init_22 ?_
  refine lv_iload_n hx hb dX2_init_25 rfl (lv_at hl 0 rfl) ?_
  refine n_obj S F B (K := RX6) (T := TX6) (N := 9) (ci := 10) (fs := [.null, .null, .null, .int 0, .int 0, .int 0, .int 0, .int 0, .int 0]) (by decide +kernel) tyX6 tyX6_ok (by decide +kernel) (by decide +kernel) (by decide +kernel) rfl (fun j hj => by rcases (show j = 0 ∨ j = 1 ∨ j = 2 ∨ j = 3 ∨ j = 4 ∨ j = 5 ∨ j = 6 ∨ j = 7 ∨ j = 8 by omega) with rfl | rfl | rfl | rfl | rfl | rfl | rfl | rfl | rfl <;> rfl) ⟨Nat.le_of_ble_eq_true rfl, Nat.le_of_ble_eq_true rfl⟩ dX2_init_26 (fun q14 H B => ?_)
  refine lv_dup hx hb dX2_init_29 rfl ?_
  refine n_call (wr := (((((([(h, .inr (6, [.ref q1, .int 0, .int 0])), (q1, .inl (C 5, 8, .inr (.inr (.inr (.inr (va_up (va_up (va_up (va_up (va_up (va_up (fun _ => none) (Int32.toNatClampNeg 0) (some (a3 0))) (Int32.toNatClampNeg 1) (some (a5 0))) (Int32.toNatClampNeg 2) (some (a7 0))) (Int32.toNatClampNeg 3) (some (a9 0))) (Int32.toNatClampNeg 4) (some (a11 0))) (Int32.toNatClampNeg 5) (some (a13 0))))))))] ++ blk (D, C, a3) (List.range 14)) ++ blk (D, C, a5) (List.range 14)) ++ blk (D, C, a7) (List.range 14)) ++ blk (D, C, a9) (List.range 14)) ++ blk (D, C, a11) (List.range 14)) ++ blk (D, C, a13) (List.range 14))) (q := q14) (e0 := .inr (10, [.null, .null, .null, .int 0, .int 0, .int 0, .int 0, .int 0, .int 0])) (As := []) (rest := [.ref q14, .int 6, .ref q1]) S F B (c_X6_init l D C q14 H.size) (cwI 0 hts gX2_init_X6_init rfl rfl rfl (hts (.initialized RX6) (by decide +kernel)) (hts (.methodLink RX2 17 yX6_init) (by decide +kernel)) (hts (.instanceMethod yX6_init) (by decide +kernel)) rfl (by decide +kernel) ⟨Nat.le_of_ble_eq_true rfl, Nat.le_of_ble_eq_true rfl⟩) rfl hl.1 rfl (Nat.le_of_ble_eq_true rfl) dX2_init_30 ⟨Nat.le_of_ble_eq_true rfl, Nat.le_of_ble_eq_true rfl⟩ (fun a15 H locs hpa15 B9 => ?_)
  obtain rfl := hpa15
  have B : Bk D A (((((((([(h, .inr (6, [.ref q1, .int 0, .int 0])), (q1, .inl (C 5, 8, .inr (.inr (.inr (.inr (va_up (va_up (va_up (va_up (va_up (va_up (fun _ => none) (Int32.toNatClampNeg 0) (some (a3 0))) (Int32.toNatClampNeg 1) (some (a5 0))) (Int32.toNatClampNeg 2) (some (a7 0))) (Int32.toNatClampNeg 3) (some (a9 0))) (Int32.toNatClampNeg 4) (some (a11 0))) (Int32.toNatClampNeg 5) (some (a13 0))))))))] ++ blk (D, C, a3) (List.range 14)) ++ blk (D, C, a5) (List.range 14)) ++ blk (D, C, a7) (List.range 14)) ++ blk (D, C, a9) (List.range 14)) ++ blk (D, C, a11) (List.range 14)) ++ blk (D, C, a13) (List.range 14)) ++ blk (D, C, a15) (List.range 14))) s H locs := B9
  refine n_aast S F B 1 5 86 10 (r := (RX6, TX6, 9)) (n := 8) (f := (va_up (va_up (va_up (va_up (va_up (va_up (fun _ => none) (Int32.toNatClampNeg 0) (some (a3 0))) (Int32.toNatClampNeg 1) (some (a5 0))) (Int32.toNatClampNeg 2) (some (a7 0))) (Int32.toNatClampNeg 3) (some (a9 0))) (Int32.toNatClampNeg 4) (some (a11 0))) (Int32.toNatClampNeg 5) (some (a13 0)))) rfl rfl rfl rfl (vpc (by decide)) dX2_init_33 (fun H locs B => ?_)
  have B : Bk D A (((((((([(h, .inr (6, [.ref q1, .int 0, .int 0])), (q1, .inl (C 5, 8, .inr (.inr (.inr (.inr (va_up (va_up (va_up (va_up (va_up (va_up (va_up (fun _ => none) (Int32.toNatClampNeg 0) (some (a3 0))) (Int32.toNatClampNeg 1) (some (a5 0))) (Int32.toNatClampNeg 2) (some (a7 0))) (Int32.toNatClampNeg 3) (some (a9 0))) (Int32.toNatClampNeg 4) (some (a11 0))) (Int32.toNatClampNeg 5) (some (a13 0))) (Int32.toNatClampNeg 6) (some (a15 0))))))))] ++ blk (D, C, a3) (List.range 14)) ++ blk (D, C, a5) (List.range 14)) ++ blk (D, C, a7) (List.range 14)) ++ blk (D, C, a9) (List.range 14)) ++ blk (D, C, a11) (List.range 14)) ++ blk (D, C, a13) (List.range 14)) ++ blk (D, C, a15) (List.range 14))) s H locs := B
  refine lv_iinc (v := 7) (lv' := [(1, .int 7), (0, .ref h)]) hx hb dX2_init_34 hl (k := 0) rfl (by decide) (by decide) rfl (fun ls hl => ?_)
  refine lv_goto (tgt := 15) hx hb dX2_init_37 (by decide) ?_
  refine lv_iload_n hx hb dX2_init_15 rfl (lv_at hl 0 rfl) ?_
  refine lv_bipush (v := 8) hx hb dX2_init_16 (by decide) ?_
  refine lv_icmp_ge (tgt := 40) hx hb dX2_init_18 (by decide) (fun h => absurd h (by decide)) (fun _ => ?_)
  refine lv_aload_n hx hb dX2_init_21 rfl (lv_at hl 1 rfl) ?_
  refine n_get S F B (K := RX2) (T := TX2) (N := 3) (ci := 6) (v := .ref q1) (by decide +kernel) 0 rfl rfl 0 (by decide) (by decide +kernel) rfl dX2_init_22 ?_
  refine lv_iload_n hx hb dX2_init_25 rfl (lv_at hl 0 rfl) ?_
  refine n_obj S F B (K := RX6) (T := TX6) (N := 9) (ci := 10) (fs := [.null, .null, .null, .int 0, .int 0, .int 0, .int 0, .int 0, .int 0]) (by decide +kernel) tyX6 tyX6_ok (by decide +kernel) (by decide +kernel) (by decide +kernel) rfl (fun j hj => by rcases (show j = 0 ∨ j = 1 ∨ j = 2 ∨ j = 3 ∨ j = 4 ∨ j = 5 ∨ j = 6 ∨ j = 7 ∨ j = 8 by omega) with rfl | rfl | rfl | rfl | rfl | rfl | rfl | rfl | rfl <;> rfl) ⟨Nat.le_of_ble_eq_true rfl, Nat.le_of_ble_eq_true rfl⟩ dX2_init_26 (fun q16 H B => ?_)
  refine lv_dup hx hb dX2_init_29 rfl ?_
  refine n_call (wr := ((((((([(h, .inr (6, [.ref q1, .int 0, .int 0])), (q1, .inl (C 5, 8, .inr (.inr (.inr (.inr (va_up (va_up (va_up (va_up (va_up (va_up (va_up (fun _ => none) (Int32.toNatClampNeg 0) (some (a3 0))) (Int32.toNatClampNeg 1) (some (a5 0))) (Int32.toNatClampNeg 2) (some (a7 0))) (Int32.toNatClampNeg 3) (some (a9 0))) (Int32.toNatClampNeg 4) (some (a11 0))) (Int32.toNatClampNeg 5) (some (a13 0))) (Int32.toNatClampNeg 6) (some (a15 0))))))))] ++ blk (D, C, a3) (List.range 14)) ++ blk (D, C, a5) (List.range 14)) ++ blk (D, C, a7) (List.range 14)) ++ blk (D, C, a9) (List.range 14)) ++ blk (D, C, a11) (List.range 14)) ++ blk (D, C, a13) (List.range 14)) ++ blk (D, C, a15) (List.range 14))) (q := q16) (e0 := .inr (10, [.null, .null, .null, .int 0, .int 0, .int 0, .int 0, .int 0, .int 0])) (As := []) (rest := [.ref q16, .int 7, .ref q1]) S F B (c_X6_init l D C q16 H.size) (cwI 0 hts gX2_init_X6_init rfl rfl rfl (hts (.initialized RX6) (by decide +kernel)) (hts (.methodLink RX2 17 yX6_init) (by decide +kernel)) (hts (.instanceMethod yX6_init) (by decide +kernel)) rfl (by decide +kernel) ⟨Nat.le_of_ble_eq_true rfl, Nat.le_of_ble_eq_true rfl⟩) rfl hl.1 rfl (Nat.le_of_ble_eq_true rfl) dX2_init_30 ⟨Nat.le_of_ble_eq_true rfl, Nat.le_of_ble_eq_true rfl⟩ (fun a17 H locs hpa17 B9 => ?_)
  obtain rfl := hpa17
  have B : Bk D A ((((((((([(h, .inr (6, [.ref q1, .int 0, .int 0])), (q1, .inl (C 5, 8, .inr (.inr (.inr (.inr (va_up (va_up (va_up (va_up (va_up (va_up (va_up (fun _ => none) (Int32.toNatClampNeg 0) (some (a3 0))) (Int32.toNatClampNeg 1) (some (a5 0))) (Int32.toNatClampNeg 2) (some (a7 0))) (Int32.toNatClampNeg 3) (some (a9 0))) (Int32.toNatClampNeg 4) (some (a11 0))) (Int32.toNatClampNeg 5) (some (a13 0))) (Int32.toNatClampNeg 6) (some (a15 0))))))))] ++ blk (D, C, a3) (List.range 14)) ++ blk (D, C, a5) (List.range 14)) ++ blk (D, C, a7) (List.range 14)) ++ blk (D, C, a9) (List.range 14)) ++ blk (D, C, a11) (List.range 14)) ++ blk (D, C, a13) (List.range 14)) ++ blk (D, C, a15) (List.range 14)) ++ blk (D, C, a17) (List.range 14))) s H locs := B9
  refine n_aast S F B 1 5 100 10 (r := (RX6, TX6, 9)) (n := 8) (f := (va_up (va_up (va_up (va_up (va_up (va_up (va_up (fun _ => none) (Int32.toNatClampNeg 0) (some (a3 0))) (Int32.toNatClampNeg 1) (some (a5 0))) (Int32.toNatClampNeg 2) (some (a7 0))) (Int32.toNatClampNeg 3) (some (a9 0))) (Int32.toNatClampNeg 4) (some (a11 0))) (Int32.toNatClampNeg 5) (some (a13 0))) (Int32.toNatClampNeg 6) (some (a15 0)))) rfl rfl rfl rfl (vpc (by decide)) dX2_init_33 (fun H locs B => ?_)
  have B : Bk D A ((((((((([(h, .inr (6, [.ref q1, .int 0, .int 0])), (q1, .inl (C 5, 8, .inr (.inr (.inr (.inr (va_up (va_up (va_up (va_up (va_up (va_up (va_up (va_up (fun _ => none) (Int32.toNatClampNeg 0) (some (a3 0))) (Int32.toNatClampNeg 1) (some (a5 0))) (Int32.toNatClampNeg 2) (some (a7 0))) (Int32.toNatClampNeg 3) (some (a9 0))) (Int32.toNatClampNeg 4) (some (a11 0))) (Int32.toNatClampNeg 5) (some (a13 0))) (Int32.toNatClampNeg 6) (some (a15 0))) (Int32.toNatClampNeg 7) (some (a17 0))))))))] ++ blk (D, C, a3) (List.range 14)) ++ blk (D, C, a5) (List.range 14)) ++ blk (D, C, a7) (List.range 14)) ++ blk (D, C, a9) (List.range 14)) ++ blk (D, C, a11) (List.range 14)) ++ blk (D, C, a13) (List.range 14)) ++ blk (D, C, a15) (List.range 14)) ++ blk (D, C, a17) (List.range 14))) s H locs := B
  refine lv_iinc (v := 8) (lv' := [(1, .int 8), (0, .ref h)]) hx hb dX2_init_34 hl (k := 0) rfl (by decide) (by decide) rfl (fun ls hl => ?_)
  refine lv_goto (tgt := 15) hx hb dX2_init_37 (by decide) ?_
  refine lv_iload_n hx hb dX2_init_15 rfl (lv_at hl 0 rfl) ?_
  refine lv_bipush (v := 8) hx hb dX2_init_16 (by decide) ?_
  refine lv_icmp_ge (tgt := 40) hx hb dX2_init_18 (by decide) (fun _ => ?_) (fun h => absurd h (by decide))
  refine W.widen (k := 113) (n := 800) (Nat.le_of_ble_eq_true rfl) (Nat.le_of_ble_eq_true rfl) ?_
  subst hA
  refine n_ret (a := (q1, fun j => [a3, a5, a7, a9, a11, a13, a15, a17].getD j (fun _ => 0))) F B hx hb hr hlocks trivial ?_ dX2_init_40
  have e8 := up8 (fun j => (fun j => [a3, a5, a7, a9, a11, a13, a15, a17].getD j (fun _ => 0)) j 0)
  have e8 : (va_up (va_up (va_up (va_up (va_up (va_up (va_up (va_up (fun _ => none) (Int32.toNatClampNeg 0) (some (a3 0))) (Int32.toNatClampNeg 1) (some (a5 0))) (Int32.toNatClampNeg 2) (some (a7 0))) (Int32.toNatClampNeg 3) (some (a9 0))) (Int32.toNatClampNeg 4) (some (a11 0))) (Int32.toNatClampNeg 5) (some (a13 0))) (Int32.toNatClampNeg 6) (some (a15 0))) (Int32.toNatClampNeg 7) (some (a17 0))) = _ := e8
  rw [e8]
  rfl

set_option maxHeartbeats 8000000 in
set_option maxRecDepth 100000 in
theorem c_X0_init (l : Launch) (D : va_G) (C : Nat → ClassId) (h sz : Nat) : Met l yX0_init wsX0_init { frames := 1, cells := 33, slots := 210, locals := 12 } (va_Pc [.ref h] (PK D C sz [(h, .inr (4, [.null, .null, .null, .int 0, .int 0, .int 0, .int 0, .int 0]))])) (QK D sz [(h, .inr (4, [.null, .null, .null, .int 0, .int 0, .int 0, .int 0, .int 0]))] (fun a : Nat → Nat => True) (fun a : Nat → Nat => ([(h, .inr (4, [.ref (a 0), .ref (a 1), .ref (a 2), .int 0, .int 0, .int 0, .int 0, .int (-1)])), (a 0, .inl (C 1, 60, .inl (fun _ => 0))), (a 1, .inl (C 1, 30, .inl (fun _ => 0))), (a 2, .inl (C 6, 30, .inr (.inr (.inr (.inr (fun i => if i < 30 then some (a (3 + i)) else none))))))] ++ (List.range 30).map (fun i => (a (3 + i), .inl (C 0, 3, .inl (fun _ => 0))))))) 33 210 (va_A [(h, .inr (4, [.null, .null, .null, .int 0, .int 0, .int 0, .int 0, .int 0]))] sz) := by
  refine Met.ofW (cc := cX0_init) (maxL := 1) (ret := none) (by decide) rfl ?_
  intro p e s m args below meth c s₁ B0 hml hv
  obtain ⟨rfl, hpk⟩ := hv
  have hsz := hpk.1
  subst hsz
  obtain ⟨F, B⟩ := hpk.to
  have hx := B0.exec
  have hb := B0.bytes
  have hr := B0.returns
  have hts := atoms_spec (ws := wsX0_init) B0.pre
  have hown : s.vm.findClass RX0 = some m.cls := findClass_of_methodNamed B0.named
  have hlocks := B0.notSynchronized
  have hin2 : meth.name = "<init>" := (name_of_methodNamed B0.named B0.method).1
  have S : CallFix p m c cX0_init 1 s _ wsX0_init RX0 := ⟨hx, hb, hml, hown, hts⟩
  have hl := lv_entry [.ref h] (n := 1) (Nat.le_of_ble_eq_true rfl)
  rw [lg_entry_eq]
  generalize (lg_sl [.ref h] ++ List.replicate (1 - (lg_sl [.ref h]).length) Slot.unset).toArray = ls at hl ⊢
  have hl : lv_has ls 1 [(0, .ref h)] := hl
  generalize hA : va_A [(h, .inr (4, [.null, .null, .null, .int 0, .int 0, .int 0, .int 0, .int 0]))] s.heap.size = A at F B ⊢
  refine lv_aload_n hx hb dX0_init_0 rfl (lv_at hl 0 rfl) ?_
  refine n_oinit S (by decide +kernel) (by decide +kernel) (by decide +kernel) hl.1 dX0_init_1 (Nat.le_of_ble_eq_true rfl) (Nat.le_of_ble_eq_true rfl) ?_
  refine lv_aload_n hx hb dX0_init_4 rfl (lv_at hl 0 rfl) ?_
  refine lv_bipush (v := 60) hx hb dX0_init_5 (by decide) ?_
  refine n_arr S F B (atype := .char) (ty := .char) (t := 1) (c0 := C 1) (n := 60) (N' := 60) (a0 := (60, .inl (fun _ => 0))) (by decide +kernel) rfl rfl (fun _ => rfl) (by decide) (by decide) (by decide) ⟨Nat.le_of_ble_eq_true rfl, Nat.le_of_ble_eq_true rfl⟩ dX0_init_7 (fun q1 H B => ?_)
  have B : Bk D A ([(h, .inr (4, [.null, .null, .null, .int 0, .int 0, .int 0, .int 0, .int 0])), (q1, .inl (C 1, 60, .inl (fun _ => 0)))]) s H [] := B
  refine n_putF S F B hin2 (K := RX0) (T := TX0) (N := 8) (ci := 4) (ty := (.array .char)) (v := .ref q1) (by decide +kernel) tyX0 tyX0_ok nmX0 0 rfl rfl 0 (by decide) (by decide +kernel) rfl rfl (by decide +kernel) rfl rfl (Nat.le_of_ble_eq_true rfl) dX0_init_9 (fun H locs B => ?_)
  have B : Bk D A ([(h, .inr (4, [.ref q1, .null, .null, .int 0, .int 0, .int 0, .int 0, .int 0])), (q1, .inl (C 1, 60, .inl (fun _ => 0)))]) s H locs := B
  refine lv_aload_n hx hb dX0_init_12 rfl (lv_at hl 0 rfl) ?_
  refine lv_bipush (v := 30) hx hb dX0_init_13 (by decide) ?_
  refine n_arr S F B (atype := .char) (ty := .char) (t := 1) (c0 := C 1) (n := 30) (N' := 30) (a0 := (30, .inl (fun _ => 0))) (by decide +kernel) rfl rfl (fun _ => rfl) (by decide) (by decide) (by decide) ⟨Nat.le_of_ble_eq_true rfl, Nat.le_of_ble_eq_true rfl⟩ dX0_init_15 (fun q2 H B => ?_)
  have B : Bk D A ([(h, .inr (4, [.ref q1, .null, .null, .int 0, .int 0, .int 0, .int 0, .int 0])), (q1, .inl (C 1, 60, .inl (fun _ => 0))), (q2, .inl (C 1, 30, .inl (fun _ => 0)))]) s H locs := B
  refine n_putF S F B hin2 (K := RX0) (T := TX0) (N := 8) (ci := 4) (ty := (.array .char)) (v := .ref q2) (by decide +kernel) tyX0 tyX0_ok nmX0 0 rfl rfl 1 (by decide) (by decide +kernel) rfl rfl (by decide +kernel) rfl rfl (Nat.le_of_ble_eq_true rfl) dX0_init_17 (fun H locs B => ?_)
  have B : Bk D A ([(h, .inr (4, [.ref q1, .ref q2, .null, .int 0, .int 0, .int 0, .int 0, .int 0])), (q1, .inl (C 1, 60, .inl (fun _ => 0))), (q2, .inl (C 1, 30, .inl (fun _ => 0)))]) s H locs := B
  refine lv_aload_n hx hb dX0_init_20 rfl (lv_at hl 0 rfl) ?_
  refine lv_bipush (v := 30) hx hb dX0_init_21 (by decide) ?_
  refine lv_iconst (v := 3) hx hb dX0_init_23 (by decide) ?_
  have hcy : s.vm.findClass "[I" = some (C 0) := (F.1.2 0 _ rfl).2
  have B0 : va_P D vwCl ([(h, .inr (4, [.ref q1, .ref q2, .null, .int 0, .int 0, .int 0, .int 0, .int 0])), (q1, .inl (C 1, 60, .inl (fun _ => 0))), (q2, .inl (C 1, 30, .inl (fun _ => 0)))] ++ va_pl [] (fun _ => .inr (0, []))) H ∧ va_D A ([(h, .inr (4, [.ref q1, .ref q2, .null, .int 0, .int 0, .int 0, .int 0, .int 0])), (q1, .inl (C 1, 60, .inl (fun _ => 0))), (q2, .inl (C 1, 30, .inl (fun _ => 0)))] ++ va_pl [] (fun _ => .inr (0, []))) := by rw [show va_pl [] (fun _ => (.inr (0, []) : va_E)) = [] from rfl, List.append_nil]; exact ⟨B.1, B.2.1⟩
  refine va_mna (ty := .int) (cy := C 0) (N' := 30) (K' := 3) (z := (3, .inl (fun _ => 0))) S.1 S.2.1 S.2.2.2.1 (hts (.classLink RX0 18 "[[I") (by decide +kernel)) F.2.1.2.2.1.2.2.2 (hts (.arrayClass .int) (by decide +kernel)) hcy F.1 B0.1 B0.2 B.2.2 F.2.2 (by decide) (by decide) (by decide) (by decide) (by decide) (by decide) (by decide) rfl rfl (Nat.le_of_ble_eq_true rfl) (Nat.le_of_ble_eq_true rfl) (fun _ => rfl) dX0_init_24 (fun q3 r cA H hri hrL hKA hP hD hS => ?_)
  have e : cA = C 6 := ra_eq (hKA.2 9 (cA, .array .int) rfl).2 (F.1.2 6 _ rfl).2
  rw [e] at hP hD
  have B : Bk D A (([(h, .inr (4, [.ref q1, .ref q2, .null, .int 0, .int 0, .int 0, .int 0, .int 0])), (q1, .inl (C 1, 60, .inl (fun _ => 0))), (q2, .inl (C 1, 30, .inl (fun _ => 0))), (q3, .inl (C 6, 30, .inr (.inr (.inr (.inr (fun i => if i < 30 then some (r i) else none))))))] ++ va_pl ((List.range 30).map r) (vr_up (fun _ => .inr (0, [])) ((List.range 30).map r) (.inl (C 0, 3, .inl (fun _ => 0)))))) s H locs := ⟨hP, hD, hS⟩
  refine n_putF S F B hin2 (K := RX0) (T := TX0) (N := 8) (ci := 4) (ty := (.array (.array .int))) (v := .ref q3) (by decide +kernel) tyX0 tyX0_ok nmX0 0 rfl rfl 2 (by decide) (by decide +kernel) rfl rfl (by decide +kernel) rfl rfl (Nat.le_of_ble_eq_true rfl) dX0_init_28 (fun H locs B => ?_)
  have B : Bk D A (([(h, .inr (4, [.ref q1, .ref q2, .ref q3, .int 0, .int 0, .int 0, .int 0, .int 0])), (q1, .inl (C 1, 60, .inl (fun _ => 0))), (q2, .inl (C 1, 30, .inl (fun _ => 0))), (q3, .inl (C 6, 30, .inr (.inr (.inr (.inr (fun i => if i < 30 then some (r i) else none))))))] ++ va_pl ((List.range 30).map r) (vr_up (fun _ => .inr (0, [])) ((List.range 30).map r) (.inl (C 0, 3, .inl (fun _ => 0)))))) s H locs := B
  refine lv_aload_n hx hb dX0_init_31 rfl (lv_at hl 0 rfl) ?_
  refine lv_iconst (v := (-1)) hx hb dX0_init_32 (by decide) ?_
  refine n_put S F B (K := RX0) (T := TX0) (N := 8) (ci := 4) (ty := .int) (v := .int (-1)) (by decide +kernel) tyX0 tyX0_ok nmX0 0 rfl rfl 7 (by decide) (by decide +kernel) rfl (by decide +kernel) rfl rfl (Nat.le_of_ble_eq_true rfl) dX0_init_33 (fun H locs B => ?_)
  have B : Bk D A (([(h, .inr (4, [.ref q1, .ref q2, .ref q3, .int 0, .int 0, .int 0, .int 0, .int (-1)])), (q1, .inl (C 1, 60, .inl (fun _ => 0))), (q2, .inl (C 1, 30, .inl (fun _ => 0))), (q3, .inl (C 6, 30, .inr (.inr (.inr (.inr (fun i => if i < 30 then some (r i) else none))))))] ++ va_pl ((List.range 30).map r) (vr_up (fun _ => .inr (0, [])) ((List.range 30).map r) (.inl (C 0, 3, .inl (fun _ => 0)))))) s H locs := B
  refine W.widen (k := 33) (n := 210) (Nat.le_of_ble_eq_true rfl) (Nat.le_of_ble_eq_true rfl) ?_
  subst hA
  refine n_ret (a := (fun i => if i = 0 then q1 else if i = 1 then q2 else if i = 2 then q3 else r (i - 3))) F B hx hb hr hlocks trivial ?_ dX0_init_36
  have e1 : ∀ i : Nat, (fun i => if i = 0 then q1 else if i = 1 then q2 else if i = 2 then q3 else r (i - 3)) (3 + i) = r i := fun i => by show (if 3 + i = 0 then q1 else if 3 + i = 1 then q2 else if 3 + i = 2 then q3 else r (3 + i - 3)) = _; rw [if_neg (by omega), if_neg (by omega), if_neg (by omega), Nat.add_sub_cancel_left]
  have e2 : va_pl ((List.range 30).map r) (vr_up (fun _ => .inr (0, [])) ((List.range 30).map r) (.inl (C 0, 3, .inl (fun _ => 0)))) = (List.range 30).map (fun i => (r i, (.inl (C 0, 3, .inl (fun _ => 0)) : va_E))) := by
    unfold va_pl
    rw [List.map_map]
    apply List.map_congr_left
    intro i hi
    show (r i, vr_up _ _ _ (r i)) = _
    rw [vr_up_in (List.mem_map_of_mem hi)]
  rw [e2]
  simp only [e1]
  rfl

set_option maxHeartbeats 8000000 in
set_option maxRecDepth 100000 in
theorem c_X10_init (l : Launch) (D : va_G) (C : Nat → ClassId) (h sz : Nat) : Met l yX10_init wsX10_init { frames := 1, cells := 8, slots := 1296, locals := 12 } (va_Pc [.ref h] (PK D C sz [(h, .inr (14, [.null, .null, .null, .int 0, .null, .int 0, .int 0, .int 0, .int 0, .int 0, .null, .int 0, .int 0, .null, .null, .int 0, .int 0, .int 0, .int 0, .null, .int 0]))])) (QK D sz [(h, .inr (14, [.null, .null, .null, .int 0, .null, .int 0, .int 0, .int 0, .int 0, .int 0, .null, .int 0, .int 0, .null, .null, .int 0, .int 0, .int 0, .int 0, .null, .int 0]))] (fun a : Nat → Nat => True) (fun a : Nat → Nat => [(h, .inr (14, [.ref (a 0), .ref (a 1), .ref (a 2), .int 0, .ref (a 3), .int 0, .int 0, .int 0, .int 0, .int (-1), .ref (a 4), .int 0, .int 0, .ref (a 5), .ref (a 6), .int 0, .int 0, .int 0, .int 0, .ref (a 7), .int 0])), (a 0, .inl (C 0, 86, .inl (upd (fun _ => 0) (Int32.toNatClampNeg 2) (-1)))), (a 1, .inl (C 0, 86, .inl (fun _ => 0))), (a 2, .inl (C 0, 86, .inl (fun _ => 0))), (a 3, .inl (C 0, 688, .inl (fun _ => 0))), (a 4, .inl (C 0, 60, .inl (fun _ => 0))), (a 5, .inl (C 0, 16, .inl (fun _ => 0))), (a 6, .inl (C 0, 244, .inl (fun _ => 0))), (a 7, .inl (C 0, 30, .inl (fun _ => 0)))])) 8 1296 (va_A [(h, .inr (14, [.null, .null, .null, .int 0, .null, .int 0, .int 0, .int 0, .int 0, .int 0, .null, .int 0, .int 0, .null, .null, .int 0, .int 0, .int 0, .int 0, .null, .int 0]))] sz) := by
  refine Met.ofW (cc := cX10_init) (maxL := 1) (ret := none) (by decide) rfl ?_
  intro p e s m args below meth c s₁ B0 hml hv
  obtain ⟨rfl, hpk⟩ := hv
  have hsz := hpk.1
  subst hsz
  obtain ⟨F, B⟩ := hpk.to
  have hx := B0.exec
  have hb := B0.bytes
  have hr := B0.returns
  have hts := atoms_spec (ws := wsX10_init) B0.pre
  have hown : s.vm.findClass RX10 = some m.cls := findClass_of_methodNamed B0.named
  have hlocks := B0.notSynchronized
  have hin2 : meth.name = "<init>" := (name_of_methodNamed B0.named B0.method).1
  have S : CallFix p m c cX10_init 1 s _ wsX10_init RX10 := ⟨hx, hb, hml, hown, hts⟩
  have hl := lv_entry [.ref h] (n := 1) (Nat.le_of_ble_eq_true rfl)
  rw [lg_entry_eq]
  generalize (lg_sl [.ref h] ++ List.replicate (1 - (lg_sl [.ref h]).length) Slot.unset).toArray = ls at hl ⊢
  have hl : lv_has ls 1 [(0, .ref h)] := hl
  generalize hA : va_A [(h, .inr (14, [.null, .null, .null, .int 0, .null, .int 0, .int 0, .int 0, .int 0, .int 0, .null, .int 0, .int 0, .null, .null, .int 0, .int 0, .int 0, .int 0, .null, .int 0]))] s.heap.size = A at F B ⊢
  refine lv_aload_n hx hb dX10_init_0 rfl (lv_at hl 0 rfl) ?_
  refine n_oinit S (by decide +kernel) (by decide +kernel) (by decide +kernel) hl.1 dX10_init_1 (Nat.le_of_ble_eq_true rfl) (Nat.le_of_ble_eq_true rfl) ?_
  refine lv_aload_n hx hb dX10_init_4 rfl (lv_at hl 0 rfl) ?_
  refine lv_bipush (v := 86) hx hb dX10_init_5 (by decide) ?_
  refine n_arr S F B (atype := .int) (ty := .int) (t := 0) (c0 := C 0) (n := 86) (N' := 86) (a0 := (86, .inl (fun _ => 0))) (by decide +kernel) rfl rfl (fun _ => rfl) (by decide) (by decide) (by decide) ⟨Nat.le_of_ble_eq_true rfl, Nat.le_of_ble_eq_true rfl⟩ dX10_init_7 (fun q1 H B => ?_)
  have B : Bk D A ([(h, .inr (14, [.null, .null, .null, .int 0, .null, .int 0, .int 0, .int 0, .int 0, .int 0, .null, .int 0, .int 0, .null, .null, .int 0, .int 0, .int 0, .int 0, .null, .int 0])), (q1, .inl (C 0, 86, .inl (fun _ => 0)))]) s H [] := B
  refine n_putF S F B hin2 (K := RX10) (T := TX10) (N := 21) (ci := 14) (ty := (.array .int)) (v := .ref q1) (by decide +kernel) tyX10 tyX10_ok nmX10 0 rfl rfl 0 (by decide) (by decide +kernel) rfl rfl (by decide +kernel) rfl rfl (Nat.le_of_ble_eq_true rfl) dX10_init_9 (fun H locs B => ?_)
  have B : Bk D A ([(h, .inr (14, [.ref q1, .null, .null, .int 0, .null, .int 0, .int 0, .int 0, .int 0, .int 0, .null, .int 0, .int 0, .null, .null, .int 0, .int 0, .int 0, .int 0, .null, .int 0])), (q1, .inl (C 0, 86, .inl (fun _ => 0)))]) s H locs := B
  refine lv_aload_n hx hb dX10_init_12 rfl (lv_at hl 0 rfl) ?_
  refine lv_bipush (v := 86) hx hb dX10_init_13 (by decide) ?_
  refine n_arr S F B (atype := .int) (ty := .int) (t := 0) (c0 := C 0) (n := 86) (N' := 86) (a0 := (86, .inl (fun _ => 0))) (by decide +kernel) rfl rfl (fun _ => rfl) (by decide) (by decide) (by decide) ⟨Nat.le_of_ble_eq_true rfl, Nat.le_of_ble_eq_true rfl⟩ dX10_init_15 (fun q2 H B => ?_)
  have B : Bk D A ([(h, .inr (14, [.ref q1, .null, .null, .int 0, .null, .int 0, .int 0, .int 0, .int 0, .int 0, .null, .int 0, .int 0, .null, .null, .int 0, .int 0, .int 0, .int 0, .null, .int 0])), (q1, .inl (C 0, 86, .inl (fun _ => 0))), (q2, .inl (C 0, 86, .inl (fun _ => 0)))]) s H locs := B
  refine n_putF S F B hin2 (K := RX10) (T := TX10) (N := 21) (ci := 14) (ty := (.array .int)) (v := .ref q2) (by decide +kernel) tyX10 tyX10_ok nmX10 0 rfl rfl 1 (by decide) (by decide +kernel) rfl rfl (by decide +kernel) rfl rfl (Nat.le_of_ble_eq_true rfl) dX10_init_17 (fun H locs B => ?_)
  have B : Bk D A ([(h, .inr (14, [.ref q1, .ref q2, .null, .int 0, .null, .int 0, .int 0, .int 0, .int 0, .int 0, .null, .int 0, .int 0, .null, .null, .int 0, .int 0, .int 0, .int 0, .null, .int 0])), (q1, .inl (C 0, 86, .inl (fun _ => 0))), (q2, .inl (C 0, 86, .inl (fun _ => 0)))]) s H locs := B
  refine lv_aload_n hx hb dX10_init_20 rfl (lv_at hl 0 rfl) ?_
  refine lv_bipush (v := 86) hx hb dX10_init_21 (by decide) ?_
  refine n_arr S F B (atype := .int) (ty := .int) (t := 0) (c0 := C 0) (n := 86) (N' := 86) (a0 := (86, .inl (fun _ => 0))) (by decide +kernel) rfl rfl (fun _ => rfl) (by decide) (by decide) (by decide) ⟨Nat.le_of_ble_eq_true rfl, Nat.le_of_ble_eq_true rfl⟩ dX10_init_23 (fun q3 H B => ?_)
  have B : Bk D A ([(h, .inr (14, [.ref q1, .ref q2, .null, .int 0, .null, .int 0, .int 0, .int 0, .int 0, .int 0, .null, .int 0, .int 0, .null, .null, .int 0, .int 0, .int 0, .int 0, .null, .int 0])), (q1, .inl (C 0, 86, .inl (fun _ => 0))), (q2, .inl (C 0, 86, .inl (fun _ => 0))), (q3, .inl (C 0, 86, .inl (fun _ => 0)))]) s H locs := B
  refine n_putF S F B hin2 (K := RX10) (T := TX10) (N := 21) (ci := 14) (ty := (.array .int)) (v := .ref q3) (by decide +kernel) tyX10 tyX10_ok nmX10 0 rfl rfl 2 (by decide) (by decide +kernel) rfl rfl (by decide +kernel) rfl rfl (Nat.le_of_ble_eq_true rfl) dX10_init_25 (fun H locs B => ?_)
  have B : Bk D A ([(h, .inr (14, [.ref q1, .ref q2, .ref q3, .int 0, .null, .int 0, .int 0, .int 0, .int 0, .int 0, .null, .int 0, .int 0, .null, .null, .int 0, .int 0, .int 0, .int 0, .null, .int 0])), (q1, .inl (C 0, 86, .inl (fun _ => 0))), (q2, .inl (C 0, 86, .inl (fun _ => 0))), (q3, .inl (C 0, 86, .inl (fun _ => 0)))]) s H locs := B
  refine lv_aload_n hx hb dX10_init_28 rfl (lv_at hl 0 rfl) ?_
  refine lv_sipush (v := 688) hx hb dX10_init_29 (by decide) ?_
  refine n_arr S F B (atype := .int) (ty := .int) (t := 0) (c0 := C 0) (n := 688) (N' := 688) (a0 := (688, .inl (fun _ => 0))) (by decide +kernel) rfl rfl (fun _ => rfl) (by decide) (by decide) (by decide) ⟨Nat.le_of_ble_eq_true rfl, Nat.le_of_ble_eq_true rfl⟩ dX10_init_32 (fun q4 H B => ?_)
  have B : Bk D A ([(h, .inr (14, [.ref q1, .ref q2, .ref q3, .int 0, .null, .int 0, .int 0, .int 0, .int 0, .int 0, .null, .int 0, .int 0, .null, .null, .int 0, .int 0, .int 0, .int 0, .null, .int 0])), (q1, .inl (C 0, 86, .inl (fun _ => 0))), (q2, .inl (C 0, 86, .inl (fun _ => 0))), (q3, .inl (C 0, 86, .inl (fun _ => 0))), (q4, .inl (C 0, 688, .inl (fun _ => 0)))]) s H locs := B
  refine n_putF S F B hin2 (K := RX10) (T := TX10) (N := 21) (ci := 14) (ty := (.array .int)) (v := .ref q4) (by decide +kernel) tyX10 tyX10_ok nmX10 0 rfl rfl 4 (by decide) (by decide +kernel) rfl rfl (by decide +kernel) rfl rfl (Nat.le_of_ble_eq_true rfl) dX10_init_34 (fun H locs B => ?_)
  have B : Bk D A ([(h, .inr (14, [.ref q1, .ref q2, .ref q3, .int 0, .ref q4, .int 0, .int 0, .int 0, .int 0, .int 0, .null, .int 0, .int 0, .null, .null, .int 0, .int 0, .int 0, .int 0, .null, .int 0])), (q1, .inl (C 0, 86, .inl (fun _ => 0))), (q2, .inl (C 0, 86, .inl (fun _ => 0))), (q3, .inl (C 0, 86, .inl (fun _ => 0))), (q4, .inl (C 0, 688, .inl (fun _ => 0)))]) s H locs := B
  refine lv_aload_n hx hb dX10_init_37 rfl (lv_at hl 0 rfl) ?_
  refine lv_iconst (v := (-1)) hx hb dX10_init_38 (by decide) ?_
  refine n_put S F B (K := RX10) (T := TX10) (N := 21) (ci := 14) (ty := .int) (v := .int (-1)) (by decide +kernel) tyX10 tyX10_ok nmX10 0 rfl rfl 9 (by decide) (by decide +kernel) rfl (by decide +kernel) rfl rfl (Nat.le_of_ble_eq_true rfl) dX10_init_39 (fun H locs B => ?_)
  have B : Bk D A ([(h, .inr (14, [.ref q1, .ref q2, .ref q3, .int 0, .ref q4, .int 0, .int 0, .int 0, .int 0, .int (-1), .null, .int 0, .int 0, .null, .null, .int 0, .int 0, .int 0, .int 0, .null, .int 0])), (q1, .inl (C 0, 86, .inl (fun _ => 0))), (q2, .inl (C 0, 86, .inl (fun _ => 0))), (q3, .inl (C 0, 86, .inl (fun _ => 0))), (q4, .inl (C 0, 688, .inl (fun _ => 0)))]) s H locs := B
  refine lv_aload_n hx hb dX10_init_42 rfl (lv_at hl 0 rfl) ?_
  refine lv_bipush (v := 60) hx hb dX10_init_43 (by decide) ?_
  refine n_arr S F B (atype := .int) (ty := .int) (t := 0) (c0 := C 0) (n := 60) (N' := 60) (a0 := (60, .inl (fun _ => 0))) (by decide +kernel) rfl rfl (fun _ => rfl) (by decide) (by decide) (by decide) ⟨Nat.le_of_ble_eq_true rfl, Nat.le_of_ble_eq_true rfl⟩ dX10_init_45 (fun q5 H B => ?_)
  have B : Bk D A ([(h, .inr (14, [.ref q1, .ref q2, .ref q3, .int 0, .ref q4, .int 0, .int 0, .int 0, .int 0, .int (-1), .null, .int 0, .int 0, .null, .null, .int 0, .int 0, .int 0, .int 0, .null, .int 0])), (q1, .inl (C 0, 86, .inl (fun _ => 0))), (q2, .inl (C 0, 86, .inl (fun _ => 0))), (q3, .inl (C 0, 86, .inl (fun _ => 0))), (q4, .inl (C 0, 688, .inl (fun _ => 0))), (q5, .inl (C 0, 60, .inl (fun _ => 0)))]) s H locs := B
  refine n_putF S F B hin2 (K := RX10) (T := TX10) (N := 21) (ci := 14) (ty := (.array .int)) (v := .ref q5) (by decide +kernel) tyX10 tyX10_ok nmX10 0 rfl rfl 10 (by decide) (by decide +kernel) rfl rfl (by decide +kernel) rfl rfl (Nat.le_of_ble_eq_true rfl) dX10_init_47 (fun H locs B => ?_)
  have B : Bk D A ([(h, .inr (14, [.ref q1, .ref q2, .ref q3, .int 0, .ref q4, .int 0, .int 0, .int 0, .int 0, .int (-1), .ref q5, .int 0, .int 0, .null, .null, .int 0, .int 0, .int 0, .int 0, .null, .int 0])), (q1, .inl (C 0, 86, .inl (fun _ => 0))), (q2, .inl (C 0, 86, .inl (fun _ => 0))), (q3, .inl (C 0, 86, .inl (fun _ => 0))), (q4, .inl (C 0, 688, .inl (fun _ => 0))), (q5, .inl (C 0, 60, .inl (fun _ => 0)))]) s H locs := B
  refine lv_aload_n hx hb dX10_init_50 rfl (lv_at hl 0 rfl) ?_
  refine lv_bipush (v := 16) hx hb dX10_init_51 (by decide) ?_
  refine n_arr S F B (atype := .int) (ty := .int) (t := 0) (c0 := C 0) (n := 16) (N' := 16) (a0 := (16, .inl (fun _ => 0))) (by decide +kernel) rfl rfl (fun _ => rfl) (by decide) (by decide) (by decide) ⟨Nat.le_of_ble_eq_true rfl, Nat.le_of_ble_eq_true rfl⟩ dX10_init_53 (fun q6 H B => ?_)
  have B : Bk D A ([(h, .inr (14, [.ref q1, .ref q2, .ref q3, .int 0, .ref q4, .int 0, .int 0, .int 0, .int 0, .int (-1), .ref q5, .int 0, .int 0, .null, .null, .int 0, .int 0, .int 0, .int 0, .null, .int 0])), (q1, .inl (C 0, 86, .inl (fun _ => 0))), (q2, .inl (C 0, 86, .inl (fun _ => 0))), (q3, .inl (C 0, 86, .inl (fun _ => 0))), (q4, .inl (C 0, 688, .inl (fun _ => 0))), (q5, .inl (C 0, 60, .inl (fun _ => 0))), (q6, .inl (C 0, 16, .inl (fun _ => 0)))]) s H locs := B
  refine n_putF S F B hin2 (K := RX10) (T := TX10) (N := 21) (ci := 14) (ty := (.array .int)) (v := .ref q6) (by decide +kernel) tyX10 tyX10_ok nmX10 0 rfl rfl 13 (by decide) (by decide +kernel) rfl rfl (by decide +kernel) rfl rfl (Nat.le_of_ble_eq_true rfl) dX10_init_55 (fun H locs B => ?_)
  have B : Bk D A ([(h, .inr (14, [.ref q1, .ref q2, .ref q3, .int 0, .ref q4, .int 0, .int 0, .int 0, .int 0, .int (-1), .ref q5, .int 0, .int 0, .ref q6, .null, .int 0, .int 0, .int 0, .int 0, .null, .int 0])), (q1, .inl (C 0, 86, .inl (fun _ => 0))), (q2, .inl (C 0, 86, .inl (fun _ => 0))), (q3, .inl (C 0, 86, .inl (fun _ => 0))), (q4, .inl (C 0, 688, .inl (fun _ => 0))), (q5, .inl (C 0, 60, .inl (fun _ => 0))), (q6, .inl (C 0, 16, .inl (fun _ => 0)))]) s H locs := B
  refine lv_aload_n hx hb dX10_init_58 rfl (lv_at hl 0 rfl) ?_
  refine lv_sipush (v := 244) hx hb dX10_init_59 (by decide) ?_
  refine n_arr S F B (atype := .int) (ty := .int) (t := 0) (c0 := C 0) (n := 244) (N' := 244) (a0 := (244, .inl (fun _ => 0))) (by decide +kernel) rfl rfl (fun _ => rfl) (by decide) (by decide) (by decide) ⟨Nat.le_of_ble_eq_true rfl, Nat.le_of_ble_eq_true rfl⟩ dX10_init_62 (fun q7 H B => ?_)
  have B : Bk D A ([(h, .inr (14, [.ref q1, .ref q2, .ref q3, .int 0, .ref q4, .int 0, .int 0, .int 0, .int 0, .int (-1), .ref q5, .int 0, .int 0, .ref q6, .null, .int 0, .int 0, .int 0, .int 0, .null, .int 0])), (q1, .inl (C 0, 86, .inl (fun _ => 0))), (q2, .inl (C 0, 86, .inl (fun _ => 0))), (q3, .inl (C 0, 86, .inl (fun _ => 0))), (q4, .inl (C 0, 688, .inl (fun _ => 0))), (q5, .inl (C 0, 60, .inl (fun _ => 0))), (q6, .inl (C 0, 16, .inl (fun _ => 0))), (q7, .inl (C 0, 244, .inl (fun _ => 0)))]) s H locs := B
  refine n_putF S F B hin2 (K := RX10) (T := TX10) (N := 21) (ci := 14) (ty := (.array .int)) (v := .ref q7) (by decide +kernel) tyX10 tyX10_ok nmX10 0 rfl rfl 14 (by decide) (by decide +kernel) rfl rfl (by decide +kernel) rfl rfl (Nat.le_of_ble_eq_true rfl) dX10_init_64 (fun H locs B => ?_)
  have B : Bk D A ([(h, .inr (14, [.ref q1, .ref q2, .ref q3, .int 0, .ref q4, .int 0, .int 0, .int 0, .int 0, .int (-1), .ref q5, .int 0, .int 0, .ref q6, .ref q7, .int 0, .int 0, .int 0, .int 0, .null, .int 0])), (q1, .inl (C 0, 86, .inl (fun _ => 0))), (q2, .inl (C 0, 86, .inl (fun _ => 0))), (q3, .inl (C 0, 86, .inl (fun _ => 0))), (q4, .inl (C 0, 688, .inl (fun _ => 0))), (q5, .inl (C 0, 60, .inl (fun _ => 0))), (q6, .inl (C 0, 16, .inl (fun _ => 0))), (q7, .inl (C 0, 244, .inl (fun _ => 0)))]) s H locs := B
  refine lv_aload_n hx hb dX10_init_67 rfl (lv_at hl 0 rfl) ?_
  refine lv_bipush (v := 30) hx hb dX10_init_68 (by decide) ?_
  refine n_arr S F B (atype := .int) (ty := .int) (t := 0) (c0 := C 0) (n := 30) (N' := 30) (a0 := (30, .inl (fun _ => 0))) (by decide +kernel) rfl rfl (fun _ => rfl) (by decide) (by decide) (by decide) ⟨Nat.le_of_ble_eq_true rfl, Nat.le_of_ble_eq_true rfl⟩ dX10_init_70 (fun q8 H B => ?_)
  have B : Bk D A ([(h, .inr (14, [.ref q1, .ref q2, .ref q3, .int 0, .ref q4, .int 0, .int 0, .int 0, .int 0, .int (-1), .ref q5, .int 0, .int 0, .ref q6, .ref q7, .int 0, .int 0, .int 0, .int 0, .null, .int 0])), (q1, .inl (C 0, 86, .inl (fun _ => 0))), (q2, .inl (C 0, 86, .inl (fun _ => 0))), (q3, .inl (C 0, 86, .inl (fun _ => 0))), (q4, .inl (C 0, 688, .inl (fun _ => 0))), (q5, .inl (C 0, 60, .inl (fun _ => 0))), (q6, .inl (C 0, 16, .inl (fun _ => 0))), (q7, .inl (C 0, 244, .inl (fun _ => 0))), (q8, .inl (C 0, 30, .inl (fun _ => 0)))]) s H locs := B
  refine n_putF S F B hin2 (K := RX10) (T := TX10) (N := 21) (ci := 14) (ty := (.array .int)) (v := .ref q8) (by decide +kernel) tyX10 tyX10_ok nmX10 0 rfl rfl 19 (by decide) (by decide +kernel) rfl rfl (by decide +kernel) rfl rfl (Nat.le_of_ble_eq_true rfl) dX10_init_72 (fun H locs B => ?_)
  have B : Bk D A ([(h, .inr (14, [.ref q1, .ref q2, .ref q3, .int 0, .ref q4, .int 0, .int 0, .int 0, .int 0, .int (-1), .ref q5, .int 0, .int 0, .ref q6, .ref q7, .int 0, .int 0, .int 0, .int 0, .ref q8, .int 0])), (q1, .inl (C 0, 86, .inl (fun _ => 0))), (q2, .inl (C 0, 86, .inl (fun _ => 0))), (q3, .inl (C 0, 86, .inl (fun _ => 0))), (q4, .inl (C 0, 688, .inl (fun _ => 0))), (q5, .inl (C 0, 60, .inl (fun _ => 0))), (q6, .inl (C 0, 16, .inl (fun _ => 0))), (q7, .inl (C 0, 244, .inl (fun _ => 0))), (q8, .inl (C 0, 30, .inl (fun _ => 0)))]) s H locs := B
  refine lv_aload_n hx hb dX10_init_75 rfl (lv_at hl 0 rfl) ?_
  refine n_get S F B (K := RX10) (T := TX10) (N := 21) (ci := 14) (v := .ref q1) (by decide +kernel) 0 rfl rfl 0 (by decide) (by decide +kernel) rfl dX10_init_76 ?_
  refine lv_iconst (v := 2) hx hb dX10_init_79 (by decide) ?_
  refine lv_iconst (v := (-1)) hx hb dX10_init_80 (by decide) ?_
  refine n_iast S F B 1 (n := 86) (f := fun _ => 0) rfl (vpc (by decide)) dX10_init_81 (fun H locs B => ?_)
  have B : Bk D A ([(h, .inr (14, [.ref q1, .ref q2, .ref q3, .int 0, .ref q4, .int 0, .int 0, .int 0, .int 0, .int (-1), .ref q5, .int 0, .int 0, .ref q6, .ref q7, .int 0, .int 0, .int 0, .int 0, .ref q8, .int 0])), (q1, .inl (C 0, 86, .inl (upd (fun _ => 0) (Int32.toNatClampNeg 2) (-1)))), (q2, .inl (C 0, 86, .inl (fun _ => 0))), (q3, .inl (C 0, 86, .inl (fun _ => 0))), (q4, .inl (C 0, 688, .inl (fun _ => 0))), (q5, .inl (C 0, 60, .inl (fun _ => 0))), (q6, .inl (C 0, 16, .inl (fun _ => 0))), (q7, .inl (C 0, 244, .inl (fun _ => 0))), (q8, .inl (C 0, 30, .inl (fun _ => 0)))]) s H locs := B
  refine W.widen (k := 8) (n := 1296) (Nat.le_of_ble_eq_true rfl) (Nat.le_of_ble_eq_true rfl) ?_
  subst hA
  exact n_ret (a := (fun i => [q1, q2, q3, q4, q5, q6, q7, q8].getD i 0)) F B hx hb hr hlocks trivial (rfl) dX10_init_82
