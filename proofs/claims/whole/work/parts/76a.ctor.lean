/-! the constructors -/
set_option maxHeartbeats 8000000 in
set_option maxRecDepth 100000 in
theorem c_X1_init (l : Launch) (D : va_G) (C : Nat → ClassId) (h sz : Nat) : Met l yX1_init wsX1_init { frames := 1, cells := 0, slots := 0, locals := 12 } (va_Pc [.ref h] (PK D C sz [(h, .inr (5, [.int 0, .int 0, .int 0, .int 0]))])) (QK D sz [(h, .inr (5, [.int 0, .int 0, .int 0, .int 0]))] (fun a : Nat → Nat => True) (fun a : Nat → Nat => [(h, .inr (5, [.int 0, .int 0, .int 0, .int 0]))])) 0 0 (va_A [(h, .inr (5, [.int 0, .int 0, .int 0, .int 0]))] sz) := by
  refine Met.ofW (cc := cX1_init) (maxL := 1) (ret := none) (by decide) rfl ?_
  intro p e s m args below meth c s₁ B0 hml hv
  obtain ⟨rfl, hpk⟩ := hv
  have hsz := hpk.1
  subst hsz
  obtain ⟨F, B⟩ := hpk.to
  have hx := B0.exec
  have hb := B0.bytes
  have hr := B0.returns
  have hts := atoms_spec (ws := wsX1_init) B0.pre
  have hown : s.vm.findClass RX1 = some m.cls := findClass_of_methodNamed B0.named
  have hlocks := B0.notSynchronized
  have hin2 : meth.name = "<init>" := (name_of_methodNamed B0.named B0.method).1
  have S : CallFix p m c cX1_init 1 s _ wsX1_init RX1 := ⟨hx, hb, hml, hown, hts⟩
  have hl := lv_entry [.ref h] (n := 1) (Nat.le_of_ble_eq_true rfl)
  rw [lg_entry_eq]
  generalize (lg_sl [.ref h] ++ List.replicate (1 - (lg_sl [.ref h]).length) Slot.unset).toArray = ls at hl ⊢
  have hl : lv_has ls 1 [(0, .ref h)] := hl
  generalize hA : va_A [(h, .inr (5, [.int 0, .int 0, .int 0, .int 0]))] s.heap.size = A at F B ⊢
  refine lv_aload_n hx hb dX1_init_0 rfl (lv_at hl 0 rfl) ?_
  refine n_oinit S (by decide +kernel) (by decide +kernel) (by decide +kernel) hl.1 dX1_init_1 (Nat.le_of_ble_eq_true rfl) (Nat.le_of_ble_eq_true rfl) ?_
  refine W.widen (k := 0) (n := 0) (Nat.le_of_ble_eq_true rfl) (Nat.le_of_ble_eq_true rfl) ?_
  subst hA
  exact n_ret (a := (fun _ => 0)) F B hx hb hr hlocks trivial (rfl) dX1_init_4

set_option maxHeartbeats 8000000 in
set_option maxRecDepth 100000 in
theorem c_X7_init (l : Launch) (D : va_G) (C : Nat → ClassId) (h sz : Nat) : Met l yX7_init wsX7_init { frames := 1, cells := 0, slots := 0, locals := 12 } (va_Pc [.ref h] (PK D C sz [(h, .inr (11, [.int 0, .int 0, .int 0, .int 0, .int 0, .int 0, .int 0, .int 0]))])) (QK D sz [(h, .inr (11, [.int 0, .int 0, .int 0, .int 0, .int 0, .int 0, .int 0, .int 0]))] (fun a : Nat → Nat => True) (fun a : Nat → Nat => [(h, .inr (11, [.int 0, .int 0, .int 0, .int 0, .int (-1), .int 0, .int 0, .int 0]))])) 0 0 (va_A [(h, .inr (11, [.int 0, .int 0, .int 0, .int 0, .int 0, .int 0, .int 0, .int 0]))] sz) := by
  refine Met.ofW (cc := cX7_init) (maxL := 1) (ret := none) (by decide) rfl ?_
  intro p e s m args below meth c s₁ B0 hml hv
  obtain ⟨rfl, hpk⟩ := hv
  have hsz := hpk.1
  subst hsz
  obtain ⟨F, B⟩ := hpk.to
  have hx := B0.exec
  have hb := B0.bytes
  have hr := B0.returns
  have hts := atoms_spec (ws := wsX7_init) B0.pre
  have hown : s.vm.findClass RX7 = some m.cls := findClass_of_methodNamed B0.named
  have hlocks := B0.notSynchronized
  have hin2 : meth.name = "<init>" := (name_of_methodNamed B0.named B0.method).1
  have S : CallFix p m c cX7_init 1 s _ wsX7_init RX7 := ⟨hx, hb, hml, hown, hts⟩
  have hl := lv_entry [.ref h] (n := 1) (Nat.le_of_ble_eq_true rfl)
  rw [lg_entry_eq]
  generalize (lg_sl [.ref h] ++ List.replicate (1 - (lg_sl [.ref h]).length) Slot.unset).toArray = ls at hl ⊢
  have hl : lv_has ls 1 [(0, .ref h)] := hl
  generalize hA : va_A [(h, .inr (11, [.int 0, .int 0, .int 0, .int 0, .int 0, .int 0, .int 0, .int 0]))] s.heap.size = A at F B ⊢
  refine lv_aload_n hx hb dX7_init_0 rfl (lv_at hl 0 rfl) ?_
  refine n_oinit S (by decide +kernel) (by decide +kernel) (by decide +kernel) hl.1 dX7_init_1 (Nat.le_of_ble_eq_true rfl) (Nat.le_of_ble_eq_true rfl) ?_
  refine lv_aload_n hx hb dX7_init_4 rfl (lv_at hl 0 rfl) ?_
  refine lv_iconst (v := (-1)) hx hb dX7_init_5 (by decide) ?_
  refine n_put S F B (K := RX7) (T := TX7) (N := 8) (ci := 11) (ty := .int) (v := .int (-1)) (by decide +kernel) tyX7 tyX7_ok nmX7 0 rfl rfl 4 (by decide) (by decide +kernel) rfl (by decide +kernel) rfl rfl (Nat.le_of_ble_eq_true rfl) dX7_init_6 (fun H locs B => ?_)
  have B : Bk D A ([(h, .inr (11, [.int 0, .int 0, .int 0, .int 0, .int (-1), .int 0, .int 0, .int 0]))]) s H locs := B
  refine W.widen (k := 0) (n := 0) (Nat.le_of_ble_eq_true rfl) (Nat.le_of_ble_eq_true rfl) ?_
  subst hA
  exact n_ret (a := (fun _ => 0)) F B hx hb hr hlocks trivial (rfl) dX7_init_9

set_option maxHeartbeats 8000000 in
set_option maxRecDepth 100000 in
theorem c_X4_init (l : Launch) (D : va_G) (C : Nat → ClassId) (h sz : Nat) : Met l yX4_init wsX4_init { frames := 1, cells := 1, slots := 24, locals := 12 } (va_Pc [.ref h] (PK D C sz [(h, .inr (8, [.null]))])) (QK D sz [(h, .inr (8, [.null]))] (fun a : Nat → Nat => True) (fun a : Nat → Nat => [(h, .inr (8, [.ref (a 0)])), (a 0, .inl (C 0, 24, .inl (fun _ => 0)))])) 1 24 (va_A [(h, .inr (8, [.null]))] sz) := by
  refine Met.ofW (cc := cX4_init) (maxL := 1) (ret := none) (by decide) rfl ?_
  intro p e s m args below meth c s₁ B0 hml hv
  obtain ⟨rfl, hpk⟩ := hv
  have hsz := hpk.1
  subst hsz
  obtain ⟨F, B⟩ := hpk.to
  have hx := B0.exec
  have hb := B0.bytes
  have hr := B0.returns
  have hts := atoms_spec (ws := wsX4_init) B0.pre
  have hown : s.vm.findClass RX4 = some m.cls := findClass_of_methodNamed B0.named
  have hlocks := B0.notSynchronized
  have hin2 : meth.name = "<init>" := (name_of_methodNamed B0.named B0.method).1
  have S : CallFix p m c cX4_init 1 s _ wsX4_init RX4 := ⟨hx, hb, hml, hown, hts⟩
  have hl := lv_entry [.ref h] (n := 1) (Nat.le_of_ble_eq_true rfl)
  rw [lg_entry_eq]
  generalize (lg_sl [.ref h] ++ List.replicate (1 - (lg_sl [.ref h]).length) Slot.unset).toArray = ls at hl ⊢
  have hl : lv_has ls 1 [(0, .ref h)] := hl
  generalize hA : va_A [(h, .inr (8, [.null]))] s.heap.size = A at F B ⊢
  refine lv_aload_n hx hb dX4_init_0 rfl (lv_at hl 0 rfl) ?_
  refine n_oinit S (by decide +kernel) (by decide +kernel) (by decide +kernel) hl.1 dX4_init_1 (Nat.le_of_ble_eq_true rfl) (Nat.le_of_ble_eq_true rfl) ?_
  refine lv_aload_n hx hb dX4_init_4 rfl (lv_at hl 0 rfl) ?_
  refine lv_bipush (v := 24) hx hb dX4_init_5 (by decide) ?_
  refine n_arr S F B (atype := .int) (ty := .int) (t := 0) (c0 := C 0) (n := 24) (N' := 24) (a0 := (24, .inl (fun _ => 0))) (by decide +kernel) rfl rfl (fun _ => rfl) (by decide) (by decide) (by decide) ⟨Nat.le_of_ble_eq_true rfl, Nat.le_of_ble_eq_true rfl⟩ dX4_init_7 (fun q1 H B => ?_)
  have B : Bk D A ([(h, .inr (8, [.null])), (q1, .inl (C 0, 24, .inl (fun _ => 0)))]) s H [] := B
  refine n_putF S F B hin2 (K := RX4) (T := TX4) (N := 1) (ci := 8) (ty := (.array .int)) (v := .ref q1) (by decide +kernel) tyX4 tyX4_ok nmX4 0 rfl rfl 0 (by decide) (by decide +kernel) rfl rfl (by decide +kernel) rfl rfl (Nat.le_of_ble_eq_true rfl) dX4_init_9 (fun H locs B => ?_)
  have B : Bk D A ([(h, .inr (8, [.ref q1])), (q1, .inl (C 0, 24, .inl (fun _ => 0)))]) s H locs := B
  refine W.widen (k := 1) (n := 24) (Nat.le_of_ble_eq_true rfl) (Nat.le_of_ble_eq_true rfl) ?_
  subst hA
  exact n_ret (a := (fun _ => q1)) F B hx hb hr hlocks trivial (rfl) dX4_init_12

set_option maxHeartbeats 8000000 in
set_option maxRecDepth 100000 in
theorem c_X5_init (l : Launch) (D : va_G) (C : Nat → ClassId) (h sz : Nat) : Met l yX5_init wsX5_init { frames := 1, cells := 0, slots := 0, locals := 12 } (va_Pc [.ref h] (PK D C sz [(h, .inr (9, [.int 0, .int 0, .int 0]))])) (QK D sz [(h, .inr (9, [.int 0, .int 0, .int 0]))] (fun a : Nat → Nat => True) (fun a : Nat → Nat => [(h, .inr (9, [.int 0, .int 0, .int 0]))])) 0 0 (va_A [(h, .inr (9, [.int 0, .int 0, .int 0]))] sz) := by
  refine Met.ofW (cc := cX5_init) (maxL := 1) (ret := none) (by decide) rfl ?_
  intro p e s m args below meth c s₁ B0 hml hv
  obtain ⟨rfl, hpk⟩ := hv
  have hsz := hpk.1
  subst hsz
  obtain ⟨F, B⟩ := hpk.to
  have hx := B0.exec
  have hb := B0.bytes
  have hr := B0.returns
  have hts := atoms_spec (ws := wsX5_init) B0.pre
  have hown : s.vm.findClass RX5 = some m.cls := findClass_of_methodNamed B0.named
  have hlocks := B0.notSynchronized
  have hin2 : meth.name = "<init>" := (name_of_methodNamed B0.named B0.method).1
  have S : CallFix p m c cX5_init 1 s _ wsX5_init RX5 := ⟨hx, hb, hml, hown, hts⟩
  have hl := lv_entry [.ref h] (n := 1) (Nat.le_of_ble_eq_true rfl)
  rw [lg_entry_eq]
  generalize (lg_sl [.ref h] ++ List.replicate (1 - (lg_sl [.ref h]).length) Slot.unset).toArray = ls at hl ⊢
  have hl : lv_has ls 1 [(0, .ref h)] := hl
  generalize hA : va_A [(h, .inr (9, [.int 0, .int 0, .int 0]))] s.heap.size = A at F B ⊢
  refine lv_aload_n hx hb dX5_init_0 rfl (lv_at hl 0 rfl) ?_
  refine n_oinit S (by decide +kernel) (by decide +kernel) (by decide +kernel) hl.1 dX5_init_1 (Nat.le_of_ble_eq_true rfl) (Nat.le_of_ble_eq_true rfl) ?_
  refine W.widen (k := 0) (n := 0) (Nat.le_of_ble_eq_true rfl) (Nat.le_of_ble_eq_true rfl) ?_
  subst hA
  exact n_ret (a := (fun _ => 0)) F B hx hb hr hlocks trivial (rfl) dX5_init_4

set_option maxHeartbeats 8000000 in
set_option maxRecDepth 100000 in
theorem c_X8_init (l : Launch) (D : va_G) (C : Nat → ClassId) (h sz : Nat) (mz : Nat) : Met l yX8_init wsX8_init { frames := 1, cells := 2, slots := 32, locals := 12 } (va_Pc [.ref h, .ref mz] (PK D C sz [(h, .inr (12, [.null, .null, .null]))])) (QK D sz [(h, .inr (12, [.null, .null, .null]))] (fun a : Nat → Nat => True) (fun a : Nat → Nat => [(h, .inr (12, [.ref mz, .ref (a 0), .ref (a 1)])), (a 0, .inl (C 0, 16, .inl (fun _ => 0))), (a 1, .inl (C 0, 16, .inl (fun _ => 0)))])) 2 32 (va_A [(h, .inr (12, [.null, .null, .null]))] sz) := by
  refine Met.ofW (cc := cX8_init) (maxL := 2) (ret := none) (by decide) rfl ?_
  intro p e s m args below meth c s₁ B0 hml hv
  obtain ⟨rfl, hpk⟩ := hv
  have hsz := hpk.1
  subst hsz
  obtain ⟨F, B⟩ := hpk.to
  have hx := B0.exec
  have hb := B0.bytes
  have hr := B0.returns
  have hts := atoms_spec (ws := wsX8_init) B0.pre
  have hown : s.vm.findClass RX8 = some m.cls := findClass_of_methodNamed B0.named
  have hlocks := B0.notSynchronized
  have hin2 : meth.name = "<init>" := (name_of_methodNamed B0.named B0.method).1
  have S : CallFix p m c cX8_init 2 s _ wsX8_init RX8 := ⟨hx, hb, hml, hown, hts⟩
  have hl := lv_entry [.ref h, .ref mz] (n := 2) (Nat.le_of_ble_eq_true rfl)
  rw [lg_entry_eq]
  generalize (lg_sl [.ref h, .ref mz] ++ List.replicate (2 - (lg_sl [.ref h, .ref mz]).length) Slot.unset).toArray = ls at hl ⊢
  have hl : lv_has ls 2 [(0, .ref h), (1, .ref mz)] := hl
  generalize hA : va_A [(h, .inr (12, [.null, .null, .null]))] s.heap.size = A at F B ⊢
  refine lv_aload_n hx hb dX8_init_0 rfl (lv_at hl 0 rfl) ?_
  refine n_oinit S (by decide +kernel) (by decide +kernel) (by decide +kernel) hl.1 dX8_init_1 (Nat.le_of_ble_eq_true rfl) (Nat.le_of_ble_eq_true rfl) ?_
  refine lv_aload_n hx hb dX8_init_4 rfl (lv_at hl 0 rfl) ?_
  refine lv_aload_n hx hb dX8_init_5 rfl (lv_at hl 1 rfl) ?_
  refine n_putF S F B hin2 (K := RX8) (T := TX8) (N := 3) (ci := 12) (ty := (.object "MazeBonds$Maze")) (v := .ref mz) (by decide +kernel) tyX8 tyX8_ok nmX8 0 rfl rfl 0 (by decide) (by decide +kernel) rfl rfl (by decide +kernel) rfl rfl (Nat.le_of_ble_eq_true rfl) dX8_init_6 (fun H locs B => ?_)
  have B : Bk D A ([(h, .inr (12, [.ref mz, .null, .null]))]) s H locs := B
  refine lv_aload_n hx hb dX8_init_9 rfl (lv_at hl 0 rfl) ?_
  refine lv_bipush (v := 16) hx hb dX8_init_10 (by decide) ?_
  refine n_arr S F B (atype := .int) (ty := .int) (t := 0) (c0 := C 0) (n := 16) (N' := 16) (a0 := (16, .inl (fun _ => 0))) (by decide +kernel) rfl rfl (fun _ => rfl) (by decide) (by decide) (by decide) ⟨Nat.le_of_ble_eq_true rfl, Nat.le_of_ble_eq_true rfl⟩ dX8_init_12 (fun q1 H B => ?_)
  have B : Bk D A ([(h, .inr (12, [.ref mz, .null, .null])), (q1, .inl (C 0, 16, .inl (fun _ => 0)))]) s H locs := B
  refine n_putF S F B hin2 (K := RX8) (T := TX8) (N := 3) (ci := 12) (ty := (.array .int)) (v := .ref q1) (by decide +kernel) tyX8 tyX8_ok nmX8 0 rfl rfl 1 (by decide) (by decide +kernel) rfl rfl (by decide +kernel) rfl rfl (Nat.le_of_ble_eq_true rfl) dX8_init_14 (fun H locs B => ?_)
  have B : Bk D A ([(h, .inr (12, [.ref mz, .ref q1, .null])), (q1, .inl (C 0, 16, .inl (fun _ => 0)))]) s H locs := B
  refine lv_aload_n hx hb dX8_init_17 rfl (lv_at hl 0 rfl) ?_
  refine lv_bipush (v := 16) hx hb dX8_init_18 (by decide) ?_
  refine n_arr S F B (atype := .int) (ty := .int) (t := 0) (c0 := C 0) (n := 16) (N' := 16) (a0 := (16, .inl (fun _ => 0))) (by decide +kernel) rfl rfl (fun _ => rfl) (by decide) (by decide) (by decide) ⟨Nat.le_of_ble_eq_true rfl, Nat.le_of_ble_eq_true rfl⟩ dX8_init_20 (fun q2 H B => ?_)
  have B : Bk D A ([(h, .inr (12, [.ref mz, .ref q1, .null])), (q1, .inl (C 0, 16, .inl (fun _ => 0))), (q2, .inl (C 0, 16, .inl (fun _ => 0)))]) s H locs := B
  refine n_putF S F B hin2 (K := RX8) (T := TX8) (N := 3) (ci := 12) (ty := (.array .int)) (v := .ref q2) (by decide +kernel) tyX8 tyX8_ok nmX8 0 rfl rfl 2 (by decide) (by decide +kernel) rfl rfl (by decide +kernel) rfl rfl (Nat.le_of_ble_eq_true rfl) dX8_init_22 (fun H locs B => ?_)
  have B : Bk D A ([(h, .inr (12, [.ref mz, .ref q1, .ref q2])), (q1, .inl (C 0, 16, .inl (fun _ => 0))), (q2, .inl (C 0, 16, .inl (fun _ => 0)))]) s H locs := B
  refine W.widen (k := 2) (n := 32) (Nat.le_of_ble_eq_true rfl) (Nat.le_of_ble_eq_true rfl) ?_
  subst hA
  exact n_ret (a := (fun i => [q1, q2].getD i 0)) F B hx hb hr hlocks trivial (rfl) dX8_init_25

set_option maxHeartbeats 8000000 in
set_option maxRecDepth 100000 in
theorem c_X3_init (l : Launch) (D : va_G) (C : Nat → ClassId) (h sz : Nat) (x1 x2 x3 : Nat) : Met l yX3_init wsX3_init { frames := 1, cells := 0, slots := 0, locals := 12 } (va_Pc [.ref h, .ref x1, .ref x2, .ref x3] (PK D C sz [(h, .inr (7, [.null, .null, .null]))])) (QK D sz [(h, .inr (7, [.null, .null, .null]))] (fun a : Nat → Nat => True) (fun a : Nat → Nat => [(h, .inr (7, [.ref x1, .ref x2, .ref x3]))])) 0 0 (va_A [(h, .inr (7, [.null, .null, .null]))] sz) := by
  refine Met.ofW (cc := cX3_init) (maxL := 4) (ret := none) (by decide) rfl ?_
  intro p e s m args below meth c s₁ B0 hml hv
  obtain ⟨rfl, hpk⟩ := hv
  have hsz := hpk.1
  subst hsz
  obtain ⟨F, B⟩ := hpk.to
  have hx := B0.exec
  have hb := B0.bytes
  have hr := B0.returns
  have hts := atoms_spec (ws := wsX3_init) B0.pre
  have hown : s.vm.findClass RX3 = some m.cls := findClass_of_methodNamed B0.named
  have hlocks := B0.notSynchronized
  have hin2 : meth.name = "<init>" := (name_of_methodNamed B0.named B0.method).1
  have S : CallFix p m c cX3_init 4 s _ wsX3_init RX3 := ⟨hx, hb, hml, hown, hts⟩
  have hl := lv_entry [.ref h, .ref x1, .ref x2, .ref x3] (n := 4) (Nat.le_of_ble_eq_true rfl)
  rw [lg_entry_eq]
  generalize (lg_sl [.ref h, .ref x1, .ref x2, .ref x3] ++ List.replicate (4 - (lg_sl [.ref h, .ref x1, .ref x2, .ref x3]).length) Slot.unset).toArray = ls at hl ⊢
  have hl : lv_has ls 4 [(0, .ref h), (1, .ref x1), (2, .ref x2), (3, .ref x3)] := hl
  generalize hA : va_A [(h, .inr (7, [.null, .null, .null]))] s.heap.size = A at F B ⊢
  refine lv_aload_n hx hb dX3_init_0 rfl (lv_at hl 0 rfl) ?_
  refine n_oinit S (by decide +kernel) (by decide +kernel) (by decide +kernel) hl.1 dX3_init_1 (Nat.le_of_ble_eq_true rfl) (Nat.le_of_ble_eq_true rfl) ?_
  refine lv_aload_n hx hb dX3_init_4 rfl (lv_at hl 0 rfl) ?_
  refine lv_aload_n hx hb dX3_init_5 rfl (lv_at hl 1 rfl) ?_
  refine n_putF S F B hin2 (K := RX3) (T := TX3) (N := 3) (ci := 7) (ty := (.object "MazeBonds$State")) (v := .ref x1) (by decide +kernel) tyX3 tyX3_ok nmX3 0 rfl rfl 0 (by decide) (by decide +kernel) rfl rfl (by decide +kernel) rfl rfl (Nat.le_of_ble_eq_true rfl) dX3_init_6 (fun H locs B => ?_)
  have B : Bk D A ([(h, .inr (7, [.ref x1, .null, .null]))]) s H locs := B
  refine lv_aload_n hx hb dX3_init_9 rfl (lv_at hl 0 rfl) ?_
  refine lv_aload_n hx hb dX3_init_10 rfl (lv_at hl 2 rfl) ?_
  refine n_putF S F B hin2 (K := RX3) (T := TX3) (N := 3) (ci := 7) (ty := (.object "MazeBonds$Ways")) (v := .ref x2) (by decide +kernel) tyX3 tyX3_ok nmX3 0 rfl rfl 1 (by decide) (by decide +kernel) rfl rfl (by decide +kernel) rfl rfl (Nat.le_of_ble_eq_true rfl) dX3_init_11 (fun H locs B => ?_)
  have B : Bk D A ([(h, .inr (7, [.ref x1, .ref x2, .null]))]) s H locs := B
  refine lv_aload_n hx hb dX3_init_14 rfl (lv_at hl 0 rfl) ?_
  refine lv_aload_n hx hb dX3_init_15 rfl (lv_at hl 3 rfl) ?_
  refine n_putF S F B hin2 (K := RX3) (T := TX3) (N := 3) (ci := 7) (ty := (.object "MazeBonds$Refusal")) (v := .ref x3) (by decide +kernel) tyX3 tyX3_ok nmX3 0 rfl rfl 2 (by decide) (by decide +kernel) rfl rfl (by decide +kernel) rfl rfl (Nat.le_of_ble_eq_true rfl) dX3_init_16 (fun H locs B => ?_)
  have B : Bk D A ([(h, .inr (7, [.ref x1, .ref x2, .ref x3]))]) s H locs := B
  refine W.widen (k := 0) (n := 0) (Nat.le_of_ble_eq_true rfl) (Nat.le_of_ble_eq_true rfl) ?_
  subst hA
  exact n_ret (a := (fun _ => 0)) F B hx hb hr hlocks trivial (rfl) dX3_init_19

set_option maxHeartbeats 8000000 in
set_option maxRecDepth 100000 in
theorem c_J5_init_d00df (l : Launch) (D : va_G) (C : Nat → ClassId) (h sz : Nat) : Met l yJ5_init_d00df wsJ5_init_d00df { frames := 1, cells := 1, slots := 16, locals := 12 } (va_Pc [.ref h, .int 16] (PK D C sz [(h, .inr (1, [.null, .int 0, .int 0, .int 0]))])) (QK D sz [(h, .inr (1, [.null, .int 0, .int 0, .int 0]))] (fun a : Nat → Nat => True) (fun a : Nat → Nat => [(h, .inr (1, [.ref (a 0), .int 0, .int 0, .int 0])), (a 0, .inl (C 2, 16, .inl (fun _ => 0)))])) 1 16 (va_A [(h, .inr (1, [.null, .int 0, .int 0, .int 0]))] sz) := by
  refine Met.ofW (cc := cJ5_init_d00df) (maxL := 2) (ret := none) (by decide) rfl ?_
  intro p e s m args below meth c s₁ B0 hml hv
  obtain ⟨rfl, hpk⟩ := hv
  have hsz := hpk.1
  subst hsz
  obtain ⟨F, B⟩ := hpk.to
  have hx := B0.exec
  have hb := B0.bytes
  have hr := B0.returns
  have hts := atoms_spec (ws := wsJ5_init_d00df) B0.pre
  have hown : s.vm.findClass RJ5 = some m.cls := findClass_of_methodNamed B0.named
  have hlocks := B0.notSynchronized
  have hin2 : meth.name = "<init>" := (name_of_methodNamed B0.named B0.method).1
  have S : CallFix p m c cJ5_init_d00df 2 s _ wsJ5_init_d00df RJ5 := ⟨hx, hb, hml, hown, hts⟩
  have hl := lv_entry [.ref h, .int 16] (n := 2) (Nat.le_of_ble_eq_true rfl)
  rw [lg_entry_eq]
  generalize (lg_sl [.ref h, .int 16] ++ List.replicate (2 - (lg_sl [.ref h, .int 16]).length) Slot.unset).toArray = ls at hl ⊢
  have hl : lv_has ls 2 [(0, .ref h), (1, .int 16)] := hl
  generalize hA : va_A [(h, .inr (1, [.null, .int 0, .int 0, .int 0]))] s.heap.size = A at F B ⊢
  refine lv_aload_n hx hb dJ5_init_d00df_0 rfl (lv_at hl 0 rfl) ?_
  refine n_oinit S (by decide +kernel) (by decide +kernel) (by decide +kernel) hl.1 dJ5_init_d00df_1 (Nat.le_of_ble_eq_true rfl) (Nat.le_of_ble_eq_true rfl) ?_
  refine va_gets S.1 S.2.1 F.2.1.2.2.2 B.2.2 S.2.2.2.1 (hts (.fieldLink RJ5 18 "java/lang/String" "COMPACT_STRINGS" "Z") (by decide +kernel)) (fun _ h => h) dJ5_init_d00df_4 ?_
  refine lv_if_eq (tgt := 25) hx hb dJ5_init_d00df_7 (by decide) (fun h => absurd h (by decide)) (fun _ => ?_)
  refine lv_aload_n hx hb dJ5_init_d00df_10 rfl (lv_at hl 0 rfl) ?_
  refine lv_iload_n hx hb dJ5_init_d00df_11 rfl (lv_at hl 1 rfl) ?_
  refine n_arr S F B (atype := .byte) (ty := .byte) (t := 2) (c0 := C 2) (n := 16) (N' := 16) (a0 := (16, .inl (fun _ => 0))) (by decide +kernel) rfl rfl (fun _ => rfl) (by decide) (by decide) (by decide) ⟨Nat.le_of_ble_eq_true rfl, Nat.le_of_ble_eq_true rfl⟩ dJ5_init_d00df_12 (fun q1 H B => ?_)
  have B : Bk D A ([(h, .inr (1, [.null, .int 0, .int 0, .int 0])), (q1, .inl (C 2, 16, .inl (fun _ => 0)))]) s H [] := B
  refine n_put S F B (K := RJ4) (T := TJ4) (N := 4) (ci := 1) (ty := (.array .byte)) (v := .ref q1) (by decide +kernel) tyJ4 tyJ4_ok nmJ4 0 rfl rfl 0 (by decide) (by decide +kernel) rfl (by decide +kernel) rfl rfl (Nat.le_of_ble_eq_true rfl) dJ5_init_d00df_14 (fun H locs B => ?_)
  have B : Bk D A ([(h, .inr (1, [.ref q1, .int 0, .int 0, .int 0])), (q1, .inl (C 2, 16, .inl (fun _ => 0)))]) s H locs := B
  refine lv_aload_n hx hb dJ5_init_d00df_17 rfl (lv_at hl 0 rfl) ?_
  refine lv_iconst (v := 0) hx hb dJ5_init_d00df_18 (by decide) ?_
  refine n_put S F B (K := RJ4) (T := TJ4) (N := 4) (ci := 1) (ty := .byte) (v := .int 0) (by decide +kernel) tyJ4 tyJ4_ok nmJ4 0 rfl rfl 1 (by decide) (by decide +kernel) rfl (by decide +kernel) rfl rfl (Nat.le_of_ble_eq_true rfl) dJ5_init_d00df_19 (fun H locs B => ?_)
  have B : Bk D A ([(h, .inr (1, [.ref q1, .int 0, .int 0, .int 0])), (q1, .inl (C 2, 16, .inl (fun _ => 0)))]) s H locs := B
  refine lv_goto (tgt := 38) hx hb dJ5_init_d00df_22 (by decide) ?_
  refine W.widen (k := 1) (n := 16) (Nat.le_of_ble_eq_true rfl) (Nat.le_of_ble_eq_true rfl) ?_
  subst hA
  exact n_ret (a := (fun _ => q1)) F B hx hb hr hlocks trivial (rfl) dJ5_init_d00df_38

set_option maxHeartbeats 8000000 in
set_option maxRecDepth 100000 in
theorem c_J4_init_da8c8 (l : Launch) (D : va_G) (C : Nat → ClassId) (h sz : Nat) : Met l yJ4_init_da8c8 wsJ4_init_da8c8 { frames := 2, cells := 1, slots := 16, locals := 33 } (va_Pc [.ref h] (PK D C sz [(h, .inr (1, [.null, .int 0, .int 0, .int 0]))])) (QK D sz [(h, .inr (1, [.null, .int 0, .int 0, .int 0]))] (fun a : Nat → Nat => True) (fun a : Nat → Nat => [(h, .inr (1, [.ref (a 0), .int 0, .int 0, .int 0])), (a 0, .inl (C 2, 16, .inl (fun _ => 0)))])) 1 16 (va_A [(h, .inr (1, [.null, .int 0, .int 0, .int 0]))] sz) := by
  refine Met.ofW (cc := cJ4_init_da8c8) (maxL := 1) (ret := none) (by decide) rfl ?_
  intro p e s m args below meth c s₁ B0 hml hv
  obtain ⟨rfl, hpk⟩ := hv
  have hsz := hpk.1
  subst hsz
  obtain ⟨F, B⟩ := hpk.to
  have hx := B0.exec
  have hb := B0.bytes
  have hr := B0.returns
  have hts := atoms_spec (ws := wsJ4_init_da8c8) B0.pre
  have hown : s.vm.findClass RJ4 = some m.cls := findClass_of_methodNamed B0.named
  have hlocks := B0.notSynchronized
  have hin2 : meth.name = "<init>" := (name_of_methodNamed B0.named B0.method).1
  have S : CallFix p m c cJ4_init_da8c8 1 s _ wsJ4_init_da8c8 RJ4 := ⟨hx, hb, hml, hown, hts⟩
  have hl := lv_entry [.ref h] (n := 1) (Nat.le_of_ble_eq_true rfl)
  rw [lg_entry_eq]
  generalize (lg_sl [.ref h] ++ List.replicate (1 - (lg_sl [.ref h]).length) Slot.unset).toArray = ls at hl ⊢
  have hl : lv_has ls 1 [(0, .ref h)] := hl
  generalize hA : va_A [(h, .inr (1, [.null, .int 0, .int 0, .int 0]))] s.heap.size = A at F B ⊢
  refine lv_aload_n hx hb dJ4_init_da8c8_0 rfl (lv_at hl 0 rfl) ?_
  refine lv_bipush (v := 16) hx hb dJ4_init_da8c8_1 (by decide) ?_
  refine n_call (wr := []) (q := h) (e0 := .inr (1, [.null, .int 0, .int 0, .int 0])) (As := [.int 16]) (rest := []) S F B (c_J5_init_d00df l D C h s.heap.size) (cwI 1 hts gJ4_init_da8c8_J5_init_d00df rfl rfl rfl (hts (.initialized RJ5) (by decide +kernel)) (hts (.methodLink RJ4 1 yJ5_init_d00df) (by decide +kernel)) (hts (.instanceMethod yJ5_init_d00df) (by decide +kernel)) rfl (by decide +kernel) ⟨Nat.le_of_ble_eq_true rfl, Nat.le_of_ble_eq_true rfl⟩) rfl hl.1 rfl (Nat.le_of_ble_eq_true rfl) dJ4_init_da8c8_3 ⟨Nat.le_of_ble_eq_true rfl, Nat.le_of_ble_eq_true rfl⟩ (fun a1 H locs hpa1 B => ?_)
  have B : Bk D A ([(h, .inr (1, [.ref (a1 0), .int 0, .int 0, .int 0])), ((a1 0), .inl (C 2, 16, .inl (fun _ => 0)))]) s H locs := B
  refine W.widen (k := 1) (n := 16) (Nat.le_of_ble_eq_true rfl) (Nat.le_of_ble_eq_true rfl) ?_
  subst hA
  exact n_ret (a := (a1)) F B hx hb hr hlocks trivial (rfl) dJ4_init_da8c8_6
