/-! the classes and the classes of arrays, at the law's start -/
theorem arr_over {t : FieldType} {args : Array Value} {s : State} (h : (Cond.arrayOver (.array t)).before args s = true) : ∃ (comp : ClassId) (c : ClassId) (k : Class), s.vm.findClass (FieldType.array t).toString = some comp ∧ s.vm.classes[c]? = some k ∧ k.kind = .array comp (.array t) ∧ s.vm.findClass ("[" ++ (FieldType.array t).toString) = some c := by
  unfold Cond.before Cond.holds at h
  simp only [Cond.value] at h
  obtain ⟨comp, g1, g2⟩ := bs_i (eq_of_beq h)
  obtain ⟨c, g3, g4⟩ := bs_i g2
  obtain ⟨k, g5, g6⟩ := mp_i g4
  have hk : ∃ a, k.kind = .array a (.array t) ∧ s.vm.findClass ("[" ++ (FieldType.array t).toString) = some c := by
    cases hkk : k.kind with
    | array a ty =>
      rw [hkk] at g6
      have g7 := (Bool.and_eq_true _ _).mp g6
      have e : ty = .array t := of_decide_eq_true g7.1
      subst e
      exact ⟨a, rfl, of_decide_eq_true g7.2⟩
    | _ => rw [hkk] at g6; cases g6
  obtain ⟨a, k1, k2⟩ := hk
  have hc : a = comp := by
    have h9 := Array.findIdx?_eq_some_iff_getElem.mp g3
    obtain ⟨hlt, h10, -⟩ := h9
    have e : s.vm.classes[c] = k := by
      have := Array.getElem?_eq_getElem hlt
      rw [g5] at this
      exact (Option.some.inj this).symm
    rw [e, k1] at h10
    exact eq_of_beq h10
  subst hc
  exact ⟨a, c, k, g1, g5, k1, k2⟩
theorem arrT_of {s : State} {cA : ClassId} {k : Class} {comp : ClassId} {ty : FieldType} (h1 : s.vm.classes[cA]? = some k) (h2 : k.kind = .array comp ty) : ArrOfT s cA ty := fun _ _ => ⟨fun k h => (by cases h), k, h1, comp, h2⟩
set_option maxHeartbeats 4000000 in
set_option maxRecDepth 100000 in
theorem start_K {args : Array Value} {s : State} (hts : ∀ w ∈ lw_tbl, w.before args s = true) : ∃ (D : va_G) (C : Nat → ClassId), va_K D vwCl (tyl (D, C, fun _ => 0)) s := by
  obtain ⟨c0, i0, h0⟩ := u_known (C := RJ0) (T := TJ0) (N := 4) (n := 4) hts (by decide +kernel) (hts (.instantiable RJ0 4) (by decide +kernel))
  obtain ⟨c1, i1, h1⟩ := u_known (C := RJ4) (T := TJ4) (N := 4) (n := 4) hts (by decide +kernel) (hts (.instantiable RJ4 4) (by decide +kernel))
  obtain ⟨c2, i2, h2⟩ := u_known (C := RJx00060) (T := TJx00060) (N := 6) (n := 6) hts (by decide +kernel) (hts (.instantiable RJx00060 6) (by decide +kernel))
  obtain ⟨c3, i3, h3⟩ := u_known (C := RJx7c733) (T := TJx7c733) (N := 6) (n := 6) hts (by decide +kernel) (hts (.instantiable RJx7c733 6) (by decide +kernel))
  obtain ⟨c4, i4, h4⟩ := u_known (C := RX0) (T := TX0) (N := 8) (n := 8) hts (by decide +kernel) (hts (.instantiable RX0 8) (by decide +kernel))
  obtain ⟨c5, i5, h5⟩ := u_known (C := RX1) (T := TX1) (N := 4) (n := 4) hts (by decide +kernel) (hts (.instantiable RX1 4) (by decide +kernel))
  obtain ⟨c6, i6, h6⟩ := u_known (C := RX2) (T := TX2) (N := 3) (n := 3) hts (by decide +kernel) (hts (.instantiable RX2 3) (by decide +kernel))
  obtain ⟨c7, i7, h7⟩ := u_known (C := RX3) (T := TX3) (N := 3) (n := 3) hts (by decide +kernel) (hts (.instantiable RX3 3) (by decide +kernel))
  obtain ⟨c8, i8, h8⟩ := u_known (C := RX4) (T := TX4) (N := 1) (n := 1) hts (by decide +kernel) (hts (.instantiable RX4 1) (by decide +kernel))
  obtain ⟨c9, i9, h9⟩ := u_known (C := RX5) (T := TX5) (N := 3) (n := 3) hts (by decide +kernel) (hts (.instantiable RX5 3) (by decide +kernel))
  obtain ⟨c10, i10, h10⟩ := u_known (C := RX6) (T := TX6) (N := 9) (n := 9) hts (by decide +kernel) (hts (.instantiable RX6 9) (by decide +kernel))
  obtain ⟨c11, i11, h11⟩ := u_known (C := RX7) (T := TX7) (N := 8) (n := 8) hts (by decide +kernel) (hts (.instantiable RX7 8) (by decide +kernel))
  obtain ⟨c12, i12, h12⟩ := u_known (C := RX8) (T := TX8) (N := 3) (n := 3) hts (by decide +kernel) (hts (.instantiable RX8 3) (by decide +kernel))
  obtain ⟨c13, i13, h13⟩ := u_known (C := RX9) (T := TX9) (N := 10) (n := 10) hts (by decide +kernel) (hts (.instantiable RX9 10) (by decide +kernel))
  obtain ⟨c14, i14, h14⟩ := u_known (C := RX10) (T := TX10) (N := 21) (n := 21) hts (by decide +kernel) (hts (.instantiable RX10 21) (by decide +kernel))
  obtain ⟨a0, k0, p0, x0, y0, z0⟩ := Cond.arrayClass_spec (hts (.arrayClass .int) (by decide +kernel))
  obtain ⟨a1, k1, p1, x1, y1, z1⟩ := Cond.arrayClass_spec (hts (.arrayClass .char) (by decide +kernel))
  obtain ⟨a2, k2, p2, x2, y2, z2⟩ := Cond.arrayClass_spec (hts (.arrayClass .byte) (by decide +kernel))
  obtain ⟨a7, k7, p7, x7, y7, z7⟩ := Cond.arrayClass_spec (hts (.arrayClass .long) (by decide +kernel))
  obtain ⟨a8, k8, p8, x8, y8, z8⟩ := Cond.arrayClass_spec (hts (.arrayClass .double) (by decide +kernel))
  obtain ⟨p3, a3, k3, w3, v3, y3, z3, x3⟩ := Cond.arrayOver_spec (hts (.arrayOver (.object RX1)) (by decide +kernel))
  obtain ⟨p4, a4, k4, w4, v4, y4, z4, x4⟩ := Cond.arrayOver_spec (hts (.arrayOver (.object RX7)) (by decide +kernel))
  obtain ⟨p5, a5, k5, w5, v5, y5, z5, x5⟩ := Cond.arrayOver_spec (hts (.arrayOver (.object RX6)) (by decide +kernel))
  obtain ⟨p6, a6, k6, w6, y6, z6, x6⟩ := arr_over (hts (.arrayOver (.array .int)) (by decide +kernel))
  refine ⟨(fun k => [c0, c1, c2, c3, c4, c5, c6, c7, c8, c9, c10, c11, c12, c13, c14].getD k 0, fun k => [i0, i1, i2, i3, i4, i5, i6, i7, i8, i9, i10, i11, i12, i13, i14].getD k (fun _ => 0)), fun k => [a0, a1, a2, a3, a4, a5, a6, a7, a8].getD k 0, fun k q hq => ?_, fun k q hq => ?_⟩
  · match k, hq with
    | 0, hq => cases hq; exact h0
    | 1, hq => cases hq; exact h1
    | 2, hq => cases hq; exact h2
    | 3, hq => cases hq; exact h3
    | 4, hq => cases hq; exact h4
    | 5, hq => cases hq; exact h5
    | 6, hq => cases hq; exact h6
    | 7, hq => cases hq; exact h7
    | 8, hq => cases hq; exact h8
    | 9, hq => cases hq; exact h9
    | 10, hq => cases hq; exact h10
    | 11, hq => cases hq; exact h11
    | 12, hq => cases hq; exact h12
    | 13, hq => cases hq; exact h13
    | 14, hq => cases hq; exact h14
    | k + 15, hq => cases hq
  · match k, hq with
    | 0, hq => cases hq; exact ⟨arrT_of y0 z0, x0⟩
    | 1, hq => cases hq; exact ⟨arrT_of y1 z1, x1⟩
    | 2, hq => cases hq; exact ⟨arrT_of y2 z2, x2⟩
    | 3, hq => cases hq; exact ⟨arrT_of y3 z3, ⟨k3, p3, y3, z3, w3, x3⟩⟩
    | 4, hq => cases hq; exact ⟨arrT_of y4 z4, ⟨k4, p4, y4, z4, w4, x4⟩⟩
    | 5, hq => cases hq; exact ⟨arrT_of y5 z5, ⟨k5, p5, y5, z5, w5, x5⟩⟩
    | 6, hq => cases hq; exact ⟨arrT_of y6 z6, x6⟩
    | 7, hq => cases hq; exact ⟨arrT_of y7 z7, x7⟩
    | 8, hq => cases hq; exact ⟨arrT_of y8 z8, x8⟩
    | k + 9, hq => cases hq
