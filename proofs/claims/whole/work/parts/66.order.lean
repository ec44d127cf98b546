/-! TEXTS: the reference reads an order -/
def noF (q : Int32) : Prop := ¬ q = 98 ∧ ¬ q = 103 ∧ ¬ q = 104 ∧ ¬ q = 109 ∧ ¬ q = 114 ∧ ¬ q = 115 ∧ ¬ q = 116 ∧ ¬ q = 118 ∧ ¬ q = 119
theorem kinds_ok (q : Int32) (A : Int32 → Option Mm) (h : q = 98 ∨ q = 103 ∨ q = 104 ∨ q = 109 ∨ q = 114 ∨ q = 115 ∨ q = 116 ∨ q = 118 ∨ q = 119) : (lt A fun K4 => if q = 104 then (K4 1) else (if q = 115 then (K4 1) else (if q = 116 then (K4 1) else (if q = 109 then (K4 1) else (if q = 103 then (K4 1) else (if q = 118 then (K4 1) else (if q = 98 then (K4 1) else (if q = 119 then (K4 1) else (if q = 114 then (K4 1) else (K4 0)))))))))) = A 1 := by
  rw [lt_d]
  rcases h with rfl | rfl | rfl | rfl | rfl | rfl | rfl | rfl | rfl <;> rfl
theorem kinds_no (q : Int32) (A : Int32 → Option Mm) (h : noF q) : (lt A fun K4 => if q = 104 then (K4 1) else (if q = 115 then (K4 1) else (if q = 116 then (K4 1) else (if q = 109 then (K4 1) else (if q = 103 then (K4 1) else (if q = 118 then (K4 1) else (if q = 98 then (K4 1) else (if q = 119 then (K4 1) else (if q = 114 then (K4 1) else (K4 0)))))))))) = A 0 := by
  obtain ⟨h1, h2, h3, h4, h5, h6, h7, h8, h9⟩ := h
  rw [lt_d, if_neg h3, if_neg h6, if_neg h7, if_neg h4, if_neg h2, if_neg h8, if_neg h1, if_neg h9, if_neg h5]
theorem form_cases (c : Nat) : (formN c = none ∧ c ≠ 98 ∧ c ≠ 103 ∧ c ≠ 104 ∧ c ≠ 109 ∧ c ≠ 114 ∧ c ≠ 115 ∧ c ≠ 116 ∧ c ≠ 118 ∧ c ≠ 119) ∨ c = 98 ∨ c = 103 ∨ c = 104 ∨ c = 109 ∨ c = 114 ∨ c = 115 ∨ c = 116 ∨ c = 118 ∨ c = 119 := by
  by_cases a : c = 98 ∨ c = 103 ∨ c = 104 ∨ c = 109 ∨ c = 114 ∨ c = 115 ∨ c = 116 ∨ c = 118 ∨ c = 119
  · exact Or.inr a
  · refine Or.inl ⟨?_, by omega⟩
    unfold formN
    rw [if_neg (by omega), if_neg (by omega), if_neg (by omega), if_neg (by omega), if_neg (by omega), if_neg (by omega), if_neg (by omega), if_neg (by omega), if_neg (by omega)]
def Fi (t : Nat → Nat) (L m i : Nat) (s : Rd) (σ0 : Mm) (o : Option Mm) : Prop := ∃ τ, o = some τ ∧ RO t L m i s τ ∧ frO m σ0 τ
section
variable {t : Nat → Nat} {L m i i1 : Nat} {s s1 : Rd} {σ σ0 : Mm} {F : Mm → Option Mm} {a : Int32}
theorem fi_digit (hL : L ≤ 60) (ht : ∀ j, j < L → t j < 65536) (hm : m < 60) (hi : i < 3) (ha : a = I (4 * m + 1 + i)) (Z : RO t L m i s σ) (f : frO m σ0 σ) (k : ∀ τ, RO t L m (i + 1) (rdD t L s) τ → frO m σ0 τ → Fi t L m i1 s1 σ0 (F τ)) : Fi t L m i1 s1 σ0 (bnm (f_X10_digit σ) fun q σ' => gd a 244 (lt (up σ' 205 a.toNatClampNeg q) F)) := by
  obtain ⟨τ, t1, t2, t3⟩ := o_digit (F := F) hL ht hm hi ha Z
  rw [t1]
  exact k τ t2 (f.trans t3)
theorem fi_number (hL : L ≤ 60) (ht : ∀ j, j < L → t j < 65536) (hm : m < 60) (hi : i < 3) (ha : a = I (4 * m + 1 + i)) (Z : RO t L m i s σ) (f : frO m σ0 σ) (k : ∀ τ, RO t L m (i + 1) (rdN t L s) τ → frO m σ0 τ → Fi t L m i1 s1 σ0 (F τ)) : Fi t L m i1 s1 σ0 (bnm (f_X10_number σ) fun q σ' => gd a 244 (lt (up σ' 205 a.toNatClampNeg q) F)) := by
  obtain ⟨τ, t1, t2, t3⟩ := o_number (F := F) hL ht hm hi ha Z
  rw [t1]
  exact k τ t2 (f.trans t3)
theorem fi_sign (hL : L ≤ 60) (ht : ∀ j, j < L → t j < 65536) (c : Nat) {ci : Int32} (hc : c < 65536) (hci : ci = I c) (Z : RO t L m i s σ) (f : frO m σ0 σ) (k : ∀ τ, RO t L m i (rdS t L c s) τ → frO m σ0 τ → Fi t L m i1 s1 σ0 (F τ)) : Fi t L m i1 s1 σ0 (bnd (f_X10_here σ) fun q => if q = ci then (bnd (f_X10_expects 1 σ) F) else (bnd (f_X10_expects 0 σ) F)) := by
  obtain ⟨τ, t1, t2, t3⟩ := o_sign (F := F) hL ht hc hci Z
  rw [t1]
  exact k τ t2 (f.trans t3)
theorem fi_cells (hL : L ≤ 60) (ht : ∀ j, j < L → t j < 65536) (hm : m < 60) (hi : i + 1 < 3) (ha : a = I (4 * m + 1 + i)) (Z : RO t L m i s σ) (f : frO m σ0 σ) (k : ∀ τ, RO t L m (i + 2) (rdN t L (rdS t L 45 (rdN t L s))) τ → frO m σ0 τ → Fi t L m i1 s1 σ0 (F τ)) : Fi t L m i1 s1 σ0 (bnd (f_X10_cells a σ) F) := by
  obtain ⟨τ, t1, t2, t3⟩ := o_cells hL ht hm hi ha Z
  rw [t1]
  exact k τ t2 (f.trans t3)
end
theorem a4 (m i : Nat) : I (4 * m) + I (i + 1) = I (4 * m + 1 + i) := by rw [I_add]; congr 1; omega
theorem r_dirOf {t : Nat → Nat} {L p : Nat} (ht : ∀ j, j < L → t j < 65536) (σ : Mm) : f_X10_directionOf (hv t L p) σ = some (match (if p < L then dirN (t p) else none) with | some d => I d | none => -1) := by
  unfold f_X10_directionOf hv
  by_cases q : p < L
  · have := ht p q
    have ne : ∀ {d : Nat}, d < 65536 → t p ≠ d → ¬ I (t p) = I d := fun hd h => I_beq (by omega) (by omega) h
    rw [if_pos q, if_pos q]
    unfold dirN
    by_cases e : t p = 110
    · rw [e]; rfl
    rw [if_neg (show ¬ I (t p) = 110 from ne (d := 110) (by omega) e), if_neg e]
    by_cases e : t p = 101
    · rw [e]; rfl
    rw [if_neg (show ¬ I (t p) = 101 from ne (d := 101) (by omega) e), if_neg e]
    by_cases e : t p = 115
    · rw [e]; rfl
    rw [if_neg (show ¬ I (t p) = 115 from ne (d := 115) (by omega) e), if_neg e]
    by_cases e : t p = 119
    · rw [e]; rfl
    rw [if_neg (show ¬ I (t p) = 119 from ne (d := 119) (by omega) e), if_neg e]
  · rw [if_neg q, if_neg q]; rfl
theorem dir_lt {c d : Nat} (h : dirN c = some d) : d < 4 := by
  unfold dirN at h
  repeat' split at h
  all_goals (cases h <;> omega)
/-- the direction: laid, then looked at -/
theorem fi_dir {t : Nat → Nat} {L m : Nat} {s : Rd} {σ σ0 : Mm} {a : Int32} (hL : L ≤ 60) (ht : ∀ j, j < L → t j < 65536) (hm : m < 60) (ha : a = I (4 * m + 1 + 1)) (Z : RO t L m 1 s σ) (f : frO m σ0 σ) :
    Fi t L m 2 (rdW t L s) σ0 (bnd (f_X10_here σ) fun q114 => bnd (f_X10_directionOf q114 σ) fun q115 => gd a 244 (lt (up σ 205 a.toNatClampNeg q115) fun σ116 => gd a 244 (if (σ116 205 a.toNatClampNeg) = (-1) then (bnd (f_X10_expects 0 σ116) fun σ119 => some σ119) else (bnd (f_X10_expects 1 σ116) fun σ121 => some σ121)))) := by
  obtain ⟨p, w, k, V⟩ := s
  obtain ⟨Z1, Z2⟩ := Z
  dsimp only at Z1 Z2
  subst ha
  rw [r_here hL Z1, bnd_d, r_dirOf ht, bnd_d, gd_I (by omega) (by omega), I_clamp (by omega), lt_d, gd_I (by omega) (by omega), up_e, upd_e]
  have Zx : ∀ x, RZ t L p w (up σ 205 (4 * m + 1 + 1) x) := fun x => by
    obtain ⟨g1, g2, g3, g4, g5⟩ := Z1
    exact ⟨by rw [up_n _ _ _ (by omega)]; exact g1, by rw [up_n _ _ _ (by omega)]; exact g2, by rw [up_n _ _ _ (by omega)]; exact g3, g4, fun j hj => by rw [up_n _ _ _ (by omega)]; exact g5 j hj⟩
  have fx : ∀ x, frO m σ0 (up σ 205 (4 * m + 1 + 1) x) := fun x => f.trans ⟨fun a z1 z2 => up_n _ _ _ z2, fun k z1 z2 => by rw [up_n _ _ _ (by omega)], fun j hj => by rw [up_e, upd_n _ _ (by omega)]⟩
  unfold rdW
  dsimp only
  cases e : (if p < L then dirN (t p) else none) with
  | none =>
    dsimp only
    rw [if_pos rfl]
    obtain ⟨τ, t1, t2, t3⟩ := r_not (Zx (-1))
    rw [t1, bnd_d]
    refine ⟨τ, rfl, ?_, (fx _).trans (t3.O m)⟩
    cases w with
    | true => rw [if_pos rfl]; exact ⟨t2, fun z => (by cases z)⟩
    | false => rw [if_neg ff]; exact ⟨t2, fun z => (by cases z)⟩
  | some d =>
    have pL : p < L := by
      by_cases q : p < L
      · exact q
      · rw [if_neg q] at e; cases e
    rw [if_pos pL] at e
    dsimp only
    rw [if_neg (nm1 (by have := dir_lt e; omega))]
    obtain ⟨τ, t1, t2, t3⟩ := r_yes (Zx (I d)) (by omega)
    rw [t1, bnd_d]
    refine ⟨τ, rfl, ?_, (fx _).trans (t3.O m)⟩
    cases w with
    | true => rw [if_pos rfl]; exact ⟨t2, fun z => (by cases z)⟩
    | false =>
      rw [if_neg ff]
      obtain ⟨z1, z2⟩ := Z2 rfl
      subst z1
      refine ⟨t2, fun _ => ⟨rfl, fun j hj => ?_⟩⟩
      dsimp only
      rw [t3.1 205 (by omega), up_e]
      by_cases e : j = 1
      · subst e; rw [upd_e, upd_e]
      · rw [upd_n _ _ (by omega), upd_n _ _ e]; exact z2 j (by omega)
/-- "m": a cell, or none -/
theorem fi_mino {t : Nat → Nat} {L m p : Nat} {σ σ0 : Mm} {a : Int32} (hL : L ≤ 60) (ht : ∀ j, j < L → t j < 65536) (hm : m < 60) (ha : a = I (4 * m + 1 + 0)) (Z : RO t L m 0 (p, false, 0, V0) σ) (f : frO m σ0 σ) :
    Fi t L m 1 (rdX t L (p, false, 0, V0)) σ0 (bnd (f_X10_here σ) fun q69 => if q69 = 120 then (lt (up σ 198 16 ((σ 198 16) + 1)) fun σ74 => gd a 244 (lt (up σ74 205 a.toNatClampNeg (-1)) fun σ75 => some σ75)) else (bnm (f_X10_number σ) fun q71 σ72 => gd a 244 (lt (up σ72 205 a.toNatClampNeg q71) fun σ73 => some σ73))) := by
  have Z1 : RZ t L p false σ := Z.1
  rw [r_here hL Z1, bnd_d]
  unfold rdX
  dsimp only
  rw [if_neg ff]
  by_cases q : p < L ∧ t p = 120
  · have eh : hv t L p = 120 := by unfold hv; rw [if_pos q.1, q.2]; rfl
    obtain ⟨g1, g2, g3, g4, g5⟩ := id Z1
    subst ha
    rw [if_pos q, if_pos eh, g2, I_a1, lt_d, gd_I (by omega) (by omega), I_clamp (by omega), lt_d]
    have fr : frR σ (up σ 198 16 (I (p + 1))) := ⟨fun a z => up_n _ _ _ z, fun k z1 _ => by rw [up_e, upd_n _ _ z1]⟩
    have h1 : RZ t L (p + 1) false (up σ 198 16 (I (p + 1))) := ⟨by rw [up_e, upd_n _ _ (by omega)]; exact g1, by rw [up_e, upd_e], by rw [up_e, upd_n _ _ (by omega)]; exact g3, by omega, fun j hj => by rw [up_n _ _ _ (by omega)]; exact g5 j hj⟩
    obtain ⟨u1, u2⟩ := Z.put (s1 := (p + 1, false, 0 + 1, upd V0 0 (-1))) (x := -1) fr h1 (fun _ => ⟨rfl, rfl, rfl⟩)
    exact ⟨_, rfl, u1, f.trans u2⟩
  · have eh : ¬ hv t L p = 120 := by
      unfold hv
      by_cases z : p < L
      · rw [if_pos z]; exact (show ¬ I (t p) = 120 from I_beq (b := 120) (by have := ht p z; omega) (by omega) (fun y => q ⟨z, y⟩))
      · rw [if_neg z]; decide
    rw [if_neg q, if_neg eh]
    exact fi_number hL ht hm (by omega) ha Z f (fun τ z1 z2 => ⟨τ, rfl, z1, z2⟩)
theorem r_order {t : Nat → Nat} {L m p : Nat} {σ : Mm} (hL : L ≤ 60) (ht : ∀ j, j < L → t j < 65536) (hm : m < 60) (Z : RZ t L p false σ) (h15 : σ 198 15 = I m) :
    ∃ τ, f_X10_readOrder σ = some τ ∧ RZ t L (rdC t L p).1 (rdC t L p).2.1 τ ∧ τ 198 15 = I (m + 1) ∧ ((rdC t L p).2.1 = false → τ 205 (4 * m) = I (t p) ∧ ∀ j, j < (rdC t L p).2.2.1 → τ 205 (4 * m + 1 + j) = (rdC t L p).2.2.2 j) ∧ (∀ a, a ≠ 198 → a ≠ 205 → τ a = σ a) ∧ (∀ k, k ≠ 15 → k ≠ 16 → k ≠ 18 → τ 198 k = σ 198 k) ∧ ∀ j, j < 4 * m → τ 205 j = σ 205 j := by
  have bad : noF (hv t L p) → rdC t L p = (p, true, 0, V0) → ∃ τ, f_X10_readOrder σ = some τ ∧ RZ t L (rdC t L p).1 (rdC t L p).2.1 τ ∧ τ 198 15 = I (m + 1) ∧ ((rdC t L p).2.1 = false → τ 205 (4 * m) = I (t p) ∧ ∀ j, j < (rdC t L p).2.2.1 → τ 205 (4 * m + 1 + j) = (rdC t L p).2.2.2 j) ∧ (∀ a, a ≠ 198 → a ≠ 205 → τ a = σ a) ∧ (∀ k, k ≠ 15 → k ≠ 16 → k ≠ 18 → τ 198 k = σ 198 k) ∧ ∀ j, j < 4 * m → τ 205 j = σ 205 j := by
    intro hn he
    obtain ⟨σ6, t1, t2, t3⟩ := r_not Z
    unfold f_X10_readOrder
    rw [h15, show (4 : Int32) * I m = I (4 * m) from I_mul 4 m, lt_d, r_here hL Z, bnd_d, kinds_no _ _ hn, t1, bnd_d, gd_I (by omega) (by omega), I_clamp (by omega), lt_d, up_n _ _ _ (show 198 ≠ 205 by omega), t3.2 15 (by omega) (by omega), h15, I_a1, lt_d]
    obtain ⟨h1, h2, h3, h4, h5, h6, h7, h8, h9⟩ := hn
    rw [if_neg h1, if_neg h2, if_neg h3, if_neg h4, if_neg h5, if_neg h7, if_neg h8, if_neg h9, he]
    obtain ⟨g1, g2, g3, g4, g5⟩ := t2
    refine ⟨_, rfl, ⟨by rw [up_e, upd_n _ _ (by omega), up_n _ _ _ (by omega)]; exact g1, by rw [up_e, upd_n _ _ (by omega), up_n _ _ _ (by omega)]; exact g2, by rw [up_e, upd_n _ _ (by omega), up_n _ _ _ (by omega)]; exact g3, g4, fun j hj => by rw [up_n _ _ _ (by omega), up_n _ _ _ (by omega)]; exact g5 j hj⟩, by rw [up_e, upd_e], fun z => (by cases z), fun a z1 z2 => by rw [up_n _ _ _ z1, up_n _ _ _ z2, t3.1 a z1], fun k z1 z2 z3 => by rw [up_e, upd_n _ _ z1, up_n _ _ _ (by omega), t3.2 k z2 z3], fun j hj => by rw [up_n _ _ _ (by omega), up_e, upd_n _ _ (by omega), t3.1 205 (by omega)]⟩
  by_cases pL : ¬ p < L
  · have e : hv t L p = -1 := by unfold hv; rw [if_neg pL]
    exact bad (by rw [e]; unfold noF; decide) (by unfold rdC; rw [if_neg pL])
  have pL : p < L := Decidable.not_not.mp pL
  rcases form_cases (t p) with ⟨hN, n1, n2, n3, n4, n5, n6, n7, n8, n9⟩ | hc
  · have e : hv t L p = I (t p) := by unfold hv; rw [if_pos pL]
    have ne : ∀ {d : Nat}, d < 65536 → t p ≠ d → ¬ I (t p) = I d := fun hd h => I_beq (by have := ht p pL; omega) (by omega) h
    refine bad ?_ (by unfold rdC; rw [if_pos pL, hN])
    rw [e]
    exact ⟨ne (d := 98) (by omega) n1, ne (d := 103) (by omega) n2, ne (d := 104) (by omega) n3, ne (d := 109) (by omega) n4, ne (d := 114) (by omega) n5, ne (d := 115) (by omega) n6, ne (d := 116) (by omega) n7, ne (d := 118) (by omega) n8, ne (d := 119) (by omega) n9⟩
  · obtain ⟨σ6, t1, t2, t3⟩ := r_yes Z (by omega)
    rw [if_neg ff] at t2
    obtain ⟨g1, g2, g3, g4, g5⟩ := t2
    obtain ⟨σ8, h8⟩ : ∃ s, s = up (up σ6 205 (4 * m) (I (t p))) 198 15 (I (m + 1)) := ⟨_, rfl⟩
    have Z8 : RO t L m 0 (p + 1, false, 0, V0) σ8 := ⟨⟨by rw [h8, up_e, upd_n _ _ (by omega), up_n _ _ _ (by omega)]; exact g1, by rw [h8, up_e, upd_n _ _ (by omega), up_n _ _ _ (by omega)]; exact g2, by rw [h8, up_e, upd_n _ _ (by omega), up_n _ _ _ (by omega)]; exact g3, g4, fun j hj => by rw [h8, up_n _ _ _ (by omega), up_n _ _ _ (by omega)]; exact g5 j hj⟩, fun _ => ⟨rfl, fun j hj => absurd hj (Nat.not_lt_zero _)⟩⟩
    have done : ∀ (l : List Nat) (j : Nat), formN (t p) = some (j, l) → Fi t L m (numL l) (rdF t L l (p + 1, false, 0, V0)) σ8 (f_X10_readOrder σ) → ∃ τ, f_X10_readOrder σ = some τ ∧ RZ t L (rdC t L p).1 (rdC t L p).2.1 τ ∧ τ 198 15 = I (m + 1) ∧ ((rdC t L p).2.1 = false → τ 205 (4 * m) = I (t p) ∧ ∀ j, j < (rdC t L p).2.2.1 → τ 205 (4 * m + 1 + j) = (rdC t L p).2.2.2 j) ∧ (∀ a, a ≠ 198 → a ≠ 205 → τ a = σ a) ∧ (∀ k, k ≠ 15 → k ≠ 16 → k ≠ 18 → τ 198 k = σ 198 k) ∧ ∀ j, j < 4 * m → τ 205 j = σ 205 j := by
      intro l j hl hF
      obtain ⟨τ, u1, ⟨u2, u3⟩, u4, u5, u6⟩ := hF
      have e : rdC t L p = rdF t L l (p + 1, false, 0, V0) := by unfold rdC; rw [if_pos pL, hl]
      rw [e]
      refine ⟨τ, u1, u2, by rw [u5 15 (by omega) (by omega), h8, up_e, upd_e], fun z => ⟨by rw [u6 _ (by omega), h8, up_n _ _ _ (by omega), up_e, upd_e], fun j hj => ?_⟩, fun a z1 z2 => by rw [u4 a z1 z2, h8, up_n _ _ _ z1, up_n _ _ _ z2, t3.1 a z1], fun k z1 z2 z3 => by rw [u5 k z2 z3, h8, up_e, upd_n _ _ z1, up_n _ _ _ (by omega), t3.2 k z2 z3], fun j hj => by rw [u6 j (by omega), h8, up_n _ _ _ (by omega), up_e, upd_n _ _ (by omega), t3.1 205 (by omega)]⟩
      obtain ⟨v1, v2⟩ := u3 z
      exact v2 j (by omega)
    have eh : hv t L p = I (t p) := by unfold hv; rw [if_pos pL]
    have hq : I (t p) = 98 ∨ I (t p) = 103 ∨ I (t p) = 104 ∨ I (t p) = 109 ∨ I (t p) = 114 ∨ I (t p) = 115 ∨ I (t p) = 116 ∨ I (t p) = 118 ∨ I (t p) = 119 := by
      rcases hc with e | e | e | e | e | e | e | e | e <;> rw [e] <;> decide
    have f0 := frO.refl m σ8
    have b1 : I (4 * m) + 1 = I (4 * m + 1 + 0) := a4 m 0
    have b2 : I (4 * m) + 2 = I (4 * m + 1 + 1) := a4 m 1
    have b3 : I (4 * m) + 3 = I (4 * m + 1 + 2) := a4 m 2
    rcases hc with e | e | e | e | e | e | e | e | e
    all_goals (
      refine done _ _ (by rw [e]; rfl) ?_
      unfold f_X10_readOrder
      rw [h15, show (4 : Int32) * I m = I (4 * m) from I_mul 4 m, lt_d, r_here hL Z, bnd_d, eh, kinds_ok _ _ hq, t1, bnd_d, gd_I (by omega) (by omega), I_clamp (by omega), lt_d, up_n _ _ _ (show 198 ≠ 205 by omega), t3.2 15 (by omega) (by omega), h15, I_a1, lt_d, ← h8, e])
    · rw [if_pos (by decide)]
      refine fi_digit hL ht hm (by omega) b1 Z8 f0 (fun σ1 z1 f1 => ?_)
      refine fi_sign hL ht 62 (by omega) rfl z1 f1 (fun σ2 z2 f2 => ?_)
      refine fi_digit hL ht hm (by omega) b2 z2 f2 (fun σ3 z3 f3 => ?_)
      refine fi_sign hL ht 42 (by omega) rfl z3 f3 (fun σ4 z4 f4 => ?_)
      refine fi_digit hL ht hm (by omega) b3 z4 f4 (fun σ5 z5 f5 => ?_)
      exact ⟨σ5, rfl, z5, f5⟩
    · rw [if_neg (by decide), if_pos (by decide)]
      refine fi_number hL ht hm (by omega) b1 Z8 f0 (fun σ1 z1 f1 => ?_)
      exact ⟨σ1, rfl, z1, f1⟩
    · rw [if_neg (by decide), if_neg (by decide), if_pos (by decide)]
      refine fi_cells hL ht hm (by omega) b1 Z8 f0 (fun σ1 z1 f1 => ?_)
      refine fi_sign hL ht 61 (by omega) rfl z1 f1 (fun σ2 z2 f2 => ?_)
      refine fi_digit hL ht hm (by omega) b3 z2 f2 (fun σ3 z3 f3 => ?_)
      exact ⟨σ3, rfl, z3, f3⟩
    · rw [if_neg (by decide), if_neg (by decide), if_neg (by decide), if_pos (by decide)]
      exact fi_mino hL ht hm b1 Z8 f0
    · rw [if_neg (by decide), if_neg (by decide), if_neg (by decide), if_neg (by decide), if_pos (by decide)]
      refine fi_digit hL ht hm (by omega) b1 Z8 f0 (fun σ1 z1 f1 => ?_)
      refine fi_sign hL ht 43 (by omega) rfl z1 f1 (fun σ2 z2 f2 => ?_)
      refine fi_digit hL ht hm (by omega) b2 z2 f2 (fun σ3 z3 f3 => ?_)
      exact ⟨σ3, rfl, z3, f3⟩
    · rw [if_neg (by decide), if_neg (by decide), if_neg (by decide), if_neg (by decide), if_neg (by decide), if_neg (by decide), if_neg (by decide), if_neg (by decide)]
      exact ⟨σ8, rfl, Z8, f0⟩
    · rw [if_neg (by decide), if_neg (by decide), if_neg (by decide), if_neg (by decide), if_neg (by decide), if_pos (by decide)]
      refine fi_digit hL ht hm (by omega) b1 Z8 f0 (fun σ1 z1 f1 => ?_)
      refine fi_sign hL ht 58 (by omega) rfl z1 f1 (fun σ2 z2 f2 => ?_)
      refine fi_cells hL ht hm (by omega) b2 z2 f2 (fun σ3 z3 f3 => ?_)
      exact ⟨σ3, rfl, z3, f3⟩
    · rw [if_neg (by decide), if_neg (by decide), if_neg (by decide), if_neg (by decide), if_neg (by decide), if_neg (by decide), if_pos (by decide)]
      refine fi_number hL ht hm (by omega) b1 Z8 f0 (fun σ1 z1 f1 => ?_)
      exact ⟨σ1, rfl, z1, f1⟩
    · rw [if_neg (by decide), if_neg (by decide), if_neg (by decide), if_neg (by decide), if_neg (by decide), if_neg (by decide), if_neg (by decide), if_pos (by decide)]
      refine fi_digit hL ht hm (by omega) b1 Z8 f0 (fun σ1 z1 f1 => ?_)
      exact fi_dir hL ht hm b2 z1 f1
