/-! TEXTS: the reference reads all; both carry out -/
def RM (n : Nat) (C : Cs) (σ : Mm) : Prop := ∀ i, i < n → σ 205 (4 * i) = I (C i).1 ∧ ∀ j, j < (C i).2.1 → σ 205 (4 * i + 1 + j) = (C i).2.2 j
def GC (n : Nat) (C : Cs) : Prop := ∀ i, i < n → ∃ x, formN (C i).1 = some x ∧ (C i).2.1 = numL x.2
theorem GC.le {n : Nat} {C : Cs} (h : GC n C) {i : Nat} (hi : i < n) : (C i).2.1 ≤ 3 := by
  obtain ⟨x, h1, h2⟩ := h i hi
  rw [h2]; exact (form_ok h1).2.2.2.2.1
theorem GC.add {n : Nat} {C : Cs} {x : Nat × Nat × (Nat → Int32)} (h : GC n C) (hx : ∃ y, formN x.1 = some y ∧ x.2.1 = numL y.2) : GC (n + 1) (sn C n x) := by
  intro i hi
  unfold sn
  by_cases e : i = n
  · rw [if_pos e]; exact hx
  · rw [if_neg e]; exact h i (by omega)
theorem RM.add {n : Nat} {C : Cs} {σ τ : Mm} {x : Nat × Nat × (Nat → Int32)} (g : GC n C) (h : RM n C σ) (e1 : ∀ j, j < 4 * n → τ 205 j = σ 205 j) (e3 : τ 205 (4 * n) = I x.1) (e4 : ∀ j, j < x.2.1 → τ 205 (4 * n + 1 + j) = x.2.2 j) : RM (n + 1) (sn C n x) τ := by
  intro i hi
  unfold sn
  by_cases e : i = n
  · subst e; rw [if_pos rfl]; exact ⟨e3, e4⟩
  · rw [if_neg e, e1 _ (by omega)]
    have := g.le (i := i) (by omega)
    exact ⟨(h i (by omega)).1, fun j hj => by rw [e1 _ (by omega)]; exact (h i (by omega)).2 j hj⟩
def rdR (t : Nat → Nat) (L m p n : Nat) (C : Cs) : Nat × Bool × Nat × Cs := if (rdC t L p).2.1 = true then ((rdC t L p).1, true, n, C) else rdT t L m (rdC t L p).1 (n + 1) (sn C n (t p, (rdC t L p).2.2))
theorem rdT_R (t : Nat → Nat) (L m p n : Nat) (C : Cs) : rdT t L (m + 1) p n C = if p < L then (if t p = 59 then rdR t L m (p + 1) n C else (p, true, n, C)) else (p, false, n, C) := by
  rw [rdT]; rfl
theorem rdT_GC {t : Nat → Nat} {L : Nat} : ∀ (m p n : Nat) (C : Cs), GC n C → (rdT t L m p n C).2.1 = false → GC (rdT t L m p n C).2.2.1 (rdT t L m p n C).2.2.2 ∧ (2 * n ≤ p + 1 → p ≤ L → 2 * (rdT t L m p n C).2.2.1 ≤ L + 1) := by
  intro m
  induction m with
  | zero => intro p n C _ h; cases h
  | succ m ih =>
    intro p n C hC h
    rw [rdT] at h ⊢
    by_cases q : p < L
    · rw [if_pos q] at h ⊢
      by_cases q2 : t p = 59
      · rw [if_pos q2] at h ⊢
        by_cases w : (rdC t L (p + 1)).2.1 = true
        · rw [if_pos w] at h; cases h
        · rw [if_neg w] at h ⊢
          have w' : (rdC t L (p + 1)).2.1 = false := by cases z : (rdC t L (p + 1)).2.1 with | false => rfl | true => exact absurd z w
          obtain ⟨y1, y2, y3⟩ := rdC_t w'
          have k := ih (rdC t L (p + 1)).1 (n + 1) _ (hC.add (x := (t (p + 1), (rdC t L (p + 1)).2.2)) y3) h
          exact ⟨k.1, fun z1 z2 => k.2 (by omega) (rdC_le (by omega))⟩
      · rw [if_neg q2] at h; cases h
    · rw [if_neg q] at h ⊢
      exact ⟨hC, fun z1 z2 => by show 2 * n ≤ L + 1; omega⟩
theorem rdA_R (t : Nat → Nat) (L : Nat) : rdA t L = rdR t L 62 0 0 C0 := rfl
theorem rdA_GC {t : Nat → Nat} {L : Nat} (h : (rdA t L).2.1 = false) : GC (rdA t L).2.2.1 (rdA t L).2.2.2 ∧ 2 * (rdA t L).2.2.1 ≤ L + 1 := by
  unfold rdA at h ⊢
  by_cases w : (rdC t L 0).2.1 = true
  · rw [if_pos w] at h; cases h
  · rw [if_neg w] at h ⊢
    have w' : (rdC t L 0).2.1 = false := by cases z : (rdC t L 0).2.1 with | false => rfl | true => exact absurd z w
    obtain ⟨y1, y2, y3⟩ := rdC_t w'
    have k := rdT_GC _ _ _ _ (GC.add (n := 0) (C := C0) (x := (t 0, (rdC t L 0).2.2)) (fun i hi => absurd hi (Nat.not_lt_zero _)) y3) h
    exact ⟨k.1, k.2 (by omega) (rdC_le (by omega))⟩
theorem r_rest' {t : Nat → Nat} {L : Nat} {K : Int32 → Mm → Option (Int32 × Mm)} (hL : L ≤ 60) (ht : ∀ j, j < L → t j < 65536) : ∀ (m p n F : Nat) (C : Cs) (σ : Mm), 2 * n ≤ p → p ≤ L → L + 1 ≤ p + 2 * m → m + 2 ≤ F → RZ t L p false σ → σ 198 15 = I n → GC n C → RM n C σ →
    ∃ τ, f_X10_commands_l34 K F 1 σ = K 0 τ ∧ RZ t L (rdR t L m p n C).1 (rdR t L m p n C).2.1 τ ∧ ((rdR t L m p n C).2.1 = false → τ 198 15 = I (rdR t L m p n C).2.2.1 ∧ RM (rdR t L m p n C).2.2.1 (rdR t L m p n C).2.2.2 τ) ∧ (∀ a, a ≠ 198 → a ≠ 205 → τ a = σ a) ∧ ∀ k, k ≠ 15 → k ≠ 16 → k ≠ 18 → τ 198 k = σ 198 k := by
  intro m
  induction m with
  | zero => intro p n F C σ h1 h2 h3; omega
  | succ m ih =>
    intro p n F C σ h1 h2 hm hF Z h15 hG hC
    obtain ⟨F, rfl⟩ : ∃ k, F = k + 2 := ⟨F - 2, by omega⟩
    have stop : ∀ (τ : Mm), f_X10_commands_l34 K (F + 1) 0 τ = K 0 τ := fun τ => by
      rw [f_X10_commands_l34, if_pos rfl]
    obtain ⟨τ, t1, t2, t3, t4, t5, t6, t7⟩ := r_order hL ht (by omega) Z h15
    rw [f_X10_commands_l34, if_neg one_ne, t1, bnd_d]
    by_cases w : (rdC t L p).2.1 = true
    · have e0 : rdR t L (m + 1) p n C = ((rdC t L p).1, true, n, C) := by unfold rdR; rw [if_pos w]
      have e18 : τ 198 18 = 1 := by rw [t2.2.2.1, if_pos w]
      rw [e18, if_neg one_ne, stop, e0]
      rw [w] at t2
      exact ⟨τ, rfl, t2, fun z => (by cases z), t5, t6⟩
    · have w' : (rdC t L p).2.1 = false := by cases z : (rdC t L p).2.1 with | false => rfl | true => exact absurd z w
      obtain ⟨y1, y2, y3⟩ := rdC_t w'
      have e0 : rdR t L (m + 1) p n C = rdT t L (m + 1) (rdC t L p).1 (n + 1) (sn C n (t p, (rdC t L p).2.2)) := by unfold rdR; rw [if_neg w]
      have e18 : τ 198 18 = 0 := by rw [t2.2.2.1, if_neg w]
      obtain ⟨t4a, t4b⟩ := t4 w'
      have hG2 := hG.add (x := (t p, (rdC t L p).2.2)) y3
      have hC2 : RM (n + 1) (sn C n (t p, (rdC t L p).2.2)) τ := RM.add hG hC t7 t4a t4b
      have hle := rdC_le (t := t) h2
      rw [w'] at t2
      rw [e18, if_pos rfl, t2.1, t2.2.1, e0, rdT_R]
      by_cases q : (rdC t L p).1 < L
      · rw [if_neg (nle q (by omega)), r_here hL t2, bnd_d, if_pos q]
        have eh : hv t L (rdC t L p).1 = I (t (rdC t L p).1) := by unfold hv; rw [if_pos q]
        rw [eh]
        by_cases q2 : t (rdC t L p).1 = 59
        · obtain ⟨τ2, u1, u2, u3⟩ := r_yes t2 (by omega)
          rw [if_neg ff] at u2
          rw [if_pos (by rw [q2]; rfl), u1, bnd_d, u2.2.2.1, if_neg ff, if_pos rfl, if_pos q2]
          obtain ⟨ρ, v1, v2, v3, v4, v5⟩ := ih ((rdC t L p).1 + 1) (n + 1) (F + 1) _ τ2 (by omega) (by omega) (by omega) (by omega) u2 (by rw [u3.2 15 (by omega) (by omega)]; exact t3) hG2 (fun i hi => by rw [u3.1 205 (by omega)]; exact hC2 i hi)
          exact ⟨ρ, v1, v2, v3, fun a z1 z2 => by rw [v4 a z1 z2, u3.1 a z1, t5 a z1 z2], fun k z1 z2 z3 => by rw [v5 k z1 z2 z3, u3.2 k z2 z3, t6 k z1 z2 z3]⟩
        · obtain ⟨τ2, u1, u2, u3⟩ := r_not t2
          rw [if_neg (show ¬ I (t (rdC t L p).1) = 59 from I_beq (b := 59) (by have := ht _ q; omega) (by omega) q2), u1, bnd_d, u2.2.2.1, if_pos rfl, if_neg one_ne, stop, if_neg q2]
          exact ⟨τ2, rfl, u2, fun z => (by cases z), fun a z1 z2 => by rw [u3.1 a z1, t5 a z1 z2], fun k z1 z2 z3 => by rw [u3.2 k z2 z3, t6 k z1 z2 z3]⟩
      · rw [if_pos ((I_le (by omega) (by omega)).mpr (by omega)), stop, if_neg q]
        exact ⟨τ, rfl, t2, fun _ => ⟨t3, hC2⟩, t5, t6⟩
/-- one command, in numbers -/
noncomputable def cmdS (x : Nat × Nat × (Nat → Int32)) (f : Fm) : Rs := if x.1 = 98 then S_bond (x.2.2 0) (x.2.2 1) (x.2.2 2) f else if x.1 = 103 then S_gard (x.2.2 0) f else if x.1 = 104 then S_hedge (x.2.2 0) (x.2.2 1) (x.2.2 2) f else if x.1 = 109 then S_mino (x.2.2 0) f else if x.1 = 115 then S_summer f else if x.1 = 116 then S_trim (x.2.2 0) (x.2.2 1) (x.2.2 2) f else if x.1 = 118 then S_visi (x.2.2 0) f else if x.1 = 119 then S_walk (x.2.2 0) (x.2.2 1) f else S_rest (x.2.2 0) (x.2.2 1) f
theorem ok_cmd {B : Nat} (hB : B + 9 ≤ 1000000) {x : Nat × Nat × (Nat → Int32)} {f g : Fm} {r : Int32} (ho : ok B f) (h : cmdS x f = .inl (r, g)) : ok (B + 9) g := by
  unfold cmdS at h
  by_cases q : x.1 = 98
  · rw [if_pos q] at h; exact ok_bond ho h
  rw [if_neg q] at h
  by_cases q : x.1 = 103
  · rw [if_pos q] at h; exact ok_gard ho h
  rw [if_neg q] at h
  by_cases q : x.1 = 104
  · rw [if_pos q] at h; exact ok_hedge ho h
  rw [if_neg q] at h
  by_cases q : x.1 = 109
  · rw [if_pos q] at h; exact ok_mino ho h
  rw [if_neg q] at h
  by_cases q : x.1 = 115
  · rw [if_pos q] at h; exact ok_summer ho h
  rw [if_neg q] at h
  by_cases q : x.1 = 116
  · rw [if_pos q] at h; exact ok_trim ho h
  rw [if_neg q] at h
  by_cases q : x.1 = 118
  · rw [if_pos q] at h; exact ok_visi ho h
  rw [if_neg q] at h
  by_cases q : x.1 = 119
  · rw [if_pos q] at h; exact ok_walk hB ho h
  rw [if_neg q] at h
  exact ok_rest ho h
theorem bnm_eta {α : Type} (a : Option (α × Mm)) : (bnm a fun q τ => some (q, τ)) = a := by
  cases a with
  | none => rfl
  | some x => rfl
theorem num_at {i n j : Nat} {σ : Mm} (hi : i < n) (hn : n ≤ 30) (hj : j < 3) (h5 : σ 162 5 = I n) : f_X0_numberOf (I i) (I j) σ = some (σ (166 + i) j) := by
  unfold f_X0_numberOf
  rw [if_neg (I_n0 (by omega)), h5, if_neg (nle hi (by omega)), if_neg (I_n0 (by omega)), if_neg (show ¬ (3 : Int32) ≤ I j from nle (N := 3) hj (by omega)), gd_I (by omega) (by omega), gd_I hj (by omega), I_clamp (by omega), I_clamp (by omega)]
theorem c_carry {σ : Mm} {f : Fm} {B i n : Nat} {C : Cs} (hB : B + 9 ≤ 1000000) (hi : i < n) (hn : n ≤ 30) (h5 : σ 162 5 = I n) (hG : GC n C) (hC : CM n C σ) (h : rep 0 σ f) (ho : ok B f) : cOk σ (f_X3_carryOut (I i) σ) (cmdS (C i) f) := by
  obtain ⟨c1, c2⟩ := hC i hi
  obtain ⟨x, x1, x2⟩ := hG i hi
  have n0 : f_X0_numberOf (I i) 0 σ = some (σ (166 + i) 0) := num_at (j := 0) hi hn (by omega) h5
  have n1 : f_X0_numberOf (I i) 1 σ = some (σ (166 + i) 1) := num_at (j := 1) hi hn (by omega) h5
  have n2 : f_X0_numberOf (I i) 2 σ = some (σ (166 + i) 2) := num_at (j := 2) hi hn (by omega) h5
  have kd : f_X0_kindOf (I i) σ = some (I (C i).1) := by
    unfold f_X0_kindOf
    rw [if_neg (I_n0 (by omega)), h5, if_neg (nle hi (by omega)), gd_I (by omega) (by omega), I_clamp (by omega), c1, cz_I (by have := (form_ok x1).2.2.2.2.2; omega)]
  unfold f_X3_carryOut cmdS
  rw [n0, bnd_d, n1, bnd_d, n2, bnd_d, kd, bnd_d]
  generalize C i = y at *
  obtain ⟨c, k, V⟩ := y
  dsimp only at *
  rcases form_cases c with ⟨hN, -⟩ | e | e | e | e | e | e | e | e | e
  · rw [hN] at x1; cases x1
  all_goals subst e; cases x1
  · rw [if_pos rfl, if_pos (by decide), bnm_eta, c2 0 (by rw [x2]; decide), c2 1 (by rw [x2]; decide), c2 2 (by rw [x2]; decide)]
    exact c_bond _ _ _ h ho
  · rw [if_neg (by decide), if_pos (by decide), if_neg (by decide), if_pos (by decide), bnm_eta, c2 0 (by rw [x2]; decide)]
    exact c_gard _ h ho
  · rw [if_neg (by decide), if_neg (by decide), if_pos (by decide), if_neg (by decide), if_neg (by decide), if_pos (by decide), bnm_eta, c2 0 (by rw [x2]; decide), c2 1 (by rw [x2]; decide), c2 2 (by rw [x2]; decide)]
    exact c_hedge _ _ _ h ho
  · rw [if_neg (by decide), if_neg (by decide), if_neg (by decide), if_pos (by decide), if_neg (by decide), if_neg (by decide), if_neg (by decide), if_pos (by decide), bnm_eta, c2 0 (by rw [x2]; decide)]
    exact c_mino _ h ho
  · rw [if_neg (by decide), if_neg (by decide), if_neg (by decide), if_neg (by decide), if_neg (by decide), if_neg (by decide), if_neg (by decide), if_neg (by decide), if_neg (by decide), if_neg (by decide), if_neg (by decide), if_neg (by decide), if_neg (by decide), if_neg (by decide), if_neg (by decide), if_neg (by decide), bnm_eta, c2 0 (by rw [x2]; decide), c2 1 (by rw [x2]; decide)]
    exact c_rest (by omega) _ _ h ho
  · rw [if_neg (by decide), if_neg (by decide), if_neg (by decide), if_neg (by decide), if_pos (by decide), if_neg (by decide), if_neg (by decide), if_neg (by decide), if_neg (by decide), if_pos (by decide), bnm_eta]
    exact c_summer h ho
  · rw [if_neg (by decide), if_neg (by decide), if_neg (by decide), if_neg (by decide), if_neg (by decide), if_pos (by decide), if_neg (by decide), if_neg (by decide), if_neg (by decide), if_neg (by decide), if_neg (by decide), if_pos (by decide), bnm_eta, c2 0 (by rw [x2]; decide), c2 1 (by rw [x2]; decide), c2 2 (by rw [x2]; decide)]
    exact c_trim _ _ _ h ho
  · rw [if_neg (by decide), if_neg (by decide), if_neg (by decide), if_neg (by decide), if_neg (by decide), if_neg (by decide), if_pos (by decide), if_neg (by decide), if_neg (by decide), if_neg (by decide), if_neg (by decide), if_neg (by decide), if_neg (by decide), if_pos (by decide), bnm_eta, c2 0 (by rw [x2]; decide)]
    exact c_visi _ h ho
  · rw [if_neg (by decide), if_neg (by decide), if_neg (by decide), if_neg (by decide), if_neg (by decide), if_neg (by decide), if_neg (by decide), if_pos (by decide), if_neg (by decide), if_neg (by decide), if_neg (by decide), if_neg (by decide), if_neg (by decide), if_neg (by decide), if_neg (by decide), if_pos (by decide), bnm_eta, c2 0 (by rw [x2]; decide), c2 1 (by rw [x2]; decide)]
    exact c_walk hB _ _ h ho
theorem rOk.some {σ : Mm} {o : Option (Int32 × Mm)} {r : Rs} (h : rOk σ o r) : ∃ x τ, o = some (x, τ) ∧ rOk σ (some (x, τ)) r := by
  cases r with
  | inl p => obtain ⟨τ, h1, h2⟩ := h; exact ⟨p.1, τ, h1, τ, rfl, h2⟩
  | inr p => obtain ⟨τ, h1, h2⟩ := h; exact ⟨-1, τ, h1, τ, rfl, h2⟩
theorem r_does {σ : Mm} {B i n : Nat} {C : Cs} (hB : B + 9 ≤ 1000000) (hi : i < n) (hn : n ≤ 30) (hG : GC n C) (hC : RM n C σ) (ho : ok B (σ 199)) : ∃ x τ, f_X10_does (I (4 * i)) σ = some τ ∧ rOk σ (some (x, τ)) (cmdS (C i) (σ 199)) := by
  obtain ⟨c1, c2⟩ := hC i hi
  obtain ⟨x, x1, x2⟩ := hG i hi
  have fin : ∀ (o : Option (Int32 × Mm)) (r : Rs), rOk σ o r → ∃ x τ, (bnm o fun q τ => some τ) = some τ ∧ rOk σ (some (x, τ)) r := fun o r h => by
    obtain ⟨x, τ, h1, h2⟩ := h.some
    exact ⟨x, τ, by rw [h1, bnm_d], h2⟩
  unfold f_X10_does cmdS
  rw [show I (4 * i) + 1 = I (4 * i + 1 + 0) from a4 i 0, show I (4 * i) + 2 = I (4 * i + 1 + 1) from a4 i 1, show I (4 * i) + 3 = I (4 * i + 1 + 2) from a4 i 2, gd_I (by omega) (by omega), I_clamp (by omega), lt_d, gd_I (by omega) (by omega), I_clamp (by omega), lt_d, gd_I (by omega) (by omega), I_clamp (by omega), lt_d, gd_I (by omega) (by omega), I_clamp (by omega), c1]
  generalize C i = y at *
  obtain ⟨c, k, V⟩ := y
  dsimp only at *
  rcases form_cases c with ⟨hN, -⟩ | e | e | e | e | e | e | e | e | e
  · rw [hN] at x1; cases x1
  all_goals subst e; cases x1
  · rw [if_pos rfl, if_pos (by decide), c2 0 (by rw [x2]; decide), c2 1 (by rw [x2]; decide), c2 2 (by rw [x2]; decide)]
    exact fin _ _ (r_bond _ _ _ ho)
  · rw [if_neg (by decide), if_pos (by decide), if_neg (by decide), if_pos (by decide), c2 0 (by rw [x2]; decide)]
    exact fin _ _ (r_gard _ ho)
  · rw [if_neg (by decide), if_neg (by decide), if_pos (by decide), if_neg (by decide), if_neg (by decide), if_pos (by decide), c2 0 (by rw [x2]; decide), c2 1 (by rw [x2]; decide), c2 2 (by rw [x2]; decide)]
    exact fin _ _ (r_hedge _ _ _)
  · rw [if_neg (by decide), if_neg (by decide), if_neg (by decide), if_pos (by decide), if_neg (by decide), if_neg (by decide), if_neg (by decide), if_pos (by decide), c2 0 (by rw [x2]; decide)]
    exact fin _ _ (r_mino _ ho)
  · rw [if_neg (by decide), if_neg (by decide), if_neg (by decide), if_neg (by decide), if_neg (by decide), if_neg (by decide), if_neg (by decide), if_neg (by decide), if_neg (by decide), if_neg (by decide), if_neg (by decide), if_neg (by decide), if_neg (by decide), if_neg (by decide), if_neg (by decide), if_neg (by decide), c2 0 (by rw [x2]; decide), c2 1 (by rw [x2]; decide)]
    exact fin _ _ (r_rest _ _ ho)
  · rw [if_neg (by decide), if_neg (by decide), if_neg (by decide), if_neg (by decide), if_pos (by decide), if_neg (by decide), if_neg (by decide), if_neg (by decide), if_neg (by decide), if_pos (by decide)]
    exact fin _ _ r_summer
  · rw [if_neg (by decide), if_neg (by decide), if_neg (by decide), if_neg (by decide), if_neg (by decide), if_pos (by decide), if_neg (by decide), if_neg (by decide), if_neg (by decide), if_neg (by decide), if_neg (by decide), if_pos (by decide), c2 0 (by rw [x2]; decide), c2 1 (by rw [x2]; decide), c2 2 (by rw [x2]; decide)]
    exact fin _ _ (r_trim _ _ _ ho)
  · rw [if_neg (by decide), if_neg (by decide), if_neg (by decide), if_neg (by decide), if_neg (by decide), if_neg (by decide), if_pos (by decide), if_neg (by decide), if_neg (by decide), if_neg (by decide), if_neg (by decide), if_neg (by decide), if_neg (by decide), if_pos (by decide), c2 0 (by rw [x2]; decide)]
    exact fin _ _ (r_visi _ ho)
  · rw [if_neg (by decide), if_neg (by decide), if_neg (by decide), if_neg (by decide), if_neg (by decide), if_neg (by decide), if_neg (by decide), if_pos (by decide), if_neg (by decide), if_neg (by decide), if_neg (by decide), if_neg (by decide), if_neg (by decide), if_neg (by decide), if_neg (by decide), if_pos (by decide), c2 0 (by rw [x2]; decide), c2 1 (by rw [x2]; decide)]
    exact fin _ _ (r_walk hB _ _ ho)
noncomputable def runS (C : Cs) : Nat → Nat → Fm → Fm ⊕ (Nat × Int32 × Int32)
  | 0, _, f => .inl f
  | d + 1, i, f => match cmdS (C i) f with
    | .inl (_, g) => runS C d (i + 1) g
    | .inr (a, b) => .inr (i, a, b)
def cRun (n : Nat) (σ : Mm) (o : Option ((Int32 ⊕ Nat) × Mm)) (r : Fm ⊕ (Nat × Int32 × Int32)) : Prop := match r with
  | .inl g => ∃ τ, o = (xb (f_X9_settled (I n) τ) fun q τ => some (Sum.inl q, τ)) ∧ rep 0 τ g ∧ ∀ a, 14 ≤ a → a ≠ 159 → a ≠ 160 → τ a = σ a
  | .inr (k, a, b) => k < n ∧ ∃ τ, o = (lt (up τ 157 2 (I k)) fun σ18 => bnd (f_X6_copyFrom 0 14 σ18) fun σ20 => some (Sum.inr 0, σ20)) ∧ (τ 157 0 = a ∧ τ 157 1 = b) ∧ ∀ c, 14 ≤ c → c ≠ 157 → c ≠ 159 → c ≠ 160 → τ c = σ c
def rRun (n : Nat) (σ : Mm) (K : Int32 → Mm → Option (Int32 × Mm)) (o : Option (Int32 × Mm)) (r : Fm ⊕ (Nat × Int32 × Int32)) : Prop := match r with
  | .inl g => ∃ τ, o = (bnm (f_X10_changed (I n) τ) fun q τ => some (q, τ)) ∧ τ 199 = g ∧ ∀ a, a ≠ 199 → a ≠ 204 → τ a = σ a
  | .inr (k, a, b) => k < n ∧ ∃ τ, o = K (I k) τ ∧ (τ 198 6 = a ∧ τ 198 7 = b) ∧ (∀ j, j < 6 ∨ 8 < j → j ≠ 12 → τ 198 j = σ 198 j) ∧ ∀ a, a ≠ 198 → a ≠ 199 → a ≠ 204 → τ a = σ a
theorem ok_run {C : Cs} {B : Nat} (hB : B + 300 ≤ 1000000) : ∀ (d i : Nat) (f g : Fm), i + d ≤ 30 → ok (B + 9 * i) f → runS C d i f = .inl g → ok (B + 300) g := by
  intro d
  induction d with
  | zero => intro i f g hi ho h; cases h; exact ho.mono (by omega)
  | succ d ih =>
    intro i f g hi ho h
    rw [runS] at h
    cases e : cmdS (C i) f with
    | inl p =>
      rw [e] at h
      exact ih (i + 1) p.2 g (by omega) ((ok_cmd (by omega) ho e).mono (by omega)) h
    | inr p => rw [e] at h; cases h
theorem c_run {C : Cs} {B n : Nat} (hB : B + 300 ≤ 1000000) (hn : n ≤ 30) (hG : GC n C) : ∀ (d i F : Nat) (σ : Mm) (f : Fm), i + d = n → d < F → σ 162 5 = I n → CM n C σ → rep 0 σ f → ok (B + 9 * i) f → cRun n σ (f_X9_commands_l34 F (I i) σ) (runS C d i f) := by
  intro d
  induction d with
  | zero =>
    intro i F σ f hi hF h5 hC h ho
    obtain ⟨F, rfl⟩ : ∃ k, F = k + 1 := ⟨F - 1, by omega⟩
    have : i = n := by omega
    subst this
    exact ⟨σ, by rw [f_X9_commands_l34, h5, if_pos (Int32.le_refl _)], h, fun _ _ _ _ => rfl⟩
  | succ d ih =>
    intro i F σ f hi hF h5 hC h ho
    obtain ⟨F, rfl⟩ : ∃ k, F = k + 1 := ⟨F - 1, by omega⟩
    have k := c_carry (B := B + 9 * i) (by omega) (show i < n by omega) hn h5 hG hC h ho
    rw [f_X9_commands_l34, h5, if_neg (nle (show i < n by omega) (by omega)), runS]
    cases e : cmdS (C i) f with
    | inl p =>
      obtain ⟨r, g⟩ := p
      rw [e] at k
      obtain ⟨τ, k1, k2, k3, k4⟩ := k
      dsimp only
      rw [k1, bnm_d, if_neg k2, I_a1, lt_d]
      have z := ih (i + 1) F τ g (by omega) (by omega) (by rw [k4 162 (by omega) (by omega) (by omega)]; exact h5) (fun j hj => by rw [k4 164 (by omega) (by omega) (by omega), k4 (166 + j) (by omega) (by omega) (by omega)]; exact hC j hj) k3 ((ok_cmd (by omega) ho e).mono (by omega))
      unfold cRun at z ⊢
      revert z
      cases runS C d (i + 1) g with
      | inl g1 => exact fun ⟨ρ, z1, z2, z3⟩ => ⟨ρ, z1, z2, fun a y1 y2 y3 => by rw [z3 a y1 y2 y3, k4 a y1 y2 y3]⟩
      | inr q => exact fun ⟨z0, ρ, z1, z2, z3⟩ => ⟨z0, ρ, z1, z2, fun a y1 y2 y3 y4 => by rw [z3 a y1 y2 y3 y4, k4 a y1 y3 y4]⟩
    | inr p =>
      obtain ⟨a, b⟩ := p
      rw [e] at k
      obtain ⟨τ, k1, k2, k3⟩ := k
      dsimp only
      rw [k1, bnm_d, if_pos rfl]
      exact ⟨by omega, τ, rfl, ⟨k2.1, k2.2.1⟩, fun c _ y1 y2 y3 => k3 c y1 y2 y3⟩
theorem r_run {C : Cs} {B n : Nat} {K : Int32 → Mm → Option (Int32 × Mm)} (hB : B + 300 ≤ 1000000) (hn : n ≤ 30) (hG : GC n C) {L : Int32 → Nat → Int32 → Mm → Option (Int32 × Mm)} {v8 : Int32} (hL : ∀ m v σ, L v8 (m + 1) v σ = if (σ 198 15) ≤ v then (bnm (f_X10_changed (σ 198 15) σ) fun q31 σ32 => some (q31, σ32)) else (bnd (f_X10_does (4 * v) σ) fun σ34 => if (σ34 198 12) ≤ 0 then (lt (v + 1) fun x36 => L v8 m x36 σ34) else (K v σ34))) :
    ∀ (d i F : Nat) (σ : Mm), i + d = n → d < F → σ 198 15 = I n → σ 198 12 = 0 → RM n C σ → ok (B + 9 * i) (σ 199) → rRun n σ K (L v8 F (I i) σ) (runS C d i (σ 199)) := by
  intro d
  induction d with
  | zero =>
    intro i F σ hi hF h5 h12 hC ho
    obtain ⟨F, rfl⟩ : ∃ k, F = k + 1 := ⟨F - 1, by omega⟩
    have : i = n := by omega
    subst this
    exact ⟨σ, by rw [hL, h5, if_pos (Int32.le_refl _)], rfl, fun _ _ _ => rfl⟩
  | succ d ih =>
    intro i F σ hi hF h5 h12 hC ho
    obtain ⟨F, rfl⟩ : ∃ k, F = k + 1 := ⟨F - 1, by omega⟩
    obtain ⟨x, τ, k0, k⟩ := r_does (B := B + 9 * i) (by omega) (show i < n by omega) hn hG hC ho
    rw [hL, h5, if_neg (nle (show i < n by omega) (by omega)), show (4 : Int32) * I i = I (4 * i) from I_mul 4 i, k0, bnd_d, runS]
    cases e : cmdS (C i) (σ 199) with
    | inl p =>
      obtain ⟨r, g⟩ := p
      rw [e] at k
      obtain ⟨τ', k1, k2, k3⟩ := k
      cases k1
      have e12 : τ 198 12 = 0 := by rw [k3 198 (by omega) (by omega)]; exact h12
      dsimp only
      rw [e12, if_pos (Int32.le_refl _), I_a1, lt_d]
      have z := ih (i + 1) F τ (by omega) (by omega) (by rw [k3 198 (by omega) (by omega)]; exact h5) e12 (fun j hj => by rw [k3 205 (by omega) (by omega)]; exact hC j hj) (by rw [k2]; exact (ok_cmd (by omega) ho e).mono (by omega))
      rw [k2] at z
      unfold rRun at z ⊢
      revert z
      cases runS C d (i + 1) g with
      | inl g1 => exact fun ⟨ρ, z1, z2, z3⟩ => ⟨ρ, z1, z2, fun a y1 y2 => by rw [z3 a y1 y2, k3 a y1 y2]⟩
      | inr q => exact fun ⟨z0, ρ, z1, z2, z3, z4⟩ => ⟨z0, ρ, z1, z2, fun j y1 y2 => by rw [z3 j y1 y2, k3 198 (by omega) (by omega)], fun a y1 y2 y3 => by rw [z4 a y1 y2 y3, k3 a y2 y3]⟩
    | inr p =>
      obtain ⟨a, b⟩ := p
      rw [e] at k
      obtain ⟨τ', k1, ⟨k2, k3, k4, k5⟩, k6, k7⟩ := k
      cases k1
      dsimp only
      rw [k5, if_neg (by decide)]
      exact ⟨by omega, τ, rfl, ⟨k2, k3⟩, k6, fun a y1 y2 y3 => k7 a y1 y3⟩
