/-! WHAT HOLDS BETWEEN THE CALLS: the class's object and the reference's object say the same -/
def hist (B : Nat) (σ : Mm) : Prop := ∃ n l : Nat, n ≤ 8 ∧ l < 8 ∧ σ 155 1 = I l ∧ σ 155 2 = I n ∧ σ 198 5 = I n ∧ ∀ k, k < n → ∃ h : Fm, ok B h ∧ rep (42 + 14 * ((l + 8 - k) % 8)) σ h ∧ ∀ j, j < 86 → σ 202 (86 * (n - 1 - k) + j) = h j
def savd (B : Nat) (σ : Mm) : Prop := (σ 154 3 = 0 ∧ σ 198 3 = 0) ∨ (σ 154 3 = 1 ∧ σ 198 3 = 1 ∧ ∃ g : Fm, ok B g ∧ rep 28 σ g ∧ ∀ k, k < 86 → σ 201 k = g k)
def refu (σ : Mm) : Prop := σ 157 0 = σ 198 6 ∧ σ 157 1 = σ 198 7 ∧ σ 157 2 = σ 198 8
def isCh (x : Int32) : Prop := ∃ c, c < 65536 ∧ x = I c
def txt (σ : Mm) : Prop := ∃ L, L ≤ 60 ∧ σ 162 3 = I L ∧ σ 198 11 = I L ∧ (∀ j, j < L → σ 163 j = σ 203 j ∧ isCh (σ 203 j)) ∧ σ 162 7 = σ 198 9
/-- the line: the builder's bytes and count, the reference's row and count -/
def lin (σ : Mm) : Prop := σ 196 1 = 0 ∧ ∃ K, K ≤ 16 ∧ σ 196 3 = I K ∧ σ 198 20 = I K ∧ ∀ j, j < K → ∃ c, c < 128 ∧ σ 197 j = I c ∧ σ 206 j = I c
def RR (B : Nat) (σ : Mm) : Prop := rep 0 σ (σ 199) ∧ ok B (σ 199) ∧ hist B σ ∧ savd B σ ∧ refu σ ∧ txt σ ∧ lin σ
theorem hist.mono {B B1 : Nat} {σ : Mm} (h : hist B σ) (hB : B ≤ B1) : hist B1 σ := by
  obtain ⟨n, l, a, b, c, d, e, r⟩ := h
  exact ⟨n, l, a, b, c, d, e, fun k hk => by obtain ⟨g, g1, g2⟩ := r k hk; exact ⟨g, g1.mono hB, g2⟩⟩
theorem savd.mono {B B1 : Nat} {σ : Mm} (h : savd B σ) (hB : B ≤ B1) : savd B1 σ := by
  rcases h with h | ⟨a, b, g, g1, g2⟩
  · exact Or.inl h
  · exact Or.inr ⟨a, b, g, g1.mono hB, g2⟩
theorem RR.mono {B B1 : Nat} {σ : Mm} (h : RR B σ) (hB : B ≤ B1) : RR B1 σ := ⟨h.1, h.2.1.mono hB, h.2.2.1.mono hB, h.2.2.2.1.mono hB, h.2.2.2.2⟩
theorem hist.move {B : Nat} {σ τ : Mm} (h : hist B σ) (e1 : ∀ a, 42 ≤ a → a < 154 → τ a = σ a) (e2 : τ 155 = σ 155) (e3 : τ 198 5 = σ 198 5) (e4 : τ 202 = σ 202) : hist B τ := by
  obtain ⟨n, l, a, b, c, d, e, r⟩ := h
  refine ⟨n, l, a, b, by rw [e2]; exact c, by rw [e2]; exact d, by rw [e3]; exact e, fun k hk => ?_⟩
  obtain ⟨g, g1, g2, g3⟩ := r k hk
  exact ⟨g, g1, g2.move (fun a h1 h2 => e1 a (by omega) (by omega)), fun j hj => by rw [e4]; exact g3 j hj⟩
theorem savd.move {B : Nat} {σ τ : Mm} (h : savd B σ) (e1 : ∀ a, 28 ≤ a → a < 42 → τ a = σ a) (e2 : τ 154 = σ 154) (e3 : τ 198 3 = σ 198 3) (e4 : τ 201 = σ 201) : savd B τ := by
  rcases h with ⟨a, b⟩ | ⟨a, b, g, g1, g2, g3⟩
  · exact Or.inl ⟨by rw [e2]; exact a, by rw [e3]; exact b⟩
  · exact Or.inr ⟨by rw [e2]; exact a, by rw [e3]; exact b, g, g1, g2.move (fun a h1 h2 => e1 a h1 (by omega)), fun k hk => by rw [e4]; exact g3 k hk⟩
theorem txt.move {σ τ : Mm} (h : txt σ) (e1 : τ 162 3 = σ 162 3) (e2 : τ 162 7 = σ 162 7) (e3 : τ 163 = σ 163) (e4 : τ 203 = σ 203) (e5 : τ 198 11 = σ 198 11) (e6 : τ 198 9 = σ 198 9) : txt τ := by
  obtain ⟨L, a, b, c, d, e⟩ := h
  exact ⟨L, a, by rw [e1]; exact b, by rw [e5]; exact c, fun j hj => by rw [e3, e4]; exact d j hj, by rw [e2, e6]; exact e⟩
theorem lin.move {σ τ : Mm} (h : lin σ) (e1 : τ 196 = σ 196) (e2 : τ 197 = σ 197) (e3 : τ 206 = σ 206) (e4 : τ 198 20 = σ 198 20) : lin τ := by
  obtain ⟨a, K, b, c, d, e⟩ := h
  exact ⟨by rw [e1]; exact a, K, b, by rw [e1]; exact c, by rw [e4]; exact d, fun j hj => by rw [e2, e3]; exact e j hj⟩
/-! the class keeps, and takes back -/
theorem m_keep {σ : Mm} {f : Fm} {B n l : Nat} (hn : n ≤ 8) (hl : l < 8) (h1 : σ 155 1 = I l) (h2 : σ 155 2 = I n) (hr : rep 14 σ f) (ho : ok B f) :
    ∃ τ, f_X2_keep σ = some τ ∧ τ 155 1 = I ((l + 1) % 8) ∧ τ 155 2 = I (min 8 (n + 1)) ∧ rep (42 + 14 * ((l + 1) % 8)) τ f ∧ ∀ a, a ≠ 155 → a < 42 + 14 * ((l + 1) % 8) ∨ 42 + 14 * ((l + 1) % 8) + 14 ≤ a → τ a = σ a := by
  have e1 : (I l + 1) - (I l + 1) / 8 * 8 = I ((l + 1) % 8) := (by decide +kernel : ∀ l, l < 8 → (I l + 1) - (I l + 1) / 8 * 8 = I ((l + 1) % 8)) l hl
  unfold f_X2_keep
  rw [h1, e1, lt_d, up_e, upd_e]
  have hb : (l + 1) % 8 < 8 := Nat.mod_lt _ (by omega)
  rw [gd_I hb (by omega), I_clamp (by omega)]
  have hr2 : rep 14 (up σ 155 1 (I ((l + 1) % 8))) f := hr.move (fun a _ _ => up_n _ _ _ (by omega))
  obtain ⟨τ, t1, t2, t3⟩ := c_copy (i := 42 + 14 * ((l + 1) % 8)) (o := 14) (by omega) hr2 ho
  have t155 : τ 155 = upd (σ 155) 1 (I ((l + 1) % 8)) := by rw [t3 155 (by omega), up_e]
  rw [t1, bnd_d, t155, upd_n _ _ (by omega), h2, lt_d]
  have e2 : (if I n + 1 < 8 then I n + 1 else (8 : Int32)) = I (min 8 (n + 1)) := by
    rw [I_a1]
    by_cases q : n + 1 < 8
    · rw [if_pos (show I (n + 1) < 8 from (I_lt (b := 8) (by omega) (by omega)).mpr q), show min 8 (n + 1) = n + 1 by omega]
    · rw [if_neg (show ¬ I (n + 1) < 8 from fun z => q ((I_lt (b := 8) (by omega) (by omega)).mp z)), show min 8 (n + 1) = 8 by omega]; rfl
  rw [e2]
  refine ⟨_, rfl, by rw [up_e, upd_n _ _ (by omega), t155, upd_e], by rw [up_e, upd_e], t2.move (fun a h1 h2 => up_n _ _ _ (by omega)), fun a h1 h2 => by rw [up_n _ _ _ h1, t3 a h2, up_n _ _ _ h1]⟩
theorem m_back {σ : Mm} {f : Fm} {B n l : Nat} (hn : n ≤ 8) (h0 : 0 < n) (hl : l < 8) (h1 : σ 155 1 = I l) (h2 : σ 155 2 = I n) (hr : rep (42 + 14 * l) σ f) (ho : ok B f) :
    ∃ τ, f_X2_takeBack σ = some τ ∧ τ 155 1 = I ((l + 7) % 8) ∧ τ 155 2 = I (n - 1) ∧ rep 0 τ f ∧ ∀ a, a ≠ 155 → 14 ≤ a → τ a = σ a := by
  have e1 : ((I l + 8) - 1) - ((I l + 8) - 1) / 8 * 8 = I ((l + 7) % 8) := (by decide +kernel : ∀ l, l < 8 → ((I l + 8) - 1) - ((I l + 8) - 1) / 8 * 8 = I ((l + 7) % 8)) l hl
  unfold f_X2_takeBack
  rw [h2, if_neg (Int32.not_le.mpr ((I_pos (by omega)).mpr h0)), h1, gd_I hl (by omega), I_clamp (by omega)]
  obtain ⟨τ, t1, t2, t3⟩ := c_copy (i := 0) (o := 42 + 14 * l) (by omega) hr ho
  have t155 : τ 155 = σ 155 := t3 155 (by omega)
  rw [t1, bnd_d, t155, h1, e1, lt_d, up_e, upd_n _ _ (by omega), t155, h2, lt_d, show I n - 1 = I (n - 1) from I_sub (b := 1) (by omega)]
  refine ⟨_, rfl, by rw [up_e, upd_n _ _ (by omega), up_e, upd_e], by rw [up_e, upd_e], t2.move (fun a _ _ => by rw [up_n _ _ _ (by omega), up_n _ _ _ (by omega)]), fun a h1 h2 => by rw [up_n _ _ _ h1, up_n _ _ _ h1, t3 a (by omega)]⟩
/-! a change: the class's call, then the reference's -/
def same1 (o : Int32 ⊕ Nat) (e : Nat) (b t : Int32) : Prop := match o with
  | .inl a => t = 0 ∧ b = a
  | .inr k => k = e ∧ t = 1
theorem op9 {σ : Mm} {B : Nat} (R : RR B σ) {cf rf : Mm → Option (Int32 × Mm)} {S : Fm → Rs} (hc : ∀ σ f, rep 0 σ f → ok B f → cOk σ (cf σ) (S f)) (hr : ∀ σ, ok B (σ 199) → rOk σ (rf σ) (S (σ 199))) (hok : ∀ f g r, ok B f → S f = .inl (r, g) → ok (B + 9) g) :
    ∃ out τ, (bnd (f_X6_copyFrom 14 0 σ) fun σ2 => bnm (cf σ2) fun q3 σ4 => xb (f_X9_settled q3 σ4) fun q5 σ6 => some (Sum.inl q5, σ6)) = some (out, τ) ∧
      ∃ b ρ, (bnd (f_X10_starts τ) fun σ2 => bnm (rf σ2) fun q3 σ4 => bnm (f_X10_changed q3 σ4) fun q5 σ6 => some (q5, σ6)) = some (b, ρ) ∧ RR (B + 9) ρ ∧ same1 out 0 b (ρ 198 12) := by
  obtain ⟨r1, r2, r3, r4, r5, r6, r7⟩ := R
  obtain ⟨f, hf⟩ : ∃ f, f = σ 199 := ⟨_, rfl⟩
  rw [← hf] at r1 r2
  obtain ⟨σ1, a1, a2, a3⟩ := c_copy (i := 14) (o := 0) (by omega) r1 r2
  have c1 := hc σ1 f (r1.move (fun a _ h => a3 a (by omega))) r2
  rw [a1, bnd_d]
  cases hS : S f with
  | inl p =>
    obtain ⟨r, g⟩ := p
    rw [hS] at c1
    obtain ⟨σ2, b1, b2, b3, b4⟩ := c1
    rw [b1, bnm_d]
    unfold f_X9_settled
    rw [if_neg b2]
    obtain ⟨n, l, n1, n2, n3, n4, n5, n6⟩ := r3
    have k155 : σ2 155 = σ 155 := by rw [b4 155 (by omega) (by omega) (by omega), a3 155 (by omega)]
    obtain ⟨σ3, k1, k2, k3, k4, k5⟩ := m_keep (σ := σ2) (f := f) (l := l) n1 n2 (by rw [k155]; exact n3) (by rw [k155]; exact n4) (a2.move (fun a h1 h2 => b4 a h1 (by omega) (by omega))) r2
    rw [k1, bnd_d]
    refine ⟨.inl r, σ3, rfl, ?_⟩
    have q : ∀ a, 28 ≤ a → a ≠ 155 → a ≠ 159 → a ≠ 160 → a < 42 ∨ 154 ≤ a → σ3 a = σ a := fun a h1 h2 h3 h4 h5 => by rw [k5 a h2 (by omega), b4 a (by omega) h3 h4, a3 a (by omega)]
    obtain ⟨σ4, s1, s2, s3, s4, s5⟩ := r_starts (σ := σ3)
    have e199 : σ4 199 = f := by rw [s5 199 (by omega) (by omega), q 199 (by omega) (by omega) (by omega) (by omega) (by omega), hf]
    have d1 := hr σ4 (by rw [e199]; exact r2)
    rw [e199, hS] at d1
    obtain ⟨σ5, d2, d3, d4⟩ := d1
    rw [s1, bnd_d, d2, bnm_d]
    have e198 : ∀ k, k ≠ 12 → σ5 198 k = σ 198 k := fun k hk => by rw [d4 198 (by omega) (by omega), s3 k hk, q 198 (by omega) (by omega) (by omega) (by omega) (by omega)]
    obtain ⟨ρ, p1, p2, p3, p4, p5, p6⟩ := r_changed (σ := σ5) r n1 (by rw [e198 5 (by omega)]; exact n5) (by rw [d4 198 (by omega) (by omega)]; exact s2)
    rw [p1, bnm_d]
    refine ⟨r, ρ, rfl, ?_, by rw [p3 12 (by omega), d4 198 (by omega) (by omega)]; exact s2, rfl⟩
    have z : ∀ a, a ≠ 198 → a ≠ 199 → a ≠ 200 → a ≠ 202 → a ≠ 204 → ρ a = σ3 a := fun a h1 h2 h3 h4 h5 => by rw [p6 a h1 h4, d4 a h2 h5, s5 a h1 h3]
    have z198 : ∀ k, k ≠ 5 → k ≠ 12 → ρ 198 k = σ 198 k := fun k h1 h2 => by rw [p3 k h1, e198 k h2]
    have z199 : ρ 199 = g := by rw [p6 199 (by omega) (by omega), d3]
    have e200 : ∀ k, k < 86 → σ5 200 k = f k := fun k hk => by rw [d4 200 (by omega) (by omega), s4 k hk, q 199 (by omega) (by omega) (by omega) (by omega) (by omega), hf]
    have e202 : σ5 202 = σ 202 := by rw [d4 202 (by omega) (by omega), s5 202 (by omega) (by omega), q 202 (by omega) (by omega) (by omega) (by omega) (by omega)]
    refine ⟨?_, ?_, ?_, ?_, ?_, ?_, ?_⟩
    · rw [z199]
      exact b3.move (fun a _ h => by rw [z a (by omega) (by omega) (by omega) (by omega) (by omega), k5 a (by omega) (by omega)])
    · rw [z199]; exact hok f g r r2 hS
    · have hb : (l + 1) % 8 < 8 := Nat.mod_lt _ (by omega)
      refine ⟨min 8 (n + 1), (l + 1) % 8, by omega, hb, by rw [z 155 (by omega) (by omega) (by omega) (by omega) (by omega)]; exact k2, by rw [z 155 (by omega) (by omega) (by omega) (by omega) (by omega)]; exact k3, p2, fun k hk => ?_⟩
      cases k with
      | zero =>
        refine ⟨f, r2.mono (by omega), ?_, fun j hj => ?_⟩
        · rw [show ((l + 1) % 8 + 8 - 0) % 8 = (l + 1) % 8 by omega]
          exact k4.move (fun a h1 h2 => z a (by omega) (by omega) (by omega) (by omega) (by omega))
        · rw [Nat.sub_zero, p4 j hj, e200 j hj]
      | succ k =>
        obtain ⟨h, h1, h2, h3⟩ := n6 k (by omega)
        refine ⟨h, h1.mono (by omega), ?_, fun j hj => ?_⟩
        · have e : ((l + 1) % 8 + 8 - (k + 1)) % 8 = (l + 8 - k) % 8 := by omega
          have ne : (l + 8 - k) % 8 ≠ (l + 1) % 8 := by omega
          rw [e]
          exact h2.move (fun a g1 g2 => by rw [z a (by omega) (by omega) (by omega) (by omega) (by omega), k5 a (by omega) (by omega), b4 a (by omega) (by omega) (by omega), a3 a (by omega)])
        · rw [p5 k j hk hj, e202]; exact h3 j hj
    · exact (r4.mono (by omega)).move (fun a h1 h2 => by rw [z a (by omega) (by omega) (by omega) (by omega) (by omega), q a (by omega) (by omega) (by omega) (by omega) (by omega)]) (by rw [z 154 (by omega) (by omega) (by omega) (by omega) (by omega), q 154 (by omega) (by omega) (by omega) (by omega) (by omega)]) (z198 3 (by omega) (by omega)) (by rw [z 201 (by omega) (by omega) (by omega) (by omega) (by omega), q 201 (by omega) (by omega) (by omega) (by omega) (by omega)])
    · unfold refu
      rw [z198 6 (by omega) (by omega), z198 7 (by omega) (by omega), z198 8 (by omega) (by omega), z 157 (by omega) (by omega) (by omega) (by omega) (by omega), q 157 (by omega) (by omega) (by omega) (by omega) (by omega)]
      exact r5
    · have z2 : ∀ a, 162 ≤ a → a ≠ 198 → a ≠ 199 → a ≠ 200 → a ≠ 202 → a ≠ 204 → ρ a = σ a := fun a h1 h2 h3 h4 h5 h6 => by rw [z a h2 h3 h4 h5 h6, q a (by omega) (by omega) (by omega) (by omega) (by omega)]
      exact r6.move (by rw [z2 162 (by omega) (by omega) (by omega) (by omega) (by omega) (by omega)]) (by rw [z2 162 (by omega) (by omega) (by omega) (by omega) (by omega) (by omega)]) (z2 163 (by omega) (by omega) (by omega) (by omega) (by omega) (by omega)) (z2 203 (by omega) (by omega) (by omega) (by omega) (by omega) (by omega)) (z198 11 (by omega) (by omega)) (z198 9 (by omega) (by omega))
    · have z2 : ∀ a, 162 ≤ a → a ≠ 198 → a ≠ 199 → a ≠ 200 → a ≠ 202 → a ≠ 204 → ρ a = σ a := fun a h1 h2 h3 h4 h5 h6 => by rw [z a h2 h3 h4 h5 h6, q a (by omega) (by omega) (by omega) (by omega) (by omega)]
      exact r7.move (z2 196 (by omega) (by omega) (by omega) (by omega) (by omega) (by omega)) (z2 197 (by omega) (by omega) (by omega) (by omega) (by omega) (by omega)) (z2 206 (by omega) (by omega) (by omega) (by omega) (by omega) (by omega)) (z198 20 (by omega) (by omega))
  | inr p =>
    obtain ⟨n, d⟩ := p
    rw [hS] at c1
    obtain ⟨σ2, b1, b2, b3⟩ := c1
    rw [b1, bnm_d]
    unfold f_X9_settled
    rw [if_pos rfl]
    refine ⟨.inr 0, σ2, rfl, ?_⟩
    have q : ∀ a, a < 14 ∨ 28 ≤ a → a ≠ 157 → a ≠ 159 → a ≠ 160 → σ2 a = σ a := fun a h1 h2 h3 h4 => by rw [b3 a h2 h3 h4, a3 a (by omega)]
    obtain ⟨σ4, s1, s2, s3, s4, s5⟩ := r_starts (σ := σ2)
    have e199 : σ4 199 = f := by rw [s5 199 (by omega) (by omega), q 199 (by omega) (by omega) (by omega) (by omega), hf]
    have d1 := hr σ4 (by rw [e199]; exact r2)
    rw [e199, hS] at d1
    obtain ⟨ρ, d2, ⟨d3, d4, d5, d6⟩, d7, d8⟩ := d1
    rw [s1, bnd_d, d2, bnm_d]
    have hch : f_X10_changed (-1) ρ = some (-1, ρ) := by
      unfold f_X10_changed
      rw [d6, if_neg (by decide)]
    rw [hch, bnm_d]
    refine ⟨-1, ρ, rfl, ?_, rfl, d6⟩
    have z : ∀ a, a < 14 ∨ 28 ≤ a → a ≠ 157 → a ≠ 159 → a ≠ 160 → a ≠ 198 → a ≠ 200 → a ≠ 204 → ρ a = σ a := fun a h0 h1 h2 h3 h4 h5 h6 => by rw [d8 a h4 h6, s5 a h4 h5, q a h0 h1 h2 h3]
    have z198 : ∀ k, k < 6 ∨ 8 < k → k ≠ 12 → ρ 198 k = σ 198 k := fun k h1 h2 => by rw [d7 k h1 h2, s3 k h2, q 198 (by omega) (by omega) (by omega) (by omega)]
    have z199 : ρ 199 = f := by rw [z 199 (by omega) (by omega) (by omega) (by omega) (by omega) (by omega) (by omega), hf]
    refine ⟨?_, ?_, ?_, ?_, ?_, ?_, ?_⟩
    · rw [z199]
      exact r1.move (fun a _ h => z a (by omega) (by omega) (by omega) (by omega) (by omega) (by omega) (by omega))
    · rw [z199]; exact r2.mono (by omega)
    · exact (r3.mono (by omega)).move (fun a h1 h2 => z a (by omega) (by omega) (by omega) (by omega) (by omega) (by omega) (by omega)) (z 155 (by omega) (by omega) (by omega) (by omega) (by omega) (by omega) (by omega)) (z198 5 (by omega) (by omega)) (z 202 (by omega) (by omega) (by omega) (by omega) (by omega) (by omega) (by omega))
    · exact (r4.mono (by omega)).move (fun a h1 h2 => z a (by omega) (by omega) (by omega) (by omega) (by omega) (by omega) (by omega)) (z 154 (by omega) (by omega) (by omega) (by omega) (by omega) (by omega) (by omega)) (z198 3 (by omega) (by omega)) (z 201 (by omega) (by omega) (by omega) (by omega) (by omega) (by omega) (by omega))
    · have e157 : ρ 157 = σ2 157 := by rw [d8 157 (by omega) (by omega), s5 157 (by omega) (by omega)]
      unfold refu
      rw [e157, b2.1, b2.2.1, b2.2.2, d3, d4, d5]
      exact ⟨rfl, rfl, rfl⟩
    · have z2 : ∀ a, 162 ≤ a → a ≠ 198 → a ≠ 200 → a ≠ 204 → ρ a = σ a := fun a h1 h2 h3 h4 => z a (by omega) (by omega) (by omega) (by omega) h2 h3 h4
      exact r6.move (by rw [z2 162 (by omega) (by omega) (by omega) (by omega)]) (by rw [z2 162 (by omega) (by omega) (by omega) (by omega)]) (z2 163 (by omega) (by omega) (by omega) (by omega)) (z2 203 (by omega) (by omega) (by omega) (by omega)) (z198 11 (by omega) (by omega)) (z198 9 (by omega) (by omega))
    · have z2 : ∀ a, 162 ≤ a → a ≠ 198 → a ≠ 200 → a ≠ 204 → ρ a = σ a := fun a h1 h2 h3 h4 => z a (by omega) (by omega) (by omega) (by omega) h2 h3 h4
      exact r7.move (z2 196 (by omega) (by omega) (by omega) (by omega)) (z2 197 (by omega) (by omega) (by omega) (by omega)) (z2 206 (by omega) (by omega) (by omega) (by omega)) (z198 20 (by omega) (by omega))
/-! the nine calls -/
theorem q_hedge {σ : Mm} {B : Nat} (R : RR B σ) (a b c : Int32) : ∃ out τ, f_X9_hedge a b c σ = some (out, τ) ∧ ∃ r ρ, f_X10_hedge a b c τ = some (r, ρ) ∧ RR (B + 9) ρ ∧ same1 out 0 r (ρ 198 12) :=
  op9 R (cf := f_X3_tellLeaves a b c) (rf := f_X10_hedgeIt a b c) (S := S_hedge a b c) (fun _ _ h ho => c_hedge a b c h ho) (fun _ _ => r_hedge a b c) (fun _ _ _ ho h => ok_hedge ho h)
theorem q_trim {σ : Mm} {B : Nat} (R : RR B σ) (a b c : Int32) : ∃ out τ, f_X9_trim a b c σ = some (out, τ) ∧ ∃ r ρ, f_X10_trim a b c τ = some (r, ρ) ∧ RR (B + 9) ρ ∧ same1 out 0 r (ρ 198 12) :=
  op9 R (cf := f_X3_trimHedge a b c) (rf := f_X10_trimIt a b c) (S := S_trim a b c) (fun _ _ h ho => c_trim a b c h ho) (fun _ ho => r_trim a b c ho) (fun _ _ _ ho h => ok_trim ho h)
theorem q_minotaur {σ : Mm} {B : Nat} (R : RR B σ) (a : Int32) : ∃ out τ, f_X9_minotaur a σ = some (out, τ) ∧ ∃ r ρ, f_X10_minotaur a τ = some (r, ρ) ∧ RR (B + 9) ρ ∧ same1 out 0 r (ρ 198 12) :=
  op9 R (cf := f_X3_placeMinotaur a) (rf := f_X10_minotaurIt a) (S := S_mino a) (fun _ _ h ho => c_mino a h ho) (fun _ ho => r_mino a ho) (fun _ _ _ ho h => ok_mino ho h)
theorem q_gardener {σ : Mm} {B : Nat} (R : RR B σ) (a : Int32) : ∃ out τ, f_X9_gardener a σ = some (out, τ) ∧ ∃ r ρ, f_X10_gardener a τ = some (r, ρ) ∧ RR (B + 9) ρ ∧ same1 out 0 r (ρ 198 12) :=
  op9 R (cf := f_X3_admitGardener a) (rf := f_X10_gardenerIt a) (S := S_gard a) (fun _ _ h ho => c_gard a h ho) (fun _ ho => r_gard a ho) (fun _ _ _ ho h => ok_gard ho h)
theorem q_visitor {σ : Mm} {B : Nat} (R : RR B σ) (a : Int32) : ∃ out τ, f_X9_visitor a σ = some (out, τ) ∧ ∃ r ρ, f_X10_visitor a τ = some (r, ρ) ∧ RR (B + 9) ρ ∧ same1 out 0 r (ρ 198 12) :=
  op9 R (cf := f_X3_admitVisitor a) (rf := f_X10_visitorIt a) (S := S_visi a) (fun _ _ h ho => c_visi a h ho) (fun _ ho => r_visi a ho) (fun _ _ _ ho h => ok_visi ho h)
theorem q_bond {σ : Mm} {B : Nat} (R : RR B σ) (a b c : Int32) : ∃ out τ, f_X9_bond a b c σ = some (out, τ) ∧ ∃ r ρ, f_X10_bond a b c τ = some (r, ρ) ∧ RR (B + 9) ρ ∧ same1 out 0 r (ρ 198 12) :=
  op9 R (cf := f_X3_giveBond a b c) (rf := f_X10_bondIt a b c) (S := S_bond a b c) (fun _ _ h ho => c_bond a b c h ho) (fun _ ho => r_bond a b c ho) (fun _ _ _ ho h => ok_bond ho h)
theorem q_walk {σ : Mm} {B : Nat} (hB : B + 9 ≤ 1000000) (R : RR B σ) (a b : Int32) : ∃ out τ, f_X9_walk a b σ = some (out, τ) ∧ ∃ r ρ, f_X10_walk a b τ = some (r, ρ) ∧ RR (B + 9) ρ ∧ same1 out 0 r (ρ 198 12) :=
  op9 R (cf := f_X3_moveVisitor a b) (rf := f_X10_walkIt a b) (S := S_walk a b) (fun _ _ h ho => c_walk hB a b h ho) (fun _ ho => r_walk hB a b ho) (fun _ _ _ ho h => ok_walk hB ho h)
theorem q_rest {σ : Mm} {B : Nat} (hB : B + 9 ≤ 1000000) (R : RR B σ) (a b : Int32) : ∃ out τ, f_X9_rest a b σ = some (out, τ) ∧ ∃ r ρ, f_X10_rest a b τ = some (r, ρ) ∧ RR (B + 9) ρ ∧ same1 out 0 r (ρ 198 12) :=
  op9 R (cf := f_X3_restVisitor a b) (rf := f_X10_restIt a b) (S := S_rest a b) (fun _ _ h ho => c_rest (by omega) a b h ho) (fun _ ho => r_rest a b ho) (fun _ _ _ ho h => ok_rest ho h)
theorem q_summer {σ : Mm} {B : Nat} (R : RR B σ) : ∃ out τ, f_X9_summer σ = some (out, τ) ∧ ∃ r ρ, f_X10_summer τ = some (r, ρ) ∧ RR (B + 9) ρ ∧ same1 out 0 r (ρ 198 12) :=
  op9 R (cf := f_X3_passSummer) (rf := f_X10_summerIt) (S := S_summer) (fun _ _ h ho => c_summer h ho) (fun _ _ => r_summer) (fun _ _ _ ho h => ok_summer ho h)
