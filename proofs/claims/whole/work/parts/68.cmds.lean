/-! COMMANDS -/
theorem r_all {t : Nat → Nat} {L : Nat} {K : Int32 → Mm → Option (Int32 × Mm)} {σ : Mm} (P : Option (Int32 × Mm) → Prop) (hL : L ≤ 60) (ht : ∀ j, j < L → t j < 65536) (Z : RZ t L 0 false σ) (h15 : σ 198 15 = I 0)
    (h : ∀ τ, RZ t L (rdA t L).1 (rdA t L).2.1 τ → ((rdA t L).2.1 = false → τ 198 15 = I (rdA t L).2.2.1 ∧ RM (rdA t L).2.2.1 (rdA t L).2.2.2 τ) → (∀ a, a ≠ 198 → a ≠ 205 → τ a = σ a) → (∀ k, k ≠ 15 → k ≠ 16 → k ≠ 18 → τ 198 k = σ 198 k) → P (K 0 τ)) : P (f_X10_commands_l34 K 90 1 σ) := by
  obtain ⟨τ, e, h1, h2, h3, h4⟩ := r_rest' (K := K) hL ht 62 0 0 90 C0 σ (by omega) (by omega) (by omega) (by omega) Z h15 (fun i hi => absurd hi (Nat.not_lt_zero _)) (fun i hi => absurd hi (Nat.not_lt_zero _))
  rw [e]
  exact h τ h1 h2 h3 h4
/-- the reference's commands up to the end of its reading -/
theorem r_begin {t : Nat → Nat} {L : Nat} {τ : Mm} (P : Option (Int32 × Mm) → Prop) (hL : L ≤ 60) (ht : ∀ j, j < L → t j < 65536) (h11 : τ 198 11 = I L) (hs : ∀ j, j < L → τ 203 j = I (t j))
    (h : ∀ σ9, RZ t L (rdA t L).1 (rdA t L).2.1 σ9 → ((rdA t L).2.1 = false → σ9 198 15 = I (rdA t L).2.2.1 ∧ RM (rdA t L).2.2.1 (rdA t L).2.2.2 σ9) → (∀ a, a ≠ 198 → a ≠ 200 → a ≠ 205 → σ9 a = τ a) → (∀ k, k < 86 → σ9 200 k = τ 199 k) → σ9 198 11 = 0 → σ9 198 12 = 0 → (∀ k, k ≠ 11 → k ≠ 12 → k ≠ 15 → k ≠ 16 → k ≠ 17 → k ≠ 18 → σ9 198 k = τ 198 k) →
      P (if (σ9 198 18) = 0 then (lt (up σ9 198 9 (-1)) fun σ12 => if (σ12 198 18) = 0 then (lt (fun v14 σ15 => f_X10_commands_l162 v14 0 90 0 σ15) fun K => f_X10_commands_l138 K 0 90 0 σ12) else (bnm (f_X10_throwing 1 σ12) fun q37 σ38 => some (q37, σ38))) else (lt (up σ9 198 9 (σ9 198 16)) fun σ39 => if (σ39 198 18) = 0 then (lt (fun v41 σ42 => f_X10_commands_l162b v41 0 90 0 σ42) fun K => f_X10_commands_l138b K 0 90 0 σ39) else (bnm (f_X10_throwing 1 σ39) fun q64 σ65 => some (q64, σ65))))) : P (f_X10_commands τ) := by
  unfold f_X10_commands
  obtain ⟨τ1, s1, s2, s3, s4, s5⟩ := r_starts (σ := τ)
  obtain ⟨τ2, h2⟩ : ∃ s, s = up (up (up (up (up τ1 198 17 (τ1 198 11)) 198 11 0) 198 16 0) 198 15 0) 198 18 0 := ⟨_, rfl⟩
  rw [s1, bnd_d, lt_d, lt_d, lt_d, lt_d, lt_d, lt_d, ← h2]
  have e198 : ∀ k, k ≠ 11 → k ≠ 12 → k ≠ 15 → k ≠ 16 → k ≠ 17 → k ≠ 18 → τ2 198 k = τ 198 k := fun k z1 z2 z3 z4 z5 z6 => by rw [h2, up_e, upd_n _ _ z6, up_e, upd_n _ _ z3, up_e, upd_n _ _ z4, up_e, upd_n _ _ z1, up_e, upd_n _ _ z5, s3 k z2]
  have eo : ∀ a, a ≠ 198 → τ2 a = τ1 a := fun a z => by rw [h2, up_n _ _ _ z, up_n _ _ _ z, up_n _ _ _ z, up_n _ _ _ z, up_n _ _ _ z]
  have e17 : τ2 198 17 = I L := by rw [h2, up_e, upd_n _ _ (by omega), up_e, upd_n _ _ (by omega), up_e, upd_n _ _ (by omega), up_e, upd_n _ _ (by omega), up_e, upd_e, s3 11 (by omega), h11]
  have e16 : τ2 198 16 = I 0 := by rw [h2, up_e, upd_n _ _ (by omega), up_e, upd_n _ _ (by omega), up_e, upd_e]; rfl
  have e15 : τ2 198 15 = I 0 := by rw [h2, up_e, upd_n _ _ (by omega), up_e, upd_e]; rfl
  have e18 : τ2 198 18 = 0 := by rw [h2, up_e, upd_e]
  have e11 : τ2 198 11 = 0 := by rw [h2, up_e, upd_n _ _ (by omega), up_e, upd_n _ _ (by omega), up_e, upd_n _ _ (by omega), up_e, upd_e]
  have e12 : τ2 198 12 = 0 := by rw [h2, up_e, upd_n _ _ (by omega), up_e, upd_n _ _ (by omega), up_e, upd_n _ _ (by omega), up_e, upd_n _ _ (by omega), up_e, upd_n _ _ (by omega), s2]
  refine r_all P hL ht ⟨e17, e16, e18, by omega, fun j hj => by rw [eo 203 (by omega), s5 203 (by omega) (by omega)]; exact hs j hj⟩ e15 ?_
  intro σ9 z1 z2 z3 z4
  exact h σ9 z1 z2 (fun a y1 y2 y3 => by rw [z3 a y1 y3, eo a y1, s5 a y1 y2]) (fun k hk => by rw [z3 200 (by omega) (by omega), eo 200 (by omega), s4 k hk]) (by rw [z4 11 (by omega) (by omega) (by omega)]; exact e11) (by rw [z4 12 (by omega) (by omega) (by omega)]; exact e12) (fun k y1 y2 y3 y4 y5 y6 => by rw [z4 k y3 y4 y6, e198 k y1 y2 y3 y4 y5 y6])
theorem q_commands {σ : Mm} {B : Nat} (hB : B + 300 ≤ 1000000) (R : RR B σ) : ∃ out τ, f_X9_commands σ = some (out, τ) ∧ ∃ r ρ, f_X10_commands τ = some (r, ρ) ∧ RR (B + 300) ρ ∧ same2 out 3 0 r (ρ 198 12) := by
  obtain ⟨r1, r2, r3, r4, r5, ⟨L, t1, t2, t3, t4, t5⟩, r7⟩ := R
  obtain ⟨f, hf⟩ : ∃ f, f = σ 199 := ⟨_, rfl⟩
  rw [← hf] at r1 r2
  obtain ⟨t, htd⟩ : ∃ t : Nat → Nat, t = fun j => (σ 203 j).toNatClampNeg := ⟨_, rfl⟩
  have tc : ∀ j, j < L → t j < 65536 ∧ σ 203 j = I (t j) := fun j hj => by
    obtain ⟨-, c, c1, c2⟩ := t4 j hj
    have : t j = c := by rw [htd]; dsimp only; rw [c2, I_clamp (by omega)]
    rw [this]; exact ⟨c1, c2⟩
  have ht : ∀ j, j < L → t j < 65536 := fun j hj => (tc j hj).1
  obtain ⟨σa, a1, a2, a3, a4, a5⟩ := z_all (σ := σ) t1 ht t2 (fun j hj => by rw [(t4 j hj).1]; exact (tc j hj).2)
  unfold f_X9_commands
  rw [a1, bnm_d]
  by_cases w : (rdA t L).2.1 = true
  · rw [if_pos w, if_pos rfl]
    rw [if_pos w] at a3
    refine ⟨_, _, rfl, ?_⟩
    refine r_begin (t := t) (L := L) (τ := σa) (fun o => ∃ r ρ, o = some (r, ρ) ∧ RR (B + 300) ρ ∧ same2 (Sum.inr 3) 3 0 r (ρ 198 12)) t1 ht (by rw [a5 198 (by omega) (by omega) (by omega)]; exact t3) (fun j hj => by rw [a5 203 (by omega) (by omega) (by omega)]; exact (tc j hj).2) ?_
    intro σ9 z1 z2 z3 z4 z5 z6 z7
    rw [w] at z1
    have e18 : σ9 198 18 = 1 := z1.2.2.1
    have e16 : σ9 198 16 = I (rdA t L).1 := z1.2.1
    rw [e18, if_neg one_ne, lt_d, up_e, upd_n _ _ (show 18 ≠ 9 by omega), e18, if_neg one_ne, r_thr, bnm_d, e16]
    obtain ⟨ρ, hρ⟩ : ∃ ρ, ρ = up (up σ9 198 9 (I (rdA t L).1)) 198 12 1 := ⟨_, rfl⟩
    rw [← hρ]
    have z : ∀ a, a ≠ 162 → a ≠ 164 → a < 166 ∨ 196 ≤ a → a ≠ 198 → a ≠ 200 → a ≠ 205 → ρ a = σ a := fun a h1 h2 h3 h4 h5 h6 => by rw [hρ, up_n _ _ _ h4, up_n _ _ _ h4, z3 a h4 h5 h6, a5 a h1 h2 h3]
    have z198 : ∀ k, k ≠ 9 → k ≠ 11 → k ≠ 12 → k ≠ 15 → k ≠ 16 → k ≠ 17 → k ≠ 18 → ρ 198 k = σ 198 k := fun k h1 h2 h3 h4 h5 h6 h7 => by rw [hρ, up_e, upd_n _ _ h3, up_e, upd_n _ _ h1, z7 k h2 h3 h4 h5 h6 h7, a5 198 (by omega) (by omega) (by omega)]
    have z162 : ρ 162 = σa 162 := by rw [hρ, up_n _ _ _ (by omega), up_n _ _ _ (by omega), z3 162 (by omega) (by omega) (by omega)]
    have z199 : ρ 199 = f := by rw [z 199 (by omega) (by omega) (by omega) (by omega) (by omega) (by omega), hf]
    refine ⟨_, ρ, rfl, ⟨?_, ?_, ?_, ?_, ?_, ?_, ?_⟩, Or.inl ⟨rfl, by rw [hρ, up_e, upd_e]⟩⟩
    · rw [z199]; exact r1.move (fun a _ h => z a (by omega) (by omega) (by omega) (by omega) (by omega) (by omega))
    · rw [z199]; exact r2.mono (by omega)
    · exact (r3.mono (by omega)).move (fun a h1 h2 => z a (by omega) (by omega) (by omega) (by omega) (by omega) (by omega)) (z 155 (by omega) (by omega) (by omega) (by omega) (by omega) (by omega)) (z198 5 (by omega) (by omega) (by omega) (by omega) (by omega) (by omega) (by omega)) (z 202 (by omega) (by omega) (by omega) (by omega) (by omega) (by omega))
    · exact (r4.mono (by omega)).move (fun a h1 h2 => z a (by omega) (by omega) (by omega) (by omega) (by omega) (by omega)) (z 154 (by omega) (by omega) (by omega) (by omega) (by omega) (by omega)) (z198 3 (by omega) (by omega) (by omega) (by omega) (by omega) (by omega) (by omega)) (z 201 (by omega) (by omega) (by omega) (by omega) (by omega) (by omega))
    · unfold refu
      rw [z 157 (by omega) (by omega) (by omega) (by omega) (by omega) (by omega), z198 6 (by omega) (by omega) (by omega) (by omega) (by omega) (by omega) (by omega), z198 7 (by omega) (by omega) (by omega) (by omega) (by omega) (by omega) (by omega), z198 8 (by omega) (by omega) (by omega) (by omega) (by omega) (by omega) (by omega)]
      exact r5
    · refine ⟨0, by omega, by rw [z162]; exact a2, by rw [hρ, up_e, upd_n _ _ (by omega), up_e, upd_n _ _ (by omega)]; exact z5, fun j hj => absurd hj (Nat.not_lt_zero _), ?_⟩
      rw [z162, a3, hρ, up_e, upd_n _ _ (by omega), up_e, upd_e]
    · exact r7.move (z 196 (by omega) (by omega) (by omega) (by omega) (by omega) (by omega)) (z 197 (by omega) (by omega) (by omega) (by omega) (by omega) (by omega)) (z 206 (by omega) (by omega) (by omega) (by omega) (by omega) (by omega)) (z198 20 (by omega) (by omega) (by omega) (by omega) (by omega) (by omega) (by omega))
  · have w' : (rdA t L).2.1 = false := by cases z : (rdA t L).2.1 with | false => rfl | true => exact absurd z w
    obtain ⟨hG, hn0⟩ := rdA_GC w'
    obtain ⟨c5, cC⟩ := a4 w'
    obtain ⟨n, hn⟩ : ∃ n, n = (rdA t L).2.2.1 := ⟨_, rfl⟩
    obtain ⟨C, hC⟩ : ∃ C, C = (rdA t L).2.2.2 := ⟨_, rfl⟩
    rw [← hn] at hG hn0 c5 cC
    rw [← hC] at hG cC
    rw [if_neg w] at a3
    rw [if_neg w, if_neg one_ne]
    obtain ⟨σb, b1, b2, b3⟩ := c_copy (σ := σa) (i := 14) (o := 0) (by omega) (r1.move (fun a _ h => a5 a (by omega) (by omega) (by omega))) r2
    rw [b1, bnd_d]
    have cr := c_run (C := C) (B := B) (n := n) hB (by omega) hG n 0 40 σb f (by omega) (by omega) (by rw [b3 162 (by omega)]; exact c5) (fun i hi => by rw [b3 164 (by omega), b3 (166 + i) (by omega)]; exact cC i hi) (r1.move (fun a _ h => by rw [b3 a (by omega), a5 a (by omega) (by omega) (by omega)])) r2
    have rr : ∀ {K : Int32 → Mm → Option (Int32 × Mm)} {σ12 : Mm}, σ12 198 15 = I n → σ12 198 12 = 0 → RM n C σ12 → σ12 199 = f → rRun n σ12 K (f_X10_commands_l138 K 0 90 (I 0) σ12) (runS C n 0 f) := fun {K σ12} h1 h2 h3 h4 => by
      have := r_run (C := C) (B := B) (n := n) (K := K) (L := f_X10_commands_l138 K) (v8 := 0) hB (by omega) hG (fun m v σ => by rw [f_X10_commands_l138]) n 0 90 σ12 (by omega) (by omega) h1 h2 h3 (by rw [h4]; exact r2)
      rw [h4] at this
      exact this
    have okr : ∀ g, runS C n 0 f = .inl g → ok (B + 300) g := fun g h => ok_run hB n 0 f g (by omega) r2 h
    have cr' : cRun n σb (f_X9_commands_l34 40 0 σb) (runS C n 0 f) := cr
    -- what a reference that has read all does
    have rd : ∀ (τ : Mm) (P : Option (Int32 × Mm) → Prop), τ 198 = σ 198 → τ 203 = σ 203 →
        (∀ σ12, RM n C σ12 → σ12 198 15 = I n → σ12 198 12 = 0 → σ12 198 11 = 0 → σ12 198 9 = -1 → (∀ a, a ≠ 198 → a ≠ 200 → a ≠ 205 → σ12 a = τ a) → (∀ k, k < 86 → σ12 200 k = τ 199 k) → (∀ k, k ≠ 9 → k ≠ 11 → k ≠ 12 → k ≠ 15 → k ≠ 16 → k ≠ 17 → k ≠ 18 → σ12 198 k = σ 198 k) → P (f_X10_commands_l138 (fun v14 σ15 => f_X10_commands_l162 v14 0 90 0 σ15) 0 90 0 σ12)) → P (f_X10_commands τ) := by
      intro τ P h1 h2 h3
      refine r_begin (t := t) (L := L) (τ := τ) P t1 ht (by rw [h1]; exact t3) (fun j hj => by rw [h2]; exact (tc j hj).2) ?_
      intro σ9 z1 z2 z3 z4 z5 z6 z7
      rw [w'] at z1
      have e18 : σ9 198 18 = 0 := z1.2.2.1
      rw [e18, if_pos rfl, lt_d, up_e, upd_n _ _ (show 18 ≠ 9 by omega), e18, if_pos rfl, lt_d]
      obtain ⟨z2a, z2b⟩ := z2 w'
      rw [← hn] at z2a z2b
      rw [← hC] at z2b
      refine h3 _ (fun i hi => by rw [up_n _ _ _ (by omega)]; exact z2b i hi) (by rw [up_e, upd_n _ _ (by omega)]; exact z2a) (by rw [up_e, upd_n _ _ (by omega)]; exact z6) (by rw [up_e, upd_n _ _ (by omega)]; exact z5) (by rw [up_e, upd_e]) (fun a y1 y2 y3 => by rw [up_n _ _ _ y1, z3 a y1 y2 y3]) (fun k hk => by rw [up_n _ _ _ (by omega), z4 k hk]) (fun k y1 y2 y3 y4 y5 y6 y7 => by rw [up_e, upd_n _ _ y1, z7 k y2 y3 y4 y5 y6 y7, h1])
    revert cr' rr okr
    cases runS C n 0 f with
    | inl g =>
      intro rr okr cr'
      obtain ⟨σc, c1, c2, c3⟩ := cr'
      rw [c1]
      unfold f_X9_settled
      rw [if_neg (nm1 (show n < 2147483648 by omega))]
      obtain ⟨m, l, n1, n2, n3, n4, n5, n6⟩ := r3
      have k155 : σc 155 = σ 155 := by rw [c3 155 (by omega) (by omega) (by omega), b3 155 (by omega), a5 155 (by omega) (by omega) (by omega)]
      obtain ⟨σd, k1, k2, k3, k4, k5⟩ := m_keep (σ := σc) (f := f) (l := l) n1 n2 (by rw [k155]; exact n3) (by rw [k155]; exact n4) (b2.move (fun a h1 h2 => c3 a h1 (by omega) (by omega))) r2
      rw [k1, bnd_d, xb_d]
      refine ⟨.inl (I n), σd, rfl, ?_⟩
      have q : ∀ a, 28 ≤ a → a ≠ 155 → a ≠ 159 → a ≠ 160 → a ≠ 162 → a ≠ 164 → a < 166 ∨ 196 ≤ a → a < 42 ∨ 154 ≤ a → σd a = σ a := fun a h1 h2 h3 h4 h5 h6 h7 h8 => by rw [k5 a h2 (by omega), c3 a (by omega) h3 h4, b3 a (by omega), a5 a h5 h6 h7]
      have q162 : σd 162 = σa 162 := by rw [k5 162 (by omega) (by omega), c3 162 (by omega) (by omega) (by omega), b3 162 (by omega)]
      have e199 : σd 199 = f := by rw [q 199 (by omega) (by omega) (by omega) (by omega) (by omega) (by omega) (by omega) (by omega), hf]
      refine rd σd (fun o => ∃ r ρ, o = some (r, ρ) ∧ RR (B + 300) ρ ∧ same2 (Sum.inl (I n)) 3 0 r (ρ 198 12)) (q 198 (by omega) (by omega) (by omega) (by omega) (by omega) (by omega) (by omega) (by omega)) (q 203 (by omega) (by omega) (by omega) (by omega) (by omega) (by omega) (by omega) (by omega)) ?_
      intro σ12 y1 y2 y3 y4 y5 y6 y7 y8
      obtain ⟨τ5, d1, d2, d3⟩ := rr (K := fun v14 σ15 => f_X10_commands_l162 v14 0 90 0 σ15) y2 y3 y1 (by rw [y6 199 (by omega) (by omega) (by omega)]; exact e199)
      rw [show f_X10_commands_l138 (fun v14 σ15 => f_X10_commands_l162 v14 0 90 0 σ15) 0 90 0 σ12 = _ from d1]
      obtain ⟨ρ, p1, p2, p3, p4, p5, p6⟩ := r_changed (σ := τ5) (I n) n1 (by rw [d3 198 (by omega) (by omega), y8 5 (by omega) (by omega) (by omega) (by omega) (by omega) (by omega) (by omega)]; exact n5) (by rw [d3 198 (by omega) (by omega)]; exact y3)
      rw [p1, bnm_d]
      refine ⟨_, ρ, rfl, ?_, by rw [p3 12 (by omega), d3 198 (by omega) (by omega)]; exact y3, rfl⟩
      have z : ∀ a, a ≠ 198 → a ≠ 199 → a ≠ 200 → a ≠ 202 → a ≠ 204 → a ≠ 205 → ρ a = σd a := fun a h1 h2 h3 h4 h5 h6 => by rw [p6 a h1 h4, d3 a h2 h5, y6 a h1 h3 h6]
      have z198 : ∀ k, k ≠ 5 → k ≠ 9 → k ≠ 11 → k ≠ 12 → k ≠ 15 → k ≠ 16 → k ≠ 17 → k ≠ 18 → ρ 198 k = σ 198 k := fun k h1 h2 h3 h4 h5 h6 h7 h8 => by rw [p3 k h1, d3 198 (by omega) (by omega), y8 k h2 h3 h4 h5 h6 h7 h8]
      have z199 : ρ 199 = g := by rw [p6 199 (by omega) (by omega), d2]
      have e200 : ∀ k, k < 86 → τ5 200 k = f k := fun k hk => by rw [d3 200 (by omega) (by omega), y7 k hk, e199]
      have e202 : τ5 202 = σ 202 := by rw [d3 202 (by omega) (by omega), y6 202 (by omega) (by omega) (by omega), q 202 (by omega) (by omega) (by omega) (by omega) (by omega) (by omega) (by omega) (by omega)]
      refine ⟨?_, ?_, ?_, ?_, ?_, ?_, ?_⟩
      · rw [z199]
        exact c2.move (fun a _ h => by rw [z a (by omega) (by omega) (by omega) (by omega) (by omega) (by omega), k5 a (by omega) (by omega)])
      · rw [z199]; exact okr g rfl
      · have hb : (l + 1) % 8 < 8 := Nat.mod_lt _ (by omega)
        refine ⟨min 8 (m + 1), (l + 1) % 8, by omega, hb, by rw [z 155 (by omega) (by omega) (by omega) (by omega) (by omega) (by omega)]; exact k2, by rw [z 155 (by omega) (by omega) (by omega) (by omega) (by omega) (by omega)]; exact k3, p2, fun k hk => ?_⟩
        cases k with
        | zero =>
          refine ⟨f, r2.mono (by omega), ?_, fun j hj => ?_⟩
          · rw [show ((l + 1) % 8 + 8 - 0) % 8 = (l + 1) % 8 by omega]
            exact k4.move (fun a h1 h2 => z a (by omega) (by omega) (by omega) (by omega) (by omega) (by omega))
          · rw [Nat.sub_zero, p4 j hj, e200 j hj]
        | succ k =>
          obtain ⟨h, h1, h2, h3⟩ := n6 k (by omega)
          refine ⟨h, h1.mono (by omega), ?_, fun j hj => ?_⟩
          · have e : ((l + 1) % 8 + 8 - (k + 1)) % 8 = (l + 8 - k) % 8 := by omega
            have ne : (l + 8 - k) % 8 ≠ (l + 1) % 8 := by omega
            rw [e]
            exact h2.move (fun a g1 g2 => by rw [z a (by omega) (by omega) (by omega) (by omega) (by omega) (by omega), k5 a (by omega) (by omega), c3 a (by omega) (by omega) (by omega), b3 a (by omega), a5 a (by omega) (by omega) (by omega)])
          · rw [p5 k j hk hj, e202]; exact h3 j hj
      · exact (r4.mono (by omega)).move (fun a h1 h2 => by rw [z a (by omega) (by omega) (by omega) (by omega) (by omega) (by omega), q a (by omega) (by omega) (by omega) (by omega) (by omega) (by omega) (by omega) (by omega)]) (by rw [z 154 (by omega) (by omega) (by omega) (by omega) (by omega) (by omega), q 154 (by omega) (by omega) (by omega) (by omega) (by omega) (by omega) (by omega) (by omega)]) (z198 3 (by omega) (by omega) (by omega) (by omega) (by omega) (by omega) (by omega) (by omega)) (by rw [z 201 (by omega) (by omega) (by omega) (by omega) (by omega) (by omega), q 201 (by omega) (by omega) (by omega) (by omega) (by omega) (by omega) (by omega) (by omega)])
      · unfold refu
        rw [z198 6 (by omega) (by omega) (by omega) (by omega) (by omega) (by omega) (by omega) (by omega), z198 7 (by omega) (by omega) (by omega) (by omega) (by omega) (by omega) (by omega) (by omega), z198 8 (by omega) (by omega) (by omega) (by omega) (by omega) (by omega) (by omega) (by omega), z 157 (by omega) (by omega) (by omega) (by omega) (by omega) (by omega), q 157 (by omega) (by omega) (by omega) (by omega) (by omega) (by omega) (by omega) (by omega)]
        exact r5
      · refine ⟨0, by omega, by rw [z 162 (by omega) (by omega) (by omega) (by omega) (by omega) (by omega), q162]; exact a2, by rw [p3 11 (by omega), d3 198 (by omega) (by omega)]; exact y4, fun j hj => absurd hj (Nat.not_lt_zero _), ?_⟩
        rw [z 162 (by omega) (by omega) (by omega) (by omega) (by omega) (by omega), q162, a3, p3 9 (by omega), d3 198 (by omega) (by omega), y5]
      · have z2 : ∀ a, 196 ≤ a → a ≠ 198 → a ≠ 199 → a ≠ 200 → a ≠ 202 → a ≠ 204 → a ≠ 205 → ρ a = σ a := fun a h1 h2 h3 h4 h5 h6 h7 => by rw [z a h2 h3 h4 h5 h6 h7, q a (by omega) (by omega) (by omega) (by omega) (by omega) (by omega) (by omega) (by omega)]
        exact r7.move (z2 196 (by omega) (by omega) (by omega) (by omega) (by omega) (by omega) (by omega)) (z2 197 (by omega) (by omega) (by omega) (by omega) (by omega) (by omega) (by omega)) (z2 206 (by omega) (by omega) (by omega) (by omega) (by omega) (by omega) (by omega)) (z198 20 (by omega) (by omega) (by omega) (by omega) (by omega) (by omega) (by omega) (by omega))
    | inr p =>
      obtain ⟨k, x, y⟩ := p
      intro rr okr cr'
      obtain ⟨hk, σc, c1, c2, c3⟩ := cr'
      rw [c1, lt_d]
      obtain ⟨σd, k1, k2, k3⟩ := c_copy (σ := up σc 157 2 (I k)) (f := f) (i := 0) (o := 14) (by omega) (b2.move (fun a h1 h2 => by rw [up_n _ _ _ (by omega), c3 a h1 (by omega) (by omega) (by omega)])) r2
      rw [k1, bnd_d]
      refine ⟨.inr 0, σd, rfl, ?_⟩
      have q : ∀ a, 28 ≤ a → a ≠ 157 → a ≠ 159 → a ≠ 160 → a ≠ 162 → a ≠ 164 → a < 166 ∨ 196 ≤ a → σd a = σ a := fun a h1 h2 h3 h4 h5 h6 h7 => by rw [k3 a (by omega), up_n _ _ _ h2, c3 a (by omega) h2 h3 h4, b3 a (by omega), a5 a h5 h6 h7]
      have q162 : σd 162 = σa 162 := by rw [k3 162 (by omega), up_n _ _ _ (by omega), c3 162 (by omega) (by omega) (by omega) (by omega), b3 162 (by omega)]
      have e199 : σd 199 = f := by rw [q 199 (by omega) (by omega) (by omega) (by omega) (by omega) (by omega) (by omega), hf]
      refine rd σd (fun o => ∃ r ρ, o = some (r, ρ) ∧ RR (B + 300) ρ ∧ same2 (Sum.inr 0) 3 0 r (ρ 198 12)) (q 198 (by omega) (by omega) (by omega) (by omega) (by omega) (by omega) (by omega)) (q 203 (by omega) (by omega) (by omega) (by omega) (by omega) (by omega) (by omega)) ?_
      intro σ12 y1 y2 y3 y4 y5 y6 y7 y8
      obtain ⟨-, τ5, d1, ⟨d2a, d2b⟩, d3, d4⟩ := rr (K := fun v14 σ15 => f_X10_commands_l162 v14 0 90 0 σ15) y2 y3 y1 (by rw [y6 199 (by omega) (by omega) (by omega)]; exact e199)
      rw [show f_X10_commands_l138 (fun v14 σ15 => f_X10_commands_l162 v14 0 90 0 σ15) 0 90 0 σ12 = _ from d1]
      obtain ⟨σ2, g1, g2, g3⟩ := r_copy (σ0 := τ5) (F := f_X10_commands_l162 (I k) 0) (K := fun σ21 => lt (up σ21 198 8 (I k)) fun σ23 => bnm (f_X10_throwing 2 σ23) fun q24 σ25 => some (q24, σ25)) (p := 199) (q := 200) (o := 0) (by omega) (fun n v g _ => by
        rw [f_X10_commands_l162]
        by_cases q : (86 : Int32) ≤ v
        · rw [if_pos q, if_pos q]
        · rw [if_neg q, if_neg q, Nat.zero_add]
          unfold gd
          by_cases w : v < 0 ∨ 86 ≤ v.toNatClampNeg
          · rw [if_pos w, if_pos w]
          · rw [if_neg w, if_neg w])
      dsimp only
      rw [g1, lt_d, r_thr, bnm_d]
      obtain ⟨ρ, hρ⟩ : ∃ ρ, ρ = up (up σ2 198 8 (I k)) 198 12 2 := ⟨_, rfl⟩
      rw [← hρ]
      have z : ∀ a, 28 ≤ a → a ≠ 157 → a ≠ 159 → a ≠ 160 → a ≠ 162 → a ≠ 164 → a < 166 ∨ 196 ≤ a → a ≠ 198 → a ≠ 199 → a ≠ 200 → a ≠ 204 → a ≠ 205 → ρ a = σ a := fun a h0 h1 h2 h3 h4 h5 h6 h7 h8 h9 h10 h11 => by rw [hρ, up_n _ _ _ h7, up_n _ _ _ h7, g3 a h8, d4 a h7 h8 h10, y6 a h7 h9 h11, q a h0 h1 h2 h3 h4 h5 h6]
      have zd : ∀ a, a ≠ 198 → a ≠ 199 → a ≠ 200 → a ≠ 204 → a ≠ 205 → ρ a = σd a := fun a h7 h8 h9 h10 h11 => by rw [hρ, up_n _ _ _ h7, up_n _ _ _ h7, g3 a h8, d4 a h7 h8 h10, y6 a h7 h9 h11]
      have e2 : σ2 198 = τ5 198 := g3 198 (by omega)
      have z198 : ∀ j, j < 6 ∨ 8 < j → j ≠ 9 → j ≠ 11 → j ≠ 12 → j ≠ 15 → j ≠ 16 → j ≠ 17 → j ≠ 18 → ρ 198 j = σ 198 j := fun j h1 h2 h3 h4 h5 h6 h7 h8 => by rw [hρ, up_e, upd_n _ _ h4, up_e, upd_n _ _ (by omega), e2, d3 j h1 h4, y8 j h2 h3 h4 h5 h6 h7 h8]
      have z199 : ∀ j, j < 86 → ρ 199 j = f j := fun j hj => by rw [hρ, up_n _ _ _ (by omega), up_n _ _ _ (by omega), g2 j hj, Nat.zero_add, d4 200 (by omega) (by omega) (by omega), y7 j hj, e199]
      refine ⟨_, ρ, rfl, ⟨?_, ?_, ?_, ?_, ?_, ?_, ?_⟩, Or.inr ⟨rfl, by rw [hρ, up_e, upd_e]⟩⟩
      · exact (k2.move (fun a _ h => zd a (by omega) (by omega) (by omega) (by omega) (by omega))).ext (fun j hj => (z199 j hj).symm)
      · exact (r2.mono (by omega)).ext (fun j hj => (z199 j hj).symm)
      · exact (r3.mono (by omega)).move (fun a h1 h2 => z a (by omega) (by omega) (by omega) (by omega) (by omega) (by omega) (by omega) (by omega) (by omega) (by omega) (by omega) (by omega)) (z 155 (by omega) (by omega) (by omega) (by omega) (by omega) (by omega) (by omega) (by omega) (by omega) (by omega) (by omega) (by omega)) (z198 5 (by omega) (by omega) (by omega) (by omega) (by omega) (by omega) (by omega) (by omega)) (z 202 (by omega) (by omega) (by omega) (by omega) (by omega) (by omega) (by omega) (by omega) (by omega) (by omega) (by omega) (by omega))
      · exact (r4.mono (by omega)).move (fun a h1 h2 => z a (by omega) (by omega) (by omega) (by omega) (by omega) (by omega) (by omega) (by omega) (by omega) (by omega) (by omega) (by omega)) (z 154 (by omega) (by omega) (by omega) (by omega) (by omega) (by omega) (by omega) (by omega) (by omega) (by omega) (by omega) (by omega)) (z198 3 (by omega) (by omega) (by omega) (by omega) (by omega) (by omega) (by omega) (by omega)) (z 201 (by omega) (by omega) (by omega) (by omega) (by omega) (by omega) (by omega) (by omega) (by omega) (by omega) (by omega) (by omega))
      · have e157 : ρ 157 = (up σc 157 2 (I k)) 157 := by rw [zd 157 (by omega) (by omega) (by omega) (by omega) (by omega), k3 157 (by omega)]
        unfold refu
        rw [e157, up_e, upd_n _ _ (by omega), upd_n _ _ (by omega), upd_e, c2.1, c2.2, hρ, up_e, upd_n _ _ (by omega), upd_n _ _ (by omega), upd_n _ _ (by omega), up_e, upd_n _ _ (by omega), upd_n _ _ (by omega), upd_e, e2, d2a, d2b]
        exact ⟨rfl, rfl, rfl⟩
      · refine ⟨0, by omega, by rw [zd 162 (by omega) (by omega) (by omega) (by omega) (by omega), q162]; exact a2, by rw [hρ, up_e, upd_n _ _ (by omega), up_e, upd_n _ _ (by omega), e2, d3 11 (by omega) (by omega)]; exact y4, fun j hj => absurd hj (Nat.not_lt_zero _), ?_⟩
        rw [zd 162 (by omega) (by omega) (by omega) (by omega) (by omega), q162, a3, hρ, up_e, upd_n _ _ (by omega), up_e, upd_n _ _ (by omega), e2, d3 9 (by omega) (by omega), y5]
      · exact r7.move (z 196 (by omega) (by omega) (by omega) (by omega) (by omega) (by omega) (by omega) (by omega) (by omega) (by omega) (by omega) (by omega)) (z 197 (by omega) (by omega) (by omega) (by omega) (by omega) (by omega) (by omega) (by omega) (by omega) (by omega) (by omega) (by omega)) (z 206 (by omega) (by omega) (by omega) (by omega) (by omega) (by omega) (by omega) (by omega) (by omega) (by omega) (by omega) (by omega)) (z198 20 (by omega) (by omega) (by omega) (by omega) (by omega) (by omega) (by omega) (by omega))
