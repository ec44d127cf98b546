/-! MORE QUESTIONS, undo, save, restore -/
theorem q_visitorOf {σ : Mm} {B : Nat} (R : RR B σ) (a w : Int32) : ∃ out τ, f_X9_visitorOf a w σ = some (out, τ) ∧ ∃ r ρ, f_X10_visitorOf a w τ = some (r, ρ) ∧ RR B ρ ∧ same2 out 1 3 r (ρ 198 12) := by
  obtain ⟨n, m, ho⟩ := R.2.1
  have h := R.1
  have hm := ho.2.1.1
  unfold f_X9_visitorOf f_X10_visitorOf
  rw [c_vask h ho]
  cases e : ix a m with
  | none =>
    dsimp only
    rw [xb_n]
    refine ⟨_, _, rfl, ?_⟩
    rw [lt_d, n_isV hm (by rw [thr199]; exact ho.2.1.2), e, bnd_d]
    dsimp only
    rw [if_pos rfl, r_thr, bnm_d]
    exact ⟨_, _, rfl, (R.thr 0).thr 1, Or.inl ⟨rfl, thr12 _ _⟩⟩
  | some v =>
    obtain ⟨v1, rfl⟩ := ix_lt (by omega) e
    dsimp only
    rw [xb_d, oc_e, m_num h ho v1, bnd_d]
    rcases ix_cases w (N := 9) (by omega) with ⟨k, k1, rfl, -⟩ | ⟨k1, -⟩
    · rw [if_neg (I_n0 (by omega)), if_pos (show I k ≤ 8 from (I_le (b := 8) (by omega) (by omega)).mpr (by omega))]
      refine ⟨_, _, rfl, ?_⟩
      rw [lt_d, n_isV hm (by rw [thr199]; exact ho.2.1.2), e, bnd_d]
      dsimp only
      rw [if_neg one_ne, n_vAt, bnd_d, n_lost (by omega), bnd_d, thr199]
      have s1 : ∀ j : Nat, 1 ≤ j → I (46 + 8 * v) + I j - 1 = I (46 + 8 * v + j - 1) := fun j hj => by rw [I_add]; exact I_sub (b := 1) (by omega)
      have go : ∀ j, j < 86 → gd (I j) 86 (some (σ 199 (I j).toNatClampNeg, up σ 198 12 0)) = some (σ 199 j, up σ 198 12 0) := fun j hj => by rw [gd_I hj (by omega), I_clamp (by omega)]
      unfold numV
      rcases (show k = 0 ∨ k = 1 ∨ k = 2 ∨ k = 3 ∨ k = 4 ∨ k = 5 ∨ k = 6 ∨ k = 7 ∨ k = 8 by omega) with z | z | z | z | z | z | z | z | z <;> subst z
      · rw [if_pos (show I 0 = 0 from rfl), if_pos (show I 0 = 0 from rfl), I_add, go _ (by omega)]
        exact ⟨_, _, rfl, R.thr 0, thr12 _ _, rfl⟩
      · rw [if_neg (show ¬ I 1 = 0 by decide), if_pos (show I 1 = 1 from rfl), if_neg (show ¬ I 1 = 0 by decide), if_pos (show I 1 = 1 from rfl), I_add, go _ (by omega)]
        exact ⟨_, _, rfl, R.thr 0, thr12 _ _, rfl⟩
      · simp only [show ¬ I 2 = 0 by decide, show ¬ I 2 = 1 by decide, show I 2 = 2 from rfl, if_true, if_false]
        rw [show (2 : Int32) = I 2 from rfl, I_add, go _ (by omega)]
        exact ⟨_, _, rfl, R.thr 0, thr12 _ _, rfl⟩
      · simp only [show ¬ I 3 = 0 by decide, show ¬ I 3 = 1 by decide, show ¬ I 3 = 2 by decide, show I 3 = 3 from rfl, if_true, if_false]
        rw [show (3 : Int32) = I 3 from rfl, I_add, go _ (by omega)]
        exact ⟨_, _, rfl, R.thr 0, thr12 _ _, rfl⟩
      · simp only [show ¬ I 4 = 0 by decide, show ¬ I 4 = 1 by decide, show ¬ I 4 = 2 by decide, show ¬ I 4 = 3 by decide, show I 4 = 4 from rfl, if_true, if_false]
        exact ⟨_, _, rfl, R.thr 0, thr12 _ _, rfl⟩
      · have z := s1 5 (by omega)
        simp only [show ¬ I 5 = 0 by decide, show ¬ I 5 = 1 by decide, show ¬ I 5 = 2 by decide, show ¬ I 5 = 3 by decide, show ¬ I 5 = 4 by decide, if_false]
        rw [z, if_pos (show I 5 = 5 from rfl), if_pos (show I 5 = 5 from rfl), go _ (by omega)]
        exact ⟨_, _, rfl, R.thr 0, thr12 _ _, rfl⟩
      · have z := s1 6 (by omega)
        simp only [show ¬ I 6 = 0 by decide, show ¬ I 6 = 1 by decide, show ¬ I 6 = 2 by decide, show ¬ I 6 = 3 by decide, show ¬ I 6 = 4 by decide, show ¬ I 6 = 5 by decide, if_false]
        rw [z, if_pos (show I 6 = 6 from rfl), if_pos (show I 6 = 6 from rfl), go _ (by omega)]
        exact ⟨_, _, rfl, R.thr 0, thr12 _ _, rfl⟩
      · have z := s1 7 (by omega)
        simp only [show ¬ I 7 = 0 by decide, show ¬ I 7 = 1 by decide, show ¬ I 7 = 2 by decide, show ¬ I 7 = 3 by decide, show ¬ I 7 = 4 by decide, show ¬ I 7 = 5 by decide, show ¬ I 7 = 6 by decide, if_false]
        rw [z, if_pos (show I 7 = 7 from rfl), if_pos (show I 7 = 7 from rfl), go _ (by omega)]
        exact ⟨_, _, rfl, R.thr 0, thr12 _ _, rfl⟩
      · have z := s1 8 (by omega)
        simp only [show ¬ I 8 = 0 by decide, show ¬ I 8 = 1 by decide, show ¬ I 8 = 2 by decide, show ¬ I 8 = 3 by decide, show ¬ I 8 = 4 by decide, show ¬ I 8 = 5 by decide, show ¬ I 8 = 6 by decide, show ¬ I 8 = 7 by decide, if_false]
        rw [z, if_pos (show I 8 = 8 from rfl), go _ (by omega)]
        exact ⟨_, _, rfl, R.thr 0, thr12 _ _, rfl⟩
    · have ne : ∀ j : Nat, j < 9 → ¬ w = I j := fun j hj z => by
        rw [z] at k1
        rcases k1 with k1 | k1
        · exact I_n0 (by omega) k1
        · exact nle hj (by omega) k1
      have hc : (if w < 0 then (some (Sum.inr 3, σ) : Option ((Int32 ⊕ Nat) × Mm)) else if w ≤ 8 then some (Sum.inl (numV v w (σ 199)), σ) else some (Sum.inr 3, σ)) = some (Sum.inr 3, σ) := by
        rcases k1 with k1 | k1
        · rw [if_pos k1]
        · by_cases q : w < 0
          · rw [if_pos q]
          · rw [if_neg q, if_neg (fun z => absurd (Int32.le_trans k1 z) (by decide))]
      rw [hc]
      refine ⟨_, _, rfl, ?_⟩
      rw [lt_d, n_isV hm (by rw [thr199]; exact ho.2.1.2), e, bnd_d]
      dsimp only
      rw [if_neg one_ne, n_vAt, bnd_d, if_neg (show ¬ w = 0 from ne 0 (by omega)), if_neg (show ¬ w = 1 from ne 1 (by omega)), if_neg (show ¬ w = 2 from ne 2 (by omega)), if_neg (show ¬ w = 3 from ne 3 (by omega)), if_neg (show ¬ w = 4 from ne 4 (by omega)), if_neg (show ¬ w = 5 from ne 5 (by omega)), if_neg (show ¬ w = 6 from ne 6 (by omega)), if_neg (show ¬ w = 7 from ne 7 (by omega)), if_neg (show ¬ w = 8 from ne 8 (by omega)), r_thr, bnm_d]
      exact ⟨_, _, rfl, (R.thr 0).thr 2, Or.inr ⟨rfl, thr12 _ _⟩⟩
theorem q_reason {σ : Mm} {B : Nat} (R : RR B σ) (w : Int32) : ∃ out τ, f_X9_reason w σ = some (out, τ) ∧ ∃ r ρ, f_X10_reason w τ = some (r, ρ) ∧ RR B ρ ∧ same2 out 3 2 r (ρ 198 12) := by
  obtain ⟨r1, r2, r3⟩ := R.2.2.2.2.1
  unfold f_X9_reason f_X10_reason
  have e6 : ∀ k, k ≠ 12 → (up σ 198 12 0) 198 k = σ 198 k := fun k hk => by rw [up_e, upd_n _ _ hk]
  have hin : f_X10_in w.toInt64 0 2 (up σ 198 12 0) = some (match ix w 3 with | none => 0 | some _ => 1) := n_inN (by omega) (by omega) (show (2 : Int64).toInt = ((3 : Nat) : Int) - 1 by decide)
  rcases ix_cases w (N := 3) (by omega) with ⟨k, k1, rfl, k3⟩ | ⟨k1, k3⟩
  · rw [k3] at hin
    dsimp only at hin
    rw [if_neg (I_n0 (by omega)), if_pos (show I k ≤ 2 from (I_le (b := 2) (by omega) (by omega)).mpr (by omega)), r1, r2, r3]
    by_cases q : σ 198 6 = 0
    · rw [if_pos q]
      refine ⟨_, _, rfl, ?_⟩
      rw [lt_d, hin, bnd_d, if_neg one_ne, e6 6 (by omega), if_pos q, r_thr, bnm_d]
      exact ⟨_, _, rfl, (R.thr 0).thr 2, Or.inr ⟨rfl, thr12 _ _⟩⟩
    · rw [if_neg q]
      by_cases y0 : I k = 0
      · rw [if_pos y0]
        refine ⟨_, _, rfl, ?_⟩
        rw [lt_d, hin, bnd_d, if_neg one_ne, e6 6 (by omega), if_neg q, if_pos y0]
        exact ⟨_, _, rfl, R.thr 0, thr12 _ _, rfl⟩
      · rw [if_neg y0]
        by_cases y1 : I k = 1
        · rw [if_pos y1]
          refine ⟨_, _, rfl, ?_⟩
          rw [lt_d, hin, bnd_d, if_neg one_ne, e6 6 (by omega), if_neg q, if_neg y0, if_pos y1, e6 7 (by omega)]
          exact ⟨_, _, rfl, R.thr 0, thr12 _ _, rfl⟩
        · rw [if_neg y1]
          refine ⟨_, _, rfl, ?_⟩
          rw [lt_d, hin, bnd_d, if_neg one_ne, e6 6 (by omega), if_neg q, if_neg y0, if_neg y1, e6 8 (by omega)]
          exact ⟨_, _, rfl, R.thr 0, thr12 _ _, rfl⟩
  · rw [k3] at hin
    dsimp only at hin
    have hc : ∀ x : Option ((Int32 ⊕ Nat) × Mm), (if w < 0 then (some (Sum.inr 3, σ) : Option ((Int32 ⊕ Nat) × Mm)) else if w ≤ 2 then x else some (Sum.inr 3, σ)) = some (Sum.inr 3, σ) := fun x => by
      rcases k1 with k1 | k1
      · rw [if_pos k1]
      · by_cases q : w < 0
        · rw [if_pos q]
        · rw [if_neg q, if_neg (fun z => absurd (Int32.le_trans k1 z) (by decide))]
    rw [hc]
    refine ⟨_, _, rfl, ?_⟩
    rw [lt_d, hin, bnd_d, if_pos rfl, r_thr, bnm_d]
    exact ⟨_, _, rfl, (R.thr 0).thr 1, Or.inl ⟨rfl, thr12 _ _⟩⟩
theorem q_fault {σ : Mm} {B : Nat} (R : RR B σ) : ∃ r, f_X9_faultPosition σ = some r ∧ ∃ ρ, f_X10_faultPosition σ = some (r, ρ) ∧ RR B ρ := by
  obtain ⟨L, -, -, -, -, e⟩ := R.2.2.2.2.2.1
  unfold f_X9_faultPosition f_X10_faultPosition
  refine ⟨_, rfl, up σ 198 12 0, ?_, R.thr 0⟩
  rw [lt_d, up_e, upd_n _ _ (by omega), e]
theorem nar_ch {c : Nat} (h : c < 65536) : vp_nar .char (I c) = I c := by
  show ((I c).toUInt32.toUInt16.toUInt32.toInt32) = I c
  apply Int32.toBitVec_inj.mp
  show ((BitVec.ofNat 32 c).setWidth 16).setWidth 32 = BitVec.ofNat 32 c
  apply BitVec.eq_of_toNat_eq
  simp
  omega
theorem q_append {σ : Mm} {B : Nat} (e2 : Nat) (R : RR B σ) {c : Nat} (hc : c < 65536) : ∃ out τ, f_X9_append (I c) σ = some (out, τ) ∧ ∃ r ρ, f_X10_append (I c) τ = some (r, ρ) ∧ RR B ρ ∧ same2 out 4 e2 r (ρ 198 12) := by
  obtain ⟨r1, r2, r3, r4, r5, ⟨L, t1, t2, t3, t4, t5⟩, r7⟩ := id R
  unfold f_X9_append f_X10_append
  rw [t2]
  by_cases q : L < 60
  · rw [if_pos (show I L < 60 from (I_lt (b := 60) (by omega) (by omega)).mpr q)]
    unfold f_X0_add
    rw [t2, if_neg (show ¬ (60 : Int32) ≤ I L from nle (N := 60) q (by omega)), gd_I q (by omega), I_clamp (by omega), nar_ch hc, lt_d, up_n _ _ _ (show 162 ≠ 163 by omega), t2, lt_d, bnd_d, I_a1]
    obtain ⟨τ, hτ⟩ : ∃ τ, τ = up (up σ 163 L (I c)) 162 3 (I (L + 1)) := ⟨_, rfl⟩
    rw [← hτ]
    have e1 : ∀ a, a ≠ 162 → a ≠ 163 → τ a = σ a := fun a h1 h2 => by rw [hτ, up_n _ _ _ h1, up_n _ _ _ h2]
    refine ⟨_, _, rfl, ?_⟩
    have e11 : (up τ 198 12 0) 198 11 = I L := by rw [up_e, upd_n _ _ (by omega), e1 198 (by omega) (by omega)]; exact t3
    rw [lt_d, e11, if_neg (show ¬ I L = 60 from I_beq (b := 60) (by omega) (by omega) (by omega)), gd_I q (by omega), I_clamp (by omega), lt_d, up_n _ _ _ (show 198 ≠ 203 by omega), e11, lt_d, I_a1]
    obtain ⟨ρ, hρ⟩ : ∃ ρ, ρ = up (up (up τ 198 12 0) 203 L (I c)) 198 11 (I (L + 1)) := ⟨_, rfl⟩
    rw [← hρ]
    have z : ∀ a, a ≠ 162 → a ≠ 163 → a ≠ 198 → a ≠ 203 → ρ a = σ a := fun a h1 h2 h3 h4 => by rw [hρ, up_n _ _ _ h3, up_n _ _ _ h4, up_n _ _ _ h3, e1 a h1 h2]
    have z198 : ∀ k, k ≠ 11 → k ≠ 12 → ρ 198 k = σ 198 k := fun k h1 h2 => by rw [hρ, up_e, upd_n _ _ h1, up_n _ _ _ (by omega), up_e, upd_n _ _ h2, e1 198 (by omega) (by omega)]
    have z162 : ρ 162 = τ 162 := by rw [hρ, up_n _ _ _ (by omega), up_n _ _ _ (by omega), up_n _ _ _ (by omega)]
    have z199 : ρ 199 = σ 199 := z 199 (by omega) (by omega) (by omega) (by omega)
    have ea : τ 162 3 = I (L + 1) := by rw [hτ, up_e, upd_e]
    have eb : ρ 198 11 = I (L + 1) := by rw [hρ, up_e, upd_e]
    refine ⟨_, _, rfl, ⟨?_, ?_, ?_, ?_, ?_, ?_, ?_⟩, by rw [hρ, up_e, upd_n _ _ (by omega), up_n _ _ _ (by omega), up_e, upd_e], by rw [eb, ea]⟩
    · rw [z199]; exact r1.move (fun a _ h => z a (by omega) (by omega) (by omega) (by omega))
    · rw [z199]; exact r2
    · exact r3.move (fun a h1 h2 => z a (by omega) (by omega) (by omega) (by omega)) (z 155 (by omega) (by omega) (by omega) (by omega)) (z198 5 (by omega) (by omega)) (z 202 (by omega) (by omega) (by omega) (by omega))
    · exact r4.move (fun a h1 h2 => z a (by omega) (by omega) (by omega) (by omega)) (z 154 (by omega) (by omega) (by omega) (by omega)) (z198 3 (by omega) (by omega)) (z 201 (by omega) (by omega) (by omega) (by omega))
    · unfold refu
      rw [z 157 (by omega) (by omega) (by omega) (by omega), z198 6 (by omega) (by omega), z198 7 (by omega) (by omega), z198 8 (by omega) (by omega)]
      exact r5
    · refine ⟨L + 1, by omega, by rw [z162]; exact ea, eb, fun j hj => ?_, ?_⟩
      · have p1 : ρ 163 = upd (σ 163) L (I c) := by rw [hρ, up_n _ _ _ (by omega), up_n _ _ _ (by omega), up_n _ _ _ (by omega), hτ, up_n _ _ _ (by omega), up_e]
        have p2 : ρ 203 = upd (σ 203) L (I c) := by rw [hρ, up_n _ _ _ (by omega), up_e, up_n _ _ _ (by omega), e1 203 (by omega) (by omega)]
        rw [p1, p2]
        by_cases e : j = L
        · subst e; rw [upd_e, upd_e]; exact ⟨rfl, c, hc, rfl⟩
        · rw [upd_n _ _ e, upd_n _ _ e]; exact t4 j (by omega)
      · rw [z162, z198 9 (by omega) (by omega), hτ, up_e, upd_n _ _ (by omega), up_n _ _ _ (by omega)]; exact t5
    · exact r7.move (z 196 (by omega) (by omega) (by omega) (by omega)) (z 197 (by omega) (by omega) (by omega) (by omega)) (z 206 (by omega) (by omega) (by omega) (by omega)) (z198 20 (by omega) (by omega))
  · have e : L = 60 := by omega
    subst e
    rw [if_neg (show ¬ I 60 < 60 by decide)]
    refine ⟨_, _, rfl, ?_⟩
    have e11 : (up σ 198 12 0) 198 11 = I 60 := by rw [up_e, upd_n _ _ (by omega)]; exact t3
    rw [lt_d, e11, if_pos (show I 60 = 60 from rfl), r_thr, bnm_d]
    exact ⟨_, _, rfl, (R.thr 0).thr 1, Or.inl ⟨rfl, thr12 _ _⟩⟩
/-! save, restore, undo -/
theorem q_save {σ : Mm} {B : Nat} (R : RR B σ) : ∃ r τ, f_X9_save σ = some (r, τ) ∧ ∃ ρ, f_X10_save τ = some (r, ρ) ∧ RR B ρ := by
  obtain ⟨r1, r2, r3, r4, r5, r6, r7⟩ := id R
  obtain ⟨f, hf⟩ : ∃ f, f = σ 199 := ⟨_, rfl⟩
  rw [← hf] at r1 r2
  obtain ⟨σ1, a1, a2, a3⟩ := c_copy (i := 28) (o := 0) (by omega) r1 r2
  unfold f_X9_save f_X10_save
  rw [a1, bnd_d, lt_d, up_n _ _ _ (show 0 ≠ 154 by omega), a3 0 (by omega), show σ 0 4 = f 1 from r1.get0 (k := 1) (by omega)]
  obtain ⟨τ, hτ⟩ : ∃ τ, τ = up σ1 154 3 1 := ⟨_, rfl⟩
  rw [← hτ]
  have e : ∀ a, a < 28 ∨ 42 ≤ a → a ≠ 154 → τ a = σ a := fun a h1 h2 => by rw [hτ, up_n _ _ _ h2, a3 a (by omega)]
  refine ⟨_, _, rfl, ?_⟩
  rw [lt_d]
  obtain ⟨σ2, b1, b2, b3⟩ := r_copy (σ0 := up τ 198 12 0) (F := f_X10_save_l7) (K := fun σ6 => lt (up σ6 198 3 1) fun σ8 => some ((σ8 199 1), σ8)) (p := 201) (q := 199) (o := 0) (by omega) (fun n v g _ => by
    rw [f_X10_save_l7]
    by_cases q : (86 : Int32) ≤ v
    · rw [if_pos q, if_pos q]
    · rw [if_neg q, if_neg q, Nat.zero_add]
      unfold gd
      by_cases w : v < 0 ∨ 86 ≤ v.toNatClampNeg
      · rw [if_pos w, if_pos w]
      · rw [if_neg w, if_neg w])
  rw [b1, lt_d]
  obtain ⟨ρ, hρ⟩ : ∃ ρ, ρ = up σ2 198 3 1 := ⟨_, rfl⟩
  rw [← hρ]
  have z : ∀ a, a < 28 ∨ 42 ≤ a → a ≠ 154 → a ≠ 198 → a ≠ 201 → ρ a = σ a := fun a h1 h2 h3 h4 => by rw [hρ, up_n _ _ _ h3, b3 a h4, up_n _ _ _ h3, e a h1 h2]
  have z198 : ∀ k, k ≠ 3 → k ≠ 12 → ρ 198 k = σ 198 k := fun k h1 h2 => by rw [hρ, up_e, upd_n _ _ h1, b3 198 (by omega), up_e, upd_n _ _ h2, e 198 (by omega) (by omega)]
  have z199 : ρ 199 = f := by rw [z 199 (by omega) (by omega) (by omega) (by omega), hf]
  refine ⟨ρ, by rw [z199], ⟨?_, ?_, ?_, ?_, ?_, ?_, ?_⟩⟩
  · rw [z199]; exact r1.move (fun a _ h => z a (by omega) (by omega) (by omega) (by omega))
  · rw [z199]; exact r2
  · exact r3.move (fun a h1 h2 => z a (by omega) (by omega) (by omega) (by omega)) (z 155 (by omega) (by omega) (by omega) (by omega)) (z198 5 (by omega) (by omega)) (z 202 (by omega) (by omega) (by omega) (by omega))
  · refine Or.inr ⟨?_, by rw [hρ, up_e, upd_e], f, r2, ?_, fun k hk => ?_⟩
    · rw [hρ, up_n _ _ _ (by omega), b3 154 (by omega), up_n _ _ _ (by omega), hτ, up_e, upd_e]
    · exact a2.move (fun a h1 h2 => by rw [hρ, up_n _ _ _ (by omega), b3 a (by omega), up_n _ _ _ (by omega), hτ, up_n _ _ _ (by omega)])
    · rw [hρ, up_n _ _ _ (by omega), b2 k hk, up_n _ _ _ (by omega), e 199 (by omega) (by omega), Nat.zero_add, hf]
  · unfold refu
    rw [z 157 (by omega) (by omega) (by omega) (by omega), z198 6 (by omega) (by omega), z198 7 (by omega) (by omega), z198 8 (by omega) (by omega)]
    exact r5
  · exact r6.move (by rw [z 162 (by omega) (by omega) (by omega) (by omega)]) (by rw [z 162 (by omega) (by omega) (by omega) (by omega)]) (z 163 (by omega) (by omega) (by omega) (by omega)) (z 203 (by omega) (by omega) (by omega) (by omega)) (z198 11 (by omega) (by omega)) (z198 9 (by omega) (by omega))
  · exact r7.move (z 196 (by omega) (by omega) (by omega) (by omega)) (z 197 (by omega) (by omega) (by omega) (by omega)) (z 206 (by omega) (by omega) (by omega) (by omega)) (z198 20 (by omega) (by omega))
theorem q_restore {σ : Mm} {B : Nat} (e2 : Nat) (R : RR B σ) : ∃ out τ, f_X9_restore σ = some (out, τ) ∧ ∃ r ρ, f_X10_restore τ = some (r, ρ) ∧ RR B ρ ∧ same2 out 4 e2 r (ρ 198 12) := by
  obtain ⟨r1, r2, ⟨n, l, n1, n2, n3, n4, n5, n6⟩, r4, r5, r6, r7⟩ := id R
  unfold f_X9_restore f_X10_restore
  rcases r4 with ⟨a, b⟩ | ⟨a, b, f, g1, g2, g3⟩
  · rw [if_pos a]
    refine ⟨_, _, rfl, ?_⟩
    rw [lt_d, up_e, upd_n _ _ (by omega), if_pos b, r_thr, bnm_d]
    exact ⟨_, _, rfl, (R.thr 0).thr 1, Or.inl ⟨rfl, thr12 _ _⟩⟩
  · rw [if_neg (by rw [a]; decide)]
    obtain ⟨σ1, a1, a2, a3⟩ := c_copy (i := 0) (o := 28) (by omega) g2 g1
    unfold f_X2_forget
    rw [a1, bnd_d, lt_d, bnd_d]
    obtain ⟨τ, hτ⟩ : ∃ τ, τ = up σ1 155 2 0 := ⟨_, rfl⟩
    rw [← hτ]
    have e : ∀ a, 14 ≤ a → a ≠ 155 → τ a = σ a := fun a h1 h2 => by rw [hτ, up_n _ _ _ h2, a3 a (by omega)]
    have rτ : rep 0 τ f := a2.move (fun a _ h => by rw [hτ, up_n _ _ _ (by omega)])
    rw [show τ 0 4 = f 1 from rτ.get0 (k := 1) (by omega)]
    refine ⟨_, _, rfl, ?_⟩
    rw [lt_d, up_e, upd_n _ _ (by omega), e 198 (by omega) (by omega), if_neg (by rw [b]; decide)]
    obtain ⟨σ2, b1, b2, b3⟩ := r_copy (σ0 := up τ 198 12 0) (F := f_X10_restore_l20) (K := fun σ6 => lt (up σ6 198 5 0) fun σ8 => some ((σ8 199 1), σ8)) (p := 199) (q := 201) (o := 0) (by omega) (fun n v g _ => by
      rw [f_X10_restore_l20]
      by_cases q : (86 : Int32) ≤ v
      · rw [if_pos q, if_pos q]
      · rw [if_neg q, if_neg q, Nat.zero_add]
        unfold gd
        by_cases w : v < 0 ∨ 86 ≤ v.toNatClampNeg
        · rw [if_pos w, if_pos w]
        · rw [if_neg w, if_neg w])
    rw [b1, lt_d]
    obtain ⟨ρ, hρ⟩ : ∃ ρ, ρ = up σ2 198 5 0 := ⟨_, rfl⟩
    rw [← hρ]
    have z : ∀ a, 14 ≤ a → a ≠ 155 → a ≠ 198 → a ≠ 199 → ρ a = σ a := fun a h1 h2 h3 h4 => by rw [hρ, up_n _ _ _ h3, b3 a h4, up_n _ _ _ h3, e a h1 h2]
    have z198 : ∀ k, k ≠ 5 → k ≠ 12 → ρ 198 k = σ 198 k := fun k h1 h2 => by rw [hρ, up_e, upd_n _ _ h1, b3 198 (by omega), up_e, upd_n _ _ h2, e 198 (by omega) (by omega)]
    have z199 : ∀ k, k < 86 → ρ 199 k = f k := fun k hk => by rw [hρ, up_n _ _ _ (by omega), b2 k hk, up_n _ _ _ (by omega), e 201 (by omega) (by omega), Nat.zero_add, g3 k hk]
    refine ⟨_, _, rfl, ⟨?_, ?_, ?_, ?_, ?_, ?_, ?_⟩, by rw [hρ, up_e, upd_n _ _ (by omega), b3 198 (by omega), up_e, upd_e], z199 1 (by omega)⟩
    · exact (rτ.move (fun a _ h => by rw [hρ, up_n _ _ _ (by omega), b3 a (by omega), up_n _ _ _ (by omega)])).ext (fun k hk => (z199 k hk).symm)
    · exact g1.ext (fun k hk => (z199 k hk).symm)
    · refine ⟨0, l, by omega, n2, ?_, ?_, by rw [hρ, up_e, upd_e]; rfl, fun k hk => by omega⟩
      · rw [hρ, up_n _ _ _ (by omega), b3 155 (by omega), up_n _ _ _ (by omega), hτ, up_e, upd_n _ _ (by omega), a3 155 (by omega)]; exact n3
      · rw [hρ, up_n _ _ _ (by omega), b3 155 (by omega), up_n _ _ _ (by omega), hτ, up_e, upd_e]; rfl
    · refine Or.inr ⟨by rw [z 154 (by omega) (by omega) (by omega) (by omega)]; exact a, by rw [z198 3 (by omega) (by omega)]; exact b, f, g1, g2.move (fun a h1 h2 => z a (by omega) (by omega) (by omega) (by omega)), fun k hk => by rw [z 201 (by omega) (by omega) (by omega) (by omega)]; exact g3 k hk⟩
    · unfold refu
      rw [z 157 (by omega) (by omega) (by omega) (by omega), z198 6 (by omega) (by omega), z198 7 (by omega) (by omega), z198 8 (by omega) (by omega)]
      exact r5
    · exact r6.move (by rw [z 162 (by omega) (by omega) (by omega) (by omega)]) (by rw [z 162 (by omega) (by omega) (by omega) (by omega)]) (z 163 (by omega) (by omega) (by omega) (by omega)) (z 203 (by omega) (by omega) (by omega) (by omega)) (z198 11 (by omega) (by omega)) (z198 9 (by omega) (by omega))
    · exact r7.move (z 196 (by omega) (by omega) (by omega) (by omega)) (z 197 (by omega) (by omega) (by omega) (by omega)) (z 206 (by omega) (by omega) (by omega) (by omega)) (z198 20 (by omega) (by omega))
theorem q_undo {σ : Mm} {B : Nat} (e2 : Nat) (R : RR B σ) : ∃ out τ, f_X9_undo σ = some (out, τ) ∧ ∃ r ρ, f_X10_undo τ = some (r, ρ) ∧ RR B ρ ∧ same2 out 4 e2 r (ρ 198 12) := by
  obtain ⟨r1, r2, ⟨n, l, n1, n2, n3, n4, n5, n6⟩, r4, r5, r6, r7⟩ := id R
  unfold f_X9_undo f_X10_undo
  rw [n4]
  by_cases q : n = 0
  · subst q
    rw [if_pos (show I 0 = 0 from rfl)]
    refine ⟨_, _, rfl, ?_⟩
    rw [lt_d, up_e, upd_n _ _ (by omega), n5, if_pos (show I 0 = 0 from rfl), r_thr, bnm_d]
    exact ⟨_, _, rfl, (R.thr 0).thr 1, Or.inl ⟨rfl, thr12 _ _⟩⟩
  · have ne : ¬ I n = 0 := I_beq (b := 0) (by omega) (by omega) q
    rw [if_neg ne]
    obtain ⟨f, g1, g2, g3⟩ := n6 0 (by omega)
    rw [show (l + 8 - 0) % 8 = l by omega] at g2
    obtain ⟨τ, a1, a2, a3, a4, a5⟩ := m_back n1 (by omega) n2 n3 n4 g2 g1
    rw [a1, bnd_d, a3]
    refine ⟨_, _, rfl, ?_⟩
    have e198 : τ 198 = σ 198 := a5 198 (by omega) (by omega)
    rw [lt_d, up_e, upd_n _ _ (by omega), e198, n5, if_neg ne, show I n - 1 = I (n - 1) from I_sub (b := 1) (by omega), lt_d]
    obtain ⟨σ0, hσ0⟩ : ∃ σ0, σ0 = up (up τ 198 12 0) 198 5 (I (n - 1)) := ⟨_, rfl⟩
    rw [← hσ0]
    have s5 : σ0 198 5 = I (n - 1) := by rw [hσ0, up_e, upd_e]
    obtain ⟨ρ, b1, b2, b3⟩ := r_copy (σ0 := σ0) (F := f_X10_undo_l30) (K := fun σ6 => some ((σ6 198 5), σ6)) (p := 199) (q := 202) (o := 86 * (n - 1)) (by omega) (fun m v g hg => by
      rw [f_X10_undo_l30, hg 198 (by omega), s5]
      by_cases q : (86 : Int32) ≤ v
      · rw [if_pos q, if_pos q]
      · rw [if_neg q, if_neg q]
        rcases ix_cases v (N := 86) (by omega) with ⟨k, k1, rfl, -⟩ | ⟨k1, -⟩
        · rw [show (86 : Int32) * I (n - 1) = I (86 * (n - 1)) from I_mul 86 (n - 1), I_add, gd_I (show 86 * (n - 1) + k < 688 by omega) (by omega), gd_I k1 (by omega), gd_I k1 (by omega), I_clamp (by omega), I_clamp (by omega)]
        · have w : v < 0 := k1.resolve_right q
          have e : ∀ x : Option (Int32 × Mm), gd v 86 x = none := fun x => by unfold gd; rw [if_pos (Or.inl w)]
          rw [e, e]
          unfold gd
          split <;> rfl)
    rw [b1]
    have z : ∀ a, 14 ≤ a → a ≠ 155 → a ≠ 198 → a ≠ 199 → ρ a = σ a := fun a h1 h2 h3 h4 => by rw [b3 a h4, hσ0, up_n _ _ _ h3, up_n _ _ _ h3, a5 a h2 h1]
    have z198 : ∀ k, k ≠ 5 → k ≠ 12 → ρ 198 k = σ 198 k := fun k h1 h2 => by rw [b3 198 (by omega), hσ0, up_e, upd_n _ _ h1, up_e, upd_n _ _ h2, e198]
    have z199 : ∀ k, k < 86 → ρ 199 k = f k := fun k hk => by
      rw [b2 k hk, hσ0, up_n _ _ _ (by omega), up_n _ _ _ (by omega), a5 202 (by omega) (by omega)]
      have := g3 k hk
      rwa [Nat.sub_zero] at this
    have e5 : ρ 198 5 = I (n - 1) := by rw [b3 198 (by omega), s5]
    have hb : (l + 7) % 8 < 8 := Nat.mod_lt _ (by omega)
    refine ⟨_, _, rfl, ⟨?_, ?_, ?_, ?_, ?_, ?_, ?_⟩, by rw [b3 198 (by omega), hσ0, up_e, upd_n _ _ (by omega), up_e, upd_e], e5⟩
    · exact (a4.move (fun a _ h => by rw [b3 a (by omega), hσ0, up_n _ _ _ (by omega), up_n _ _ _ (by omega)])).ext (fun k hk => (z199 k hk).symm)
    · exact g1.ext (fun k hk => (z199 k hk).symm)
    · have e155 : ρ 155 = τ 155 := by rw [b3 155 (by omega), hσ0, up_n _ _ _ (by omega), up_n _ _ _ (by omega)]
      refine ⟨n - 1, (l + 7) % 8, by omega, hb, by rw [e155]; exact a2, by rw [e155]; exact a3, e5, fun k hk => ?_⟩
      obtain ⟨h, h1, h2, h3⟩ := n6 (k + 1) (by omega)
      refine ⟨h, h1, ?_, fun j hj => ?_⟩
      · rw [show ((l + 7) % 8 + 8 - k) % 8 = (l + 8 - (k + 1)) % 8 by omega]
        exact h2.move (fun a g1 g2 => z a (by omega) (by omega) (by omega) (by omega))
      · rw [z 202 (by omega) (by omega) (by omega) (by omega), show n - 1 - 1 - k = n - 1 - (k + 1) by omega]; exact h3 j hj
    · exact r4.move (fun a h1 h2 => z a (by omega) (by omega) (by omega) (by omega)) (z 154 (by omega) (by omega) (by omega) (by omega)) (z198 3 (by omega) (by omega)) (z 201 (by omega) (by omega) (by omega) (by omega))
    · unfold refu
      rw [z 157 (by omega) (by omega) (by omega) (by omega), z198 6 (by omega) (by omega), z198 7 (by omega) (by omega), z198 8 (by omega) (by omega)]
      exact r5
    · exact r6.move (by rw [z 162 (by omega) (by omega) (by omega) (by omega)]) (by rw [z 162 (by omega) (by omega) (by omega) (by omega)]) (z 163 (by omega) (by omega) (by omega) (by omega)) (z 203 (by omega) (by omega) (by omega) (by omega)) (z198 11 (by omega) (by omega)) (z198 9 (by omega) (by omega))
    · exact r7.move (z 196 (by omega) (by omega) (by omega) (by omega)) (z 197 (by omega) (by omega) (by omega) (by omega)) (z 206 (by omega) (by omega) (by omega) (by omega)) (z198 20 (by omega) (by omega))
