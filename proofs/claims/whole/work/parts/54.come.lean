/-! SUMMERS, the MINOTAUR, VISITORS who come -/
def gN (f : Fm) : Nat → Nat
  | 0 => 0
  | n + 1 => gN f n + if (5 : Int32) ≤ f (6 + n) then 0 else 1
theorem gN_S (f : Fm) (n : Nat) : gN f (n + 1) = gN f n + if (5 : Int32) ≤ f (6 + n) then 0 else 1 := rfl
theorem gN_le (f : Fm) (n : Nat) : gN f n ≤ n := by
  induction n with
  | zero => exact Nat.le_refl _
  | succ n ih => rw [gN_S]; split <;> omega
theorem gN_congr {f g : Fm} {n : Nat} (h : ∀ k, k < n → f (6 + k) = g (6 + k)) : gN f n = gN g n := by
  induction n with
  | zero => rfl
  | succ n ih => rw [gN_S, gN_S, ih (fun k hk => h k (by omega)), h n (by omega)]
theorem c_gaps {σ : Mm} {f : Fm} (h : rep 0 σ f) : f_X4_gaps σ = some (I (gN f 24)) := by
  obtain ⟨g, q1, q2⟩ := loopI (fun n v g => f_X4_gaps_l4 σ n v g) (fun g => some g) 24 (fun v (g : Int32) => g = I (gN f v)) (by
      intro n g _
      rw [f_X4_gaps_l4, if_pos (show (24 : Int32) ≤ I 24 by decide)]) (by
      intro n v g hv hi
      have e1 : I v + 1 = I (v + 1) := I_add v 1
      subst hi
      refine ⟨I (gN f (v + 1)), ?_, rfl⟩
      rw [f_X4_gaps_l4, if_neg (show ¬ (24 : Int32) ≤ I v from nle (N := 24) hv (by omega)), m_open hv, bnd_d, h.getL hv]
      rw [gN_S]
      by_cases q : (5 : Int32) ≤ f (6 + v)
      · rw [if_pos q, if_pos rfl, lt_d, e1, if_pos q]; rfl
      · rw [if_neg q, if_neg one_ne, lt_d, lt_d, e1, if_neg q, I_a1]) 24 0 30 0 rfl (by omega) rfl
  unfold f_X4_gaps
  rw [← q2]; exact q1
theorem r_gaps {σ : Mm} : f_X10_gaps σ = some (I (gN (σ 199) 24)) := by
  obtain ⟨g, q1, q2⟩ := loopI (fun n v g => f_X10_gaps_l4 σ n v g) (fun g => some g) 24 (fun v (g : Int32) => g = I (gN (σ 199) v)) (by
      intro n g _
      rw [f_X10_gaps_l4, if_pos (show (24 : Int32) ≤ I 24 by decide)]) (by
      intro n v g hv hi
      have e1 : I v + 1 = I (v + 1) := I_add v 1
      subst hi
      refine ⟨I (gN (σ 199) (v + 1)), ?_, rfl⟩
      rw [f_X10_gaps_l4, if_neg (show ¬ (24 : Int32) ≤ I v from nle (N := 24) hv (by omega)), show (6 : Int32) + I v = I (6 + v) from I_add 6 v, n_gap hv, bnd_d]
      rw [gN_S]
      by_cases q : (5 : Int32) ≤ σ 199 (6 + v)
      · have hg : ¬ gapR σ v = true := by unfold gapR; simp [q]
        rw [if_neg hg, if_pos rfl, Int32.add_zero, lt_d, lt_d, e1, if_pos q]; rfl
      · have hg : gapR σ v = true := by unfold gapR; simp [q]
        rw [if_pos hg, if_neg one_ne, lt_d, lt_d, e1, if_neg q, I_a1]) 24 0 30 0 rfl (by omega) rfl
  unfold f_X10_gaps
  rw [← q2]; exact q1
def gro (x : Int32) : Int32 := if x + 1 < 9 then x + 1 else 9
def growF (f : Fm) (n : Nat) : Fm := fun k => if 6 ≤ k ∧ k < 6 + n then gro (f k) else f k
theorem growF_S (f : Fm) (n : Nat) : growF f (n + 1) = upd (growF f n) (6 + n) (gro (f (6 + n))) := by
  funext k
  unfold growF upd
  by_cases e : k = 6 + n
  · subst e; rw [if_pos (by omega), if_pos rfl]
  · rw [if_neg e]
    dsimp only
    by_cases w : 6 ≤ k ∧ k < 6 + n
    · rw [if_pos w, if_pos (by omega)]
    · rw [if_neg w, if_neg (by omega)]
theorem growF_at (f : Fm) (n : Nat) : growF f n (6 + n) = f (6 + n) := by unfold growF; rw [if_neg (by omega)]
theorem c_grow {σ : Mm} {f : Fm} (h : rep 0 σ f) : ∃ τ, f_X4_grow σ = some τ ∧ rep 0 τ (growF f 24) ∧ ∀ i, i ≠ 2 → τ i = σ i := by
  obtain ⟨g, q1, q2, q3⟩ := loopI (fun n v g => f_X4_grow_l2 n v g) (fun g => some g) 24 (fun v (g : Mm) => rep 0 g (growF f v) ∧ ∀ i, i ≠ 2 → g i = σ i) (by
      intro n g _
      rw [f_X4_grow_l2, if_pos (show (24 : Int32) ≤ I 24 by decide)]) (by
      intro n v g hv hi
      have e1 : I v + 1 = I (v + 1) := I_add v 1
      refine ⟨up g 2 v (gro (f (6 + v))), ?_, ?_, fun i hi2 => by rw [up_n _ _ _ hi2]; exact hi.2 i hi2⟩
      · rw [f_X4_grow_l2, if_neg (show ¬ (24 : Int32) ≤ I v from nle (N := 24) hv (by omega)), gd_I hv (by omega), gd_I hv (by omega), I_clamp (by omega), hi.1.getL hv, growF_at, lt_d, lt_d, e1]; rfl
      · rw [growF_S]; exact hi.1.leaf hv _) 24 0 30 σ rfl (by omega) ⟨rep.ext h (fun k hk => by unfold growF; rw [if_neg (by omega)]), fun _ _ => rfl⟩
  exact ⟨g, q1, q2, q3⟩
def S_summer (f : Fm) : Rs := yes (I (gN f 24) - I (gN (growF f 24) 24)) (upd (growF f 24) 3 (f 3 + 1))
theorem gro_I {l : Nat} (h : l ≤ 9) : ∃ k, k ≤ 9 ∧ gro (I l) = I k ∧ (5 ≤ l → 5 ≤ k) := by
  unfold gro
  rw [I_a1]
  by_cases q : l + 1 < 9
  · rw [if_pos (show I (l + 1) < 9 from (I_lt (b := 9) (by omega) (by omega)).mpr q)]; exact ⟨l + 1, by omega, rfl, by omega⟩
  · rw [if_neg (show ¬ I (l + 1) < 9 from fun z => q ((I_lt (b := 9) (by omega) (by omega)).mp z))]; exact ⟨9, by omega, rfl, by omega⟩
theorem gN_grow {f : Fm} (h : ∀ k, k < 24 → ∃ l, l ≤ 9 ∧ f (6 + k) = I l) (n : Nat) (hn : n ≤ 24) : gN (growF f 24) n ≤ gN f n := by
  induction n with
  | zero => exact Nat.le_refl _
  | succ n ih =>
    have := ih (by omega)
    obtain ⟨l, l1, l2⟩ := h n (by omega)
    obtain ⟨k, k1, k2, k3⟩ := gro_I l1
    have e : growF f 24 (6 + n) = I k := by unfold growF; rw [if_pos (by omega), l2, k2]
    rw [gN_S, gN_S, e, l2]
    by_cases q : 5 ≤ l
    · rw [if_pos (show (5 : Int32) ≤ I k from (I_le (a := 5) (by omega) (by omega)).mpr (k3 q)), if_pos (show (5 : Int32) ≤ I l from (I_le (a := 5) (by omega) (by omega)).mpr q)]; omega
    · rw [if_neg (show ¬ (5 : Int32) ≤ I l from fun z => q ((I_le (a := 5) (by omega) (by omega)).mp z))]
      split <;> omega
theorem c_summer {σ : Mm} {f : Fm} {B : Nat} (h : rep 0 σ f) (ho : ok B f) : cOk σ (f_X3_passSummer σ) (S_summer f) := by
  obtain ⟨n, m, ⟨a1, a2⟩, ⟨b1, b2⟩, hc, hd, hv, mi, le, mo⟩ := ho
  obtain ⟨τ, t1, t2, t3⟩ := c_grow h
  unfold f_X3_passSummer S_summer
  have h6 : τ 0 6 = f 3 := (t2.get0 (k := 3) (by omega)).trans (by unfold growF; rw [if_neg (by omega)])
  have r := t2.top (k := 3) (by omega) (by omega) (f 3 + 1)
  rw [c_gaps h, bnd_d, t1, bnd_d, h6, lt_d, c_gaps r, bnd_d]
  refine ⟨_, rfl, ?_, r, fun i hi _ _ => by rw [up_n _ _ _ (by omega), t3 i (by omega)]⟩
  rw [I_sub (gN_grow le 24 (by omega))]
  exact nm1 (by have := gN_le f 24; omega)
theorem r_summer {σ : Mm} : rOk σ (f_X10_summerIt σ) (S_summer (σ 199)) := by
  unfold f_X10_summerIt S_summer
  rw [r_gaps, bnd_d]
  obtain ⟨g, q1, q2, q3⟩ := loopI (fun n v g => f_X10_summerIt_l7 (I (gN (σ 199) 24)) n v g) (fun g => lt (up g 199 3 ((g 199 3) + 1)) fun σ8 => bnd (f_X10_gaps σ8) fun q9 => some ((I (gN (σ 199) 24) - q9), σ8)) 24 (fun v (g : Mm) => g 199 = growF (σ 199) v ∧ ∀ i, i ≠ 199 → g i = σ i) (by
      intro n g _
      rw [f_X10_summerIt_l7, if_pos (show (24 : Int32) ≤ I 24 by decide)]) (by
      intro n v g hv hi
      have e1 : I v + 1 = I (v + 1) := I_add v 1
      refine ⟨up g 199 (6 + v) (gro (σ 199 (6 + v))), ?_, ?_, fun i hi2 => by rw [up_n _ _ _ hi2]; exact hi.2 i hi2⟩
      · rw [f_X10_summerIt_l7, if_neg (show ¬ (24 : Int32) ≤ I v from nle (N := 24) hv (by omega)), show (6 : Int32) + I v = I (6 + v) from I_add 6 v, gd_I (by omega) (by omega), gd_I (by omega) (by omega), I_clamp (by omega), hi.1, growF_at, lt_d, lt_d, e1]; rfl
      · rw [up_e, hi.1, growF_S]) 24 0 30 σ rfl (by omega) ⟨by funext k; unfold growF; rw [if_neg (by omega)], fun _ _ => rfl⟩
  rw [show f_X10_summerIt_l7 (I (gN (σ 199) 24)) 30 0 σ = _ from q1, lt_d, r_gaps, bnd_d, up_e, q2]
  refine ⟨_, by rw [gN_congr (f := upd (growF (σ 199) 24) 3 _) (g := growF (σ 199) 24) (fun k _ => upd_n _ _ (by omega))], ?_, fun i hi _ => by rw [up_n _ _ _ hi, q3 i hi]⟩
  rw [up_e, q2]
  unfold growF
  rw [if_neg (by omega)]
theorem ok_summer {B : Nat} {f g : Fm} {r : Int32} (ho : ok B f) (h : S_summer f = .inl (r, g)) : ok (B + 9) g := by
  obtain ⟨n, m, ⟨a1, a2⟩, ⟨b1, b2⟩, hc, hd, hv, mi, le, mo⟩ := ho
  cases h
  have e : ∀ k, k < 86 → ¬ (6 ≤ k ∧ k < 30) → k ≠ 3 → upd (growF f 24) 3 (f 3 + 1) k = f k := fun k hk h1 h2 => by rw [upd_n _ _ h2]; unfold growF; rw [if_neg h1]
  refine ⟨n, m, ⟨a1, by rw [e 0 (by omega) (by omega) (by omega)]; exact a2⟩, ⟨b1, by rw [e 1 (by omega) (by omega) (by omega)]; exact b2⟩, fun j h1 h2 k hk => by rw [e _ (by omega) (by omega) (by omega)]; exact hc j h1 h2 k hk, fun j h1 h2 k hk => by rw [e _ (by omega) (by omega) (by omega)]; exact hd j h1 h2 k hk, fun j hj => ((hv j hj).mono (by omega) (Nat.le_refl _)).same (fun k h1 h2 => e _ (by omega) (by omega) (by omega)), by rw [e 2 (by omega) (by omega) (by omega)]; exact mi, fun j hj => ?_, mo.same (fun j hj => e _ (by omega) (by omega) (by omega)) (fun j hj => e _ (by omega) (by omega) (by omega))⟩
  obtain ⟨l, l1, l2⟩ := le j hj
  obtain ⟨k, k1, k2, -⟩ := gro_I l1
  refine ⟨k, k1, ?_⟩
  rw [upd_n _ _ (by omega)]
  unfold growF
  rw [if_pos (by omega), l2, k2]
/-! the minotaur -/
/-- who is in a cell -/
def cN (f : Fm) (c : Int32) : Nat → Nat
  | 0 => 0
  | k + 1 => cN f c k + if f (46 + 8 * k + 7) = 0 ∧ f (46 + 8 * k + 1) = c then 1 else 0
theorem cN_S (f : Fm) (c : Int32) (k : Nat) : cN f c (k + 1) = cN f c k + if f (46 + 8 * k + 7) = 0 ∧ f (46 + 8 * k + 1) = c then 1 else 0 := rfl
theorem cN_le (f : Fm) (c : Int32) (n : Nat) : cN f c n ≤ n := by
  induction n with
  | zero => exact Nat.le_refl _
  | succ n ih => rw [cN_S]; split <;> omega
theorem cN_congr {f g : Fm} {c : Int32} {n : Nat} (h : ∀ k, k < n → f (46 + 8 * k + 7) = g (46 + 8 * k + 7) ∧ f (46 + 8 * k + 1) = g (46 + 8 * k + 1)) : cN f c n = cN g c n := by
  induction n with
  | zero => rfl
  | succ n ih => rw [cN_S, cN_S, ih (fun k hk => h k (by omega)), (h n (by omega)).1, (h n (by omega)).2]
theorem c_in {σ : Mm} {f : Fm} {m : Nat} (h : rep 0 σ f) (b1 : m ≤ 5) (b2 : f 1 = I m) (c : Int32) : f_X6_visitorsIn c σ = some (I (cN f c m)) := by
  obtain ⟨g, q1, q2⟩ := loopI (fun n v g => f_X6_visitorsIn_l4 c σ n v g) (fun g => some g) m (fun v (g : Int32) => g = I (cN f c v)) (by
      intro n g _
      rw [f_X6_visitorsIn_l4, show σ 0 4 = I m from (h.get0 (k := 1) (by omega)).trans b2, if_pos ((I_le (by omega) (by omega)).mpr (Nat.le_refl _))]) (by
      intro n v g hv hi
      have e1 : I v + 1 = I (v + 1) := I_add v 1
      subst hi
      refine ⟨I (cN f c (v + 1)), ?_, rfl⟩
      rw [f_X6_visitorsIn_l4, show σ 0 4 = I m from (h.get0 (k := 1) (by omega)).trans b2, if_neg (nle hv (by omega)), gd_I (by omega) (by omega), I_clamp (by omega), show 8 + 1 + v = 9 + v by omega, m_isIn h (by omega) (hfI b2 b1 hv), bnd_d]
      rw [cN_S]
      by_cases q : f (46 + 8 * v + 7) = 0 ∧ f (46 + 8 * v + 1) = c
      · rw [if_pos q, if_neg one_ne, if_pos q, lt_d, lt_d, e1, I_a1]
      · rw [if_neg q, if_pos rfl, if_neg q, lt_d, e1]; rfl) m 0 8 0 (by omega) (by omega) rfl
  unfold f_X6_visitorsIn
  rw [← q2]; exact q1
/-- those before n meet him -/
def mF (f : Fm) : Nat → Fm
  | 0 => f
  | n + 1 => upd (mF f n) (46 + 8 * n + 6) (if (f (46 + 8 * n + 7) = 0 ∧ f (46 + 8 * n + 1) = f 2) ∧ ¬ f (46 + 8 * n + 5) ≤ 0 then 1 else f (46 + 8 * n + 6))
theorem mF_ne (f : Fm) (n k : Nat) (h : ∀ v, v < n → k ≠ 46 + 8 * v + 6) : mF f n k = f k := by
  induction n with
  | zero => rfl
  | succ n ih => unfold mF; rw [upd_n _ _ (h n (by omega)), ih (fun v hv => h v (by omega))]
theorem mF_okV {B n m : Nat} {f : Fm} (hv : ∀ v, v < m → okV B n f v) (k : Nat) (hk : k ≤ m) : ∀ v, v < m → okV B n (mF f k) v := by
  induction k with
  | zero => exact hv
  | succ k ih =>
    intro v hvm
    by_cases e : v = k
    · subst e
      obtain ⟨z1, z2, z3, z4⟩ := hv v hvm
      have g : ∀ j, 1 ≤ j → j < 8 → j ≠ 6 → mF f (v + 1) (46 + 8 * v + j) = f (46 + 8 * v + j) := fun j h1 h2 h3 => mF_ne _ _ _ (fun w hw => by omega)
      have g6 : mF f (v + 1) (46 + 8 * v + 6) = (if (f (46 + 8 * v + 7) = 0 ∧ f (46 + 8 * v + 1) = f 2) ∧ ¬ f (46 + 8 * v + 5) ≤ 0 then 1 else f (46 + 8 * v + 6)) := by unfold mF; exact upd_e _ _ _
      unfold okV
      rw [g 1 (by omega) (by omega) (by omega), g 2 (by omega) (by omega) (by omega), g 3 (by omega) (by omega) (by omega), g 4 (by omega) (by omega) (by omega), g 5 (by omega) (by omega) (by omega), g 7 (by omega) (by omega) (by omega), g6]
      refine ⟨z1, z2, z3, ?_⟩
      rcases z4 with ⟨q1, q2, q3, q4⟩ | ⟨q1, q2, q3, q4⟩
      · refine Or.inl ⟨q1, q2, ?_, q4⟩
        rw [if_neg (fun z => z.2 (by rw [q2]; decide))]; exact q3
      · refine Or.inr ⟨q1, q2, ?_, q4⟩
        split
        · exact Or.inr rfl
        · exact q3
    · refine (ih (by omega) v hvm).same (fun j h1 h2 => ?_)
      show upd (mF f k) _ _ _ = _
      rw [upd_n _ _ (by omega)]
def S_mino (c : Int32) (f : Fm) : Rs := if c = -1 ∨ ix c 16 ≠ none then (if f 2 = c then no 3 c else yes (I (cN (upd f 2 c) c (f 1).toNatClampNeg)) (mF (upd f 2 c) (f 1).toNatClampNeg)) else no 1 0
theorem c_mloop {F : Int32 → Nat → Int32 → Mm → Option (Int32 × Mm)} (a0 : Int32) (hF : ∀ n v σ, F a0 (n + 1) v σ = if (σ 0 4) ≤ v then (bnd (f_X6_visitorsIn a0 σ) fun q10 => some (q10, σ)) else (gd v 5 (bnd (f_X3_meetIfThere (8 + 1 + v.toNatClampNeg) σ) fun σ13 => lt (v + 1) fun x14 => F a0 n x14 σ13)))
    {σ : Mm} {f : Fm} {B n m : Nat} (h : rep 0 σ f) (a1 : n ≤ 4) (b1 : m ≤ 5) (b2 : f 1 = I m) (hv : ∀ v, v < m → okV B n f v) : ∃ τ, F a0 8 0 σ = some (I (cN f a0 m), τ) ∧ rep 0 τ (mF f m) ∧ ∀ i, 14 ≤ i → τ i = σ i := by
  obtain ⟨g, q1, q2, q3⟩ := loopI (fun n v g => F a0 n v g) (fun g => bnd (f_X6_visitorsIn a0 g) fun q10 => some (q10, g)) m (fun v (g : Mm) => rep 0 g (mF f v) ∧ ∀ i, 14 ≤ i → g i = σ i) (by
      intro n g hi
      rw [hF, show g 0 4 = I m from (hi.1.get0 (k := 1) (by omega)).trans (by rw [mF_ne _ _ _ (fun v _ => by omega)]; exact b2), if_pos ((I_le (by omega) (by omega)).mpr (Nat.le_refl _))]) (by
      intro n v g hv2 hi
      have e1 : I v + 1 = I (v + 1) := I_add v 1
      have f1 : mF f v 1 = I m := by rw [mF_ne _ _ _ (fun w _ => by omega)]; exact b2
      obtain ⟨τ, t1, t2, t3⟩ := c_meet hi.1 (v := v) (by omega) (hfI f1 b1 hv2)
      refine ⟨τ, ?_, ?_, fun i hi2 => by rw [t3 i (by omega)]; exact hi.2 i hi2⟩
      · rw [hF, show g 0 4 = I m from (hi.1.get0 (k := 1) (by omega)).trans f1, if_neg (nle hv2 (by omega)), gd_I (by omega) (by omega), I_clamp (by omega), show 8 + 1 + v = 9 + v by omega, t1, bnd_d, lt_d, e1]
      · refine rep.ext t2 (fun k hk => ?_)
        have z : ∀ j, j < 8 → mF f v (46 + 8 * v + j) = f (46 + 8 * v + j) := fun j hj => mF_ne _ _ _ (fun w hw => by omega)
        rw [z 7 (by omega), z 1 (by omega), z 4 (by omega), z 6 (by omega), mF_ne f v 2 (fun w _ => by omega)]
        show _ = upd (mF f v) _ _ _
        by_cases e : k = 46 + 8 * v + 6
        · rw [e, upd_e, upd_e]
          rcases (hv v hv2).bond a1 with ⟨w1, w2, w3⟩ | ⟨w1, w2⟩
          · rw [if_pos w1, if_neg (show ¬ ((f (46 + 8 * v + 7) = 0 ∧ f (46 + 8 * v + 1) = f 2) ∧ ¬ f (46 + 8 * v + 5) ≤ 0) from fun y => y.2 w2), w3]
            split <;> rfl
          · rw [if_neg w1]
            by_cases w : f (46 + 8 * v + 7) = 0 ∧ f (46 + 8 * v + 1) = f 2
            · have w8 : (f (46 + 8 * v + 7) = 0 ∧ f (46 + 8 * v + 1) = f 2) ∧ ¬ f (46 + 8 * v + 5) ≤ 0 := ⟨w, w2⟩
              rw [if_pos w, if_pos w8]
            · rw [if_neg w, if_neg (fun y => w y.1)]
        · rw [upd_n _ _ e, upd_n _ _ e]) m 0 8 σ (by omega) (by omega) ⟨h, fun _ _ => rfl⟩
  refine ⟨g, ?_, q2, q3⟩
  have f1 : mF f m 1 = I m := by rw [mF_ne _ _ _ (fun w _ => by omega)]; exact b2
  rw [show F a0 8 0 σ = _ from q1, c_in q2 b1 f1, bnd_d, cN_congr (f := mF f m) (g := f) (fun k _ => ⟨mF_ne _ _ _ (fun w hw => by omega), mF_ne _ _ _ (fun w hw => by omega)⟩)]
theorem c_mino {σ : Mm} {f : Fm} {B : Nat} (c : Int32) (h : rep 0 σ f) (ho : ok B f) : cOk σ (f_X3_placeMinotaur c σ) (S_mino c f) := by
  obtain ⟨n, m, ⟨a1, a2⟩, ⟨b1, b2⟩, hc, hd, hv, mi, le, mo⟩ := ho
  unfold f_X3_placeMinotaur S_mino
  have h5 : σ 0 5 = f 2 := h.get0 (k := 2) (by omega)
  rw [h5, f0c b2 b1 (by omega)]
  have r := h.top (k := 2) (by omega) (by omega) c
  have f1 : upd f 2 c 1 = I m := by rw [upd_n _ _ (by omega)]; exact b2
  have hv2 : ∀ v, v < m → okV B n (upd f 2 c) v := fun v hvm => (hv v hvm).same (fun k _ _ => upd_n _ _ (by omega))
  by_cases q : c = -1
  · rw [if_pos q, if_pos (Or.inl q)]
    by_cases w : f 2 = c
    · rw [if_pos w.symm, if_pos w]; exact c_refuse 3 c (fun _ _ _ => rfl)
    · rw [if_neg (fun z => w z.symm), if_neg w, lt_d]
      obtain ⟨τ, t1, t2, t3⟩ := c_mloop (F := f_X3_placeMinotaur_l53) c (fun n v σ => by rw [f_X3_placeMinotaur_l53]) r a1 b1 f1 hv2
      exact ⟨τ, t1, nm1 (by have := cN_le (upd f 2 c) c m; omega), t2, fun i hi _ _ => by rw [t3 i hi]; exact up_n _ _ _ (by omega)⟩
  · rw [if_neg q, m_cellx, bnd_d]
    cases e : ix c 16 with
    | none =>
      dsimp only
      rw [if_pos rfl, if_neg (fun z => z.elim q (fun y => y rfl))]
      exact c_refuse 1 0 (fun _ _ _ => rfl)
    | some j =>
      dsimp only
      rw [if_neg one_ne, if_pos (Or.inr (by intro z; cases z))]
      by_cases w : f 2 = c
      · rw [if_pos w.symm, if_pos w]; exact c_refuse 3 c (fun _ _ _ => rfl)
      · rw [if_neg (fun z => w z.symm), if_neg w, lt_d]
        obtain ⟨τ, t1, t2, t3⟩ := c_mloop (F := f_X3_placeMinotaur_l53b) c (fun n v σ => by rw [f_X3_placeMinotaur_l53b]) r a1 b1 f1 hv2
        exact ⟨τ, t1, nm1 (by have := cN_le (upd f 2 c) c m; omega), t2, fun i hi _ _ => by rw [t3 i hi]; exact up_n _ _ _ (by omega)⟩
theorem r_mino {σ : Mm} {B : Nat} (c : Int32) (ho : ok B (σ 199)) : rOk σ (f_X10_minotaurIt c σ) (S_mino c (σ 199)) := by
  obtain ⟨n, m, ⟨a1, a2⟩, ⟨b1, b2⟩, hc, hd, hv, mi, le, mo⟩ := ho
  unfold f_X10_minotaurIt S_mino
  rw [n_in (lo := -1) (hi := 15) rfl rfl, bnd_d, f0c b2 b1 (by omega)]
  have key : ((-1 : Int32) ≤ c ∧ c ≤ 15) ↔ (c = -1 ∨ ix c 16 ≠ none) := by
    rcases ix_cases c (N := 16) (by omega) with ⟨j, j1, j2, j3⟩ | ⟨j1, j3⟩
    · rw [j3]
      refine ⟨fun _ => Or.inr (by intro z; cases z), fun _ => ?_⟩
      rw [j2]
      exact ⟨Int32.le_trans (show (-1 : Int32) ≤ 0 by decide) (Int32.not_lt.mp (I_n0 (by omega))), (I_le (b := 15) (by omega) (by omega)).mpr (by omega)⟩
    · rw [j3]
      constructor
      · rintro ⟨z1, z2⟩
        left
        rcases j1 with j1 | j1
        · rw [← Int32.toInt_inj]
          have y1 := Int32.le_iff_toInt_le.mp z1
          have y2 := Int32.lt_iff_toInt_lt.mp j1
          have y3 : (-1 : Int32).toInt = -1 := rfl
          have y4 : (0 : Int32).toInt = 0 := rfl
          omega
        · exact absurd (Int32.le_trans j1 z2) (by decide)
      · rintro (z | z)
        · rw [z]; decide
        · exact absurd rfl z
  by_cases q : (-1 : Int32) ≤ c ∧ c ≤ 15
  · rw [if_pos q, if_neg one_ne, if_pos (key.mp q)]
    by_cases w : σ 199 2 = c
    · rw [if_pos w, if_pos w]; exact r_refuse 3 c (fun _ _ => rfl)
    · rw [if_neg w, if_neg w, lt_d]
      obtain ⟨f, hf⟩ : ∃ f : Fm, f = upd (σ 199) 2 c := ⟨_, rfl⟩
      have f1 : f 1 = I m := by rw [hf, upd_n _ _ (by omega)]; exact b2
      have f2 : f 2 = c := by rw [hf, upd_e]
      obtain ⟨g, q1, q2, q3, q4⟩ := loopI (fun n v (g : Int32 × Mm) => f_X10_minotaurIt_l49 c n v g.1 g.2) (fun g => some (g.1, g.2)) m (fun v (g : Int32 × Mm) => g.1 = I (cN f c v) ∧ g.2 199 = mF f v ∧ ∀ i, i ≠ 199 → g.2 i = σ i) (by
          rintro n ⟨g1, g2⟩ ⟨i1, i2, i3⟩
          dsimp only at i1 i2 i3 ⊢
          rw [f_X10_minotaurIt_l49, i2, mF_ne _ _ _ (fun w _ => by omega), f1, if_pos ((I_le (by omega) (by omega)).mpr (Nat.le_refl _))]) (by
          rintro n v ⟨g1, g2⟩ hv2 ⟨i1, i2, i3⟩
          dsimp only at i1 i2 i3 ⊢
          subst i1
          have e1 : I v + 1 = I (v + 1) := I_add v 1
          have z : ∀ j, j < 8 → mF f v (46 + 8 * v + j) = f (46 + 8 * v + j) := fun j hj => mF_ne _ _ _ (fun w hw => by omega)
          have z2 : mF f v 2 = f 2 := mF_ne _ _ _ (fun w hw => by omega)
          refine ⟨(I (cN f c (v + 1)), up g2 199 (46 + 8 * v + 6) (if (f (46 + 8 * v + 7) = 0 ∧ f (46 + 8 * v + 1) = f 2) ∧ ¬ f (46 + 8 * v + 5) ≤ 0 then 1 else f (46 + 8 * v + 6))), ?_, rfl, by dsimp only; rw [up_e, i2]; rfl, fun i hi => by dsimp only; rw [up_n _ _ _ hi]; exact i3 i hi⟩
          dsimp only
          rw [f_X10_minotaurIt_l49, i2, mF_ne _ _ _ (fun w _ => by omega), f1, if_neg (nle hv2 (by omega)), n_meets (by omega), bnd_d]
          simp only [n_vAt, bnd_d, I_a5, I_a6, gd_I (show 46 + 8 * v + 5 < 86 by omega) (show 86 < 2147483648 by omega), gd_I (show 46 + 8 * v + 6 < 86 by omega) (show 86 < 2147483648 by omega), I_clamp (show 46 + 8 * v + 5 < 2147483648 by omega), I_clamp (show 46 + 8 * v + 6 < 2147483648 by omega), lt_d, e1]
          rw [i2, z 7 (by omega), z 1 (by omega), z 5 (by omega), z 6 (by omega), z2]
          show _ = f_X10_minotaurIt_l49 c n (I (v + 1)) (I (cN f c v + if f (46 + 8 * v + 7) = 0 ∧ f (46 + 8 * v + 1) = c then 1 else 0)) _
          rw [← f2]
          by_cases y : f (46 + 8 * v + 7) = 0 ∧ f (46 + 8 * v + 1) = f 2
          · simp only [if_pos y, if_neg one_ne]
            by_cases x : f (46 + 8 * v + 5) ≤ 0
            · have x2 : ¬ ((f (46 + 8 * v + 7) = 0 ∧ f (46 + 8 * v + 1) = f 2) ∧ ¬ f (46 + 8 * v + 5) ≤ 0) := fun u => u.2 x
              rw [if_pos x, if_neg x2, I_a1]
            · have x2 : (f (46 + 8 * v + 7) = 0 ∧ f (46 + 8 * v + 1) = f 2) ∧ ¬ f (46 + 8 * v + 5) ≤ 0 := ⟨y, x⟩
              rw [if_neg x, if_pos x2, I_a1]
          · have x2 : ¬ ((f (46 + 8 * v + 7) = 0 ∧ f (46 + 8 * v + 1) = f 2) ∧ ¬ f (46 + 8 * v + 5) ≤ 0) := fun u => y u.1
            simp only [if_neg y, if_true]
            rw [if_neg x2, Int32.add_zero]; rfl) m 0 8 (0, up σ 199 2 c) (by omega) (by omega) ⟨rfl, by dsimp only; rw [up_e, hf]; rfl, fun i hi => up_n _ _ _ hi⟩
      refine ⟨g.2, ?_, by rw [q3, hf], fun i hi _ => q4 i hi⟩
      rw [show f_X10_minotaurIt_l49 c 8 0 0 (up σ 199 2 c) = _ from q1, q2, hf]
  · rw [if_neg q, if_pos rfl, if_neg (fun z => q (key.mpr z))]; exact r_refuse 1 0 (fun _ _ => rfl)
theorem ok_mino {B : Nat} {f g : Fm} {c r : Int32} (ho : ok B f) (h : S_mino c f = .inl (r, g)) : ok (B + 9) g := by
  obtain ⟨n, m, ⟨a1, a2⟩, ⟨b1, b2⟩, hc, hd, hv, mi, le, mo⟩ := ho
  unfold S_mino at h
  rw [f0c b2 b1 (by omega)] at h
  split at h
  case isFalse => cases h
  rename_i q
  split at h
  · cases h
  cases h
  have e : ∀ k, k ≠ 2 → (∀ v, v < m → k ≠ 46 + 8 * v + 6) → mF (upd f 2 c) m k = f k := fun k h1 h2 => by rw [mF_ne _ _ _ h2, upd_n _ _ h1]
  refine ⟨n, m, ⟨a1, by rw [e 0 (by omega) (fun v _ => by omega)]; exact a2⟩, ⟨b1, by rw [e 1 (by omega) (fun v _ => by omega)]; exact b2⟩, fun j h1 h2 k hk => by rw [e _ (by omega) (fun v _ => by omega)]; exact hc j h1 h2 k hk, fun j h1 h2 k hk => by rw [e _ (by omega) (fun v _ => by omega)]; exact hd j h1 h2 k hk, fun j hj => ?_, ?_, fun j hj => by rw [e _ (by omega) (fun v _ => by omega)]; exact le j hj, mo.same (fun j hj => e _ (by omega) (fun v _ => by omega)) (fun j hj => e _ (by omega) (fun v _ => by omega))⟩
  · exact (mF_okV (fun v hvm => (hv v hvm).same (fun k _ _ => upd_n _ _ (by omega))) m (Nat.le_refl _) j hj).mono (by omega) (Nat.le_refl _)
  · rw [mF_ne _ _ _ (fun v _ => by omega), upd_e]
    rcases q with q | q
    · exact Or.inl q
    · rcases ix_cases c (N := 16) (by omega) with ⟨j, j1, j2, -⟩ | ⟨-, j3⟩
      · exact Or.inr ⟨j, j1, j2⟩
      · exact absurd j3 q
