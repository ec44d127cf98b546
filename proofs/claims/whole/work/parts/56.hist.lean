/-! COPIES of states, what is kept, what is taken back -/
theorem cp4 {σ : Mm} {p q : Nat} (h : p ≠ q) : ∃ τ, f_X1_copyFrom p q σ = some τ ∧ (∀ k, k < 4 → τ p k = σ q k) ∧ ∀ a, a ≠ p → τ a = σ a := by
  have h2 : q ≠ p := fun z => h z.symm
  refine ⟨up (up (up (up σ p 0 (σ q 0)) p 1 (σ q 1)) p 2 (σ q 2)) p 3 (σ q 3), ?_, fun k hk => ?_, fun a ha => ?_⟩
  · unfold f_X1_copyFrom
    simp only [lt_d, up_n _ _ _ h2]
  · rcases (show k = 0 ∨ k = 1 ∨ k = 2 ∨ k = 3 by omega) with e | e | e | e <;> subst e <;> simp (disch := omega) only [up_e, upd_e, upd_n]
  · simp only [up_n _ _ _ ha]
theorem bz_ok {α : Type} {x : Int32} (h : x = 0 ∨ x = 1) (a : Option α) : bz x a = a := by
  rcases h with h | h <;> subst h
  · exact bz_i0 a
  · exact bz_i1 a
theorem cp8 {σ : Mm} {p q : Nat} (h : p ≠ q) (h6 : σ q 6 = 0 ∨ σ q 6 = 1) (h7 : σ q 7 = 0 ∨ σ q 7 = 1) : ∃ τ, f_X7_copyFrom p q σ = some τ ∧ (∀ k, k < 8 → τ p k = σ q k) ∧ ∀ a, a ≠ p → τ a = σ a := by
  have h2 : q ≠ p := fun z => h z.symm
  refine ⟨up (up (up (up (up (up (up (up σ p 0 (σ q 0)) p 1 (σ q 1)) p 2 (σ q 2)) p 3 (σ q 3)) p 4 (σ q 4)) p 5 (σ q 5)) p 6 (σ q 6)) p 7 (σ q 7), ?_, fun k hk => ?_, fun a ha => ?_⟩
  · unfold f_X7_copyFrom
    simp only [lt_d, up_n _ _ _ h2, bz_ok h6, bz_ok h7]
  · rcases (show k = 0 ∨ k = 1 ∨ k = 2 ∨ k = 3 ∨ k = 4 ∨ k = 5 ∨ k = 6 ∨ k = 7 by omega) with e | e | e | e | e | e | e | e <;> subst e <;> simp (disch := omega) only [up_e, upd_e, upd_n]
  · simp only [up_n _ _ _ ha]
theorem ok_bz {B : Nat} {f : Fm} (ho : ok B f) {v : Nat} (hv : v < 5) : (cv f v 6 = 0 ∨ cv f v 6 = 1) ∧ (cv f v 7 = 0 ∨ cv f v 7 = 1) := by
  obtain ⟨n, m, -, ⟨b1, b2⟩, -, hd, hvv, -⟩ := ho
  unfold cv
  rw [if_neg (fun z => absurd z.1 (by decide)), if_neg (fun z => absurd z.1 (by decide))]
  by_cases q : v < m
  · obtain ⟨-, -, -, z⟩ := hvv v q
    rcases z with ⟨-, -, z1, z2⟩ | ⟨-, -, z1, z2⟩
    · exact ⟨Or.inl z1, z2⟩
    · exact ⟨z1, Or.inl z2⟩
  · exact ⟨Or.inl (hd v (by omega) hv 6 (by omega)), Or.inl (hd v (by omega) hv 7 (by omega))⟩
theorem c_copy {σ : Mm} {f : Fm} {i o B : Nat} (hd : i + 14 ≤ o ∨ o + 14 ≤ i) (h : rep o σ f) (ho : ok B f) : ∃ τ, f_X6_copyFrom i o σ = some τ ∧ rep i τ f ∧ ∀ a, a < i ∨ i + 14 ≤ a → τ a = σ a := by
  unfold f_X6_copyFrom f_X4_copyFrom
  rw [lt_d, bnd_d, lt_d]
  obtain ⟨σ0, hσ0⟩ : ∃ σ0, σ0 = cpm σ (i + 1 + 1) (o + 1 + 1) 24 := ⟨_, rfl⟩
  rw [← hσ0]
  have s0 : ∀ a, a < i ∨ i + 14 ≤ a → σ0 a = σ a := fun a ha => by rw [hσ0]; unfold cpm; rw [if_neg (by omega)]
  have s1 : ∀ k, k < 24 → σ0 (i + 2) k = f (6 + k) := fun k hk => by
    rw [hσ0]; unfold cpm va_cpy
    rw [if_pos (by omega), if_pos (by omega), show 0 + (k - 0) = k by omega]
    exact h.2.1 k hk
  have s2 : rep o σ0 f := h.move (fun a h1 h2 => s0 a (by omega))
  obtain ⟨σ1, p1, p2, p3, p4, p5⟩ := loopI (fun n v g => f_X6_copyFrom_l13 (fun v3 σ4 => lt (fun v6 σ7 => lt (up σ7 i 3 (σ7 o 3)) fun σ9 => lt (up σ9 i 4 (σ9 o 4)) fun σ10 => lt (up σ10 i 5 (σ10 o 5)) fun σ11 => lt (up σ11 i 6 (σ11 o 6)) fun σ12 => lt (up σ12 i 7 (σ12 o 7)) fun σ13 => lt (up σ13 i 8 (σ13 o 8)) fun σ14 => some σ14) fun K => f_X6_copyFrom_l41 K i o 8 0 σ4) i o n v g)
    (fun g => f_X6_copyFrom_l41 (fun v6 σ7 => lt (up σ7 i 3 (σ7 o 3)) fun σ9 => lt (up σ9 i 4 (σ9 o 4)) fun σ10 => lt (up σ10 i 5 (σ10 o 5)) fun σ11 => lt (up σ11 i 6 (σ11 o 6)) fun σ12 => lt (up σ12 i 7 (σ12 o 7)) fun σ13 => lt (up σ13 i 8 (σ13 o 8)) fun σ14 => some σ14) i o 8 0 g) 4
    (fun v (g : Mm) => rep o g f ∧ (∀ k, k < 24 → g (i + 2) k = f (6 + k)) ∧ (∀ j, j < v → ∀ k, k < 4 → g (i + 4 + j) k = f (30 + 4 * j + k)) ∧ ∀ a, a < i ∨ i + 14 ≤ a → g a = σ a) (by
      intro n g _
      rw [f_X6_copyFrom_l13, if_pos (show (4 : Int32) ≤ I 4 by decide), lt_d]) (by
      intro n v g hv hi
      have e1 : I v + 1 = I (v + 1) := I_add v 1
      obtain ⟨i1, i2, i3, i4⟩ := hi
      obtain ⟨τ, t1, t2, t3⟩ := cp4 (σ := g) (p := i + 3 + 1 + v) (q := o + 3 + 1 + v) (by omega)
      refine ⟨τ, ?_, ?_, ?_, ?_, ?_⟩
      · rw [f_X6_copyFrom_l13, if_neg (show ¬ (4 : Int32) ≤ I v from nle (N := 4) hv (by omega)), gd_I hv (by omega), gd_I hv (by omega), I_clamp (by omega), t1, bnd_d, lt_d, e1]
      · exact i1.move (fun a h1 h2 => t3 a (by omega))
      · intro k hk; rw [t3 _ (by omega)]; exact i2 k hk
      · intro j hj k hk
        by_cases e : j = v
        · subst e
          rw [show i + 4 + j = i + 3 + 1 + j by omega, t2 k hk, show o + 3 + 1 + j = o + 4 + j by omega]
          exact i1.2.2.1 j hv k hk
        · rw [t3 _ (by omega)]; exact i3 j (by omega) k hk
      · intro a ha; rw [t3 a (by omega)]; exact i4 a ha) 4 0 8 σ0 rfl (by omega) ⟨s2, s1, fun j hj => by omega, s0⟩
  rw [show f_X6_copyFrom_l13 _ i o 8 0 σ0 = _ from p1]
  obtain ⟨σ2, q1, q2, q3, q4, q5, q6⟩ := loopI (fun n v g => f_X6_copyFrom_l41 (fun v6 σ7 => lt (up σ7 i 3 (σ7 o 3)) fun σ9 => lt (up σ9 i 4 (σ9 o 4)) fun σ10 => lt (up σ10 i 5 (σ10 o 5)) fun σ11 => lt (up σ11 i 6 (σ11 o 6)) fun σ12 => lt (up σ12 i 7 (σ12 o 7)) fun σ13 => lt (up σ13 i 8 (σ13 o 8)) fun σ14 => some σ14) i o n v g)
    (fun g => lt (up g i 3 (g o 3)) fun σ9 => lt (up σ9 i 4 (σ9 o 4)) fun σ10 => lt (up σ10 i 5 (σ10 o 5)) fun σ11 => lt (up σ11 i 6 (σ11 o 6)) fun σ12 => lt (up σ12 i 7 (σ12 o 7)) fun σ13 => lt (up σ13 i 8 (σ13 o 8)) fun σ14 => some σ14) 5
    (fun v (g : Mm) => rep o g f ∧ (∀ k, k < 24 → g (i + 2) k = f (6 + k)) ∧ (∀ j, j < 4 → ∀ k, k < 4 → g (i + 4 + j) k = f (30 + 4 * j + k)) ∧ (∀ j, j < v → ∀ k, k < 8 → g (i + 9 + j) k = cv f j k) ∧ ∀ a, a < i ∨ i + 14 ≤ a → g a = σ a) (by
      intro n g _
      rw [f_X6_copyFrom_l41, if_pos (show (5 : Int32) ≤ I 5 by decide)]) (by
      intro n v g hv hi
      have e1 : I v + 1 = I (v + 1) := I_add v 1
      obtain ⟨i1, i2, i3, i5, i4⟩ := hi
      have hz := ok_bz ho hv
      have hs := i1.2.2.2 v hv
      rw [show o + 9 + v = o + 8 + 1 + v by omega] at hs
      obtain ⟨τ, t1, t2, t3⟩ := cp8 (σ := g) (p := i + 8 + 1 + v) (q := o + 8 + 1 + v) (by omega) (by rw [hs 6 (by omega)]; exact hz.1) (by rw [hs 7 (by omega)]; exact hz.2)
      refine ⟨τ, ?_, ?_, ?_, ?_, ?_, ?_⟩
      · rw [f_X6_copyFrom_l41, if_neg (show ¬ (5 : Int32) ≤ I v from nle (N := 5) hv (by omega)), gd_I hv (by omega), gd_I hv (by omega), I_clamp (by omega), t1, bnd_d, lt_d, e1]
      · exact i1.move (fun a h1 h2 => t3 a (by omega))
      · intro k hk; rw [t3 _ (by omega)]; exact i2 k hk
      · intro j hj k hk; rw [t3 _ (by omega)]; exact i3 j hj k hk
      · intro j hj k hk
        by_cases e : j = v
        · subst e
          rw [show i + 9 + j = i + 8 + 1 + j by omega, t2 k hk]
          exact hs k hk
        · rw [t3 _ (by omega)]; exact i5 j (by omega) k hk
      · intro a ha; rw [t3 a (by omega)]; exact i4 a ha) 5 0 8 σ1 rfl (by omega) ⟨p2, p3, p4, fun j hj => by omega, p5⟩
  rw [show f_X6_copyFrom_l41 _ i o 8 0 σ1 = _ from q1]
  have oi : o ≠ i := by omega
  simp only [lt_d, up_n _ _ _ oi]
  refine ⟨_, rfl, ⟨fun k hk => ?_, fun k hk => ?_, fun j hj k hk => ?_, fun v hv k hk => ?_⟩, fun a ha => ?_⟩
  · have z := q2.1
    rcases (show k = 0 ∨ k = 1 ∨ k = 2 ∨ k = 3 ∨ k = 4 ∨ k = 5 by omega) with e | e | e | e | e | e <;> subst e <;> simp (disch := omega) only [up_e, upd_e, upd_n] <;> exact z _ (by omega)
  · simp (disch := omega) only [up_n]; exact q3 k hk
  · simp (disch := omega) only [up_n]; exact q4 j hj k hk
  · simp (disch := omega) only [up_n]; exact q5 v hv k hk
  · simp (disch := omega) only [up_n]; exact q6 a ha
/-! the reference's rows -/
theorem r_starts {σ : Mm} : ∃ τ, f_X10_starts σ = some τ ∧ τ 198 12 = 0 ∧ (∀ k, k ≠ 12 → τ 198 k = σ 198 k) ∧ (∀ k, k < 86 → τ 200 k = σ 199 k) ∧ ∀ a, a ≠ 198 → a ≠ 200 → τ a = σ a := by
  unfold f_X10_starts
  rw [lt_d]
  obtain ⟨g, q1, q2, q3⟩ := loopI (fun n v g => f_X10_starts_l7 n v g) (fun g => some g) 86 (fun v (g : Mm) => (∀ k, k < v → g 200 k = σ 199 k) ∧ ∀ a, a ≠ 200 → g a = up σ 198 12 0 a) (by
      intro n g _
      rw [f_X10_starts_l7, if_pos (show (86 : Int32) ≤ I 86 by decide)]) (by
      intro n v g hv hi
      have e1 : I v + 1 = I (v + 1) := I_add v 1
      refine ⟨up g 200 v (g 199 v), ?_, fun k hk => ?_, fun a ha => by rw [up_n _ _ _ ha]; exact hi.2 a ha⟩
      · rw [f_X10_starts_l7, if_neg (show ¬ (86 : Int32) ≤ I v from nle (N := 86) hv (by omega)), gd_I hv (by omega), gd_I hv (by omega), I_clamp (by omega), lt_d, lt_d, e1]
      · rw [up_e]
        by_cases e : k = v
        · subst e; rw [upd_e, hi.2 199 (by omega), up_n _ _ _ (by omega)]
        · rw [upd_n _ _ e]; exact hi.1 k (by omega)) 86 0 90 (up σ 198 12 0) rfl (by omega) ⟨fun k hk => by omega, fun _ _ => rfl⟩
  refine ⟨g, q1, by rw [q3 198 (by omega), up_e, upd_e], fun k hk => by rw [q3 198 (by omega), up_e, upd_n _ _ hk], q2, fun a h1 h2 => by rw [q3 a h2, up_n _ _ _ h1]⟩
theorem r_push {F : Nat → Int32 → Mm → Option (Int32 × Mm)} (a0 : Int32) (hF : ∀ n v σ, F (n + 1) v σ = if 86 ≤ v then (lt (up σ 198 5 ((σ 198 5) + 1)) fun σ9 => some (a0, σ9)) else (gd v 86 (gd ((86 * (σ 198 5)) + v) 688 (lt (up σ 202 ((86 * (σ 198 5)) + v).toNatClampNeg (σ 200 v.toNatClampNeg)) fun σ10 => lt (v + 1) fun x11 => F n x11 σ10))))
    {σ : Mm} {n : Nat} (hn : n < 8) (h5 : σ 198 5 = I n) : ∃ τ, F 700 0 σ = some (a0, τ) ∧ τ 198 5 = I (n + 1) ∧ (∀ k, k ≠ 5 → τ 198 k = σ 198 k) ∧ (∀ k, k < 86 → τ 202 (86 * n + k) = σ 200 k) ∧ (∀ k, k < 86 * n → τ 202 k = σ 202 k) ∧ ∀ a, a ≠ 198 → a ≠ 202 → τ a = σ a := by
  obtain ⟨g, q1, q2, q3, q4⟩ := loopI (fun m v g => F m v g) (fun g => lt (up g 198 5 ((g 198 5) + 1)) fun σ9 => some (a0, σ9)) 86 (fun v (g : Mm) => (∀ k, k < v → g 202 (86 * n + k) = σ 200 k) ∧ (∀ k, k < 86 * n → g 202 k = σ 202 k) ∧ ∀ a, a ≠ 202 → g a = σ a) (by
      intro m g _
      rw [hF, if_pos (show (86 : Int32) ≤ I 86 by decide)]) (by
      intro m v g hv hi
      have e1 : I v + 1 = I (v + 1) := I_add v 1
      have e5 : g 198 5 = I n := by rw [hi.2.2 198 (by omega)]; exact h5
      refine ⟨up g 202 (86 * n + v) (g 200 v), ?_, fun k hk => ?_, fun k hk => ?_, fun a ha => by rw [up_n _ _ _ ha]; exact hi.2.2 a ha⟩
      · rw [hF, if_neg (show ¬ (86 : Int32) ≤ I v from nle (N := 86) hv (by omega)), e5, show (86 : Int32) * I n = I (86 * n) from I_mul 86 n, I_add, gd_I hv (by omega), gd_I (show 86 * n + v < 688 by omega) (by omega), I_clamp (by omega), I_clamp (by omega), lt_d, lt_d, e1]
      · rw [up_e]
        by_cases e : k = v
        · subst e; rw [upd_e, hi.2.2 200 (by omega)]
        · rw [upd_n _ _ (by omega)]; exact hi.1 k (by omega)
      · rw [up_e, upd_n _ _ (by omega)]; exact hi.2.1 k hk) 86 0 700 σ rfl (by omega) ⟨fun k hk => by omega, fun _ _ => rfl, fun _ _ => rfl⟩
  refine ⟨up g 198 5 (I (n + 1)), ?_, by rw [up_e, upd_e], fun k hk => by rw [up_e, upd_n _ _ hk, q4 198 (by omega)], fun k hk => by rw [up_n _ _ _ (by omega)]; exact q2 k hk, fun k hk => by rw [up_n _ _ _ (by omega)]; exact q3 k hk, fun a h1 h2 => by rw [up_n _ _ _ h1]; exact q4 a h2⟩
  rw [show F 700 0 σ = _ from q1, lt_d, q4 198 (by omega), h5, I_a1]
theorem r_changed {σ : Mm} (a0 : Int32) {n : Nat} (hn : n ≤ 8) (h5 : σ 198 5 = I n) (h12 : σ 198 12 = 0) : ∃ τ, f_X10_changed a0 σ = some (a0, τ) ∧ τ 198 5 = I (min 8 (n + 1)) ∧ (∀ k, k ≠ 5 → τ 198 k = σ 198 k) ∧ (∀ k, k < 86 → τ 202 (86 * (min 8 (n + 1) - 1) + k) = σ 200 k) ∧ (∀ j k, j + 1 < min 8 (n + 1) → k < 86 → τ 202 (86 * (min 8 (n + 1) - 1 - (j + 1)) + k) = σ 202 (86 * (n - 1 - j) + k)) ∧ ∀ a, a ≠ 198 → a ≠ 202 → τ a = σ a := by
  unfold f_X10_changed
  rw [h12, if_pos (by decide), h5]
  by_cases q : n = 8
  · subst q
    rw [if_pos (show I 8 = 8 from rfl), lt_d]
    obtain ⟨g, q1, q2, q3⟩ := loopI (fun m v g => f_X10_changed_l20 (fun v12 σ13 => lt (up σ13 198 5 ((σ13 198 5) - 1)) fun σ15 => f_X10_changed_l60b a0 700 0 σ15) a0 m v g) (fun g => lt (up g 198 5 ((g 198 5) - 1)) fun σ15 => f_X10_changed_l60b a0 700 0 σ15) 602 (fun v (g : Mm) => (∀ k, k < 688 → g 202 k = if k < v then σ 202 (k + 86) else σ 202 k) ∧ ∀ a, a ≠ 202 → g a = σ a) (by
        intro m g _
        rw [f_X10_changed_l20, if_pos (show (602 : Int32) ≤ I 602 by decide)]) (by
        intro m v g hv hi
        have e1 : I v + 1 = I (v + 1) := I_add v 1
        refine ⟨up g 202 v (g 202 (v + 86)), ?_, fun k hk => ?_, fun a ha => by rw [up_n _ _ _ ha]; exact hi.2 a ha⟩
        · rw [f_X10_changed_l20, if_neg (show ¬ (602 : Int32) ≤ I v from nle (N := 602) hv (by omega)), show I v + 86 = I (v + 86) from I_add v 86, gd_I (show v + 86 < 688 by omega) (by omega), gd_I (show v < 688 by omega) (by omega), I_clamp (by omega), I_clamp (by omega), lt_d, lt_d, e1]
        · rw [up_e]
          by_cases e : k = v
          · subst e; rw [upd_e, hi.1 (k + 86) (by omega), if_neg (by omega), if_pos (by omega)]
          · rw [upd_n _ _ e, hi.1 k hk]
            by_cases w : k < v
            · rw [if_pos w, if_pos (by omega)]
            · rw [if_neg w, if_neg (by omega)]) 602 0 700 σ rfl (by omega) ⟨fun k _ => by rw [if_neg (by omega)], fun _ _ => rfl⟩
    rw [show f_X10_changed_l20 _ a0 700 0 σ = _ from q1, lt_d, q3 198 (by omega), h5, show I 8 - 1 = I 7 from rfl]
    obtain ⟨τ, t1, t2, t3, t4, t5, t6⟩ := r_push (F := f_X10_changed_l60b a0) a0 (fun n v σ => by rw [f_X10_changed_l60b]) (σ := up g 198 5 (I 7)) (n := 7) (by omega) (by rw [up_e, upd_e])
    refine ⟨τ, t1, t2, fun k hk => by rw [t3 k hk, up_e, upd_n _ _ hk, q3 198 (by omega)], fun k hk => ?_, fun j k hj hk => ?_, fun a h1 h2 => by rw [t6 a h1 h2, up_n _ _ _ h1, q3 a h2]⟩
    · rw [show min 8 (8 + 1) - 1 = 7 from rfl, t4 k hk, up_n _ _ _ (by omega), q3 200 (by omega)]
    · have hj : j + 1 < 8 := hj
      show τ 202 (86 * (7 - (j + 1)) + k) = σ 202 (86 * (8 - 1 - j) + k)
      rw [t5 _ (by omega), up_n _ _ _ (by omega), q2 _ (by omega), if_pos (by omega), show 86 * (7 - (j + 1)) + k + 86 = 86 * (8 - 1 - j) + k by omega]
  · rw [if_neg (show ¬ I n = 8 from I_beq (b := 8) (by omega) (by omega) q)]
    obtain ⟨τ, t1, t2, t3, t4, t5, t6⟩ := r_push (F := f_X10_changed_l60 a0) a0 (fun n v σ => by rw [f_X10_changed_l60]) (σ := σ) (n := n) (by omega) h5
    have hm : min 8 (n + 1) = n + 1 := by omega
    rw [hm]
    refine ⟨τ, t1, t2, t3, fun k hk => ?_, fun j k hj hk => ?_, t6⟩
    · rw [show n + 1 - 1 = n by omega]; exact t4 k hk
    · rw [t5 _ (by omega), show n + 1 - 1 - (j + 1) = n - 1 - j by omega]
/-- row to row -/
theorem r_copy {β : Type} {σ0 : Mm} {F : Nat → Int32 → Mm → Option β} {K : Mm → Option β} {p q o : Nat} (hpq : p ≠ q) (hF : ∀ n v σ, (∀ a, a ≠ p → σ a = σ0 a) → F (n + 1) v σ = if 86 ≤ v then K σ else (gd v 86 (lt (up σ p v.toNatClampNeg (σ q (o + v.toNatClampNeg))) fun σ10 => lt (v + 1) fun x11 => F n x11 σ10))) :
    ∃ τ, F 90 0 σ0 = K τ ∧ (∀ k, k < 86 → τ p k = σ0 q (o + k)) ∧ ∀ a, a ≠ p → τ a = σ0 a := by
  obtain ⟨g, q1, q2, q3⟩ := loopI (fun m v g => F m v g) (fun g => K g) 86 (fun v (g : Mm) => (∀ k, k < v → g p k = σ0 q (o + k)) ∧ ∀ a, a ≠ p → g a = σ0 a) (by
      intro m g hi
      rw [hF _ _ _ hi.2, if_pos (show (86 : Int32) ≤ I 86 by decide)]) (by
      intro m v g hv hi
      have e1 : I v + 1 = I (v + 1) := I_add v 1
      refine ⟨up g p v (g q (o + v)), ?_, fun k hk => ?_, fun a ha => by rw [up_n _ _ _ ha]; exact hi.2 a ha⟩
      · rw [hF _ _ _ hi.2, if_neg (show ¬ (86 : Int32) ≤ I v from nle (N := 86) hv (by omega)), gd_I hv (by omega), I_clamp (by omega), lt_d, lt_d, e1]
      · rw [up_e]
        by_cases e : k = v
        · subst e; rw [upd_e, hi.2 q (fun z => hpq z.symm)]
        · rw [upd_n _ _ e]; exact hi.1 k (by omega)) 86 0 90 σ0 rfl (by omega) ⟨fun k hk => by omega, fun _ _ => rfl⟩
  exact ⟨g, q1, q2, q3⟩
