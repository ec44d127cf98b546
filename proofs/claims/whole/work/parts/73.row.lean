/-! ROW, CHARACTER -/
def chC (f : Fm) (m c : Nat) : Nat := if f 2 = I c then 77 else 48 + cN f (I c) m
def spC (f : Fm) (c : Nat) : Nat := if opB f (hN c (c + 1)) = 0 then 124 else 32
theorem cN_sm (f : Fm) (c : Int32) (m : Nat) : sm (fun v => if f (46 + 8 * v + 7) = 0 ∧ f (46 + 8 * v + 1) = c then (1 : Int32) else 0) m = I (cN f c m) := by
  induction m with
  | zero => rfl
  | succ m ih =>
    rw [sm_S, ih, cN_S]
    by_cases q : f (46 + 8 * m + 7) = 0 ∧ f (46 + 8 * m + 1) = c
    · rw [if_pos q, if_pos q, I_a1]
    · rw [if_neg q, if_neg q, I_a0]
theorem r_visIn {σ : Mm} {B n m : Nat} (ho : okC B n m (σ 199)) (c : Int32) : f_X10_visitorsIn c σ = some (I (cN (σ 199) c m)) := by
  have hm := ho.2.1.1
  have h1 := ho.2.1.2
  unfold f_X10_visitorsIn
  have k := loopS (F := f_X10_visitorsIn_l4 c σ) (K := fun x => some x) m hm (fun v => if σ 199 (46 + 8 * v + 7) = 0 ∧ σ 199 (46 + 8 * v + 1) = c then (1 : Int32) else 0) 0 (fun n x => by
      rw [f_X10_visitorsIn_l4, h1, if_pos ((I_le (by omega) (by omega)).mpr (Nat.le_refl _))]) (fun n' v x hv => by
      rw [f_X10_visitorsIn_l4, h1, if_neg (nle hv (by omega)), n_vAt, bnd_d, bnd_d, show I (46 + 8 * v) + 7 = I (46 + 8 * v + 7) from I_a7 _, show I (46 + 8 * v) + 1 = I (46 + 8 * v + 1) from I_a1 _, gd_I (show 46 + 8 * v + 7 < 86 by omega) (by omega), gd_I (show 46 + 8 * v + 1 < 86 by omega) (by omega), I_clamp (show 46 + 8 * v + 7 < 2147483648 by omega), I_clamp (show 46 + 8 * v + 1 < 2147483648 by omega), I_a1]
      by_cases q : σ 199 (46 + 8 * v + 7) = 0
      · rw [if_pos q]
        by_cases q2 : σ 199 (46 + 8 * v + 1) = c
        · rw [if_pos q2, if_pos ⟨q, q2⟩]; rfl
        · rw [if_neg q2, if_neg (fun z => q2 z.2)]; rfl
      · rw [if_neg q, if_neg (fun z => q z.1)]; rfl)
  rw [k, Int32.zero_add, cN_sm]
theorem opB01 (f : Fm) (o : Option Nat) : opB f o = 0 ∨ opB f o = 1 := by
  unfold opB
  cases o with
  | none => exact Or.inl rfl
  | some g => dsimp only; split; exact Or.inr rfl; exact Or.inl rfl
section
variable {σ0 σ : Mm} {f : Fm} {B n m c X : Nat} {p : Tx} {a : Int32}
/-- the class's one cell -/
theorem c_cell (r : rep 0 σ0 f) (ho : okC B n m f) (hc : c + 1 < 16) (hX : X < 16) (hcX : c < X) (hp : p.1 + 2 ≤ 16) (Z : BL σ0 p σ) (k : Nat) : ∃ τ, f_X9_row_l40 (I X) a (k + 1) (I c) σ = f_X9_row_l40 (I X) a k (I (c + 1)) τ ∧ BL σ0 (tc (spC f c) (tc (chC f m c) p)) τ := by
  have hm := ho.2.1.1
  have rr : ∀ {q : Tx} {ρ : Mm}, BL σ0 q ρ → rep 0 ρ f := fun z => r.move (fun a _ h => z.2.2.2.2 a (by omega) (by omega))
  have hx : ∀ x, hN c (c + 1) = some x → x < 24 := fun x q => (hN_ed q).1
  have e5 : ∀ {q : Tx} {ρ : Mm}, BL σ0 q ρ → ρ 0 5 = f 2 := fun z => (rr z).get0 (k := 2) (by omega)
  -- the space behind it
  have sp : ∀ {q : Tx} {ρ : Mm}, BL σ0 q ρ → q.1 < 16 → ∃ τ, (if I X ≤ I c then (lt (I c + 1) fun x19 => f_X9_row_l40 (I X) a k x19 ρ) else (bnd (f_X4_hedgeBetween (I c) (I c + 1) ρ) fun q20 => bnd (f_X4_isOpen q20 ρ) fun q21 => if q21 = 0 then (bnd (f_J4_append_cf468 124 ρ) fun σ24 => lt (I c + 1) fun x25 => f_X9_row_l40 (I X) a k x25 σ24) else (bnd (f_J4_append_cf468 32 ρ) fun σ27 => lt (I c + 1) fun x28 => f_X9_row_l40 (I X) a k x28 σ27))) = f_X9_row_l40 (I X) a k (I (c + 1)) τ ∧ BL σ0 (tc (spC f c) q) τ := by
    intro q ρ z hq
    rw [if_neg (nle hcX (by omega)), I_a1, m_between (by omega) (by omega), bnd_d, c_openx (rr z) hx, bnd_d]
    unfold spC
    rcases opB01 f (hN c (c + 1)) with w | w
    · obtain ⟨τ, t1, t2⟩ := c_chr (c := 124) z hq (by omega)
      rw [w, if_pos rfl, if_pos rfl, show f_J4_append_cf468 124 ρ = some τ from t1, bnd_d, lt_d]
      exact ⟨τ, rfl, t2⟩
    · obtain ⟨τ, t1, t2⟩ := c_chr (c := 32) z hq (by omega)
      rw [w, if_neg one_ne, if_neg one_ne, show f_J4_append_cf468 32 ρ = some τ from t1, bnd_d, lt_d]
      exact ⟨τ, rfl, t2⟩
  rw [f_X9_row_l40, if_neg (fun z => by have := (I_lt (by omega) (by omega)).mp z; omega), e5 Z]
  unfold chC
  by_cases q : f 2 = I c
  · obtain ⟨τ1, t1, t2⟩ := c_chr (c := 77) Z (by omega) (by omega)
    rw [if_pos q.symm, if_pos q, show f_J4_append_cf468 77 σ = some τ1 from t1, bnd_d]
    exact sp t2 (by show p.1 + 1 < 16; omega)
  · have := cN_le f (I c) m
    obtain ⟨τ1, t1, t2⟩ := c_num (x := cN f (I c) m) Z (by rw [nd_1 (by omega)]; omega) (by omega)
    rw [tn_small (by omega)] at t2
    rw [if_neg (fun z => q z.symm), if_neg q, c_in (rr Z) hm ho.2.1.2, bnd_d, t1, bnd_d]
    exact sp t2 (by show p.1 + 1 < 16; omega)
theorem c_last (r : rep 0 σ0 f) (ho : okC B n m f) (hc : c < 16) (hp : p.1 + 1 ≤ 16) (Z : BL σ0 p σ) (k : Nat) : ∃ τ, f_X9_row_l40 (I c) a (k + 2) (I c) σ = some (Sum.inl (I (tc (chC f m c) p).1), τ) ∧ BL σ0 (tc (chC f m c) p) τ := by
  have hm := ho.2.1.1
  have rr : ∀ {q : Tx} {ρ : Mm}, BL σ0 q ρ → rep 0 ρ f := fun z => r.move (fun a _ h => z.2.2.2.2 a (by omega) (by omega))
  have e5 : ∀ {q : Tx} {ρ : Mm}, BL σ0 q ρ → ρ 0 5 = f 2 := fun z => (rr z).get0 (k := 2) (by omega)
  have fin : ∀ {q : Tx} {ρ : Mm}, BL σ0 q ρ → (f_X9_row_l40 (I c) a (k + 1) (I (c + 1)) ρ) = some (Sum.inl (I q.1), ρ) := fun {q ρ} z => by
    rw [f_X9_row_l40, if_pos ((I_lt (by omega) (by omega)).mpr (by omega)), c_len z, bnd_d]
  rw [f_X9_row_l40, if_neg (fun z => by have := (I_lt (by omega) (by omega)).mp z; omega), e5 Z]
  unfold chC
  by_cases q : f 2 = I c
  · obtain ⟨τ1, t1, t2⟩ := c_chr (c := 77) Z (by omega) (by omega)
    rw [if_pos q.symm, if_pos q, show f_J4_append_cf468 77 σ = some τ1 from t1, bnd_d, if_pos (Int32.le_refl _), I_a1, lt_d, fin t2]
    exact ⟨τ1, rfl, t2⟩
  · have := cN_le f (I c) m
    obtain ⟨τ1, t1, t2⟩ := c_num (x := cN f (I c) m) Z (by rw [nd_1 (by omega)]; omega) (by omega)
    rw [tn_small (by omega)] at t2
    rw [if_neg (fun z => q z.symm), if_neg q, c_in (rr Z) hm ho.2.1.2, bnd_d, t1, bnd_d, if_pos (Int32.le_refl _), I_a1, lt_d, fin t2]
    exact ⟨τ1, rfl, t2⟩
/-- the reference's one cell -/
theorem r_here' (r : σ0 199 = f) (ho : okC B n m f) {v9 : Int32} (h9 : v9 = I c) (hp : p.1 < 30) (Z : RLn σ0 p σ) (k : Nat) : ∃ τ, (if (σ 199 2) = v9 then (bnd (f_X10_sign 77 σ) fun σ19 => lt (v9 + 1) fun x20 => f_X10_row_l32 a k x20 σ19) else (bnd (f_X10_visitorsIn v9 σ) fun q14 => bnd (f_X10_sign (48 + q14) σ) fun σ16 => lt (v9 + 1) fun x17 => f_X10_row_l32 a k x17 σ16)) = f_X10_row_l32 a k (I (c + 1)) τ ∧ RLn σ0 (tc (chC f m c) p) τ := by
  subst h9
  have e : σ 199 = f := by rw [Z.2.2.2.1 199 (by omega) (by omega)]; exact r
  rw [I_a1, e]
  unfold chC
  by_cases q : f 2 = I c
  · obtain ⟨τ1, t1, t2⟩ := r_sgn (c := 77) Z hp
    rw [if_pos q, if_pos q, show f_X10_sign 77 σ = some τ1 from t1, bnd_d, lt_d]
    exact ⟨τ1, rfl, t2⟩
  · obtain ⟨τ1, t1, t2⟩ := r_sgn (c := 48 + cN f (I c) m) Z hp
    rw [if_neg q, if_neg q, r_visIn (by rw [e]; exact ho), bnd_d, e, show (48 : Int32) + I (cN f (I c) m) = I (48 + cN f (I c) m) from I_add 48 _, t1, bnd_d, lt_d]
    exact ⟨τ1, rfl, t2⟩
theorem r_first {r0 : Nat} (r : σ0 199 = f) (ho : okC B n m f) (hr : r0 < 4) (hp : p.1 < 30) (Z : RLn σ0 p σ) (k : Nat) : ∃ τ, f_X10_row_l32 (I r0) (k + 1) (I (4 * r0)) σ = f_X10_row_l32 (I r0) k (I (4 * r0 + 1)) τ ∧ RLn σ0 (tc (chC f m (4 * r0)) p) τ := by
  rw [f_X10_row_l32, show (4 : Int32) * I r0 = I (4 * r0) from I_mul 4 r0, I_a4, if_neg (nle (by omega) (by omega)), if_pos (Int32.le_refl _)]
  exact r_here' r ho rfl hp Z k
theorem r_next' {r0 : Nat} (r : σ0 199 = f) (ho : okC B n m f) (hr : r0 < 4) (h1 : 4 * r0 < c + 1) (h2 : c + 1 < 4 * r0 + 4) (hp : p.1 + 1 < 30) (Z : RLn σ0 p σ) (k : Nat) : ∃ τ, f_X10_row_l32 (I r0) (k + 1) (I (c + 1)) σ = f_X10_row_l32 (I r0) k (I (c + 1 + 1)) τ ∧ RLn σ0 (tc (chC f m (c + 1)) (tc (spC f c) p)) τ := by
  have hx : ∀ x, hN c (c + 1) = some x → x < 24 := fun x q => (hN_ed q).1
  have e : σ 199 = f := by rw [Z.2.2.2.1 199 (by omega) (by omega)]; exact r
  rw [f_X10_row_l32, show (4 : Int32) * I r0 = I (4 * r0) from I_mul 4 r0, I_a4, if_neg (nle h2 (by omega)), if_neg (nle h1 (by omega)), show I (c + 1) - 1 = I c from I_sub (b := 1) (by omega), n_hedge (by omega) (by omega), bnd_d, r_openx hx, bnd_d, e]
  unfold spC
  rcases opB01 f (hN c (c + 1)) with w | w
  · obtain ⟨τ1, t1, t2⟩ := r_sgn (c := 124) Z (by omega)
    rw [w, if_pos rfl, if_pos rfl, show f_X10_sign 124 σ = some τ1 from t1, bnd_d]
    exact r_here' r ho rfl (by show p.1 + 1 < 30; omega) t2 k
  · obtain ⟨τ1, t1, t2⟩ := r_sgn (c := 32) Z (by omega)
    rw [w, if_neg one_ne, if_neg one_ne, show f_X10_sign 32 σ = some τ1 from t1, bnd_d]
    exact r_here' r ho rfl (by show p.1 + 1 < 30; omega) t2 k
end
theorem q_row {σ : Mm} {B : Nat} (e2 : Nat) (R : RR B σ) (a : Int32) : ∃ out τ, f_X9_row a σ = some (out, τ) ∧ ∃ r ρ, f_X10_row a τ = some (r, ρ) ∧ RR B ρ ∧ same2 out 3 e2 r (ρ 198 12) := by
  obtain ⟨f, hf⟩ : ∃ f, f = σ 199 := ⟨_, rfl⟩
  have h : rep 0 σ f := by rw [hf]; exact R.1
  obtain ⟨n, m, ho⟩ : ok B f := by rw [hf]; exact R.2.1
  unfold f_X9_row f_X10_row
  rcases ix_cases a (N := 4) (by omega) with ⟨r, r1, rfl, r3⟩ | ⟨r1, r3⟩
  · rw [if_neg (I_n0 (by omega)), if_pos (show I r < 4 from (I_lt (b := 4) (by omega) (by omega)).mpr r1)]
    obtain ⟨σ1, s1, S1⟩ := c_clear R.2.2.2.2.2.2
    have e1 : I r * 4 = I (4 * r) := by rw [show I r * 4 = I (r * 4) from I_mul r 4, Nat.mul_comm]
    have e2 : I (4 * r) + 4 - 1 = I (4 * r + 3) := by rw [I_a4]; exact I_sub (b := 1) (by omega)
    rw [s1, bnd_d, e1, e2, lt_d, lt_d]
    obtain ⟨σ2, s2, S2⟩ := c_cell (a := I r) (X := 4 * r + 3) (c := 4 * r) h ho (by omega) (by omega) (by omega) (by show 0 + 2 ≤ 16; omega) S1 7
    obtain ⟨σ3, s3, S3⟩ := c_cell (a := I r) (X := 4 * r + 3) (c := 4 * r + 1) h ho (by omega) (by omega) (by omega) (by show 2 + 2 ≤ 16; omega) S2 6
    obtain ⟨σ4, s4, S4⟩ := c_cell (a := I r) (X := 4 * r + 3) (c := 4 * r + 2) h ho (by omega) (by omega) (by omega) (by show 4 + 2 ≤ 16; omega) S3 5
    obtain ⟨τ, s5, S5⟩ := c_last (a := I r) (c := 4 * r + 3) h ho (by omega) (by show 6 + 1 ≤ 16; omega) S4 3
    rw [s2, s3, s4, s5]
    refine ⟨_, τ, rfl, ?_⟩
    have hin : f_X10_in (I r).toInt64 0 3 (up τ 198 12 0) = some (match ix (I r) 4 with | none => 0 | some _ => 1) := n_inN (by omega) (by omega) (show (3 : Int64).toInt = ((4 : Nat) : Int) - 1 by decide)
    rw [r3] at hin
    dsimp only at hin
    have e199 : (up (up τ 198 12 0) 198 20 0) 199 = f := by rw [up_n _ _ _ (by omega), up_n _ _ _ (by omega), S5.2.2.2.2 199 (by omega) (by omega), hf]
    rw [lt_d, hin, bnd_d, if_neg one_ne, lt_d, show (4 : Int32) * I r = I (4 * r) from I_mul 4 r, lt_d]
    obtain ⟨ρ1, t1, T1⟩ := r_first (r0 := r) e199 ho r1 (by show 0 < 30; omega) (RLn.start (up τ 198 12 0) (fun _ => 0)) 7
    obtain ⟨ρ2, t2, T2⟩ := r_next' (r0 := r) (c := 4 * r) e199 ho r1 (by omega) (by omega) (by show 1 + 1 < 30; omega) T1 6
    obtain ⟨ρ3, t3, T3⟩ := r_next' (r0 := r) (c := 4 * r + 1) e199 ho r1 (by omega) (by omega) (by show 3 + 1 < 30; omega) T2 5
    obtain ⟨ρ, t4, T4⟩ := r_next' (r0 := r) (c := 4 * r + 2) e199 ho r1 (by omega) (by omega) (by show 5 + 1 < 30; omega) T3 4
    rw [t1, t2, t3, t4, f_X10_row_l32, show (4 : Int32) * I r = I (4 * r) from I_mul 4 r, I_a4, if_pos (Int32.le_refl _)]
    obtain ⟨x1, x2⟩ := R.line S5 T4
    exact ⟨_, ρ, rfl, x1, x2, T4.1⟩
  · have hc : ∀ x : Option ((Int32 ⊕ Nat) × Mm), (if a < 0 then (some (Sum.inr 3, σ) : Option ((Int32 ⊕ Nat) × Mm)) else if a < 4 then x else some (Sum.inr 3, σ)) = some (Sum.inr 3, σ) := fun x => by
      rcases r1 with r1 | r1
      · rw [if_pos r1]
      · by_cases q : a < 0
        · rw [if_pos q]
        · rw [if_neg q, if_neg (show ¬ a < 4 from fun z => absurd r1 (Int32.not_le.mpr z))]
    rw [hc]
    refine ⟨_, _, rfl, ?_⟩
    have hin : f_X10_in a.toInt64 0 3 (up σ 198 12 0) = some (match ix a 4 with | none => 0 | some _ => 1) := n_inN (by omega) (by omega) (show (3 : Int64).toInt = ((4 : Nat) : Int) - 1 by decide)
    rw [r3] at hin
    dsimp only at hin
    rw [lt_d, hin, bnd_d, if_pos rfl, r_thr, bnm_d]
    exact ⟨_, _, rfl, (R.thr 0).thr 1, Or.inl ⟨rfl, thr12 _ _⟩⟩
theorem n_in1' {a : Int32} {n : Nat} {σ : Mm} (hn : n < 2147483648) : f_X10_in a.toInt64 0 ((I n - 1).toInt64) σ = some (match ix a n with | none => 0 | some _ => 1) := by
  have h := n_in1 (a := a) (σ := σ) (Nat.le_refl n) hn
  obtain ⟨x, hx⟩ : ∃ x, f_X10_in a.toInt64 0 ((I n - 1).toInt64) σ = some x := by
    cases e : f_X10_in a.toInt64 0 ((I n - 1).toInt64) σ with
    | none => rw [e] at h; cases h
    | some x => exact ⟨x, rfl⟩
  rw [hx, bnd_d] at h
  rw [hx]
  unfold bz at h
  by_cases q : x &&& 1 = x
  · rw [if_pos q] at h; exact h
  · rw [if_neg q] at h; cases h
theorem q_character {σ : Mm} {B : Nat} (e2 : Nat) (R : RR B σ) (a : Int32) : ∃ out τ, f_X9_character a σ = some (out, τ) ∧ ∃ r ρ, f_X10_character a τ = some (r, ρ) ∧ RR B ρ ∧ same2 out 1 e2 r (ρ 198 12) := by
  obtain ⟨h1, K, k1, k2, k3, k4⟩ := R.2.2.2.2.2.2
  unfold f_X9_character f_X10_character f_J4_length_8abf5 f_J5_length_8abf5
  rw [k2, bnd_d, bnd_d]
  have e20 : (up σ 198 12 0) 198 20 = I K := by rw [up_e, upd_n _ _ (by omega)]; exact k3
  have hin := n_in1' (a := a) (n := K) (σ := up σ 198 12 0) (by omega)
  rcases ix_cases a (N := K) (by omega) with ⟨j, j1, rfl, j3⟩ | ⟨j1, j3⟩
  · obtain ⟨c, c1, c2, c3⟩ := k4 j j1
    rw [j3] at hin
    dsimp only at hin
    rw [if_neg (I_n0 (by omega)), if_pos ((I_lt (by omega) (by omega)).mpr j1)]
    unfold f_J4_charAt_5068e f_J5_charAt_5068e f_J0_checkIndex_df160 f_J3_checkIndex_8e157
    have ec : ((((I c) &&& 255).toUInt32 % 65536).toInt32) = I c := (by decide +kernel : ∀ c, c < 128 → ((((I c) &&& 255).toUInt32 % 65536).toInt32) = I c) c c1
    have ed : (((I c).toUInt32 % 65536).toInt32) = I c := (by decide +kernel : ∀ c, c < 128 → (((I c).toUInt32 % 65536).toInt32) = I c) c c1
    have e16 : (16 : Int32) >>> ((0 : Int32) &&& 31) = I 16 := by decide
    have mn : (if I 16 < I K then I 16 else I K) = I K := if_neg (fun z => by have := (I_lt (by omega) (by omega)).mp z; omega)
    rw [h1, lt_d, k2, e16, mn, lt_d, if_neg (I_n0 (by omega)), if_pos ((I_lt (by omega) (by omega)).mpr j1), bnd_d, bnd_d, if_pos rfl, gd_I (show j < 16 by omega) (by omega), I_clamp (by omega), c2, ec, cz_I (by omega), bnd_d, cz_I (by omega), bnd_d, cz_I (by omega)]
    refine ⟨_, _, rfl, ?_⟩
    rw [lt_d, e20, hin, bnd_d, if_neg one_ne, gd_I (show j < 30 by omega) (by omega), up_n _ _ _ (show 206 ≠ 198 by omega), c3, ed, cz_I (by omega)]
    exact ⟨_, _, rfl, R.thr 0, thr12 _ _, rfl⟩
  · rw [j3] at hin
    dsimp only at hin
    have hc : ∀ x : Option ((Int32 ⊕ Nat) × Mm), (if a < 0 then (some (Sum.inr 1, σ) : Option ((Int32 ⊕ Nat) × Mm)) else if a < I K then x else some (Sum.inr 1, σ)) = some (Sum.inr 1, σ) := fun x => by
      rcases j1 with j1 | j1
      · rw [if_pos j1]
      · by_cases q : a < 0
        · rw [if_pos q]
        · rw [if_neg q, if_neg (fun z => absurd j1 (Int32.not_le.mpr z))]
    rw [hc]
    refine ⟨_, _, rfl, ?_⟩
    rw [lt_d, e20, hin, bnd_d, if_pos rfl, r_thr, bnm_d]
    unfold cz
    rw [if_pos (by decide)]
    exact ⟨_, _, rfl, (R.thr 0).thr 1, Or.inl ⟨rfl, thr12 _ _⟩⟩
/-- with one exception only -/
theorem one_of {f : Option ((Int32 ⊕ Nat) × Mm)} {g : Mm → Option (Int32 × Mm)} {B e : Nat} (h : ∀ e2, ∃ out τ, f = some (out, τ) ∧ ∃ r ρ, g τ = some (r, ρ) ∧ RR B ρ ∧ same2 out e e2 r (ρ 198 12)) : ∃ out τ, f = some (out, τ) ∧ ∃ r ρ, g τ = some (r, ρ) ∧ RR B ρ ∧ same1 out e r (ρ 198 12) := by
  obtain ⟨out, τ, h1, r, ρ, h2, h3, h4⟩ := h 100
  obtain ⟨out', τ', g1, r', ρ', g2, g3, g4⟩ := h 101
  rw [h1] at g1
  cases g1
  rw [h2] at g2
  cases g2
  refine ⟨out, τ, h1, r, ρ, h2, h3, ?_⟩
  match out, h4, g4 with
  | .inl a, h4, _ => exact h4
  | .inr k, h4, g4 =>
    rcases h4 with h4 | h4
    · exact h4
    · rcases g4 with g4 | g4
      · exact g4
      · exact absurd (h4.1.symm.trans g4.1) (by decide)
