/-! THE STATE: what the class's cells and the reference's row of numbers say of each other -/
theorem I_addL (a n : Nat) : I a + (@OfNat.ofNat Int32 n Int32.instOfNat) = I (a + @OfNat.ofNat Nat n (instOfNatNat n)) := I_add a n
theorem I_addR (a n : Nat) : (@OfNat.ofNat Int32 n Int32.instOfNat) + I a = I (@OfNat.ofNat Nat n (instOfNatNat n) + a) := I_add n a
theorem I_a0 (a : Nat) : I a + 0 = I (a + 0) := I_add a 0
theorem I_a1 (a : Nat) : I a + 1 = I (a + 1) := I_add a 1
theorem I_a2 (a : Nat) : I a + 2 = I (a + 2) := I_add a 2
theorem I_a3 (a : Nat) : I a + 3 = I (a + 3) := I_add a 3
theorem I_a4 (a : Nat) : I a + 4 = I (a + 4) := I_add a 4
theorem I_a5 (a : Nat) : I a + 5 = I (a + 5) := I_add a 5
theorem I_a6 (a : Nat) : I a + 6 = I (a + 6) := I_add a 6
theorem I_a7 (a : Nat) : I a + 7 = I (a + 7) := I_add a 7
theorem I_mulR (a n : Nat) : (@OfNat.ofNat Int32 n Int32.instOfNat) * I a = I (@OfNat.ofNat Nat n (instOfNatNat n) * a) := Int32.toBitVec_inj.mp (BitVec.ofNat_mul n a).symm
theorem I_mul (a b : Nat) : I a * I b = I (a * b) := Int32.toBitVec_inj.mp (BitVec.ofNat_mul a b).symm
/-- a number as an index below N -/
def ix (a : Int32) (N : Nat) : Option Nat := if a < 0 ∨ I N ≤ a then none else some a.toNatClampNeg
theorem ix_I {n N : Nat} (h : n < N) (hN : N < 2147483648) : ix (I n) N = some n := by
  unfold ix
  rw [if_neg, I_clamp (by omega)]
  rintro (q | q)
  · exact I_n0 (by omega) q
  · exact nle h hN q
theorem ix_cases (a : Int32) {N : Nat} (hN : N < 2147483648) : (∃ n, n < N ∧ a = I n ∧ ix a N = some n) ∨ ((a < 0 ∨ I N ≤ a) ∧ ix a N = none) := by
  by_cases h : a < 0 ∨ I N ≤ a
  · exact Or.inr ⟨h, by unfold ix; rw [if_pos h]⟩
  · obtain ⟨n, h1, h2⟩ := to_I (x := a) (N := N) (fun q => h (Or.inl q)) (Int32.not_le.mp fun q => h (Or.inr q)) hN
    exact Or.inl ⟨n, h1, h2, by rw [h2]; exact ix_I h1 hN⟩
theorem ix_lt {a : Int32} {N n : Nat} (hN : N < 2147483648) (h : ix a N = some n) : n < N ∧ a = I n := by
  rcases ix_cases a hN with ⟨m, h1, h2, h3⟩ | ⟨-, h3⟩
  · rw [h3] at h; cases h; exact ⟨h1, h2⟩
  · rw [h3] at h; cases h
/-! the reference's 'in' -/
theorem cmp_lt (x y : Int64) : (lg_cmp x y < 0) ↔ x < y := by
  unfold lg_cmp
  by_cases h : x > y
  · rw [if_pos h]
    exact ⟨fun q => absurd q (by decide), fun q => (Int64.lt_irrefl (Int64.lt_trans q h)).elim⟩
  · rw [if_neg h]
    by_cases e : x = y
    · rw [if_pos e]
      exact ⟨fun q => absurd q (by decide), fun q => (Int64.lt_irrefl (by rw [e] at q; exact q)).elim⟩
    · rw [if_neg e]
      refine ⟨fun _ => ?_, fun _ => by decide⟩
      rcases Int64.lt_or_eq_of_le (Int64.not_lt.mp h) with q | q
      · exact q
      · exact absurd q e
theorem cmp_gt (x y : Int64) : (0 < lg_cmp x y) ↔ y < x := by
  unfold lg_cmp
  by_cases h : x > y
  · rw [if_pos h]; exact ⟨fun _ => h, fun _ => by decide⟩
  · rw [if_neg h]
    by_cases e : x = y
    · rw [if_pos e]; exact ⟨fun q => absurd q (by decide), fun q => absurd q h⟩
    · rw [if_neg e]; exact ⟨fun q => absurd q (by decide), fun q => absurd q h⟩
theorem n_in {a lo hi : Int32} {L H : Int64} {σ : Mm} (hL : L.toInt = lo.toInt) (hH : H.toInt = hi.toInt) : f_X10_in a.toInt64 L H σ = some (if lo ≤ a ∧ a ≤ hi then 1 else 0) := by
  have e1 : (lg_cmp a.toInt64 L < 0) ↔ a < lo := by
    rw [cmp_lt, Int64.lt_iff_toInt_lt, Int32.lt_iff_toInt_lt, Int32.toInt_toInt64, hL]
  have e2 : (0 < lg_cmp a.toInt64 H) ↔ hi < a := by
    rw [cmp_gt, Int64.lt_iff_toInt_lt, Int32.lt_iff_toInt_lt, Int32.toInt_toInt64, hH]
  unfold f_X10_in
  by_cases h1 : a < lo
  · rw [if_pos (e1.mpr h1), if_neg (fun q => absurd h1 (Int32.not_lt.mpr q.1))]
  · rw [if_neg (fun q => h1 (e1.mp q))]
    by_cases h2 : hi < a
    · rw [if_pos (e2.mpr h2), if_neg (fun q => absurd h2 (Int32.not_lt.mpr q.2))]
    · rw [if_neg (fun q => h2 (e2.mp q)), if_pos ⟨Int32.not_lt.mp h1, Int32.not_lt.mp h2⟩]
/-- within 0 .. N-1 -/
theorem n_inN {a : Int32} {N : Nat} {H : Int64} {σ : Mm} (hN : 0 < N) (hN2 : N < 2147483648) (hH : H.toInt = (N : Int) - 1) : f_X10_in a.toInt64 0 H σ = some (match ix a N with | none => 0 | some _ => 1) := by
  rw [n_in (lo := 0) (hi := I (N - 1)) rfl (by rw [I_toInt (by omega), hH]; omega)]
  rcases ix_cases a hN2 with ⟨n, h1, h2, h3⟩ | ⟨h, h3⟩
  · rw [h3, h2, if_pos ⟨Int32.not_lt.mp (I_n0 (by omega)), (I_le (by omega) (by omega)).mpr (by omega)⟩]
  · rw [h3, if_neg]
    rintro ⟨q1, q2⟩
    rcases h with h | h
    · exact absurd h (Int32.not_lt.mpr q1)
    · have := Int32.le_trans h q2
      have := (I_le (by omega) (by omega)).mp this
      omega
theorem n_in1 {a : Int32} {n N : Nat} {σ : Mm} (hn : n ≤ N) (hN : N < 2147483648) : bnd (f_X10_in a.toInt64 0 ((I n - 1).toInt64) σ) (fun q1 => bz q1 (some q1)) = some (match ix a n with | none => 0 | some _ => 1) := by
  rcases Nat.eq_zero_or_pos n with h | h
  · subst h
    rw [n_in (lo := 0) (hi := -1) rfl (by rw [Int32.toInt_toInt64]; rfl), bnd_d]
    have e : ix a 0 = none := by
      rcases ix_cases a (N := 0) (by omega) with ⟨m, h1, -⟩ | ⟨-, h3⟩
      · omega
      · exact h3
    rw [e, if_neg]
    · rfl
    · rintro ⟨q1, q2⟩
      have := Int32.le_trans q1 q2
      exact absurd this (by decide)
  · rw [n_inN h (by omega) (by
      rw [Int32.toInt_toInt64, show I n - 1 = I (n - 1) from I_sub h, I_toInt (by omega)]; omega), bnd_d]
    cases ix a n
    · rfl
    · exact bz_i1 _
/-! what is answered, what is refused -/
abbrev Fm : Type := Nat → Int32
abbrev Rs : Type := (Int32 × Fm) ⊕ (Int32 × Int32)
def yes (r : Int32) (f : Fm) : Rs := .inl (r, f)
def no (n d : Int32) : Rs := .inr (n, d)
/-- the class's cells of one visitor: the giver of one that isn't there yet is -1 -/
def cv (f : Fm) (v k : Nat) : Int32 := if k = 4 ∧ f 1 ≤ I v then -1 else f (46 + 8 * v + k)
def rep (i : Nat) (σ : Mm) (f : Fm) : Prop :=
  (∀ k, k < 6 → σ i (3 + k) = f k) ∧ (∀ h, h < 24 → σ (i + 2) h = f (6 + h)) ∧ (∀ g, g < 4 → ∀ k, k < 4 → σ (i + 4 + g) k = f (30 + 4 * g + k)) ∧ ∀ v, v < 5 → ∀ k, k < 8 → σ (i + 9 + v) k = cv f v k
theorem rep.ext {i : Nat} {σ : Mm} {f g : Fm} (h : rep i σ f) (e : ∀ k, k < 86 → f k = g k) : rep i σ g := by
  obtain ⟨h1, h2, h3, h4⟩ := h
  refine ⟨fun k hk => by rw [h1 k hk, e k (by omega)], fun k hk => by rw [h2 k hk, e _ (by omega)], fun a ha k hk => by rw [h3 a ha k hk, e _ (by omega)], fun v hv k hk => ?_⟩
  rw [h4 v hv k hk]
  unfold cv
  rw [e 1 (by omega), e _ (by omega)]
theorem rep.move {i : Nat} {σ τ : Mm} {f : Fm} (h : rep i σ f) (e : ∀ a, i ≤ a → a < i + 14 → τ a = σ a) : rep i τ f := by
  obtain ⟨h1, h2, h3, h4⟩ := h
  exact ⟨fun k hk => by rw [e i (by omega) (by omega)]; exact h1 k hk, fun k hk => by rw [e _ (by omega) (by omega)]; exact h2 k hk, fun a ha k hk => by rw [e _ (by omega) (by omega)]; exact h3 a ha k hk, fun v hv k hk => by rw [e _ (by omega) (by omega)]; exact h4 v hv k hk⟩
/-- one more write on either side -/
theorem rep.top {σ : Mm} {f : Fm} (h : rep 0 σ f) {k : Nat} (hk : k < 6) (h1 : k ≠ 1) (x : Int32) : rep 0 (up σ 0 (3 + k) x) (upd f k x) := by
  obtain ⟨a1, a2, a3, a4⟩ := h
  refine ⟨fun j hj => ?_, fun j hj => ?_, fun g hg j hj => ?_, fun v hv j hj => ?_⟩
  · rw [up_e]
    by_cases e : j = k
    · subst e; rw [upd_e, upd_e]
    · rw [upd_n _ _ (by omega), upd_n _ _ e]; exact a1 j hj
  · rw [up_n _ _ _ (by omega), upd_n _ _ (by omega)]; exact a2 j hj
  · rw [up_n _ _ _ (by omega), upd_n _ _ (by omega)]; exact a3 g hg j hj
  · rw [up_n _ _ _ (by omega), a4 v hv j hj]
    unfold cv
    rw [upd_n _ _ (by omega), upd_n _ _ (by omega)]
theorem rep.leaf {σ : Mm} {f : Fm} (h : rep 0 σ f) {k : Nat} (hk : k < 24) (x : Int32) : rep 0 (up σ 2 k x) (upd f (6 + k) x) := by
  obtain ⟨a1, a2, a3, a4⟩ := h
  refine ⟨fun j hj => ?_, fun j hj => ?_, fun g hg j hj => ?_, fun v hv j hj => ?_⟩
  · rw [up_n _ _ _ (by omega), upd_n _ _ (by omega)]; exact a1 j hj
  · rw [up_e]
    by_cases e : j = k
    · subst e; rw [upd_e, upd_e]
    · rw [upd_n _ _ e, upd_n _ _ (by omega)]; exact a2 j hj
  · rw [up_n _ _ _ (by omega), upd_n _ _ (by omega)]; exact a3 g hg j hj
  · rw [up_n _ _ _ (by omega), a4 v hv j hj]
    unfold cv
    rw [upd_n _ _ (by omega), upd_n _ _ (by omega)]
theorem rep.gard {σ : Mm} {f : Fm} (h : rep 0 σ f) {g k : Nat} (hg : g < 4) (hk : k < 4) (x : Int32) : rep 0 (up σ (4 + g) k x) (upd f (30 + 4 * g + k) x) := by
  obtain ⟨a1, a2, a3, a4⟩ := h
  refine ⟨fun j hj => ?_, fun j hj => ?_, fun b hb j hj => ?_, fun v hv j hj => ?_⟩
  · rw [up_n _ _ _ (by omega), upd_n _ _ (by omega)]; exact a1 j hj
  · rw [up_n _ _ _ (by omega), upd_n _ _ (by omega)]; exact a2 j hj
  · by_cases e : b = g
    · subst e
      rw [show 0 + 4 + b = 4 + b by omega, up_e]
      by_cases e2 : j = k
      · subst e2; rw [upd_e, upd_e]
      · rw [upd_n _ _ e2, upd_n _ _ (by omega), ← a3 b hb j hj, show 0 + 4 + b = 4 + b by omega]
    · rw [up_n _ _ _ (by omega), upd_n _ _ (by omega)]; exact a3 b hb j hj
  · rw [up_n _ _ _ (by omega), a4 v hv j hj]
    unfold cv
    rw [upd_n _ _ (by omega), upd_n _ _ (by omega)]
theorem rep.vis {σ : Mm} {f : Fm} (h : rep 0 σ f) {v k : Nat} (hv : v < 5) (hk : k < 8) (hf : ¬ f 1 ≤ I v) (x : Int32) : rep 0 (up σ (9 + v) k x) (upd f (46 + 8 * v + k) x) := by
  obtain ⟨a1, a2, a3, a4⟩ := h
  refine ⟨fun j hj => ?_, fun j hj => ?_, fun g hg j hj => ?_, fun b hb j hj => ?_⟩
  · rw [up_n _ _ _ (by omega), upd_n _ _ (by omega)]; exact a1 j hj
  · rw [up_n _ _ _ (by omega), upd_n _ _ (by omega)]; exact a2 j hj
  · rw [up_n _ _ _ (by omega), upd_n _ _ (by omega)]; exact a3 g hg j hj
  · unfold cv
    rw [upd_n f x (show 1 ≠ 46 + 8 * v + k by omega)]
    by_cases e : b = v
    · subst e
      rw [show 0 + 9 + b = 9 + b by omega, up_e]
      have a5 := a4 b hb j hj
      rw [show 0 + 9 + b = 9 + b by omega] at a5
      unfold cv at a5
      rw [if_neg (fun q => hf q.2)] at a5 ⊢
      by_cases e2 : j = k
      · subst e2; rw [upd_e, upd_e]
      · rw [upd_n _ _ e2, upd_n _ _ (by omega)]; exact a5
    · rw [up_n _ _ _ (by omega), upd_n _ _ (by omega)]; exact a4 b hb j hj
theorem rep.get0 {σ : Mm} {f : Fm} (h : rep 0 σ f) {k : Nat} (hk : k < 6) : σ 0 (3 + k) = f k := h.1 k hk
theorem rep.getL {σ : Mm} {f : Fm} (h : rep 0 σ f) {k : Nat} (hk : k < 24) : σ 2 k = f (6 + k) := h.2.1 k hk
theorem rep.getG {σ : Mm} {f : Fm} (h : rep 0 σ f) {g k : Nat} (hg : g < 4) (hk : k < 4) : σ (4 + g) k = f (30 + 4 * g + k) := by
  have := h.2.2.1 g hg k hk
  rwa [show 0 + 4 + g = 4 + g by omega] at this
theorem rep.getV {σ : Mm} {f : Fm} (h : rep 0 σ f) {v k : Nat} (hv : v < 5) (hk : k < 8) (hf : ¬ f 1 ≤ I v) : σ (9 + v) k = f (46 + 8 * v + k) := by
  have := h.2.2.2 v hv k hk
  rw [show 0 + 9 + v = 9 + v by omega] at this
  unfold cv at this
  rwa [if_neg (fun q => hf q.2)] at this
/-! what numbers a state may hold -/
/-- a visitor: where, how long, and one of: none lasts; a bond of one of n gardeners -/
def okV (B n : Nat) (f : Fm) (v : Nat) : Prop :=
  (∃ c, c < 16 ∧ f (46 + 8 * v + 1) = I c) ∧ (∃ h, h ≤ B ∧ f (46 + 8 * v + 2) = I h) ∧ (∃ a, a ≤ 15 ∧ f (46 + 8 * v + 3) = I a) ∧
  ((f (46 + 8 * v + 4) = -1 ∧ f (46 + 8 * v + 5) = 0 ∧ f (46 + 8 * v + 6) = 0 ∧ (f (46 + 8 * v + 7) = 0 ∨ f (46 + 8 * v + 7) = 1)) ∨
   ((∃ g, g < n ∧ f (46 + 8 * v + 4) = I g) ∧ (∃ r, 1 ≤ r ∧ r ≤ 5 ∧ f (46 + 8 * v + 5) = I r) ∧ (f (46 + 8 * v + 6) = 0 ∨ f (46 + 8 * v + 6) = 1) ∧ f (46 + 8 * v + 7) = 0))
def S4 (c : Nat → Nat) : Nat := c 0 + c 1 + c 2 + c 3
def S5 (c : Nat → Nat) : Nat := c 0 + c 1 + c 2 + c 3 + c 4
def money (n m : Nat) (f : Fm) : Prop := ∃ c d : Nat → Nat, (∀ g, g < 4 → f (30 + 4 * g) = I (c g)) ∧ (∀ v, v < 5 → f (46 + 8 * v) = I (d v)) ∧ S4 c + S5 d ≤ 99 * (n + m)
def okC (B n m : Nat) (f : Fm) : Prop :=
  (n ≤ 4 ∧ f 0 = I n) ∧ (m ≤ 5 ∧ f 1 = I m) ∧ (∀ g, n ≤ g → g < 4 → ∀ k, k < 4 → f (30 + 4 * g + k) = 0) ∧ (∀ v, m ≤ v → v < 5 → ∀ k, k < 8 → f (46 + 8 * v + k) = 0) ∧ (∀ v, v < m → okV B n f v) ∧
  (f 2 = -1 ∨ ∃ c, c < 16 ∧ f 2 = I c) ∧ (∀ h, h < 24 → ∃ l, l ≤ 9 ∧ f (6 + h) = I l) ∧ money n m f
def ok (B : Nat) (f : Fm) : Prop := ∃ n m, okC B n m f
theorem S4_upd {c : Nat → Nat} {g : Nat} (hg : g < 4) (x : Nat) : S4 (fun j => if j = g then x else c j) + c g = S4 c + x := by
  unfold S4
  rcases (show g = 0 ∨ g = 1 ∨ g = 2 ∨ g = 3 by omega) with rfl | rfl | rfl | rfl <;> simp <;> omega
theorem S5_upd {c : Nat → Nat} {g : Nat} (hg : g < 5) (x : Nat) : S5 (fun j => if j = g then x else c j) + c g = S5 c + x := by
  unfold S5
  rcases (show g = 0 ∨ g = 1 ∨ g = 2 ∨ g = 3 ∨ g = 4 by omega) with rfl | rfl | rfl | rfl | rfl <;> simp <;> omega
theorem S4_le {c : Nat → Nat} {g : Nat} (hg : g < 4) : c g ≤ S4 c := by
  unfold S4
  rcases (show g = 0 ∨ g = 1 ∨ g = 2 ∨ g = 3 by omega) with rfl | rfl | rfl | rfl <;> omega
theorem S5_le {c : Nat → Nat} {g : Nat} (hg : g < 5) : c g ≤ S5 c := by
  unfold S5
  rcases (show g = 0 ∨ g = 1 ∨ g = 2 ∨ g = 3 ∨ g = 4 by omega) with rfl | rfl | rfl | rfl | rfl <;> omega
/-- a gardener's coins, a visitor's -/
theorem money.setG {n m n1 m1 : Nat} {f : Fm} {c d : Nat → Nat} (h1 : ∀ g, g < 4 → f (30 + 4 * g) = I (c g)) (h2 : ∀ v, v < 5 → f (46 + 8 * v) = I (d v)) {g : Nat} (hg : g < 4) {x : Nat} (hs : S4 c + x + S5 d ≤ 99 * (n1 + m1) + c g) : money n1 m1 (upd f (30 + 4 * g) (I x)) := by
  refine ⟨fun j => if j = g then x else c j, d, fun j hj => ?_, fun v hv => by rw [upd_n _ _ (by omega)]; exact h2 v hv, ?_⟩
  · by_cases e : j = g
    · subst e; rw [upd_e]; simp
    · rw [upd_n _ _ (by omega)]; simp [e]; exact h1 j hj
  · have := S4_upd (c := c) hg x; omega
theorem money.setV {n m n1 m1 : Nat} {f : Fm} {c d : Nat → Nat} (h1 : ∀ g, g < 4 → f (30 + 4 * g) = I (c g)) (h2 : ∀ v, v < 5 → f (46 + 8 * v) = I (d v)) {v : Nat} (hv : v < 5) {x : Nat} (hs : S4 c + x + S5 d ≤ 99 * (n1 + m1) + d v) : money n1 m1 (upd f (46 + 8 * v) (I x)) := by
  refine ⟨c, fun j => if j = v then x else d j, fun j hj => by rw [upd_n _ _ (by omega)]; exact h1 j hj, fun j hj => ?_, ?_⟩
  · by_cases e : j = v
    · subst e; rw [upd_e]; simp
    · rw [upd_n _ _ (by omega)]; simp [e]; exact h2 j hj
  · have := S5_upd (c := d) hv x; omega
theorem money.same {n m : Nat} {f g : Fm} (h : money n m f) (e1 : ∀ j, j < 4 → g (30 + 4 * j) = f (30 + 4 * j)) (e2 : ∀ j, j < 5 → g (46 + 8 * j) = f (46 + 8 * j)) : money n m g := by
  obtain ⟨c, d, a, b, s⟩ := h
  exact ⟨c, d, fun j hj => by rw [e1 j hj]; exact a j hj, fun j hj => by rw [e2 j hj]; exact b j hj, s⟩
theorem okV.same {B n : Nat} {f g : Fm} {v : Nat} (h : okV B n f v) (e : ∀ k, 1 ≤ k → k < 8 → g (46 + 8 * v + k) = f (46 + 8 * v + k)) : okV B n g v := by
  unfold okV at h ⊢
  rw [e 1 (by omega) (by omega), e 2 (by omega) (by omega), e 3 (by omega) (by omega), e 4 (by omega) (by omega), e 5 (by omega) (by omega), e 6 (by omega) (by omega), e 7 (by omega) (by omega)]
  exact h
theorem okV.mono {B B1 n n1 : Nat} {f : Fm} {v : Nat} (h : okV B n f v) (hB : B ≤ B1) (hn : n ≤ n1) : okV B1 n1 f v := by
  obtain ⟨a, ⟨x, x1, x2⟩, b, c⟩ := h
  refine ⟨a, ⟨x, by omega, x2⟩, b, c.elim Or.inl (fun ⟨⟨g, g1, g2⟩, r⟩ => Or.inr ⟨⟨g, by omega, g2⟩, r⟩)⟩
theorem ok.mono {B B1 : Nat} {f : Fm} (h : ok B f) (hB : B ≤ B1) : ok B1 f := by
  obtain ⟨n, m, a, b, c, d, e, r⟩ := h
  exact ⟨n, m, a, b, c, d, fun v hv => (e v hv).mono hB (Nat.le_refl _), r⟩
theorem ok.ext {B : Nat} {f g : Fm} (h : ok B f) (e : ∀ k, k < 86 → f k = g k) : ok B g := by
  obtain ⟨n, m, ⟨a1, a2⟩, ⟨b1, b2⟩, c, d, v, mi, l, mo⟩ := h
  refine ⟨n, m, ⟨a1, by rw [← e 0 (by omega)]; exact a2⟩, ⟨b1, by rw [← e 1 (by omega)]; exact b2⟩, fun j h1 h2 k hk => by rw [← e _ (by omega)]; exact c j h1 h2 k hk, fun j h1 h2 k hk => by rw [← e _ (by omega)]; exact d j h1 h2 k hk, fun j hj => (v j hj).same (fun k h1 h2 => (e _ (by omega)).symm), by rw [← e 2 (by omega)]; exact mi, fun h hh => by rw [← e _ (by omega)]; exact l h hh, mo.same (fun j hj => (e _ (by omega)).symm) (fun j hj => (e _ (by omega)).symm)⟩
/-- what a change leaves: of the class, of the reference -/
def cOk (σ : Mm) (x : Option (Int32 × Mm)) (r : Rs) : Prop := match r with
  | .inl (a, f) => ∃ τ, x = some (a, τ) ∧ a ≠ -1 ∧ rep 0 τ f ∧ ∀ i, 14 ≤ i → i ≠ 159 → i ≠ 160 → τ i = σ i
  | .inr (n, d) => ∃ τ, x = some (-1, τ) ∧ (τ 157 0 = n ∧ τ 157 1 = d ∧ τ 157 2 = 0) ∧ ∀ i, i ≠ 157 → i ≠ 159 → i ≠ 160 → τ i = σ i
def rOk (σ : Mm) (x : Option (Int32 × Mm)) (r : Rs) : Prop := match r with
  | .inl (a, f) => ∃ τ, x = some (a, τ) ∧ τ 199 = f ∧ ∀ i, i ≠ 199 → i ≠ 204 → τ i = σ i
  | .inr (n, d) => ∃ τ, x = some (-1, τ) ∧ (τ 198 6 = n ∧ τ 198 7 = d ∧ τ 198 8 = 0 ∧ τ 198 12 = 1) ∧ (∀ k, k < 6 ∨ 8 < k → k ≠ 12 → τ 198 k = σ 198 k) ∧ ∀ i, i ≠ 198 → i ≠ 204 → τ i = σ i
theorem c_no (σ : Mm) (n d : Int32) : ∃ τ, f_X5_because n d σ = some (-1, τ) ∧ (τ 157 0 = n ∧ τ 157 1 = d ∧ τ 157 2 = 0) ∧ ∀ i, i ≠ 157 → τ i = σ i := by
  refine ⟨up (up (up σ 157 0 n) 157 1 d) 157 2 0, rfl, ⟨?_, ?_, ?_⟩, fun i hi => ?_⟩
  · rw [up_e, upd_n _ _ (by decide), up_e, upd_n _ _ (by decide), up_e, upd_e]
  · rw [up_e, upd_n _ _ (by decide), up_e, upd_e]
  · rw [up_e, upd_e]
  · rw [up_n _ _ _ hi, up_n _ _ _ hi, up_n _ _ _ hi]
theorem r_no (σ : Mm) (n d : Int32) : ∃ τ, f_X10_refuse n d σ = some (-1, τ) ∧ (τ 198 6 = n ∧ τ 198 7 = d ∧ τ 198 8 = 0 ∧ τ 198 12 = 1) ∧ (∀ k, k < 6 ∨ 8 < k → k ≠ 12 → τ 198 k = σ 198 k) ∧ ∀ i, i ≠ 198 → τ i = σ i := by
  refine ⟨up (up (up (up σ 198 6 n) 198 7 d) 198 8 0) 198 12 1, rfl, ⟨?_, ?_, ?_, ?_⟩, fun k h1 h2 => ?_, fun i hi => ?_⟩
  · rw [up_e, upd_n _ _ (by decide), up_e, upd_n _ _ (by decide), up_e, upd_n _ _ (by decide), up_e, upd_e]
  · rw [up_e, upd_n _ _ (by decide), up_e, upd_n _ _ (by decide), up_e, upd_e]
  · rw [up_e, upd_n _ _ (by decide), up_e, upd_e]
  · rw [up_e, upd_e]
  · rw [up_e, upd_n _ _ h2, up_e, upd_n _ _ (by omega), up_e, upd_n _ _ (by omega), up_e, upd_n _ _ (by omega)]
  · rw [up_n _ _ _ hi, up_n _ _ _ hi, up_n _ _ _ hi, up_n _ _ _ hi]
/-- a refusal, with what went before it -/
theorem c_refuse {σ σ0 : Mm} (n d : Int32) (h0 : ∀ i, i ≠ 159 → i ≠ 160 → σ i = σ0 i) : cOk σ0 (bnm (f_X5_because n d σ) fun q τ => some (q, τ)) (no n d) := by
  obtain ⟨τ, h1, h2, h3⟩ := c_no σ n d
  exact ⟨τ, by rw [h1]; rfl, h2, fun i a b c => by rw [h3 i a, h0 i b c]⟩
theorem r_refuse {σ σ0 : Mm} (n d : Int32) (h0 : ∀ i, i ≠ 204 → σ i = σ0 i) : rOk σ0 (bnm (f_X10_refuse n d σ) fun q τ => some (q, τ)) (no n d) := by
  obtain ⟨τ, h1, h2, h3, h4⟩ := r_no σ n d
  exact ⟨τ, by rw [h1]; rfl, h2, fun k a b => by rw [h3 k a b, h0 198 (by decide)], fun i a b => by rw [h4 i a, h0 i b]⟩
theorem one_ne : ¬ (1 : Int32) = 0 := by decide
theorem zero_ne : ¬ (0 : Int32) = 1 := by decide
/-- the hedge between two numbers, or why there is none -/
def nb (a b : Int32) : Nat ⊕ (Int32 × Int32) := match ix a 16 with
  | none => .inr (1, 0)
  | some u => match ix b 16 with
    | none => .inr (1, 0)
    | some v => match hN u v with
      | none => .inr (2, if a < b then b else a)
      | some h => .inl h
theorem nb_lt {a b : Int32} {h : Nat} (q : nb a b = .inl h) : h < 24 := by
  unfold nb at q
  split at q
  · cases q
  · split at q
    · cases q
    · split at q
      · cases q
      · rename_i e; cases q; exact (hN_ed e).1
theorem m_cellx (a : Int32) (σ : Mm) : f_X4_isCell a σ = some (match ix a 16 with | none => 0 | some _ => 1) := by
  rcases ix_cases a (N := 16) (by omega) with ⟨u, h1, h2, h3⟩ | ⟨h, h3⟩
  · rw [h3, h2, m_cell h1]
  · rw [h3, m_cellN h]
theorem n_cellx (a : Int32) (σ : Mm) : f_X10_isCell a σ = some (match ix a 16 with | none => 0 | some _ => 1) := by
  unfold f_X10_isCell
  rw [n_inN (by omega) (by omega) (show (15 : Int64).toInt = ((16 : Nat) : Int) - 1 by decide), bnd_d]
  cases ix a 16
  · rfl
  · exact bz_i1 _
theorem between_ind (a b : Int32) (σ τ : Mm) : f_X4_hedgeBetween a b σ = f_X4_hedgeBetween a b τ := by
  have k : ∀ n v x2 x1, f_X4_hedgeBetween_l15 x2 x1 a b σ n v = f_X4_hedgeBetween_l15 x2 x1 a b τ n v := by
    intro n
    induction n with
    | zero => intro v x2 x1; rfl
    | succ n ih =>
      intro v x2 x1
      rw [f_X4_hedgeBetween_l15, f_X4_hedgeBetween_l15]
      simp only [lt_d, ih]
  unfold f_X4_hedgeBetween
  simp only [lt_d]
  exact k _ _ _ _
theorem m_between {σ : Mm} {u v : Nat} (hu : u < 16) (hv : v < 16) : f_X4_hedgeBetween (I u) (I v) σ = some (oI (hN u v)) := by
  rw [between_ind _ _ σ (fun _ _ => 0)]
  exact (by decide +kernel : ∀ u, u < 16 → ∀ v, v < 16 → f_X4_hedgeBetween (I u) (I v) (fun _ _ => 0) = some (oI (hN u v))) u hu v hv
theorem c_nb (a b : Int32) (σ : Mm) : match nb a b with
  | .inl h => f_X3_hedgeOrRefusal a b σ = some (I h, σ)
  | .inr (n, d) => ∃ τ, f_X3_hedgeOrRefusal a b σ = some (-1, τ) ∧ (τ 157 0 = n ∧ τ 157 1 = d ∧ τ 157 2 = 0) ∧ ∀ i, i ≠ 157 → τ i = σ i := by
  unfold f_X3_hedgeOrRefusal nb
  rw [m_cellx, bnd_d]
  rcases ix_cases a (N := 16) (by omega) with ⟨u, h1, h2, h3⟩ | ⟨h, h3⟩
  · rw [h3]
    dsimp only
    rw [if_neg one_ne, m_cellx, bnd_d]
    rcases ix_cases b (N := 16) (by omega) with ⟨v, k1, k2, k3⟩ | ⟨k, k3⟩
    · rw [k3]
      dsimp only
      rw [if_neg one_ne, h2, k2, m_between h1 k1, bnd_d]
      cases e : hN u v with
      | none =>
        dsimp only
        rw [if_pos (show oI none = -1 from rfl)]
        obtain ⟨τ, t1, t2, t3⟩ := c_no σ 2 (if I u < I v then I v else I u)
        exact ⟨τ, by rw [t1]; rfl, t2, t3⟩
      | some h =>
        dsimp only
        rw [if_neg (show ¬ oI (some h) = -1 from nm1 (by have := (hN_ed e).1; omega))]
        rfl
    · rw [k3]
      dsimp only
      rw [if_pos rfl]
      obtain ⟨τ, t1, t2, t3⟩ := c_no σ 1 0
      exact ⟨τ, by rw [t1]; rfl, t2, t3⟩
  · rw [h3]
    dsimp only
    rw [if_pos rfl]
    obtain ⟨τ, t1, t2, t3⟩ := c_no σ 1 0
    exact ⟨τ, by rw [t1]; rfl, t2, t3⟩
theorem n_nb (a b : Int32) (σ : Mm) : match nb a b with
  | .inl h => f_X10_areNeighbours a b σ = some (1, σ) ∧ f_X10_hedgeAt a b σ = some (I (6 + h))
  | .inr (n, d) => ∃ τ, f_X10_areNeighbours a b σ = some (0, τ) ∧ (τ 198 6 = n ∧ τ 198 7 = d ∧ τ 198 8 = 0 ∧ τ 198 12 = 1) ∧ (∀ k, k < 6 ∨ 8 < k → k ≠ 12 → τ 198 k = σ 198 k) ∧ ∀ i, i ≠ 198 → τ i = σ i := by
  unfold f_X10_areNeighbours nb
  rw [n_cellx, bnd_d]
  rcases ix_cases a (N := 16) (by omega) with ⟨u, h1, h2, h3⟩ | ⟨h, h3⟩
  · rw [h3]
    dsimp only
    rw [if_neg one_ne, n_cellx, bnd_d]
    rcases ix_cases b (N := 16) (by omega) with ⟨v, k1, k2, k3⟩ | ⟨k, k3⟩
    · rw [k3]
      dsimp only
      rw [if_neg one_ne, h2, k2, n_hedge h1 k1, bnd_d]
      cases e : hN u v with
      | none =>
        dsimp only
        rw [if_pos (show o6 none = -1 from rfl)]
        obtain ⟨τ, t1, t2, t3, t4⟩ := r_no σ 2 (if I u < I v then I v else I u)
        exact ⟨τ, by rw [t1]; rfl, t2, t3, t4⟩
      | some h =>
        dsimp only
        rw [if_neg (show ¬ o6 (some h) = -1 from nm1 (by have := (hN_ed e).1; omega))]
        exact ⟨rfl, rfl⟩
    · rw [k3]
      dsimp only
      rw [if_pos rfl]
      obtain ⟨τ, t1, t2, t3, t4⟩ := r_no σ 1 0
      exact ⟨τ, by rw [t1]; rfl, t2, t3, t4⟩
  · rw [h3]
    dsimp only
    rw [if_pos rfl]
    obtain ⟨τ, t1, t2, t3, t4⟩ := r_no σ 1 0
    exact ⟨τ, by rw [t1]; rfl, t2, t3, t4⟩
