/-! THE MAZE: single hedges; sets of cells as bits; floods -/
theorem low_I {h : Nat} (hh : h < 24) : lowC h = I (loN h) := (by decide +kernel : ∀ h, h < 24 → lowC h = I (loN h)) h hh
theorem upp_I {h : Nat} (hh : h < 24) : uppC h = I (hiN h) := (by decide +kernel : ∀ h, h < 24 → uppC h = I (hiN h)) h hh
theorem m_leaves {σ : Mm} {h : Nat} (hh : h < 24) : f_X4_leavesOf (I h) σ = some (σ 2 h) := by
  have e1 : ¬ 24 ≤ h := by omega
  unfold f_X4_leavesOf
  simp (disch := omega) only [I_lit, I_lt, I_le, gd_I, I_clamp, Nat.not_lt_zero, e1, if_false]
theorem m_open {σ : Mm} {h : Nat} (hh : h < 24) : f_X4_isOpen (I h) σ = some (if 5 ≤ σ 2 h then 0 else 1) := by
  unfold f_X4_isOpen
  rw [m_leaves hh, bnd_d]
  split <;> rfl
theorem m_cell {σ : Mm} {u : Nat} (hu : u < 16) : f_X4_isCell (I u) σ = some 1 := by
  have e1 : ¬ 16 ≤ u := by omega
  unfold f_X4_isCell
  simp (disch := omega) only [I_lit, I_lt, I_le, Nat.not_lt_zero, e1, if_false]
theorem m_cellN {σ : Mm} {x : Int32} (hx : x < 0 ∨ 16 ≤ x) : f_X4_isCell x σ = some 0 := by
  unfold f_X4_isCell
  by_cases h : x < 0
  · rw [if_pos h]
  · rw [if_neg h, if_pos (hx.resolve_left h)]
theorem m_across {σ : Mm} {h u : Nat} (hh : h < 24) (hu : u < 16) : f_X4_cellAcross (I h) (I u) σ = some (if loN h = u then I (hiN h) else if hiN h = u then I (loN h) else -1) := by
  have e2 := lohi h hh
  unfold f_X4_cellAcross
  rw [if_neg (I_n0 (by omega)), if_pos (show I h < 24 from (I_lt (b := 24) (by omega) (by omega)).mpr hh)]
  simp (disch := omega) only [gd_I, I_clamp, low_I, upp_I, I_eq]
  split
  · rfl
  · split <;> rfl
/-! bits -/
def bit (x : Int32) (v : Nat) : Bool := x.toBitVec.getLsbD v
theorem bit_or (x y : Int32) (v : Nat) : bit (x ||| y) v = (bit x v || bit y v) := by simp [bit]
theorem bit_and (x y : Int32) (v : Nat) : bit (x &&& y) v = (bit x v && bit y v) := by simp [bit]
theorem bit_0 (v : Nat) : bit 0 v = false := by simp [bit]
theorem bit_ge {x : Int32} {v : Nat} (h : 32 ≤ v) : bit x v = false := BitVec.getLsbD_of_ge _ _ h
theorem bit_ext {x y : Int32} (h : ∀ v, v < 32 → bit x v = bit y v) : x = y := Int32.toBitVec_inj.mp (BitVec.eq_of_getLsbD_eq (fun i hi => h i hi))
def jn (h : Nat) : Int32 := (1 <<< (lowC h &&& 31)) ||| (1 <<< (uppC h &&& 31))
theorem jn_bit {h : Nat} (hh : h < 24) (v : Nat) : bit (jn h) v = (v == loN h || v == hiN h) := by
  by_cases hv : v < 32
  · exact (by decide +kernel : ∀ h, h < 24 → ∀ v, v < 32 → bit (jn h) v = (v == loN h || v == hiN h)) h hh v hv
  · have := lohi h hh
    rw [bit_ge (by omega)]
    have a : (v == loN h) = false := by simp; omega
    have b : (v == hiN h) = false := by simp; omega
    rw [a, b]; rfl
theorem jn_meet {h : Nat} (hh : h < 24) (x : Int32) : (x &&& jn h = 0) ↔ (bit x (loN h) = false ∧ bit x (hiN h) = false) := by
  constructor
  · intro q
    have k : ∀ v, (bit x v && (v == loN h || v == hiN h)) = false := fun v => by
      rw [← jn_bit hh, ← bit_and, q, bit_0]
    have a := k (loN h)
    have b := k (hiN h)
    simp at a b
    exact ⟨a, b⟩
  · rintro ⟨a, b⟩
    apply bit_ext
    intro v _
    rw [bit_and, jn_bit hh, bit_0]
    by_cases c : v = loN h
    · subst c; rw [a]; rfl
    · by_cases d : v = hiN h
      · subst d; rw [b]; rfl
      · simp [c, d]
theorem m_joined {σ : Mm} {h : Nat} (hh : h < 24) (x : Int32) : f_X8_joinedBy (I h) x σ = some (if x &&& jn h = 0 then 0 else jn h) := by
  unfold f_X8_joinedBy
  simp (disch := omega) only [gd_I, I_clamp, lt_d]
  show (if x &&& jn h = 0 then some 0 else some (jn h)) = _
  split <;> rfl
/-- a hedge joins what it stands between -/
def fst1 (ok : Nat → Bool) (h : Nat) (x : Int32) : Int32 := if ok h = true then x ||| (if x &&& jn h = 0 then 0 else jn h) else x
theorem fst1_bit {ok : Nat → Bool} {h : Nat} (hh : h < 24) (x : Int32) (v : Nat) : bit (fst1 ok h x) v = true ↔ bit x v = true ∨ (ok h = true ∧ (v = loN h ∨ v = hiN h) ∧ (bit x (loN h) = true ∨ bit x (hiN h) = true)) := by
  unfold fst1
  by_cases ho : ok h = true
  · rw [if_pos ho, bit_or]
    by_cases hm : x &&& jn h = 0
    · rw [if_pos hm, bit_0]
      obtain ⟨a, b⟩ := (jn_meet hh x).mp hm
      simp [a, b]
    · rw [if_neg hm, jn_bit hh]
      have k : bit x (loN h) = true ∨ bit x (hiN h) = true := by
        cases a : bit x (loN h)
        · cases b : bit x (hiN h)
          · exact absurd ((jn_meet hh x).mpr ⟨a, b⟩) hm
          · exact Or.inr rfl
        · exact Or.inl rfl
      simp [ho, k]
  · rw [if_neg ho]
    simp [ho]
def cF (ok : Nat → Bool) : Nat → Option Nat := fun h => if ok h = true then some 0 else none
/-- one round of a flood -/
def fInv (ok : Nat → Bool) (R : Nat → Prop) (x0 : Int32) (v : Nat) (x : Int32) : Prop :=
  (∀ u, bit x0 u = true → bit x u = true) ∧ (∀ u, bit x u = true → R u) ∧ ∀ h, h < v → ok h = true → (bit x0 (loN h) = true → bit x (hiN h) = true) ∧ (bit x0 (hiN h) = true → bit x (loN h) = true)
theorem fInv_step {ok : Nat → Bool} {R : Nat → Prop} {x0 x : Int32} {v : Nat} (hR : ∀ h u w, ed h u w → ok h = true → R u → R w) (hv : v < 24) (h : fInv ok R x0 v x) : fInv ok R x0 (v + 1) (fst1 ok v x) := by
  obtain ⟨h1, h2, h3⟩ := h
  have up1 : ∀ u, bit x u = true → bit (fst1 ok v x) u = true := fun u q => (fst1_bit hv x u).mpr (Or.inl q)
  refine ⟨fun u q => up1 u (h1 u q), fun u q => ?_, fun h hh ho => ?_⟩
  · rcases (fst1_bit hv x u).mp q with q | ⟨q1, q2, q3⟩
    · exact h2 u q
    · rcases q2 with rfl | rfl <;> rcases q3 with q3 | q3
      · exact h2 _ q3
      · exact hR v _ _ ⟨hv, Or.inr ⟨rfl, rfl⟩⟩ q1 (h2 _ q3)
      · exact hR v _ _ ⟨hv, Or.inl ⟨rfl, rfl⟩⟩ q1 (h2 _ q3)
      · exact h2 _ q3
  · by_cases e : h = v
    · subst e
      exact ⟨fun q => (fst1_bit hv x _).mpr (Or.inr ⟨ho, Or.inr rfl, Or.inl (h1 _ q)⟩), fun q => (fst1_bit hv x _).mpr (Or.inr ⟨ho, Or.inl rfl, Or.inr (h1 _ q)⟩)⟩
    · obtain ⟨a, b⟩ := h3 h (by omega) ho
      exact ⟨fun q => up1 _ (a q), fun q => up1 _ (b q)⟩
/-- which hedges a flood passes -/
def okF (σ : Mm) (lim out : Int32) : Nat → Bool := fun h => !decide (I h = out) && !decide (lim ≤ σ 2 h)
theorem flood_in {σ : Mm} {K : Int32 → Int32 → Option Int32} {v7 v5 a0 lim out x0 : Int32} {R : Nat → Prop} (hR : ∀ h u w, ed h u w → okF σ lim out h = true → R u → R w) (h0 : ∀ u, bit x0 u = true → R u) :
    ∃ x1, f_X8_flood_l30 K v7 v5 a0 lim out σ 30 0 x0 = K (I 24) x1 ∧ fInv (okF σ lim out) R x0 24 x1 := by
  refine loopI (fun n v g => f_X8_flood_l30 K v7 v5 a0 lim out σ n v g) (fun g => K (I 24) g) 24 (fun v g => fInv (okF σ lim out) R x0 v g) ?_ ?_ 24 0 30 x0 (by omega) (by omega) ⟨fun _ h => h, h0, fun h hh => by omega⟩
  · intro n g _
    show f_X8_flood_l30 K v7 v5 a0 lim out σ (n + 1) (I 24) g = _
    rw [f_X8_flood_l30, if_pos (show (24 : Int32) ≤ I 24 by decide)]
  · intro n v g hv hi
    refine ⟨fst1 (okF σ lim out) v g, ?_, fInv_step hR hv hi⟩
    show f_X8_flood_l30 K v7 v5 a0 lim out σ (n + 1) (I v) g = f_X8_flood_l30 K v7 v5 a0 lim out σ n (I (v + 1)) _
    have e1 : I v + 1 = I (v + 1) := I_add v 1
    rw [f_X8_flood_l30, if_neg (show ¬ (24 : Int32) ≤ I v from fun q => by have := (I_le (by omega) (by omega)).mp (show I 24 ≤ I v from q); omega)]
    unfold fst1 okF
    by_cases c1 : I v = out
    · rw [if_pos c1, lt_d, e1, if_neg (by simp [c1])]
    · rw [if_neg c1, m_leaves hv, bnd_d]
      by_cases c2 : lim ≤ σ 2 v
      · rw [if_pos c2, lt_d, e1, if_neg (by simp [c2])]
      · have hk : (!decide (I v = out) && !decide (lim ≤ σ 2 v)) = true := by simp [c1, c2]
        rw [if_neg c2, m_joined hv, bnd_d, lt_d, lt_d, e1, if_pos hk]
/-- what a flood reaches -/
theorem m_flood {σ : Mm} (a0 lim out : Int32) (h16 : ∀ u, bit a0 u = true → u < 16) : ∃ q, f_X8_flood a0 lim out σ = some q ∧ ∀ u, bit q u = true ↔ ∃ s, bit a0 s = true ∧ rch (cF (okF σ lim out)) s u := by
  have okc : ∀ h, okF σ lim out h = true → cF (okF σ lim out) h = some 0 := fun h q => by unfold cF; rw [if_pos q]
  have cok : ∀ h w, cF (okF σ lim out) h = some w → okF σ lim out h = true := fun h w q => by
    unfold cF at q
    by_cases c : okF σ lim out h = true
    · exact c
    · rw [if_neg c] at q; cases q
  have hR : ∀ h u w, ed h u w → okF σ lim out h = true → (∃ s, bit a0 s = true ∧ rch (cF (okF σ lim out)) s u) → ∃ s, bit a0 s = true ∧ rch (cF (okF σ lim out)) s w := fun h u w e ho q => by
    obtain ⟨s, q1, q2⟩ := q
    exact ⟨s, q1, q2.step e (okc h ho)⟩
  have main : ∀ d r n (e x : Int32), r + d = 16 → d < n → (∀ u, bit x u = true → ∃ s, bit a0 s = true ∧ rch (cF (okF σ lim out)) s u) → (∀ u, bit a0 u = true → bit x u = true) → (∀ k, k ≤ r → ∀ s u j, bit a0 s = true → wk (cF (okF σ lim out)) s k u j → bit x u = true) →
      (∀ h, h < 24 → okF σ lim out h = true → (bit e (loN h) = true → bit x (hiN h) = true) ∧ (bit e (hiN h) = true → bit x (loN h) = true)) → ∃ q, f_X8_flood_l9 a0 lim out σ n (I r) e x = some q ∧ ∀ u, bit q u = true ↔ ∃ s, bit a0 s = true ∧ rch (cF (okF σ lim out)) s u := by
    intro d
    induction d with
    | zero =>
      intro r n e x hr hn h1 h2 h3 h4
      obtain ⟨n, rfl⟩ : ∃ m, n = m + 1 := ⟨n - 1, by omega⟩
      have : r = 16 := by omega
      subst this
      refine ⟨x, ?_, fun u => ⟨h1 u, ?_⟩⟩
      · rw [f_X8_flood_l9, if_pos (show (16 : Int32) ≤ I 16 by decide)]
      · rintro ⟨s, q1, k, j, q2⟩
        obtain ⟨n1, k1, b1, b2, b3⟩ := hop (h16 s q1) q2
        exact h3 n1 (by omega) s u k1 q1 b3
    | succ d ih =>
      intro r n e x hr hn h1 h2 h3 h4
      obtain ⟨n, rfl⟩ : ∃ m, n = m + 1 := ⟨n - 1, by omega⟩
      rw [f_X8_flood_l9, if_neg (show ¬ (16 : Int32) ≤ I r from fun q => by have := (I_le (by omega) (by omega)).mp (show I 16 ≤ I r from q); omega)]
      by_cases c : x = e
      · rw [if_pos c]
        subst c
        refine ⟨x, rfl, fun u => ⟨h1 u, ?_⟩⟩
        rintro ⟨s, q1, k, j, q2⟩
        have go : ∀ k u j, wk (cF (okF σ lim out)) s k u j → bit x u = true := by
          intro k
          induction k with
          | zero => intro u j q; rw [q.1]; exact h2 s q1
          | succ k ihk =>
            intro u j q
            obtain ⟨g, y, i, z, p1, p2, p3, -⟩ := q
            have b := ihk _ _ p3
            obtain ⟨a1, a2⟩ := h4 g p1.1 (cok g z p2)
            rcases p1.2 with ⟨e1, e2⟩ | ⟨e1, e2⟩ <;> subst e1 <;> subst e2
            · exact a1 b
            · exact a2 b
        exact go k u j q2
      · rw [if_neg c, lt_d]
        obtain ⟨x1, e1, f1, f2, f3⟩ := flood_in (σ := σ) (K := fun v10 v11 => lt (I r + 1) fun x13 => f_X8_flood_l9 a0 lim out σ n x13 x v11) (v7 := x) (v5 := I r) (a0 := a0) (lim := lim) (out := out) (x0 := x) hR h1
        rw [e1]
        show ∃ q, lt (I r + 1) (fun x13 => f_X8_flood_l9 a0 lim out σ n x13 x x1) = some q ∧ _
        rw [lt_d, show I r + 1 = I (r + 1) from I_add r 1]
        refine ih (r + 1) n x x1 (by omega) (by omega) f2 (fun u q => f1 u (h2 u q)) ?_ f3
        intro k hk s u j q1 q2
        cases k with
        | zero => rw [q2.1]; exact f1 _ (h2 s q1)
        | succ k =>
          obtain ⟨g, y, i, z, p1, p2, p3, -⟩ := q2
          have b := h3 k (by omega) s y i q1 p3
          obtain ⟨a1, a2⟩ := f3 g p1.1 (cok g z p2)
          rcases p1.2 with ⟨e1, e2⟩ | ⟨e1, e2⟩ <;> subst e1 <;> subst e2
          · exact a1 b
          · exact a2 b
  unfold f_X8_flood
  exact main 16 0 30 0 a0 (by omega) (by omega) (fun u q => ⟨u, q, rch.start⟩) (fun _ q => q) (fun k hk s u j q1 q2 => by
    have : k = 0 := by omega
    subst this
    rw [q2.1]; exact q1) (fun h _ _ => ⟨fun q => (by rw [bit_0] at q; cases q), fun q => (by rw [bit_0] at q; cases q)⟩)
