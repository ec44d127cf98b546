/-! SETS OF CELLS AND WAYS: the two ways of telling agree -/
theorem wk_congr {c d : Nat → Option Nat} (h : ∀ g, g < 24 → c g = d g) {s : Nat} : ∀ {n v k : Nat}, wk c s n v k → wk d s n v k := by
  intro n
  induction n with
  | zero => intro v k q; exact q
  | succ n ih =>
    intro v k q
    obtain ⟨g, u, j, w, e, hc, q, hk⟩ := q
    exact ⟨g, u, j, w, e, by rw [← h g e.1]; exact hc, ih q, hk⟩
theorem isD_congr {c d : Nat → Option Nat} (h : ∀ g, g < 24 → c g = d g) {s v k : Nat} (q : isD c s v k) : isD d s v k := by
  obtain ⟨⟨n, a⟩, b⟩ := q
  exact ⟨⟨n, wk_congr h a⟩, fun m j z => b m j (wk_congr (fun g hg => (h g hg).symm) z)⟩
theorem noW_congr {c d : Nat → Option Nat} (h : ∀ g, g < 24 → c g = d g) {s v : Nat} (q : noW c s v) : noW d s v := fun n k z => q n k (wk_congr (fun g hg => (h g hg).symm) z)
theorem rch_mono {c d : Nat → Option Nat} (h : ∀ g, g < 24 → c g ≠ none → d g ≠ none) {s v : Nat} (q : rch c s v) : rch d s v := by
  obtain ⟨n, k, q⟩ := q
  revert v k
  induction n with
  | zero => intro v k q; obtain ⟨rfl, rfl⟩ := q; exact rch.start
  | succ n ih =>
    intro v k q
    obtain ⟨g, u, j, w, e, hc, q, -⟩ := q
    have := ih _ q
    cases hd : d g with
    | none => exact absurd hd (h g e.1 (by rw [hc]; intro z; cases z))
    | some x => exact this.step e hd
theorem noW_rch {c : Nat → Option Nat} {s v : Nat} : noW c s v ↔ ¬ rch c s v := ⟨fun h ⟨n, k, q⟩ => h n k q, fun h n k q => h ⟨n, k, q⟩⟩
theorem isD_rch {c : Nat → Option Nat} {s v k : Nat} (h : isD c s v k) : rch c s v := by
  obtain ⟨⟨n, a⟩, -⟩ := h
  exact ⟨n, k, a⟩
theorem lab_rch {c : Nat → Option Nat} {F s v : Nat} {D : Nat → Nat} (h : lab c F s D) (hv : v < 16) : D v < F ↔ rch c s v := by
  rcases h v hv with ⟨a, b⟩ | ⟨a, b⟩
  · exact ⟨fun _ => isD_rch b, fun _ => a⟩
  · exact ⟨fun q => by omega, fun q => absurd q (noW_rch.mp b)⟩
/-- cells that are joined by hedges that p lets pass -/
def rp (p : Nat → Bool) (s v : Nat) : Prop := rch (cF p) s v
theorem cF_ne {p : Nat → Bool} {g : Nat} : cF p g ≠ none ↔ p g = true := by
  unfold cF
  cases p g <;> simp
theorem rp_of {c : Nat → Option Nat} {p : Nat → Bool} (h : ∀ g, g < 24 → (c g ≠ none ↔ p g = true)) {s v : Nat} : rch c s v ↔ rp p s v :=
  ⟨rch_mono (fun g hg q => cF_ne.mpr ((h g hg).mp q)), rch_mono (fun g hg q => (h g hg).mpr (cF_ne.mp q))⟩
theorem rp_congr {p q : Nat → Bool} (h : ∀ g, g < 24 → p g = q g) {s v : Nat} : rp p s v ↔ rp q s v := rp_of (fun g hg => by rw [cF_ne, h g hg])
/-- which hedges are gaps in the class's maze -/
def gC (σ : Mm) (h : Nat) : Bool := !decide ((5 : Int32) ≤ σ 2 h)
theorem gC_cH {σ : Mm} {s v : Nat} : rch (cH σ) s v ↔ rp (gC σ) s v := rp_of (fun g _ => by unfold cH gC; by_cases q : (5 : Int32) ≤ σ 2 g <;> simp [q])
theorem gR_cR {σ : Mm} {s v : Nat} : rch (cR σ false) s v ↔ rp (gapR σ) s v := rp_of (fun g _ => by unfold cR; cases gapR σ g <;> simp)
theorem okF_gC {σ : Mm} {h : Nat} (hh : h < 24) : okF σ 5 (-1) h = gC σ h := by
  unfold okF gC
  rw [show decide (I h = (-1 : Int32)) = false from decide_eq_false (nm1 (by omega))]
  rfl
/-! bits of one cell, the exit's bit -/
theorem one_bit {s : Nat} (hs : s < 16) (v : Nat) : bit ((1 : Int32) <<< (I s &&& 31)) v = (v == s) := by
  by_cases hv : v < 32
  · exact (by decide +kernel : ∀ s, s < 16 → ∀ v, v < 32 → bit ((1 : Int32) <<< (I s &&& 31)) v = (v == s)) s hs v hv
  · rw [bit_ge (by omega)]
    symm
    simp
    omega
theorem b15 (v : Nat) : bit (32768 : Int32) v = (v == 15) := by
  have k := one_bit (s := 15) (by omega) v
  rw [← k]
  rfl
theorem m_holds {σ : Mm} (x : Int32) : f_X8_holdsExit x σ = some (if bit x 15 = true then 1 else 0) := by
  unfold f_X8_holdsExit
  by_cases q : bit x 15 = true
  · rw [if_pos q, if_neg]
    intro z
    have := bit_and x 32768 15
    rw [z, bit_0, q, b15] at this
    cases this
  · rw [if_neg q, if_pos]
    apply bit_ext
    intro v _
    rw [bit_and, b15, bit_0]
    by_cases e : v = 15
    · subst e; rw [Bool.eq_false_iff.mpr q]; rfl
    · simp [e]
theorem m_leads {σ : Mm} (lim out : Int32) : ∃ b : Bool, f_X8_leadsThrough lim out σ = some (if b then 1 else 0) ∧ (b = true ↔ rp (okF σ lim out) 0 15) := by
  have h1 : ∀ v, bit (1 : Int32) v = (v == 0) := fun v => one_bit (s := 0) (by omega) v
  obtain ⟨q, a, b⟩ := m_flood (σ := σ) 1 lim out (fun u hu => by rw [h1] at hu; have := eq_of_beq hu; omega)
  refine ⟨bit q 15, ?_, ?_⟩
  · unfold f_X8_leadsThrough
    rw [a, bnd_d, m_holds, bnd_d]
    cases bit q 15 <;> rfl
  · rw [b 15]
    constructor
    · rintro ⟨s, hs, k⟩
      rw [h1] at hs
      rw [eq_of_beq hs] at k
      exact k
    · intro k
      exact ⟨0, by rw [h1]; rfl, k⟩
theorem m_reach {σ : Mm} {s : Nat} (hs : s < 16) : ∃ q, f_X8_cellsReached (I s) σ = some q ∧ ∀ u, bit q u = true ↔ rp (gC σ) s u := by
  obtain ⟨q, a, b⟩ := m_flood (σ := σ) ((1 : Int32) <<< (I s &&& 31)) 5 (-1) (fun u hu => by rw [one_bit hs] at hu; have := eq_of_beq hu; omega)
  refine ⟨q, ?_, fun u => ?_⟩
  · unfold f_X8_cellsReached
    rw [a, bnd_d]
  · rw [b u]
    have e : rp (okF σ 5 (-1)) s u ↔ rp (gC σ) s u := rp_congr (fun g hg => okF_gC hg)
    constructor
    · rintro ⟨t, ht, k⟩
      rw [one_bit hs] at ht
      rw [eq_of_beq ht] at k
      exact e.mp k
    · intro k
      exact ⟨s, by rw [one_bit hs]; simp, e.mpr k⟩
theorem rch_lt {c : Nat → Option Nat} {s v : Nat} (hs : s < 16) (h : rch c s v) : v < 16 := by
  obtain ⟨n, k, q⟩ := h
  cases n with
  | zero => rw [q.1]; exact hs
  | succ n => obtain ⟨g, u, j, w, e, -⟩ := q; exact e.lt.2
/-! the reference's set -/
theorem n_reach {σ : Mm} {s : Nat} (hs : s < 16) : ∃ q σ1, f_X10_reachedFrom (I s) σ = some (q, σ1) ∧ (∀ u, bit q u = true ↔ rp (gapR σ) s u) ∧ ∀ a, a ≠ 204 → σ1 a = σ a := by
  obtain ⟨σ1, D, h1, h2, h3, h4⟩ := m_lays (σ0 := σ) (tr := false) hs
  have h1 : f_X10_laysWays (I s) 0 σ = some σ1 := h1
  unfold f_X10_reachedFrom
  rw [h1, bnd_d]
  obtain ⟨g, q1, q2⟩ := loopI (fun n v g => f_X10_reachedFrom_l10 (I s) σ1 n v g) (fun g => some (g, σ1)) 16 (fun v (g : Int32) => ∀ u, bit g u = true ↔ u < v ∧ D u < 99) (by
      intro n g _
      rw [f_X10_reachedFrom_l10, if_pos (show (16 : Int32) ≤ I 16 by decide)]) (by
      intro n v g hv hi
      have e1 : I v + 1 = I (v + 1) := I_add v 1
      have hw := h2 v hv
      rw [f_X10_reachedFrom_l10, if_neg (show ¬ (16 : Int32) ≤ I v from nle (N := 16) hv (by omega)), gd_I hv (by omega), I_clamp (by omega), hw.1, lt_d, lt_d, lt_d, lt_d, e1]
      by_cases f : D v < 99
      · rw [if_neg (show ¬ (99 : Int32) ≤ I (D v) from nle (N := 99) f (by omega))]
        refine ⟨_, rfl, fun u => ?_⟩
        rw [bit_or, Bool.or_eq_true, one_bit hv, hi u]
        constructor
        · rintro (⟨a, b⟩ | a)
          · exact ⟨by omega, b⟩
          · have := eq_of_beq a; subst this; exact ⟨by omega, f⟩
        · rintro ⟨a, b⟩
          by_cases e : u = v
          · exact Or.inr (by simp [e])
          · exact Or.inl ⟨by omega, b⟩
      · rw [if_pos (show (99 : Int32) ≤ I (D v) from (I_le (a := 99) (by omega) (by omega)).mpr (by omega))]
        refine ⟨_, rfl, fun u => ?_⟩
        rw [bit_or, bit_0, Bool.or_false, hi u]
        constructor
        · rintro ⟨a, b⟩; exact ⟨by omega, b⟩
        · rintro ⟨a, b⟩
          by_cases e : u = v
          · rw [e] at b; exact absurd b f
          · exact ⟨by omega, b⟩) 16 0 20 0 (by omega) (by omega) (fun u => by rw [bit_0]; simp)
  refine ⟨g, σ1, q1, fun u => ?_, h4⟩
  rw [q2 u, ← gR_cR]
  constructor
  · rintro ⟨a, b⟩; exact (lab_rch h3 a).mp b
  · intro k
    have := rch_lt hs k
    exact ⟨this, (lab_rch h3 this).mpr k⟩
/-- the two sets are one number -/
theorem set_eq {x y : Int32} {p q : Nat → Bool} {s : Nat} (hx : ∀ u, bit x u = true ↔ rp p s u) (hy : ∀ u, bit y u = true ↔ rp q s u) (h : ∀ g, g < 24 → p g = q g) : x = y := by
  apply bit_ext
  intro v _
  have k : bit x v = true ↔ bit y v = true := by rw [hx, hy, rp_congr h]
  cases a : bit x v <;> cases b : bit y v
  · rfl
  · rw [a, b] at k; exact absurd (k.mpr rfl) (by decide)
  · rw [a, b] at k; exact absurd (k.mp rfl) (by decide)
  · rfl
/-! trims: by number, by neighbours, by the reference -/
def cT (p : Nat → Bool) : Nat → Option Nat := fun h => some (if p h = true then 0 else 1)
theorem cT_one (p : Nat → Bool) : isOne (cT p) := fun h w q => by
  unfold cT at q; cases q; split <;> omega
theorem cT_exit {p : Nat → Bool} {s : Nat} (hs : s < 16) : rch (cT p) s 15 := rch_exit (fun h _ => ⟨_, rfl⟩) hs
theorem wk_cF {p : Nat → Bool} {s : Nat} : ∀ {n v k : Nat}, wk (cF p) s n v k → wk (cT p) s n v 0 := by
  intro n
  induction n with
  | zero => intro v k q; exact ⟨q.1, rfl⟩
  | succ n ih =>
    intro v k q
    obtain ⟨g, u, j, w, e, hc, q, -⟩ := q
    have hp : p g = true := cF_ne.mp (by rw [hc]; intro z; cases z)
    exact ⟨g, u, 0, 0, e, by unfold cT; rw [if_pos hp], ih q, rfl⟩
/-- what at most k trims reach -/
def tR (p : Nat → Bool) (s k v : Nat) : Prop := ∃ n j, j ≤ k ∧ wk (cT p) s n v j
theorem tR_gap {p : Nat → Bool} {s k u v : Nat} (h : tR p s k u) (g : rp p u v) : tR p s k v := by
  obtain ⟨n, z, q⟩ := g
  revert v z
  induction n with
  | zero => intro v z q; rw [q.1]; exact h
  | succ n ih =>
    intro v z q
    obtain ⟨g, x, j, w, e, hc, q, -⟩ := q
    obtain ⟨m, i, h1, h2⟩ := ih _ q
    have hp : p g = true := cF_ne.mp (by rw [hc]; intro z; cases z)
    exact ⟨m + 1, i, h1, g, x, i, 0, e, by unfold cT; rw [if_pos hp], h2, rfl⟩
theorem tR_step {p : Nat → Bool} {s k : Nat} {X Y : Nat → Prop} (hX : ∀ v, X v ↔ tR p s k v) (hY : ∀ v, Y v ↔ ∃ t, (X t ∨ ∃ h u, ed h u t ∧ X u) ∧ rp p t v) : ∀ v, Y v ↔ tR p s (k + 1) v := by
  intro v
  rw [hY]
  constructor
  · rintro ⟨t, ht, g⟩
    refine tR_gap ?_ g
    rcases ht with ht | ⟨h, u, e, hu⟩
    · obtain ⟨n, j, a, b⟩ := (hX t).mp ht
      exact ⟨n, j, by omega, b⟩
    · obtain ⟨n, j, a, b⟩ := (hX u).mp hu
      refine ⟨n + 1, j + (if p h = true then 0 else 1), ?_, h, u, j, _, e, rfl, b, rfl⟩
      split <;> omega
  · rintro ⟨n, j, a, b⟩
    revert v j
    induction n with
    | zero =>
      intro v j a b
      refine ⟨v, Or.inl ((hX v).mpr ⟨0, 0, by omega, b.1, rfl⟩), rch.start⟩
    | succ n ih =>
      intro v j a b
      obtain ⟨g, u, i, w, e, hc, q, rfl⟩ := b
      unfold cT at hc
      by_cases hp : p g = true
      · rw [if_pos hp] at hc
        obtain ⟨t, h1, h2⟩ := ih u i (by omega) q
        exact ⟨t, h1, rch.step (c := cF p) h2 e (by unfold cF; rw [if_pos hp])⟩
      · rw [if_neg hp] at hc
        cases hc
        exact ⟨v, Or.inr ⟨g, u, e, (hX u).mpr ⟨n, i, by omega, q⟩⟩, rch.start⟩
theorem m_wide {σ : Mm} (x : Int32) : ∃ y, f_X8_widened x σ = some y ∧ ∀ v, bit y v = true ↔ bit x v = true ∨ ∃ h u, ed h u v ∧ bit x u = true := by
  obtain ⟨g, q1, q2⟩ := loopI (fun n v g => f_X8_widened_l4 x σ n v g) (fun g => some g) 24 (fun v (g : Int32) => ∀ w, bit g w = true ↔ bit x w = true ∨ ∃ h, h < v ∧ (w = loN h ∨ w = hiN h) ∧ (bit x (loN h) = true ∨ bit x (hiN h) = true)) (by
      intro n g _
      rw [f_X8_widened_l4, if_pos (show (24 : Int32) ≤ I 24 by decide)]) (by
      intro n v g hv hi
      have e1 : I v + 1 = I (v + 1) := I_add v 1
      rw [f_X8_widened_l4, if_neg (show ¬ (24 : Int32) ≤ I v from nle (N := 24) hv (by omega)), m_joined hv, bnd_d, lt_d, lt_d, e1]
      refine ⟨_, rfl, fun w => ?_⟩
      rw [bit_or, Bool.or_eq_true, hi w]
      have key : bit (if x &&& jn v = 0 then 0 else jn v) w = true ↔ (w = loN v ∨ w = hiN v) ∧ (bit x (loN v) = true ∨ bit x (hiN v) = true) := by
        by_cases hm : x &&& jn v = 0
        · rw [if_pos hm, bit_0]
          obtain ⟨a, b⟩ := (jn_meet hv x).mp hm
          simp [a, b]
        · rw [if_neg hm, jn_bit hv]
          have k : bit x (loN v) = true ∨ bit x (hiN v) = true := by
            cases a : bit x (loN v)
            · cases b : bit x (hiN v)
              · exact absurd ((jn_meet hv x).mpr ⟨a, b⟩) hm
              · exact Or.inr rfl
            · exact Or.inl rfl
          simp [k]
      rw [key]
      constructor
      · rintro ((a | ⟨h, a, b⟩) | a)
        · exact Or.inl a
        · exact Or.inr ⟨h, by omega, b⟩
        · exact Or.inr ⟨v, by omega, a⟩
      · rintro (a | ⟨h, a, b⟩)
        · exact Or.inl (Or.inl a)
        · by_cases e : h = v
          · subst e; exact Or.inr b
          · exact Or.inl (Or.inr ⟨h, by omega, b⟩)) 24 0 30 x (by omega) (by omega) (fun w => ⟨Or.inl, fun q => q.elim id (fun ⟨h, a, _⟩ => absurd a (by omega))⟩)
  refine ⟨g, by unfold f_X8_widened; exact q1, fun v => ?_⟩
  rw [q2 v]
  constructor
  · rintro (a | ⟨h, hh, b, c⟩)
    · exact Or.inl a
    · rcases b with b | b <;> rcases c with c | c
      · exact Or.inl (by rw [b]; exact c)
      · exact Or.inr ⟨h, hiN h, ⟨hh, Or.inr ⟨rfl, b⟩⟩, c⟩
      · exact Or.inr ⟨h, loN h, ⟨hh, Or.inl ⟨rfl, b⟩⟩, c⟩
      · exact Or.inl (by rw [b]; exact c)
  · rintro (a | ⟨h, u, e, b⟩)
    · exact Or.inl a
    · refine Or.inr ⟨h, e.1, ?_⟩
      rcases e.2 with ⟨p, q⟩ | ⟨p, q⟩
      · exact ⟨Or.inr q, Or.inl (by rw [← p]; exact b)⟩
      · exact ⟨Or.inl q, Or.inr (by rw [← p]; exact b)⟩
theorem m_trimsN {σ : Mm} {s : Nat} (hs : s < 16) : ∃ k, f_X8_trimsByNumber (I s) σ = some (I k) ∧ isD (cT (gC σ)) s 15 k := by
  obtain ⟨D0, hD0⟩ : ∃ k, isD (cT (gC σ)) s 15 k := by
    obtain ⟨n, j, q⟩ := cT_exit (p := gC σ) hs
    have : ∀ m j, j ≤ m → (∃ n, wk (cT (gC σ)) s n 15 j) → ∃ k, isD (cT (gC σ)) s 15 k := by
      intro m
      induction m with
      | zero =>
        intro j hj h
        have : j = 0 := by omega
        subst this
        exact ⟨0, h, fun _ _ _ => Nat.zero_le _⟩
      | succ m ih =>
        intro j hj h
        by_cases e : ∃ i, i < j ∧ ∃ n, wk (cT (gC σ)) s n 15 i
        · obtain ⟨i, hi, h2⟩ := e
          exact ih i (by omega) h2
        · exact ⟨j, h, fun n i q => Nat.not_lt.mp fun z => e ⟨i, z, n, q⟩⟩
    exact this j j (Nat.le_refl _) ⟨n, q⟩
  have h15 := hD0.le15 (cT_one _) hs
  obtain ⟨q0, a0, b0⟩ := m_reach (σ := σ) hs
  have main : ∀ d k n (x : Int32), k + d = 24 → d < n → (∀ v, bit x v = true ↔ tR (gC σ) s k v) → (∀ j, j < k → ¬ tR (gC σ) s j 15) → ∃ r, f_X8_trimsByNumber_l8 (I s) σ n (I k) x = some (I r) ∧ isD (cT (gC σ)) s 15 r := by
    intro d
    induction d with
    | zero =>
      intro k n x hk hn hx hno
      exfalso
      exact hno D0 (by omega) ⟨hD0.1.choose, D0, Nat.le_refl _, hD0.1.choose_spec⟩
    | succ d ih =>
      intro k n x hk hn hx hno
      obtain ⟨n, rfl⟩ : ∃ m, n = m + 1 := ⟨n - 1, by omega⟩
      rw [f_X8_trimsByNumber_l8, if_neg (show ¬ (24 : Int32) ≤ I k from nle (N := 24) (by omega) (by omega)), m_holds, bnd_d]
      by_cases h : bit x 15 = true
      · rw [if_pos h, if_neg (by decide)]
        refine ⟨k, rfl, ?_⟩
        obtain ⟨m, j, h1, h2⟩ := (hx 15).mp h
        have ej : j = k := by
          by_cases e : j = k
          · exact e
          · exact absurd ⟨m, j, Nat.le_refl _, h2⟩ (hno j (by omega))
        subst ej
        refine ⟨⟨m, h2⟩, fun n2 i q => ?_⟩
        by_cases e : j ≤ i
        · exact e
        · exact absurd ⟨n2, i, Nat.le_refl _, q⟩ (hno i (by omega))
      · rw [if_neg h, if_pos rfl]
        obtain ⟨y, y1, y2⟩ := m_wide (σ := σ) x
        have y16 : ∀ u, bit y u = true → u < 16 := by
          intro u hu
          rcases (y2 u).mp hu with q | ⟨g, w, e, -⟩
          · obtain ⟨m, j, -, h2⟩ := (hx u).mp q
            exact rch_lt hs ⟨m, j, h2⟩
          · exact e.lt.2
        obtain ⟨z, z1, z2⟩ := m_flood (σ := σ) y 5 (-1) y16
        rw [y1, bnd_d, z1, bnd_d, lt_d, show I k + 1 = I (k + 1) from I_add k 1]
        refine ih (k + 1) n z (by omega) (by omega) (tR_step hx (fun v => ?_)) ?_
        · rw [z2 v]
          have e : ∀ t, rp (okF σ 5 (-1)) t v ↔ rp (gC σ) t v := fun t => rp_congr (fun g hg => okF_gC hg)
          constructor
          · rintro ⟨t, h1, h2⟩
            exact ⟨t, (y2 t).mp h1, (e t).mp h2⟩
          · rintro ⟨t, h1, h2⟩
            exact ⟨t, (y2 t).mpr h1, (e t).mpr h2⟩
        · intro j hj q
          by_cases e : j = k
          · subst e; exact h ((hx 15).mpr q)
          · exact hno j (by omega) q
  unfold f_X8_trimsByNumber
  rw [a0, bnd_d]
  refine main 24 0 30 q0 (by omega) (by omega) (fun v => ?_) (fun j hj => by omega)
  rw [b0 v]
  constructor
  · rintro ⟨n, k, q⟩
    exact ⟨n, 0, Nat.le_refl _, wk_cF q⟩
  · rintro ⟨n, j, h1, h2⟩
    have : j = 0 := by omega
    subst this
    revert v
    induction n with
    | zero => intro v q; rw [q.1]; exact rch.start
    | succ n ih =>
      intro v q
      obtain ⟨g, u, i, w, e, hc, q, hk⟩ := q
      have hi : i = 0 := by omega
      have hw : w = 0 := by omega
      subst hi; subst hw
      refine rch.step (c := cF (gC σ)) (ih u q) e (w := 0) ?_
      unfold cT at hc
      unfold cF
      by_cases hp : gC σ g = true
      · rw [if_pos hp]
      · rw [if_neg hp] at hc; cases hc
/-- the class's second way, and the reference's -/
theorem m_trimsB {σ : Mm} {s : Nat} (hs : s < 16) : ∃ k σ1, f_X8_trimsByNeighbours (I s) σ = some (I k, σ1) ∧ isD (cT (gC σ)) s 15 k ∧ ∀ a, a ≠ 159 → σ1 a = σ a := by
  obtain ⟨σ1, D, h1, h2, h3, h4⟩ := m_relax (c := cT (gC σ)) (W := fun h => if gC σ h = true then 0 else 1) (fun h _ => Or.inl rfl) (cT_one _) (fun h => by split <;> omega) hs (σ0 := σ) (g1 := 0) (g2 := 1) (fun h _ => by unfold gC; by_cases q : (5 : Int32) ≤ σ 2 h <;> simp [q])
  have h1 : f_X8_relaxFrom (I s) 0 1 σ = some σ1 := h1
  rcases h3 15 (by omega) with ⟨a, b⟩ | ⟨a, b⟩
  · refine ⟨D 15, σ1, ?_, b, h4⟩
    unfold f_X8_trimsByNeighbours
    rw [h1, bnd_d, show (15 : Int32) = I 15 from rfl, m_dist (by omega), bnd_d, (h2 15 (by omega)).1]
  · exact absurd (cT_exit hs) (noW_rch.mp b)
theorem n_trims {σ : Mm} {s : Nat} (hs : s < 16) : ∃ k σ1, f_X10_laysWays (I s) 1 σ = some σ1 ∧ σ1 204 15 = I k ∧ isD (cT (gapR σ)) s 15 k ∧ ∀ a, a ≠ 204 → σ1 a = σ a := by
  obtain ⟨σ1, D, h1, h2, h3, h4⟩ := m_lays (σ0 := σ) (tr := true) hs
  have h1 : f_X10_laysWays (I s) 1 σ = some σ1 := h1
  have e : ∀ g, g < 24 → cR σ true g = cT (gapR σ) g := fun g _ => by unfold cR cT; simp
  rcases h3 15 (by omega) with ⟨a, b⟩ | ⟨a, b⟩
  · exact ⟨D 15, σ1, h1, (h2 15 (by omega)).1, isD_congr e b, h4⟩
  · exact absurd (cT_exit hs) (noW_rch.mp (noW_congr e b))
/-- hours: the class's two ways, the reference's -/
theorem m_hours {σ : Mm} {s v : Nat} (hs : s < 16) (hv : v < 16) : ∃ σ1, f_X8_hoursByDistance (I s) (I v) σ = some (I (dst (cH σ) s v), σ1) ∧ ∀ a, a ≠ 159 → a ≠ 160 → σ1 a = σ a := by
  obtain ⟨σ1, D, h1, h2, h3, h4⟩ := m_measure (σ0 := σ) hs
  refine ⟨σ1, ?_, h4⟩
  unfold f_X8_hoursByDistance
  rw [h1, bnd_d, m_dist hv, bnd_d, (h2 v hv).1]
  rcases lab_dst (by omega) h3 hv with ⟨-, b, -⟩ | ⟨a, b, -⟩
  · rw [b]
  · rw [a, b]
theorem m_again {σ : Mm} {s v : Nat} (hs : s < 16) (hv : v < 16) : ∃ σ1, f_X8_hoursByNeighbours (I s) (I v) σ = some (I (dst (cH σ) s v), σ1) ∧ ∀ a, a ≠ 159 → σ1 a = σ a := by
  obtain ⟨σ1, D, h1, h2, h3, h4⟩ := m_relax (c := cH σ) (W := fun h => if gC σ h = true then 1 else 1000) (fun h _ => by unfold cH gC; by_cases q : (5 : Int32) ≤ σ 2 h <;> simp [q]) (cH_one σ) (fun h => by split <;> omega) hs (σ0 := σ) (g1 := 1) (g2 := 1000) (fun h _ => by unfold gC; by_cases q : (5 : Int32) ≤ σ 2 h <;> simp [q])
  have h1 : f_X8_relaxFrom (I s) 1 1000 σ = some σ1 := h1
  refine ⟨σ1, ?_, h4⟩
  unfold f_X8_hoursByNeighbours
  rw [h1, bnd_d, m_dist hv, bnd_d, (h2 v hv).1]
  rcases lab_dst (by omega) h3 hv with ⟨-, b, -⟩ | ⟨a, b, -⟩
  · rw [b]
  · rw [a, b]
theorem dst_congr {c d : Nat → Option Nat} (h : ∀ g, g < 24 → c g = d g) (s v : Nat) : dst c s v = dst d s v := by
  by_cases e : ∃ k, isD c s v k
  · obtain ⟨k, q⟩ := e
    rw [dst_is q, dst_is (isD_congr h q)]
  · have e2 : ¬ ∃ k, isD d s v k := fun ⟨k, q⟩ => e ⟨k, isD_congr (fun g hg => (h g hg).symm) q⟩
    unfold dst
    rw [dif_neg e, dif_neg e2]
theorem n_hours {σ : Mm} {s v : Nat} (hs : s < 16) (hv : v < 16) : ∃ σ1, f_X10_hoursOf (I s) (I v) σ = some (if dst (cR σ false) s v < 1000 then I (dst (cR σ false) s v) else -1, σ1) ∧ ∀ a, a ≠ 204 → σ1 a = σ a := by
  obtain ⟨σ1, D, h1, h2, h3, h4⟩ := m_lays (σ0 := σ) (tr := false) hs
  have h1 : f_X10_laysWays (I s) 0 σ = some σ1 := h1
  refine ⟨σ1, ?_, h4⟩
  unfold f_X10_hoursOf
  rw [h1, bnd_d, gd_I hv (by omega), gd_I hv (by omega), I_clamp (by omega), (h2 v hv).1]
  rcases lab_dst (by omega) h3 hv with ⟨a, b, -⟩ | ⟨a, b, -⟩
  · rw [b, if_pos (show I (D v) < 99 from (I_lt (b := 99) (by omega) (by omega)).mpr a), if_pos (by omega)]
  · rw [a, b, if_neg (by decide), if_neg (by omega)]
theorem dst_lt {c : Nat → Option Nat} (hc : isOne c) {s v : Nat} (hs : s < 16) : dst c s v ≤ 15 ∨ dst c s v = 1000 := by
  by_cases e : ∃ k, isD c s v k
  · obtain ⟨k, q⟩ := e
    rw [dst_is q]; exact Or.inl (q.le15 hc hs)
  · right; unfold dst; rw [dif_neg e]
