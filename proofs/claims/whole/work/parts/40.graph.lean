/-! GRAPH: the cells, the hedges between them, walks and what they cost -/
def loN (h : Nat) : Nat := ([0, 1, 2, 4, 5, 6, 8, 9, 10, 12, 13, 14, 0, 1, 2, 3, 4, 5, 6, 7, 8, 9, 10, 11] : List Nat).getD h 0
def hiN (h : Nat) : Nat := ([1, 2, 3, 5, 6, 7, 9, 10, 11, 13, 14, 15, 4, 5, 6, 7, 8, 9, 10, 11, 12, 13, 14, 15] : List Nat).getD h 0
def ed (h u v : Nat) : Prop := h < 24 ∧ ((u = loN h ∧ v = hiN h) ∨ (u = hiN h ∧ v = loN h))
theorem lohi (h : Nat) (hh : h < 24) : loN h < 16 ∧ hiN h < 16 := (by decide : ∀ h, h < 24 → loN h < 16 ∧ hiN h < 16) h hh
theorem ed.swap {h u v : Nat} (e : ed h u v) : ed h v u := ⟨e.1, e.2.elim (fun q => Or.inr ⟨q.2, q.1⟩) (fun q => Or.inl ⟨q.2, q.1⟩)⟩
theorem ed.lt {h u v : Nat} (e : ed h u v) : u < 16 ∧ v < 16 := by
  obtain ⟨h0, h1⟩ := e
  have h2 := lohi h h0
  rcases h1 with ⟨a, b⟩ | ⟨a, b⟩ <;> subst a <;> subst b
  · exact h2
  · exact ⟨h2.2, h2.1⟩
/-- a walk of n hops from s to v at the cost k; c: what a hedge costs, none where it can't be passed -/
def wk (c : Nat → Option Nat) (s : Nat) : Nat → Nat → Nat → Prop
  | 0, v, k => v = s ∧ k = 0
  | n + 1, v, k => ∃ h u j w, ed h u v ∧ c h = some w ∧ wk c s n u j ∧ k = j + w
/-- the same from its first hop on, within S -/
def wf (c : Nat → Option Nat) (S : Nat → Prop) (v : Nat) : Nat → Nat → Nat → Prop
  | 0, u, k => u = v ∧ k = 0 ∧ S u
  | n + 1, u, k => S u ∧ ∃ h x j w, ed h u x ∧ c h = some w ∧ wf c S v n x j ∧ k = w + j
theorem wf_start {c : Nat → Option Nat} {S : Nat → Prop} {v n u k : Nat} (h : wf c S v n u k) : S u := by
  cases n with
  | zero => exact h.2.2
  | succ n => exact h.1
theorem wf_weak {c : Nat → Option Nat} {S T : Nat → Prop} (hST : ∀ x, S x → T x) {v : Nat} : ∀ {n u k : Nat}, wf c S v n u k → wf c T v n u k := by
  intro n
  induction n with
  | zero => intro u k h; exact ⟨h.1, h.2.1, hST _ h.2.2⟩
  | succ n ih =>
    intro u k h
    obtain ⟨h1, g, x, j, w, h2, h3, h4, h5⟩ := h
    exact ⟨hST _ h1, g, x, j, w, h2, h3, ih h4, h5⟩
theorem wf_snoc {c : Nat → Option Nat} {S : Nat → Prop} {h u v w : Nat} (e : ed h u v) (hc : c h = some w) (hv : S v) : ∀ {n s j : Nat}, wf c S u n s j → wf c S v (n + 1) s (j + w) := by
  intro n
  induction n with
  | zero =>
    intro s j q
    obtain ⟨rfl, rfl, q3⟩ := q
    exact ⟨q3, h, v, 0, w, e, hc, ⟨rfl, rfl, hv⟩, by omega⟩
  | succ n ih =>
    intro s j q
    obtain ⟨q1, g, x, i, z, q2, q3, q4, rfl⟩ := q
    exact ⟨q1, g, x, i + w, z, q2, q3, ih q4, by omega⟩
theorem wk_cons {c : Nat → Option Nat} {h s u w : Nat} (e : ed h s u) (hc : c h = some w) : ∀ {n v j : Nat}, wk c u n v j → wk c s (n + 1) v (w + j) := by
  intro n
  induction n with
  | zero =>
    intro v j q
    obtain ⟨rfl, rfl⟩ := q
    exact ⟨h, s, 0, w, e, hc, ⟨rfl, rfl⟩, by omega⟩
  | succ n ih =>
    intro v j q
    obtain ⟨g, x, i, z, q2, q3, q4, rfl⟩ := q
    exact ⟨g, x, w + i, z, q2, q3, ih q4, by omega⟩
theorem wk_wf {c : Nat → Option Nat} {s : Nat} (hs : s < 16) : ∀ {n v k : Nat}, wk c s n v k → wf c (fun x => x < 16) v n s k := by
  intro n
  induction n with
  | zero =>
    intro v k q
    obtain ⟨rfl, rfl⟩ := q
    exact ⟨rfl, rfl, hs⟩
  | succ n ih =>
    intro v k q
    obtain ⟨g, x, i, z, q2, q3, q4, rfl⟩ := q
    exact wf_snoc q2 q3 q2.lt.2 (ih q4)
theorem wf_wk {c : Nat → Option Nat} {S : Nat → Prop} {v : Nat} : ∀ {n s k : Nat}, wf c S v n s k → wk c s n v k := by
  intro n
  induction n with
  | zero =>
    intro s k q
    obtain ⟨rfl, rfl, -⟩ := q
    exact ⟨rfl, rfl⟩
  | succ n ih =>
    intro s k q
    obtain ⟨q1, g, x, j, w, q2, q3, q4, rfl⟩ := q
    exact wk_cons q2 q3 (ih q4)
theorem wf_cut {c : Nat → Option Nat} {S : Nat → Prop} {v : Nat} (s : Nat) : ∀ {n u k : Nat}, wf c S v n u k → wf c (fun x => S x ∧ x ≠ s) v n u k ∨ ∃ n1 k1, n1 ≤ n ∧ k1 ≤ k ∧ wf c S v n1 s k1 := by
  intro n
  induction n with
  | zero =>
    intro u k q
    by_cases hu : u = s
    · subst hu
      exact Or.inr ⟨0, k, Nat.le_refl _, Nat.le_refl _, q⟩
    · exact Or.inl ⟨q.1, q.2.1, q.2.2, hu⟩
  | succ n ih =>
    intro u k q
    by_cases hu : u = s
    · subst hu
      exact Or.inr ⟨n + 1, k, Nat.le_refl _, Nat.le_refl _, q⟩
    · obtain ⟨q1, g, x, j, w, q2, q3, q4, rfl⟩ := q
      rcases ih q4 with h | ⟨n1, k1, h1, h2, h3⟩
      · exact Or.inl ⟨⟨q1, hu⟩, g, x, j, w, q2, q3, h, rfl⟩
      · exact Or.inr ⟨n1, k1, by omega, by omega, h3⟩
theorem wf_last {c : Nat → Option Nat} {S : Nat → Prop} {v s : Nat} : ∀ (m n : Nat), n < m → ∀ {k : Nat}, wf c S v n s k → v = s ∨ ∃ h u j w n1, ed h s u ∧ c h = some w ∧ wf c (fun x => S x ∧ x ≠ s) v n1 u j ∧ w + j ≤ k := by
  intro m
  induction m with
  | zero => intro n hn; omega
  | succ m ih =>
    intro n hn k q
    cases n with
    | zero => exact Or.inl q.1.symm
    | succ n =>
      obtain ⟨q1, g, x, j, w, q2, q3, q4, rfl⟩ := q
      rcases wf_cut s q4 with h | ⟨n1, k1, h1, h2, h3⟩
      · exact Or.inr ⟨g, x, j, w, n, q2, q3, h, Nat.le_refl _⟩
      · rcases ih n1 (by omega) h3 with h | ⟨a1, a2, a3, a4, a5, b1, b2, b3, b4⟩
        · exact Or.inl h
        · exact Or.inr ⟨a1, a2, a3, a4, a5, b1, b2, b3, by omega⟩
theorem wf_hop {c : Nat → Option Nat} {v : Nat} : ∀ (m : Nat) (L : List Nat), L.length ≤ m → ∀ (S : Nat → Prop), (∀ x, S x → x ∈ L) → ∀ {n s k : Nat}, wf c S v n s k → ∃ n1 k1, n1 + 1 ≤ m ∧ k1 ≤ k ∧ wf c (fun _ => True) v n1 s k1 := by
  intro m
  induction m with
  | zero =>
    intro L hL S hS n s k q
    have h1 := hS _ (wf_start q)
    have : L = [] := List.length_eq_zero_iff.mp (by omega)
    rw [this] at h1
    cases h1
  | succ m ih =>
    intro L hL S hS n s k q
    rcases wf_last (n + 1) n (by omega) q with h | ⟨g, u, j, w, n1, q1, q2, q3, q4⟩
    · subst h
      exact ⟨0, 0, by omega, by omega, rfl, rfl, trivial⟩
    · have hs : s ∈ L := hS _ (wf_start q)
      have hlt : (L.filter (fun x => decide (x ≠ s))).length < L.length := by
        rw [List.length_filter_lt_length_iff_exists]
        exact ⟨s, hs, by simp⟩
      obtain ⟨n2, k2, a1, a2, a3⟩ := ih (L.filter (fun x => decide (x ≠ s))) (by omega) (fun x => S x ∧ x ≠ s) (fun x hx => List.mem_filter.mpr ⟨hS x hx.1, by simpa using hx.2⟩) q3
      exact ⟨n2 + 1, w + k2, by omega, by omega, trivial, g, u, k2, w, q1, q2, a3, rfl⟩
/-- no way needs more than 15 hops -/
theorem hop {c : Nat → Option Nat} {s n v k : Nat} (hs : s < 16) (h : wk c s n v k) : ∃ n1 k1, n1 ≤ 15 ∧ k1 ≤ k ∧ wk c s n1 v k1 := by
  obtain ⟨n1, k1, h1, h2, h3⟩ := wf_hop 16 (List.range 16) (by simp) (fun x => x < 16) (fun x hx => List.mem_range.mpr hx) (wk_wf hs h)
  exact ⟨n1, k1, by omega, h2, wf_wk h3⟩
def isOne (c : Nat → Option Nat) : Prop := ∀ h w, c h = some w → w ≤ 1
theorem wk_le {c : Nat → Option Nat} {s : Nat} (hc : isOne c) : ∀ {n v k : Nat}, wk c s n v k → k ≤ n := by
  intro n
  induction n with
  | zero => intro v k q; exact Nat.le_of_eq q.2
  | succ n ih =>
    intro v k q
    obtain ⟨g, x, i, z, q2, q3, q4, rfl⟩ := q
    have := ih q4
    have := hc _ _ q3
    omega
/-- the least cost of a way, and that there is none -/
def isD (c : Nat → Option Nat) (s v k : Nat) : Prop := (∃ n, wk c s n v k) ∧ ∀ n j, wk c s n v j → k ≤ j
def noW (c : Nat → Option Nat) (s v : Nat) : Prop := ∀ n k, ¬ wk c s n v k
theorem isD.uniq {c : Nat → Option Nat} {s v k j : Nat} (h1 : isD c s v k) (h2 : isD c s v j) : k = j := by
  obtain ⟨⟨n, a⟩, b⟩ := h1
  obtain ⟨⟨m, a'⟩, b'⟩ := h2
  exact Nat.le_antisymm (b _ _ a') (b' _ _ a)
theorem isD.no {c : Nat → Option Nat} {s v k : Nat} (h1 : isD c s v k) (h2 : noW c s v) : False := by
  obtain ⟨⟨n, a⟩, -⟩ := h1
  exact h2 n k a
theorem isD.le15 {c : Nat → Option Nat} (hc : isOne c) {s v k : Nat} (hs : s < 16) (h : isD c s v k) : k ≤ 15 := by
  obtain ⟨⟨n, a⟩, b⟩ := h
  obtain ⟨n1, k1, h1, h2, h3⟩ := hop hs a
  have := b _ _ h3
  have := wk_le hc h3
  omega
/-- labels D (F where there is none) are right: sound, at most 0 at the start, and no more than any short walk costs -/
def lab (c : Nat → Option Nat) (F s : Nat) (D : Nat → Nat) : Prop := ∀ v, v < 16 → (D v < F ∧ isD c s v (D v)) ∨ (D v = F ∧ noW c s v)
theorem lab_of {c : Nat → Option Nat} (hc : isOne c) {F s : Nat} {D : Nat → Nat} (hs : s < 16) (hF : 16 ≤ F) (hD : ∀ v, v < 16 → D v ≤ F) (hS : ∀ v, v < 16 → D v < F → ∃ n, wk c s n v (D v)) (hC : ∀ n v k, n ≤ 15 → wk c s n v k → D v ≤ k) : lab c F s D := by
  intro v hv
  by_cases h : D v < F
  · refine Or.inl ⟨h, hS v hv h, fun n j q => ?_⟩
    obtain ⟨n1, k1, h1, h2, h3⟩ := hop hs q
    exact Nat.le_trans (hC _ _ _ h1 h3) h2
  · refine Or.inr ⟨Nat.le_antisymm (hD v hv) (Nat.not_lt.mp h), fun n k q => ?_⟩
    obtain ⟨n1, k1, h1, h2, h3⟩ := hop hs q
    have := hC _ _ _ h1 h3
    have := wk_le hc h3
    omega
/-- labels that no hop lowers -/
theorem closed_le {c : Nat → Option Nat} {s : Nat} {D : Nat → Nat} (h0 : D s = 0) (hE : ∀ h u v w, ed h u v → c h = some w → D v ≤ D u + w) : ∀ n v k, wk c s n v k → D v ≤ k := by
  intro n
  induction n with
  | zero =>
    intro v k q
    obtain ⟨rfl, rfl⟩ := q
    omega
  | succ n ih =>
    intro v k q
    obtain ⟨g, x, i, z, q2, q3, q4, rfl⟩ := q
    have := ih _ _ q4
    have := hE _ _ _ _ q2 q3
    omega
/-- after r rounds -/
def rnd (c : Nat → Option Nat) (s r : Nat) (D : Nat → Nat) : Prop := ∀ n, n ≤ r → ∀ v k, wk c s n v k → D v ≤ k
theorem rnd_zero {c : Nat → Option Nat} {s : Nat} {D : Nat → Nat} (h0 : D s = 0) : rnd c s 0 D := by
  intro n hn v k q
  have : n = 0 := by omega
  subst this
  obtain ⟨rfl, rfl⟩ := q
  omega
theorem rnd_step {c : Nat → Option Nat} {s r : Nat} {D E : Nat → Nat} (h : rnd c s r D) (hm : ∀ v, v < 16 → E v ≤ D v) (hs : s < 16) (hE : ∀ h u v w, ed h u v → c h = some w → E v ≤ D u + w) : rnd c s (r + 1) E := by
  intro n hn v k q
  cases n with
  | zero =>
    have h1 := h 0 (Nat.zero_le _) v k q
    obtain ⟨rfl, rfl⟩ := q
    exact Nat.le_trans (hm _ hs) h1
  | succ n =>
    obtain ⟨g, x, i, z, q2, q3, q4, rfl⟩ := q
    have h1 := h n (by omega) _ _ q4
    have h2 := hE _ _ _ _ q2 q3
    omega
/-- hedge by hedge: what a walk reaches -/
def rch (c : Nat → Option Nat) (s v : Nat) : Prop := ∃ n k, wk c s n v k
theorem rch.start {c : Nat → Option Nat} {s : Nat} : rch c s s := ⟨0, 0, rfl, rfl⟩
theorem rch.step {c : Nat → Option Nat} {s h u v w : Nat} (q : rch c s u) (e : ed h u v) (hc : c h = some w) : rch c s v := by
  obtain ⟨n, k, q⟩ := q
  exact ⟨n + 1, k + w, h, u, k, w, e, hc, q, rfl⟩
/-- where every hedge can be passed at some cost, the exit is reached -/
theorem rch_exit {c : Nat → Option Nat} (hc : ∀ h, h < 24 → ∃ w, c h = some w) {s : Nat} (hs : s < 16) : rch c s 15 := by
  have key : ∀ v, v < 15 → ∃ h u, h < 24 ∧ loN h = v ∧ hiN h = u ∧ v < u ∧ u < 16 := by
    intro v hv
    have := (by decide : ∀ v, v < 15 → ∃ h, h < 24 ∧ loN h = v ∧ v < hiN h ∧ hiN h < 16) v hv
    obtain ⟨h, a, b, c1, d⟩ := this
    exact ⟨h, hiN h, a, b, rfl, c1, d⟩
  have go : ∀ m v, 15 - v ≤ m → v < 16 → rch c s v → rch c s 15 := by
    intro m
    induction m with
    | zero =>
      intro v h1 h2 q
      have : v = 15 := by omega
      exact this ▸ q
    | succ m ih =>
      intro v h1 h2 q
      by_cases hv : v = 15
      · exact hv ▸ q
      · obtain ⟨h, u, a, b, c1, d, e⟩ := key v (by omega)
        obtain ⟨w, hw⟩ := hc h a
        exact ih u (by omega) e (q.step ⟨a, Or.inl ⟨b.symm, c1.symm⟩⟩ hw)
  exact go 15 s (by omega) hs rch.start
