/-! BREADTH FIRST: the queue -/
theorem pig : ∀ (n k : Nat) (Q : Nat → Nat), (∀ i, i < k → Q i < n) → (∀ i j, i < k → j < k → Q i = Q j → i = j) → k ≤ n := by
  intro n
  induction n with
  | zero =>
    intro k Q h1 h2
    rcases Nat.eq_zero_or_pos k with h | h
    · omega
    · have := h1 0 h; omega
  | succ n ih =>
    intro k Q h1 h2
    by_cases hx : ∃ i, i < k ∧ Q i = n
    · obtain ⟨i, hi, hq⟩ := hx
      have := ih (k - 1) (fun j => if j < i then Q j else Q (j + 1)) (fun j hj => by
          split
          · have a := h1 j (by omega)
            have b : Q j ≠ n := fun q => by have := h2 j i (by omega) hi (q.trans hq.symm); omega
            omega
          · have a := h1 (j + 1) (by omega)
            have b : Q (j + 1) ≠ n := fun q => by have := h2 (j + 1) i (by omega) hi (q.trans hq.symm); omega
            omega) (fun a b ha hb q => by
          split at q <;> split at q
          · exact h2 _ _ (by omega) (by omega) q
          · have := h2 _ _ (by omega) (by omega) q; omega
          · have := h2 _ _ (by omega) (by omega) q; omega
          · have := h2 _ _ (by omega) (by omega) q; omega)
      omega
    · exact Nat.le_succ_of_le (ih k Q (fun i hi => by
          have a := h1 i hi
          have b : Q i ≠ n := fun q => hx ⟨i, hi, q⟩
          omega) h2)
/-- k cells wait in the queue Q, t of them are done, D are the labels -/
def bq (c : Nat → Option Nat) (s k t : Nat) (Q D : Nat → Nat) : Prop :=
  (∀ i, i < k → Q i < 16 ∧ D (Q i) < 1000) ∧ (∀ i j, i < k → j < k → Q i = Q j → i = j) ∧ (∀ v, v < 16 → D v < 1000 → ∃ i, i < k ∧ Q i = v) ∧ (∀ i j, i ≤ j → j < k → D (Q i) ≤ D (Q j)) ∧ (t < k → ∀ j, j < k → D (Q j) ≤ D (Q t) + 1) ∧ snd c 1000 s D ∧ D s = 0 ∧ (∀ i, i < t → i < k → ∀ h v w, ed h (Q i) v → c h = some w → D v ≤ D (Q i) + w) ∧ ∀ i, i < k → D (Q i) ≤ i
theorem bq_add {c : Nat → Option Nat} {s k t : Nat} {Q D : Nat → Nat} (hb : bq c s k t Q D) (ht : t < k) {h x : Nat} (e : ed h (Q t) x) (hc : c h = some 1) (hx : D x = 1000) :
    k < 16 ∧ D (Q t) + 1 < 1000 ∧ bq c s (k + 1) t (fun i => if i = k then x else Q i) (fun y => if y = x then D (Q t) + 1 else D y) := by
  obtain ⟨b1, b2, b3, b4, b5, b6, b7, b8, b9⟩ := hb
  have hx16 := e.lt.2
  have nx : ∀ i, i < k → Q i ≠ x := fun i hi q => by have := (b1 i hi).2; rw [q, hx] at this; omega
  obtain ⟨Q1, hQ1⟩ : ∃ Q1 : Nat → Nat, Q1 = fun i => if i = k then x else Q i := ⟨_, rfl⟩
  obtain ⟨D1, hD1⟩ : ∃ D1 : Nat → Nat, D1 = fun y => if y = x then D (Q t) + 1 else D y := ⟨_, rfl⟩
  have qk : Q1 k = x := by rw [hQ1]; exact if_pos rfl
  have qi : ∀ i, i < k → Q1 i = Q i := fun i hi => by rw [hQ1]; exact if_neg (by omega)
  have dx : D1 x = D (Q t) + 1 := by rw [hD1]; exact if_pos rfl
  have dn : ∀ y, y ≠ x → D1 y = D y := fun y hy => by rw [hD1]; exact if_neg hy
  have inj : ∀ i j, i < k + 1 → j < k + 1 → Q1 i = Q1 j → i = j := by
    intro i j hi hj q
    by_cases a : i = k
    · by_cases b : j = k
      · omega
      · rw [a, qk, qi j (by omega)] at q; exact absurd q.symm (nx j (by omega))
    · by_cases b : j = k
      · rw [b, qk, qi i (by omega)] at q; exact absurd q (nx i (by omega))
      · rw [qi i (by omega), qi j (by omega)] at q; exact b2 i j (by omega) (by omega) q
  have r16 : ∀ i, i < k + 1 → Q1 i < 16 := by
    intro i hi
    by_cases a : i = k
    · rw [a, qk]; exact hx16
    · rw [qi i (by omega)]; exact (b1 i (by omega)).1
  have hk := pig 16 (k + 1) Q1 r16 inj
  have hd := b9 t ht
  have hle : ∀ y, D1 y ≤ D y := fun y => by
    by_cases a : y = x
    · rw [a, dx, hx]; omega
    · rw [dn y a]; exact Nat.le_refl _
  have dq : ∀ i, i < k → D1 (Q1 i) = D (Q i) := fun i hi => by rw [qi i hi, dn _ (nx i hi)]
  have dk : D1 (Q1 k) = D (Q t) + 1 := by rw [qk, dx]
  rw [← hQ1, ← hD1]
  refine ⟨by omega, by omega, ?_, inj, ?_, ?_, ?_, ?_, ?_, ?_, ?_⟩
  · intro i hi
    refine ⟨r16 i hi, ?_⟩
    by_cases a : i = k
    · rw [a, dk]; omega
    · rw [dq i (by omega)]; exact (b1 i (by omega)).2
  · intro v hv q
    by_cases a : v = x
    · exact ⟨k, by omega, by rw [qk, a]⟩
    · rw [dn v a] at q
      obtain ⟨i, hi, q2⟩ := b3 v hv q
      exact ⟨i, by omega, by rw [qi i hi]; exact q2⟩
  · intro i j hij hj
    by_cases a : j = k
    · by_cases b : i = k
      · rw [a, b]; exact Nat.le_refl _
      · rw [a, dk, dq i (by omega)]; exact b5 ht i (by omega)
    · rw [dq i (by omega), dq j (by omega)]; exact b4 i j hij (by omega)
  · intro _ j hj
    rw [dq t ht]
    by_cases a : j = k
    · rw [a, dk]; exact Nat.le_refl _
    · rw [dq j (by omega)]; exact b5 ht j (by omega)
  · intro v hv q
    by_cases a : v = x
    · rw [a, dx]
      obtain ⟨n, hn⟩ := b6 (Q t) (b1 t ht).1 (b1 t ht).2
      exact ⟨n + 1, h, Q t, D (Q t), 1, e, hc, hn, rfl⟩
    · rw [dn v a] at q ⊢; exact b6 v hv q
  · by_cases a : s = x
    · rw [a] at b7; omega
    · rw [dn s a]; exact b7
  · intro i hi hi2 g v w e2 hw
    rw [qi i (by omega)] at e2
    rw [dq i (by omega)]
    exact Nat.le_trans (hle v) (b8 i hi (by omega) g v w e2 hw)
  · intro i hi
    by_cases a : i = k
    · rw [a, dk]; omega
    · rw [dq i (by omega)]; exact b9 i (by omega)
/-- hedges that are gaps cost 1, others can't be passed -/
def cH (σ : Mm) : Nat → Option Nat := fun h => if (5 : Int32) ≤ σ 2 h then none else some 1
theorem nm1 {a : Nat} (h : a < 2147483648) : ¬ I a = (-1 : Int32) := I_m1 h
theorem cH_one (σ : Mm) : isOne (cH σ) := fun h w q => by
  unfold cH at q
  split at q
  · cases q
  · cases q; exact Nat.le_refl _
/-- a hop from u over the hedge v, or none -/
theorem across_cases {v u : Nat} (hv : v < 24) : (∃ x, x < 16 ∧ ed v u x ∧ (if loN v = u then I (hiN v) else if hiN v = u then I (loN v) else -1) = I x) ∨ ((if loN v = u then I (hiN v) else if hiN v = u then I (loN v) else (-1 : Int32)) = -1 ∧ ∀ x, ¬ ed v u x) := by
  have l := lohi v hv
  by_cases a : loN v = u
  · rw [if_pos a]; exact Or.inl ⟨hiN v, l.2, ⟨hv, Or.inl ⟨a.symm, rfl⟩⟩, rfl⟩
  · rw [if_neg a]
    by_cases b : hiN v = u
    · rw [if_pos b]; exact Or.inl ⟨loN v, l.1, ⟨hv, Or.inr ⟨b.symm, rfl⟩⟩, rfl⟩
    · rw [if_neg b]
      refine Or.inr ⟨rfl, fun x e => ?_⟩
      rcases e.2 with ⟨q, -⟩ | ⟨q, -⟩
      · exact a q.symm
      · exact b q.symm
theorem ed_fun {v u x y : Nat} (a : ed v u x) (b : ed v u y) : x = y := by
  have hd := (by decide : ∀ v, v < 24 → loN v ≠ hiN v) v a.1
  rcases a.2 with ⟨p, q⟩ | ⟨p, q⟩ <;> rcases b.2 with ⟨r, t⟩ | ⟨r, t⟩
  · rw [q, t]
  · exact absurd (p.symm.trans r) hd
  · exact absurd (r.symm.trans p) hd
  · rw [q, t]
def bIn (σ0 : Mm) (s t u v : Nat) (g : Int32 × Mm) : Prop :=
  ∃ k Q D, g.1 = I k ∧ k ≤ 16 ∧ lbl 159 1000 g.2 D ∧ (∀ i, i < k → g.2 160 i = I (Q i)) ∧ bq (cH σ0) s k t Q D ∧ t < k ∧ Q t = u ∧ (∀ h, h < v → ∀ x w, ed h u x → cH σ0 h = some w → D x ≤ D u + w) ∧ ∀ a, a ≠ 159 → a ≠ 160 → g.2 a = σ0 a
theorem bfs_in {σ0 : Mm} {K : Int32 → Int32 → Mm → Option Mm} {v8 a0 : Int32} {s t u : Nat} (hu : u < 16) (g0 : Int32 × Mm) (h0 : bIn σ0 s t u 0 g0) :
    ∃ g, f_X8_measureFrom_l38 K (I u) v8 a0 30 0 g0.1 g0.2 = K (I 24) g.1 g.2 ∧ bIn σ0 s t u 24 g := by
  have hstop : ∀ (n : Nat) (g : Int32 × Mm), bIn σ0 s t u 24 g → f_X8_measureFrom_l38 K (I u) v8 a0 (n + 1) (I 24) g.1 g.2 = K (I 24) g.1 g.2 := by
    intro n g _
    rw [f_X8_measureFrom_l38, if_pos (show (24 : Int32) ≤ I 24 by decide)]
  have hstep : ∀ (n v : Nat) (g : Int32 × Mm), v < 24 → bIn σ0 s t u v g → ∃ g1 : Int32 × Mm, f_X8_measureFrom_l38 K (I u) v8 a0 (n + 1) (I v) g.1 g.2 = f_X8_measureFrom_l38 K (I u) v8 a0 n (I (v + 1)) g1.1 g1.2 ∧ bIn σ0 s t u (v + 1) g1 := by
    intro n v g hv hi
    obtain ⟨kk, σ⟩ := g
    obtain ⟨k, Q, D, i1, i2, i3, i4, i5, i6, i7, i8, i9⟩ := hi
    dsimp only at i1 i3 i4 i9
    subst i1
    have e1 : I v + 1 = I (v + 1) := I_add v 1
    have hop1 : σ 2 v = σ0 2 v := by rw [i9 2 (by omega) (by omega)]
    have skip : (∀ x w, ed v u x → cH σ0 v = some w → D x ≤ D u + w) → bIn σ0 s t u (v + 1) (I k, σ) := fun q => ⟨k, Q, D, rfl, i2, i3, i4, i5, i6, i7, fun h hh x w e hc => by
      by_cases a : h = v
      · subst a; exact q x w e hc
      · exact i8 h (by omega) x w e hc, i9⟩
    show ∃ g1, f_X8_measureFrom_l38 K (I u) v8 a0 (n + 1) (I v) (I k) σ = f_X8_measureFrom_l38 K (I u) v8 a0 n (I (v + 1)) g1.1 g1.2 ∧ bIn σ0 s t u (v + 1) g1
    rw [f_X8_measureFrom_l38, if_neg (show ¬ (24 : Int32) ≤ I v from nle (N := 24) hv (by omega)), m_across hv hu, bnd_d]
    rcases across_cases (u := u) hv with ⟨x, hx, e, hq⟩ | ⟨hq, hn⟩
    · rw [hq, m_cell hx, bnd_d, if_neg (show ¬ (1 : Int32) = 0 by decide), m_open hv, bnd_d, hop1]
      by_cases o : (5 : Int32) ≤ σ0 2 v
      · rw [if_pos o, if_pos rfl, lt_d, e1]
        exact ⟨(I k, σ), rfl, skip (fun y w _ hc => by unfold cH at hc; rw [if_pos o] at hc; cases hc)⟩
      · have hc1 : cH σ0 v = some 1 := by unfold cH; rw [if_neg o]
        rw [if_neg o, if_neg (by decide), gd_I hx (by omega), I_clamp (by omega), (i3 x hx).1]
        by_cases f : D x = 1000
        · rw [if_pos (show I (D x) = 1000 by rw [f]; rfl)]
          have ek : Q t = u := i7
          subst ek
          obtain ⟨h1, h2, h3⟩ := bq_add i5 i6 e hc1 f
          rw [if_neg (show ¬ (16 : Int32) ≤ I k from nle (N := 16) h1 (by omega)), m_dist hu, bnd_d, gd_I hx (by omega), I_clamp (by omega), (i3 _ hu).1, show I (D (Q t)) + 1 = I (D (Q t) + 1) from I_add _ 1, lt_d, gd_I h1 (by omega), lt_d, show I k + 1 = I (k + 1) from I_add _ 1, lt_d, lt_d, e1]
          refine ⟨(I (k + 1), up (up σ 159 x (I (D (Q t) + 1))) 160 k (I x)), rfl, k + 1, _, _, rfl, h1, ?_, ?_, h3, Nat.lt_succ_of_lt i6, if_neg (by omega), ?_, ?_⟩
          · intro y hy
            dsimp only
            rw [up_n _ _ _ (by decide)]
            exact up_lbl i3 (Nat.le_of_lt h2) y hy
          · intro i hi
            dsimp only
            rw [up_e]
            by_cases a : i = k
            · rw [a, upd_e, if_pos rfl]
            · rw [upd_n _ _ a, up_n _ _ _ (by decide), if_neg a]; exact i4 i (by omega)
          · intro h hh y w e2 hc
            have un : Q t ≠ x := fun q => by
              have := (i5.1 t i6).2
              rw [q, f] at this; omega
            rw [if_neg un]
            by_cases a : h = v
            · subst a
              rw [hc1] at hc; cases hc
              rw [ed_fun e2 e, if_pos rfl]
              exact Nat.le_refl _
            · have := i8 h (by omega) y w e2 hc
              by_cases b : y = x
              · rw [if_pos b]; rw [b, f] at this; omega
              · rw [if_neg b]; exact this
          · intro a ha hb
            dsimp only
            rw [up_n _ _ _ hb, up_n _ _ _ ha]; exact i9 a ha hb
        · rw [if_neg (show ¬ I (D x) = 1000 from fun q => f ((I_eq (by have := (i3 x hx).2; omega) (by omega)).mp (show I (D x) = I 1000 from q))), lt_d, e1]
          refine ⟨(I k, σ), rfl, skip (fun y w e2 hc => ?_)⟩
          rw [hc1] at hc; cases hc
          rw [ed_fun e2 e]
          have hl : D x < 1000 := by have := (i3 x hx).2; omega
          obtain ⟨b1, b2, b3, b4, b5, b6, b7, b8, b9⟩ := i5
          obtain ⟨j, hj, q⟩ := b3 x hx hl
          have := b5 i6 j hj
          rw [q, i7] at this
          exact this
    · rw [hq, m_cellN (Or.inl (by decide)), bnd_d, if_pos rfl, lt_d, e1]
      exact ⟨(I k, σ), rfl, skip (fun x w e _ => absurd e (hn x))⟩
  exact loopI (fun n v (g : Int32 × Mm) => f_X8_measureFrom_l38 K (I u) v8 a0 n v g.1 g.2) (fun g => K (I 24) g.1 g.2) 24 (fun v g => bIn σ0 s t u v g) hstop hstep 24 0 30 g0 rfl (by omega) h0
theorem m_measure {σ0 : Mm} {s : Nat} (hs : s < 16) : ∃ σ1 D, f_X8_measureFrom (I s) σ0 = some σ1 ∧ lbl 159 1000 σ1 D ∧ lab (cH σ0) 1000 s D ∧ ∀ a, a ≠ 159 → a ≠ 160 → σ1 a = σ0 a := by
  have fin : ∀ (k : Nat) (Q D : Nat → Nat) (σ : Mm), lbl 159 1000 σ D → bq (cH σ0) s k k Q D → lab (cH σ0) 1000 s D := by
    intro k Q D σ h1 h2
    obtain ⟨b1, b2, b3, b4, b5, b6, b7, b8, b9⟩ := h2
    refine lab_of (cH_one σ0) hs (by omega) (fun v hv => (h1 v hv).2) b6 (fun n v j _ q => closed_le b7 ?_ n v j q)
    intro h u v w e hc
    by_cases a : D u < 1000
    · obtain ⟨i, hi, q⟩ := b3 u e.lt.1 a
      subst q
      exact b8 i hi hi h v w e hc
    · have := (h1 v e.lt.2).2
      omega
  have main : ∀ d t n k (σ : Mm) (Q D : Nat → Nat), t + d = 16 → d < n → k ≤ 16 → t ≤ k → lbl 159 1000 σ D → (∀ i, i < k → σ 160 i = I (Q i)) → bq (cH σ0) s k t Q D → (∀ a, a ≠ 159 → a ≠ 160 → σ a = σ0 a) →
      ∃ σ1 E, f_X8_measureFrom_l16 (I s) n (I t) (I k) σ = some σ1 ∧ lbl 159 1000 σ1 E ∧ lab (cH σ0) 1000 s E ∧ ∀ a, a ≠ 159 → a ≠ 160 → σ1 a = σ0 a := by
    intro d
    induction d with
    | zero =>
      intro t n k σ Q D ht hn hk htk h1 h2 h3 h4
      obtain ⟨n, rfl⟩ : ∃ m, n = m + 1 := ⟨n - 1, by omega⟩
      have : k = t := by omega
      subst this
      refine ⟨σ, D, ?_, h1, fin _ _ _ _ h1 h3, h4⟩
      rw [f_X8_measureFrom_l16, if_pos (show I k ≤ I k from (I_le (by omega) (by omega)).mpr (Nat.le_refl _))]
    | succ d ih =>
      intro t n k σ Q D ht hn hk htk h1 h2 h3 h4
      obtain ⟨n, rfl⟩ : ∃ m, n = m + 1 := ⟨n - 1, by omega⟩
      rw [f_X8_measureFrom_l16]
      by_cases e : k ≤ t
      · have : k = t := by omega
        subst this
        refine ⟨σ, D, ?_, h1, fin _ _ _ _ h1 h3, h4⟩
        rw [if_pos (show I k ≤ I k from (I_le (by omega) (by omega)).mpr (Nat.le_refl _))]
      · have htk2 : t < k := by omega
        rw [if_neg (show ¬ I k ≤ I t from nle htk2 (by omega)), if_neg (show ¬ (16 : Int32) ≤ I t from nle (N := 16) (by omega) (by omega)), gd_I (by omega) (by omega), I_clamp (by omega), h2 t htk2, lt_d, lt_d]
        obtain ⟨b1, b2, b3, b4, b5, b6, b7, b8, b9⟩ := id h3
        obtain ⟨⟨kk, σ1⟩, e1, k1, Q1, D1, c1, c2, c3, c4, c5, c6, c7, c8, c9⟩ := bfs_in (σ0 := σ0) (K := fun v14 v15 σ16 => lt (I t + 1) fun x18 => f_X8_measureFrom_l16 (I s) n x18 v15 σ16) (v8 := I t) (a0 := I s) (s := s) (t := t) (b1 t htk2).1 (I k, σ) ⟨k, Q, D, rfl, hk, h1, h2, h3, htk2, rfl, fun h hh => by omega, h4⟩
        dsimp only at e1 c1 c3 c4 c9
        rw [e1]
        show ∃ σ2 E, lt (I t + 1) (fun x18 => f_X8_measureFrom_l16 (I s) n x18 kk σ1) = some σ2 ∧ _
        rw [lt_d, show I t + 1 = I (t + 1) from I_add t 1, c1]
        refine ih (t + 1) n k1 σ1 Q1 D1 (by omega) (by omega) c2 c6 c3 c4 ?_ c9
        obtain ⟨d1, d2, d3, d4, d5, d6, d7, d8, d9⟩ := c5
        refine ⟨d1, d2, d3, d4, ?_, d6, d7, ?_, d9⟩
        · intro hlt j hj
          have p1 := d5 c6 j hj
          have p2 := d4 t (t + 1) (by omega) hlt
          omega
        · intro i hi hi2 h v w e2 hc
          by_cases a : i = t
          · subst a
            rw [c7] at e2 ⊢
            exact c8 h e2.1 v w e2 hc
          · exact d8 i (by omega) hi2 h v w e2 hc
  obtain ⟨σ1, h1, h2, h3⟩ := m_start (σ := σ0) hs
  unfold f_X8_measureFrom
  rw [h1, bnd_d, lt_d]
  refine main 16 0 30 1 _ (fun _ => s) (fun v => if v = s then 0 else 1000) (by omega) (by omega) (by omega) (by omega) ?_ ?_ ?_ ?_
  · intro v hv
    rw [up_n _ _ _ (by decide)]
    exact h2 v hv
  · intro i hi
    have : i = 0 := by omega
    subst this
    rw [up_e]; exact upd_e _ _ _
  · refine ⟨fun i _ => ⟨hs, by simp⟩, fun i j hi hj _ => by omega, fun v hv q => ⟨0, by omega, ?_⟩, fun i j _ _ => Nat.le_refl _, fun _ j _ => Nat.le_succ _, start_snd, by simp, fun i hi => by omega, fun i _ => by simp⟩
    by_cases a : v = s
    · exact a.symm
    · simp [a] at q
  · intro a ha hb
    rw [up_n _ _ _ hb]; exact h3 a ha
/-- the fewest hours, 1000 where there is no way -/
noncomputable def dst (c : Nat → Option Nat) (s v : Nat) : Nat := @dite _ (∃ k, isD c s v k) (Classical.propDecidable _) (fun h => h.choose) (fun _ => 1000)
theorem dst_is {c : Nat → Option Nat} {s v k : Nat} (h : isD c s v k) : dst c s v = k := by
  unfold dst
  have hx : ∃ k, isD c s v k := ⟨k, h⟩
  rw [dif_pos hx]
  exact hx.choose_spec.uniq h
theorem dst_no {c : Nat → Option Nat} {s v : Nat} (h : noW c s v) : dst c s v = 1000 := by
  unfold dst
  rw [dif_neg (fun ⟨k, q⟩ => q.no h)]
theorem lab_dst {c : Nat → Option Nat} {F s v : Nat} {D : Nat → Nat} (hF : F ≤ 1000) (h : lab c F s D) (hv : v < 16) : (D v < F ∧ dst c s v = D v ∧ isD c s v (D v)) ∨ (D v = F ∧ dst c s v = 1000 ∧ noW c s v) := by
  rcases h v hv with ⟨a, b⟩ | ⟨a, b⟩
  · exact Or.inl ⟨a, dst_is b, b⟩
  · exact Or.inr ⟨a, dst_no b, b⟩
