/-! RELAXING: labels in a row, lowered hedge by hedge -/
theorem nle {N r : Nat} (h : r < N) (hN : N < 2147483648) : ¬ I N ≤ I r := fun q => by
  have := (I_le hN (by omega)).mp q
  omega
/-- the labels D stand in the cell A of the memory -/
def lbl (A F : Nat) (σ : Mm) (D : Nat → Nat) : Prop := ∀ v, v < 16 → σ A v = I (D v) ∧ D v ≤ F
def rl (D : Nat → Nat) (u v w : Nat) : Nat → Nat := fun x => if x = v ∧ D u + w < D v then D u + w else D x
theorem rl_le (D : Nat → Nat) (u v w x : Nat) : rl D u v w x ≤ D x := by
  unfold rl
  by_cases h : x = v ∧ D u + w < D v
  · rw [if_pos h]; obtain ⟨rfl, h2⟩ := h; omega
  · rw [if_neg h]; exact Nat.le_refl _
theorem rl_at (D : Nat → Nat) (u v w : Nat) : rl D u v w v ≤ D u + w := by
  unfold rl
  by_cases h : v = v ∧ D u + w < D v
  · rw [if_pos h]; exact Nat.le_refl _
  · rw [if_neg h]; omega
theorem rl_no {D : Nat → Nat} {u v w : Nat} (h : ¬ D u + w < D v) : rl D u v w = D := by
  funext x
  unfold rl
  rw [if_neg (fun q => h q.2)]
/-- what a hedge costs, and what it is taken to cost -/
def wgt (c : Nat → Option Nat) (W : Nat → Nat) : Prop := ∀ h, h < 24 → (c h = some (W h)) ∨ (c h = none ∧ 1000 ≤ W h)
def snd (c : Nat → Option Nat) (F s : Nat) (D : Nat → Nat) : Prop := ∀ v, v < 16 → D v < F → ∃ n, wk c s n v (D v)
theorem rl_snd {c : Nat → Option Nat} {W : Nat → Nat} (hW : wgt c W) {s : Nat} {D : Nat → Nat} (hD : ∀ v, v < 16 → D v ≤ 1000) {h u v : Nat} (e : ed h u v) (hs : snd c 1000 s D) : snd c 1000 s (rl D u v (W h)) := by
  intro x hx hlt
  unfold rl at hlt ⊢
  by_cases q : x = v ∧ D u + W h < D v
  · rw [if_pos q] at hlt ⊢
    obtain ⟨rfl, q2⟩ := q
    obtain ⟨n, hn⟩ := hs u e.lt.1 (by omega)
    rcases hW h e.1 with hc | ⟨-, hc⟩
    · exact ⟨n + 1, h, u, D u, W h, e, hc, hn, rfl⟩
    · omega
  · rw [if_neg q] at hlt ⊢
    exact hs x hx hlt
theorem up_lbl {A F : Nat} {σ : Mm} {D : Nat → Nat} (h : lbl A F σ D) {v k : Nat} (hk : k ≤ F) : lbl A F (up σ A v (I k)) (fun x => if x = v then k else D x) := by
  intro x hx
  rw [up_e]
  by_cases q : x = v
  · subst q
    rw [upd_e]
    simp [hk]
  · rw [upd_n _ _ q]
    simp [q]
    exact h x hx
theorem m_dist {σ : Mm} {u : Nat} (hu : u < 16) : f_X8_distanceOf (I u) σ = some (σ 159 u) := by
  unfold f_X8_distanceOf
  rw [m_cell hu, bnd_d, if_neg (by decide), gd_I hu (by omega), I_clamp (by omega)]
theorem m_lower {σ : Mm} {D : Nat → Nat} (h : lbl 159 1000 σ D) {u v w : Nat} (hu : u < 16) (hv : v < 16) (hw : w ≤ 1000) :
    ∃ b σ1, f_X8_lower (I v) (I u) (I w) σ = some (b, σ1) ∧ lbl 159 1000 σ1 (rl D u v w) ∧ (∀ a, a ≠ 159 → σ1 a = σ a) ∧ ((b = 0 ∧ rl D u v w = D) ∨ b = 1) := by
  have h1 := h u hu
  have h2 := h v hv
  unfold f_X8_lower
  rw [m_dist hu, bnd_d, lt_d, m_cell hv, bnd_d, if_neg (show ¬ (1 : Int32) = 0 by decide)]
  simp (disch := omega) only [gd_I, I_clamp, lt_d, h1.1, h2.1, I_add, I_lt]
  by_cases q : D u + w < D v
  · rw [if_pos q]
    refine ⟨1, _, rfl, ?_, fun a ha => up_n _ _ _ ha, Or.inr rfl⟩
    have e : rl D u v w = fun x => if x = v then D u + w else D x := by
      funext x
      unfold rl
      by_cases c : x = v
      · rw [if_pos ⟨c, q⟩, if_pos c]
      · rw [if_neg (fun z => c z.1), if_neg c]
    rw [e]
    exact up_lbl h (by omega)
  · rw [if_neg q]
    exact ⟨0, σ, rfl, by rw [rl_no q]; exact h, fun _ _ => rfl, Or.inl ⟨rfl, rl_no q⟩⟩
/-- within a round -/
def rInv (c : Nat → Option Nat) (W : Nat → Nat) (s : Nat) (σ0 : Mm) (D0 : Nat → Nat) (v : Nat) (g : Int32 × Mm) : Prop :=
  ∃ D, lbl 159 1000 g.2 D ∧ (∀ x, D x ≤ D0 x) ∧ D s = 0 ∧ snd c 1000 s D ∧ (∀ h, h < v → D (hiN h) ≤ D0 (loN h) + W h ∧ D (loN h) ≤ D0 (hiN h) + W h) ∧ ((g.1 = 0 ∧ D = D0) ∨ g.1 = 1) ∧ ∀ a, a ≠ 159 → g.2 a = σ0 a
theorem I_beq {a b : Nat} (ha : a < 2147483648) (hb : b < 2147483648) (h : a ≠ b) : ¬ I a = I b := fun q => h ((I_eq ha hb).mp q)
theorem relax_in {c : Nat → Option Nat} {W : Nat → Nat} (hW : wgt c W) (hW2 : ∀ h, W h ≤ 1000) {s : Nat} {σ0 : Mm} {g1 g2 : Nat} (hg : ∀ h, h < 24 → W h = if 5 ≤ σ0 2 h then g2 else g1) {D0 : Nat → Nat} {K : Int32 → Int32 → Mm → Option Mm} {v7 a0 : Int32}
    (h0 : lbl 159 1000 σ0 D0) (hs0 : D0 s = 0) (hsn : snd c 1000 s D0) : ∃ g, f_X8_relaxFrom_l29 K v7 a0 (I g1) (I g2) 30 0 0 σ0 = K (I 24) g.1 g.2 ∧ rInv c W s σ0 D0 24 g := by
  refine loopI (fun n v g => f_X8_relaxFrom_l29 K v7 a0 (I g1) (I g2) n v g.1 g.2) (fun g => K (I 24) g.1 g.2) 24 (fun v g => rInv c W s σ0 D0 v g) ?_ ?_ 24 0 30 (0, σ0) (by omega) (by omega) ⟨D0, h0, fun _ => Nat.le_refl _, hs0, hsn, fun h hh => by omega, Or.inl ⟨rfl, rfl⟩, fun _ _ => rfl⟩
  · intro n g _
    show f_X8_relaxFrom_l29 K v7 a0 (I g1) (I g2) (n + 1) (I 24) g.1 g.2 = _
    rw [f_X8_relaxFrom_l29, if_pos (show (24 : Int32) ≤ I 24 by decide)]
  · intro n v g hv hi
    obtain ⟨fl, σ⟩ := g
    obtain ⟨D, i1, i2, i3, i4, i5, i6, i7⟩ := hi
    dsimp only at i1 i6 i7
    have hlh := lohi v hv
    have e1 : I v + 1 = I (v + 1) := I_add v 1
    have hop1 : σ 2 v = σ0 2 v := by rw [i7 2 (by omega)]
    obtain ⟨b1, σ1, l1, l2, l3, l4⟩ := m_lower i1 hlh.1 hlh.2 (hW2 v)
    obtain ⟨b2, σ2, r1, r2, r3, r4⟩ := m_lower l2 hlh.2 hlh.1 (hW2 v)
    have cost : (if 5 ≤ σ 2 v then I g2 else I g1) = I (W v) := by
      rw [hg v hv, hop1]
      split <;> rfl
    have inv : ∀ f : Int32, ((f = 0 ∧ fl = 0 ∧ b1 = 0 ∧ b2 = 0) ∨ f = 1) → rInv c W s σ0 D0 (v + 1) (f, σ2) := by
      intro f hf
      refine ⟨rl (rl D (loN v) (hiN v) (W v)) (hiN v) (loN v) (W v), r2, fun x => Nat.le_trans (rl_le _ _ _ _ _) (Nat.le_trans (rl_le _ _ _ _ _) (i2 x)), ?_, ?_, ?_, ?_, ?_⟩
      · have a := rl_le (rl D (loN v) (hiN v) (W v)) (hiN v) (loN v) (W v) s
        have b := rl_le D (loN v) (hiN v) (W v) s
        omega
      · exact rl_snd hW (fun x hx => (l2 x hx).2) ⟨hv, Or.inr ⟨rfl, rfl⟩⟩ (rl_snd hW (fun x hx => (i1 x hx).2) ⟨hv, Or.inl ⟨rfl, rfl⟩⟩ i4)
      · intro h hh
        have m1 := fun x => rl_le (rl D (loN v) (hiN v) (W v)) (hiN v) (loN v) (W v) x
        have m2 := fun x => rl_le D (loN v) (hiN v) (W v) x
        by_cases q : h = v
        · subst q
          have a := rl_at D (loN h) (hiN h) (W h)
          have b := rl_at (rl D (loN h) (hiN h) (W h)) (hiN h) (loN h) (W h)
          have c1 := m1 (hiN h)
          have c2 := m2 (hiN h)
          have c3 := i2 (hiN h)
          have c4 := i2 (loN h)
          omega
        · obtain ⟨a, b⟩ := i5 h (by omega)
          have c1 := m1 (hiN h)
          have c2 := m2 (hiN h)
          have c3 := m1 (loN h)
          have c4 := m2 (loN h)
          omega
      · rcases hf with ⟨q1, q2, q3, q4⟩ | q1
        · refine Or.inl ⟨q1, ?_⟩
          rcases l4 with ⟨-, l4⟩ | l4
          · rcases r4 with ⟨-, r4⟩ | r4
            · rcases i6 with ⟨-, i6⟩ | i6
              · rw [r4, l4, i6]
              · rw [q2] at i6; cases i6
            · rw [q4] at r4; cases r4
          · rw [q3] at l4; cases l4
        · exact Or.inr q1
      · intro a ha
        show σ2 a = σ0 a
        rw [r3 a ha, l3 a ha, i7 a ha]
    refine ⟨(if fl = 0 then (if b1 = 0 then (if b2 = 0 then 0 else 1) else 1) else 1, σ2), ?_, ?_⟩
    · show f_X8_relaxFrom_l29 K v7 a0 (I g1) (I g2) (n + 1) (I v) fl σ = f_X8_relaxFrom_l29 K v7 a0 (I g1) (I g2) n (I (v + 1)) _ σ2
      rw [f_X8_relaxFrom_l29, if_neg (show ¬ (24 : Int32) ≤ I v from nle (N := 24) hv (by omega)), m_open hv, bnd_d]
      by_cases o : 5 ≤ σ 2 v
      · rw [if_pos o] at cost
        rw [if_pos o, if_pos rfl]
        simp (disch := omega) only [gd_I, I_clamp, low_I, upp_I, cost, l1, r1, bnm_d, lt_d]
        rw [show I v + 1 = I (v + 1) from e1]
        split
        · split
          · split <;> rfl
          · rfl
        · rfl
      · rw [if_neg o] at cost
        rw [if_neg o, if_neg (by decide)]
        simp (disch := omega) only [gd_I, I_clamp, low_I, upp_I, cost, l1, r1, bnm_d, lt_d]
        rw [show I v + 1 = I (v + 1) from e1]
        split
        · split
          · split <;> rfl
          · rfl
        · rfl
    · apply inv
      by_cases z1 : fl = 0
      · by_cases z2 : b1 = 0
        · by_cases z3 : b2 = 0
          · left; simp [z1, z2, z3]
          · right; simp [z1, z2, z3]
        · right; simp [z1, z2]
      · right; simp [z1]
theorem m_fill {σ : Mm} : ∃ σ1, f_J7_fill_53178 1000 σ = some σ1 ∧ (∀ v, v < 16 → σ1 159 v = 1000) ∧ ∀ a, a ≠ 159 → σ1 a = σ a := by
  unfold f_J7_fill_53178
  obtain ⟨g, h1, h2⟩ := loopI (fun n v g => f_J7_fill_53178_l5 1000 n v g) (fun g => some g) 16 (fun v (g : Mm) => (∀ x, x < v → g 159 x = 1000) ∧ ∀ a, a ≠ 159 → g a = σ a) (by
      intro n g _
      show f_J7_fill_53178_l5 1000 (n + 1) (I 16) g = _
      rw [f_J7_fill_53178_l5, if_pos (show (16 : Int32) ≤ I 16 by decide)])
    (by
      intro n v g hv hi
      refine ⟨up g 159 v 1000, ?_, ?_, ?_⟩
      · show f_J7_fill_53178_l5 1000 (n + 1) (I v) g = f_J7_fill_53178_l5 1000 n (I (v + 1)) _
        rw [f_J7_fill_53178_l5, if_neg (show ¬ (16 : Int32) ≤ I v from nle (N := 16) hv (by omega)), gd_I hv (by omega), I_clamp (by omega), lt_d, lt_d, show I v + 1 = I (v + 1) from I_add v 1]
      · intro x hx
        rw [up_e]
        by_cases q : x = v
        · rw [q, upd_e]
        · rw [upd_n _ _ q]; exact hi.1 x (by omega)
      · intro a ha
        rw [up_n _ _ _ ha]; exact hi.2 a ha) 16 0 20 σ (by omega) (by omega) ⟨fun x hx => by omega, fun _ _ => rfl⟩
  exact ⟨g, h1, h2.1, h2.2⟩
theorem m_start {σ : Mm} {s : Nat} (hs : s < 16) : ∃ σ1, f_X8_startFrom (I s) σ = some σ1 ∧ lbl 159 1000 σ1 (fun v => if v = s then 0 else 1000) ∧ ∀ a, a ≠ 159 → σ1 a = σ a := by
  obtain ⟨σ1, h1, h2, h3⟩ := m_fill (σ := σ)
  unfold f_X8_startFrom
  rw [h1, bnd_d, m_cell hs, bnd_d, if_neg (by decide), gd_I hs (by omega), I_clamp (by omega), lt_d]
  refine ⟨_, rfl, ?_, fun a ha => by rw [up_n _ _ _ ha]; exact h3 a ha⟩
  intro v hv
  rw [up_e]
  by_cases q : v = s
  · rw [q, upd_e]; simp; rfl
  · rw [upd_n _ _ q, h2 v hv]; simp [q]; rfl
theorem start_snd {c : Nat → Option Nat} {s : Nat} : snd c 1000 s (fun v => if v = s then 0 else 1000) := by
  intro v hv h
  by_cases q : v = s
  · exact ⟨0, q, by simp [q]⟩
  · simp [q] at h
/-- relaxing, whole -/
theorem m_relax {c : Nat → Option Nat} {W : Nat → Nat} (hW : wgt c W) (hc1 : isOne c) (hW2 : ∀ h, W h ≤ 1000) {s : Nat} (hs : s < 16) {σ0 : Mm} {g1 g2 : Nat} (hg : ∀ h, h < 24 → W h = if 5 ≤ σ0 2 h then g2 else g1) :
    ∃ σ1 D, f_X8_relaxFrom (I s) (I g1) (I g2) σ0 = some σ1 ∧ lbl 159 1000 σ1 D ∧ lab c 1000 s D ∧ ∀ a, a ≠ 159 → σ1 a = σ0 a := by
  have main : ∀ d r n (fl : Int32) (σ : Mm) (D : Nat → Nat), r + d = 16 → d < n → lbl 159 1000 σ D → D s = 0 → snd c 1000 s D → rnd c s r D → (fl = 0 → ∀ h u v w, ed h u v → c h = some w → D v ≤ D u + w) → (∀ a, a ≠ 159 → σ a = σ0 a) →
      ∃ σ1 E, f_X8_relaxFrom_l11 (I s) (I g1) (I g2) n (I r) fl σ = some σ1 ∧ lbl 159 1000 σ1 E ∧ lab c 1000 s E ∧ ∀ a, a ≠ 159 → σ1 a = σ0 a := by
    intro d
    induction d with
    | zero =>
      intro r n fl σ D hr hn h1 h2 h3 h4 h5 h6
      obtain ⟨n, rfl⟩ : ∃ m, n = m + 1 := ⟨n - 1, by omega⟩
      have : r = 16 := by omega
      subst this
      refine ⟨σ, D, ?_, h1, lab_of hc1 hs (by omega) (fun v hv => (h1 v hv).2) h3 (fun n v k hn q => h4 n (by omega) v k q), h6⟩
      rw [f_X8_relaxFrom_l11, if_pos (show (16 : Int32) ≤ I 16 by decide)]
    | succ d ih =>
      intro r n fl σ D hr hn h1 h2 h3 h4 h5 h6
      obtain ⟨n, rfl⟩ : ∃ m, n = m + 1 := ⟨n - 1, by omega⟩
      rw [f_X8_relaxFrom_l11, if_neg (show ¬ (16 : Int32) ≤ I r from nle (N := 16) (by omega) (by omega))]
      by_cases hf : fl = 0
      · rw [if_pos hf]
        exact ⟨σ, D, rfl, h1, lab_of hc1 hs (by omega) (fun v hv => (h1 v hv).2) h3 (fun n v k _ q => closed_le h2 (h5 hf) n v k q), h6⟩
      · rw [if_neg hf, lt_d]
        obtain ⟨⟨fl1, σ1⟩, e1, E, i1, i2, i3, i4, i5, i6, i7⟩ := relax_in hW hW2 (s := s) (σ0 := σ) (g1 := g1) (g2 := g2) (fun h hh => by rw [hg h hh, h6 2 (by omega)]) (K := fun v12 v13 σ14 => lt (I r + 1) fun x16 => f_X8_relaxFrom_l11 (I s) (I g1) (I g2) n x16 v13 σ14) (v7 := I r) (a0 := I s) h1 h2 h3
        dsimp only at e1 i1 i6 i7
        have hE : ∀ h u v w, ed h u v → c h = some w → E v ≤ D u + w := by
          intro h u v w e hc
          have hw : W h = w := by
            rcases hW h e.1 with q | ⟨q, -⟩
            · rw [hc] at q; exact (Option.some.inj q).symm
            · rw [hc] at q; cases q
          obtain ⟨a, b⟩ := i5 h e.1
          rw [hw] at a b
          rcases e.2 with ⟨x1, x2⟩ | ⟨x1, x2⟩ <;> subst x1 <;> subst x2
          · exact a
          · exact b
        rw [e1]
        show ∃ σ2 E2, lt (I r + 1) (fun x16 => f_X8_relaxFrom_l11 (I s) (I g1) (I g2) n x16 fl1 σ1) = some σ2 ∧ _
        rw [lt_d, show I r + 1 = I (r + 1) from I_add r 1]
        refine ih (r + 1) n fl1 σ1 E (by omega) (by omega) i1 i3 i4 (rnd_step h4 (fun v _ => i2 v) hs hE) ?_ (fun a ha => by rw [i7 a ha, h6 a ha])
        intro hz
        rcases i6 with ⟨-, q⟩ | q
        · rw [q]; rw [q] at hE; exact hE
        · rw [hz] at q; cases q
  obtain ⟨σ1, h1, h2, h3⟩ := m_start (σ := σ0) hs
  unfold f_X8_relaxFrom
  rw [h1, bnd_d]
  exact main 16 0 30 1 σ1 _ (by omega) (by omega) h2 (by simp) start_snd (rnd_zero (by simp)) (fun q => by cases q) h3
