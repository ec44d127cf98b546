/-! THE NEXT CELL on a way with the fewest hours to the exit, of several the lowest -/
/-- x is a neighbour of s by a gap of p, one hour nearer by the labels D -/
def good (p : Nat → Bool) (D : Nat → Nat) (s x : Nat) : Prop := ∃ h, ed h s x ∧ p h = true ∧ D x + 1 = D s
/-- the least number with a property, or none: what is answered -/
def isLeast (P : Nat → Prop) (o : Option Nat) : Prop := match o with
  | none => ∀ x, ¬ P x
  | some x => P x ∧ ∀ y, P y → x ≤ y
theorem isLeast_uniq {P Q : Nat → Prop} (h : ∀ x, P x ↔ Q x) {a b : Option Nat} (ha : isLeast P a) (hb : isLeast Q b) : a = b := by
  cases a with
  | none =>
    cases b with
    | none => rfl
    | some y => exact absurd ((h y).mpr hb.1) (ha y)
  | some x =>
    cases b with
    | none => exact absurd ((h x).mp ha.1) (hb x)
    | some y =>
      have e : x = y := Nat.le_antisymm (ha.2 y ((h y).mpr hb.1)) (hb.2 x ((h x).mp ha.1))
      rw [e]
theorem m_step {σ : Mm} {s : Nat} (hs : s < 16) : ∃ o σ1 D, f_X8_stepToExit (I s) σ = some (oI o, σ1) ∧ lab (cH σ) 1000 15 D ∧ (∀ x, o = some x → x < 16) ∧ isLeast (fun x => D s < 1000 ∧ good (gC σ) D s x) o ∧ ∀ a, a ≠ 159 → a ≠ 160 → σ1 a = σ a := by
  obtain ⟨σ1, D, h1, h2, h3, h4⟩ := m_measure (σ0 := σ) (s := 15) (by omega)
  have h1 : f_X8_measureFrom 15 σ = some σ1 := h1
  unfold f_X8_stepToExit
  rw [h1, bnd_d, m_dist hs, bnd_d, (h2 s hs).1]
  have hDs := (h2 s hs).2
  by_cases f : D s = 1000
  · rw [if_pos (show I (D s) = 1000 by rw [f]; rfl)]
    exact ⟨none, σ1, D, rfl, h3, fun x q => (by cases q), fun x q => (by omega), h4⟩
  · rw [if_neg (show ¬ I (D s) = 1000 from fun q => f ((I_eq (by omega) (by omega)).mp (show I (D s) = I 1000 from q)))]
    have hlt : D s < 1000 := by omega
    have hp : ∀ h, h < 24 → ((5 : Int32) ≤ σ1 2 h ↔ gC σ h = false) := fun h _ => by
      rw [h4 2 (by omega) (by omega)]; unfold gC; by_cases q : (5 : Int32) ≤ σ 2 h <;> simp [q]
    obtain ⟨g, q1, o, q2, q3, q4⟩ := loopI (fun n v g => f_X8_stepToExit_l26 (I (D s)) (I s) σ1 n v g) (fun g => some (g, σ1)) 24 (fun v (g : Int32) => ∃ o, g = oI o ∧ (∀ x, o = some x → x < 16) ∧ isLeast (fun x => ∃ h, h < v ∧ ed h s x ∧ gC σ h = true ∧ D x + 1 = D s) o) (by
        intro n g _
        rw [f_X8_stepToExit_l26, if_pos (show (24 : Int32) ≤ I 24 by decide)]) (by
        intro n v g hv hi
        obtain ⟨o, rfl, i1, i2⟩ := hi
        have e1 : I v + 1 = I (v + 1) := I_add v 1
        have skip : (∀ x, ed v s x → gC σ v = true → D x + 1 = D s → False) → isLeast (fun x => ∃ h, h < v + 1 ∧ ed h s x ∧ gC σ h = true ∧ D x + 1 = D s) o := fun hno => by
          have up : ∀ x, (∃ h, h < v + 1 ∧ ed h s x ∧ gC σ h = true ∧ D x + 1 = D s) → ∃ h, h < v ∧ ed h s x ∧ gC σ h = true ∧ D x + 1 = D s := by
            rintro x ⟨h, a, b, c, d⟩
            by_cases e : h = v
            · subst e; exact (hno x b c d).elim
            · exact ⟨h, by omega, b, c, d⟩
          cases o with
          | none => exact fun x q => i2 x (up x q)
          | some y => exact ⟨by obtain ⟨h, a, b⟩ := i2.1; exact ⟨h, by omega, b⟩, fun x q => i2.2 x (up x q)⟩
        rw [f_X8_stepToExit_l26, if_neg (show ¬ (24 : Int32) ≤ I v from nle (N := 24) hv (by omega)), m_across hv hs, bnd_d]
        rcases across_cases (u := s) hv with ⟨x, hx, e, hq⟩ | ⟨hq, hn⟩
        · rw [hq, if_neg (nm1 (by omega)), m_open hv, bnd_d]
          by_cases c : gC σ v = true
          · rw [if_neg (show ¬ (5 : Int32) ≤ σ1 2 v from fun z => by rw [(hp v hv).mp z] at c; cases c), if_neg (by decide), m_dist hx, bnd_d, (h2 x hx).1]
            have hDx := (h2 x hx).2
            by_cases d : D x + 1 = D s
            · rw [if_pos (show I (D x) = I (D s) - 1 by rw [← d, ← I_add]; apply Int32.toBitVec_inj.mp; show (I (D x)).toBitVec = (I (D x)).toBitVec + (1 : Int32).toBitVec - (1 : Int32).toBitVec; exact (BitVec.add_sub_cancel _ _).symm)]
              have new : ∀ y, o = none ∨ (∃ z, o = some z ∧ y = min z x) → True := fun _ _ => trivial
              cases o with
              | none =>
                rw [if_pos (show oI none = (-1 : Int32) from rfl), lt_d, e1]
                refine ⟨I x, rfl, some x, rfl, fun y q => by cases q; exact hx, ⟨v, by omega, e, c, d⟩, ?_⟩
                rintro y ⟨h, a, b, c2, d2⟩
                by_cases ev : h = v
                · subst ev; rw [ed_fun b e]; exact Nat.le_refl _
                · exact absurd ⟨h, by omega, b, c2, d2⟩ (i2 y)
              | some z =>
                have hz := i1 z rfl
                rw [show oI (some z) = I z from rfl, if_neg (nm1 (by omega))]
                by_cases w : z ≤ x
                · rw [if_pos ((I_le (by omega) (by omega)).mpr w), lt_d, e1]
                  refine ⟨I z, rfl, some z, rfl, i1, ?_, ?_⟩
                  · obtain ⟨h, a, b⟩ := i2.1; exact ⟨h, by omega, b⟩
                  · rintro y ⟨h, a, b, c2, d2⟩
                    by_cases ev : h = v
                    · subst ev; rw [ed_fun b e]; exact w
                    · exact i2.2 y ⟨h, by omega, b, c2, d2⟩
                · rw [if_neg (fun q => w ((I_le (by omega) (by omega)).mp q)), lt_d, e1]
                  refine ⟨I x, rfl, some x, rfl, fun y q => by cases q; exact hx, ⟨v, by omega, e, c, d⟩, ?_⟩
                  rintro y ⟨h, a, b, c2, d2⟩
                  by_cases ev : h = v
                  · subst ev; rw [ed_fun b e]; exact Nat.le_refl _
                  · have := i2.2 y ⟨h, by omega, b, c2, d2⟩; omega
            · rw [if_neg (show ¬ I (D x) = I (D s) - 1 from ?_), lt_d, e1]
              · exact ⟨oI o, rfl, o, rfl, i1, skip (fun y a _ b => by rw [ed_fun a e] at b; exact d b)⟩
              · intro q
                apply d
                have : I (D x) + 1 = I (D s) := by
                  rw [q]; apply Int32.toBitVec_inj.mp
                  show (I (D s)).toBitVec - (1 : Int32).toBitVec + (1 : Int32).toBitVec = (I (D s)).toBitVec
                  exact BitVec.sub_add_cancel _ _
                exact (I_eq (by omega) (by omega)).mp ((I_add _ 1).symm.trans this)
          · rw [if_pos (show (5 : Int32) ≤ σ1 2 v from (hp v hv).mpr (Bool.eq_false_iff.mpr c)), if_pos rfl, lt_d, e1]
            exact ⟨oI o, rfl, o, rfl, i1, skip (fun _ _ z _ => c z)⟩
        · rw [hq, if_pos rfl, lt_d, e1]
          exact ⟨oI o, rfl, o, rfl, i1, skip (fun x a _ _ => hn x a)⟩) 24 0 30 (-1) (by omega) (by omega) ⟨none, rfl, fun x q => (by cases q), fun x ⟨h, a, _⟩ => (by omega)⟩
    refine ⟨o, σ1, D, by rw [← q2]; exact q1, h3, q3, ?_, h4⟩
    have eqv : ∀ x, (∃ h, h < 24 ∧ ed h s x ∧ gC σ h = true ∧ D x + 1 = D s) ↔ (D s < 1000 ∧ good (gC σ) D s x) := fun x => ⟨fun ⟨h, _, b⟩ => ⟨hlt, h, b⟩, fun ⟨_, h, b⟩ => ⟨h, b.1.1, b⟩⟩
    cases o with
    | none => exact fun x q => q4 x ((eqv x).mpr q)
    | some y => exact ⟨(eqv y).mp q4.1, fun x q => q4.2 x ((eqv x).mpr q)⟩
/-- some neighbour is one hour nearer -/
theorem good_ex {c : Nat → Option Nat} {p : Nat → Bool} (hc : ∀ h w, c h = some w → w = 1 ∧ p h = true) {F s : Nat} {D : Nat → Nat} (hF : 16 ≤ F) (h : lab c F 15 D) (hs : s < 16) (h1 : D s < F) (h2 : s ≠ 15) : ∃ x, x < 16 ∧ good p D s x := by
  rcases h s hs with ⟨-, ⟨n, q⟩, m⟩ | ⟨a, -⟩
  · cases n with
    | zero => exact absurd q.1 h2
    | succ n =>
      obtain ⟨g, u, j, w, e, hw, q, hk⟩ := q
      obtain ⟨rfl, hp⟩ := hc g w hw
      refine ⟨u, e.lt.1, g, e.swap, hp, ?_⟩
      rcases h u e.lt.1 with ⟨a, ⟨n2, b⟩, l⟩ | ⟨a, l⟩
      · have k1 := l n j q
        have k2 := m (n2 + 1) (D u + 1) ⟨g, u, D u, 1, e, hw, b, rfl⟩
        omega
      · exact absurd q (l n j)
  · omega
theorem n_next2 {σ : Mm} {s : Nat} (hs : s < 16) {E : Nat → Nat} (h2 : lbl 204 99 σ E) (h1 : E s < 99) (hex : ∃ x, x < 16 ∧ good (gapR σ) E s x) : ∃ x, x < 16 ∧ f_X10_next_l43 (I s) σ 20 0 = some (I x, σ) ∧ isLeast (good (gapR σ) E s) (some x) := by
  have main : ∀ d v n, v + d = 16 → d < n → (∀ y, y < v → ¬ good (gapR σ) E s y) → ∃ x, x < 16 ∧ f_X10_next_l43 (I s) σ n (I v) = some (I x, σ) ∧ isLeast (good (gapR σ) E s) (some x) := by
    intro d
    induction d with
    | zero =>
      intro v n hv hn hno
      obtain ⟨x, hx, hg⟩ := hex
      exact absurd hg (hno x (by omega))
    | succ d ih =>
      intro v n hv hn hno
      obtain ⟨n, rfl⟩ : ∃ m, n = m + 1 := ⟨n - 1, by omega⟩
      have hv16 : v < 16 := by omega
      have e1 : I v + 1 = I (v + 1) := I_add v 1
      have next : ¬ good (gapR σ) E s v → ∃ x, x < 16 ∧ f_X10_next_l43 (I s) σ n (I (v + 1)) = some (I x, σ) ∧ isLeast (good (gapR σ) E s) (some x) := fun hg => ih (v + 1) n (by omega) (by omega) (fun y hy => by
        by_cases e : y = v
        · subst e; exact hg
        · exact hno y (by omega))
      rw [f_X10_next_l43, n_hedge hs hv16, bnd_d]
      cases hh : hN s v with
      | none =>
        rw [show o6 none = (-1 : Int32) from rfl, if_pos rfl, lt_d, e1]
        exact next (fun ⟨h, e, _⟩ => by rw [ed_hN e] at hh; cases hh)
      | some h =>
        have e := hN_ed hh
        rw [show o6 (some h) = I (6 + h) from rfl, if_neg (nm1 (by have := e.1; omega)), bnd_d, n_gap e.1, bnd_d]
        by_cases c : gapR σ h = true
        · rw [if_pos c, if_neg (by decide), gd_I hv16 (by omega), gd_I hs (by omega), I_clamp (by omega), I_clamp (by omega), (h2 v hv16).1, (h2 s hs).1]
          have l1 := (h2 v hv16).2
          by_cases d2 : E v + 1 = E s
          · rw [if_pos (show I (E v) = I (E s) - 1 by rw [← d2, ← I_add]; apply Int32.toBitVec_inj.mp; show (I (E v)).toBitVec = (I (E v)).toBitVec + (1 : Int32).toBitVec - (1 : Int32).toBitVec; exact (BitVec.add_sub_cancel _ _).symm)]
            exact ⟨v, hv16, rfl, ⟨h, e, c, d2⟩, fun y hy => Nat.not_lt.mp fun z => hno y z hy⟩
          · rw [if_neg (show ¬ I (E v) = I (E s) - 1 from ?_), lt_d, e1]
            · exact next (fun ⟨_, _, _, z⟩ => d2 z)
            · intro q
              apply d2
              have : I (E v) + 1 = I (E s) := by
                rw [q]; apply Int32.toBitVec_inj.mp
                show (I (E s)).toBitVec - (1 : Int32).toBitVec + (1 : Int32).toBitVec = (I (E s)).toBitVec
                exact BitVec.sub_add_cancel _ _
              exact (I_eq (by omega) (by omega)).mp ((I_add _ 1).symm.trans this)
        · rw [if_neg c, if_pos rfl, lt_d, e1]
          exact next (fun ⟨g, e2, c2, _⟩ => by
            have : g = h := Option.some.inj ((ed_hN e2).symm.trans hh)
            rw [this] at c2; exact c c2)
  exact main 16 0 20 (by omega) (by omega) (fun y hy => by omega)
/-- both answers are one -/
theorem next_eq {σ τ : Mm} (hp : ∀ g, g < 24 → gC σ g = gapR τ g) {D E : Nat → Nat} (hD : lab (cH σ) 1000 15 D) (hE : lab (cR τ false) 99 15 E) {s : Nat} (hs : s < 16) (h1 : E s < 99) : ∀ x, (D s < 1000 ∧ good (gC σ) D s x) ↔ good (gapR τ) E s x := by
  have hc : ∀ g, g < 24 → cH σ g = cR τ false g := fun g hg => by
    have := hp g hg
    unfold cH cR
    rw [← this]
    unfold gC
    by_cases q : (5 : Int32) ≤ σ 2 g <;> simp [q]
  have key : ∀ v, v < 16 → (D v < 1000 ↔ E v < 99) ∧ (E v < 99 → D v = E v) := by
    intro v hv
    have a := lab_dst (by omega) hD hv
    have b := lab_dst (by omega) hE hv
    rw [dst_congr hc] at a
    have := dst_lt (cR_one τ false) (s := 15) (v := v) (by omega)
    rcases a with ⟨a1, a2, -⟩ | ⟨a1, a2, -⟩ <;> rcases b with ⟨b1, b2, -⟩ | ⟨b1, b2, -⟩
    · exact ⟨⟨fun _ => b1, fun _ => a1⟩, fun _ => by omega⟩
    · omega
    · omega
    · exact ⟨⟨fun _ => by omega, fun _ => by omega⟩, fun _ => by omega⟩
  have ks := key s hs
  intro x
  constructor
  · rintro ⟨a, h, e, c, d⟩
    have kx := key x e.lt.2
    refine ⟨h, e, by rw [← hp h e.1]; exact c, ?_⟩
    have := kx.2 (kx.1.mp (by omega))
    have := ks.2 h1
    omega
  · rintro ⟨h, e, c, d⟩
    have kx := key x e.lt.2
    refine ⟨ks.1.mpr h1, h, e, by rw [hp h e.1]; exact c, ?_⟩
    have := kx.2 (by omega)
    have := ks.2 h1
    omega
