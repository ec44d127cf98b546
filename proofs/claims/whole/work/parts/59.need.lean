/-! WHAT IS NEEDED, how many summers -/
theorem isD_ex {c : Nat → Option Nat} {s v : Nat} (h : rch c s v) : ∃ k, isD c s v k := by
  obtain ⟨n, j, q⟩ := h
  have : ∀ m j, j ≤ m → (∃ n, wk c s n v j) → ∃ k, isD c s v k := by
    intro m
    induction m with
    | zero =>
      intro j hj h
      have : j = 0 := by omega
      subst this
      exact ⟨0, h, fun _ _ _ => Nat.zero_le _⟩
    | succ m ih =>
      intro j hj h
      by_cases e : ∃ i, i < j ∧ ∃ n, wk c s n v i
      · obtain ⟨i, hi, h2⟩ := e
        exact ih i (by omega) h2
      · exact ⟨j, h, fun n i q => Nat.not_lt.mp fun z => e ⟨i, z, n, q⟩⟩
  exact this j j (Nat.le_refl _) ⟨n, q⟩
theorem cX_one (f : Fm) : isOne (cX f) := fun h w q => by
  unfold cX at q
  split at q
  · cases q
  · cases q; exact Nat.le_refl _
theorem cX_rp {f : Fm} {s v : Nat} : rch (cX f) s v ↔ rp (gX f) s v := rp_of (fun g _ => by unfold cX gX; by_cases q : (5 : Int32) ≤ f (6 + g) <;> simp [q])
theorem dX_rp {f : Fm} {s v : Nat} (hs : s < 16) : dX f s v < 1000 ↔ rp (gX f) s v := by
  rw [← cX_rp]
  constructor
  · intro h
    by_cases e : ∃ k, isD (cX f) s v k
    · obtain ⟨k, q⟩ := e; exact isD_rch q
    · exfalso
      unfold dX dst at h
      rw [dif_neg e] at h
      omega
  · intro h
    obtain ⟨k, q⟩ := isD_ex h
    have := q.le15 (cX_one f) hs
    unfold dX
    rw [dst_is q]
    omega
theorem q_isNeeded {σ : Mm} {B : Nat} (R : RR B σ) (a b : Int32) : ∃ out τ, f_X9_isNeeded a b σ = some (out, τ) ∧ ∃ r ρ, f_X10_isNeeded a b τ = some (r, ρ) ∧ RR B ρ ∧ same2 out 1 2 r (ρ 198 12) := by
  unfold f_X9_isNeeded f_X10_isNeeded
  rcases c_cells (a := a) (b := b) (σ := σ) with ⟨u, v, hu, hv, rfl, rfl, h1, h2⟩ | ⟨h1, h2⟩
  · rw [c_asked hu hv h1]
    cases e : hN u v with
    | none =>
      dsimp only
      rw [xb_n]
      refine ⟨_, _, rfl, ?_⟩
      rw [h2, bnm_d, if_neg one_ne, n_hedge hu hv, e, bnd_d, if_pos (show o6 none = -1 from rfl), r_thr, bnm_d]
      exact ⟨_, _, rfl, (R.thr 0).thr 2, Or.inr ⟨rfl, by rw [up_e, upd_e]⟩⟩
    | some h =>
      have hh := (hN_ed e).1
      dsimp only
      obtain ⟨b1, c1, d1⟩ := m_leads (σ := σ) 5 (-1)
      obtain ⟨b2, c2, d2⟩ := m_leads (σ := σ) 5 (I h)
      rw [xb_d, c1, bnd_d]
      have g1 : b1 = true ↔ rp (gX (σ 199)) 0 15 := by
        rw [d1]; exact rp_congr (fun g hg => by rw [okF_gC hg, R.1.toG g hg])
      have g2 : b2 = true ↔ rp (gX (upd (σ 199) (6 + h) 5)) 0 15 := by
        rw [d2]
        refine rp_congr (fun g hg => ?_)
        have k := R.1.toG g hg
        unfold okF
        unfold gX
        by_cases z : g = h
        · subst z
          rw [upd_e, show decide (I g = I g) = true from decide_eq_true rfl]; rfl
        · rw [upd_n _ _ (show 6 + g ≠ 6 + h by omega), show decide (I g = I h) = false from decide_eq_false (I_beq (by omega) (by omega) z)]
          exact k
      refine ⟨.inl (if b1 = true then (if b2 = true then 0 else 1) else 0), σ, ?_, ?_⟩
      · cases b1 with
        | false => rfl
        | true =>
          rw [if_pos rfl, if_neg one_ne, c2, bnd_d]
          cases b2 <;> rfl
      rw [h2, bnm_d, if_neg one_ne, n_hedge hu hv, e, bnd_d, show o6 (some h) = I (6 + h) from rfl, if_neg (nm1 (by omega)), n_gap hh, bnd_d]
      have g3 : gapR (up σ 198 12 0) h = gX (σ 199) h := by unfold gapR gX; rw [up_n _ _ _ (by omega)]
      rw [g3]
      obtain ⟨τ1, t1, t2⟩ := r_hours (σ := up σ 198 12 0) (s := 0) (v := 15) (by omega) (by omega)
      have t1 : f_X10_hoursOf 0 15 (up σ 198 12 0) = _ := t1
      have e199 : (up σ 198 12 0) 199 = σ 199 := up_n _ _ _ (by omega)
      rw [e199] at t1
      have Rτ : RR B τ1 := R.same (fun a _ _ h3 h4 => by rw [t2 a h4, up_n _ _ _ h3]) (fun k hk => by rw [t2 198 (by omega), up_e, upd_n _ _ hk])
      have z12 : τ1 198 12 = 0 := by rw [t2 198 (by omega), up_e, upd_e]
      by_cases w : dX (σ 199) 0 15 < 1000
      · have hb1 : b1 = true := g1.mpr ((dX_rp (by omega)).mp w)
        by_cases y : gX (σ 199) h = true
        · have e1 : τ1 199 = σ 199 := by rw [t2 199 (by omega), e199]
          obtain ⟨τ2, s1, s2⟩ := r_hours (σ := up τ1 199 (6 + h) 5) (s := 0) (v := 15) (by omega) (by omega)
          have s1 : f_X10_hoursOf 0 15 (up τ1 199 (6 + h) 5) = _ := s1
          have e2 : (up τ1 199 (6 + h) 5) 199 = upd (σ 199) (6 + h) 5 := by rw [up_e, e1]
          rw [e2] at s1
          have e3 : τ2 199 = upd (σ 199) (6 + h) 5 := by rw [s2 199 (by omega), e2]
          have Rf : RR B (up τ2 199 (6 + h) (σ 199 (6 + h))) := R.same (fun a h1 h2 h3 h4 => by
            by_cases z : a = 199
            · subst z
              rw [up_e, e3]
              funext k
              by_cases x : k = 6 + h
              · rw [x, upd_e]
              · rw [upd_n _ _ x, upd_n _ _ x]
            · rw [up_n _ _ _ z, s2 a h4, up_n _ _ _ z, t2 a h4, up_n _ _ _ h3]) (fun k hk => by rw [up_n _ _ _ (by omega), s2 198 (by omega), up_n _ _ _ (by omega), t2 198 (by omega), up_e, upd_n _ _ hk])
          have zf : (up τ2 199 (6 + h) (σ 199 (6 + h))) 198 12 = 0 := by rw [up_n _ _ _ (by omega), s2 198 (by omega), up_n _ _ _ (by omega), z12]
          rw [if_pos y, if_neg one_ne, t1, bnm_d, if_pos w, if_neg (nm1 (by rcases dX_lt (σ 199) (s := 0) (v := 15) (by omega) with z | z <;> omega))]
          simp only [gd_I (show 6 + h < 86 by omega) (show 86 < 2147483648 by omega), I_clamp (show 6 + h < 2147483648 by omega), lt_d, e1]
          rw [s1, bnm_d]
          by_cases x : dX (upd (σ 199) (6 + h) 5) 0 15 < 1000
          · have hb2 : b2 = true := g2.mpr ((dX_rp (by omega)).mp x)
            rw [if_pos x, if_neg (nm1 (by rcases dX_lt (upd (σ 199) (6 + h) 5) (s := 0) (v := 15) (by omega) with z | z <;> omega))]
            exact ⟨_, _, rfl, Rf, zf, by rw [hb1, hb2]; rfl⟩
          · have hb2 : b2 = false := Bool.eq_false_iff.mpr (fun z => x ((dX_rp (by omega)).mpr (g2.mp z)))
            rw [if_neg x, if_pos rfl]
            exact ⟨_, _, rfl, Rf, zf, by rw [hb1, hb2]; rfl⟩
        · have hb2 : b2 = true := by
            rw [g2, rp_congr (q := gX (σ 199)) (fun g hg => ?_)]
            · exact (dX_rp (by omega)).mp w
            · unfold gX
              by_cases z : g = h
              · subst z
                rw [upd_e]
                have y2 : gX (σ 199) g = false := Bool.eq_false_iff.mpr y
                unfold gX at y2
                rw [y2]; rfl
              · rw [upd_n _ _ (show 6 + g ≠ 6 + h by omega)]
          rw [if_neg y, if_pos rfl]
          exact ⟨_, _, rfl, R.thr 0, by rw [up_e, upd_e], by rw [hb1, hb2]; rfl⟩
      · have hb1 : b1 = false := Bool.eq_false_iff.mpr (fun z => w ((dX_rp (by omega)).mpr (g1.mp z)))
        by_cases y : gX (σ 199) h = true
        · rw [if_pos y, if_neg one_ne, t1, bnm_d, if_neg w, if_pos rfl]
          exact ⟨_, _, rfl, Rτ, z12, by rw [hb1]; rfl⟩
        · rw [if_neg y, if_pos rfl]
          exact ⟨_, _, rfl, R.thr 0, by rw [up_e, upd_e], by rw [hb1]; rfl⟩
  · rw [c_asked0 h1, xb_n]
    refine ⟨_, _, rfl, ?_⟩
    rw [h2, bnm_d, if_pos rfl]
    exact ⟨_, _, rfl, R.thr 1, Or.inl ⟨rfl, by rw [up_e, upd_e]⟩⟩
/-! summers left -/
def addF (f : Fm) (v : Nat) (n : Nat) (v' : Nat) : Fm := fun k => if 6 ≤ k ∧ k < 6 + n then f k + I v' else if 6 ≤ k ∧ k < 30 then f k + I v else f k
theorem addF_S (f : Fm) (v v' n : Nat) (hn : n < 24) : addF f v (n + 1) v' = upd (addF f v n v') (6 + n) (f (6 + n) + I v') := by
  funext k
  unfold addF upd
  by_cases e : k = 6 + n
  · subst e; rw [if_pos (by omega), if_pos rfl]
  · rw [if_neg e]
    dsimp only
    by_cases w : 6 ≤ k ∧ k < 6 + n
    · rw [if_pos w, if_pos (by omega)]
    · rw [if_neg w, if_neg (by omega)]
theorem addF_at (f : Fm) (v v' n : Nat) (hn : n < 24) : addF f v n v' (6 + n) = f (6 + n) + I v := by unfold addF; rw [if_neg (by omega), if_pos (by omega)]
theorem addF_end (f : Fm) (v v' : Nat) : addF f v 24 v' = addF f v' 0 v' := by
  funext k
  unfold addF
  by_cases w : 6 ≤ k ∧ k < 30
  · rw [if_pos (by omega), if_neg (by omega), if_pos w]
  · rw [if_neg (by omega), if_neg w, if_neg (by omega), if_neg w]
theorem addF_0 (f : Fm) (n : Nat) : addF f 0 n 0 = f := by
  funext k
  unfold addF
  rw [show I 0 = (0 : Int32) from rfl, Int32.add_zero]
  split
  · rfl
  · split <;> rfl
theorem addF_b (f : Fm) (v v' w : Nat) : addF f v 0 v' = addF f v 0 w := by
  funext k
  have e : ¬ (6 ≤ k ∧ k < 6 + 0) := by omega
  unfold addF
  rw [if_neg e, if_neg e]
theorem r_add {K : Int32 → Mm → Option (Int32 × Mm)} {v13 : Int32} {σ : Mm} {f : Fm} {v : Nat} (h : σ 199 = addF f v 0 (v + 1)) : ∃ τ, f_X10_summersLeft_l20 K v13 30 0 σ = K (I 24) τ ∧ τ 199 = addF f (v + 1) 0 (v + 1) ∧ ∀ a, a ≠ 199 → τ a = σ a := by
  obtain ⟨g, q1, q2, q3⟩ := loopI (fun n v g => f_X10_summersLeft_l20 K v13 n v g) (fun g => K (I 24) g) 24 (fun j (g : Mm) => g 199 = addF f v j (v + 1) ∧ ∀ a, a ≠ 199 → g a = σ a) (by
      intro n g _
      rw [f_X10_summersLeft_l20, if_pos (show (24 : Int32) ≤ I 24 by decide)]) (by
      intro n j g hj hi
      have e1 : I j + 1 = I (j + 1) := I_add j 1
      refine ⟨up g 199 (6 + j) (f (6 + j) + I (v + 1)), ?_, by rw [up_e, hi.1, addF_S _ _ _ _ hj], fun a ha => by rw [up_n _ _ _ ha]; exact hi.2 a ha⟩
      rw [f_X10_summersLeft_l20, if_neg (show ¬ (24 : Int32) ≤ I j from nle (N := 24) hj (by omega)), show (6 : Int32) + I j = I (6 + j) from I_add 6 j, gd_I (by omega) (by omega), gd_I (by omega) (by omega), I_clamp (by omega), hi.1, addF_at _ _ _ _ hj, Int32.add_assoc, show I v + 1 = I (v + 1) from I_add v 1, lt_d, lt_d, e1]) 24 0 30 σ rfl (by omega) ⟨h, fun _ _ => rfl⟩
  exact ⟨g, q1, by rw [q2, addF_end], q3⟩
theorem r_sub {σ : Mm} {f : Fm} {v : Nat} (h : σ 199 = addF f v 0 0) : ∃ τ, f_X10_summersLeft_l53 (I v) 30 0 σ = some (I v, τ) ∧ τ 199 = f ∧ ∀ a, a ≠ 199 → τ a = σ a := by
  obtain ⟨g, q1, q2, q3⟩ := loopI (fun n v' g => f_X10_summersLeft_l53 (I v) n v' g) (fun g => some (I v, g)) 24 (fun j (g : Mm) => g 199 = addF f v j 0 ∧ ∀ a, a ≠ 199 → g a = σ a) (by
      intro n g _
      rw [f_X10_summersLeft_l53, if_pos (show (24 : Int32) ≤ I 24 by decide)]) (by
      intro n j g hj hi
      have e1 : I j + 1 = I (j + 1) := I_add j 1
      have e2 : f (6 + j) + I v - I v = f (6 + j) := Int32.toBitVec_inj.mp (BitVec.add_sub_cancel _ _)
      refine ⟨up g 199 (6 + j) (f (6 + j) + I 0), ?_, by rw [up_e, hi.1, addF_S _ _ _ _ hj], fun a ha => by rw [up_n _ _ _ ha]; exact hi.2 a ha⟩
      rw [f_X10_summersLeft_l53, if_neg (show ¬ (24 : Int32) ≤ I j from nle (N := 24) hj (by omega)), show (6 : Int32) + I j = I (6 + j) from I_add 6 j, gd_I (by omega) (by omega), gd_I (by omega) (by omega), I_clamp (by omega), hi.1, addF_at _ _ _ _ hj, e2, lt_d, lt_d, e1, show I 0 = (0 : Int32) from rfl, Int32.add_zero]) 24 0 30 σ rfl (by omega) ⟨h, fun _ _ => rfl⟩
  exact ⟨g, q1, by rw [q2, addF_end, addF_0], q3⟩
/-- whether there is a way after v summers -/
def wayS (f : Fm) (v : Nat) : Prop := rp (gX (addF f v 0 0)) 0 15
theorem q_summersLeft {σ : Mm} {B : Nat} (R : RR B σ) : ∃ r, f_X9_summersLeft σ = some r ∧ ∃ ρ, f_X10_summersLeft σ = some (r, ρ) ∧ RR B ρ := by
  obtain ⟨n0, m0, -, -, -, -, -, -, le, -⟩ := R.2.1
  -- the class
  have hc : ∀ v, v < 5 → ∃ b : Bool, f_X8_leadsThrough (5 - I v) (-1) σ = some (if b then 1 else 0) ∧ (b = true ↔ wayS (σ 199) v) := by
    intro v hv
    obtain ⟨b, b1, b2⟩ := m_leads (σ := σ) (5 - I v) (-1)
    refine ⟨b, b1, ?_⟩
    rw [b2]
    refine rp_congr (fun g hg => ?_)
    obtain ⟨l, l1, l2⟩ := le g hg
    unfold okF gX addF
    rw [R.1.getL hg, if_neg (by omega), if_pos (by omega), l2, I_add, show decide (I g = (-1 : Int32)) = false from decide_eq_false (nm1 (by omega)), show (5 : Int32) - I v = I (5 - v) from I_sub (a := 5) (by omega)]
    have e : (I (5 - v) ≤ I l) ↔ ((5 : Int32) ≤ I (l + v)) := by
      rw [I_le (by omega) (by omega)]
      exact ⟨fun z => (I_le (a := 5) (by omega) (by omega)).mpr (by omega), fun z => by have := (I_le (a := 5) (by omega) (by omega)).mp z; omega⟩
    simp [e]
  have h5 : ¬ wayS (σ 199) 5 := by
    intro h
    obtain ⟨n, k, q⟩ := h
    cases n with
    | zero => exact absurd q.1 (by decide)
    | succ n =>
      obtain ⟨g, u, j, w, e, hw, -⟩ := q
      obtain ⟨l, l1, l2⟩ := le g e.1
      unfold cF gX addF at hw
      have g24 := e.1
      rw [if_neg (show ¬ (6 ≤ 6 + g ∧ 6 + g < 6 + 0) by omega), if_pos (show 6 ≤ 6 + g ∧ 6 + g < 30 by omega), l2, I_add] at hw
      rw [show decide ((5 : Int32) ≤ I (l + 5)) = true from decide_eq_true ((I_le (a := 5) (by omega) (by omega)).mpr (by omega))] at hw
      cases hw
  obtain ⟨v, hv5, hvno, hvw⟩ : ∃ v, v ≤ 5 ∧ ¬ wayS (σ 199) v ∧ ∀ j, j < v → wayS (σ 199) j := by
    have : ∀ d v, v + d = 5 → (∀ j, j < v → wayS (σ 199) j) → ∃ v, v ≤ 5 ∧ ¬ wayS (σ 199) v ∧ ∀ j, j < v → wayS (σ 199) j := by
      intro d
      induction d with
      | zero => intro v hv hj; exact ⟨v, by omega, by rw [show v = 5 by omega]; exact h5, hj⟩
      | succ d ih =>
        intro v hv hj
        by_cases w : wayS (σ 199) v
        · exact ih (v + 1) (by omega) (fun j hj2 => by
            by_cases e : j = v
            · subst e; exact w
            · exact hj j (by omega))
        · exact ⟨v, by omega, w, hj⟩
    exact this 5 0 rfl (fun j hj => by omega)
  refine ⟨I v, ?_, ?_⟩
  · have main : ∀ d j n, j + d = v → d < n → f_X9_summersLeft_l2 σ n (I j) = some (I v) := by
      intro d
      induction d with
      | zero =>
        intro j n hj hn
        obtain ⟨n, rfl⟩ : ∃ m, n = m + 1 := ⟨n - 1, by omega⟩
        have : j = v := by omega
        subst this
        rw [f_X9_summersLeft_l2]
        by_cases e : j = 5
        · subst e; rw [if_pos (show (5 : Int32) ≤ I 5 by decide)]; rfl
        · obtain ⟨b, b1, b2⟩ := hc j (by omega)
          have hb : b = false := Bool.eq_false_iff.mpr (fun z => hvno (b2.mp z))
          rw [if_neg (show ¬ (5 : Int32) ≤ I j from nle (N := 5) (by omega) (by omega)), b1, bnd_d, hb, if_neg (show ¬ false = true by decide), if_pos rfl]
      | succ d ih =>
        intro j n hj hn
        obtain ⟨n, rfl⟩ : ∃ m, n = m + 1 := ⟨n - 1, by omega⟩
        obtain ⟨b, b1, b2⟩ := hc j (by omega)
        rw [f_X9_summersLeft_l2, if_neg (show ¬ (5 : Int32) ≤ I j from nle (N := 5) (by omega) (by omega)), b1, bnd_d, b2.mpr (hvw j (by omega)), if_pos rfl, if_neg one_ne, lt_d, show I j + 1 = I (j + 1) from I_add j 1]
        exact ih (j + 1) n (by omega) (by omega)
    exact main v 0 8 (by omega) (by omega)
  · unfold f_X10_summersLeft
    rw [lt_d, lt_d]
    have main : ∀ d j n (τ : Mm), j + d = v → d < n → τ 199 = addF (σ 199) j 0 (j + 1) → (∀ a, a ≠ 199 → a ≠ 204 → τ a = up σ 198 12 0 a) → ∃ ρ, f_X10_summersLeft_l7 (fun v2 σ3 => f_X10_summersLeft_l53 v2 30 0 σ3) n (I j) τ = some (I v, ρ) ∧ ρ 199 = σ 199 ∧ ∀ a, a ≠ 199 → a ≠ 204 → ρ a = up σ 198 12 0 a := by
      intro d
      induction d with
      | zero =>
        intro j n τ hj hn h1 h2
        obtain ⟨n, rfl⟩ : ∃ m, n = m + 1 := ⟨n - 1, by omega⟩
        have : j = v := by omega
        subst this
        obtain ⟨τ1, t1, t2⟩ := r_hours (σ := τ) (s := 0) (v := 15) (by omega) (by omega)
        have t1 : f_X10_hoursOf 0 15 τ = _ := t1
        have w : ¬ dX (τ 199) 0 15 < 1000 := fun z => hvno (by
          have := (dX_rp (by omega)).mp z
          rw [h1, addF_b _ _ _ 0] at this
          exact this)
        rw [f_X10_summersLeft_l7, t1, bnm_d, if_neg w, if_pos rfl]
        obtain ⟨ρ, s1, s2, s3⟩ := r_sub (σ := τ1) (f := σ 199) (v := j) (by rw [t2 199 (by omega), h1]; exact addF_b _ _ _ _)
        exact ⟨ρ, s1, s2, fun a h3 h4 => by rw [s3 a h3, t2 a h4, h2 a h3 h4]⟩
      | succ d ih =>
        intro j n τ hj hn h1 h2
        obtain ⟨n, rfl⟩ : ∃ m, n = m + 1 := ⟨n - 1, by omega⟩
        obtain ⟨τ1, t1, t2⟩ := r_hours (σ := τ) (s := 0) (v := 15) (by omega) (by omega)
        have t1 : f_X10_hoursOf 0 15 τ = _ := t1
        have w : dX (τ 199) 0 15 < 1000 := (dX_rp (by omega)).mpr (by
          rw [h1, addF_b _ _ _ 0]
          exact hvw j (by omega))
        rw [f_X10_summersLeft_l7, t1, bnm_d, if_pos w, if_neg (nm1 (by rcases dX_lt (τ 199) (s := 0) (v := 15) (by omega) with z | z <;> omega)), lt_d]
        obtain ⟨τ2, s1, s2, s3⟩ := r_add (K := fun v18 σ19 => lt (I j + 1) fun x21 => f_X10_summersLeft_l7 (fun v2 σ3 => f_X10_summersLeft_l53 v2 30 0 σ3) n x21 σ19) (v13 := I j) (σ := τ1) (f := σ 199) (v := j) (by rw [t2 199 (by omega), h1])
        rw [s1]
        show ∃ ρ, lt (I j + 1) (fun x21 => f_X10_summersLeft_l7 (fun v2 σ3 => f_X10_summersLeft_l53 v2 30 0 σ3) n x21 τ2) = some (I v, ρ) ∧ _
        rw [lt_d, show I j + 1 = I (j + 1) from I_add j 1]
        exact ih (j + 1) n τ2 (by omega) (by omega) (by rw [s2]; exact addF_b _ _ _ _) (fun a h3 h4 => by rw [s3 a h3, t2 a h4, h2 a h3 h4])
    obtain ⟨ρ, p1, p2, p3⟩ := main v 0 30 (up σ 198 12 0) (by omega) (by omega) (by rw [up_n _ _ _ (by omega), addF_b _ _ _ 0, addF_0]) (fun _ _ _ => rfl)
    refine ⟨ρ, p1, R.same (fun a h1 h2 h3 h4 => ?_) (fun k hk => by rw [p3 198 (by omega) (by omega), up_e, upd_n _ _ hk])⟩
    by_cases z : a = 199
    · subst z; exact p2
    · rw [p3 a z h4, up_n _ _ _ h3]
