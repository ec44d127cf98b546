/-! QUESTIONS about the maze -/
theorem RR.same {B : Nat} {σ τ : Mm} (h : RR B σ) (e1 : ∀ a, a ≠ 159 → a ≠ 160 → a ≠ 198 → a ≠ 204 → τ a = σ a) (e2 : ∀ k, k ≠ 12 → τ 198 k = σ 198 k) : RR B τ := by
  obtain ⟨r1, r2, r3, r4, r5, r6, r7⟩ := h
  have e199 : τ 199 = σ 199 := e1 199 (by omega) (by omega) (by omega) (by omega)
  refine ⟨by rw [e199]; exact r1.move (fun a _ h => e1 a (by omega) (by omega) (by omega) (by omega)), by rw [e199]; exact r2, r3.move (fun a h1 h2 => e1 a (by omega) (by omega) (by omega) (by omega)) (e1 155 (by omega) (by omega) (by omega) (by omega)) (e2 5 (by omega)) (e1 202 (by omega) (by omega) (by omega) (by omega)), r4.move (fun a h1 h2 => e1 a (by omega) (by omega) (by omega) (by omega)) (e1 154 (by omega) (by omega) (by omega) (by omega)) (e2 3 (by omega)) (e1 201 (by omega) (by omega) (by omega) (by omega)), ?_, r6.move (by rw [e1 162 (by omega) (by omega) (by omega) (by omega)]) (by rw [e1 162 (by omega) (by omega) (by omega) (by omega)]) (e1 163 (by omega) (by omega) (by omega) (by omega)) (e1 203 (by omega) (by omega) (by omega) (by omega)) (e2 11 (by omega)) (e2 9 (by omega)), r7.move (e1 196 (by omega) (by omega) (by omega) (by omega)) (e1 197 (by omega) (by omega) (by omega) (by omega)) (e1 206 (by omega) (by omega) (by omega) (by omega)) (e2 20 (by omega))⟩
  unfold refu
  rw [e1 157 (by omega) (by omega) (by omega) (by omega), e2 6 (by omega), e2 7 (by omega), e2 8 (by omega)]
  exact r5
def same2 (o : Int32 ⊕ Nat) (e1 e2 : Nat) (b t : Int32) : Prop := match o with
  | .inl a => t = 0 ∧ b = a
  | .inr k => (k = e1 ∧ t = 1) ∨ (k = e2 ∧ t = 2)
theorem RR.thr {B : Nat} {σ : Mm} (h : RR B σ) (x : Int32) : RR B (up σ 198 12 x) := h.same (fun a _ _ h _ => up_n _ _ _ h) (fun k hk => by rw [up_e, upd_n _ _ hk])
theorem r_thr (x : Int32) (σ : Mm) : f_X10_throwing x σ = some (-1, up σ 198 12 x) := rfl
theorem c_cells {a b : Int32} {σ : Mm} : (∃ u v, u < 16 ∧ v < 16 ∧ a = I u ∧ b = I v ∧ f_X9_demandCells a b σ = some (.inl (), σ) ∧ f_X10_areCells a b σ = some (1, up σ 198 12 0)) ∨ (f_X9_demandCells a b σ = some (.inr 1, σ) ∧ f_X10_areCells a b σ = some (0, up σ 198 12 1)) := by
  unfold f_X9_demandCells f_X10_areCells
  rw [m_cellx, bnd_d, n_cellx, bnd_d]
  rcases ix_cases a (N := 16) (by omega) with ⟨u, h1, h2, h3⟩ | ⟨h1, h3⟩
  · rw [h3]
    dsimp only
    rw [if_neg one_ne, if_neg one_ne, m_cellx, bnd_d, n_cellx, bnd_d]
    rcases ix_cases b (N := 16) (by omega) with ⟨v, k1, k2, k3⟩ | ⟨k1, k3⟩
    · rw [k3]
      dsimp only
      rw [if_neg one_ne, if_neg one_ne, lt_d, up_e, upd_e, if_pos rfl]
      exact Or.inl ⟨u, v, h1, k1, h2, k2, rfl, rfl⟩
    · rw [k3]
      dsimp only
      rw [if_pos rfl, if_pos rfl, lt_d, up_e, upd_e, if_neg one_ne]
      exact Or.inr ⟨rfl, rfl⟩
  · rw [h3]
    dsimp only
    rw [if_pos rfl, if_pos rfl, lt_d, up_e, upd_e, if_neg one_ne]
    exact Or.inr ⟨rfl, rfl⟩
theorem c_asked {u v : Nat} (hu : u < 16) (hv : v < 16) {σ : Mm} (hc : f_X9_demandCells (I u) (I v) σ = some (.inl (), σ)) : f_X9_hedgeAsked (I u) (I v) σ = some (match hN u v with | none => .inr 2 | some h => .inl (I h), σ) := by
  unfold f_X9_hedgeAsked
  rw [hc, xb_d, m_between hu hv, bnd_d]
  cases e : hN u v with
  | none => rfl
  | some h =>
    rw [show oI (some h) = I h from rfl, if_neg (nm1 (by have := (hN_ed e).1; omega))]
theorem c_asked0 {a b : Int32} {σ : Mm} (hc : f_X9_demandCells a b σ = some (.inr 1, σ)) : f_X9_hedgeAsked a b σ = some (.inr 1, σ) := by
  unfold f_X9_hedgeAsked
  rw [hc, xb_n]
theorem q_leaves {σ : Mm} {B : Nat} (R : RR B σ) (a b : Int32) : ∃ out τ, f_X9_leaves a b σ = some (out, τ) ∧ ∃ r ρ, f_X10_leaves a b τ = some (r, ρ) ∧ RR B ρ ∧ same2 out 1 2 r (ρ 198 12) := by
  unfold f_X9_leaves f_X10_leaves
  rcases c_cells (a := a) (b := b) (σ := σ) with ⟨u, v, hu, hv, rfl, rfl, h1, h2⟩ | ⟨h1, h2⟩
  · rw [c_asked hu hv h1]
    cases e : hN u v with
    | none =>
      dsimp only
      rw [xb_n]
      refine ⟨_, _, rfl, ?_⟩
      rw [h2, bnm_d, if_neg one_ne, n_hedge hu hv, e, bnd_d, if_pos (show o6 none = -1 from rfl), r_thr, bnm_d]
      exact ⟨_, _, rfl, (R.thr 0).thr 2, Or.inr ⟨rfl, by rw [up_e, upd_e]⟩⟩
    | some h =>
      have hh := (hN_ed e).1
      dsimp only
      rw [xb_d, m_leaves hh, bnd_d]
      refine ⟨_, _, rfl, ?_⟩
      rw [h2, bnm_d, if_neg one_ne, n_hedge hu hv, e, bnd_d, show o6 (some h) = I (6 + h) from rfl, if_neg (nm1 (by omega)), gd_I (by omega) (by omega), I_clamp (by omega), up_n _ _ _ (by omega)]
      exact ⟨_, _, rfl, R.thr 0, by rw [up_e, upd_e], (R.1.getL hh).symm⟩
  · rw [c_asked0 h1, xb_n]
    refine ⟨_, _, rfl, ?_⟩
    rw [h2, bnm_d, if_pos rfl]
    exact ⟨_, _, rfl, R.thr 1, Or.inl ⟨rfl, by rw [up_e, upd_e]⟩⟩
def opB (f : Fm) (o : Option Nat) : Int32 := match o with
  | none => 0
  | some g => if gX f g = true then 1 else 0
theorem c_openx {σ : Mm} {f : Fm} (h : rep 0 σ f) {o : Option Nat} (ho : ∀ x, o = some x → x < 24) : f_X4_isOpen (oI o) σ = some (opB f o) := by
  cases o with
  | none => rfl
  | some g =>
    have hg := ho g rfl
    rw [show oI (some g) = I g from rfl, m_open hg, h.getL hg]
    unfold opB gX
    by_cases q : (5 : Int32) ≤ f (6 + g) <;> simp [q]
theorem r_openx {σ : Mm} {o : Option Nat} (ho : ∀ x, o = some x → x < 24) : f_X10_isGapAt (o6 o) σ = some (opB (σ 199) o) := by
  cases o with
  | none => rfl
  | some g => exact n_gap (ho g rfl)
theorem q_isGap {σ : Mm} {B : Nat} (e2 : Nat) (R : RR B σ) (a b : Int32) : ∃ out τ, f_X9_isGap a b σ = some (out, τ) ∧ ∃ r ρ, f_X10_isGap a b τ = some (r, ρ) ∧ RR B ρ ∧ same2 out 1 e2 r (ρ 198 12) := by
  unfold f_X9_isGap f_X10_isGap
  rcases c_cells (a := a) (b := b) (σ := σ) with ⟨u, v, hu, hv, rfl, rfl, h1, h2⟩ | ⟨h1, h2⟩
  · have ho : ∀ x, hN u v = some x → x < 24 := fun x q => (hN_ed q).1
    rw [h1, xb_d, m_between hu hv, bnd_d, c_openx R.1 ho, bnd_d]
    obtain ⟨w, hw, hz⟩ : ∃ w : Int32, w = opB (σ 199) (hN u v) ∧ (w = 0 ∨ w = 1) := by
      refine ⟨_, rfl, ?_⟩
      cases hN u v with
      | none => exact Or.inl rfl
      | some g => unfold opB; dsimp only; split; exact Or.inr rfl; exact Or.inl rfl
    rw [← hw, bz_ok hz]
    refine ⟨_, _, rfl, ?_⟩
    rw [h2, bnm_d, if_neg one_ne, n_hedge hu hv, bnd_d, r_openx ho, bnd_d, up_n _ _ _ (show 199 ≠ 198 by omega), ← hw]
    rcases hz with hz | hz <;> rw [hz]
    · rw [if_pos rfl]
      exact ⟨_, _, rfl, R.thr 0, by rw [up_e, upd_e], rfl⟩
    · rw [if_neg one_ne]
      exact ⟨_, _, rfl, R.thr 0, by rw [up_e, upd_e], rfl⟩
  · rw [h1, xb_n]
    refine ⟨_, _, rfl, ?_⟩
    rw [h2, bnm_d, if_pos rfl]
    exact ⟨_, _, rfl, R.thr 1, Or.inl ⟨rfl, by rw [up_e, upd_e]⟩⟩
/-! hours -/
theorem hours_tail {σ τ : Mm} {B u v : Nat} (R : RR B σ) (hu : u < 16) (hv : v < 16) (h2 : f_X10_areCells (I u) (I v) τ = some (1, up τ 198 12 0)) (ht : ∀ a, a ≠ 159 → a ≠ 160 → τ a = σ a) :
    ∃ r ρ, f_X10_hours (I u) (I v) τ = some (r, ρ) ∧ RR B ρ ∧ ((dX (σ 199) u v < 1000 ∧ ρ 198 12 = 0 ∧ r = I (dX (σ 199) u v)) ∨ (dX (σ 199) u v = 1000 ∧ ρ 198 12 = 2)) := by
  unfold f_X10_hours
  obtain ⟨τ2, t1, t2⟩ := r_hours (σ := up τ 198 12 0) hu hv
  have e199 : (up τ 198 12 0) 199 = σ 199 := by rw [up_n _ _ _ (by omega)]; exact ht 199 (by omega) (by omega)
  rw [h2, bnm_d, if_neg one_ne, t1, bnm_d, e199]
  have Rτ : RR B τ2 := R.same (fun a h1 h2 h3 h4 => by rw [t2 a h4, up_n _ _ _ h3, ht a h1 h2]) (fun k hk => by rw [t2 198 (by omega), up_e, upd_n _ _ hk, ht 198 (by omega) (by omega)])
  rcases dX_lt (σ 199) (s := u) (v := v) hu with q | q
  · rw [if_pos (show dX (σ 199) u v < 1000 by omega), if_neg (nm1 (by omega))]
    exact ⟨_, _, rfl, Rτ, Or.inl ⟨by omega, by rw [t2 198 (by omega), up_e, upd_e], rfl⟩⟩
  · rw [if_neg (show ¬ dX (σ 199) u v < 1000 by omega), if_pos rfl, r_thr, bnm_d]
    exact ⟨_, _, rfl, Rτ.thr 2, Or.inr ⟨q, by rw [up_e, upd_e]⟩⟩
theorem hours_fin {f : Fm} {u v : Nat} (hu : u < 16) {σ : Mm} {r t : Int32} (h : (dX f u v < 1000 ∧ t = 0 ∧ r = I (dX f u v)) ∨ (dX f u v = 1000 ∧ t = 2)) : ∃ out, f_X9_demandWay (I (dX f u v)) σ = some (out, σ) ∧ same2 out 1 2 r t := by
  unfold f_X9_demandWay
  rcases h with ⟨q, h1, h2⟩ | ⟨q, h1⟩
  · rw [if_pos (show I (dX f u v) < 1000 from (I_lt (b := 1000) (by omega) (by omega)).mpr q)]
    exact ⟨_, rfl, h1, h2⟩
  · rw [q, if_neg (show ¬ I 1000 < 1000 by decide)]
    exact ⟨_, rfl, Or.inr ⟨rfl, h1⟩⟩
theorem q_hours {σ : Mm} {B : Nat} (R : RR B σ) (a b : Int32) : ∃ out τ, f_X9_hours a b σ = some (out, τ) ∧ ∃ r ρ, f_X10_hours a b τ = some (r, ρ) ∧ RR B ρ ∧ same2 out 1 2 r (ρ 198 12) := by
  unfold f_X9_hours
  rcases c_cells (a := a) (b := b) (σ := σ) with ⟨u, v, hu, hv, rfl, rfl, h1, h2⟩ | ⟨h1, h2⟩
  · obtain ⟨τ, t1, t2⟩ := c_hours R.1 hu hv
    have h3 : f_X10_areCells (I u) (I v) τ = some (1, up τ 198 12 0) := by
      rcases c_cells (a := I u) (b := I v) (σ := τ) with ⟨-, -, -, -, -, -, -, h⟩ | ⟨h, -⟩
      · exact h
      · unfold f_X9_demandCells at h
        rw [m_cell hu, bnd_d, if_neg one_ne, m_cell hv, bnd_d, if_neg one_ne] at h
        cases h
    obtain ⟨r, ρ, p1, p2, p3⟩ := hours_tail R hu hv h3 t2
    obtain ⟨out, o1, o2⟩ := hours_fin hu (σ := τ) p3
    rw [h1, xb_d, t1, bnm_d, o1]
    exact ⟨_, _, by cases out <;> rfl, r, ρ, p1, p2, o2⟩
  · rw [h1, xb_n]
    refine ⟨_, _, rfl, ?_⟩
    unfold f_X10_hours
    rw [h2, bnm_d, if_pos rfl]
    exact ⟨_, _, rfl, R.thr 1, Or.inl ⟨rfl, by rw [up_e, upd_e]⟩⟩
theorem q_hoursAgain {σ : Mm} {B : Nat} (R : RR B σ) (a b : Int32) : ∃ out τ, f_X9_hoursAgain a b σ = some (out, τ) ∧ ∃ r ρ, f_X10_hoursAgain a b τ = some (r, ρ) ∧ RR B ρ ∧ same2 out 1 2 r (ρ 198 12) := by
  unfold f_X9_hoursAgain f_X10_hoursAgain
  rcases c_cells (a := a) (b := b) (σ := σ) with ⟨u, v, hu, hv, rfl, rfl, h1, h2⟩ | ⟨h1, h2⟩
  · obtain ⟨τ, t1, t2⟩ := m_again (σ := σ) hu hv
    rw [dst_congr R.1.toC] at t1
    have t1 : f_X8_hoursByNeighbours (I u) (I v) σ = some (I (dX (σ 199) u v), τ) := t1
    have h3 : f_X10_areCells (I u) (I v) τ = some (1, up τ 198 12 0) := by
      rcases c_cells (a := I u) (b := I v) (σ := τ) with ⟨-, -, -, -, -, -, -, h⟩ | ⟨h, -⟩
      · exact h
      · unfold f_X9_demandCells at h
        rw [m_cell hu, bnd_d, if_neg one_ne, m_cell hv, bnd_d, if_neg one_ne] at h
        cases h
    obtain ⟨r, ρ, p1, p2, p3⟩ := hours_tail R hu hv h3 (fun a h _ => t2 a h)
    obtain ⟨out, o1, o2⟩ := hours_fin hu (σ := τ) p3
    rw [h1, xb_d, t1, bnm_d, o1]
    refine ⟨_, _, by cases out <;> rfl, r, ρ, ?_, p2, o2⟩
    rw [p1, bnm_d]
  · rw [h1, xb_n]
    refine ⟨_, _, rfl, ?_⟩
    unfold f_X10_hours
    rw [h2, bnm_d, if_pos rfl, bnm_d]
    exact ⟨_, _, rfl, R.thr 1, Or.inl ⟨rfl, by rw [up_e, upd_e]⟩⟩
/-! the next cell, the cells reached, trims -/
theorem r_cells1 {u v : Nat} (hu : u < 16) (hv : v < 16) (τ : Mm) : f_X10_areCells (I u) (I v) τ = some (1, up τ 198 12 0) := by
  rcases c_cells (a := I u) (b := I v) (σ := τ) with ⟨-, -, -, -, -, -, -, h⟩ | ⟨h, -⟩
  · exact h
  · unfold f_X9_demandCells at h
    rw [m_cell hu, bnd_d, if_neg one_ne, m_cell hv, bnd_d, if_neg one_ne] at h
    cases h
theorem q_next {σ : Mm} {B : Nat} (R : RR B σ) (a : Int32) : ∃ out τ, f_X9_next a σ = some (out, τ) ∧ ∃ r ρ, f_X10_next a τ = some (r, ρ) ∧ RR B ρ ∧ same2 out 1 2 r (ρ 198 12) := by
  unfold f_X9_next f_X10_next
  rcases c_cells (a := a) (b := a) (σ := σ) with ⟨u, v, hu, hv, rfl, -, h1, h2⟩ | ⟨h1, h2⟩
  · obtain ⟨o, τ, D, t1, t2, t3, t4, t5⟩ := m_step (σ := σ) hu
    rw [h1, xb_d, t1, bnm_d]
    obtain ⟨ρ1, E, p1, p2, p3, p4⟩ := m_lays (σ0 := up τ 198 12 0) (tr := false) (s := 15) (by omega)
    have p1 : f_X10_laysWays 15 0 (up τ 198 12 0) = some ρ1 := p1
    have e199 : ρ1 199 = σ 199 := by rw [p4 199 (by omega), up_n _ _ _ (by omega), t5 199 (by omega) (by omega)]
    have hp : ∀ g, g < 24 → gC σ g = gapR (up τ 198 12 0) g := fun g hg => by
      rw [R.1.toG g hg]; unfold gX gapR; rw [up_n _ _ _ (by omega), t5 199 (by omega) (by omega)]
    have hp1 : ∀ g, gapR ρ1 g = gapR (up τ 198 12 0) g := fun g => by unfold gapR; rw [p4 199 (by omega)]
    have Rρ : RR B ρ1 := R.same (fun a h1 h2 h3 h4 => by rw [p4 a h4, up_n _ _ _ h3, t5 a h1 h2]) (fun k hk => by rw [p4 198 (by omega), up_e, upd_n _ _ hk, t5 198 (by omega) (by omega)])
    have z12 : ρ1 198 12 = 0 := by rw [p4 198 (by omega), up_e, upd_e]
    by_cases q : E u < 99 ∧ u ≠ 15
    · have hex : ∃ x, x < 16 ∧ good (gapR ρ1) E u x := by
        obtain ⟨x, x1, g, g1, g2, g3⟩ := good_ex (p := gapR (up τ 198 12 0)) (fun h w hc => by
          unfold cR at hc
          rw [if_neg (by decide)] at hc
          by_cases y : gapR (up τ 198 12 0) h = true
          · rw [if_pos y] at hc; cases hc; exact ⟨rfl, y⟩
          · rw [if_neg y] at hc; cases hc) (by omega) p3 hu q.1 q.2
        exact ⟨x, x1, g, g1, by rw [hp1]; exact g2, g3⟩
      obtain ⟨x, x1, x2, x3⟩ := n_next2 (σ := ρ1) hu p2 q.1 hex
      have eo : o = some x := isLeast_uniq (P := fun x => D u < 1000 ∧ good (gC σ) D u x) (Q := good (gapR ρ1) E u) (fun y => by
        rw [next_eq hp t2 p3 hu q.1 y]
        constructor
        · rintro ⟨g, g1, g2, g3⟩; exact ⟨g, g1, by rw [hp1]; exact g2, g3⟩
        · rintro ⟨g, g1, g2, g3⟩; exact ⟨g, g1, by rw [hp1] at g2; exact g2, g3⟩) t4 x3
      subst eo
      rw [show oI (some x) = I x from rfl, if_neg (nm1 (by omega))]
      refine ⟨_, _, rfl, ?_⟩
      rw [r_cells1 hu hu, bnm_d, if_neg one_ne, p1, bnd_d, if_neg (show ¬ I u = 15 from I_beq (b := 15) (by omega) (by omega) q.2), gd_I hu (by omega), I_clamp (by omega), (p2 u hu).1, if_pos (show I (E u) < 99 from (I_lt (b := 99) (by omega) (by omega)).mpr q.1), x2]
      exact ⟨_, _, rfl, Rρ, z12, rfl⟩
    · have eo : o = none := by
        cases o with
        | none => rfl
        | some x =>
          exfalso
          obtain ⟨⟨x1, g, g1, g2, g3⟩, -⟩ := t4
          apply q
          have hDu := t2 u hu
          have hEu := p3 u hu
          have hc : ∀ g, g < 24 → cH σ g = cR (up τ 198 12 0) false g := fun g hg => by
            have := hp g hg
            unfold cH cR
            rw [← this]
            unfold gC
            by_cases y : (5 : Int32) ≤ σ 2 g <;> simp [y]
          refine ⟨?_, ?_⟩
          · rcases hEu with ⟨y, -⟩ | ⟨-, y⟩
            · exact y
            · rcases hDu with ⟨-, y2⟩ | ⟨y2, -⟩
              · exact (isD_congr hc y2).no y |>.elim
              · omega
          · intro z
            subst z
            rcases hDu with ⟨-, y2⟩ | ⟨y2, -⟩
            · have := y2.2 0 0 ⟨rfl, rfl⟩
              omega
            · omega
      subst eo
      rw [if_pos (show oI none = -1 from rfl)]
      refine ⟨_, _, rfl, ?_⟩
      rw [r_cells1 hu hu, bnm_d, if_neg one_ne, p1, bnd_d]
      by_cases w : u = 15
      · rw [if_pos (show I u = 15 by rw [w]; rfl), r_thr, bnm_d]
        exact ⟨_, _, rfl, Rρ.thr 2, Or.inr ⟨rfl, by rw [up_e, upd_e]⟩⟩
      · have y : E u = 99 := by have := (p2 u hu).2; have : ¬ E u < 99 := fun z => q ⟨z, w⟩; omega
        rw [if_neg (show ¬ I u = 15 from I_beq (b := 15) (by omega) (by omega) w), gd_I hu (by omega), I_clamp (by omega), (p2 u hu).1, y, if_neg (show ¬ I 99 < 99 by decide), r_thr, bnm_d]
        exact ⟨_, _, rfl, Rρ.thr 2, Or.inr ⟨rfl, by rw [up_e, upd_e]⟩⟩
  · rw [h1, xb_n]
    refine ⟨_, _, rfl, ?_⟩
    rw [h2, bnm_d, if_pos rfl]
    exact ⟨_, _, rfl, R.thr 1, Or.inl ⟨rfl, by rw [up_e, upd_e]⟩⟩
theorem q_reached {σ : Mm} {B : Nat} (e2 : Nat) (R : RR B σ) (a : Int32) : ∃ out τ, f_X9_reached a σ = some (out, τ) ∧ ∃ r ρ, f_X10_reached a τ = some (r, ρ) ∧ RR B ρ ∧ same2 out 1 e2 r (ρ 198 12) := by
  unfold f_X9_reached f_X10_reached
  rcases c_cells (a := a) (b := a) (σ := σ) with ⟨u, v, hu, hv, rfl, -, h1, h2⟩ | ⟨h1, h2⟩
  · obtain ⟨q, q1, q2⟩ := m_reach (σ := σ) hu
    obtain ⟨q', ρ, p1, p2, p3⟩ := n_reach (σ := up σ 198 12 0) hu
    rw [h1, xb_d, q1, bnd_d]
    refine ⟨_, _, rfl, ?_⟩
    rw [r_cells1 hu hu, bnm_d, if_neg one_ne, p1, bnm_d]
    refine ⟨_, _, rfl, R.same (fun a _ _ h3 h4 => by rw [p3 a h4, up_n _ _ _ h3]) (fun k hk => by rw [p3 198 (by omega), up_e, upd_n _ _ hk]), by rw [p3 198 (by omega), up_e, upd_e], ?_⟩
    exact (set_eq q2 p2 (fun g hg => by rw [R.1.toG g hg]; unfold gX gapR; rw [up_n _ _ _ (by omega)])).symm
  · rw [h1, xb_n]
    refine ⟨_, _, rfl, ?_⟩
    rw [h2, bnm_d, if_pos rfl]
    exact ⟨_, _, rfl, R.thr 1, Or.inl ⟨rfl, by rw [up_e, upd_e]⟩⟩
theorem trims_tail {σ τ : Mm} {B u k : Nat} (R : RR B σ) (hu : u < 16) (ht : ∀ a, a ≠ 159 → a ≠ 160 → τ a = σ a) (hk : isD (cT (gC σ)) u 15 k) : ∃ ρ, f_X10_trims (I u) τ = some (I k, ρ) ∧ RR B ρ ∧ ρ 198 12 = 0 := by
  unfold f_X10_trims
  obtain ⟨j, ρ, p1, p2, p3, p4⟩ := n_trims (σ := up τ 198 12 0) hu
  rw [r_cells1 hu hu, bnm_d, if_neg one_ne, p1, bnd_d, p2]
  have e : j = k := (isD_congr (d := cT (gC σ)) (fun g hg => by
    unfold cT
    rw [R.1.toG g hg]; unfold gX gapR; rw [up_n _ _ _ (by omega), ht 199 (by omega) (by omega)]) p3).uniq hk
  subst e
  exact ⟨ρ, rfl, R.same (fun a h1 h2 h3 h4 => by rw [p4 a h4, up_n _ _ _ h3, ht a h1 h2]) (fun k hk => by rw [p4 198 (by omega), up_e, upd_n _ _ hk, ht 198 (by omega) (by omega)]), by rw [p4 198 (by omega), up_e, upd_e]⟩
theorem q_trims {σ : Mm} {B : Nat} (e2 : Nat) (R : RR B σ) (a : Int32) : ∃ out τ, f_X9_trims a σ = some (out, τ) ∧ ∃ r ρ, f_X10_trims a τ = some (r, ρ) ∧ RR B ρ ∧ same2 out 1 e2 r (ρ 198 12) := by
  unfold f_X9_trims
  rcases c_cells (a := a) (b := a) (σ := σ) with ⟨u, v, hu, hv, rfl, -, h1, h2⟩ | ⟨h1, h2⟩
  · obtain ⟨k, k1, k2⟩ := m_trimsN (σ := σ) hu
    obtain ⟨ρ, p1, p2, p3⟩ := trims_tail R hu (fun _ _ _ => rfl) k2
    rw [h1, xb_d, k1, bnd_d]
    exact ⟨_, _, rfl, _, ρ, p1, p2, p3, rfl⟩
  · rw [h1, xb_n]
    refine ⟨_, _, rfl, ?_⟩
    unfold f_X10_trims
    rw [h2, bnm_d, if_pos rfl]
    exact ⟨_, _, rfl, R.thr 1, Or.inl ⟨rfl, by rw [up_e, upd_e]⟩⟩
theorem q_trimsAgain {σ : Mm} {B : Nat} (e2 : Nat) (R : RR B σ) (a : Int32) : ∃ out τ, f_X9_trimsAgain a σ = some (out, τ) ∧ ∃ r ρ, f_X10_trimsAgain a τ = some (r, ρ) ∧ RR B ρ ∧ same2 out 1 e2 r (ρ 198 12) := by
  unfold f_X9_trimsAgain f_X10_trimsAgain
  rcases c_cells (a := a) (b := a) (σ := σ) with ⟨u, v, hu, hv, rfl, -, h1, h2⟩ | ⟨h1, h2⟩
  · obtain ⟨k, τ, k1, k2, k3⟩ := m_trimsB (σ := σ) hu
    obtain ⟨ρ, p1, p2, p3⟩ := trims_tail R hu (fun a h _ => k3 a h) k2
    rw [h1, xb_d, k1, bnm_d]
    refine ⟨_, _, rfl, _, ρ, ?_, p2, p3, rfl⟩
    rw [p1, bnm_d]
  · rw [h1, xb_n]
    refine ⟨_, _, rfl, ?_⟩
    unfold f_X10_trims
    rw [h2, bnm_d, if_pos rfl, bnm_d]
    exact ⟨_, _, rfl, R.thr 1, Or.inl ⟨rfl, by rw [up_e, upd_e]⟩⟩
/-! when a gap closes -/
theorem q_closesIn {σ : Mm} {B : Nat} (R : RR B σ) (a b : Int32) : ∃ out τ, f_X9_closesIn a b σ = some (out, τ) ∧ ∃ r ρ, f_X10_closesIn a b τ = some (r, ρ) ∧ RR B ρ ∧ same2 out 1 2 r (ρ 198 12) := by
  unfold f_X9_closesIn f_X10_closesIn
  rcases c_cells (a := a) (b := b) (σ := σ) with ⟨u, v, hu, hv, rfl, rfl, h1, h2⟩ | ⟨h1, h2⟩
  · rw [c_asked hu hv h1]
    cases e : hN u v with
    | none =>
      dsimp only
      rw [xb_n]
      refine ⟨_, _, rfl, ?_⟩
      rw [h2, bnm_d, if_neg one_ne, n_hedge hu hv, e, bnd_d, if_pos (show o6 none = -1 from rfl), r_thr, bnm_d]
      exact ⟨_, _, rfl, (R.thr 0).thr 2, Or.inr ⟨rfl, by rw [up_e, upd_e]⟩⟩
    | some h =>
      have hh := (hN_ed e).1
      dsimp only
      rw [xb_d, m_leaves hh, bnd_d, R.1.getL hh]
      try rw [lt_d]
      refine ⟨_, _, rfl, ?_⟩
      rw [h2, bnm_d, if_neg one_ne, n_hedge hu hv, e, bnd_d, show o6 (some h) = I (6 + h) from rfl, if_neg (nm1 (by omega)), gd_I (by omega) (by omega), I_clamp (by omega), up_n _ _ _ (by omega)]
      exact ⟨_, _, rfl, R.thr 0, by rw [up_e, upd_e], rfl⟩
  · rw [c_asked0 h1, xb_n]
    refine ⟨_, _, rfl, ?_⟩
    rw [h2, bnm_d, if_pos rfl]
    exact ⟨_, _, rfl, R.thr 1, Or.inl ⟨rfl, by rw [up_e, upd_e]⟩⟩
