/-! THE REFERENCE'S WAYS: neighbours by number, labels lowered cell by cell -/
def hN (u v : Nat) : Option Nat := (List.range 24).find? (fun h => (loN h == u && hiN h == v) || (hiN h == u && loN h == v))
def nxN (u d : Nat) : Option Nat := if d = 0 then (if 4 ≤ u then some (u - 4) else none) else if d = 1 then (if u % 4 < 3 then some (u + 1) else none) else if d = 2 then (if u < 12 then some (u + 4) else none) else if 0 < u % 4 then some (u - 1) else none
def oI (o : Option Nat) : Int32 := match o with
  | none => -1
  | some x => I x
theorem nextTo_ind (a b : Int32) (σ τ : Mm) : f_X10_nextTo a b σ = f_X10_nextTo a b τ := rfl
theorem hedgeAt_ind (a b : Int32) (σ τ : Mm) : f_X10_hedgeAt a b σ = f_X10_hedgeAt a b τ := rfl
theorem n_next {σ : Mm} {u d : Nat} (hu : u < 16) (hd : d < 4) : f_X10_nextTo (I u) (I d) σ = some (oI (nxN u d)) := by
  rw [nextTo_ind _ _ σ (fun _ _ => 0)]
  exact (by decide +kernel : ∀ u, u < 16 → ∀ d, d < 4 → f_X10_nextTo (I u) (I d) (fun _ _ => 0) = some (oI (nxN u d))) u hu d hd
def o6 (o : Option Nat) : Int32 := match o with
  | none => -1
  | some h => I (6 + h)
theorem n_hedge {σ : Mm} {u v : Nat} (hu : u < 16) (hv : v < 16) : f_X10_hedgeAt (I u) (I v) σ = some (o6 (hN u v)) := by
  rw [hedgeAt_ind _ _ σ (fun _ _ => 0)]
  exact (by decide +kernel : ∀ u, u < 16 → ∀ v, v < 16 → f_X10_hedgeAt (I u) (I v) (fun _ _ => 0) = some (o6 (hN u v))) u hu v hv
theorem nx_lt {u d x : Nat} (hu : u < 16) (hd : d < 4) (h : nxN u d = some x) : x < 16 ∧ ∃ g, hN u x = some g ∧ ed g u x := by
  have k := (by decide +kernel : ∀ u, u < 16 → ∀ d, d < 4 → (match nxN u d with
    | none => true
    | some x => decide (x < 16) && (match hN u x with
      | none => false
      | some g => decide (g < 24) && ((u == loN g && x == hiN g) || (u == hiN g && x == loN g)))) = true) u hu d hd
  rw [h] at k
  dsimp only at k
  rw [Bool.and_eq_true] at k
  refine ⟨of_decide_eq_true k.1, ?_⟩
  have k2 := k.2
  cases e : hN u x with
  | none => rw [e] at k2; cases k2
  | some g =>
    rw [e] at k2
    dsimp only at k2
    rw [Bool.and_eq_true, Bool.or_eq_true, Bool.and_eq_true, Bool.and_eq_true] at k2
    exact ⟨g, rfl, of_decide_eq_true k2.1, k2.2.elim (fun q => Or.inl ⟨eq_of_beq q.1, eq_of_beq q.2⟩) (fun q => Or.inr ⟨eq_of_beq q.1, eq_of_beq q.2⟩)⟩
theorem ed_nx {g u x : Nat} (e : ed g u x) : ∃ d, d < 4 ∧ nxN u d = some x := by
  have k := (by decide +kernel : ∀ g, g < 24 → ((List.range 4).any (fun d => nxN (loN g) d == some (hiN g)) && (List.range 4).any (fun d => nxN (hiN g) d == some (loN g))) = true) g e.1
  rw [Bool.and_eq_true, List.any_eq_true, List.any_eq_true] at k
  obtain ⟨⟨d1, a1, b1⟩, ⟨d2, a2, b2⟩⟩ := k
  rcases e.2 with ⟨p, q⟩ | ⟨p, q⟩ <;> subst p <;> subst q
  · exact ⟨d1, List.mem_range.mp a1, eq_of_beq b1⟩
  · exact ⟨d2, List.mem_range.mp a2, eq_of_beq b2⟩
theorem hN_ed {u v h : Nat} (q : hN u v = some h) : ed h u v := by
  unfold hN at q
  have a := List.find?_some q
  have b := List.mem_of_find?_eq_some q
  rw [Bool.or_eq_true, Bool.and_eq_true, Bool.and_eq_true] at a
  exact ⟨List.mem_range.mp b, a.elim (fun p => Or.inl ⟨(eq_of_beq p.1).symm, (eq_of_beq p.2).symm⟩) (fun p => Or.inr ⟨(eq_of_beq p.1).symm, (eq_of_beq p.2).symm⟩)⟩
theorem ed_hN {u v h : Nat} (e : ed h u v) : hN u v = some h := by
  have k := (by decide +kernel : ∀ g, g < 24 → (hN (loN g) (hiN g) == some g && hN (hiN g) (loN g) == some g) = true) h e.1
  rw [Bool.and_eq_true] at k
  rcases e.2 with ⟨p, q⟩ | ⟨p, q⟩ <;> subst p <;> subst q
  · exact eq_of_beq k.1
  · exact eq_of_beq k.2
theorem nN1 {o : Option Nat} (h : ∀ x, o = some x → x < 2147483648) : (oI o = -1) ↔ o = none := by
  cases o with
  | none => exact ⟨fun _ => rfl, fun _ => rfl⟩
  | some x => exact ⟨fun q => absurd q (nm1 (h x rfl)), fun q => by cases q⟩
/-- the leaves of the reference's array stand over those of the class -/
def gapR (σ : Mm) (h : Nat) : Bool := !decide ((5 : Int32) ≤ σ 199 (6 + h))
theorem n_gap {σ : Mm} {h : Nat} (hh : h < 24) : f_X10_isGapAt (I (6 + h)) σ = some (if gapR σ h = true then 1 else 0) := by
  unfold f_X10_isGapAt gapR
  rw [if_neg (nm1 (by omega)), gd_I (by omega) (by omega), I_clamp (by omega)]
  by_cases q : (5 : Int32) ≤ σ 199 (6 + h) <;> simp [q]
/-- what a hop is taken to cost -/
def wR (g tr : Bool) : Nat := if g then (if tr then 0 else 1) else if tr then 1 else 99
def cR (σ : Mm) (tr : Bool) : Nat → Option Nat := fun h => if tr then some (if gapR σ h = true then 0 else 1) else if gapR σ h = true then some 1 else none
theorem cR_one (σ : Mm) (tr : Bool) : isOne (cR σ tr) := fun h w q => by
  unfold cR at q
  split at q
  · cases q; split <;> omega
  · split at q
    · cases q; exact Nat.le_refl _
    · cases q
theorem cR_w (σ : Mm) (tr : Bool) (h : Nat) : cR σ tr h = some (wR (gapR σ h) tr) ∨ (cR σ tr h = none ∧ wR (gapR σ h) tr = 99) := by
  unfold cR wR
  cases tr <;> cases gapR σ h <;> simp
theorem rl_sndF {c : Nat → Option Nat} {F w : Nat} {s : Nat} {D : Nat → Nat} {h u v : Nat} (hw : c h = some w ∨ (c h = none ∧ F ≤ w)) (hv : D v ≤ F) (e : ed h u v) (hs : snd c F s D) : snd c F s (rl D u v w) := by
  intro x hx hlt
  unfold rl at hlt ⊢
  by_cases q : x = v ∧ D u + w < D v
  · rw [if_pos q] at hlt ⊢
    obtain ⟨rfl, q2⟩ := q
    obtain ⟨n, hn⟩ := hs u e.lt.1 (by omega)
    rcases hw with hc | ⟨-, hc⟩
    · exact ⟨n + 1, h, u, D u, w, e, hc, hn, rfl⟩
    · omega
  · rw [if_neg q] at hlt ⊢
    exact hs x hx hlt
theorem lay_val {A F : Nat} {σ : Mm} {D : Nat → Nat} (hF : F ≤ 1000) (h : lbl A F σ D) {u x w : Nat} (hu : u < 16) (hx : x < 16) (hw : w ≤ 99) : (if σ A u + I w < σ A x then σ A u + I w else σ A x) = I (rl D u x w x) := by
  have a := h u hu
  have b := h x hx
  rw [a.1, b.1, I_add]
  unfold rl
  by_cases q : D u + w < D x
  · rw [if_pos ((I_lt (by omega) (by omega)).mpr q), if_pos ⟨rfl, q⟩]
  · rw [if_neg (fun z => q ((I_lt (by omega) (by omega)).mp z)), if_neg (fun z => q z.2)]
theorem lay_lbl {A F : Nat} {σ : Mm} {D : Nat → Nat} (hF : F ≤ 1000) (h : lbl A F σ D) {u x w : Nat} (hu : u < 16) (hx : x < 16) (hw : w ≤ 99) : lbl A F (up σ A x (if σ A u + I w < σ A x then σ A u + I w else σ A x)) (rl D u x w) := by
  rw [lay_val hF h hu hx hw]
  intro y hy
  have hle := rl_le D u x w x
  have := (h x hx).2
  have k := up_lbl h (v := x) (k := rl D u x w x) (by omega) y hy
  dsimp only at k
  by_cases q : y = x
  · rw [if_pos q] at k
    rw [q] at k ⊢
    exact k
  · rw [if_neg q] at k
    have e : rl D u x w y = D y := by unfold rl; rw [if_neg (fun z => q z.1)]
    rw [e]; exact k
/-- one cell's four directions -/
def lI (σ0 : Mm) (tr : Bool) (s : Nat) (D0 : Nat → Nat) (P : Nat → Nat → Prop) (σ : Mm) : Prop :=
  ∃ D, lbl 204 99 σ D ∧ (∀ x, D x ≤ D0 x) ∧ D s = 0 ∧ snd (cR σ0 tr) 99 s D ∧ (∀ h u x, P u x → ed h u x → D x ≤ D0 u + wR (gapR σ0 h) tr) ∧ ∀ a, a ≠ 204 → σ a = σ0 a
theorem lay_in {σ0 : Mm} {tr : Bool} {s : Nat} {D0 : Nat → Nat} {P : Nat → Nat → Prop} {K : Int32 → Mm → Option Mm} {v7 a0 : Int32} {u : Nat} (hu : u < 16) (σ : Mm) (h0 : lI σ0 tr s D0 P σ) :
    ∃ σ1, f_X10_laysWays_l52 K (I u) v7 a0 (if tr then 1 else 0) 20 0 σ = K (I 4) σ1 ∧ lI σ0 tr s D0 (fun y x => P y x ∨ y = u) σ1 := by
  obtain ⟨σ1, h1, h2⟩ := loopI (fun n v g => f_X10_laysWays_l52 K (I u) v7 a0 (if tr then 1 else 0) n v g) (fun g => K (I 4) g) 4 (fun v g => lI σ0 tr s D0 (fun y x => P y x ∨ (y = u ∧ ∃ d, d < v ∧ nxN u d = some x)) g) (by
      intro n g _
      show f_X10_laysWays_l52 K (I u) v7 a0 (if tr then 1 else 0) (n + 1) (I 4) g = _
      rw [f_X10_laysWays_l52, if_pos (show (4 : Int32) ≤ I 4 by decide)]) (by
      intro n v g hv hi
      have e1 : I v + 1 = I (v + 1) := I_add v 1
      obtain ⟨D, i1, i2, i3, i4, i5, i6⟩ := hi
      show ∃ g1, f_X10_laysWays_l52 K (I u) v7 a0 (if tr then 1 else 0) (n + 1) (I v) g = f_X10_laysWays_l52 K (I u) v7 a0 (if tr then 1 else 0) n (I (v + 1)) g1 ∧ _
      rw [f_X10_laysWays_l52, if_neg (show ¬ (4 : Int32) ≤ I v from nle (N := 4) hv (by omega)), n_next hu hv, bnd_d]
      cases hn : nxN u v with
      | none =>
        refine ⟨g, ?_, D, i1, i2, i3, i4, fun h y x q e => ?_, i6⟩
        · rw [show oI none = (-1 : Int32) from rfl, if_pos rfl, if_pos rfl, if_pos rfl, lt_d, e1]
          split <;> rfl
        · rcases q with q | ⟨q1, d, q2, q3⟩
          · exact i5 h y x (Or.inl q) e
          · by_cases a : d = v
            · rw [a, hn] at q3; cases q3
            · exact i5 h y x (Or.inr ⟨q1, d, by omega, q3⟩) e
      | some x =>
        obtain ⟨hx, gh, hg, eg⟩ := nx_lt hu hv hn
        have gg : gapR g gh = gapR σ0 gh := by unfold gapR; rw [i6 199 (by omega)]
        have fin : ∀ w, w = wR (gapR σ0 gh) tr → lI σ0 tr s D0 (fun y x => P y x ∨ (y = u ∧ ∃ d, d < v + 1 ∧ nxN u d = some x)) (up g 204 x (if g 204 u + I w < g 204 x then g 204 u + I w else g 204 x)) := by
          intro w hw
          have hw99 : w ≤ 99 := by rw [hw]; unfold wR; split <;> split <;> omega
          refine ⟨rl D u x w, lay_lbl (by omega) i1 hu hx hw99, fun y => Nat.le_trans (rl_le _ _ _ _ _) (i2 y), ?_, ?_, ?_, fun a ha => by rw [up_n _ _ _ ha]; exact i6 a ha⟩
          · have := rl_le D u x w s; omega
          · refine rl_sndF ?_ (i1 x hx).2 eg i4
            rw [hw]
            rcases cR_w σ0 tr gh with q | ⟨q, q2⟩
            · exact Or.inl q
            · exact Or.inr ⟨q, by omega⟩
          · intro h y z q e
            have m1 := rl_le D u x w z
            rcases q with q | ⟨q1, d, q2, q3⟩
            · exact Nat.le_trans m1 (i5 h y z (Or.inl q) e)
            · by_cases a : d = v
              · subst a
                subst q1
                rw [hn] at q3; cases q3
                have hh : h = gh := Option.some.inj ((ed_hN e).symm.trans (ed_hN eg))
                have k := rl_at D y x w
                have k2 := i2 y
                rw [hh, ← hw]
                omega
              · exact Nat.le_trans m1 (i5 h y z (Or.inr ⟨q1, d, by omega, q3⟩) e)
        refine ⟨_, ?_, fin _ rfl⟩
        rw [show oI (some x) = I x from rfl, if_neg (nm1 (by omega)), n_hedge hu hx, bnd_d, hg, show o6 (some gh) = I (6 + gh) from rfl, n_gap eg.1, bnd_d, gg]
        simp only [if_neg (nm1 (show x < 2147483648 by omega))]
        simp only [gd_I hx (show 16 < 2147483648 by omega), gd_I hu (show 16 < 2147483648 by omega), I_clamp (show x < 2147483648 by omega), I_clamp (show u < 2147483648 by omega), lt_d, e1]
        cases tr <;> cases gapR σ0 gh <;> rfl) 4 0 20 σ (by omega) (by omega) (by
      obtain ⟨D, i1, i2, i3, i4, i5, i6⟩ := h0
      exact ⟨D, i1, i2, i3, i4, fun h y x q e => q.elim (fun q => i5 h y x q e) (fun q => by obtain ⟨-, d, q2, -⟩ := q; omega), i6⟩)
  refine ⟨σ1, h1, ?_⟩
  obtain ⟨D, i1, i2, i3, i4, i5, i6⟩ := h2
  refine ⟨D, i1, i2, i3, i4, fun h y x q e => ?_, i6⟩
  rcases q with q | q
  · exact i5 h y x (Or.inl q) e
  · subst q
    obtain ⟨d, q1, q2⟩ := ed_nx e
    exact i5 h y x (Or.inr ⟨rfl, d, q1, q2⟩) e
theorem lay_round {σ0 : Mm} {tr : Bool} {s : Nat} {D0 : Nat → Nat} {K : Int32 → Mm → Option Mm} {v7 a0 : Int32} (σ : Mm) (h0 : lI σ0 tr s D0 (fun _ _ => False) σ) :
    ∃ σ1, f_X10_laysWays_l42 K v7 a0 (if tr then 1 else 0) 20 0 σ = K (I 16) σ1 ∧ lI σ0 tr s D0 (fun _ _ => True) σ1 := by
  obtain ⟨σ1, h1, h2⟩ := loopI (fun n v g => f_X10_laysWays_l42 K v7 a0 (if tr then 1 else 0) n v g) (fun g => K (I 16) g) 16 (fun v g => lI σ0 tr s D0 (fun y _ => y < v) g) (by
      intro n g _
      show f_X10_laysWays_l42 K v7 a0 (if tr then 1 else 0) (n + 1) (I 16) g = _
      rw [f_X10_laysWays_l42, if_pos (show (16 : Int32) ≤ I 16 by decide)]) (by
      intro n v g hv hi
      have e1 : I v + 1 = I (v + 1) := I_add v 1
      show ∃ g1, f_X10_laysWays_l42 K v7 a0 (if tr then 1 else 0) (n + 1) (I v) g = f_X10_laysWays_l42 K v7 a0 (if tr then 1 else 0) n (I (v + 1)) g1 ∧ _
      rw [f_X10_laysWays_l42, if_neg (show ¬ (16 : Int32) ≤ I v from nle (N := 16) hv (by omega)), lt_d]
      obtain ⟨g1, q1, q2⟩ := lay_in (K := fun v17 σ18 => lt (I v + 1) fun x20 => f_X10_laysWays_l42 K v7 a0 (if tr then 1 else 0) n x20 σ18) (v7 := v7) (a0 := a0) hv g hi
      rw [q1]
      refine ⟨g1, ?_, ?_⟩
      · show lt (I v + 1) (fun x20 => f_X10_laysWays_l42 K v7 a0 (if tr then 1 else 0) n x20 g1) = _
        rw [lt_d, e1]
      · obtain ⟨D, i1, i2, i3, i4, i5, i6⟩ := q2
        exact ⟨D, i1, i2, i3, i4, fun h y x q e => i5 h y x (by omega) e, i6⟩) 16 0 20 σ (by omega) (by omega) (by
      obtain ⟨D, i1, i2, i3, i4, i5, i6⟩ := h0
      exact ⟨D, i1, i2, i3, i4, fun h y x q e => absurd q (by omega), i6⟩)
  refine ⟨σ1, h1, ?_⟩
  obtain ⟨D, i1, i2, i3, i4, i5, i6⟩ := h2
  exact ⟨D, i1, i2, i3, i4, fun h y x _ e => i5 h y x e.lt.1 e, i6⟩
theorem m_lays {σ0 : Mm} {tr : Bool} {s : Nat} (hs : s < 16) : ∃ σ1 D, f_X10_laysWays (I s) (if tr then 1 else 0) σ0 = some σ1 ∧ lbl 204 99 σ1 D ∧ lab (cR σ0 tr) 99 s D ∧ ∀ a, a ≠ 204 → σ1 a = σ0 a := by
  have main : ∀ d r n (σ : Mm) (D : Nat → Nat), r + d = 16 → d < n → lbl 204 99 σ D → D s = 0 → snd (cR σ0 tr) 99 s D → rnd (cR σ0 tr) s r D → (∀ a, a ≠ 204 → σ a = σ0 a) →
      ∃ σ1 E, f_X10_laysWays_l33 (I s) (if tr then 1 else 0) n (I r) σ = some σ1 ∧ lbl 204 99 σ1 E ∧ lab (cR σ0 tr) 99 s E ∧ ∀ a, a ≠ 204 → σ1 a = σ0 a := by
    intro d
    induction d with
    | zero =>
      intro r n σ D hr hn h1 h2 h3 h4 h6
      obtain ⟨n, rfl⟩ : ∃ m, n = m + 1 := ⟨n - 1, by omega⟩
      have : r = 16 := by omega
      subst this
      refine ⟨σ, D, ?_, h1, lab_of (cR_one σ0 tr) hs (by omega) (fun v hv => (h1 v hv).2) h3 (fun n v k hn q => h4 n (by omega) v k q), h6⟩
      rw [f_X10_laysWays_l33, if_pos (show (16 : Int32) ≤ I 16 by decide)]
    | succ d ih =>
      intro r n σ D hr hn h1 h2 h3 h4 h6
      obtain ⟨n, rfl⟩ : ∃ m, n = m + 1 := ⟨n - 1, by omega⟩
      rw [f_X10_laysWays_l33, if_neg (show ¬ (16 : Int32) ≤ I r from nle (N := 16) (by omega) (by omega)), lt_d]
      obtain ⟨σ1, q1, E, i1, i2, i3, i4, i5, i6⟩ := lay_round (σ0 := σ0) (tr := tr) (s := s) (D0 := D) (K := fun v10 σ11 => lt (I r + 1) fun x13 => f_X10_laysWays_l33 (I s) (if tr then 1 else 0) n x13 σ11) (v7 := I r) (a0 := I s) σ ⟨D, h1, fun _ => Nat.le_refl _, h2, h3, fun _ _ _ q => q.elim, h6⟩
      rw [q1]
      show ∃ σ2 E2, lt (I r + 1) (fun x13 => f_X10_laysWays_l33 (I s) (if tr then 1 else 0) n x13 σ1) = some σ2 ∧ _
      rw [lt_d, show I r + 1 = I (r + 1) from I_add r 1]
      refine ih (r + 1) n σ1 E (by omega) (by omega) i1 i3 i4 (rnd_step h4 (fun v _ => i2 v) hs ?_) i6
      intro h u v w e hc
      have := i5 h u v trivial e
      rcases cR_w σ0 tr h with q | ⟨q, -⟩
      · rw [hc] at q; cases q; exact this
      · rw [hc] at q; cases q
  unfold f_X10_laysWays
  rw [lt_d]
  obtain ⟨σ1, q1, q2, q3⟩ := loopI (fun n v g => f_X10_laysWays_l2 (fun v1 σ2 => f_X10_laysWays_l33 (I s) (if tr then 1 else 0) 20 0 σ2) (I s) (if tr then 1 else 0) n v g) (fun g => f_X10_laysWays_l33 (I s) (if tr then 1 else 0) 20 0 g) 16 (fun v (g : Mm) => (∀ x, x < v → g 204 x = I (if x = s then 0 else 99)) ∧ ∀ a, a ≠ 204 → g a = σ0 a) (by
      intro n g _
      rw [f_X10_laysWays_l2, if_pos (show (16 : Int32) ≤ I 16 by decide)]) (by
      intro n v g hv hi
      have e1 : I v + 1 = I (v + 1) := I_add v 1
      refine ⟨up g 204 v (I (if v = s then 0 else 99)), ?_, ?_, ?_⟩
      · rw [f_X10_laysWays_l2, if_neg (show ¬ (16 : Int32) ≤ I v from nle (N := 16) hv (by omega)), gd_I hv (by omega), gd_I hv (by omega), I_clamp (by omega), lt_d, lt_d, lt_d, lt_d, e1]
        by_cases q : v = s
        · rw [if_pos (by rw [q]), if_pos q]; rfl
        · rw [if_neg (I_beq (by omega) (by omega) q), if_neg q]; rfl
      · intro x hx
        rw [up_e]
        by_cases q : x = v
        · rw [q, upd_e]
        · rw [upd_n _ _ q]; exact hi.1 x (by omega)
      · intro a ha
        rw [up_n _ _ _ ha]; exact hi.2 a ha) 16 0 20 σ0 (by omega) (by omega) ⟨fun x hx => by omega, fun _ _ => rfl⟩
  refine (show ∃ σ1 D, f_X10_laysWays_l2 (fun v1 σ2 => f_X10_laysWays_l33 (I s) (if tr then 1 else 0) 20 0 σ2) (I s) (if tr then 1 else 0) 20 0 σ0 = some σ1 ∧ _ from ?_)
  rw [show f_X10_laysWays_l2 (fun v1 σ2 => f_X10_laysWays_l33 (I s) (if tr then 1 else 0) 20 0 σ2) (I s) (if tr then 1 else 0) 20 0 σ0 = f_X10_laysWays_l33 (I s) (if tr then 1 else 0) 20 0 σ1 from q1]
  refine main 16 0 20 σ1 (fun v => if v = s then 0 else 99) (by omega) (by omega) (fun v hv => ⟨q2 v hv, by dsimp only; split <;> omega⟩) (by simp) ?_ (rnd_zero (by simp)) q3
  intro v hv h
  by_cases q : v = s
  · exact ⟨0, q, by simp [q]⟩
  · simp [q] at h
