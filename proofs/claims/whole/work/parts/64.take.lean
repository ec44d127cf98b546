/-! TEXTS: the class reads all commands -/
def formN (c : Nat) : Option (Nat × List Nat) := if c = 98 then some (418, [68, 62, 68, 42, 68]) else if c = 103 then some (417, [78]) else if c = 104 then some (413, [78, 45, 78, 61, 68]) else if c = 109 then some (416, [88]) else if c = 114 then some (420, [68, 43, 68]) else if c = 115 then some (414, []) else if c = 116 then some (415, [68, 58, 78, 45, 78]) else if c = 118 then some (417, [78]) else if c = 119 then some (419, [68, 87]) else none
def formG (c j : Nat) (l : List Nat) : Prop := txN j = l.length ∧ l.length < 6 ∧ (∀ q, q < l.length → txC j q = I (l.getD q 0)) ∧ (∀ c, c ∈ l → c < 128) ∧ numL l ≤ 3 ∧ c < 128
theorem form_ok {c : Nat} {x : Nat × List Nat} (h : formN c = some x) : formG c x.1 x.2 := by
  unfold formN at h
  have w : ∀ {c j : Nat} {l : List Nat}, formN c = some (j, l) → decide (txN j = l.length ∧ l.length < 6 ∧ (∀ q, q < l.length → txC j q = I (l.getD q 0)) ∧ (∀ c, c ∈ l → c < 128) ∧ numL l ≤ 3 ∧ c < 128) = true → formG c j l := fun _ h => by unfold formG; exact of_decide_eq_true h
  by_cases q : c = 98
  · subst q; rw [if_pos rfl] at h; cases h; exact w rfl (by decide +kernel)
  rw [if_neg q] at h
  by_cases q : c = 103
  · subst q; rw [if_pos rfl] at h; cases h; exact w rfl (by decide +kernel)
  rw [if_neg q] at h
  by_cases q : c = 104
  · subst q; rw [if_pos rfl] at h; cases h; exact w rfl (by decide +kernel)
  rw [if_neg q] at h
  by_cases q : c = 109
  · subst q; rw [if_pos rfl] at h; cases h; exact w rfl (by decide +kernel)
  rw [if_neg q] at h
  by_cases q : c = 114
  · subst q; rw [if_pos rfl] at h; cases h; exact w rfl (by decide +kernel)
  rw [if_neg q] at h
  by_cases q : c = 115
  · subst q; rw [if_pos rfl] at h; cases h; exact w rfl (by decide +kernel)
  rw [if_neg q] at h
  by_cases q : c = 116
  · subst q; rw [if_pos rfl] at h; cases h; exact w rfl (by decide +kernel)
  rw [if_neg q] at h
  by_cases q : c = 118
  · subst q; rw [if_pos rfl] at h; cases h; exact w rfl (by decide +kernel)
  rw [if_neg q] at h
  by_cases q : c = 119
  · subst q; rw [if_pos rfl] at h; cases h; exact w rfl (by decide +kernel)
  rw [if_neg q] at h
  cases h
theorem z_form {c : Nat} (hc : c < 65536) (σ : Mm) : f_X0_formOf (I c) σ = some (match formN c with | none => none | some x => some x.1) := by
  have ne : ∀ {d : Nat}, d < 65536 → c ≠ d → ¬ I c = I d := fun hd h => I_beq (by omega) (by omega) h
  unfold f_X0_formOf formN
  by_cases q : c = 98
  · subst q; rfl
  rw [if_neg (show ¬ I c = 98 from ne (d := 98) (by omega) q), if_neg q]
  by_cases q : c = 103
  · subst q; rfl
  rw [if_neg (show ¬ I c = 103 from ne (d := 103) (by omega) q), if_neg q]
  by_cases q : c = 104
  · subst q; rfl
  rw [if_neg (show ¬ I c = 104 from ne (d := 104) (by omega) q), if_neg q]
  by_cases q : c = 109
  · subst q; rfl
  rw [if_neg (show ¬ I c = 109 from ne (d := 109) (by omega) q), if_neg q]
  by_cases q : c = 114
  · subst q; rfl
  rw [if_neg (show ¬ I c = 114 from ne (d := 114) (by omega) q), if_neg q]
  by_cases q : c = 115
  · subst q; rfl
  rw [if_neg (show ¬ I c = 115 from ne (d := 115) (by omega) q), if_neg q]
  by_cases q : c = 116
  · subst q; rfl
  rw [if_neg (show ¬ I c = 116 from ne (d := 116) (by omega) q), if_neg q]
  by_cases q : c = 118
  · subst q; rfl
  rw [if_neg (show ¬ I c = 118 from ne (d := 118) (by omega) q), if_neg q]
  by_cases q : c = 119
  · subst q; rfl
  rw [if_neg (show ¬ I c = 119 from ne (d := 119) (by omega) q), if_neg q]
def V0 : Nat → Int32 := fun _ => 0
def rdC (t : Nat → Nat) (L p : Nat) : Rd := if p < L then (match formN (t p) with | some x => rdF t L x.2 (p + 1, false, 0, V0) | none => (p, true, 0, V0)) else (p, true, 0, V0)
theorem rdC_le {t : Nat → Nat} {L p : Nat} (h : p ≤ L) : (rdC t L p).1 ≤ L := by
  unfold rdC
  by_cases q : p < L
  · rw [if_pos q]
    cases formN (t p) with
    | none => exact h
    | some x => exact rdF_le _ _ q
  · rw [if_neg q]; exact h
theorem rdC_t {t : Nat → Nat} {L p : Nat} (h : (rdC t L p).2.1 = false) : p < L ∧ p + 1 ≤ (rdC t L p).1 ∧ ∃ x, formN (t p) = some x ∧ (rdC t L p).2.2.1 = numL x.2 := by
  unfold rdC at h ⊢
  by_cases q : p < L
  · rw [if_pos q] at h ⊢
    cases e : formN (t p) with
    | none => rw [e] at h; cases h
    | some x =>
      rw [e] at h
      refine ⟨q, ?_, x, rfl, ?_⟩
      · exact rdF_ge x.2 (p + 1, false, 0, V0)
      dsimp only at h ⊢
      rw [rdF_k x.2 _ h]
      exact Nat.zero_add _
  · rw [if_neg q] at h; cases h
theorem z_cmd {t : Nat → Nat} {L n p : Nat} {σ : Mm} (hL : L ≤ 60) (ht : ∀ j, j < L → t j < 65536) (hp : p ≤ L) (hn : p < L → n < 30) (hn2 : n < 60) (h3 : σ 162 3 = I L) (h4 : σ 162 4 = I p) (h5 : σ 162 5 = I n) (hs : ∀ j, j < L → σ 163 j = I (t j)) :
    ∃ τ, f_X0_readCommand σ = some (if (rdC t L p).2.1 = true then 0 else 1, τ) ∧ τ 162 3 = I L ∧ τ 162 4 = I (rdC t L p).1 ∧ (∀ j, j < L → τ 163 j = I (t j)) ∧ ((rdC t L p).2.1 = false → τ 162 5 = I (n + 1) ∧ τ 164 n = I (t p) ∧ ∀ i, i < (rdC t L p).2.2.1 → τ (166 + n) i = (rdC t L p).2.2.2 i) ∧ (∀ i, i ≠ n → τ 164 i = σ 164 i) ∧ ∀ a, a ≠ 162 → a ≠ 164 → (p < L → a ≠ 166 + n) → τ a = σ a := by
  unfold f_X0_readCommand
  rw [h3, h4, h5]
  by_cases q : p < L
  · have n30 := hn q
    have e0 : rdC t L p = (match formN (t p) with | some x => rdF t L x.2 (p + 1, false, 0, V0) | none => (p, true, 0, V0)) := by unfold rdC; rw [if_pos q]
    rw [if_neg (nle q (by omega)), if_pos (show I n < 30 from (I_lt (b := 30) (by omega) (by omega)).mpr n30), gd_I (by omega) (by omega), I_clamp (by omega), hs p q, lt_d, z_form (ht p q), bnd_d]
    cases e : formN (t p) with
    | none =>
      rw [e] at e0
      rw [e0]
      dsimp only
      rw [oc_d, if_pos rfl]
      exact ⟨σ, rfl, h3, h4, hs, fun z => (by cases z), fun _ _ => rfl, fun _ _ _ _ => rfl⟩
    | some x =>
      rw [e] at e0
      dsimp only at e0 ⊢
      obtain ⟨g1, g2, g3, g4, g5, g6⟩ := form_ok e
      rw [oc_e, gd_I n30 (by omega), I_clamp (by omega), nar_ch (ht p q), lt_d, lt_d, up_e, upd_n _ _ (show 4 ≠ 6 by omega), up_n _ _ _ (show 162 ≠ 164 by omega), h4, I_a1, lt_d]
      obtain ⟨σ8, hσ⟩ : ∃ s, s = up (up (up σ 164 n (I (t p))) 162 6 0) 162 4 (I (p + 1)) := ⟨_, rfl⟩
      rw [← hσ]
      have f162 : ∀ k, k ≠ 4 → k ≠ 6 → σ8 162 k = σ 162 k := fun k z1 z2 => by rw [hσ, up_e, upd_n _ _ z1, up_e, upd_n _ _ z2, up_n _ _ _ (by omega)]
      have fo : ∀ a, a ≠ 162 → a ≠ 164 → σ8 a = σ a := fun a z1 z2 => by rw [hσ, up_n _ _ _ z1, up_n _ _ _ z1, up_n _ _ _ z2]
      have f164 : σ8 164 = upd (σ 164) n (I (t p)) := by rw [hσ, up_n _ _ _ (by omega), up_n _ _ _ (by omega), up_e]
      have Z : CZ t L n (p + 1, false, 0, V0) σ8 := ⟨by rw [f162 3 (by omega) (by omega)]; exact h3, by rw [hσ, up_e, upd_e], by rw [f162 5 (by omega) (by omega)]; exact h5, fun _ => ⟨by rw [hσ, up_e, upd_n _ _ (by omega), up_e, upd_e]; rfl, fun i hi => absurd hi (Nat.not_lt_zero _)⟩, fun j hj => by rw [fo 163 (by omega) (by omega)]; exact hs j hj⟩
      obtain ⟨τ, t1, t2, t3, t4⟩ := z_loop (j := x.1) (x3 := I (t p)) hL ht n30 (by omega) x.2 0 8 (p + 1, false, 0, V0) σ8 (by omega) (fun q hq => by rw [Nat.zero_add]; exact g3 q hq) g4 (by omega) rfl (show p + 1 ≤ L by omega) (by show 0 + numL x.2 ≤ 3; omega) Z
      obtain ⟨u3, u4, u5, u6, us⟩ := t2
      rw [show f_X0_readCommand_l70 x.1 (I (t p)) 8 0 σ8 = _ from t1, e0]
      have k164 : ∀ i, i ≠ n → τ 164 i = σ 164 i := fun i hi => by rw [t3 164 (by omega) (by omega), f164, upd_n _ _ hi]
      have kn : τ 164 n = I (t p) := by rw [t3 164 (by omega) (by omega), f164, upd_e]
      by_cases w : (rdF t L x.2 (p + 1, false, 0, V0)).2.1 = true
      · rw [if_pos w, if_pos w]
        exact ⟨τ, rfl, u3, u4, us, fun z => (by rw [w] at z; cases z), k164, fun a z1 z2 z3 => by rw [t3 a z1 (z3 q), fo a z1 z2]⟩
      · rw [if_neg w, if_neg w]
        have w' : (rdF t L x.2 (p + 1, false, 0, V0)).2.1 = false := by cases z : (rdF t L x.2 (p + 1, false, 0, V0)).2.1 with | false => rfl | true => exact absurd z w
        refine ⟨_, rfl, by rw [up_e, upd_n _ _ (by omega)]; exact u3, by rw [up_e, upd_n _ _ (by omega)]; exact u4, fun j hj => by rw [up_n _ _ _ (by omega)]; exact us j hj, fun _ => ⟨by rw [up_e, upd_e], by rw [up_n _ _ _ (by omega)]; exact kn, fun i hi => by rw [up_n _ _ _ (by omega)]; exact (u6 w').2 i hi⟩, fun i hi => by rw [up_n _ _ _ (by omega)]; exact k164 i hi, fun a z1 z2 z3 => by rw [up_n _ _ _ z1, t3 a z1 (z3 q), fo a z1 z2]⟩
  · have e0 : rdC t L p = (p, true, 0, V0) := by unfold rdC; rw [if_neg q]
    rw [if_pos ((I_le (by omega) (by omega)).mpr (by omega)), e0, if_pos rfl]
    exact ⟨σ, rfl, h3, h4, hs, fun z => (by cases z), fun _ _ => rfl, fun _ _ _ _ => rfl⟩
abbrev Cs : Type := Nat → Nat × Nat × (Nat → Int32)
def sn (C : Cs) (n : Nat) (x : Nat × Nat × (Nat → Int32)) : Cs := fun i => if i = n then x else C i
def rdT (t : Nat → Nat) (L : Nat) : Nat → Nat → Nat → Cs → Nat × Bool × Nat × Cs
  | 0, p, n, C => (p, true, n, C)
  | m + 1, p, n, C => if p < L then (if t p = 59 then (if (rdC t L (p + 1)).2.1 = true then ((rdC t L (p + 1)).1, true, n, C) else rdT t L m (rdC t L (p + 1)).1 (n + 1) (sn C n (t (p + 1), (rdC t L (p + 1)).2.2))) else (p, true, n, C)) else (p, false, n, C)
def C0 : Cs := fun _ => (0, 0, V0)
def rdA (t : Nat → Nat) (L : Nat) : Nat × Bool × Nat × Cs := if (rdC t L 0).2.1 = true then ((rdC t L 0).1, true, 0, C0) else rdT t L 62 (rdC t L 0).1 1 (sn C0 0 (t 0, (rdC t L 0).2.2))
def CM (n : Nat) (C : Cs) (σ : Mm) : Prop := ∀ i, i < n → σ 164 i = I (C i).1 ∧ ∀ j, j < (C i).2.1 → σ (166 + i) j = (C i).2.2 j
theorem CM.add {n : Nat} {C : Cs} {σ τ : Mm} {x : Nat × Nat × (Nat → Int32)} (hn : n < 30) (h : CM n C σ) (e1 : ∀ i, i ≠ n → τ 164 i = σ 164 i) (e2 : ∀ a, 166 ≤ a → a ≠ 166 + n → τ a = σ a) (e3 : τ 164 n = I x.1) (e4 : ∀ j, j < x.2.1 → τ (166 + n) j = x.2.2 j) : CM (n + 1) (sn C n x) τ := by
  intro i hi
  unfold sn
  by_cases e : i = n
  · subst e; rw [if_pos rfl]; exact ⟨e3, e4⟩
  · rw [if_neg e, e1 i e, e2 _ (by omega) (by omega)]
    exact h i (by omega)
theorem z_rest {t : Nat → Nat} {L : Nat} {K : Int32 → Int32 → Mm → Option (Int32 × Mm)} (hL : L ≤ 60) (ht : ∀ j, j < L → t j < 65536) : ∀ (m p r F : Nat) (C : Cs) (σ : Mm), 2 * r + 1 ≤ p → p ≤ L → L + 2 ≤ p + 2 * m → m + 2 ≤ F → σ 162 3 = I L → σ 162 4 = I p → σ 162 5 = I (r + 1) → (∀ j, j < L → σ 163 j = I (t j)) → CM (r + 1) C σ →
    ∃ v τ, f_X0_takeCommands_l17 K F (I r) 1 σ = K v (if (rdT t L m p (r + 1) C).2.1 = true then 0 else 1) τ ∧ τ 162 4 = I (rdT t L m p (r + 1) C).1 ∧ ((rdT t L m p (r + 1) C).2.1 = false → τ 162 5 = I (rdT t L m p (r + 1) C).2.2.1 ∧ CM (rdT t L m p (r + 1) C).2.2.1 (rdT t L m p (r + 1) C).2.2.2 τ) ∧ ∀ a, a ≠ 162 → a ≠ 164 → a < 166 ∨ 196 ≤ a → τ a = σ a := by
  intro m
  induction m with
  | zero => intro p r F C σ _ h2 h3; omega
  | succ m ih =>
    intro p r F C σ h1 h2 hm hF h3 h4 h5 hs hC
    obtain ⟨F, rfl⟩ : ∃ k, F = k + 2 := ⟨F - 2, by omega⟩
    have stop : ∀ (v : Int32) (τ : Mm), f_X0_takeCommands_l17 K (F + 1) v 0 τ = K v 0 τ := fun v τ => by
      rw [f_X0_takeCommands_l17]
      by_cases z : (60 : Int32) ≤ v
      · rw [if_pos z]
      · rw [if_neg z, if_pos rfl]
    rw [f_X0_takeCommands_l17, if_neg (show ¬ (60 : Int32) ≤ I r from nle (N := 60) (by omega) (by omega)), if_neg one_ne, h3, h4]
    by_cases q : p < L
    · rw [if_neg (nle q (by omega)), show f_X0_takeSign 59 σ = some (if p < L ∧ t p = 59 then (1, up σ 162 4 (I (p + 1))) else (0, σ)) from z_take hL ht h2 59 (by omega) h3 h4 hs]
      by_cases q2 : t p = 59
      · rw [if_pos ⟨q, q2⟩, bnm_d, if_neg one_ne]
        obtain ⟨τ, t1, t3, t4, t5, t6, t7, t8⟩ := z_cmd (t := t) (L := L) (n := r + 1) (p := p + 1) (σ := up σ 162 4 (I (p + 1))) hL ht (by omega) (fun z => by omega) (by omega) (by rw [up_e, upd_n _ _ (by omega)]; exact h3) (by rw [up_e, upd_e]) (by rw [up_e, upd_n _ _ (by omega)]; exact h5) (fun j hj => by rw [up_n _ _ _ (by omega)]; exact hs j hj)
        rw [t1, bnm_d]
        by_cases w : (rdC t L (p + 1)).2.1 = true
        · have e0 : rdT t L (m + 1) p (r + 1) C = ((rdC t L (p + 1)).1, true, r + 1, C) := by rw [rdT, if_pos q, if_pos q2, if_pos w]
          rw [if_pos w, if_pos rfl, lt_d, stop, e0, if_pos rfl]
          refine ⟨_, τ, rfl, t4, fun z => (by cases z), fun a z1 z2 z3 => by rw [t8 a z1 z2 (fun _ => by omega), up_n _ _ _ z1]⟩
        · have w' : (rdC t L (p + 1)).2.1 = false := by cases z : (rdC t L (p + 1)).2.1 with | false => rfl | true => exact absurd z w
          have e0 : rdT t L (m + 1) p (r + 1) C = rdT t L m (rdC t L (p + 1)).1 (r + 1 + 1) (sn C (r + 1) (t (p + 1), (rdC t L (p + 1)).2.2)) := by rw [rdT, if_pos q, if_pos q2, if_neg w]
          obtain ⟨y1, y2, -⟩ := rdC_t w'
          obtain ⟨t6a, t6b, t6c⟩ := t6 w'
          rw [if_neg w, if_neg one_ne, I_a1, lt_d, e0]
          obtain ⟨v, ρ, u1, u2, u3, u4⟩ := ih (rdC t L (p + 1)).1 (r + 1) (F + 1) (sn C (r + 1) (t (p + 1), (rdC t L (p + 1)).2.2)) τ (by omega) (rdC_le (by omega)) (by omega) (by omega) t3 t4 t6a t5 (CM.add (by omega) hC (fun i hi => by rw [t7 i hi, up_n _ _ _ (by omega)]) (fun a z1 z2 => by rw [t8 a (by omega) (by omega) (fun _ => z2), up_n _ _ _ (by omega)]) t6b t6c)
          exact ⟨v, ρ, u1, u2, u3, fun a z1 z2 z3 => by rw [u4 a z1 z2 z3, t8 a z1 z2 (fun _ => by omega), up_n _ _ _ z1]⟩
      · have e0 : rdT t L (m + 1) p (r + 1) C = (p, true, r + 1, C) := by rw [rdT, if_pos q, if_neg q2]
        rw [if_neg (fun z => q2 z.2), bnm_d, if_pos rfl, lt_d, stop, e0, if_pos rfl]
        exact ⟨_, σ, rfl, h4, fun z => (by cases z), fun _ _ _ _ => rfl⟩
    · have e0 : rdT t L (m + 1) p (r + 1) C = (p, false, r + 1, C) := by rw [rdT, if_neg q]
      rw [if_pos ((I_le (by omega) (by omega)).mpr (by omega)), e0, if_neg ff]
      exact ⟨_, σ, rfl, h4, fun _ => ⟨h5, hC⟩, fun _ _ _ _ => rfl⟩
theorem z_all {t : Nat → Nat} {L : Nat} {σ : Mm} (hL : L ≤ 60) (ht : ∀ j, j < L → t j < 65536) (h3 : σ 162 3 = I L) (hs : ∀ j, j < L → σ 163 j = I (t j)) :
    ∃ τ, f_X0_takeCommands σ = some (if (rdA t L).2.1 = true then 0 else 1, τ) ∧ τ 162 3 = 0 ∧ τ 162 7 = (if (rdA t L).2.1 = true then I (rdA t L).1 else -1) ∧ ((rdA t L).2.1 = false → τ 162 5 = I (rdA t L).2.2.1 ∧ CM (rdA t L).2.2.1 (rdA t L).2.2.2 τ) ∧ ∀ a, a ≠ 162 → a ≠ 164 → a < 166 ∨ 196 ≤ a → τ a = σ a := by
  have fin : ∀ (v5 v6 : Int32) (τ : Mm) (p n : Nat) (C : Cs) (w : Bool), v6 = (if w = true then 0 else 1) → τ 162 4 = I p → (w = false → τ 162 5 = I n ∧ CM n C τ) → (∀ a, a ≠ 162 → a ≠ 164 → a < 166 ∨ 196 ≤ a → τ a = σ a) →
      ∃ ρ, (if v6 = 0 then (lt (up τ 162 7 (τ 162 4)) fun σ10 => lt (up σ10 162 3 0) fun σ11 => bz v6 (some (v6, σ11))) else (lt (up τ 162 7 (-1)) fun σ12 => lt (up σ12 162 3 0) fun σ13 => bz v6 (some (v6, σ13)))) = some (if w = true then 0 else 1, ρ) ∧ ρ 162 3 = 0 ∧ ρ 162 7 = (if w = true then I p else -1) ∧ (w = false → ρ 162 5 = I n ∧ CM n C ρ) ∧ ∀ a, a ≠ 162 → a ≠ 164 → a < 166 ∨ 196 ≤ a → ρ a = σ a := by
    intro v5 v6 τ p n C w e h4 hC hf
    subst e
    cases w with
    | true =>
      rw [if_pos rfl, if_pos rfl, h4, lt_d, lt_d, bz_i0]
      exact ⟨_, rfl, by rw [up_e, upd_e], by rw [up_e, upd_n _ _ (by omega), up_e, upd_e, if_pos rfl], fun z => (by cases z), fun a z1 z2 z3 => by rw [up_n _ _ _ z1, up_n _ _ _ z1, hf a z1 z2 z3]⟩
    | false =>
      obtain ⟨c1, c2⟩ := hC rfl
      rw [if_neg ff, if_neg one_ne, lt_d, lt_d, bz_i1]
      exact ⟨_, rfl, by rw [up_e, upd_e], by rw [up_e, upd_n _ _ (by omega), up_e, upd_e, if_neg ff], fun _ => ⟨by rw [up_e, upd_n _ _ (by omega), up_e, upd_n _ _ (by omega)]; exact c1, fun i hi => by rw [up_n _ _ _ (by omega), up_n _ _ _ (by omega), up_n _ _ _ (by omega), up_n _ _ _ (by omega)]; exact c2 i hi⟩, fun a z1 z2 z3 => by rw [up_n _ _ _ z1, up_n _ _ _ z1, hf a z1 z2 z3]⟩
  unfold f_X0_takeCommands
  obtain ⟨σ2, hσ⟩ : ∃ s, s = up (up σ 162 4 0) 162 5 0 := ⟨_, rfl⟩
  rw [lt_d, lt_d, ← hσ]
  have f0 : ∀ a, a ≠ 162 → σ2 a = σ a := fun a z => by rw [hσ, up_n _ _ _ z, up_n _ _ _ z]
  obtain ⟨τ, t1, t3, t4, t5, t6, t7, t8⟩ := z_cmd (t := t) (L := L) (n := 0) (p := 0) (σ := σ2) hL ht (by omega) (fun z => by omega) (by omega) (by rw [hσ, up_e, upd_n _ _ (by omega), up_e, upd_n _ _ (by omega)]; exact h3) (by rw [hσ, up_e, upd_n _ _ (by omega), up_e, upd_e]; rfl) (by rw [hσ, up_e, upd_e]; rfl) (fun j hj => by rw [f0 163 (by omega)]; exact hs j hj)
  rw [t1, bnm_d, lt_d]
  by_cases w : (rdC t L 0).2.1 = true
  · have e0 : rdA t L = ((rdC t L 0).1, true, 0, C0) := by unfold rdA; rw [if_pos w]
    rw [if_pos w, f_X0_takeCommands_l17, if_neg (show ¬ (60 : Int32) ≤ 0 by decide), if_pos rfl, e0]
    exact fin 0 0 τ (rdC t L 0).1 0 C0 true rfl t4 (fun z => (by cases z)) (fun a z1 z2 z3 => by rw [t8 a z1 z2 (fun _ => by omega), f0 a z1])
  · have w' : (rdC t L 0).2.1 = false := by cases z : (rdC t L 0).2.1 with | false => rfl | true => exact absurd z w
    have e0 : rdA t L = rdT t L 62 (rdC t L 0).1 1 (sn C0 0 (t 0, (rdC t L 0).2.2)) := by unfold rdA; rw [if_neg w]
    obtain ⟨y1, y2, -⟩ := rdC_t w'
    obtain ⟨t6a, t6b, t6c⟩ := t6 w'
    rw [if_neg w, e0]
    have hC : CM 1 (sn C0 0 (t 0, (rdC t L 0).2.2)) τ := CM.add (σ := σ2) (n := 0) (C := C0) (by omega) (fun i hi => absurd hi (Nat.not_lt_zero _)) t7 (fun a z1 z2 => t8 a (by omega) (by omega) (fun _ => z2)) t6b t6c
    obtain ⟨v, ρ, u1, u2, u3, u4⟩ := z_rest (K := fun v5 v6 σ7 => if v6 = 0 then (lt (up σ7 162 7 (σ7 162 4)) fun σ10 => lt (up σ10 162 3 0) fun σ11 => bz v6 (some (v6, σ11))) else (lt (up σ7 162 7 (-1)) fun σ12 => lt (up σ12 162 3 0) fun σ13 => bz v6 (some (v6, σ13)))) hL ht 62 (rdC t L 0).1 0 64 (sn C0 0 (t 0, (rdC t L 0).2.2)) τ (by omega) (rdC_le (by omega)) (by omega) (by omega) t3 t4 t6a t5 hC
    rw [show f_X0_takeCommands_l17 _ 64 0 1 τ = _ from u1]
    exact fin v _ ρ _ _ _ _ rfl u2 u3 (fun a z1 z2 z3 => by rw [u4 a z1 z2 z3, t8 a z1 z2 (fun _ => by omega), f0 a z1])
