/-! TEXTS: what a reader makes of them -/
/-- a digit stands at p -/
def dgt (t : Nat → Nat) (L p : Nat) : Bool := decide (p < L) && (decide (48 ≤ t p) && decide (t p ≤ 57))
theorem dgt_t {t : Nat → Nat} {L p : Nat} : dgt t L p = true ↔ p < L ∧ 48 ≤ t p ∧ t p ≤ 57 := by
  unfold dgt
  rw [Bool.and_eq_true, Bool.and_eq_true, decide_eq_true_iff, decide_eq_true_iff, decide_eq_true_iff]
/-- where a reader stands: the place, whether it is wrong, how many numbers it has, which -/
abbrev Rd : Type := Nat × Bool × Nat × (Nat → Int32)
def rdD (t : Nat → Nat) (L : Nat) (s : Rd) : Rd := if s.2.1 = true then s else if dgt t L s.1 = true then (s.1 + 1, false, s.2.2.1 + 1, upd s.2.2.2 s.2.2.1 (I (t s.1 - 48))) else (s.1, true, s.2.2.1, s.2.2.2)
def rdN (t : Nat → Nat) (L : Nat) (s : Rd) : Rd := if s.2.1 = true then s else if dgt t L s.1 = true then (if dgt t L (s.1 + 1) = true then (s.1 + 2, false, s.2.2.1 + 1, upd s.2.2.2 s.2.2.1 (I (10 * (t s.1 - 48) + (t (s.1 + 1) - 48)))) else (s.1 + 1, false, s.2.2.1 + 1, upd s.2.2.2 s.2.2.1 (I (t s.1 - 48)))) else (s.1, true, s.2.2.1, s.2.2.2)
def rdS (t : Nat → Nat) (L c : Nat) (s : Rd) : Rd := if s.2.1 = true then s else if s.1 < L ∧ t s.1 = c then (s.1 + 1, false, s.2.2.1, s.2.2.2) else (s.1, true, s.2.2.1, s.2.2.2)
def rdX (t : Nat → Nat) (L : Nat) (s : Rd) : Rd := if s.2.1 = true then s else if s.1 < L ∧ t s.1 = 120 then (s.1 + 1, false, s.2.2.1 + 1, upd s.2.2.2 s.2.2.1 (-1)) else rdN t L s
def dirN (c : Nat) : Option Nat := if c = 110 then some 0 else if c = 101 then some 1 else if c = 115 then some 2 else if c = 119 then some 3 else none
def rdW (t : Nat → Nat) (L : Nat) (s : Rd) : Rd := if s.2.1 = true then s else match (if s.1 < L then dirN (t s.1) else none) with
  | some d => (s.1 + 1, false, s.2.2.1 + 1, upd s.2.2.2 s.2.2.1 (I d))
  | none => (s.1, true, s.2.2.1, s.2.2.2)
def rdP (t : Nat → Nat) (L c : Nat) (s : Rd) : Rd := if c = 68 then rdD t L s else if c = 78 then rdN t L s else if c = 87 then rdW t L s else if c = 88 then rdX t L s else rdS t L c s
def rdF (t : Nat → Nat) (L : Nat) : List Nat → Rd → Rd
  | [], s => s
  | c :: r, s => rdF t L r (rdP t L c s)
theorem rdP_w (t : Nat → Nat) (L c : Nat) (s : Rd) (h : s.2.1 = true) : rdP t L c s = s := by
  unfold rdP rdD rdN rdW rdX rdS
  simp [h]
theorem rdF_w (t : Nat → Nat) (L : Nat) (l : List Nat) (s : Rd) (h : s.2.1 = true) : rdF t L l s = s := by
  induction l with
  | nil => rfl
  | cons c r ih => unfold rdF; rw [rdP_w t L c s h, ih]
def isNum (c : Nat) : Bool := c == 68 || c == 78 || c == 87 || c == 88
theorem rdP_le {t : Nat → Nat} {L c : Nat} {s : Rd} (h : s.1 ≤ L) : (rdP t L c s).1 ≤ L := by
  obtain ⟨p, w, k, V⟩ := s
  dsimp only at h
  have d : ∀ q, dgt t L q = true → q < L := fun q z => (dgt_t.mp z).1
  have eD : (rdD t L (p, w, k, V)).1 ≤ L := by
    unfold rdD; dsimp only
    split
    · exact h
    · split
      · rename_i z; have := d _ z; show p + 1 ≤ L; omega
      · exact h
  have eN : (rdN t L (p, w, k, V)).1 ≤ L := by
    unfold rdN; dsimp only
    split
    · exact h
    · split
      · split
        · rename_i z; have := d _ z; show p + 2 ≤ L; omega
        · rename_i z _; have := d _ z; show p + 1 ≤ L; omega
      · exact h
  have eS : (rdS t L c (p, w, k, V)).1 ≤ L := by
    unfold rdS; dsimp only
    split
    · exact h
    · split
      · rename_i z; show p + 1 ≤ L; omega
      · exact h
  have eX : (rdX t L (p, w, k, V)).1 ≤ L := by
    unfold rdX; dsimp only
    split
    · exact h
    · split
      · rename_i z; show p + 1 ≤ L; omega
      · exact eN
  have eW : (rdW t L (p, w, k, V)).1 ≤ L := by
    unfold rdW; dsimp only
    split
    · exact h
    · by_cases z : p < L
      · rw [if_pos z]
        cases dirN (t p) with
        | none => exact h
        | some d => show p + 1 ≤ L; omega
      · rw [if_neg z]; exact h
  unfold rdP
  repeat' split
  all_goals assumption
/-! the class's reader -/
def CZ (t : Nat → Nat) (L n : Nat) (s : Rd) (σ : Mm) : Prop := σ 162 3 = I L ∧ σ 162 4 = I s.1 ∧ σ 162 5 = I n ∧ (s.2.1 = false → σ 162 6 = I s.2.2.1 ∧ ∀ i, i < s.2.2.1 → σ (166 + n) i = s.2.2.2 i) ∧ ∀ j, j < L → σ 163 j = I (t j)
def frC (n : Nat) (σ τ : Mm) : Prop := (∀ a, a ≠ 162 → a ≠ 166 + n → τ a = σ a) ∧ ∀ k, k ≠ 4 → k ≠ 6 → τ 162 k = σ 162 k
theorem frC.refl (n : Nat) (σ : Mm) : frC n σ σ := ⟨fun _ _ _ => rfl, fun _ _ _ => rfl⟩
theorem frC.trans {n : Nat} {σ τ ρ : Mm} (h : frC n σ τ) (g : frC n τ ρ) : frC n σ ρ := ⟨fun a h1 h2 => (g.1 a h1 h2).trans (h.1 a h1 h2), fun k h1 h2 => (g.2 k h1 h2).trans (h.2 k h1 h2)⟩
section
variable {t : Nat → Nat} {L n p k : Nat} {w : Bool} {V : Nat → Int32} {σ : Mm}
theorem z_digit (hL : L ≤ 60) (hp : p ≤ L) (ht : ∀ j, j < L → t j < 65536) (h3 : σ 162 3 = I L) (h4 : σ 162 4 = I p) (hs : ∀ j, j < L → σ 163 j = I (t j)) : f_X0_isAtDigit σ = some (if dgt t L p = true then 1 else 0) := by
  unfold f_X0_isAtDigit
  rw [h3, h4]
  by_cases q : L ≤ p
  · rw [if_pos ((I_le (by omega) (by omega)).mpr q), if_neg (fun z => by have := (dgt_t.mp z).1; omega)]
  · have tp := ht p (by omega)
    rw [if_neg (fun z => q ((I_le (by omega) (by omega)).mp z)), gd_I (by omega) (by omega), gd_I (by omega) (by omega), I_clamp (by omega), hs p (by omega)]
    by_cases q1 : t p < 48
    · rw [if_pos (show I (t p) < 48 from (I_lt (b := 48) (by omega) (by omega)).mpr q1), if_neg (fun z => by have := (dgt_t.mp z).2.1; omega)]
    · rw [if_neg (show ¬ I (t p) < 48 from fun z => q1 ((I_lt (b := 48) (by omega) (by omega)).mp z))]
      by_cases q2 : 57 < t p
      · rw [if_pos (show (57 : Int32) < I (t p) from (I_lt (a := 57) (by omega) (by omega)).mpr q2), if_neg (fun z => by have := (dgt_t.mp z).2.2; omega)]
      · rw [if_neg (show ¬ (57 : Int32) < I (t p) from fun z => q2 ((I_lt (a := 57) (by omega) (by omega)).mp z)), if_pos (dgt_t.mpr ⟨by omega, by omega, by omega⟩)]
theorem z_keep (hn : n < 30) (hk : k < 3) (x : Int32) (h5 : σ 162 5 = I n) (h6 : σ 162 6 = I k) : f_X0_keepNumber x σ = some (1, up (up σ (166 + n) k x) 162 6 (I (k + 1))) := by
  unfold f_X0_keepNumber
  rw [h5, h6, if_neg (show ¬ (30 : Int32) ≤ I n from nle (N := 30) hn (by omega)), if_pos (show I k < 3 from (I_lt (b := 3) (by omega) (by omega)).mpr hk), gd_I hn (by omega), gd_I hk (by omega), I_clamp (by omega), I_clamp (by omega), lt_d, up_n _ _ _ (by omega), h6, I_a1, lt_d]
theorem z_take (hL : L ≤ 60) (ht : ∀ j, j < L → t j < 65536) (hp : p ≤ L) (c : Nat) (hc : c < 65536) (h3 : σ 162 3 = I L) (h4 : σ 162 4 = I p) (hs : ∀ j, j < L → σ 163 j = I (t j)) : f_X0_takeSign (I c) σ = some (if p < L ∧ t p = c then (1, up σ 162 4 (I (p + 1))) else (0, σ)) := by
  unfold f_X0_takeSign
  rw [h3, h4]
  by_cases q : L ≤ p
  · rw [if_pos ((I_le (by omega) (by omega)).mpr q), if_neg (fun z => by omega)]
  · have tp := ht p (by omega)
    rw [if_neg (fun z => q ((I_le (by omega) (by omega)).mp z)), gd_I (by omega) (by omega), I_clamp (by omega), hs p (by omega)]
    by_cases q1 : t p = c
    · have q2 : p < L ∧ t p = c := ⟨by omega, q1⟩
      rw [if_pos (by rw [q1]), if_pos q2, I_a1, lt_d]
    · rw [if_neg (I_beq (by omega) (by omega) q1), if_neg (fun z => q1 z.2)]
/-- a number read: kept -/
theorem z_kept (hn : n < 30) (hk : k < 3) {p1 : Nat} (x : Int32) (h3 : σ 162 3 = I L) (h5 : σ 162 5 = I n) (h6 : σ 162 6 = I k) (hV : ∀ i, i < k → σ (166 + n) i = V i) (hs : ∀ j, j < L → σ 163 j = I (t j)) (h4 : σ 162 4 = I p1) :
    ∃ τ, f_X0_keepNumber x σ = some (1, τ) ∧ CZ t L n (p1, false, k + 1, upd V k x) τ ∧ frC n σ τ := by
  refine ⟨_, z_keep hn hk x h5 h6, ⟨?_, ?_, ?_, fun _ => ⟨?_, fun i hi => ?_⟩, fun j hj => ?_⟩, fun a h1 h2 => ?_, fun j h1 h2 => ?_⟩
  · rw [up_e, upd_n _ _ (by omega), up_n _ _ _ (by omega)]; exact h3
  · rw [up_e, upd_n _ _ (by omega), up_n _ _ _ (by omega)]; exact h4
  · rw [up_e, upd_n _ _ (by omega), up_n _ _ _ (by omega)]; exact h5
  · rw [up_e, upd_e]
  · rw [up_n _ _ _ (by omega), up_e]
    dsimp only at hi ⊢
    by_cases e : i = k
    · rw [e, upd_e, upd_e]
    · rw [upd_n _ _ e, upd_n _ _ e]; exact hV i (by omega)
  · rw [up_n _ _ _ (by omega), up_n _ _ _ (by omega)]; exact hs j hj
  · rw [up_n _ _ _ h1, up_n _ _ _ h2]
  · rw [up_e, upd_n _ _ h2, up_n _ _ _ (by omega)]
theorem sub48 {a : Nat} (h : 48 ≤ a) : I a - 48 = I (a - 48) := I_sub (b := 48) h
theorem z_numD (hL : L ≤ 60) (ht : ∀ j, j < L → t j < 65536) (hp : p ≤ L) (hn : n < 30) (hk : k < 3) (Z : CZ t L n (p, false, k, V) σ) :
    ∃ τ, f_X0_readNumber 1 σ = some (if (rdD t L (p, false, k, V)).2.1 = true then 0 else 1, τ) ∧ CZ t L n (rdD t L (p, false, k, V)) τ ∧ frC n σ τ := by
  obtain ⟨h3, h4, h5, h6, hs⟩ := id Z
  obtain ⟨h6, hV⟩ := h6 rfl
  unfold f_X0_readNumber rdD
  rw [z_digit hL hp ht h3 h4 hs, bnd_d]
  dsimp only
  rw [if_neg (show ¬ false = true by decide)]
  by_cases q : dgt t L p = true
  · obtain ⟨q1, q2, q3⟩ := dgt_t.mp q
    rw [if_pos q, if_neg one_ne, if_pos q]
    dsimp only
    rw [if_neg (show ¬ false = true by decide), f_X0_readNumber_l13, if_neg (show ¬ (1 : Int32) ≤ 0 by decide), z_digit hL hp ht h3 h4 hs, bnd_d, if_pos q, if_neg one_ne, h4, gd_I (by omega) (by omega), I_clamp (by omega), hs p q1, show (0 : Int32) * 10 + I (t p) = I (t p) from by rw [show (0 : Int32) * 10 = 0 from rfl, Int32.zero_add], sub48 q2, lt_d, I_a1, lt_d, lt_d, f_X0_readNumber_l13, if_pos (show (1 : Int32) ≤ 0 + 1 by decide)]
    obtain ⟨τ, t1, t2, t3⟩ := z_kept (t := t) (L := L) (V := V) (p1 := p + 1) (σ := up σ 162 4 (I (p + 1))) hn hk (I (t p - 48)) (by rw [up_e, upd_n _ _ (by omega)]; exact h3) (by rw [up_e, upd_n _ _ (by omega)]; exact h5) (by rw [up_e, upd_n _ _ (by omega)]; exact h6) (fun i hi => by rw [up_n _ _ _ (by omega)]; exact hV i hi) (fun j hj => by rw [up_n _ _ _ (by omega)]; exact hs j hj) (by rw [up_e, upd_e])
    rw [t1, bnm_d, bz_i1]
    exact ⟨τ, rfl, t2, frC.trans ⟨fun a z _ => up_n _ _ _ z, fun j z _ => by rw [up_e, upd_n _ _ z]⟩ t3⟩
  · rw [if_neg q, if_pos rfl, if_neg q]
    exact ⟨σ, rfl, ⟨h3, h4, h5, fun z => (by cases z), hs⟩, frC.refl n σ⟩
theorem z_numN (hL : L ≤ 60) (ht : ∀ j, j < L → t j < 65536) (hp : p ≤ L) (hn : n < 30) (hk : k < 3) (Z : CZ t L n (p, false, k, V) σ) :
    ∃ τ, f_X0_readNumber 2 σ = some (if (rdN t L (p, false, k, V)).2.1 = true then 0 else 1, τ) ∧ CZ t L n (rdN t L (p, false, k, V)) τ ∧ frC n σ τ := by
  obtain ⟨h3, h4, h5, h6, hs⟩ := id Z
  obtain ⟨h6, hV⟩ := h6 rfl
  unfold f_X0_readNumber rdN
  rw [z_digit hL hp ht h3 h4 hs, bnd_d]
  dsimp only
  rw [if_neg (show ¬ false = true by decide)]
  by_cases q : dgt t L p = true
  · obtain ⟨q1, q2, q3⟩ := dgt_t.mp q
    obtain ⟨σ1, hσ1⟩ : ∃ σ1, σ1 = up σ 162 4 (I (p + 1)) := ⟨_, rfl⟩
    have a3 : σ1 162 3 = I L := by rw [hσ1, up_e, upd_n _ _ (by omega)]; exact h3
    have a4 : σ1 162 4 = I (p + 1) := by rw [hσ1, up_e, upd_e]
    have a5 : σ1 162 5 = I n := by rw [hσ1, up_e, upd_n _ _ (by omega)]; exact h5
    have a6 : σ1 162 6 = I k := by rw [hσ1, up_e, upd_n _ _ (by omega)]; exact h6
    have aV : ∀ i, i < k → σ1 (166 + n) i = V i := fun i hi => by rw [hσ1, up_n _ _ _ (by omega)]; exact hV i hi
    have as : ∀ j, j < L → σ1 163 j = I (t j) := fun j hj => by rw [hσ1, up_n _ _ _ (by omega)]; exact hs j hj
    have af : frC n σ σ1 := ⟨fun a z _ => by rw [hσ1]; exact up_n _ _ _ z, fun j z _ => by rw [hσ1, up_e, upd_n _ _ z]⟩
    rw [if_pos q, if_neg one_ne, if_pos q, f_X0_readNumber_l13, if_neg (show ¬ (2 : Int32) ≤ 0 by decide), z_digit hL hp ht h3 h4 hs, bnd_d, if_pos q, if_neg one_ne, h4, gd_I (by omega) (by omega), I_clamp (by omega), hs p q1, show (0 : Int32) * 10 + I (t p) = I (t p) from by rw [show (0 : Int32) * 10 = 0 from rfl, Int32.zero_add], sub48 q2, lt_d, I_a1, ← hσ1, lt_d, lt_d, f_X0_readNumber_l13, if_neg (show ¬ (2 : Int32) ≤ 0 + 1 by decide), z_digit hL (show p + 1 ≤ L by omega) ht a3 a4 as, bnd_d]
    by_cases r : dgt t L (p + 1) = true
    · obtain ⟨r1, r2, r3⟩ := dgt_t.mp r
      have ev : I (t p - 48) * 10 + I (t (p + 1)) - 48 = I (10 * (t p - 48) + (t (p + 1) - 48)) := by
        rw [show I (t p - 48) * 10 = I ((t p - 48) * 10) from I_mul _ 10, I_add, sub48 (by omega)]
        congr 1
        omega
      rw [if_pos r, if_neg one_ne, if_pos r, a4, gd_I (by omega) (by omega), I_clamp (by omega), as (p + 1) r1, ev, lt_d, I_a1, lt_d, lt_d, f_X0_readNumber_l13, if_pos (show (2 : Int32) ≤ 0 + 1 + 1 by decide)]
      obtain ⟨τ, t1, t2, t3⟩ := z_kept (t := t) (L := L) (V := V) (p1 := p + 1 + 1) (σ := up σ1 162 4 (I (p + 1 + 1))) hn hk (I (10 * (t p - 48) + (t (p + 1) - 48))) (by rw [up_e, upd_n _ _ (by omega)]; exact a3) (by rw [up_e, upd_n _ _ (by omega)]; exact a5) (by rw [up_e, upd_n _ _ (by omega)]; exact a6) (fun i hi => by rw [up_n _ _ _ (by omega)]; exact aV i hi) (fun j hj => by rw [up_n _ _ _ (by omega)]; exact as j hj) (by rw [up_e, upd_e])
      rw [t1, bnm_d, bz_i1]
      exact ⟨τ, rfl, t2, af.trans (frC.trans ⟨fun a z _ => up_n _ _ _ z, fun j z _ => by rw [up_e, upd_n _ _ z]⟩ t3)⟩
    · rw [if_neg r, if_pos rfl, if_neg r]
      obtain ⟨τ, t1, t2, t3⟩ := z_kept (t := t) (L := L) (V := V) (p1 := p + 1) (σ := σ1) hn hk (I (t p - 48)) a3 a5 a6 aV as a4
      rw [t1, bnm_d, bz_i1]
      exact ⟨τ, rfl, t2, af.trans t3⟩
  · rw [if_neg q, if_pos rfl, if_neg q]
    exact ⟨σ, rfl, ⟨h3, h4, h5, fun z => (by cases z), hs⟩, frC.refl n σ⟩
end
