/-! TEXTS: the reference reads a command -/
def hv (t : Nat → Nat) (L p : Nat) : Int32 := if p < L then I (t p) else -1
def RZ (t : Nat → Nat) (L p : Nat) (w : Bool) (σ : Mm) : Prop := σ 198 17 = I L ∧ σ 198 16 = I p ∧ σ 198 18 = (if w = true then 1 else 0) ∧ p ≤ 60 ∧ ∀ j, j < L → σ 203 j = I (t j)
def frR (σ τ : Mm) : Prop := (∀ a, a ≠ 198 → τ a = σ a) ∧ ∀ k, k ≠ 16 → k ≠ 18 → τ 198 k = σ 198 k
theorem frR.trans {σ τ ρ : Mm} (h : frR σ τ) (g : frR τ ρ) : frR σ ρ := ⟨fun a h1 => (g.1 a h1).trans (h.1 a h1), fun k h1 h2 => (g.2 k h1 h2).trans (h.2 k h1 h2)⟩
section
variable {t : Nat → Nat} {L p : Nat} {w : Bool} {σ : Mm}
theorem r_here (hL : L ≤ 60) (Z : RZ t L p w σ) : f_X10_here σ = some (hv t L p) := by
  obtain ⟨h1, h2, h3, h4, h5⟩ := Z
  unfold f_X10_here hv
  rw [h1, h2]
  by_cases q : p < L
  · rw [if_neg (nle q (by omega)), gd_I (by omega) (by omega), I_clamp (by omega), h5 p q, if_pos q]
  · rw [if_pos ((I_le (by omega) (by omega)).mpr (by omega)), if_neg q]
theorem r_yes (Z : RZ t L p w σ) (hp : p < 60) : ∃ τ, f_X10_expects 1 σ = some τ ∧ RZ t L (if w = true then p else p + 1) w τ ∧ frR σ τ := by
  obtain ⟨h1, h2, h3, h4, h5⟩ := Z
  unfold f_X10_expects
  rw [h3]
  cases w with
  | true =>
    rw [if_pos rfl, if_neg one_ne, lt_d, up_e, upd_e, if_neg one_ne, upd_n _ _ (show 16 ≠ 18 by omega), h2, lt_d]
    refine ⟨_, rfl, ⟨by rw [up_e, upd_n _ _ (by omega), up_e, upd_n _ _ (by omega)]; exact h1, by rw [up_e, upd_e, I_a0]; rfl, by rw [up_e, upd_n _ _ (by omega), up_e, upd_e]; rfl, by rw [if_pos rfl]; exact h4, fun j hj => by rw [up_n _ _ _ (by omega), up_n _ _ _ (by omega)]; exact h5 j hj⟩, fun a z => by rw [up_n _ _ _ z, up_n _ _ _ z], fun k z1 z2 => by rw [up_e, upd_n _ _ z1, up_e, upd_n _ _ z2]⟩
  | false =>
    rw [if_neg ff, if_pos rfl, if_neg one_ne, lt_d, up_e, upd_e, if_pos rfl, upd_n _ _ (show 16 ≠ 18 by omega), h2, lt_d, I_a1]
    refine ⟨_, rfl, ⟨by rw [up_e, upd_n _ _ (by omega), up_e, upd_n _ _ (by omega)]; exact h1, by rw [up_e, upd_e, if_neg ff], by rw [up_e, upd_n _ _ (by omega), up_e, upd_e]; rfl, by rw [if_neg ff]; omega, fun j hj => by rw [up_n _ _ _ (by omega), up_n _ _ _ (by omega)]; exact h5 j hj⟩, fun a z => by rw [up_n _ _ _ z, up_n _ _ _ z], fun k z1 z2 => by rw [up_e, upd_n _ _ z1, up_e, upd_n _ _ z2]⟩
theorem r_not (Z : RZ t L p w σ) : ∃ τ, f_X10_expects 0 σ = some τ ∧ RZ t L p true τ ∧ frR σ τ := by
  obtain ⟨h1, h2, h3, h4, h5⟩ := Z
  have e : f_X10_expects 0 σ = some (up (up σ 198 18 1) 198 16 (I p)) := by
    unfold f_X10_expects
    rw [h3]
    cases w with
    | true => rw [if_pos rfl, if_neg one_ne, lt_d, up_e, upd_e, if_neg one_ne, upd_n _ _ (show 16 ≠ 18 by omega), h2, lt_d, I_a0, Nat.add_zero]
    | false => rw [if_neg ff, if_pos rfl, if_pos rfl, lt_d, up_e, upd_e, if_neg one_ne, upd_n _ _ (show 16 ≠ 18 by omega), h2, lt_d, I_a0, Nat.add_zero]
  refine ⟨_, e, ⟨by rw [up_e, upd_n _ _ (by omega), up_e, upd_n _ _ (by omega)]; exact h1, by rw [up_e, upd_e], by rw [up_e, upd_n _ _ (by omega), up_e, upd_e]; rfl, h4, fun j hj => by rw [up_n _ _ _ (by omega), up_n _ _ _ (by omega)]; exact h5 j hj⟩, fun a z => by rw [up_n _ _ _ z, up_n _ _ _ z], fun k z1 z2 => by rw [up_e, upd_n _ _ z1, up_e, upd_n _ _ z2]⟩
theorem r_isd (hL : L ≤ 60) (ht : ∀ j, j < L → t j < 65536) (σ : Mm) : f_X10_in (hv t L p).toInt64 48 57 σ = some (if dgt t L p = true then 1 else 0) := by
  rw [n_in (lo := 48) (hi := 57) (L := 48) (H := 57) rfl rfl]
  congr 1
  unfold hv
  by_cases q : p < L
  · rw [if_pos q]
    have := ht p q
    by_cases z : dgt t L p = true
    · obtain ⟨z1, z2, z3⟩ := dgt_t.mp z
      rw [if_pos z, if_pos ⟨show (48 : Int32) ≤ I (t p) from (I_le (a := 48) (by omega) (by omega)).mpr z2, show I (t p) ≤ (57 : Int32) from (I_le (b := 57) (by omega) (by omega)).mpr z3⟩]
    · rw [if_neg z, if_neg (fun y => z (dgt_t.mpr ⟨q, (I_le (a := 48) (by omega) (by omega)).mp y.1, (I_le (b := 57) (by omega) (by omega)).mp y.2⟩))]
  · rw [if_neg q, if_neg (by decide), if_neg (fun z => q (dgt_t.mp z).1)]
theorem r_digit (hL : L ≤ 60) (ht : ∀ j, j < L → t j < 65536) (Z : RZ t L p w σ) : ∃ τ x, f_X10_digit σ = some (x, τ) ∧ frR σ τ ∧ ∀ k V, RZ t L (rdD t L (p, w, k, V)).1 (rdD t L (p, w, k, V)).2.1 τ ∧ ((rdD t L (p, w, k, V)).2.1 = false → (rdD t L (p, w, k, V)).2.2.2 = upd V k x) := by
  unfold f_X10_digit
  rw [r_here hL Z, bnd_d, lt_d, bnd_d, r_isd hL ht, bnd_d]
  by_cases q : dgt t L p = true
  · obtain ⟨q1, q2, q3⟩ := dgt_t.mp q
    rw [if_pos q]
    obtain ⟨τ, t1, t2, t3⟩ := r_yes Z (by omega)
    rw [t1, bnd_d, t2.2.2.1]
    cases w with
    | true =>
      rw [if_pos rfl, if_neg one_ne]
      exact ⟨τ, 0, rfl, t3, fun k V => ⟨t2, fun z => (by cases z)⟩⟩
    | false =>
      rw [if_neg ff, if_pos rfl]
      refine ⟨τ, _, rfl, t3, fun k V => ?_⟩
      unfold rdD
      dsimp only
      rw [if_neg ff, if_pos q]
      refine ⟨t2, fun _ => ?_⟩
      unfold hv
      rw [if_pos q1, sub48 q2]
  · rw [if_neg q]
    obtain ⟨τ, t1, t2, t3⟩ := r_not Z
    rw [t1, bnd_d, t2.2.2.1, if_pos rfl, if_neg one_ne]
    refine ⟨τ, 0, rfl, t3, fun k V => ?_⟩
    unfold rdD
    dsimp only
    cases w with
    | true => exact ⟨t2, fun z => (by cases z)⟩
    | false => rw [if_neg ff, if_neg q]; exact ⟨t2, fun z => (by cases z)⟩
theorem r_number (hL : L ≤ 60) (ht : ∀ j, j < L → t j < 65536) (Z : RZ t L p w σ) : ∃ τ x, f_X10_number σ = some (x, τ) ∧ frR σ τ ∧ ∀ k V, RZ t L (rdN t L (p, w, k, V)).1 (rdN t L (p, w, k, V)).2.1 τ ∧ ((rdN t L (p, w, k, V)).2.1 = false → (rdN t L (p, w, k, V)).2.2.2 = upd V k x) := by
  unfold f_X10_number
  obtain ⟨σ1, x, t1, t2, t3⟩ := r_digit hL ht Z
  rw [t1, bnm_d]
  cases w with
  | true =>
    obtain ⟨t4, -⟩ := t3 0 V0
    have e : σ1 198 18 = 1 := t4.2.2.1
    rw [e, if_neg one_ne]
    exact ⟨σ1, x, rfl, t2, fun k V => ⟨t4, fun z => (by cases z)⟩⟩
  | false =>
    unfold rdN
    by_cases q : dgt t L p = true
    · have e0 : ∀ k V, rdD t L (p, false, k, V) = (p + 1, false, k + 1, upd V k (I (t p - 48))) := fun k V => by unfold rdD; dsimp only; rw [if_neg ff, if_pos q]
      obtain ⟨t4, t5⟩ := t3 0 V0
      rw [e0] at t4 t5
      have ex : x = I (t p - 48) := by
        have := congrFun (t5 rfl) 0
        dsimp only at this
        rw [upd_e, upd_e] at this
        exact this.symm
      subst ex
      have e : σ1 198 18 = 0 := t4.2.2.1
      rw [e, if_pos rfl, r_here hL t4, bnd_d, r_isd hL ht, bnd_d]
      by_cases r : dgt t L (p + 1) = true
      · obtain ⟨τ, y, u1, u2, u3⟩ := r_digit hL ht t4
        rw [if_pos r, if_neg one_ne, u1, bnm_d]
        have e1 : ∀ k V, rdD t L (p + 1, false, k, V) = (p + 1 + 1, false, k + 1, upd V k (I (t (p + 1) - 48))) := fun k V => by unfold rdD; dsimp only; rw [if_neg ff, if_pos r]
        obtain ⟨u4, u5⟩ := u3 0 V0
        rw [e1] at u4 u5
        have ey : y = I (t (p + 1) - 48) := by
          have := congrFun (u5 rfl) 0
          dsimp only at this
          rw [upd_e, upd_e] at this
          exact this.symm
        subst ey
        refine ⟨τ, _, rfl, t2.trans u2, fun k V => ?_⟩
        dsimp only
        rw [if_neg ff, if_pos q, if_pos r]
        refine ⟨u4, fun _ => ?_⟩
        dsimp only
        rw [show (10 : Int32) * I (t p - 48) = I (10 * (t p - 48)) from I_mul 10 _, I_add]
      · rw [if_neg r, if_pos rfl]
        refine ⟨σ1, _, rfl, t2, fun k V => ?_⟩
        dsimp only
        rw [if_neg ff, if_pos q, if_neg r]
        exact ⟨t4, fun _ => rfl⟩
    · have e0 : ∀ k V, rdD t L (p, false, k, V) = (p, true, k, V) := fun k V => by unfold rdD; dsimp only; rw [if_neg ff, if_neg q]
      obtain ⟨t4, -⟩ := t3 0 V0
      rw [e0] at t4
      have e : σ1 198 18 = 1 := t4.2.2.1
      rw [e, if_neg one_ne]
      refine ⟨σ1, x, rfl, t2, fun k V => ?_⟩
      dsimp only
      rw [if_neg ff, if_neg q]
      exact ⟨t4, fun z => (by cases z)⟩
end
/-- where the reading of the m-th order stands -/
def RO (t : Nat → Nat) (L m i : Nat) (s : Rd) (σ : Mm) : Prop := RZ t L s.1 s.2.1 σ ∧ (s.2.1 = false → s.2.2.1 = i ∧ ∀ j, j < i → σ 205 (4 * m + 1 + j) = s.2.2.2 j)
def frO (m : Nat) (σ τ : Mm) : Prop := (∀ a, a ≠ 198 → a ≠ 205 → τ a = σ a) ∧ (∀ k, k ≠ 16 → k ≠ 18 → τ 198 k = σ 198 k) ∧ ∀ j, j < 4 * m + 1 → τ 205 j = σ 205 j
theorem frO.trans {m : Nat} {σ τ ρ : Mm} (h : frO m σ τ) (g : frO m τ ρ) : frO m σ ρ := ⟨fun a h1 h2 => (g.1 a h1 h2).trans (h.1 a h1 h2), fun k h1 h2 => (g.2.1 k h1 h2).trans (h.2.1 k h1 h2), fun j hj => (g.2.2 j hj).trans (h.2.2 j hj)⟩
theorem frO.refl (m : Nat) (σ : Mm) : frO m σ σ := ⟨fun _ _ _ => rfl, fun _ _ _ => rfl, fun _ _ => rfl⟩
theorem frR.O {σ τ : Mm} (m : Nat) (h : frR σ τ) : frO m σ τ := ⟨fun a h1 _ => h.1 a h1, h.2, fun j _ => by rw [h.1 205 (by omega)]⟩
theorem RO.put {t : Nat → Nat} {L m i : Nat} {s s1 : Rd} {σ τ : Mm} {x : Int32} (Z : RO t L m i s σ) (f : frR σ τ) (h1 : RZ t L s1.1 s1.2.1 τ) (h2 : s1.2.1 = false → s.2.1 = false ∧ s1.2.2.1 = s.2.2.1 + 1 ∧ s1.2.2.2 = upd s.2.2.2 s.2.2.1 x) : RO t L m (i + 1) s1 (up τ 205 (4 * m + 1 + i) x) ∧ frO m σ (up τ 205 (4 * m + 1 + i) x) := by
  obtain ⟨g1, g2, g3, g4, g5⟩ := h1
  refine ⟨⟨⟨by rw [up_n _ _ _ (by omega)]; exact g1, by rw [up_n _ _ _ (by omega)]; exact g2, by rw [up_n _ _ _ (by omega)]; exact g3, g4, fun j hj => by rw [up_n _ _ _ (by omega)]; exact g5 j hj⟩, fun z => ?_⟩, fun a z1 z2 => by rw [up_n _ _ _ z2]; exact f.1 a z1, fun k z1 z2 => by rw [up_n _ _ _ (by omega)]; exact f.2 k z1 z2, fun j hj => by rw [up_e, upd_n _ _ (by omega), f.1 205 (by omega)]⟩
  obtain ⟨a1, a2, a3⟩ := h2 z
  obtain ⟨b1, b2⟩ := Z.2 a1
  refine ⟨by omega, fun j hj => ?_⟩
  rw [a3, b1, up_e]
  by_cases e : j = i
  · subst e; rw [upd_e, upd_e]
  · rw [upd_n _ _ (by omega), upd_n _ _ e, f.1 205 (by omega)]; exact b2 j (by omega)
section
variable {t : Nat → Nat} {L m i : Nat} {s : Rd} {σ : Mm} {β : Type} {F : Mm → Option β} {a : Int32}
theorem o_digit (hL : L ≤ 60) (ht : ∀ j, j < L → t j < 65536) (hm : m < 60) (hi : i < 3) (ha : a = I (4 * m + 1 + i)) (Z : RO t L m i s σ) : ∃ τ, (bnm (f_X10_digit σ) fun q σ' => gd a 244 (lt (up σ' 205 a.toNatClampNeg q) F)) = F τ ∧ RO t L m (i + 1) (rdD t L s) τ ∧ frO m σ τ := by
  obtain ⟨p, w, k, V⟩ := s
  obtain ⟨τ, x, t1, t2, t3⟩ := r_digit hL ht Z.1
  obtain ⟨t4, t5⟩ := t3 k V
  subst ha
  rw [t1, bnm_d, gd_I (by omega) (by omega), I_clamp (by omega), lt_d]
  obtain ⟨u1, u2⟩ := Z.put (s1 := rdD t L (p, w, k, V)) (x := x) t2 t4 (fun z => by
    have w0 : w = false := by
      cases w with
      | false => rfl
      | true => exact absurd z (by unfold rdD; dsimp only; rw [if_pos rfl]; exact fun y => (by cases y))
    refine ⟨w0, ?_, t5 z⟩
    have := rdP_k (t := t) (L := L) (c := 68) (s := (p, w, k, V)) z
    exact this)
  exact ⟨_, rfl, u1, u2⟩
theorem o_number (hL : L ≤ 60) (ht : ∀ j, j < L → t j < 65536) (hm : m < 60) (hi : i < 3) (ha : a = I (4 * m + 1 + i)) (Z : RO t L m i s σ) : ∃ τ, (bnm (f_X10_number σ) fun q σ' => gd a 244 (lt (up σ' 205 a.toNatClampNeg q) F)) = F τ ∧ RO t L m (i + 1) (rdN t L s) τ ∧ frO m σ τ := by
  obtain ⟨p, w, k, V⟩ := s
  obtain ⟨τ, x, t1, t2, t3⟩ := r_number hL ht Z.1
  obtain ⟨t4, t5⟩ := t3 k V
  subst ha
  rw [t1, bnm_d, gd_I (by omega) (by omega), I_clamp (by omega), lt_d]
  obtain ⟨u1, u2⟩ := Z.put (s1 := rdN t L (p, w, k, V)) (x := x) t2 t4 (fun z => by
    have w0 : w = false := by
      cases w with
      | false => rfl
      | true => exact absurd z (by unfold rdN; dsimp only; rw [if_pos rfl]; exact fun y => (by cases y))
    refine ⟨w0, ?_, t5 z⟩
    have := rdP_k (t := t) (L := L) (c := 78) (s := (p, w, k, V)) z
    exact this)
  exact ⟨_, rfl, u1, u2⟩
theorem o_sign (hL : L ≤ 60) (ht : ∀ j, j < L → t j < 65536) {c : Nat} {ci : Int32} (hc : c < 65536) (hci : ci = I c) (Z : RO t L m i s σ) : ∃ τ, (bnd (f_X10_here σ) fun q => if q = ci then (bnd (f_X10_expects 1 σ) F) else (bnd (f_X10_expects 0 σ) F)) = F τ ∧ RO t L m i (rdS t L c s) τ ∧ frO m σ τ := by
  obtain ⟨p, w, k, V⟩ := s
  obtain ⟨Z1, Z2⟩ := Z
  dsimp only at Z1 Z2
  rw [r_here hL Z1, bnd_d]
  subst hci
  unfold hv rdS
  dsimp only
  by_cases q : p < L
  · have := ht p q
    rw [if_pos q]
    by_cases e : t p = c
    · obtain ⟨τ, t1, t2, t3⟩ := r_yes Z1 (by omega)
      rw [if_pos (by rw [e]), t1, bnd_d]
      refine ⟨τ, rfl, ?_, t3.O m⟩
      cases w with
      | true => rw [if_pos rfl]; exact ⟨t2, fun z => (by cases z)⟩
      | false =>
        rw [if_neg ff, if_pos ⟨q, e⟩]
        exact ⟨t2, fun _ => ⟨(Z2 rfl).1, fun j hj => by rw [t3.1 205 (by omega)]; exact (Z2 rfl).2 j hj⟩⟩
    · obtain ⟨τ, t1, t2, t3⟩ := r_not Z1
      rw [if_neg (I_beq (by omega) (by omega) e), t1, bnd_d]
      refine ⟨τ, rfl, ?_, t3.O m⟩
      cases w with
      | true => rw [if_pos rfl]; exact ⟨t2, fun z => (by cases z)⟩
      | false => rw [if_neg ff, if_neg (fun z => e z.2)]; exact ⟨t2, fun z => (by cases z)⟩
  · obtain ⟨τ, t1, t2, t3⟩ := r_not Z1
    rw [if_neg q, if_neg (fun z => I_m1 (a := c) (by omega) z.symm), t1, bnd_d]
    refine ⟨τ, rfl, ?_, t3.O m⟩
    cases w with
    | true => rw [if_pos rfl]; exact ⟨t2, fun z => (by cases z)⟩
    | false => rw [if_neg ff, if_neg (fun z => q z.1)]; exact ⟨t2, fun z => (by cases z)⟩
theorem o_cells (hL : L ≤ 60) (ht : ∀ j, j < L → t j < 65536) (hm : m < 60) (hi : i + 1 < 3) (ha : a = I (4 * m + 1 + i)) (Z : RO t L m i s σ) : ∃ τ, f_X10_cells a σ = some τ ∧ RO t L m (i + 2) (rdN t L (rdS t L 45 (rdN t L s))) τ ∧ frO m σ τ := by
  unfold f_X10_cells
  have e1 : a + 1 = I (4 * m + 1 + (i + 1)) := by rw [ha, I_a1]; rfl
  obtain ⟨σ1, t1, t2, t3⟩ := o_number (F := fun σ3 => bnd (f_X10_here σ3) fun q4 => if q4 = 45 then (bnd (f_X10_expects 1 σ3) fun σ12 => bnm (f_X10_number σ12) fun q13 σ14 => gd (a + 1) 244 (lt (up σ14 205 (a + 1).toNatClampNeg q13) fun σ15 => some σ15)) else (bnd (f_X10_expects 0 σ3) fun σ7 => bnm (f_X10_number σ7) fun q8 σ9 => gd (a + 1) 244 (lt (up σ9 205 (a + 1).toNatClampNeg q8) fun σ10 => some σ10))) hL ht hm (by omega) ha Z
  obtain ⟨σ2, u1, u2, u3⟩ := o_sign (F := fun σ7 => bnm (f_X10_number σ7) fun q8 σ9 => gd (a + 1) 244 (lt (up σ9 205 (a + 1).toNatClampNeg q8) fun σ10 => some σ10)) (c := 45) (ci := 45) hL ht (by omega) rfl t2
  obtain ⟨σ3, v1, v2, v3⟩ := o_number (F := fun σ10 => some σ10) hL ht hm (by omega) e1 u2
  exact ⟨σ3, t1.trans (u1.trans v1), v2, t3.trans (u3.trans v3)⟩
end
