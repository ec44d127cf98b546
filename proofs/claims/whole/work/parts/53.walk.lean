/-! WALKS -/
theorem I_sub_neg {a b : Nat} (h : a < b) (hb : b < 2147483648) : ¬ (0 : Int32) < I a - I b := by
  rw [Int32.lt_iff_toInt_lt, Int32.toInt_sub, I_toInt (by omega), I_toInt hb]
  show ¬ (0 : Int) < Int.bmod ((a : Int) - b) 4294967296
  rw [Int.bmod_def]
  split <;> omega
theorem I_pos {a : Nat} (ha : a < 2147483648) : (0 : Int32) < I a ↔ 0 < a := I_lt (a := 0) (by omega) ha
def lostV (v : Nat) (f : Fm) : Int32 := if 0 < f (46 + 8 * v + 2) - f (46 + 8 * v + 3) then f (46 + 8 * v + 2) - f (46 + 8 * v + 3) else 0
def payV (v : Nat) (f : Fm) : Int32 := if f (46 + 8 * v + 4) = -1 then 0 else if f (46 + 8 * v + 6) = 1 then 0 else if f (30 + 4 * (f (46 + 8 * v + 4)).toNatClampNeg) < f (46 + 8 * v + 5) * lostV v f then f (30 + 4 * (f (46 + 8 * v + 4)).toNatClampNeg) else f (46 + 8 * v + 5) * lostV v f
def leaveV (v : Nat) (f : Fm) : Fm :=
  upd (upd (upd (upd (if f (46 + 8 * v + 4) = -1 then upd f (46 + 8 * v) (f (46 + 8 * v) + payV v f) else upd (upd (upd f (46 + 8 * v) (f (46 + 8 * v) + payV v f)) (30 + 4 * (f (46 + 8 * v + 4)).toNatClampNeg) (f (30 + 4 * (f (46 + 8 * v + 4)).toNatClampNeg) - payV v f)) (30 + 4 * (f (46 + 8 * v + 4)).toNatClampNeg + 2) (f (30 + 4 * (f (46 + 8 * v + 4)).toNatClampNeg + 2) + payV v f)) (46 + 8 * v + 7) 1) (46 + 8 * v + 4) (-1)) (46 + 8 * v + 5) 0) (46 + 8 * v + 6) 0
theorem n_lost {σ : Mm} {v : Nat} (hv : v < 5) : f_X10_lostOf (I v) σ = some (lostV v (σ 199)) := by
  unfold f_X10_lostOf lostV
  rw [n_vAt, bnd_d]
  simp only [I_a2, I_a3, gd_I (show 46 + 8 * v + 2 < 86 by omega) (show 86 < 2147483648 by omega), gd_I (show 46 + 8 * v + 3 < 86 by omega) (show 86 < 2147483648 by omega), I_clamp (show 46 + 8 * v + 2 < 2147483648 by omega), I_clamp (show 46 + 8 * v + 3 < 2147483648 by omega)]
theorem lost_I {B n : Nat} {f : Fm} {v : Nat} (h : okV B n f v) (hB : B ≤ 1000000) : ∃ l, l ≤ B ∧ lostV v f = I l := by
  obtain ⟨-, ⟨x, x1, x2⟩, ⟨a, a1, a2⟩, -⟩ := h
  unfold lostV
  rw [x2, a2]
  by_cases q : a ≤ x
  · rw [I_sub q]
    by_cases w : (0 : Int32) < I (x - a)
    · rw [if_pos w]; exact ⟨x - a, by omega, rfl⟩
    · rw [if_neg w]; exact ⟨0, by omega, rfl⟩
  · rw [if_neg (I_sub_neg (by omega) (by omega))]
    exact ⟨0, by omega, rfl⟩
theorem n_pays {σ : Mm} {B n v : Nat} (hn : n ≤ 4) (hv : v < 5) (h : okV B n (σ 199) v) : f_X10_pays (I v) (lostV v (σ 199)) σ = some (payV v (σ 199)) := by
  unfold f_X10_pays payV
  rw [n_vAt, bnd_d]
  simp only [I_a4, I_a5, I_a6, gd_I (show 46 + 8 * v + 4 < 86 by omega) (show 86 < 2147483648 by omega), gd_I (show 46 + 8 * v + 5 < 86 by omega) (show 86 < 2147483648 by omega), gd_I (show 46 + 8 * v + 6 < 86 by omega) (show 86 < 2147483648 by omega), I_clamp (show 46 + 8 * v + 4 < 2147483648 by omega), I_clamp (show 46 + 8 * v + 5 < 2147483648 by omega), I_clamp (show 46 + 8 * v + 6 < 2147483648 by omega)]
  rcases h.2.2.2 with ⟨a, -⟩ | ⟨⟨g, g1, g2⟩, -⟩
  · rw [if_pos a, if_pos a]
  · have ne : ¬ σ 199 (46 + 8 * v + 4) = -1 := by rw [g2]; exact nm1 (by omega)
    rw [if_neg ne, if_neg ne]
    by_cases w : σ 199 (46 + 8 * v + 6) = 1
    · rw [if_pos w, if_pos w]
    · rw [if_neg w, if_neg w, g2, n_gAt, bnd_d, gd_I (by omega) (by omega), I_clamp (by omega), I_clamp (by omega)]
theorem r_leave {σ : Mm} {B n v : Nat} (hn : n ≤ 4) (hv : v < 5) (h : okV B n (σ 199) v) : ∃ τ, wTail (I (46 + 8 * v)) 15 (I v) σ = some (15, τ) ∧ τ 199 = leaveV v (σ 199) ∧ ∀ i, i ≠ 199 → τ i = σ i := by
  unfold wTail
  rw [if_pos rfl, n_lost hv, bnd_d, n_pays hn hv h, bnd_d]
  simp only [I_a4, I_a5, I_a6, I_a7, gd_I (show 46 + 8 * v < 86 by omega) (show 86 < 2147483648 by omega), gd_I (show 46 + 8 * v + 4 < 86 by omega) (show 86 < 2147483648 by omega), gd_I (show 46 + 8 * v + 5 < 86 by omega) (show 86 < 2147483648 by omega), gd_I (show 46 + 8 * v + 6 < 86 by omega) (show 86 < 2147483648 by omega), gd_I (show 46 + 8 * v + 7 < 86 by omega) (show 86 < 2147483648 by omega), I_clamp (show 46 + 8 * v < 2147483648 by omega), I_clamp (show 46 + 8 * v + 4 < 2147483648 by omega), I_clamp (show 46 + 8 * v + 5 < 2147483648 by omega), I_clamp (show 46 + 8 * v + 6 < 2147483648 by omega), I_clamp (show 46 + 8 * v + 7 < 2147483648 by omega), lt_d, up_e, upd_n _ _ (show 46 + 8 * v + 4 ≠ 46 + 8 * v by omega)]
  unfold leaveV
  rcases h.2.2.2 with ⟨a, -⟩ | ⟨⟨g, g1, g2⟩, -⟩
  · rw [if_pos a, if_pos a]
    exact ⟨_, rfl, by simp only [up_e], fun i hi => by simp only [up_n _ _ _ hi]⟩
  · have ne : ¬ σ 199 (46 + 8 * v + 4) = -1 := by rw [g2]; exact nm1 (by omega)
    rw [if_neg ne, if_neg ne, g2]
    obtain ⟨p, hp⟩ : ∃ p, p = payV v (σ 199) := ⟨_, rfl⟩
    rw [← hp]
    simp only [n_gAt, bnd_d, gd_I (show 30 + 4 * g < 86 by omega) (show 86 < 2147483648 by omega), I_clamp (show 30 + 4 * g < 2147483648 by omega), upd_n _ _ (show 46 + 8 * v + 4 ≠ 30 + 4 * g by omega), upd_n _ _ (show 46 + 8 * v + 4 ≠ 46 + 8 * v by omega), g2, I_a2, gd_I (show 30 + 4 * g + 2 < 86 by omega) (show 86 < 2147483648 by omega), I_clamp (show 30 + 4 * g + 2 < 2147483648 by omega), I_clamp (show g < 2147483648 by omega), upd_n _ _ (show 30 + 4 * g ≠ 46 + 8 * v by omega), upd_n _ _ (show 30 + 4 * g + 2 ≠ 46 + 8 * v by omega), upd_n _ _ (show 30 + 4 * g + 2 ≠ 30 + 4 * g by omega)]
    exact ⟨_, rfl, by simp only [up_e], fun i hi => by simp only [up_n _ _ _ hi]⟩
/-- what is paid is there -/
theorem pay_I {B n v : Nat} {f : Fm} {c : Nat → Nat} (hB : B ≤ 1000000) (hn : n ≤ 4) (h : okV B n f v) (mo1 : ∀ g, g < 4 → f (30 + 4 * g) = I (c g)) (hc : S4 c ≤ 1000000) : ∃ p, payV v f = I p ∧ ((f (46 + 8 * v + 4) = -1 ∧ p = 0) ∨ ∃ g, g < n ∧ f (46 + 8 * v + 4) = I g ∧ p ≤ c g) := by
  obtain ⟨l, l1, l2⟩ := lost_I h hB
  unfold payV
  rcases h.2.2.2 with ⟨a, -⟩ | ⟨⟨g, g1, g2⟩, ⟨r, r1, r2, r3⟩, -⟩
  · rw [if_pos a]; exact ⟨0, rfl, Or.inl ⟨a, rfl⟩⟩
  · have ne : ¬ f (46 + 8 * v + 4) = -1 := by rw [g2]; exact nm1 (by omega)
    have hg := S4_le (c := c) (g := g) (by omega)
    rw [if_neg ne]
    by_cases w : f (46 + 8 * v + 6) = 1
    · rw [if_pos w]; exact ⟨0, rfl, Or.inr ⟨g, g1, g2, by omega⟩⟩
    · rw [if_neg w, l2, r3, g2, I_clamp (by omega), mo1 g (by omega), I_mul]
      have hm : r * l ≤ 5 * 1000000 := Nat.mul_le_mul r2 (Nat.le_trans l1 hB)
      by_cases z : I (c g) < I (r * l)
      · rw [if_pos z]; exact ⟨c g, rfl, Or.inr ⟨g, g1, rfl, Nat.le_refl _⟩⟩
      · rw [if_neg z]
        refine ⟨r * l, rfl, Or.inr ⟨g, g1, rfl, ?_⟩⟩
        exact Nat.not_lt.mp fun y => z ((I_lt (by omega) (by omega)).mpr y)
theorem m_due {σ : Mm} {f : Fm} {v : Nat} (h : rep 0 σ f) (hv : v < 5) (hf : ¬ f 1 ≤ I v) : f_X7_dueAfter (9 + v) 0 σ = some (if f (46 + 8 * v + 6) = 0 then f (46 + 8 * v + 5) * lostV v f else 0) := by
  unfold f_X7_dueAfter f_X7_lostAfter lostV
  rw [h.getV hv (by omega) hf, h.getV hv (by omega) hf, h.getV hv (by omega) hf, h.getV hv (by omega) hf, Int32.add_zero]
  by_cases q : f (46 + 8 * v + 6) = 0
  · rw [if_pos q, if_pos q]; rfl
  · rw [if_neg q, if_neg q]
theorem c_leave {σ : Mm} {f : Fm} {B n m v : Nat} (hB : B ≤ 1000000) (h : rep 0 σ f) (ho : okC B n m f) (hv : v < m) : ∃ τ, f_X3_leaveMaze (9 + v) σ = some τ ∧ rep 0 τ (leaveV v f) ∧ ∀ i, 14 ≤ i → τ i = σ i := by
  obtain ⟨⟨a1, a2⟩, ⟨b1, b2⟩, hc, hd, hvv, mi, le, c, d, mo1, mo2, mo3⟩ := ho
  have hf := hfI b2 b1 hv
  have hV := fun k hk => h.getV (v := v) (k := k) (by omega) hk hf
  have hS : S4 c ≤ 1000000 := by omega
  obtain ⟨p, p1, p2⟩ := pay_I hB a1 (hvv v hv) mo1 hS
  unfold f_X3_leaveMaze
  rw [hV 4 (by omega), m_findG h a1 a2, bnd_d]
  rcases p2 with ⟨q1, rfl⟩ | ⟨g, g1, g2, g3⟩
  · have e : ix (f (46 + 8 * v + 4)) n = none := by
      rw [q1]
      rcases ix_cases (-1) (N := n) (by omega) with ⟨j, j1, j2, -⟩ | ⟨-, j3⟩
      · exact absurd j2.symm (nm1 (by omega))
      · exact j3
    rw [e]
    dsimp only
    rw [oc_d]
    unfold f_X7_endBond
    simp only [lt_d, bnd_d]
    have r1 := h.vis (v := v) (k := 4) (by omega) (by omega) hf (-1)
    have r2 := r1.vis (v := v) (k := 5) (by omega) (by omega) (by rw [upd_n _ _ (by omega)]; exact hf) 0
    have r3 := r2.vis (v := v) (k := 6) (by omega) (by omega) (by rw [upd_n _ _ (by omega), upd_n _ _ (by omega)]; exact hf) 0
    have r4 := r3.vis (v := v) (k := 7) (by omega) (by omega) (by rw [upd_n _ _ (by omega), upd_n _ _ (by omega), upd_n _ _ (by omega)]; exact hf) 1
    refine ⟨_, rfl, rep.ext r4 (fun k hk => ?_), fun i hi => by simp (disch := omega) only [up_n]⟩
    unfold leaveV
    rw [if_pos q1, p1, show I 0 = (0 : Int32) from rfl, Int32.add_zero]
    simp only [upd]
    (repeat' split) <;> first | rfl | omega | (subst_vars; rfl)
  · have e : ix (f (46 + 8 * v + 4)) n = some g := by rw [g2]; exact ix_I g1 (by omega)
    rw [e]
    dsimp only
    rw [oc_e, m_due h (by omega) hf, bnd_d, lt_d]
    have hG0 : σ (4 + g) 0 = f (30 + 4 * g) := h.getG (k := 0) (by omega) (by omega)
    have hG2 : σ (4 + g) 2 = f (30 + 4 * g + 2) := h.getG (by omega) (by omega)
    have hV0 : σ (9 + v) 0 = f (46 + 8 * v) := hV 0 (by omega)
    have ep : (if σ (4 + g) 0 < (if f (46 + 8 * v + 6) = 0 then f (46 + 8 * v + 5) * lostV v f else 0) then σ (4 + g) 0 else (if f (46 + 8 * v + 6) = 0 then f (46 + 8 * v + 5) * lostV v f else 0)) = I p := by
      rw [hG0, ← p1]
      unfold payV
      rw [if_neg (show ¬ f (46 + 8 * v + 4) = -1 by rw [g2]; exact nm1 (by omega)), g2, I_clamp (by omega)]
      have hz : f (46 + 8 * v + 6) = 0 ∨ f (46 + 8 * v + 6) = 1 := by
        rcases (hvv v hv).2.2.2 with ⟨-, -, z, -⟩ | ⟨-, -, z, -⟩
        · exact Or.inl z
        · exact z
      rcases hz with hz | hz
      · rw [if_pos hz, if_neg (show ¬ f (46 + 8 * v + 6) = 1 by rw [hz]; decide)]
      · have hneg : ¬ f (30 + 4 * g) < 0 := by
          rw [mo1 g (by omega)]
          exact I_n0 (by have := S4_le (c := c) (g := g) (by omega); omega)
        rw [if_neg (show ¬ f (46 + 8 * v + 6) = 0 by rw [hz]; decide), if_pos hz, if_neg hneg]
    rw [ep, lt_d, lt_d, lt_d]
    unfold f_X7_endBond
    simp only [lt_d, bnd_d]
    have r1 := h.gard (g := g) (k := 0) (by omega) (by omega) (f (30 + 4 * g) - I p)
    have r2 := r1.gard (g := g) (k := 2) (by omega) (by omega) (f (30 + 4 * g + 2) + I p)
    have r3 := r2.vis (v := v) (k := 0) (by omega) (by omega) (by simp (disch := omega) only [upd_n]; exact hf) (f (46 + 8 * v) + I p)
    have r4 := r3.vis (v := v) (k := 4) (by omega) (by omega) (by simp (disch := omega) only [upd_n]; exact hf) (-1)
    have r5 := r4.vis (v := v) (k := 5) (by omega) (by omega) (by simp (disch := omega) only [upd_n]; exact hf) 0
    have r6 := r5.vis (v := v) (k := 6) (by omega) (by omega) (by simp (disch := omega) only [upd_n]; exact hf) 0
    have r7 := r6.vis (v := v) (k := 7) (by omega) (by omega) (by simp (disch := omega) only [upd_n]; exact hf) 1
    obtain ⟨τ, hτ⟩ : ∃ τ, τ = up (up (up (up (up (up (up σ (4 + g) 0 (f (30 + 4 * g) - I p)) (4 + g) 2 (f (30 + 4 * g + 2) + I p)) (9 + v) 0 (f (46 + 8 * v) + I p)) (9 + v) 4 (-1)) (9 + v) 5 0) (9 + v) 6 0) (9 + v) 7 1 := ⟨_, rfl⟩
    refine ⟨τ, ?_, ?_, fun i hi => by rw [hτ]; simp (disch := omega) only [up_n]⟩
    · rw [hτ]
      simp (disch := omega) only [up_e, up_n, upd_e, upd_n, hG0, hG2, hV0]
    · rw [hτ]
      refine rep.ext r7 (fun k hk => ?_)
      unfold leaveV
      rw [if_neg (show ¬ f (46 + 8 * v + 4) = -1 by rw [g2]; exact nm1 (by omega)), g2, I_clamp (by omega), p1]
      simp only [upd]
      (repeat' split) <;> first | rfl | omega | (subst_vars; rfl)
theorem ok_leave {f : Fm} {B n m v : Nat} (hB : B ≤ 1000000) (ho : okC B n m f) (hv : v < m) : okC B n m (leaveV v f) := by
  have ho' := ho
  obtain ⟨⟨a1, a2⟩, ⟨b1, b2⟩, hc, hd, hvv, mi, le, c, d, mo1, mo2, mo3⟩ := ho
  have hS : S4 c ≤ 1000000 := by omega
  obtain ⟨p, p1, p2⟩ := pay_I hB a1 (hvv v hv) mo1 hS
  have hd0 := S5_le (c := d) (g := v) (by omega)
  unfold leaveV
  rw [p1]
  rcases p2 with ⟨q1, rfl⟩ | ⟨g, g1, g2, g3⟩
  · rw [if_pos q1, show I 0 = (0 : Int32) from rfl, Int32.add_zero]
    refine ho'.vis (Nat.le_refl _) hv (fun k hk hne => ?_) ?_
    · rw [upd_n _ _ (hne 6 (by omega) (by omega)), upd_n _ _ (hne 5 (by omega) (by omega)), upd_n _ _ (hne 4 (by omega) (by omega)), upd_n _ _ (hne 7 (by omega) (by omega))]
      by_cases z : k = 46 + 8 * v
      · rw [z, upd_e]
      · rw [upd_n _ _ z]
    · obtain ⟨z1, z2, z3, -⟩ := hvv v hv
      unfold okV
      simp (disch := omega) only [upd_n, upd_e]
      refine ⟨z1, z2, z3, Or.inl ⟨?_, ?_, ?_, Or.inr ?_⟩⟩ <;> first | rfl | trivial
  · have hc0 := S4_le (c := c) (g := g) (by omega)
    rw [if_neg (show ¬ f (46 + 8 * v + 4) = -1 by rw [g2]; exact nm1 (by omega)), g2, I_clamp (by omega), mo1 g (by omega), mo2 v (by omega), I_sub g3, I_add]
    refine ⟨⟨a1, ?_⟩, ⟨b1, ?_⟩, fun i h1 h2 k2 hk2 => ?_, fun i h1 h2 k2 hk2 => ?_, fun i hi => ?_, ?_, fun i hi => ?_, ?_⟩
    · simp (disch := omega) only [upd_n]; exact a2
    · simp (disch := omega) only [upd_n]; exact b2
    · simp (disch := omega) only [upd_n]; exact hc i h1 h2 k2 hk2
    · simp (disch := omega) only [upd_n]; exact hd i h1 h2 k2 hk2
    · by_cases e2 : i = v
      · subst e2
        obtain ⟨z1, z2, z3, -⟩ := hvv i hi
        unfold okV
        simp (disch := omega) only [upd_n, upd_e]
        refine ⟨z1, z2, z3, Or.inl ⟨?_, ?_, ?_, Or.inr ?_⟩⟩ <;> first | rfl | trivial
      · refine (hvv i hi).same (fun k2 h1 h2 => ?_)
        simp (disch := omega) only [upd_n]
    · simp (disch := omega) only [upd_n]; exact mi
    · simp (disch := omega) only [upd_n]; exact le i hi
    · refine ⟨fun j => if j = g then c g - p else c j, fun j => if j = v then d v + p else d j, fun j hj => ?_, fun j hj => ?_, ?_⟩
      · by_cases e2 : j = g
        · subst e2
          simp (disch := omega) only [upd_n, upd_e]
          simp
        · simp (disch := omega) only [upd_n]
          simp [e2]; exact mo1 j hj
      · by_cases e2 : j = v
        · subst e2
          simp (disch := omega) only [upd_n, upd_e]
          simp
        · simp (disch := omega) only [upd_n]
          simp [e2]; exact mo2 j hj
      · have k1 := S4_upd (c := c) (g := g) (by omega) (c g - p)
        have k2 := S5_upd (c := d) (g := v) (by omega) (d v + p)
        omega
/-! a step -/
def stepV (v u : Nat) (f : Fm) : Fm := upd (upd (upd f (46 + 8 * v + 1) (I u)) (46 + 8 * v + 2) (f (46 + 8 * v + 2) + 1)) (46 + 8 * v + 6) (if I u = f 2 ∧ ¬ f (46 + 8 * v + 5) ≤ 0 then 1 else f (46 + 8 * v + 6))
def S_walk (x t : Int32) (f : Fm) : Rs := match ix x (f 1).toNatClampNeg with
  | none => no 7 (f 1)
  | some v => match ix t 4 with
    | none => no 1 0
    | some d => if f (46 + 8 * v + 7) = 0 then (match nxN (f (46 + 8 * v + 1)).toNatClampNeg d with
        | none => no 11 (f (46 + 8 * v + 1))
        | some u => match hN (f (46 + 8 * v + 1)).toNatClampNeg u with
          | none => no 0 0
          | some h => if 5 ≤ f (6 + h) then no 12 (f (6 + h)) else yes (I u) (if u = 15 then leaveV v (stepV v u f) else stepV v u f)) else no 9 (f (46 + 8 * v + 2))
theorem m_towards {σ : Mm} {u d : Nat} (hu : u < 16) (hd : d < 4) : f_X4_cellTowards (I u) (I d) σ = some (oI (nxN u d)) := by
  rw [show f_X4_cellTowards (I u) (I d) σ = f_X4_cellTowards (I u) (I d) (fun _ _ => 0) from rfl]
  exact (by decide +kernel : ∀ u, u < 16 → ∀ d, d < 4 → f_X4_cellTowards (I u) (I d) (fun _ _ => 0) = some (oI (nxN u d))) u hu d hd
theorem okV.bond {B n : Nat} {f : Fm} {v : Nat} (h : okV B n f v) (hn : n ≤ 4) : (f (46 + 8 * v + 4) = -1 ∧ f (46 + 8 * v + 5) ≤ 0 ∧ f (46 + 8 * v + 6) = 0) ∨ (¬ f (46 + 8 * v + 4) = -1 ∧ ¬ f (46 + 8 * v + 5) ≤ 0) := by
  rcases h.2.2.2 with ⟨a, b, c, -⟩ | ⟨⟨g, g1, g2⟩, ⟨r, r1, r2, r3⟩, -⟩
  · exact Or.inl ⟨a, by rw [b]; decide, c⟩
  · refine Or.inr ⟨by rw [g2]; exact nm1 (by omega), ?_⟩
    rw [r3]
    exact Int32.not_le.mpr ((I_pos (by omega)).mpr (by omega))
theorem ok_step {B n m v u : Nat} {f : Fm} (ho : okC B n m f) (hv : v < m) (hu : u < 16) (h7 : f (46 + 8 * v + 7) = 0) : okC (B + 9) n m (stepV v u f) := by
  have a1 := ho.1.1
  obtain ⟨z1, ⟨h, h1, h2⟩, z3, z4⟩ := ho.2.2.2.2.1 v hv
  have hb := (ho.2.2.2.2.1 v hv).bond a1
  unfold stepV
  refine ho.vis (by omega) hv (fun k hk hne => ?_) ?_
  · rw [upd_n _ _ (hne 6 (by omega) (by omega)), upd_n _ _ (hne 2 (by omega) (by omega)), upd_n _ _ (hne 1 (by omega) (by omega))]
  · unfold okV
    simp (disch := omega) only [upd_n, upd_e]
    refine ⟨⟨u, hu, rfl⟩, ⟨h + 1, by omega, by rw [h2, I_a1]⟩, z3, ?_⟩
    rcases z4 with ⟨q1, q2, q3, q4⟩ | ⟨q1, q2, q3, q4⟩
    · refine Or.inl ⟨q1, q2, ?_, q4⟩
      rw [if_neg (fun z => z.2 (by rw [q2]; decide))]; exact q3
    · refine Or.inr ⟨q1, q2, ?_, q4⟩
      split
      · exact Or.inr rfl
      · exact q3
theorem c_meet {σ : Mm} {f : Fm} {v : Nat} (h : rep 0 σ f) (hv : v < 5) (hf : ¬ f 1 ≤ I v) : ∃ τ, f_X3_meetIfThere (9 + v) σ = some τ ∧ rep 0 τ (upd f (46 + 8 * v + 6) (if f (46 + 8 * v + 7) = 0 ∧ f (46 + 8 * v + 1) = f 2 then (if f (46 + 8 * v + 4) = -1 then 0 else 1) else f (46 + 8 * v + 6))) ∧ ∀ i, i ≠ 9 + v → τ i = σ i := by
  unfold f_X3_meetIfThere
  rw [show σ 0 5 = f 2 from h.get0 (k := 2) (by omega), m_isIn h hv hf, bnd_d]
  by_cases q : f (46 + 8 * v + 7) = 0 ∧ f (46 + 8 * v + 1) = f 2
  · rw [if_pos q, if_pos q, if_neg one_ne]
    unfold f_X7_meetMinotaur f_X7_hasBond
    rw [h.getV hv (by omega) hf]
    by_cases w : f (46 + 8 * v + 4) = -1
    · rw [if_pos w, if_pos w, bnd_d, bz_i0, lt_d, bnd_d]
      exact ⟨_, rfl, h.vis hv (by omega) hf 0, fun i hi => up_n _ _ _ hi⟩
    · rw [if_neg w, if_neg w, bnd_d, bz_i1, lt_d, bnd_d]
      exact ⟨_, rfl, h.vis hv (by omega) hf 1, fun i hi => up_n _ _ _ hi⟩
  · rw [if_neg q, if_neg q, if_pos rfl]
    refine ⟨σ, rfl, rep.ext h (fun k hk => ?_), fun i hi => rfl⟩
    by_cases e : k = 46 + 8 * v + 6
    · rw [e, upd_e]
    · rw [upd_n _ _ e]
theorem c_walk {σ : Mm} {f : Fm} {B : Nat} (hB : B + 9 ≤ 1000000) (x t : Int32) (h : rep 0 σ f) (ho : ok B f) : cOk σ (f_X3_moveVisitor x t σ) (S_walk x t f) := by
  obtain ⟨n, m, hok⟩ := ho
  obtain ⟨⟨a1, a2⟩, ⟨b1, b2⟩, hc, hd, hv, mi, le, mo⟩ := id hok
  unfold f_X3_moveVisitor S_walk
  rw [m_findV h b1 b2, bnd_d, f0c b2 b1 (by omega)]
  cases e0 : ix x m with
  | none =>
    dsimp only
    rw [oc_d, show σ 0 4 = f 1 from h.get0 (k := 1) (by omega)]
    exact c_refuse 7 _ (fun _ _ _ => rfl)
  | some v =>
    obtain ⟨v1, rfl⟩ := ix_lt (by omega) e0
    have hf := hfI b2 b1 v1
    have hV := fun k hk => h.getV (v := v) (k := k) (by omega) hk hf
    dsimp only
    rw [oc_e]
    rcases ix_cases t (N := 4) (by omega) with ⟨d, d1, rfl, d3⟩ | ⟨d1, d3⟩
    · rw [d3, if_neg (I_n0 (by omega)), if_pos (show I d ≤ 3 from (I_le (b := 3) (by omega) (by omega)).mpr (by omega)), hV 7 (by omega)]
      dsimp only
      by_cases q3 : f (46 + 8 * v + 7) = 0
      · rw [if_pos q3, if_pos q3, hV 1 (by omega)]
        obtain ⟨⟨ce, ce1, ce2⟩, -⟩ := hv v v1
        rw [ce2, I_clamp (by omega), m_towards ce1 d1, bnd_d]
        cases eu : nxN ce d with
        | none =>
          dsimp only
          rw [if_pos (show oI none = -1 from rfl)]
          exact c_refuse 11 _ (fun _ _ _ => rfl)
        | some u =>
          obtain ⟨hu, g, hg, eg⟩ := nx_lt ce1 d1 eu
          dsimp only
          rw [hg]
          dsimp only
          rw [show oI (some u) = I u from rfl, if_neg (nm1 (by omega)), m_between ce1 hu, hg, bnd_d, show oI (some g) = I g from rfl, m_open eg.1, bnd_d, h.getL eg.1]
          by_cases q5 : (5 : Int32) ≤ f (6 + g)
          · rw [if_pos q5, if_pos rfl, if_pos q5, m_leaves eg.1, bnd_d, h.getL eg.1]
            exact c_refuse 12 _ (fun _ _ _ => rfl)
          · rw [if_neg q5, if_neg one_ne, if_neg q5, lt_d, lt_d, up_e, upd_n _ _ (by decide), hV 2 (by omega)]
            have r1 := h.vis (v := v) (k := 1) (by omega) (by omega) hf (I u)
            have hf1 : ¬ (upd f (46 + 8 * v + 1) (I u)) 1 ≤ I v := by rw [upd_n _ _ (by omega)]; exact hf
            have r2 := r1.vis (v := v) (k := 2) (by omega) (by omega) hf1 (f (46 + 8 * v + 2) + 1)
            have hf2 : ¬ (upd (upd f (46 + 8 * v + 1) (I u)) (46 + 8 * v + 2) (f (46 + 8 * v + 2) + 1)) 1 ≤ I v := by rw [upd_n _ _ (by omega)]; exact hf1
            obtain ⟨τ, t1, t2, t3⟩ := c_meet r2 (by omega) hf2
            have r3 : rep 0 τ (stepV v u f) := by
              refine rep.ext t2 (fun k hk => ?_)
              unfold stepV
              by_cases e : k = 46 + 8 * v + 6
              · rw [e, upd_e, upd_e]
                simp (disch := omega) only [upd_n, upd_e]
                rcases (hv v v1).bond a1 with ⟨w1, w2, w3⟩ | ⟨w1, w2⟩
                · rw [if_pos w1, if_neg (show ¬ (I u = f 2 ∧ ¬ f (46 + 8 * v + 5) ≤ 0) from fun z => z.2 w2), w3]
                  split <;> rfl
                · rw [if_neg w1]
                  by_cases w : I u = f 2
                  · have w9 : f (46 + 8 * v + 7) = 0 ∧ I u = f 2 := ⟨q3, w⟩
                    have w8 : I u = f 2 ∧ ¬ f (46 + 8 * v + 5) ≤ 0 := ⟨w, w2⟩
                    rw [if_pos w9, if_pos w8]
                  · rw [if_neg (fun z => w z.2), if_neg (fun z => w z.1)]
              · rw [upd_n _ _ e, upd_n _ _ e]
            rw [t1, bnd_d]
            have same : ∀ i, 14 ≤ i → τ i = σ i := fun i hi => by rw [t3 i (by omega)]; simp (disch := omega) only [up_n]
            by_cases q6 : u = 15
            · subst q6
              rw [if_pos (show I 15 = 15 from rfl), if_pos rfl]
              obtain ⟨τ2, s1, s2, s3⟩ := c_leave hB r3 (ok_step hok v1 hu q3) v1
              rw [s1, bnd_d]
              exact ⟨τ2, rfl, nm1 (by omega), s2, fun i hi _ _ => by rw [s3 i hi, same i hi]⟩
            · rw [if_neg (show ¬ I u = 15 from I_beq (b := 15) (by omega) (by omega) q6), if_neg q6]
              exact ⟨τ, rfl, nm1 (by omega), r3, fun i hi _ _ => same i hi⟩
      · rw [if_neg q3, if_neg q3, hV 2 (by omega)]; exact c_refuse 9 _ (fun _ _ _ => rfl)
    · rw [d3]
      dsimp only
      by_cases q : t < 0
      · rw [if_pos q]; exact c_refuse 1 0 (fun _ _ _ => rfl)
      · rw [if_neg q, if_neg (show ¬ t ≤ 3 from fun z => by
          have := Int32.le_trans (d1.resolve_left q) z
          exact absurd this (by decide))]
        exact c_refuse 1 0 (fun _ _ _ => rfl)
theorem r_walk {σ : Mm} {B : Nat} (hB : B + 9 ≤ 1000000) (x t : Int32) (ho : ok B (σ 199)) : rOk σ (f_X10_walkIt x t σ) (S_walk x t (σ 199)) := by
  obtain ⟨n, m, hok⟩ := ho
  obtain ⟨⟨a1, a2⟩, ⟨b1, b2⟩, hc, hd, hv, mi, le, mo⟩ := id hok
  rw [walk_eq]
  unfold walk2 S_walk
  rw [n_isV b1 b2, bnd_d, f0c b2 b1 (by omega)]
  cases e0 : ix x m with
  | none => dsimp only; rw [if_pos rfl]; exact r_refuse 7 _ (fun _ _ => rfl)
  | some v =>
    obtain ⟨v1, rfl⟩ := ix_lt (by omega) e0
    dsimp only
    rw [if_neg one_ne, n_inN (by omega) (by omega) (show (3 : Int64).toInt = ((4 : Nat) : Int) - 1 by decide), bnd_d]
    cases e1 : ix t 4 with
    | none => dsimp only; rw [if_pos rfl]; exact r_refuse 1 0 (fun _ _ => rfl)
    | some d =>
      obtain ⟨d1, rfl⟩ := ix_lt (by omega) e1
      dsimp only
      rw [if_neg one_ne, n_vAt, bnd_d]
      simp only [I_a1, I_a2, I_a5, I_a6, I_a7, gd_I (show 46 + 8 * v + 1 < 86 by omega) (show 86 < 2147483648 by omega), gd_I (show 46 + 8 * v + 2 < 86 by omega) (show 86 < 2147483648 by omega), gd_I (show 46 + 8 * v + 5 < 86 by omega) (show 86 < 2147483648 by omega), gd_I (show 46 + 8 * v + 6 < 86 by omega) (show 86 < 2147483648 by omega), gd_I (show 46 + 8 * v + 7 < 86 by omega) (show 86 < 2147483648 by omega), I_clamp (show 46 + 8 * v + 1 < 2147483648 by omega), I_clamp (show 46 + 8 * v + 2 < 2147483648 by omega), I_clamp (show 46 + 8 * v + 5 < 2147483648 by omega), I_clamp (show 46 + 8 * v + 6 < 2147483648 by omega), I_clamp (show 46 + 8 * v + 7 < 2147483648 by omega), lt_d]
      rcases (hv v v1).out with w | w
      · rw [if_neg (show ¬ σ 199 (46 + 8 * v + 7) = 1 by rw [w]; decide), if_pos w]
        obtain ⟨⟨ce, ce1, ce2⟩, -⟩ := hv v v1
        rw [ce2, I_clamp (by omega), n_next ce1 d1, bnd_d]
        cases eu : nxN ce d with
        | none =>
          dsimp only
          rw [if_pos (show oI none = -1 from rfl)]
          exact r_refuse 11 _ (fun _ _ => rfl)
        | some u =>
          obtain ⟨hu, g, hg, eg⟩ := nx_lt ce1 d1 eu
          have hg24 := eg.1
          dsimp only
          rw [hg]
          dsimp only
          rw [show oI (some u) = I u from rfl, if_neg (nm1 (by omega)), n_hedge ce1 hu, hg, bnd_d, bnd_d, show o6 (some g) = I (6 + g) from rfl, n_gap hg24, bnd_d]
          by_cases q5 : (5 : Int32) ≤ σ 199 (6 + g)
          · rw [if_neg (show ¬ gapR σ g = true by unfold gapR; simp [q5]), if_pos rfl, if_pos q5, gd_I (by omega) (by omega), I_clamp (by omega)]
            exact r_refuse 12 _ (fun _ _ => rfl)
          · rw [if_pos (show gapR σ g = true by unfold gapR; simp [q5]), if_neg one_ne, if_neg q5]
            have fin : ∀ τ : Mm, τ 199 = stepV v u (σ 199) → (∀ i, i ≠ 199 → τ i = σ i) → rOk σ (wTail (I (46 + 8 * v)) (I u) (I v) τ) (yes (I u) (if u = 15 then leaveV v (stepV v u (σ 199)) else stepV v u (σ 199))) := by
              intro τ h1 h2
              by_cases q6 : u = 15
              · subst q6
                have hs := ok_step hok v1 hu w
                obtain ⟨τ2, s1, s2, s3⟩ := r_leave (σ := τ) a1 (v := v) (by omega) (by rw [h1]; exact hs.2.2.2.2.1 v v1)
                rw [if_pos rfl]
                exact ⟨τ2, s1, by rw [s2, h1], fun i hi _ => by rw [s3 i hi, h2 i hi]⟩
              · rw [if_neg q6]
                unfold wTail
                rw [if_neg (show ¬ I u = 15 from I_beq (b := 15) (by omega) (by omega) q6)]
                exact ⟨τ, rfl, h1, fun i hi _ => h2 i hi⟩
            rw [n_meets (by omega), bnd_d]
            simp only [up_e]
            simp (disch := omega) only [upd_n, upd_e]
            rcases (hv v v1).bond a1 with ⟨w1, w2, w3⟩ | ⟨w1, w2⟩
            · have z0 : ¬ (I u = σ 199 2 ∧ ¬ σ 199 (46 + 8 * v + 5) ≤ 0) := fun z => z.2 w2
              have key : ∀ τ : Mm, τ = up (up (up σ 199 (46 + 8 * v + 1) (I u)) 199 (46 + 8 * v + 2) (σ 199 (46 + 8 * v + 2) + 1)) 199 (46 + 8 * v + 6) (σ 199 (46 + 8 * v + 6)) → rOk σ (wTail (I (46 + 8 * v)) (I u) (I v) τ) (yes (I u) (if u = 15 then leaveV v (stepV v u (σ 199)) else stepV v u (σ 199))) := fun τ hτ => fin τ (by rw [hτ]; unfold stepV; rw [if_neg z0]; simp only [up_e]) (fun i hi => by rw [hτ]; simp only [up_n _ _ _ hi])
              by_cases q : σ 199 (46 + 8 * v + 7) = 0 ∧ I u = σ 199 2
              · rw [if_pos q, if_neg one_ne, if_pos w2]; exact key _ rfl
              · rw [if_neg q, if_pos rfl]; exact key _ rfl
            · by_cases q : σ 199 (46 + 8 * v + 7) = 0 ∧ I u = σ 199 2
              · rw [if_pos q, if_neg one_ne, if_neg w2]
                refine fin _ ?_ (fun i hi => by simp only [up_n _ _ _ hi])
                have z8 : I u = σ 199 2 ∧ ¬ σ 199 (46 + 8 * v + 5) ≤ 0 := ⟨q.2, w2⟩
                unfold stepV
                rw [if_pos z8]
                simp only [up_e]
              · rw [if_neg q, if_pos rfl]
                refine fin _ ?_ (fun i hi => by simp only [up_n _ _ _ hi])
                have z8 : ¬ (I u = σ 199 2 ∧ ¬ σ 199 (46 + 8 * v + 5) ≤ 0) := fun z => q ⟨w, z.1⟩
                unfold stepV
                rw [if_neg z8]
                simp only [up_e]
      · rw [if_pos w, if_neg (show ¬ σ 199 (46 + 8 * v + 7) = 0 by rw [w]; decide)]; exact r_refuse 9 _ (fun _ _ => rfl)
theorem ok_walk {B : Nat} (hB : B + 9 ≤ 1000000) {f g : Fm} {x t r : Int32} (ho : ok B f) (h : S_walk x t f = .inl (r, g)) : ok (B + 9) g := by
  obtain ⟨n, m, hok⟩ := ho
  obtain ⟨⟨a1, a2⟩, ⟨b1, b2⟩, hc, hd, hv, mi, le, mo⟩ := id hok
  unfold S_walk at h
  rw [f0c b2 b1 (by omega)] at h
  cases e0 : ix x m with
  | none => rw [e0] at h; cases h
  | some v =>
    obtain ⟨v1, rfl⟩ := ix_lt (by omega) e0
    rw [e0] at h
    dsimp only at h
    cases e1 : ix t 4 with
    | none => rw [e1] at h; cases h
    | some d =>
      obtain ⟨d1, rfl⟩ := ix_lt (by omega) e1
      rw [e1] at h
      dsimp only at h
      split at h
      case isFalse => cases h
      rename_i q3
      obtain ⟨⟨ce, ce1, ce2⟩, -⟩ := hv v v1
      rw [ce2, I_clamp (by omega)] at h
      cases eu : nxN ce d with
      | none => rw [eu] at h; cases h
      | some u =>
        obtain ⟨hu, k, hk, ek⟩ := nx_lt ce1 d1 eu
        rw [eu] at h
        dsimp only at h
        rw [hk] at h
        dsimp only at h
        split at h
        · cases h
        · cases h
          have hs := ok_step hok v1 hu q3
          split
          · exact ⟨n, m, ok_leave hB hs v1⟩
          · exact ⟨n, m, hs⟩
