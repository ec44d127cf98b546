/-! VISITORS who come -/
def cX (f : Fm) (h : Nat) : Option Nat := if (5 : Int32) ≤ f (6 + h) then none else some 1
def gX (f : Fm) (h : Nat) : Bool := !decide ((5 : Int32) ≤ f (6 + h))
theorem rep.toC {σ : Mm} {f : Fm} (h : rep 0 σ f) : ∀ g, g < 24 → cH σ g = cX f g := fun g hg => by unfold cH cX; rw [h.getL hg]
theorem rep.toG {σ : Mm} {f : Fm} (h : rep 0 σ f) : ∀ g, g < 24 → gC σ g = gX f g := fun g hg => by unfold gC gX; rw [h.getL hg]
theorem cR_cX (σ : Mm) : ∀ g, g < 24 → cR σ false g = cX (σ 199) g := fun g _ => by
  unfold cR cX gapR
  by_cases q : (5 : Int32) ≤ σ 199 (6 + g) <;> simp [q]
noncomputable def dX (f : Fm) (s v : Nat) : Nat := dst (cX f) s v
theorem dX_lt (f : Fm) {s v : Nat} (hs : s < 16) : dX f s v ≤ 15 ∨ dX f s v = 1000 := dst_lt (fun h w q => by
  unfold cX at q
  split at q
  · cases q
  · cases q; exact Nat.le_refl _) hs
theorem c_hours {σ : Mm} {f : Fm} (h : rep 0 σ f) {s v : Nat} (hs : s < 16) (hv : v < 16) : ∃ τ, f_X8_hoursByDistance (I s) (I v) σ = some (I (dX f s v), τ) ∧ ∀ a, a ≠ 159 → a ≠ 160 → τ a = σ a := by
  obtain ⟨τ, t1, t2⟩ := m_hours (σ := σ) hs hv
  exact ⟨τ, by rw [t1, dst_congr h.toC]; rfl, t2⟩
theorem r_hours {σ : Mm} {s v : Nat} (hs : s < 16) (hv : v < 16) : ∃ τ, f_X10_hoursOf (I s) (I v) σ = some (if dX (σ 199) s v < 1000 then I (dX (σ 199) s v) else -1, τ) ∧ ∀ a, a ≠ 204 → τ a = σ a := by
  obtain ⟨τ, t1, t2⟩ := n_hours (σ := σ) hs hv
  exact ⟨τ, by rw [t1, dst_congr (cR_cX σ)]; rfl, t2⟩
/-- the set of the cells that are reached, how many they are -/
noncomputable def setX (f : Fm) : Int32 := @dite _ (∃ x : Int32, ∀ u, bit x u = true ↔ rp (gX f) 0 u) (Classical.propDecidable _) (fun h => h.choose) (fun _ => 0)
theorem setX_is {f : Fm} {x : Int32} {p : Nat → Bool} (hp : ∀ g, g < 24 → p g = gX f g) (h : ∀ u, bit x u = true ↔ rp p 0 u) : setX f = x := by
  have hx : ∃ x : Int32, ∀ u, bit x u = true ↔ rp (gX f) 0 u := ⟨x, fun u => by rw [h u, rp_congr hp]⟩
  unfold setX
  rw [dif_pos hx]
  exact set_eq hx.choose_spec h (fun g hg => (hp g hg).symm)
noncomputable def cntX (f : Fm) : Int32 := match f_X10_ones (setX f) (fun _ _ => 0) with
  | none => 0
  | some n => n
theorem ones_ind (x : Int32) (σ τ : Mm) : f_X10_ones x σ = f_X10_ones x τ := by
  have k : ∀ n v g, f_X10_ones_l4 x σ n v g = f_X10_ones_l4 x τ n v g := by
    intro n
    induction n with
    | zero => intro v g; rfl
    | succ n ih =>
      intro v g
      rw [f_X10_ones_l4, f_X10_ones_l4]
      split
      · rfl
      · rw [lt_d, lt_d, lt_d, lt_d]; exact ih _ _
  unfold f_X10_ones; exact k _ _ _
theorem ones_ex (x : Int32) (σ : Mm) : ∃ n, f_X10_ones x σ = some n := by
  obtain ⟨g, q1, -⟩ := loopI (fun n v g => f_X10_ones_l4 x σ n v g) (fun g => some g) 16 (fun _ (_ : Int32) => True) (by
      intro n g _
      rw [f_X10_ones_l4, if_pos (show (16 : Int32) ≤ I 16 by decide)]) (by
      intro n v g hv _
      have e1 : I v + 1 = I (v + 1) := I_add v 1
      refine ⟨g + ((x >>> (I v &&& 31)) &&& 1), ?_, trivial⟩
      rw [f_X10_ones_l4, if_neg (show ¬ (16 : Int32) ≤ I v from nle (N := 16) hv (by omega)), lt_d, lt_d, e1]) 16 0 20 0 rfl (by omega) trivial
  exact ⟨g, q1⟩
theorem cntX_is (f : Fm) (τ : Mm) : f_X10_ones (setX f) τ = some (cntX f) := by
  rw [ones_ind _ τ (fun _ _ => 0)]
  unfold cntX
  obtain ⟨n, hn⟩ := ones_ex (setX f) (fun _ _ => 0)
  rw [hn]
noncomputable def S_visi (c : Int32) (f : Fm) : Rs := match ix c 100 with
  | none => no 1 0
  | some _ => if f 1 = 5 then no 13 5 else if dX f 0 15 < 1000 then yes (f 1) (upd (upd (upd (upd (upd f (46 + 8 * (f 1).toNatClampNeg) c) (46 + 8 * (f 1).toNatClampNeg + 3) (I (dX f 0 15))) (46 + 8 * (f 1).toNatClampNeg + 4) (-1)) 4 (f 4 + c)) 1 (f 1 + 1)) else no 6 (cntX f)
theorem c_visi {σ : Mm} {f : Fm} {B : Nat} (c : Int32) (h : rep 0 σ f) (ho : ok B f) : cOk σ (f_X3_admitVisitor c σ) (S_visi c f) := by
  obtain ⟨n, m, ⟨a1, a2⟩, ⟨b1, b2⟩, hc, hd, hv, mi, le, mo⟩ := ho
  unfold f_X3_admitVisitor S_visi
  rcases ix_cases c (N := 100) (by omega) with ⟨x, h1, h2, h3⟩ | ⟨h1, h3⟩
  · rw [h3]
    dsimp only
    rw [if_neg (show ¬ c < 0 by rw [h2]; exact I_n0 (by omega)), if_pos (show c ≤ 99 by rw [h2]; exact (I_le (b := 99) (by omega) (by omega)).mpr (by omega)), lt_d, show σ 0 4 = f 1 from h.get0 (k := 1) (by omega)]
    by_cases q : m = 5
    · rw [if_neg (show ¬ f 1 < 5 by rw [b2, q]; decide), if_pos (show f 1 = 5 by rw [b2, q]; rfl)]
      exact c_refuse 13 5 (fun _ _ _ => rfl)
    · have hm : m < 5 := by omega
      rw [if_pos (show f 1 < 5 by rw [b2]; exact (I_lt (b := 5) (by omega) (by omega)).mpr hm), if_neg (show ¬ f 1 = 5 by rw [b2]; exact I_beq (b := 5) (by omega) (by omega) q)]
      obtain ⟨τ, t1, t2⟩ := c_hours h (s := 0) (v := 15) (by omega) (by omega)
      have t1 : f_X8_hoursByDistance 0 15 σ = some (I (dX f 0 15), τ) := t1
      rw [t1, bnm_d]
      have hr : rep 0 τ f := h.move (fun a _ ha => t2 a (by omega) (by omega))
      by_cases w : dX f 0 15 < 1000
      · rw [if_pos (show I (dX f 0 15) < 1000 from (I_lt (b := 1000) (by omega) (by omega)).mpr w), if_pos w]
        rw [b2, gd_I hm (by omega), I_clamp (by omega), show 8 + 1 + m = 9 + m by omega]
        unfold f_X7_arrive f_X7_endBond
        simp only [lt_d, bnd_d]
        have g4 : τ 0 4 = I m := (hr.get0 (k := 1) (by omega)).trans b2
        have g7 : τ 0 7 = f 4 := hr.get0 (k := 4) (by omega)
        obtain ⟨ρ, hρ⟩ : ∃ ρ, ρ = up (up (up (up (up (up (up (up (up (up τ (9 + m) 0 c) (9 + m) 1 0) (9 + m) 2 0) (9 + m) 3 (I (dX f 0 15))) (9 + m) 7 0) (9 + m) 4 (-1)) (9 + m) 5 0) (9 + m) 6 0) 0 4 (I m + 1)) 0 7 (f 4 + c) := ⟨_, rfl⟩
        refine ⟨ρ, ?_, nm1 (by omega), ?_, fun i hi j1 j2 => ?_⟩
        · rw [hρ]
          simp (disch := omega) only [up_e, up_n, upd_e, upd_n, g4, g7]
        · obtain ⟨r1, r2, r3, r4⟩ := hr
          obtain ⟨f', hf'⟩ : ∃ f', f' = upd (upd (upd (upd (upd f (46 + 8 * m) c) (46 + 8 * m + 3) (I (dX f 0 15))) (46 + 8 * m + 4) (-1)) 4 (f 4 + c)) 1 (I m + 1) := ⟨_, rfl⟩
          rw [← hf']
          have f1' : f' 1 = I (m + 1) := by rw [hf', upd_e, I_a1]
          refine ⟨fun k hk => ?_, fun k hk => ?_, fun g hg k hk => ?_, fun v hvv k hk => ?_⟩
          · rw [hρ, hf']
            rcases (show k = 1 ∨ k = 4 ∨ (k ≠ 1 ∧ k ≠ 4) by omega) with e | e | ⟨e1, e2⟩
            · subst e; simp (disch := omega) only [up_e, up_n, upd_e, upd_n]
            · subst e; simp (disch := omega) only [up_e, up_n, upd_e, upd_n]
            · simp (disch := omega) only [up_e, up_n, upd_e, upd_n]; exact r1 k hk
          · rw [hρ, hf']
            simp (disch := omega) only [up_n, upd_n]; exact r2 k hk
          · rw [hρ, hf']
            simp (disch := omega) only [up_n, upd_n]; exact r3 g hg k hk
          · by_cases e : v = m
            · subst e
              unfold cv
              rw [f1', if_neg (fun z => nle (Nat.lt_succ_self v) (by omega) z.2), show 0 + 9 + v = 9 + v by omega, hρ, hf']
              have z := hd v (Nat.le_refl _) hm
              rcases (show k = 0 ∨ k = 1 ∨ k = 2 ∨ k = 3 ∨ k = 4 ∨ k = 5 ∨ k = 6 ∨ k = 7 by omega) with e | e | e | e | e | e | e | e <;> subst e
              · rw [show 46 + 8 * v + 0 = 46 + 8 * v from rfl]
                simp (disch := omega) only [up_e, up_n, upd_e, upd_n]
              · simp (disch := omega) only [up_e, up_n, upd_e, upd_n]; exact (z 1 (by omega)).symm
              · simp (disch := omega) only [up_e, up_n, upd_e, upd_n]; exact (z 2 (by omega)).symm
              · simp (disch := omega) only [up_e, up_n, upd_e, upd_n]
              · simp (disch := omega) only [up_e, up_n, upd_e, upd_n]
              · simp (disch := omega) only [up_e, up_n, upd_e, upd_n]; exact (z 5 (by omega)).symm
              · simp (disch := omega) only [up_e, up_n, upd_e, upd_n]; exact (z 6 (by omega)).symm
              · simp (disch := omega) only [up_e, up_n, upd_e, upd_n]; exact (z 7 (by omega)).symm
            · have z := r4 v hvv k hk
              have e2 : cv f' v k = cv f v k := by
                unfold cv
                rw [f1', b2]
                have e3 : f' (46 + 8 * v + k) = f (46 + 8 * v + k) := by rw [hf']; simp (disch := omega) only [upd_n]
                rw [e3]
                by_cases y : v < m
                · rw [if_neg (fun u => nle (show v < m + 1 by omega) (by omega) u.2), if_neg (fun u => nle y (by omega) u.2)]
                · have y1 : I (m + 1) ≤ I v := (I_le (by omega) (by omega)).mpr (by omega)
                  have y2 : I m ≤ I v := (I_le (by omega) (by omega)).mpr (by omega)
                  by_cases u : k = 4
                  · have u1 : k = 4 ∧ I (m + 1) ≤ I v := ⟨u, y1⟩
                    have u2 : k = 4 ∧ I m ≤ I v := ⟨u, y2⟩
                    rw [if_pos u1, if_pos u2]
                  · rw [if_neg (fun t => u t.1), if_neg (fun t => u t.1)]
              rw [e2, ← z, hρ]
              simp (disch := omega) only [up_n]
        · rw [hρ]
          simp (disch := omega) only [up_n]
          exact t2 i j1 j2
      · have w1000 : dX f 0 15 = 1000 := by rcases dX_lt f (s := 0) (v := 15) (by omega) with z | z <;> omega
        rw [if_neg (show ¬ I (dX f 0 15) < 1000 by rw [w1000]; decide), if_neg w]
        obtain ⟨q1, q2, q3⟩ := m_reach (σ := τ) (s := 0) (by omega)
        have q2 : f_X8_cellsReached 0 τ = some q1 := q2
        have e1 : setX f = q1 := setX_is hr.toG q3
        rw [q2, bnd_d, cnt_eq (τ := τ) (fun v hv => by
          cases z : bit q1 v with
          | false => rfl
          | true => exact absurd (rch_lt (by omega) ((q3 v).mp z)) (by omega)), ← e1, cntX_is, bnd_d]
        exact c_refuse 6 _ (fun i j1 j2 => t2 i j1 j2)
  · rw [h3]
    dsimp only
    by_cases q : c < 0
    · rw [if_pos q]; exact c_refuse 1 0 (fun _ _ _ => rfl)
    · rw [if_neg q, if_neg (show ¬ c ≤ 99 from fun z => by
        have := Int32.le_trans (h1.resolve_left q) z
        exact absurd this (by decide))]
      exact c_refuse 1 0 (fun _ _ _ => rfl)
theorem r_visi {σ : Mm} {B : Nat} (c : Int32) (ho : ok B (σ 199)) : rOk σ (f_X10_visitorIt c σ) (S_visi c (σ 199)) := by
  obtain ⟨n, m, ⟨a1, a2⟩, ⟨b1, b2⟩, -⟩ := ho
  unfold f_X10_visitorIt S_visi
  rw [n_inN (by omega) (by omega) (show (99 : Int64).toInt = ((100 : Nat) : Int) - 1 by decide), bnd_d]
  cases e3 : ix c 100 with
  | none => dsimp only; rw [if_pos rfl]; exact r_refuse 1 0 (fun _ _ => rfl)
  | some x =>
    dsimp only
    rw [if_neg one_ne]
    by_cases q : m = 5
    · rw [if_pos (show σ 199 1 = 5 by rw [b2, q]; rfl), if_pos (show σ 199 1 = 5 by rw [b2, q]; rfl)]
      exact r_refuse 13 5 (fun _ _ => rfl)
    · have hm : m < 5 := by omega
      have ne : ¬ σ 199 1 = 5 := by rw [b2]; exact I_beq (b := 5) (by omega) (by omega) q
      rw [if_neg ne, if_neg ne]
      obtain ⟨τ, t1, t2⟩ := r_hours (σ := σ) (s := 0) (v := 15) (by omega) (by omega)
      have t1 : f_X10_hoursOf 0 15 σ = _ := t1
      rw [t1, bnm_d]
      have e199 : τ 199 = σ 199 := t2 199 (by omega)
      by_cases w : dX (σ 199) 0 15 < 1000
      · rw [if_pos w, if_neg (nm1 (by omega)), if_pos w, e199, b2, n_vAt, bnd_d, I_clamp (show m < 2147483648 by omega)]
        simp only [I_a3, I_a4, gd_I (show 46 + 8 * m < 86 by omega) (show 86 < 2147483648 by omega), gd_I (show 46 + 8 * m + 3 < 86 by omega) (show 86 < 2147483648 by omega), gd_I (show 46 + 8 * m + 4 < 86 by omega) (show 86 < 2147483648 by omega), I_clamp (show 46 + 8 * m < 2147483648 by omega), I_clamp (show 46 + 8 * m + 3 < 2147483648 by omega), I_clamp (show 46 + 8 * m + 4 < 2147483648 by omega), lt_d]
        obtain ⟨ρ, hρ⟩ : ∃ ρ, ρ = up (up (up (up (up τ 199 (46 + 8 * m) c) 199 (46 + 8 * m + 3) (I (dX (σ 199) 0 15))) 199 (46 + 8 * m + 4) (-1)) 199 4 (σ 199 4 + c)) 199 1 (I m + 1) := ⟨_, rfl⟩
        refine ⟨ρ, ?_, ?_, fun i j1 j2 => ?_⟩
        · rw [hρ]
          simp (disch := omega) only [up_e, upd_e, upd_n, e199, b2]
          rw [show I m + 1 = I (m + 1) from I_add m 1, show I (m + 1) - 1 = I m from I_sub (b := 1) (by omega)]
        · rw [hρ]
          simp only [up_e, e199]
        · rw [hρ]
          simp only [up_n _ _ _ j1]
          exact t2 i j2
      · rw [if_neg w, if_pos rfl, if_neg w]
        obtain ⟨q1, ρ, p1, p2, p3⟩ := n_reach (σ := τ) (s := 0) (by omega)
        have p1 : f_X10_reachedFrom 0 τ = some (q1, ρ) := p1
        have e1 : setX (σ 199) = q1 := setX_is (fun g hg => by unfold gapR gX; rw [e199]) p2
        rw [p1, bnm_d, ← e1, cntX_is, bnd_d]
        exact r_refuse 6 _ (fun i j => by rw [p3 i j, t2 i j])
theorem ok_visi {B : Nat} {f g : Fm} {x r : Int32} (ho : ok B f) (h : S_visi x f = .inl (r, g)) : ok (B + 9) g := by
  obtain ⟨n, m, ⟨a1, a2⟩, ⟨b1, b2⟩, hc, hd, hv, mi, le, c, d, mo1, mo2, mo3⟩ := ho
  unfold S_visi at h
  cases e0 : ix x 100 with
  | none => rw [e0] at h; cases h
  | some y =>
    obtain ⟨y1, rfl⟩ := ix_lt (by omega) e0
    rw [e0] at h
    dsimp only at h
    split at h
    · cases h
    · rename_i q
      split at h
      case isFalse => cases h
      rename_i w
      cases h
      have hm : m < 5 := by
        rcases Nat.lt_or_ge m 5 with z | z
        · exact z
        · exact absurd (by rw [b2, show m = 5 by omega]; rfl) q
      have w15 : dX f 0 15 ≤ 15 := by rcases dX_lt f (s := 0) (v := 15) (by omega) with z | z <;> omega
      rw [b2, I_clamp (by omega), show I m + 1 = I (m + 1) from I_add m 1]
      have z := hd m (Nat.le_refl _) hm
      refine ⟨n, m + 1, ⟨a1, ?_⟩, ⟨by omega, ?_⟩, fun i h1 h2 k2 hk2 => ?_, fun i h1 h2 k2 hk2 => ?_, fun i hi => ?_, ?_, fun i hi => ?_, ?_⟩
      · simp (disch := omega) only [upd_n]; exact a2
      · rw [upd_e]
      · simp (disch := omega) only [upd_n]; exact hc i h1 h2 k2 hk2
      · simp (disch := omega) only [upd_n]; exact hd i (by omega) h2 k2 hk2
      · by_cases e2 : i = m
        · subst e2
          unfold okV
          simp (disch := omega) only [upd_n, upd_e]
          refine ⟨⟨0, by omega, z 1 (by omega)⟩, ⟨0, by omega, z 2 (by omega)⟩, ⟨_, w15, rfl⟩, Or.inl ⟨?_, z 5 (by omega), z 6 (by omega), Or.inl (z 7 (by omega))⟩⟩
          first | rfl | trivial
        · refine ((hv i (by omega)).mono (by omega) (Nat.le_refl _)).same (fun k2 h1 h2 => ?_)
          simp (disch := omega) only [upd_n]
      · simp (disch := omega) only [upd_n]; exact mi
      · simp (disch := omega) only [upd_n]; exact le i hi
      · have z1 := mo2 m hm
        have z2 : d m = 0 := by
          have := S5_le (c := d) (g := m) hm
          have e : I (d m) = I 0 := by rw [← z1]; exact z 0 (by omega)
          exact (I_eq (by omega) (by omega)).mp e
        refine money.same (f := upd f (46 + 8 * m) (I y)) (money.setV (n := n) (m := m) mo1 mo2 (by omega) (by omega)) (fun i hi => ?_) (fun i hi => ?_)
        · simp (disch := omega) only [upd_n]
        · by_cases e2 : i = m
          · subst e2; simp (disch := omega) only [upd_n, upd_e]
          · simp (disch := omega) only [upd_n]
