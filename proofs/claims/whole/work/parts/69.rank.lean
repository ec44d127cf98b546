/-! WHAT A BOND WOULD PAY, ORDERS, ACCOUNTS -/
theorem n_paysL {σ : Mm} {B n v : Nat} (hn : n ≤ 4) (hv : v < 5) (h : okV B n (σ 199) v) (l : Int32) : f_X10_pays (I v) l σ = some (if σ 199 (46 + 8 * v + 4) = -1 then 0 else if σ 199 (46 + 8 * v + 6) = 1 then 0 else if σ 199 (30 + 4 * (σ 199 (46 + 8 * v + 4)).toNatClampNeg) < σ 199 (46 + 8 * v + 5) * l then σ 199 (30 + 4 * (σ 199 (46 + 8 * v + 4)).toNatClampNeg) else σ 199 (46 + 8 * v + 5) * l) := by
  unfold f_X10_pays
  rw [n_vAt, bnd_d]
  simp only [I_a4, I_a5, I_a6, gd_I (show 46 + 8 * v + 4 < 86 by omega) (show 86 < 2147483648 by omega), gd_I (show 46 + 8 * v + 5 < 86 by omega) (show 86 < 2147483648 by omega), gd_I (show 46 + 8 * v + 6 < 86 by omega) (show 86 < 2147483648 by omega), I_clamp (show 46 + 8 * v + 4 < 2147483648 by omega), I_clamp (show 46 + 8 * v + 5 < 2147483648 by omega), I_clamp (show 46 + 8 * v + 6 < 2147483648 by omega)]
  rcases h.2.2.2 with ⟨a, -⟩ | ⟨⟨g, g1, g2⟩, -⟩
  · rw [if_pos a, if_pos a]
  · have ne : ¬ σ 199 (46 + 8 * v + 4) = -1 := by rw [g2]; exact nm1 (by omega)
    rw [if_neg ne, if_neg ne]
    by_cases w : σ 199 (46 + 8 * v + 6) = 1
    · rw [if_pos w, if_pos w]
    · rw [if_neg w, if_neg w, g2, n_gAt, bnd_d, gd_I (by omega) (by omega), I_clamp (by omega), I_clamp (by omega)]
theorem ix_m1 (n : Nat) : ix (-1) n = none := if_pos (Or.inl (by decide))
theorem q_wouldPay {σ : Mm} {B : Nat} (R : RR B σ) (a : Int32) : ∃ out τ, f_X9_wouldPay a σ = some (out, τ) ∧ ∃ r ρ, f_X10_wouldPay a τ = some (r, ρ) ∧ RR B ρ ∧ same2 out 1 2 r (ρ 198 12) := by
  obtain ⟨f, hf⟩ : ∃ f, f = σ 199 := ⟨_, rfl⟩
  have h : rep 0 σ f := by rw [hf]; exact R.1
  obtain ⟨n, m, ho⟩ : ok B f := by rw [hf]; exact R.2.1
  have hn := ho.1.1
  have hm := ho.2.1.1
  unfold f_X9_wouldPay f_X10_wouldPay
  rw [c_vask h ho]
  cases e : ix a m with
  | none =>
    dsimp only
    rw [xb_n]
    refine ⟨_, _, rfl, ?_⟩
    rw [lt_d, n_isV hm (by rw [thr199, ← hf]; exact ho.2.1.2), e, bnd_d]
    dsimp only
    rw [if_pos rfl, r_thr, bnm_d]
    exact ⟨_, _, rfl, (R.thr 0).thr 1, Or.inl ⟨rfl, thr12 _ _⟩⟩
  | some v =>
    obtain ⟨v1, rfl⟩ := ix_lt (by omega) e
    have ov := ho.2.2.2.2.1 v v1
    have hfv := hfI ho.2.1.2 hm v1
    obtain ⟨c, c1, c2⟩ := ov.1
    have G := fun k (hk : k < 8) => h.getV (v := v) (k := k) (by omega) hk hfv
    dsimp only
    rw [xb_d, oc_e, G 4 (by omega)]
    -- the reference, up to its search
    have ref : ∀ (τ : Mm) (P : Option (Int32 × Mm) → Prop), (∀ a, a ≠ 159 → a ≠ 160 → τ a = σ a) →
        (∀ ρ, RR B ρ → ρ 199 = f → ρ 198 12 = 0 → P (if (if f (46 + 8 * v + 4) = -1 then (0 : Int32) else 1) = 0 then (bnm (f_X10_throwing 2 ρ) fun q9 σ10 => some (q9, σ10)) else (if (if dX f c 15 < 1000 then I (dX f c 15) else -1) = (-1) then (bnm (f_X10_throwing 2 ρ) fun q13 σ14 => some (q13, σ14)) else (bnd (f_X10_pays (I v) (if 0 < ((f (46 + 8 * v + 2) + (if dX f c 15 < 1000 then I (dX f c 15) else -1)) - f (46 + 8 * v + 3)) then ((f (46 + 8 * v + 2) + (if dX f c 15 < 1000 then I (dX f c 15) else -1)) - f (46 + 8 * v + 3)) else 0) ρ) fun q12 => some (q12, ρ))))) →
        P (lt (up τ 198 12 0) fun σ1 => bnd (f_X10_isVisitor (I v) σ1) fun q2 => if q2 = 0 then (bnm (f_X10_throwing 1 σ1) fun q15 σ16 => some (q15, σ16)) else (bnd (f_X10_visitorAt (I v) σ1) fun q4 => gd (q4 + 1) 86 (bnm (f_X10_hoursOf (σ1 199 (q4 + 1).toNatClampNeg) 15 σ1) fun q5 σ6 => bnd (f_X10_lasts (I v) σ6) fun q7 => if q7 = 0 then (bnm (f_X10_throwing 2 σ6) fun q9 σ10 => some (q9, σ10)) else (if q5 = (-1) then (bnm (f_X10_throwing 2 σ6) fun q13 σ14 => some (q13, σ14)) else (gd (q4 + 2) 86 (gd (q4 + 3) 86 (bnd (f_X10_pays (I v) (if 0 < (((σ6 199 (q4 + 2).toNatClampNeg) + q5) - (σ6 199 (q4 + 3).toNatClampNeg)) then (((σ6 199 (q4 + 2).toNatClampNeg) + q5) - (σ6 199 (q4 + 3).toNatClampNeg)) else 0) σ6) fun q12 => some (q12, σ6)))))))) := by
      intro τ P ht k
      have e199 : (up τ 198 12 0) 199 = f := by rw [thr199, ht 199 (by omega) (by omega), hf]
      obtain ⟨τ1, t1, t2⟩ := r_hours (σ := up τ 198 12 0) (s := c) (v := 15) c1 (by omega)
      have t1 : f_X10_hoursOf (I c) 15 (up τ 198 12 0) = _ := t1
      rw [e199] at t1
      have z199 : τ1 199 = f := by rw [t2 199 (by omega), e199]
      have Rτ : RR B τ1 := R.same (fun a h1 h2 h3 h4 => by rw [t2 a h4, up_n _ _ _ h3, ht a h1 h2]) (fun k hk => by rw [t2 198 (by omega), up_e, upd_n _ _ hk, ht 198 (by omega) (by omega)])
      have z12 : τ1 198 12 = 0 := by rw [t2 198 (by omega), up_e, upd_e]
      rw [lt_d, n_isV hm (by rw [e199]; exact ho.2.1.2), e, bnd_d]
      dsimp only
      rw [if_neg one_ne, n_vAt, bnd_d, I_a1, I_a2, I_a3, gd_I (show 46 + 8 * v + 1 < 86 by omega) (by omega), I_clamp (show 46 + 8 * v + 1 < 2147483648 by omega), e199, c2, t1, bnm_d, n_lasts (σ := τ1) hn (by omega) (by rw [z199]; exact ov), bnd_d, gd_I (show 46 + 8 * v + 2 < 86 by omega) (by omega), gd_I (show 46 + 8 * v + 3 < 86 by omega) (by omega), I_clamp (show 46 + 8 * v + 2 < 2147483648 by omega), I_clamp (show 46 + 8 * v + 3 < 2147483648 by omega), z199]
      exact k τ1 Rτ z199 z12
    rcases ov.2.2.2 with ⟨b1, -⟩ | ⟨⟨g, g1, g2⟩, ⟨r, -, -, r3⟩, v01, w0⟩
    · rw [b1, m_findG h hn ho.1.2, ix_m1, bnd_d]
      dsimp only
      rw [oc_d, show ∀ x : Option ((Int32 ⊕ Nat) × Mm), (if σ (9 + v) 7 = 0 then x else x) = x from fun x => by by_cases q : σ (9 + v) 7 = 0 <;> simp [q]]
      refine ⟨_, _, rfl, ?_⟩
      refine ref σ (fun o => ∃ r ρ, o = some (r, ρ) ∧ RR B ρ ∧ same2 (Sum.inr 2) 1 2 r (ρ 198 12)) (fun _ _ _ => rfl) (fun ρ k1 k2 k3 => ?_)
      rw [if_pos b1, if_pos rfl, r_thr, bnm_d]
      exact ⟨_, _, rfl, k1.thr 2, Or.inr ⟨rfl, thr12 _ _⟩⟩
    · have nb1 : ¬ f (46 + 8 * v + 4) = -1 := by rw [g2]; exact nm1 (by omega)
      rw [g2, m_findG h hn ho.1.2, ix_I g1 (by omega), bnd_d]
      dsimp only
      rw [oc_e, G 7 (by omega), if_pos w0, G 1 (by omega), c2]
      obtain ⟨τ, t1, t2⟩ := c_hours h c1 (v := 15) (by omega)
      have t1 : f_X8_hoursByDistance (I c) 15 σ = _ := t1
      have hτ : rep 0 τ f := h.move (fun a _ z => t2 a (by omega) (by omega))
      rw [t1, bnm_d]
      unfold f_X9_demandWay
      rcases dX_lt f (s := c) (v := 15) c1 with q | q
      · rw [if_pos (show I (dX f c 15) < 1000 from (I_lt (b := 1000) (by omega) (by omega)).mpr (by omega)), xb_d]
        have due : f_X7_dueAfter (9 + v) (I (dX f c 15)) τ = some (if f (46 + 8 * v + 6) = 0 then f (46 + 8 * v + 5) * (if 0 < f (46 + 8 * v + 2) + I (dX f c 15) - f (46 + 8 * v + 3) then f (46 + 8 * v + 2) + I (dX f c 15) - f (46 + 8 * v + 3) else 0) else 0) := by
          unfold f_X7_dueAfter f_X7_lostAfter
          rw [hτ.getV (by omega) (by omega) hfv, hτ.getV (by omega) (by omega) hfv, hτ.getV (by omega) (by omega) hfv, hτ.getV (by omega) (by omega) hfv]
          by_cases z : f (46 + 8 * v + 6) = 0
          · rw [if_pos z, if_pos z, bnd_d]
          · rw [if_neg z, if_neg z]
        rw [due, bnd_d, show τ (4 + g) 0 = f (30 + 4 * g) from hτ.getG (k := 0) (by omega) (by omega)]
        refine ⟨_, _, rfl, ?_⟩
        refine ref τ (fun o => ∃ r ρ, o = some (r, ρ) ∧ RR B ρ ∧ same2 (Sum.inl _) 1 2 r (ρ 198 12)) t2 (fun ρ k1 k2 k3 => ?_)
        rw [if_neg nb1, if_neg one_ne, if_pos (show dX f c 15 < 1000 by omega), if_neg (nm1 (by omega)), n_paysL hn (by omega) (by rw [k2]; exact ov), bnd_d]
        refine ⟨_, ρ, rfl, k1, k3, ?_⟩
        rw [k2, if_neg nb1, g2, I_clamp (by omega)]
        obtain ⟨cc, dd, m1, m2, m3⟩ := ho.2.2.2.2.2.2.2
        rcases v01 with z | z
        · rw [z, if_neg zero_ne, if_pos rfl]
        · rw [z, if_pos rfl, if_neg one_ne, m1 g (by omega), if_neg (I_n0 (by have := S4_le (c := cc) (g := g) (by omega); omega))]
      · rw [q, if_neg (show ¬ I 1000 < 1000 by decide), xb_n]
        refine ⟨_, _, rfl, ?_⟩
        refine ref τ (fun o => ∃ r ρ, o = some (r, ρ) ∧ RR B ρ ∧ same2 (Sum.inr 2) 1 2 r (ρ 198 12)) t2 (fun ρ k1 k2 k3 => ?_)
        rw [if_neg nb1, if_neg one_ne, if_neg (show ¬ dX f c 15 < 1000 by omega), if_pos rfl, r_thr, bnm_d]
        exact ⟨_, _, rfl, k1.thr 2, Or.inr ⟨rfl, thr12 _ _⟩⟩
/-! orders -/
def aheadB (x : Int32) (v r : Nat) : Int32 := if 0 < x then 1 else if x = 0 then (if I v ≤ I r then 0 else 1) else 0
def findP (h : Nat → Int32) (x : Int32) : Nat → Nat → Option Nat
  | 0, _ => none
  | d + 1, i => if h i = x then some i else findP h x d (i + 1)
theorem m_ahead {σ : Mm} {f : Fm} {B n m v : Nat} (h : rep 0 σ f) (ho : okC B n m f) (hv : v < m) (w : Int32) : f_X6_visitorsAhead (I v) w σ = some (sm (fun r => aheadB (numV r w f - numV v w f) v r) m) := by
  have hm := ho.2.1.1
  have h4 : σ 0 4 = I m := (h.get0 (k := 1) (by omega)).trans ho.2.1.2
  unfold f_X6_visitorsAhead
  rw [m_findV h hm ho.2.1.2, ix_I hv (by omega), bnd_d]
  dsimp only
  rw [oc_e]
  have k := loopS (F := f_X6_visitorsAhead_l12b (9 + v) (I v) w σ) (K := fun x => some x) m hm (fun r => aheadB (numV r w f - numV v w f) v r) 0 (fun n x => by
      rw [f_X6_visitorsAhead_l12b, h4, if_pos ((I_le (by omega) (by omega)).mpr (Nat.le_refl _))]) (fun n r x hr => by
      rw [f_X6_visitorsAhead_l12b, h4, if_neg (nle hr (by omega)), gd_I (by omega) (by omega), I_clamp (by omega), show 8 + 1 + r = 9 + r by omega, m_num h ho hr, bnd_d, m_num h ho hv, bnd_d, lt_d, I_a1]
      unfold aheadB
      by_cases q : 0 < numV r w f - numV v w f
      · rw [if_pos q, if_pos q]; rfl
      · rw [if_neg q, if_neg q]
        by_cases q2 : numV r w f - numV v w f = 0
        · rw [if_pos q2, if_pos q2]
          by_cases q3 : I v ≤ I r
          · rw [if_pos q3, if_pos q3, Int32.add_zero]; rfl
          · rw [if_neg q3, if_neg q3]; rfl
        · rw [if_neg q2, if_neg q2, Int32.add_zero]; rfl)
  rw [k, Int32.zero_add]
theorem c_placed {σ : Mm} {f : Fm} {B n m : Nat} (h : rep 0 σ f) (ho : okC B n m f) (w x : Int32) : f_X9_visitorPlaced w x σ = some (match findP (fun v => sm (fun r => aheadB (numV r w f - numV v w f) v r) m) x m 0 with | none => .inr 2 | some k => .inl (I k), σ) := by
  have hm := ho.2.1.1
  have h4 : σ 0 4 = I m := (h.get0 (k := 1) (by omega)).trans ho.2.1.2
  unfold f_X9_visitorPlaced
  have main : ∀ d i F, i + d = m → d < F → f_X9_visitorPlaced_l2 w x σ F (I i) = some (match findP (fun v => sm (fun r => aheadB (numV r w f - numV v w f) v r) m) x d i with | none => .inr 2 | some k => .inl (I k), σ) := by
    intro d
    induction d with
    | zero =>
      intro i F hi hF
      obtain ⟨F, rfl⟩ : ∃ k, F = k + 1 := ⟨F - 1, by omega⟩
      rw [f_X9_visitorPlaced_l2, h4, if_pos ((I_le (by omega) (by omega)).mpr (by omega))]
      rfl
    | succ d ih =>
      intro i F hi hF
      obtain ⟨F, rfl⟩ : ∃ k, F = k + 1 := ⟨F - 1, by omega⟩
      rw [f_X9_visitorPlaced_l2, h4, if_neg (nle (by omega) (by omega)), m_ahead h ho (by omega), bnd_d, findP]
      by_cases q : sm (fun r => aheadB (numV r w f - numV i w f) i r) m = x
      · rw [if_pos q, if_pos q]
      · rw [if_neg q, if_neg q, I_a1, lt_d]
        exact ih (i + 1) F (by omega) (by omega)
  exact main m 0 8 (by omega) (by omega)
theorem n_meas {σ : Mm} {v : Nat} (hv : v < 5) {a w : Int32} (hw : (a = 0 ∧ w = 0) ∨ (a = 1 ∧ w = 2) ∨ (a = 2 ∧ w = 4) ∨ (a = 3 ∧ w = 6)) : f_X10_measured a (I v) σ = some (numV v w (σ 199)) := by
  unfold f_X10_measured
  rw [n_vAt, bnd_d, I_a2, I_a5, gd_I (show 46 + 8 * v < 86 by omega) (by omega), gd_I (show 46 + 8 * v + 2 < 86 by omega) (by omega), gd_I (show 46 + 8 * v + 5 < 86 by omega) (by omega), I_clamp (show 46 + 8 * v < 2147483648 by omega), I_clamp (show 46 + 8 * v + 2 < 2147483648 by omega), I_clamp (show 46 + 8 * v + 5 < 2147483648 by omega), n_lost hv, bnd_d]
  unfold numV
  rcases hw with ⟨rfl, rfl⟩ | ⟨rfl, rfl⟩ | ⟨rfl, rfl⟩ | ⟨rfl, rfl⟩ <;> rfl
theorem r_placed {σ : Mm} {B n m : Nat} (ho : okC B n m (σ 199)) {a w : Int32} (hw : (a = 0 ∧ w = 0) ∨ (a = 1 ∧ w = 2) ∨ (a = 2 ∧ w = 4) ∨ (a = 3 ∧ w = 6)) (x : Int32) : f_X10_ranked_l25 a x σ 8 0 = (match findP (fun v => sm (fun r => aheadB (numV r w (σ 199) - numV v w (σ 199)) v r) m) x m 0 with | none => some (-1, up σ 198 12 2) | some k => some (I k, σ)) := by
  have hm := ho.2.1.1
  have h1 := ho.2.1.2
  have inn : ∀ (K : Int32 → Int32 → Option (Int32 × Mm)) (i : Nat), i < m → f_X10_ranked_l41 K (I i) a x σ 8 0 0 = K (I m) (sm (fun r => aheadB (numV r w (σ 199) - numV i w (σ 199)) i r) m) := by
    intro K i hi
    have k := loopS (F := f_X10_ranked_l41 K (I i) a x σ) (K := fun y => K (I m) y) m hm (fun r => aheadB (numV r w (σ 199) - numV i w (σ 199)) i r) 0 (fun n y => by
      rw [f_X10_ranked_l41, h1, if_pos ((I_le (by omega) (by omega)).mpr (Nat.le_refl _))]) (fun n r y hr => by
      rw [f_X10_ranked_l41, h1, if_neg (nle hr (by omega)), n_meas (by omega) hw, bnd_d, n_meas (by omega) hw, bnd_d, lt_d, I_a1]
      unfold aheadB
      by_cases q : 0 < numV r w (σ 199) - numV i w (σ 199)
      · rw [if_pos q, if_pos q]; rfl
      · rw [if_neg q, if_neg q]
        by_cases q2 : numV r w (σ 199) - numV i w (σ 199) = 0
        · rw [if_pos q2, if_pos q2]
          by_cases q3 : I i ≤ I r
          · rw [if_pos q3, if_pos q3]; rfl
          · rw [if_neg q3, if_neg q3]; rfl
        · rw [if_neg q2, if_neg q2]; rfl)
    rw [k, Int32.zero_add]
  have main : ∀ d i F, i + d = m → d < F → f_X10_ranked_l25 a x σ F (I i) = (match findP (fun v => sm (fun r => aheadB (numV r w (σ 199) - numV v w (σ 199)) v r) m) x d i with | none => some (-1, up σ 198 12 2) | some k => some (I k, σ)) := by
    intro d
    induction d with
    | zero =>
      intro i F hi hF
      obtain ⟨F, rfl⟩ : ∃ k, F = k + 1 := ⟨F - 1, by omega⟩
      rw [f_X10_ranked_l25, h1, if_pos ((I_le (by omega) (by omega)).mpr (by omega))]
      rfl
    | succ d ih =>
      intro i F hi hF
      obtain ⟨F, rfl⟩ : ∃ k, F = k + 1 := ⟨F - 1, by omega⟩
      rw [f_X10_ranked_l25, h1, if_neg (nle (by omega) (by omega)), lt_d, inn _ i (by omega), findP]
      by_cases q : sm (fun r => aheadB (numV r w (σ 199) - numV i w (σ 199)) i r) m = x
      · rw [if_pos q, if_pos q]
      · rw [if_neg q, if_neg q, I_a1, lt_d]
        exact ih (i + 1) F (by omega) (by omega)
  exact main m 0 8 (by omega) (by omega)
theorem q_ranked {σ : Mm} {B : Nat} (R : RR B σ) (a x : Int32) : ∃ out τ, f_X9_ranked a x σ = some (out, τ) ∧ ∃ r ρ, f_X10_ranked a x τ = some (r, ρ) ∧ RR B ρ ∧ same2 out 3 2 r (ρ 198 12) := by
  obtain ⟨n, m, ho⟩ := R.2.1
  have hin : f_X10_in a.toInt64 0 3 (up σ 198 12 0) = some (match ix a 4 with | none => 0 | some _ => 1) := n_inN (by omega) (by omega) (show (3 : Int64).toInt = ((4 : Nat) : Int) - 1 by decide)
  have e199 : (up σ 198 12 0) 199 = σ 199 := thr199 _ _
  unfold f_X9_ranked f_X10_ranked
  have go : ∀ w, ((a = 0 ∧ w = 0) ∨ (a = 1 ∧ w = 2) ∨ (a = 2 ∧ w = 4) ∨ (a = 3 ∧ w = 6)) → ix a 4 ≠ none → ∃ out τ, (xb (f_X9_visitorPlaced w x σ) fun q2 σ3 => some (Sum.inl q2, σ3)) = some (out, τ) ∧ ∃ r ρ, (lt (up τ 198 12 0) fun σ1 => bnd (f_X10_in a.toInt64 0 3 σ1) fun q2 => if q2 = 0 then (bnm (f_X10_throwing 1 σ1) fun q32 σ33 => some (q32, σ33)) else (f_X10_ranked_l25 a x σ1 8 0)) = some (r, ρ) ∧ RR B ρ ∧ same2 out 3 2 r (ρ 198 12) := by
    intro w hw hi
    rw [c_placed R.1 ho]
    have hr := r_placed (σ := up σ 198 12 0) (m := m) (n := n) (B := B) (by rw [e199]; exact ho) hw x
    rw [e199] at hr
    cases e4 : ix a 4 with
    | none => exact absurd e4 hi
    | some z =>
      rw [e4] at hin
      cases e : findP (fun v => sm (fun r => aheadB (numV r w (σ 199) - numV v w (σ 199)) v r) m) x m 0 with
      | none =>
        rw [e] at hr
        refine ⟨_, _, rfl, ?_⟩
        rw [lt_d, hin, bnd_d]
        dsimp only
        rw [if_neg one_ne, hr]
        exact ⟨_, _, rfl, (R.thr 0).thr 2, Or.inr ⟨rfl, thr12 _ _⟩⟩
      | some k =>
        rw [e] at hr
        refine ⟨_, _, rfl, ?_⟩
        rw [lt_d, hin, bnd_d]
        dsimp only
        rw [if_neg one_ne, hr]
        exact ⟨_, _, rfl, R.thr 0, thr12 _ _, rfl⟩
  by_cases y0 : a = 0
  · rw [if_pos y0]; exact go 0 (Or.inl ⟨y0, rfl⟩) (by rw [y0]; decide)
  rw [if_neg y0]
  by_cases y1 : a = 1
  · rw [if_pos y1]; exact go 2 (Or.inr (Or.inl ⟨y1, rfl⟩)) (by rw [y1]; decide)
  rw [if_neg y1]
  by_cases y2 : a = 2
  · rw [if_pos y2]; exact go 4 (Or.inr (Or.inr (Or.inl ⟨y2, rfl⟩))) (by rw [y2]; decide)
  rw [if_neg y2]
  by_cases y3 : a = 3
  · rw [if_pos y3]; exact go 6 (Or.inr (Or.inr (Or.inr ⟨y3, rfl⟩))) (by rw [y3]; decide)
  rw [if_neg y3]
  refine ⟨_, _, rfl, ?_⟩
  have e4 : ix a 4 = none := by
    rcases ix_cases a (N := 4) (by omega) with ⟨k, k1, rfl, -⟩ | ⟨-, k⟩
    · rcases (show k = 0 ∨ k = 1 ∨ k = 2 ∨ k = 3 by omega) with rfl | rfl | rfl | rfl
      · exact absurd rfl y0
      · exact absurd rfl y1
      · exact absurd rfl y2
      · exact absurd rfl y3
    · exact k
  rw [lt_d, hin, e4, bnd_d]
  dsimp only
  rw [if_pos rfl, r_thr, bnm_d]
  exact ⟨_, _, rfl, (R.thr 0).thr 1, Or.inl ⟨rfl, thr12 _ _⟩⟩
