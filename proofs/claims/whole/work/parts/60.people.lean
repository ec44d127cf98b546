/-! GARDENERS AND VISITORS, asked -/
def sm (g : Nat → Int32) : Nat → Int32
  | 0 => 0
  | n + 1 => sm g n + g n
theorem sm_S (g : Nat → Int32) (n : Nat) : sm g (n + 1) = sm g n + g n := rfl
theorem sm_congr {g h : Nat → Int32} {n : Nat} (e : ∀ k, k < n → g k = h k) : sm g n = sm h n := by
  induction n with
  | zero => rfl
  | succ n ih => rw [sm_S, sm_S, ih (fun k hk => e k (by omega)), e n (by omega)]
def numV (v : Nat) (w : Int32) (f : Fm) : Int32 := if w = 0 then f (46 + 8 * v) else if w = 1 then f (46 + 8 * v + 1) else if w = 2 then f (46 + 8 * v + 2) else if w = 3 then f (46 + 8 * v + 3) else if w = 4 then lostV v f else if w = 5 then f (46 + 8 * v + 4) else if w = 6 then f (46 + 8 * v + 5) else if w = 7 then f (46 + 8 * v + 6) else f (46 + 8 * v + 7)
theorem okV.v01 {B n : Nat} {f : Fm} {v : Nat} (h : okV B n f v) : f (46 + 8 * v + 6) = 0 ∨ f (46 + 8 * v + 6) = 1 := by
  rcases h.2.2.2 with ⟨-, -, z, -⟩ | ⟨-, -, z, -⟩
  · exact Or.inl z
  · exact z
theorem b01 {x : Int32} (h : x = 0 ∨ x = 1) : (if x = 0 then some 0 else some 1 : Option Int32) = some x := by
  rcases h with h | h <;> rw [h] <;> rfl
theorem m_num {σ : Mm} {f : Fm} {B n m v : Nat} (h : rep 0 σ f) (ho : okC B n m f) (hv : v < m) (w : Int32) : f_X7_numberFor (9 + v) w σ = some (numV v w f) := by
  have hf := hfI ho.2.1.2 ho.2.1.1 hv
  have hm := ho.2.1.1
  have hV := fun k hk => h.getV (v := v) (k := k) (by omega) hk hf
  have hV0 : σ (9 + v) 0 = f (46 + 8 * v) := hV 0 (by omega)
  have ov := ho.2.2.2.2.1 v hv
  unfold f_X7_numberFor f_X7_lostAfter numV lostV
  rw [hV0, hV 1 (by omega), hV 2 (by omega), hV 3 (by omega), hV 4 (by omega), hV 5 (by omega), hV 6 (by omega), hV 7 (by omega), b01 ov.v01, b01 ov.out, Int32.add_zero, bnd_d]
  repeat' split
  all_goals first | rfl | contradiction
/-- a row's sum by a counting loop -/
theorem loopS {β : Type} {F : Nat → Int32 → Int32 → Option β} {K : Int32 → Option β} (N : Nat) (hN : N ≤ 5) (g : Nat → Int32) (a : Int32) (hstop : ∀ n x, F (n + 1) (I N) x = K x) (hstep : ∀ n v x, v < N → F (n + 1) (I v) x = F n (I (v + 1)) (x + g v)) : F 8 0 a = K (a + sm g N) := by
  obtain ⟨x, q1, q2⟩ := loopI (fun n v x => F n v x) (fun x => K x) N (fun v (x : Int32) => x = a + sm g v) (fun n x _ => hstop n x) (fun n v x hv hi => ⟨x + g v, hstep n v x hv, by rw [hi, sm_S, Int32.add_assoc]⟩) N 0 8 a (by omega) (by omega) (by show a = a + 0; rw [Int32.add_zero])
  rw [← q2]; exact q1
theorem m_total {σ : Mm} {f : Fm} {B n m : Nat} (h : rep 0 σ f) (ho : okC B n m f) (w : Int32) : f_X6_totalOf w σ = some (sm (fun v => numV v w f) m) := by
  have hm := ho.2.1.1
  have h4 : σ 0 4 = I m := (h.get0 (k := 1) (by omega)).trans ho.2.1.2
  unfold f_X6_totalOf
  have k := loopS (F := f_X6_totalOf_l4 w σ) (K := fun x => some x) m hm (fun v => numV v w f) 0 (fun n x => by
      rw [f_X6_totalOf_l4, h4, if_pos ((I_le (by omega) (by omega)).mpr (Nat.le_refl _))]) (fun n v x hv => by
      rw [f_X6_totalOf_l4, h4, if_neg (nle hv (by omega)), gd_I (by omega) (by omega), I_clamp (by omega), show 8 + 1 + v = 9 + v by omega, m_num h ho hv, bnd_d, lt_d, lt_d, I_a1])
  rw [k, Int32.zero_add]
def debF (g : Int32) (f : Fm) (v : Nat) : Int32 := if f (46 + 8 * v + 4) = g then (if f (46 + 8 * v + 6) = 0 then f (46 + 8 * v + 5) * lostV v f else 0) else 0
theorem m_debt {σ : Mm} {f : Fm} {B n m : Nat} (h : rep 0 σ f) (ho : okC B n m f) (g : Int32) : f_X6_debtOf g σ = some (sm (debF g f) m) := by
  have hm := ho.2.1.1
  have h4 : σ 0 4 = I m := (h.get0 (k := 1) (by omega)).trans ho.2.1.2
  unfold f_X6_debtOf
  have k := loopS (F := f_X6_debtOf_l4 g σ) (K := fun x => some x) m hm (debF g f) 0 (fun n x => by
      rw [f_X6_debtOf_l4, h4, if_pos ((I_le (by omega) (by omega)).mpr (Nat.le_refl _))]) (fun n v x hv => by
      have hf := hfI ho.2.1.2 ho.2.1.1 hv
      rw [f_X6_debtOf_l4, h4, if_neg (nle hv (by omega)), gd_I (by omega) (by omega), gd_I (by omega) (by omega), I_clamp (by omega), show 8 + 1 + v = 9 + v by omega, h.getV (by omega) (by omega) hf, m_due h (by omega) hf, bnd_d, lt_d, lt_d, lt_d, I_a1]
      unfold debF
      by_cases q : f (46 + 8 * v + 4) = g
      · rw [if_pos q, if_pos q]
      · rw [if_neg q, if_neg q, Int32.add_zero])
  rw [k, Int32.zero_add]
def bonF (g : Int32) (f : Fm) (v : Nat) : Int32 := if f (46 + 8 * v + 4) = g then 1 else 0
theorem m_bonds {σ : Mm} {f : Fm} {B n m : Nat} (h : rep 0 σ f) (ho : okC B n m f) (g : Int32) : f_X6_bondsOf g σ = some (sm (bonF g f) m) := by
  have hm := ho.2.1.1
  have h4 : σ 0 4 = I m := (h.get0 (k := 1) (by omega)).trans ho.2.1.2
  unfold f_X6_bondsOf
  have k := loopS (F := f_X6_bondsOf_l4 g σ) (K := fun x => some x) m hm (bonF g f) 0 (fun n x => by
      rw [f_X6_bondsOf_l4, h4, if_pos ((I_le (by omega) (by omega)).mpr (Nat.le_refl _))]) (fun n v x hv => by
      have hf := hfI ho.2.1.2 ho.2.1.1 hv
      rw [f_X6_bondsOf_l4, h4, if_neg (nle hv (by omega)), gd_I (by omega) (by omega), I_clamp (by omega), show 8 + 1 + v = 9 + v by omega, h.getV (by omega) (by omega) hf, lt_d, lt_d, lt_d, I_a1]
      unfold bonF
      by_cases q : f (46 + 8 * v + 4) = g
      · rw [if_pos q, if_pos q]
      · rw [if_neg q, if_neg q, Int32.add_zero])
  rw [k, Int32.zero_add]
/-! the reference's sums -/
theorem n_lasts {σ : Mm} {B n v : Nat} (hn : n ≤ 4) (hv : v < 5) (h : okV B n (σ 199) v) : f_X10_lasts (I v) σ = some (if σ 199 (46 + 8 * v + 4) = -1 then 0 else 1) := by
  unfold f_X10_lasts
  simp only [n_vAt, bnd_d, I_a4, I_a7, gd_I (show 46 + 8 * v + 4 < 86 by omega) (show 86 < 2147483648 by omega), gd_I (show 46 + 8 * v + 7 < 86 by omega) (show 86 < 2147483648 by omega), I_clamp (show 46 + 8 * v + 4 < 2147483648 by omega), I_clamp (show 46 + 8 * v + 7 < 2147483648 by omega)]
  rcases h.2.2.2 with ⟨a, -⟩ | ⟨⟨g, g1, g2⟩, -, -, z⟩
  · rw [if_pos a, if_pos a]
  · have ne : ¬ σ 199 (46 + 8 * v + 4) = -1 := by rw [g2]; exact nm1 (by omega)
    rw [if_neg ne, if_neg ne, if_pos z]
theorem r_owed {σ : Mm} {B n m : Nat} (ho : okC B n m (σ 199)) {g : Nat} (hg : g < 4) : f_X10_owedBy (I g) σ = some (sm (debF (I g) (σ 199)) m) := by
  have hm := ho.2.1.1
  have h1 := ho.2.1.2
  unfold f_X10_owedBy
  have k := loopS (F := f_X10_owedBy_l4 (I g) σ) (K := fun x => some x) m hm (debF (I g) (σ 199)) 0 (fun n x => by
      rw [f_X10_owedBy_l4, h1, if_pos ((I_le (by omega) (by omega)).mpr (Nat.le_refl _))]) (fun n' v x hv => by
      have ov := ho.2.2.2.2.1 v hv
      rw [f_X10_owedBy_l4, h1, if_neg (nle hv (by omega)), n_vAt, bnd_d, n_lasts ho.1.1 (by omega) ov, bnd_d, n_lost (by omega), bnd_d]
      simp only [I_a1, I_a4, I_a5, I_a6, gd_I (show 46 + 8 * v + 4 < 86 by omega) (show 86 < 2147483648 by omega), gd_I (show 46 + 8 * v + 5 < 86 by omega) (show 86 < 2147483648 by omega), gd_I (show 46 + 8 * v + 6 < 86 by omega) (show 86 < 2147483648 by omega), I_clamp (show 46 + 8 * v + 4 < 2147483648 by omega), I_clamp (show 46 + 8 * v + 5 < 2147483648 by omega), I_clamp (show 46 + 8 * v + 6 < 2147483648 by omega), lt_d]
      unfold debF
      by_cases q : σ 199 (46 + 8 * v + 4) = -1
      · have q2 : ¬ σ 199 (46 + 8 * v + 4) = I g := by rw [q]; exact fun z => nm1 (by omega) z.symm
        rw [if_pos q, if_pos rfl, if_neg q2]
      · rw [if_neg q, if_neg one_ne]
        by_cases q2 : σ 199 (46 + 8 * v + 4) = I g
        · rw [if_pos q2, if_pos q2]
          by_cases q3 : σ 199 (46 + 8 * v + 6) = 0
          · rw [if_pos q3, if_pos q3]
          · rw [if_neg q3, if_neg q3]
        · rw [if_neg q2, if_neg q2])
  rw [k, Int32.zero_add]
theorem r_lasting {σ : Mm} {B n m : Nat} (ho : okC B n m (σ 199)) (g : Int32) : f_X10_lasting g σ = some (sm (fun v => if σ 199 (46 + 8 * v + 4) = -1 then 0 else if g = -1 then 1 else bonF g (σ 199) v) m) := by
  have hm := ho.2.1.1
  have h1 := ho.2.1.2
  unfold f_X10_lasting
  have k := loopS (F := f_X10_lasting_l4 g σ) (K := fun x => some x) m hm (fun v => if σ 199 (46 + 8 * v + 4) = -1 then 0 else if g = -1 then 1 else bonF g (σ 199) v) 0 (fun n x => by
      rw [f_X10_lasting_l4, h1, if_pos ((I_le (by omega) (by omega)).mpr (Nat.le_refl _))]) (fun n' v x hv => by
      have ov := ho.2.2.2.2.1 v hv
      rw [f_X10_lasting_l4, h1, if_neg (nle hv (by omega)), n_vAt, bnd_d, n_lasts ho.1.1 (by omega) ov, bnd_d]
      simp only [I_a1, I_a4, gd_I (show 46 + 8 * v + 4 < 86 by omega) (show 86 < 2147483648 by omega), I_clamp (show 46 + 8 * v + 4 < 2147483648 by omega), lt_d]
      unfold bonF
      by_cases q : σ 199 (46 + 8 * v + 4) = -1
      · rw [if_pos q, if_pos rfl, if_pos q]
      · rw [if_neg q, if_neg one_ne, if_neg q]
        by_cases q2 : g = -1
        · rw [if_pos q2, if_pos q2]
        · rw [if_neg q2, if_neg q2]
          by_cases q3 : σ 199 (46 + 8 * v + 4) = g
          · rw [if_pos q3, if_pos q3]
          · rw [if_neg q3, if_neg q3])
  rw [k, Int32.zero_add]
/-! who is asked -/
theorem c_gask {σ : Mm} {f : Fm} {B n m : Nat} (h : rep 0 σ f) (ho : okC B n m f) (a : Int32) : f_X9_gardenerAsked a σ = some (match ix a n with | none => .inr 1 | some g => .inl (some (4 + g)), σ) := by
  unfold f_X9_gardenerAsked
  rw [m_findG h ho.1.1 ho.1.2, bnd_d]
  cases ix a n <;> rfl
theorem c_vask {σ : Mm} {f : Fm} {B n m : Nat} (h : rep 0 σ f) (ho : okC B n m f) (a : Int32) : f_X9_visitorAsked a σ = some (match ix a m with | none => .inr 1 | some v => .inl (some (9 + v)), σ) := by
  unfold f_X9_visitorAsked
  rw [m_findV h ho.2.1.1 ho.2.1.2, bnd_d]
  cases ix a m <;> rfl
theorem thr199 (σ : Mm) (x : Int32) : (up σ 198 12 x) 199 = σ 199 := up_n _ _ _ (by omega)
theorem thr12 (σ : Mm) (x : Int32) : (up σ 198 12 x) 198 12 = x := by rw [up_e, upd_e]
theorem q_gardenerOf {σ : Mm} {B : Nat} (R : RR B σ) (a w : Int32) : ∃ out τ, f_X9_gardenerOf a w σ = some (out, τ) ∧ ∃ r ρ, f_X10_gardenerOf a w τ = some (r, ρ) ∧ RR B ρ ∧ same2 out 1 3 r (ρ 198 12) := by
  obtain ⟨n, m, ho⟩ := R.2.1
  obtain ⟨f, hf⟩ : ∃ f, f = σ 199 := ⟨_, rfl⟩
  have h := R.1
  rw [← hf] at h ho
  have ho2 : okC B n m ((up σ 198 12 0) 199) := by rw [thr199, ← hf]; exact ho
  have hn := ho.1.1
  unfold f_X9_gardenerOf f_X10_gardenerOf
  rw [c_gask h ho]
  cases e : ix a n with
  | none =>
    dsimp only
    rw [xb_n]
    refine ⟨_, _, rfl, ?_⟩
    rw [lt_d, n_isG hn (by rw [thr199, ← hf]; exact ho.1.2), e, bnd_d]
    dsimp only
    rw [if_pos rfl, r_thr, bnm_d]
    exact ⟨_, _, rfl, (R.thr 0).thr 1, Or.inl ⟨rfl, thr12 _ _⟩⟩
  | some g =>
    obtain ⟨g1, rfl⟩ := ix_lt (by omega) e
    dsimp only
    rw [xb_d, oc_e]
    have hG0 : σ (4 + g) 0 = f (30 + 4 * g) := h.getG (k := 0) (by omega) (by omega)
    rw [hG0, m_bonds h ho, bnd_d, h.getG (g := g) (k := 1) (by omega) (by omega), h.getG (g := g) (k := 2) (by omega) (by omega), h.getG (g := g) (k := 3) (by omega) (by omega)]
    have tail : ∃ r ρ, (lt (up σ 198 12 0) fun σ1 => bnd (f_X10_isGardener (I g) σ1) fun q2 => if q2 = 0 then (bnm (f_X10_throwing 1 σ1) fun q16 σ17 => some (q16, σ17)) else (if w = 0 then (bnd (f_X10_gardenerAt (I g) σ1) fun q5 => gd q5 86 (some ((σ1 199 q5.toNatClampNeg), σ1))) else (if w = 1 then (bnd (f_X10_lasting (I g) σ1) fun q7 => some (q7, σ1)) else (if w = 2 then (bnd (f_X10_gardenerAt (I g) σ1) fun q9 => gd ((q9 + w) - 1) 86 (some ((σ1 199 ((q9 + w) - 1).toNatClampNeg), σ1))) else (if w = 3 then (bnd (f_X10_gardenerAt (I g) σ1) fun q11 => gd ((q11 + w) - 1) 86 (some ((σ1 199 ((q11 + w) - 1).toNatClampNeg), σ1))) else (if w = 4 then (bnd (f_X10_gardenerAt (I g) σ1) fun q13 => gd ((q13 + w) - 1) 86 (some ((σ1 199 ((q13 + w) - 1).toNatClampNeg), σ1))) else (bnm (f_X10_throwing 2 σ1) fun q14 σ15 => some (q14, σ15)))))))) = some (r, ρ) ∧ RR B ρ ∧
        ((w = 0 ∧ ρ 198 12 = 0 ∧ r = f (30 + 4 * g)) ∨ (w = 1 ∧ ρ 198 12 = 0 ∧ r = sm (bonF (I g) f) m) ∨ (w = 2 ∧ ρ 198 12 = 0 ∧ r = f (30 + 4 * g + 1)) ∨ (w = 3 ∧ ρ 198 12 = 0 ∧ r = f (30 + 4 * g + 2)) ∨ (w = 4 ∧ ρ 198 12 = 0 ∧ r = f (30 + 4 * g + 3)) ∨ ((¬ w = 0 ∧ ¬ w = 1 ∧ ¬ w = 2 ∧ ¬ w = 3 ∧ ¬ w = 4) ∧ ρ 198 12 = 2)) := by
      rw [lt_d, n_isG hn (by rw [thr199, ← hf]; exact ho.1.2), e, bnd_d]
      dsimp only
      rw [if_neg one_ne, n_gAt, bnd_d, bnd_d, thr199, ← hf]
      have sub1 : ∀ j : Nat, 1 ≤ j → I (30 + 4 * g) + I j - 1 = I (30 + 4 * g + j - 1) := fun j hj => by rw [I_add]; exact I_sub (b := 1) (by omega)
      by_cases w0 : w = 0
      · rw [if_pos w0, gd_I (by omega) (by omega), I_clamp (by omega)]
        exact ⟨_, _, rfl, R.thr 0, Or.inl ⟨w0, thr12 _ _, rfl⟩⟩
      · rw [if_neg w0]
        by_cases w1 : w = 1
        · rw [if_pos w1, r_lasting ho2, bnd_d, thr199, ← hf]
          refine ⟨_, _, rfl, R.thr 0, Or.inr (Or.inl ⟨w1, thr12 _ _, sm_congr (fun v hv => ?_)⟩)⟩
          unfold bonF
          rw [if_neg (nm1 (by omega))]
          by_cases q : f (46 + 8 * v + 4) = -1
          · rw [if_pos q, if_neg (by rw [q]; exact fun z => nm1 (by omega) z.symm)]
          · rw [if_neg q]
        · rw [if_neg w1]
          by_cases w2 : w = 2
          · have z := sub1 2 (by omega)
            rw [if_pos w2, w2, show I (30 + 4 * g) + 2 - 1 = I (30 + 4 * g + 2 - 1) from z, gd_I (by omega) (by omega), I_clamp (by omega)]
            exact ⟨_, _, rfl, R.thr 0, Or.inr (Or.inr (Or.inl ⟨rfl, thr12 _ _, rfl⟩))⟩
          · rw [if_neg w2]
            by_cases w3 : w = 3
            · have z := sub1 3 (by omega)
              rw [if_pos w3, w3, show I (30 + 4 * g) + 3 - 1 = I (30 + 4 * g + 3 - 1) from z, gd_I (by omega) (by omega), I_clamp (by omega)]
              exact ⟨_, _, rfl, R.thr 0, Or.inr (Or.inr (Or.inr (Or.inl ⟨rfl, thr12 _ _, rfl⟩)))⟩
            · rw [if_neg w3]
              by_cases w4 : w = 4
              · have z := sub1 4 (by omega)
                rw [if_pos w4, w4, show I (30 + 4 * g) + 4 - 1 = I (30 + 4 * g + 4 - 1) from z, gd_I (by omega) (by omega), I_clamp (by omega)]
                exact ⟨_, _, rfl, R.thr 0, Or.inr (Or.inr (Or.inr (Or.inr (Or.inl ⟨rfl, thr12 _ _, rfl⟩))))⟩
              · rw [if_neg w4, r_thr, bnm_d]
                exact ⟨_, _, rfl, (R.thr 0).thr 2, Or.inr (Or.inr (Or.inr (Or.inr (Or.inr ⟨⟨w0, w1, w2, w3, w4⟩, thr12 _ _⟩))))⟩
    obtain ⟨r, ρ, t1, t2, t3⟩ := tail
    rcases t3 with ⟨w0, z1, z2⟩ | ⟨w0, z1, z2⟩ | ⟨w0, z1, z2⟩ | ⟨w0, z1, z2⟩ | ⟨w0, z1, z2⟩ | ⟨⟨y0, y1, y2, y3, y4⟩, z1⟩
    · rw [if_pos w0]; exact ⟨_, _, rfl, r, ρ, t1, t2, z1, z2⟩
    · rw [if_neg (by rw [w0]; decide), if_pos w0]; exact ⟨_, _, rfl, r, ρ, t1, t2, z1, z2⟩
    · rw [if_neg (by rw [w0]; decide), if_neg (by rw [w0]; decide), if_pos w0]; exact ⟨_, _, rfl, r, ρ, t1, t2, z1, z2⟩
    · rw [if_neg (by rw [w0]; decide), if_neg (by rw [w0]; decide), if_neg (by rw [w0]; decide), if_pos w0]; exact ⟨_, _, rfl, r, ρ, t1, t2, z1, z2⟩
    · rw [if_neg (by rw [w0]; decide), if_neg (by rw [w0]; decide), if_neg (by rw [w0]; decide), if_neg (by rw [w0]; decide), if_pos w0]; exact ⟨_, _, rfl, r, ρ, t1, t2, z1, z2⟩
    · rw [if_neg y0, if_neg y1, if_neg y2, if_neg y3, if_neg y4]; exact ⟨_, _, rfl, r, ρ, t1, t2, Or.inr ⟨rfl, z1⟩⟩
theorem q_owed {σ : Mm} {B : Nat} (e2 : Nat) (R : RR B σ) (a : Int32) : ∃ out τ, f_X9_owed a σ = some (out, τ) ∧ ∃ r ρ, f_X10_owed a τ = some (r, ρ) ∧ RR B ρ ∧ same2 out 1 e2 r (ρ 198 12) := by
  obtain ⟨n, m, ho⟩ := R.2.1
  have h := R.1
  have ho2 : okC B n m ((up σ 198 12 0) 199) := by rw [thr199]; exact ho
  have hn := ho.1.1
  unfold f_X9_owed f_X10_owed
  rw [c_gask h ho]
  cases e : ix a n with
  | none =>
    dsimp only
    rw [xb_n]
    refine ⟨_, _, rfl, ?_⟩
    rw [lt_d, n_isG hn (by rw [thr199]; exact ho.1.2), e, bnd_d]
    dsimp only
    rw [if_pos rfl, r_thr, bnm_d]
    exact ⟨_, _, rfl, (R.thr 0).thr 1, Or.inl ⟨rfl, thr12 _ _⟩⟩
  | some g =>
    obtain ⟨g1, rfl⟩ := ix_lt (by omega) e
    dsimp only
    rw [xb_d, oc_e, m_debt h ho, bnd_d]
    refine ⟨_, _, rfl, ?_⟩
    rw [lt_d, n_isG hn (by rw [thr199]; exact ho.1.2), e, bnd_d]
    dsimp only
    rw [if_neg one_ne, r_owed ho2 (by omega), bnd_d, thr199]
    exact ⟨_, _, rfl, R.thr 0, thr12 _ _, rfl⟩
