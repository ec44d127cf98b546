/-! THE RICHEST, ACCOUNTS -/
def aheadG (f : Fm) (m g r : Nat) : Int32 := if f (30 + 4 * r) = f (30 + 4 * g) then aheadB (sm (debF (I g) f) m - sm (debF (I r) f) m) g r else if f (30 + 4 * r) ≤ f (30 + 4 * g) then 0 else 1
theorem m_richer {σ : Mm} {f : Fm} {B n m g r : Nat} (h : rep 0 σ f) (ho : okC B n m f) (hg : g < n) (hr : r < n) : f_X6_isRicher (I r) (I g) σ = some (aheadG f m g r) := by
  have hn := ho.1.1
  unfold f_X6_isRicher aheadG aheadB
  rw [m_findG h hn ho.1.2, ix_I hr (by omega), bnd_d]
  dsimp only
  rw [oc_e, m_findG h hn ho.1.2, ix_I hg (by omega), bnd_d]
  dsimp only
  rw [oc_e, m_debt h ho, m_debt h ho, bnd_d, bnd_d, lt_d, show σ (4 + r) 0 = f (30 + 4 * r) from h.getG (k := 0) (by omega) (by omega), show σ (4 + g) 0 = f (30 + 4 * g) from h.getG (k := 0) (by omega) (by omega)]
  by_cases q : f (30 + 4 * r) = f (30 + 4 * g)
  · rw [if_pos q, if_pos q]
    by_cases q1 : 0 < sm (debF (I g) f) m - sm (debF (I r) f) m
    · rw [if_pos q1, if_pos q1]
    · rw [if_neg q1, if_neg q1]
      by_cases q2 : sm (debF (I g) f) m - sm (debF (I r) f) m = 0
      · rw [if_pos q2, if_pos q2]
        by_cases q3 : I g ≤ I r
        · rw [if_pos q3, if_pos q3]
        · rw [if_neg q3, if_neg q3]
      · rw [if_neg q2, if_neg q2]
  · rw [if_neg q, if_neg q]
    by_cases q1 : f (30 + 4 * r) ≤ f (30 + 4 * g)
    · rw [if_pos q1, if_pos q1]
    · rw [if_neg q1, if_neg q1]
theorem aheadG01 (f : Fm) (m g r : Nat) : aheadG f m g r = 0 ∨ aheadG f m g r = 1 := by
  unfold aheadG aheadB
  repeat' split
  all_goals first | exact Or.inl rfl | exact Or.inr rfl
theorem m_gahead {σ : Mm} {f : Fm} {B n m g : Nat} (h : rep 0 σ f) (ho : okC B n m f) (hg : g < n) : f_X6_gardenersAhead (I g) σ = some (sm (aheadG f m g) n) := by
  have hn := ho.1.1
  have h3 : σ 0 3 = I n := (h.get0 (k := 0) (by omega)).trans ho.1.2
  unfold f_X6_gardenersAhead
  have k := loopS (F := f_X6_gardenersAhead_l4 (I g) σ) (K := fun x => some x) n (by omega) (aheadG f m g) 0 (fun n x => by
      rw [f_X6_gardenersAhead_l4, h3, if_pos ((I_le (by omega) (by omega)).mpr (Nat.le_refl _))]) (fun j r x hr => by
      rw [f_X6_gardenersAhead_l4, h3, if_neg (nle hr (by omega)), m_richer h ho hg hr, bnd_d, I_a1]
      rcases aheadG01 f m g r with q | q
      · rw [q, if_pos rfl, Int32.add_zero]; rfl
      · rw [q, if_neg one_ne]; rfl)
  rw [k, Int32.zero_add]
theorem c_rplaced {σ : Mm} {f : Fm} {B n m : Nat} (h : rep 0 σ f) (ho : okC B n m f) (x : Int32) : f_X9_richest x σ = some (match findP (fun g => sm (aheadG f m g) n) x n 0 with | none => .inr 2 | some k => .inl (I k), σ) := by
  have hn := ho.1.1
  have h3 : σ 0 3 = I n := (h.get0 (k := 0) (by omega)).trans ho.1.2
  unfold f_X9_richest
  have main : ∀ d i F, i + d = n → d < F → f_X9_richest_l2 x σ F (I i) = some (match findP (fun g => sm (aheadG f m g) n) x d i with | none => .inr 2 | some k => .inl (I k), σ) := by
    intro d
    induction d with
    | zero =>
      intro i F hi hF
      obtain ⟨F, rfl⟩ : ∃ k, F = k + 1 := ⟨F - 1, by omega⟩
      rw [f_X9_richest_l2, h3, if_pos ((I_le (by omega) (by omega)).mpr (by omega))]
      rfl
    | succ d ih =>
      intro i F hi hF
      obtain ⟨F, rfl⟩ : ∃ k, F = k + 1 := ⟨F - 1, by omega⟩
      rw [f_X9_richest_l2, h3, if_neg (nle (by omega) (by omega)), m_gahead h ho (by omega), bnd_d, findP]
      by_cases q : sm (aheadG f m i) n = x
      · rw [if_pos q, if_pos q]
      · rw [if_neg q, if_neg q, I_a1, lt_d]
        exact ih (i + 1) F (by omega) (by omega)
  exact main n 0 8 (by omega) (by omega)
theorem sub0 {a b : Nat} (ha : a < 1000000) (hb : b < 1000000) : (I a - I b = 0 ↔ a = b) ∧ (0 < I a - I b ↔ b < a) := by
  by_cases q : b ≤ a
  · rw [I_sub q]
    refine ⟨⟨fun z => ?_, fun z => ?_⟩, ?_⟩
    · have := (I_eq (a := a - b) (b := 0) (by omega) (by omega)).mp z; omega
    · rw [z, Nat.sub_self]; rfl
    · rw [I_pos (by omega)]; omega
  · refine ⟨⟨fun z => ?_, fun z => by omega⟩, ⟨fun z => absurd z (I_sub_neg (by omega) (by omega)), fun z => by omega⟩⟩
    exfalso
    have e : I a = I b := by
      have h : I a - I b + I b = 0 + I b := by rw [z]
      rw [Int32.zero_add] at h
      rw [← h]
      apply Int32.toBitVec_inj.mp
      show (I a).toBitVec = (I a).toBitVec - (I b).toBitVec + (I b).toBitVec
      exact (BitVec.sub_add_cancel _ _).symm
    have := (I_eq (by omega) (by omega)).mp e
    omega
theorem r_rplaced {σ : Mm} {B n m : Nat} (ho : okC B n m (σ 199)) (x : Int32) : f_X10_richest_l7 x σ 8 0 = (match findP (fun g => sm (aheadG (σ 199) m g) n) x n 0 with | none => some (-1, up σ 198 12 1) | some k => some (I k, σ)) := by
  have hn := ho.1.1
  have h1 := ho.1.2
  obtain ⟨cc, dd, m1, m2, m3⟩ := ho.2.2.2.2.2.2.2
  have mm := ho.2.1.1
  have cl : ∀ g, g < 4 → cc g < 1000000 := fun g hg => by have := S4_le (c := cc) hg; omega
  have inn : ∀ (K : Int32 → Int32 → Option (Int32 × Mm)) (i : Nat), i < n → f_X10_richest_l22 K (I i) x σ 8 0 0 = K (I n) (sm (aheadG (σ 199) m i) n) := by
    intro K i hi
    have k := loopS (F := f_X10_richest_l22 K (I i) x σ) (K := fun y => K (I n) y) n (by omega) (aheadG (σ 199) m i) 0 (fun n y => by
      rw [f_X10_richest_l22, h1, if_pos ((I_le (by omega) (by omega)).mpr (Nat.le_refl _))]) (fun j r y hr => by
      obtain ⟨s1, s2⟩ := sub0 (cl r (by omega)) (cl i (by omega))
      rw [f_X10_richest_l22, h1, if_neg (nle hr (by omega)), n_gAt, bnd_d, gd_I (show 30 + 4 * r < 86 by omega) (by omega), n_gAt, bnd_d, gd_I (show 30 + 4 * i < 86 by omega) (by omega), I_clamp (by omega), I_clamp (by omega), lt_d, r_owed ho (g := i) (by omega), r_owed ho (g := r) (by omega), bnd_d, bnd_d, lt_d, m1 r (by omega), m1 i (by omega), I_a1]
      unfold aheadG
      rw [m1 r (by omega), m1 i (by omega)]
      by_cases q : cc r = cc i
      · rw [if_pos (s1.mpr q), if_pos (show I (cc r) = I (cc i) by rw [q])]
        unfold aheadB
        by_cases q1 : 0 < sm (debF (I i) (σ 199)) m - sm (debF (I r) (σ 199)) m
        · rw [if_pos q1, if_pos q1]; rfl
        · rw [if_neg q1, if_neg q1]
          by_cases q2 : sm (debF (I i) (σ 199)) m - sm (debF (I r) (σ 199)) m = 0
          · rw [if_pos q2, if_pos q2]
            by_cases q3 : I i ≤ I r
            · rw [if_pos q3, if_pos q3]; rfl
            · rw [if_neg q3, if_neg q3]; rfl
          · rw [if_neg q2, if_neg q2]; rfl
      · rw [if_neg (fun z => q (s1.mp z)), if_neg (I_beq (by have := cl r (by omega); omega) (by have := cl i (by omega); omega) q)]
        by_cases q1 : cc i < cc r
        · rw [if_pos (s2.mpr q1), if_neg (fun z => by have := (I_le (by have := cl r (by omega); omega) (by have := cl i (by omega); omega)).mp z; omega)]; rfl
        · rw [if_neg (fun z => q1 (s2.mp z)), if_neg (fun z => q (s1.mp z)), if_pos ((I_le (by have := cl r (by omega); omega) (by have := cl i (by omega); omega)).mpr (by omega))]; rfl)
    rw [k, Int32.zero_add]
  have main : ∀ d i F, i + d = n → d < F → f_X10_richest_l7 x σ F (I i) = (match findP (fun g => sm (aheadG (σ 199) m g) n) x d i with | none => some (-1, up σ 198 12 1) | some k => some (I k, σ)) := by
    intro d
    induction d with
    | zero =>
      intro i F hi hF
      obtain ⟨F, rfl⟩ : ∃ k, F = k + 1 := ⟨F - 1, by omega⟩
      rw [f_X10_richest_l7, h1, if_pos ((I_le (by omega) (by omega)).mpr (by omega))]
      rfl
    | succ d ih =>
      intro i F hi hF
      obtain ⟨F, rfl⟩ : ∃ k, F = k + 1 := ⟨F - 1, by omega⟩
      rw [f_X10_richest_l7, h1, if_neg (nle (by omega) (by omega)), lt_d, inn _ i (by omega), findP]
      by_cases q : sm (aheadG (σ 199) m i) n = x
      · rw [if_pos q, if_pos q]
      · rw [if_neg q, if_neg q, I_a1, lt_d]
        exact ih (i + 1) F (by omega) (by omega)
  exact main n 0 8 (by omega) (by omega)
theorem q_richest {σ : Mm} {B : Nat} (e2 : Nat) (R : RR B σ) (x : Int32) : ∃ out τ, f_X9_richest x σ = some (out, τ) ∧ ∃ r ρ, f_X10_richest x τ = some (r, ρ) ∧ RR B ρ ∧ same2 out 2 e2 r (ρ 198 12) := by
  obtain ⟨n, m, ho⟩ := R.2.1
  have e199 : (up σ 198 12 0) 199 = σ 199 := thr199 _ _
  unfold f_X10_richest
  rw [c_rplaced R.1 ho]
  have hr := r_rplaced (σ := up σ 198 12 0) (m := m) (n := n) (B := B) (by rw [e199]; exact ho) x
  rw [e199] at hr
  cases e : findP (fun g => sm (aheadG (σ 199) m g) n) x n 0 with
  | none =>
    rw [e] at hr
    refine ⟨_, _, rfl, ?_⟩
    rw [lt_d, hr]
    exact ⟨_, _, rfl, (R.thr 0).thr 1, Or.inl ⟨rfl, thr12 _ _⟩⟩
  | some k =>
    rw [e] at hr
    refine ⟨_, _, rfl, ?_⟩
    rw [lt_d, hr]
    exact ⟨_, _, rfl, R.thr 0, thr12 _ _, rfl⟩
theorem sm_neg {f : Fm} (B n : Nat) : ∀ m, (∀ v, v < m → okV B n f v) → I m - sm (bonF (-1) f) m = sm (fun v => if f (46 + 8 * v + 4) = -1 then 0 else if (-1 : Int32) = -1 then 1 else bonF (-1) f v) m := by
  intro m
  induction m with
  | zero => intro _; show (I 0 - 0 : Int32) = 0; decide
  | succ m ih =>
    intro h
    rw [sm_S, sm_S, ← ih (fun v hv => h v (by omega)), ← I_a1]
    unfold bonF
    have ac : ∀ a b c d : Int32, a + b - (c + d) = a - c + (b - d) := fun a b c d => by
      apply Int32.toBitVec_inj.mp
      show a.toBitVec + b.toBitVec - (c.toBitVec + d.toBitVec) = a.toBitVec - c.toBitVec + (b.toBitVec - d.toBitVec)
      rw [BitVec.sub_eq_add_neg, BitVec.sub_eq_add_neg, BitVec.sub_eq_add_neg, BitVec.neg_add, BitVec.sub_eq_add_neg]
      ac_rfl
    rw [ac]
    by_cases q : f (46 + 8 * m + 4) = -1
    · rw [if_pos q, if_pos q]; rfl
    · rw [if_neg q, if_neg q, if_pos rfl]; rfl
theorem r_outs {σ : Mm} {B n m : Nat} (ho : okC B n m (σ 199)) : f_X10_outs σ = some (sm (fun v => σ 199 (46 + 8 * v + 7)) m) := by
  have hm := ho.2.1.1
  have h1 := ho.2.1.2
  unfold f_X10_outs
  have k := loopS (F := f_X10_outs_l4 σ) (K := fun x => some x) m hm (fun v => σ 199 (46 + 8 * v + 7)) 0 (fun n x => by
      rw [f_X10_outs_l4, h1, if_pos ((I_le (by omega) (by omega)).mpr (Nat.le_refl _))]) (fun n' v x hv => by
      rw [f_X10_outs_l4, h1, if_neg (nle hv (by omega)), n_vAt, bnd_d, I_a7, gd_I (show 46 + 8 * v + 7 < 86 by omega) (by omega), I_clamp (by omega), lt_d, lt_d, I_a1])
  rw [k, Int32.zero_add]
theorem r_voids {σ : Mm} {B n m : Nat} (ho : okC B n m (σ 199)) : f_X10_voids σ = some (sm (fun v => σ 199 (46 + 8 * v + 6)) m) := by
  have hm := ho.2.1.1
  have h1 := ho.2.1.2
  unfold f_X10_voids
  have k := loopS (F := f_X10_voids_l4 σ) (K := fun x => some x) m hm (fun v => σ 199 (46 + 8 * v + 6)) 0 (fun n x => by
      rw [f_X10_voids_l4, h1, if_pos ((I_le (by omega) (by omega)).mpr (Nat.le_refl _))]) (fun n' v x hv => by
      have ov := ho.2.2.2.2.1 v hv
      rw [f_X10_voids_l4, h1, if_neg (nle hv (by omega)), n_lasts ho.1.1 (by omega) ov, bnd_d, n_vAt, bnd_d, I_a6, gd_I (show 46 + 8 * v + 6 < 86 by omega) (by omega), I_clamp (by omega), lt_d, lt_d, lt_d, I_a1, lt_d]
      by_cases q : σ 199 (46 + 8 * v + 4) = -1
      · rw [if_pos q, if_pos rfl, (ov.void ho.1.1 q).2]
      · rw [if_neg q, if_neg one_ne])
  rw [k, Int32.zero_add]
theorem r_coins {σ : Mm} {B n m : Nat} (ho : okC B n m (σ 199)) : f_X10_coins σ = some (sm (fun g => σ 199 (30 + 4 * g)) n + sm (fun v => σ 199 (46 + 8 * v)) m) := by
  have hm := ho.2.1.1
  have h1 := ho.2.1.2
  have hn := ho.1.1
  have h0 := ho.1.2
  unfold f_X10_coins
  rw [lt_d]
  have k := loopS (F := f_X10_coins_l4 (fun v1 v2 => f_X10_coins_l34 σ 8 0 v2) σ) (K := fun x => f_X10_coins_l34 σ 8 0 x) n (by omega) (fun g => σ 199 (30 + 4 * g)) 0 (fun n x => by
      rw [f_X10_coins_l4, h0, if_pos ((I_le (by omega) (by omega)).mpr (Nat.le_refl _))]) (fun n' v x hv => by
      rw [f_X10_coins_l4, h0, if_neg (nle hv (by omega)), n_gAt, bnd_d, gd_I (show 30 + 4 * v < 86 by omega) (by omega), I_clamp (by omega), lt_d, lt_d, I_a1])
  rw [k, Int32.zero_add]
  exact loopS (F := f_X10_coins_l34 σ) (K := fun x => some x) m hm (fun v => σ 199 (46 + 8 * v)) _ (fun n x => by
      rw [f_X10_coins_l34, h1, if_pos ((I_le (by omega) (by omega)).mpr (Nat.le_refl _))]) (fun n' v x hv => by
      rw [f_X10_coins_l34, h1, if_neg (nle hv (by omega)), n_vAt, bnd_d, gd_I (show 46 + 8 * v < 86 by omega) (by omega), I_clamp (by omega), lt_d, lt_d, I_a1])
theorem m_coins {σ : Mm} {f : Fm} {B n m : Nat} (h : rep 0 σ f) (ho : okC B n m f) : f_X6_coinsOfAll σ = some (sm (fun v => f (46 + 8 * v)) m + sm (fun g => f (30 + 4 * g)) n) := by
  have hn := ho.1.1
  have h3 : σ 0 3 = I n := (h.get0 (k := 0) (by omega)).trans ho.1.2
  unfold f_X6_coinsOfAll
  rw [m_total h ho, bnd_d]
  exact loopS (F := f_X6_coinsOfAll_l8 σ) (K := fun x => some x) n (by omega) (fun g => f (30 + 4 * g)) _ (fun n x => by
      rw [f_X6_coinsOfAll_l8, h3, if_pos ((I_le (by omega) (by omega)).mpr (Nat.le_refl _))]) (fun n' v x hv => by
      rw [f_X6_coinsOfAll_l8, h3, if_neg (nle hv (by omega)), gd_I (show v < 4 by omega) (by omega), I_clamp (by omega), show 3 + 1 + v = 4 + v by omega, show σ (4 + v) 0 = f (30 + 4 * v) from h.getG (k := 0) (by omega) (by omega), lt_d, lt_d, I_a1])
theorem q_account {σ : Mm} {B : Nat} (e2 : Nat) (R : RR B σ) (w : Int32) : ∃ out τ, f_X9_account w σ = some (out, τ) ∧ ∃ r ρ, f_X10_account w τ = some (r, ρ) ∧ RR B ρ ∧ same2 out 3 e2 r (ρ 198 12) := by
  obtain ⟨n, m, ho⟩ := R.2.1
  obtain ⟨hn, f0⟩ := ho.1
  obtain ⟨hm, f1⟩ := ho.2.1
  have h := R.1
  have e199 : (up σ 198 12 0) 199 = σ 199 := thr199 _ _
  have e198 : ∀ k, k ≠ 12 → (up σ 198 12 0) 198 k = σ 198 k := fun k hk => by rw [up_e, upd_n _ _ hk]
  have ho2 : okC B n m ((up σ 198 12 0) 199) := by rw [e199]; exact ho
  have ro := r_outs ho2
  have rv := r_voids ho2
  have rl := r_lasting ho2 (-1)
  have rg := r_gaps (σ := up σ 198 12 0)
  have rc := r_coins ho2
  rw [e199] at ro rv rl rg rc
  unfold f_X9_account f_X10_account
  have g0 : ∀ k, k < 6 → σ 0 (3 + k) = σ 199 k := fun k hk => h.get0 hk
  have fin : ∀ x : Int32, ∃ r ρ, (some (x, up σ 198 12 0) : Option (Int32 × Mm)) = some (r, ρ) ∧ RR B ρ ∧ same2 (Sum.inl x) 3 e2 r (ρ 198 12) := fun x => ⟨_, _, rfl, R.thr 0, thr12 _ _, rfl⟩
  by_cases y : w = 0
  · rw [if_pos y, show σ 0 3 = σ 199 0 from g0 0 (by omega)]
    refine ⟨_, _, rfl, ?_⟩
    rw [lt_d, if_pos y, y, show ∀ x : Option (Int32 × Mm), gd 0 86 x = x from fun x => gd_I (n := 0) (by omega) (by omega), e199, show Int32.toNatClampNeg 0 = 0 from rfl]
    exact fin _
  rw [if_neg y]
  by_cases y1 : w = 1
  · rw [if_pos y1, show σ 0 4 = σ 199 1 from g0 1 (by omega)]
    refine ⟨_, _, rfl, ?_⟩
    rw [lt_d, if_neg y, if_pos y1, y1, show ∀ x : Option (Int32 × Mm), gd 1 86 x = x from fun x => gd_I (n := 1) (by omega) (by omega), e199, show Int32.toNatClampNeg 1 = 1 from rfl]
    exact fin _
  rw [if_neg y1]
  by_cases y2 : w = 2
  · rw [if_pos y2, m_total h ho, bnd_d]
    refine ⟨_, _, rfl, ?_⟩
    rw [lt_d, if_neg y, if_neg y1, if_pos y2, ro, bnd_d]
    exact fin _
  rw [if_neg y2]
  by_cases y3 : w = 3
  · unfold f_X6_bonds
    rw [if_pos y3, m_bonds h ho, bnd_d, bnd_d, show σ 0 4 = I m from (g0 1 (by omega)).trans f1, sm_neg B n m (fun v hv => ho.2.2.2.2.1 v hv)]
    refine ⟨_, _, rfl, ?_⟩
    rw [lt_d, if_neg y, if_neg y1, if_neg y2, if_pos y3, rl, bnd_d]
    exact fin _
  rw [if_neg y3]
  by_cases y4 : w = 4
  · rw [if_pos y4, m_total h ho, bnd_d]
    refine ⟨_, _, rfl, ?_⟩
    rw [lt_d, if_neg y, if_neg y1, if_neg y2, if_neg y3, if_pos y4, rv, bnd_d]
    exact fin _
  rw [if_neg y4]
  by_cases y5 : w = 5
  · rw [if_pos y5, c_gaps h, bnd_d]
    refine ⟨_, _, rfl, ?_⟩
    rw [lt_d, if_neg y, if_neg y1, if_neg y2, if_neg y3, if_neg y4, if_pos y5, rg, bnd_d]
    exact fin _
  rw [if_neg y5]
  by_cases y6 : w = 6
  · rw [if_pos y6, show σ 0 6 = σ 199 3 from g0 3 (by omega)]
    refine ⟨_, _, rfl, ?_⟩
    rw [lt_d, if_neg y, if_neg y1, if_neg y2, if_neg y3, if_neg y4, if_neg y5, if_pos y6, y6, show ((3 : Int32) + 6) - 6 = I 3 by decide, gd_I (by omega) (by omega), I_clamp (by omega), e199]
    exact fin _
  rw [if_neg y6]
  by_cases y7 : w = 7
  · rw [if_pos y7, show σ 0 7 = σ 199 4 from g0 4 (by omega)]
    refine ⟨_, _, rfl, ?_⟩
    rw [lt_d, if_neg y, if_neg y1, if_neg y2, if_neg y3, if_neg y4, if_neg y5, if_neg y6, if_pos y7, y7, show ((3 : Int32) + 7) - 6 = I 4 by decide, gd_I (by omega) (by omega), I_clamp (by omega), e199]
    exact fin _
  rw [if_neg y7]
  by_cases y8 : w = 8
  · rw [if_pos y8, show σ 0 8 = σ 199 5 from g0 5 (by omega)]
    refine ⟨_, _, rfl, ?_⟩
    rw [lt_d, if_neg y, if_neg y1, if_neg y2, if_neg y3, if_neg y4, if_neg y5, if_neg y6, if_neg y7, if_pos y8, y8, show ((3 : Int32) + 8) - 6 = I 5 by decide, gd_I (by omega) (by omega), I_clamp (by omega), e199]
    exact fin _
  rw [if_neg y8]
  by_cases y9 : w = 9
  · rw [if_pos y9, m_coins h ho, bnd_d]
    refine ⟨_, _, rfl, ?_⟩
    rw [lt_d, if_neg y, if_neg y1, if_neg y2, if_neg y3, if_neg y4, if_neg y5, if_neg y6, if_neg y7, if_neg y8, if_pos y9, rc, bnd_d, Int32.add_comm]
    exact fin _
  rw [if_neg y9]
  by_cases y10 : w = 10
  · obtain ⟨a, b, -, -, -, c1, c2, -⟩ := R.2.2.1
    rw [if_pos y10, c1]
    refine ⟨_, _, rfl, ?_⟩
    rw [lt_d, if_neg y, if_neg y1, if_neg y2, if_neg y3, if_neg y4, if_neg y5, if_neg y6, if_neg y7, if_neg y8, if_neg y9, if_pos y10, e198 5 (by omega), c2]
    exact fin _
  rw [if_neg y10]
  by_cases y11 : w = 11
  · obtain ⟨L, -, c1, c2, -⟩ := R.2.2.2.2.2.1
    rw [if_pos y11, c1]
    refine ⟨_, _, rfl, ?_⟩
    rw [lt_d, if_neg y, if_neg y1, if_neg y2, if_neg y3, if_neg y4, if_neg y5, if_neg y6, if_neg y7, if_neg y8, if_neg y9, if_neg y10, if_pos y11, e198 11 (by omega), c2]
    exact fin _
  rw [if_neg y11]
  refine ⟨_, _, rfl, ?_⟩
  rw [lt_d, if_neg y, if_neg y1, if_neg y2, if_neg y3, if_neg y4, if_neg y5, if_neg y6, if_neg y7, if_neg y8, if_neg y9, if_neg y10, if_neg y11, r_thr, bnm_d]
  exact ⟨_, _, rfl, (R.thr 0).thr 1, Or.inl ⟨rfl, thr12 _ _⟩⟩
