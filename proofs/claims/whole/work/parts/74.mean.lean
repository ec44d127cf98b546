/-! the two that answer with a fraction -/
theorem n64_of {r : UInt64} (h : FP.Core.dIsNaN r = false) : vf_n64 r := by
  have h1 : ¬ 9218868437227405312 < r.toNat % 2 ^ 63 := fun q => by rw [(FP.Core.isNaN_bits r).mpr q] at h; cases h
  show (r &&& 0x7fffffffffffffff).toNat ≤ (0x7ff0000000000000 : UInt64).toNat
  rw [UInt64.toNat_and]
  rw [show (0x7fffffffffffffff : UInt64).toNat = 2 ^ 63 - 1 from rfl, Nat.and_two_pow_sub_one_eq_mod]
  rw [show (0x7ff0000000000000 : UInt64).toNat = 9218868437227405312 from rfl]
  omega
theorem n32_of {r : UInt32} (h : FP.Core.fIsNaN r = false) : vf_n32 r := by
  have h1 : ¬ 2139095040 < r.toNat % 2 ^ 31 := fun q => by rw [(FP.Core.isNaN_bits32 r).mpr q] at h; cases h
  show (r &&& 0x7fffffff).toNat ≤ (0x7f800000 : UInt32).toNat
  rw [UInt32.toNat_and]
  rw [show (0x7fffffff : UInt32).toNat = 2 ^ 31 - 1 from rfl, Nat.and_two_pow_sub_one_eq_mod]
  rw [show (0x7f800000 : UInt32).toNat = 2139095040 from rfl]
  omega
theorem d_fin_nan {a : UInt64} (h : FP.Core.DFin a) : FP.Core.dIsNaN a = false := by
  cases hh : FP.Core.dIsNaN a with
  | false => rfl
  | true =>
    have h1 := (FP.Core.isNaN_bits a).mp hh
    have h2 := (FP.Core.fin_bits a).mp h
    omega
theorem f_fin_nan {a : UInt32} (h : FP.Core.FFin a) : FP.Core.fIsNaN a = false := by
  cases hh : FP.Core.fIsNaN a with
  | false => rfl
  | true =>
    have h1 := (FP.Core.isNaN_bits32 a).mp hh
    have h2 := (FP.Core.fin_bits32 a).mp h
    omega
theorem mean_nn (x y : Int32) (hy : y ≠ 0) : FP.Core.dIsNaN (FP.ddiv (FP.i2d x) (FP.i2d y)) = false := by
  rw [FP.ddiv_core, FP.i2d_core]
  exact FP.Core.ddiv_out (d_fin_nan (FP.Core.i2d_fin x)) (FP.Core.i2d_fin y) (fun h => FP.Core.i2d_ne_zero hy ((FP.Core.zero_bits2 _).mp h))
theorem share_nn (x : Int32) : FP.Core.fIsNaN (FP.fdiv (FP.i2f x) (1103101952 : UInt32)) = false := by
  rw [FP.fdiv_core, FP.i2f_core]
  exact FP.Core.fdiv_out (f_fin_nan (FP.Core.i2f_fin x)) ((FP.Core.fin_bits32 _).mpr (by decide)) (fun h => absurd ((FP.Core.zero_bits232 _).mp h) (by decide))
theorem f2d_nn {a : UInt32} (h : FP.Core.fIsNaN a = false) : FP.Core.dIsNaN (FP.f2d a) = false := by
  rw [FP.f2d_core h]
  exact FP.Core.f2d_out h
theorem cmp_same {x : UInt64} (h : FP.Core.dIsNaN x = false) : FP.dcmp x x = some .eq := by
  rw [FP.dcmp_core]
  exact FP.Core.dcmp_refl h
theorem q_gapShare {σ : Mm} {B : Nat} (R : RR B σ) : ∃ v, f_X9_gapShare σ = some v ∧ FP.Core.fIsNaN v = false ∧ ∃ ρ, f_X10_gapShare σ = some (v, ρ) ∧ RR B ρ := by
  have g1 := c_gaps R.1
  have g2 := r_gaps (σ := up σ 198 12 0)
  rw [up_n _ _ _ (by decide)] at g2
  refine ⟨FP.fdiv (FP.i2f (I (gN (σ 199) 24))) (1103101952 : UInt32), ?_, share_nn _, up σ 198 12 0, ?_, R.thr 0⟩
  · unfold f_X9_gapShare
    rw [g1, bnd_d]
    unfold fnz
    exact if_pos (n32_of (share_nn _))
  · unfold f_X10_gapShare
    rw [lt_d, g2, bnd_d]
    unfold fnz
    exact if_pos (n32_of (share_nn _))
/-- the class's answer, or its exception, against the reference's -/
def sameD (o : UInt64 ⊕ Nat) (b : UInt64) (t : Int32) : Prop := match o with
  | .inl a => t = 0 ∧ b = a ∧ FP.Core.dIsNaN a = false
  | .inr k => k = 5 ∧ t = 1
theorem q_meanLost {σ : Mm} {B : Nat} (R : RR B σ) : ∃ out τ, f_X9_meanLost σ = some (out, τ) ∧ ∃ r ρ, f_X10_meanLost τ = some (r, ρ) ∧ RR B ρ ∧ sameD out r (ρ 198 12) := by
  obtain ⟨n, m, ho⟩ := R.2.1
  have h4 : σ 0 4 = I m := (R.1.get0 (k := 1) (by omega)).trans ho.2.1.2
  have hm := ho.2.1.1
  have h1 : σ 199 1 = I m := ho.2.1.2
  have e1 : (up σ 198 12 0) 199 = σ 199 := up_n _ _ _ (by decide)
  by_cases hz : I m = 0
  · refine ⟨.inr 5, σ, ?_, FP.dconst0, up (up σ 198 12 0) 198 12 1, ?_, (R.thr 0).thr 1, rfl, thr12 _ _⟩
    · unfold f_X9_meanLost
      rw [h4, if_pos hz]
    · unfold f_X10_meanLost
      rw [lt_d, e1, h1, if_pos hz, r_thr, bnm_d]
  · have t1 := m_total R.1 ho 4
    have t1 : f_X6_totalOf 4 σ = some (sm (fun v => lostV v (σ 199)) m) := t1
    refine ⟨.inl (FP.ddiv (FP.i2d (sm (fun v => lostV v (σ 199)) m)) (FP.i2d (I m))), σ, ?_, FP.ddiv (FP.i2d (sm (fun v => lostV v (σ 199)) m)) (FP.i2d (I m)), up σ 198 12 0, ?_, R.thr 0, thr12 _ _, rfl, mean_nn _ _ hz⟩
    · unfold f_X9_meanLost
      rw [h4, if_neg hz, t1, bnd_d]
      unfold dnz
      exact if_pos (n64_of (mean_nn _ _ hz))
    · unfold f_X10_meanLost
      rw [lt_d, e1, h1, if_neg hz]
      have k := loopS (F := f_X10_meanLost_l26 (up σ 198 12 0)) (K := fun x => dnz (FP.ddiv (FP.i2d x) (FP.i2d (I m))) (some (FP.ddiv (FP.i2d x) (FP.i2d (I m)), up σ 198 12 0))) m hm (fun v => lostV v (σ 199)) 0 (fun n x => by
          rw [f_X10_meanLost_l26, e1, h1, if_pos ((I_le (by omega) (by omega)).mpr (Nat.le_refl _))]) (fun n v x hv => by
          rw [f_X10_meanLost_l26, e1, h1, if_neg (nle hv (by omega)), n_lost (by omega), e1, bnd_d, lt_d, lt_d, I_a1])
      rw [k, Int32.zero_add]
      unfold dnz
      exact if_pos (n64_of (mean_nn _ _ hz))
/-- a summer is never refused -/
theorem q_summerY {σ : Mm} {B : Nat} (R : RR B σ) : ∃ r τ, f_X9_summer σ = some (.inl r, τ) ∧ ∃ ρ, f_X10_summer τ = some (r, ρ) ∧ RR (B + 9) ρ := by
  obtain ⟨out, τ, h1, r, ρ, h2, h3, h4⟩ := q_summer R
  have hy : ∃ a, out = .inl a := by
    obtain ⟨σ1, a1, a2, a3⟩ := c_copy (i := 14) (o := 0) (by omega) R.1 R.2.1
    have c1 := c_summer (R.1.move (fun a _ h => a3 a (by omega))) R.2.1
    unfold S_summer yes at c1
    obtain ⟨σ2, b1, b2, b3, b4⟩ := c1
    unfold f_X9_summer at h1
    rw [a1, bnd_d, b1, bnm_d] at h1
    unfold f_X9_settled at h1
    rw [if_neg b2] at h1
    cases hk : f_X2_keep σ2 with
    | none => rw [hk] at h1; cases h1
    | some σ3 => rw [hk, bnd_d] at h1; cases h1; exact ⟨_, rfl⟩
  obtain ⟨a, rfl⟩ := hy
  exact ⟨a, τ, h1, ρ, by rw [h2, h4.2], h3⟩
