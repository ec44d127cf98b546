/-! how many cells a set has -/
theorem cnt_0 : ∀ a, a < 8 → ∀ b, b < 256 → f_J6_bitCount_0f7a4 (I (0 + 256 * a + b)) (fun _ _ => 0) = f_X10_ones (I (0 + 256 * a + b)) (fun _ _ => 0) := by decide +kernel
theorem cnt_1 : ∀ a, a < 8 → ∀ b, b < 256 → f_J6_bitCount_0f7a4 (I (2048 + 256 * a + b)) (fun _ _ => 0) = f_X10_ones (I (2048 + 256 * a + b)) (fun _ _ => 0) := by decide +kernel
theorem cnt_2 : ∀ a, a < 8 → ∀ b, b < 256 → f_J6_bitCount_0f7a4 (I (4096 + 256 * a + b)) (fun _ _ => 0) = f_X10_ones (I (4096 + 256 * a + b)) (fun _ _ => 0) := by decide +kernel
theorem cnt_3 : ∀ a, a < 8 → ∀ b, b < 256 → f_J6_bitCount_0f7a4 (I (6144 + 256 * a + b)) (fun _ _ => 0) = f_X10_ones (I (6144 + 256 * a + b)) (fun _ _ => 0) := by decide +kernel
theorem cnt_4 : ∀ a, a < 8 → ∀ b, b < 256 → f_J6_bitCount_0f7a4 (I (8192 + 256 * a + b)) (fun _ _ => 0) = f_X10_ones (I (8192 + 256 * a + b)) (fun _ _ => 0) := by decide +kernel
theorem cnt_5 : ∀ a, a < 8 → ∀ b, b < 256 → f_J6_bitCount_0f7a4 (I (10240 + 256 * a + b)) (fun _ _ => 0) = f_X10_ones (I (10240 + 256 * a + b)) (fun _ _ => 0) := by decide +kernel
theorem cnt_6 : ∀ a, a < 8 → ∀ b, b < 256 → f_J6_bitCount_0f7a4 (I (12288 + 256 * a + b)) (fun _ _ => 0) = f_X10_ones (I (12288 + 256 * a + b)) (fun _ _ => 0) := by decide +kernel
theorem cnt_7 : ∀ a, a < 8 → ∀ b, b < 256 → f_J6_bitCount_0f7a4 (I (14336 + 256 * a + b)) (fun _ _ => 0) = f_X10_ones (I (14336 + 256 * a + b)) (fun _ _ => 0) := by decide +kernel
theorem cnt_8 : ∀ a, a < 8 → ∀ b, b < 256 → f_J6_bitCount_0f7a4 (I (16384 + 256 * a + b)) (fun _ _ => 0) = f_X10_ones (I (16384 + 256 * a + b)) (fun _ _ => 0) := by decide +kernel
theorem cnt_9 : ∀ a, a < 8 → ∀ b, b < 256 → f_J6_bitCount_0f7a4 (I (18432 + 256 * a + b)) (fun _ _ => 0) = f_X10_ones (I (18432 + 256 * a + b)) (fun _ _ => 0) := by decide +kernel
theorem cnt_10 : ∀ a, a < 8 → ∀ b, b < 256 → f_J6_bitCount_0f7a4 (I (20480 + 256 * a + b)) (fun _ _ => 0) = f_X10_ones (I (20480 + 256 * a + b)) (fun _ _ => 0) := by decide +kernel
theorem cnt_11 : ∀ a, a < 8 → ∀ b, b < 256 → f_J6_bitCount_0f7a4 (I (22528 + 256 * a + b)) (fun _ _ => 0) = f_X10_ones (I (22528 + 256 * a + b)) (fun _ _ => 0) := by decide +kernel
theorem cnt_12 : ∀ a, a < 8 → ∀ b, b < 256 → f_J6_bitCount_0f7a4 (I (24576 + 256 * a + b)) (fun _ _ => 0) = f_X10_ones (I (24576 + 256 * a + b)) (fun _ _ => 0) := by decide +kernel
theorem cnt_13 : ∀ a, a < 8 → ∀ b, b < 256 → f_J6_bitCount_0f7a4 (I (26624 + 256 * a + b)) (fun _ _ => 0) = f_X10_ones (I (26624 + 256 * a + b)) (fun _ _ => 0) := by decide +kernel
theorem cnt_14 : ∀ a, a < 8 → ∀ b, b < 256 → f_J6_bitCount_0f7a4 (I (28672 + 256 * a + b)) (fun _ _ => 0) = f_X10_ones (I (28672 + 256 * a + b)) (fun _ _ => 0) := by decide +kernel
theorem cnt_15 : ∀ a, a < 8 → ∀ b, b < 256 → f_J6_bitCount_0f7a4 (I (30720 + 256 * a + b)) (fun _ _ => 0) = f_X10_ones (I (30720 + 256 * a + b)) (fun _ _ => 0) := by decide +kernel
theorem cnt_16 : ∀ a, a < 8 → ∀ b, b < 256 → f_J6_bitCount_0f7a4 (I (32768 + 256 * a + b)) (fun _ _ => 0) = f_X10_ones (I (32768 + 256 * a + b)) (fun _ _ => 0) := by decide +kernel
theorem cnt_17 : ∀ a, a < 8 → ∀ b, b < 256 → f_J6_bitCount_0f7a4 (I (34816 + 256 * a + b)) (fun _ _ => 0) = f_X10_ones (I (34816 + 256 * a + b)) (fun _ _ => 0) := by decide +kernel
theorem cnt_18 : ∀ a, a < 8 → ∀ b, b < 256 → f_J6_bitCount_0f7a4 (I (36864 + 256 * a + b)) (fun _ _ => 0) = f_X10_ones (I (36864 + 256 * a + b)) (fun _ _ => 0) := by decide +kernel
theorem cnt_19 : ∀ a, a < 8 → ∀ b, b < 256 → f_J6_bitCount_0f7a4 (I (38912 + 256 * a + b)) (fun _ _ => 0) = f_X10_ones (I (38912 + 256 * a + b)) (fun _ _ => 0) := by decide +kernel
theorem cnt_20 : ∀ a, a < 8 → ∀ b, b < 256 → f_J6_bitCount_0f7a4 (I (40960 + 256 * a + b)) (fun _ _ => 0) = f_X10_ones (I (40960 + 256 * a + b)) (fun _ _ => 0) := by decide +kernel
theorem cnt_21 : ∀ a, a < 8 → ∀ b, b < 256 → f_J6_bitCount_0f7a4 (I (43008 + 256 * a + b)) (fun _ _ => 0) = f_X10_ones (I (43008 + 256 * a + b)) (fun _ _ => 0) := by decide +kernel
theorem cnt_22 : ∀ a, a < 8 → ∀ b, b < 256 → f_J6_bitCount_0f7a4 (I (45056 + 256 * a + b)) (fun _ _ => 0) = f_X10_ones (I (45056 + 256 * a + b)) (fun _ _ => 0) := by decide +kernel
theorem cnt_23 : ∀ a, a < 8 → ∀ b, b < 256 → f_J6_bitCount_0f7a4 (I (47104 + 256 * a + b)) (fun _ _ => 0) = f_X10_ones (I (47104 + 256 * a + b)) (fun _ _ => 0) := by decide +kernel
theorem cnt_24 : ∀ a, a < 8 → ∀ b, b < 256 → f_J6_bitCount_0f7a4 (I (49152 + 256 * a + b)) (fun _ _ => 0) = f_X10_ones (I (49152 + 256 * a + b)) (fun _ _ => 0) := by decide +kernel
theorem cnt_25 : ∀ a, a < 8 → ∀ b, b < 256 → f_J6_bitCount_0f7a4 (I (51200 + 256 * a + b)) (fun _ _ => 0) = f_X10_ones (I (51200 + 256 * a + b)) (fun _ _ => 0) := by decide +kernel
theorem cnt_26 : ∀ a, a < 8 → ∀ b, b < 256 → f_J6_bitCount_0f7a4 (I (53248 + 256 * a + b)) (fun _ _ => 0) = f_X10_ones (I (53248 + 256 * a + b)) (fun _ _ => 0) := by decide +kernel
theorem cnt_27 : ∀ a, a < 8 → ∀ b, b < 256 → f_J6_bitCount_0f7a4 (I (55296 + 256 * a + b)) (fun _ _ => 0) = f_X10_ones (I (55296 + 256 * a + b)) (fun _ _ => 0) := by decide +kernel
theorem cnt_28 : ∀ a, a < 8 → ∀ b, b < 256 → f_J6_bitCount_0f7a4 (I (57344 + 256 * a + b)) (fun _ _ => 0) = f_X10_ones (I (57344 + 256 * a + b)) (fun _ _ => 0) := by decide +kernel
theorem cnt_29 : ∀ a, a < 8 → ∀ b, b < 256 → f_J6_bitCount_0f7a4 (I (59392 + 256 * a + b)) (fun _ _ => 0) = f_X10_ones (I (59392 + 256 * a + b)) (fun _ _ => 0) := by decide +kernel
theorem cnt_30 : ∀ a, a < 8 → ∀ b, b < 256 → f_J6_bitCount_0f7a4 (I (61440 + 256 * a + b)) (fun _ _ => 0) = f_X10_ones (I (61440 + 256 * a + b)) (fun _ _ => 0) := by decide +kernel
theorem cnt_31 : ∀ a, a < 8 → ∀ b, b < 256 → f_J6_bitCount_0f7a4 (I (63488 + 256 * a + b)) (fun _ _ => 0) = f_X10_ones (I (63488 + 256 * a + b)) (fun _ _ => 0) := by decide +kernel
theorem cnt_eq {σ τ : Mm} {x : Int32} (h : ∀ v, 16 ≤ v → bit x v = false) : f_J6_bitCount_0f7a4 x σ = f_X10_ones x τ := by
  have ind1 : f_J6_bitCount_0f7a4 x σ = f_J6_bitCount_0f7a4 x (fun _ _ => 0) := rfl
  have ind2 : ∀ n v g, f_X10_ones_l4 x τ n v g = f_X10_ones_l4 x (fun _ _ => 0) n v g := by
    intro n
    induction n with
    | zero => intro v g; rfl
    | succ n ih =>
      intro v g
      rw [f_X10_ones_l4, f_X10_ones_l4]
      split
      · rfl
      · rw [lt_d, lt_d, lt_d, lt_d]; exact ih _ _
  have ind3 : f_X10_ones x τ = f_X10_ones x (fun _ _ => 0) := by unfold f_X10_ones; exact ind2 _ _ _
  rw [ind1, ind3]
  have hx : ∃ a b, a < 256 ∧ b < 256 ∧ x = I (256 * a + b) := by
    have hlt : x.toBitVec.toNat < 65536 := by
      have : x.toBitVec = (x.toBitVec.setWidth 16).setWidth 32 := by
        apply BitVec.eq_of_getLsbD_eq
        intro i hi
        rw [BitVec.getLsbD_setWidth, BitVec.getLsbD_setWidth]
        by_cases q : i < 16
        · simp [q, hi]
        · have := h i (by omega)
          unfold bit at this
          rw [this]
          simp [q]
      rw [this, BitVec.toNat_setWidth, BitVec.toNat_setWidth]
      exact Nat.lt_of_le_of_lt (Nat.mod_le _ _) (Nat.mod_lt _ (by decide))
    refine ⟨x.toBitVec.toNat / 256, x.toBitVec.toNat % 256, by omega, by omega, ?_⟩
    rw [show 256 * (x.toBitVec.toNat / 256) + x.toBitVec.toNat % 256 = x.toBitVec.toNat by omega]
    apply Int32.toBitVec_inj.mp
    show x.toBitVec = BitVec.ofNat 32 x.toBitVec.toNat
    rw [BitVec.ofNat_toNat, BitVec.setWidth_eq]
  obtain ⟨a, b, ha, hb, rfl⟩ := hx
  obtain ⟨k, c, hk, hc, rfl⟩ : ∃ k c, k < 32 ∧ c < 8 ∧ a = 8 * k + c := ⟨a / 8, a % 8, by omega, by omega, by omega⟩
  rcases (show k = 0 ∨ k = 1 ∨ k = 2 ∨ k = 3 ∨ k = 4 ∨ k = 5 ∨ k = 6 ∨ k = 7 ∨ k = 8 ∨ k = 9 ∨ k = 10 ∨ k = 11 ∨ k = 12 ∨ k = 13 ∨ k = 14 ∨ k = 15 ∨ k = 16 ∨ k = 17 ∨ k = 18 ∨ k = 19 ∨ k = 20 ∨ k = 21 ∨ k = 22 ∨ k = 23 ∨ k = 24 ∨ k = 25 ∨ k = 26 ∨ k = 27 ∨ k = 28 ∨ k = 29 ∨ k = 30 ∨ k = 31 by omega) with rfl | rfl | rfl | rfl | rfl | rfl | rfl | rfl | rfl | rfl | rfl | rfl | rfl | rfl | rfl | rfl | rfl | rfl | rfl | rfl | rfl | rfl | rfl | rfl | rfl | rfl | rfl | rfl | rfl | rfl | rfl | rfl
  · have h := cnt_0 c hc b hb
    rwa [show 0 + 256 * c + b = 256 * (8 * 0 + c) + b by omega] at h
  · have h := cnt_1 c hc b hb
    rwa [show 2048 + 256 * c + b = 256 * (8 * 1 + c) + b by omega] at h
  · have h := cnt_2 c hc b hb
    rwa [show 4096 + 256 * c + b = 256 * (8 * 2 + c) + b by omega] at h
  · have h := cnt_3 c hc b hb
    rwa [show 6144 + 256 * c + b = 256 * (8 * 3 + c) + b by omega] at h
  · have h := cnt_4 c hc b hb
    rwa [show 8192 + 256 * c + b = 256 * (8 * 4 + c) + b by omega] at h
  · have h := cnt_5 c hc b hb
    rwa [show 10240 + 256 * c + b = 256 * (8 * 5 + c) + b by omega] at h
  · have h := cnt_6 c hc b hb
    rwa [show 12288 + 256 * c + b = 256 * (8 * 6 + c) + b by omega] at h
  · have h := cnt_7 c hc b hb
    rwa [show 14336 + 256 * c + b = 256 * (8 * 7 + c) + b by omega] at h
  · have h := cnt_8 c hc b hb
    rwa [show 16384 + 256 * c + b = 256 * (8 * 8 + c) + b by omega] at h
  · have h := cnt_9 c hc b hb
    rwa [show 18432 + 256 * c + b = 256 * (8 * 9 + c) + b by omega] at h
  · have h := cnt_10 c hc b hb
    rwa [show 20480 + 256 * c + b = 256 * (8 * 10 + c) + b by omega] at h
  · have h := cnt_11 c hc b hb
    rwa [show 22528 + 256 * c + b = 256 * (8 * 11 + c) + b by omega] at h
  · have h := cnt_12 c hc b hb
    rwa [show 24576 + 256 * c + b = 256 * (8 * 12 + c) + b by omega] at h
  · have h := cnt_13 c hc b hb
    rwa [show 26624 + 256 * c + b = 256 * (8 * 13 + c) + b by omega] at h
  · have h := cnt_14 c hc b hb
    rwa [show 28672 + 256 * c + b = 256 * (8 * 14 + c) + b by omega] at h
  · have h := cnt_15 c hc b hb
    rwa [show 30720 + 256 * c + b = 256 * (8 * 15 + c) + b by omega] at h
  · have h := cnt_16 c hc b hb
    rwa [show 32768 + 256 * c + b = 256 * (8 * 16 + c) + b by omega] at h
  · have h := cnt_17 c hc b hb
    rwa [show 34816 + 256 * c + b = 256 * (8 * 17 + c) + b by omega] at h
  · have h := cnt_18 c hc b hb
    rwa [show 36864 + 256 * c + b = 256 * (8 * 18 + c) + b by omega] at h
  · have h := cnt_19 c hc b hb
    rwa [show 38912 + 256 * c + b = 256 * (8 * 19 + c) + b by omega] at h
  · have h := cnt_20 c hc b hb
    rwa [show 40960 + 256 * c + b = 256 * (8 * 20 + c) + b by omega] at h
  · have h := cnt_21 c hc b hb
    rwa [show 43008 + 256 * c + b = 256 * (8 * 21 + c) + b by omega] at h
  · have h := cnt_22 c hc b hb
    rwa [show 45056 + 256 * c + b = 256 * (8 * 22 + c) + b by omega] at h
  · have h := cnt_23 c hc b hb
    rwa [show 47104 + 256 * c + b = 256 * (8 * 23 + c) + b by omega] at h
  · have h := cnt_24 c hc b hb
    rwa [show 49152 + 256 * c + b = 256 * (8 * 24 + c) + b by omega] at h
  · have h := cnt_25 c hc b hb
    rwa [show 51200 + 256 * c + b = 256 * (8 * 25 + c) + b by omega] at h
  · have h := cnt_26 c hc b hb
    rwa [show 53248 + 256 * c + b = 256 * (8 * 26 + c) + b by omega] at h
  · have h := cnt_27 c hc b hb
    rwa [show 55296 + 256 * c + b = 256 * (8 * 27 + c) + b by omega] at h
  · have h := cnt_28 c hc b hb
    rwa [show 57344 + 256 * c + b = 256 * (8 * 28 + c) + b by omega] at h
  · have h := cnt_29 c hc b hb
    rwa [show 59392 + 256 * c + b = 256 * (8 * 29 + c) + b by omega] at h
  · have h := cnt_30 c hc b hb
    rwa [show 61440 + 256 * c + b = 256 * (8 * 30 + c) + b by omega] at h
  · have h := cnt_31 c hc b hb
    rwa [show 63488 + 256 * c + b = 256 * (8 * 31 + c) + b by omega] at h
