/-! LINES: a text that grows, on both sides -/
abbrev Tx : Type := Nat × (Nat → Nat)
def nd (x : Nat) : Nat := if x < 10 then 1 else if x < 100 then 2 else if x < 1000 then 3 else if x < 10000 then 4 else if x < 100000 then 5 else 6
def tc (c : Nat) (p : Tx) : Tx := (p.1 + 1, fun j => if j = p.1 then c else p.2 j)
/-- i + 1 digits of x -/
def wrI (x i : Nat) (p : Tx) : Tx := (p.1 + i + 1, fun j => if p.1 ≤ j ∧ j < p.1 + i + 1 then 48 + x / 10 ^ (p.1 + i - j) % 10 else p.2 j)
def tn (x : Nat) (p : Tx) : Tx := wrI x (nd x - 1) p
theorem nd_le (x : Nat) : 1 ≤ nd x ∧ nd x ≤ 6 := by
  unfold nd
  repeat' split
  all_goals omega
theorem tn_1 (x : Nat) (p : Tx) : (tn x p).1 = p.1 + nd x := by
  have := nd_le x
  show p.1 + (nd x - 1) + 1 = p.1 + nd x
  omega
theorem tn_small {x : Nat} (h : x < 10) (p : Tx) : tn x p = tc (48 + x) p := by
  have e : nd x = 1 := by unfold nd; rw [if_pos h]
  unfold tn wrI tc
  rw [e]
  refine Prod.ext rfl (funext fun j => ?_)
  dsimp only
  by_cases q : j = p.1
  · subst q
    rw [if_pos (by omega), if_pos rfl, show p.1 + (1 - 1) - p.1 = 0 by omega, Nat.pow_zero, Nat.div_one, Nat.mod_eq_of_lt h]
  · rw [if_neg (by omega), if_neg q]
def BL (σ0 : Mm) (p : Tx) (σ : Mm) : Prop := σ 196 1 = 0 ∧ σ 196 3 = I p.1 ∧ p.1 ≤ 16 ∧ (∀ j, j < p.1 → p.2 j < 128 ∧ σ 197 j = I (p.2 j)) ∧ ∀ a, a ≠ 196 → a ≠ 197 → σ a = σ0 a
def RLn (σ0 : Mm) (p : Tx) (σ : Mm) : Prop := σ 198 20 = I p.1 ∧ p.1 ≤ 30 ∧ (∀ j, j < p.1 → σ 206 j = I (p.2 j)) ∧ (∀ a, a ≠ 198 → a ≠ 206 → σ a = σ0 a) ∧ ∀ k, k ≠ 20 → σ 198 k = σ0 198 k
theorem cap_ok {σ : Mm} {k : Nat} (h : σ 196 1 = 0) (hk : k ≤ 16) : f_J5_ensureCapacityInternal_d00df (I k) σ = some () := by
  unfold f_J5_ensureCapacityInternal_d00df
  rw [h, lt_d, if_pos ((by decide +kernel : ∀ k, k < 17 → I k - ((16 : Int32) >>> ((0 : Int32) &&& 31)) ≤ 0) k (by omega))]
theorem lat_ok {σ : Mm} (h : σ 196 1 = 0) : f_J5_isLatin1_aae02 σ = some 1 := by
  unfold f_J5_isLatin1_aae02
  rw [if_pos h]
theorem nar_b {c : Nat} (h : c < 128) : vp_nar .byte (I c) = I c := (by decide +kernel : ∀ c, c < 128 → vp_nar .byte (I c) = I c) c h
theorem nar_b8 {c : Nat} (h : c < 128) : vp_nar .byte (I c).toInt8.toInt32 = I c := (by decide +kernel : ∀ c, c < 128 → vp_nar .byte (I c).toInt8.toInt32 = I c) c h
theorem c_chr {σ0 σ : Mm} {p : Tx} {c : Nat} (h : BL σ0 p σ) (hp : p.1 < 16) (hc : c < 128) : ∃ τ, f_J4_append_cf468 (I c) σ = some τ ∧ BL σ0 (tc c p) τ := by
  obtain ⟨h1, h3, hk, hs, hf⟩ := h
  unfold f_J4_append_cf468 f_J5_append_3fe6f f_J1_canEncode_fc78d
  rw [h3, I_a1, cap_ok h1 (by omega), bnd_d, lat_ok h1, bnd_d, if_neg one_ne, if_neg (show ¬ (255 : Int32) < I c from fun z => by have := (I_lt (a := 255) (by omega) (by omega)).mp z; omega), bnd_d, if_neg one_ne, lt_d, gd_I hp (by omega), I_clamp (by omega), nar_b8 hc, lt_d, bnd_d]
  refine ⟨_, rfl, by rw [up_n _ _ _ (by omega), up_e, upd_n _ _ (by omega)]; exact h1, by rw [up_n _ _ _ (by omega), up_e, upd_e]; rfl, by show p.1 + 1 ≤ 16; omega, fun j hj => ?_, fun a z1 z2 => by rw [up_n _ _ _ z2, up_n _ _ _ z1]; exact hf a z1 z2⟩
  have hj : j < p.1 + 1 := hj
  unfold tc
  dsimp only
  rw [up_e, up_n _ _ _ (show 197 ≠ 196 by omega)]
  by_cases e : j = p.1
  · subst e; rw [upd_e, if_pos rfl]; exact ⟨hc, rfl⟩
  · rw [upd_n _ _ e, if_neg e]; exact hs j (by omega)
theorem r_sgn {σ0 σ : Mm} {p : Tx} {c : Nat} (h : RLn σ0 p σ) (hp : p.1 < 30) : ∃ τ, f_X10_sign (I c) σ = some τ ∧ RLn σ0 (tc c p) τ := by
  obtain ⟨h3, hk, hs, hf, hg⟩ := h
  unfold f_X10_sign
  rw [h3, gd_I hp (by omega), I_clamp (by omega), lt_d, up_n _ _ _ (show 198 ≠ 206 by omega), h3, I_a1, lt_d]
  refine ⟨_, rfl, by rw [up_e, upd_e]; rfl, by show p.1 + 1 ≤ 30; omega, fun j hj => ?_, fun a z1 z2 => by rw [up_n _ _ _ z1, up_n _ _ _ z2]; exact hf a z1 z2, fun k hk => by rw [up_e, upd_n _ _ hk, up_n _ _ _ (by omega)]; exact hg k hk⟩
  have hj : j < p.1 + 1 := hj
  unfold tc
  dsimp only
  rw [up_n _ _ _ (show 206 ≠ 198 by omega), up_e]
  by_cases e : j = p.1
  · subst e; rw [upd_e, if_pos rfl]
  · rw [upd_n _ _ e, if_neg e]; exact hs j (by omega)
/-! numbers -/
theorem I_div {a b : Nat} (ha : a < 2147483648) (hb : b < 2147483648) (h0 : 0 < b) : I a / I b = I (a / b) := by
  have hq : a / b ≤ a := Nat.div_le_self a b
  rw [← Int32.toInt_inj, Int32.toInt_div, I_toInt ha, I_toInt hb, I_toInt (by omega), ← Int.ofNat_tdiv, Int.bmod_def]
  generalize a / b = q at hq
  omega
theorem neg_le {a b : Nat} (ha : a < 2147483648) (hb : b < 2147483648) : -I a ≤ -I b ↔ b ≤ a := by
  have e : ∀ {a : Nat}, a < 2147483648 → (-I a).toInt = -(a : Int) := fun {a} h => by
    rw [Int32.toInt_neg, I_toInt h, Int.bmod_def]
    omega
  rw [Int32.le_iff_toInt_le, e ha, e hb]
  omega
theorem neg_div {a b : Nat} (ha : a < 2147483648) (hb : b < 2147483648) (h0 : 0 < b) : (-I a) / I b = -I (a / b) := by
  have e : ∀ {a : Nat}, a < 2147483648 → (-I a).toInt = -(a : Int) := fun {a} h => by
    rw [Int32.toInt_neg, I_toInt h, Int.bmod_def]
    omega
  have hq : a / b ≤ a := Nat.div_le_self a b
  rw [← Int32.toInt_inj, Int32.toInt_div, e ha, I_toInt hb, e (by omega), Int.neg_tdiv, ← Int.ofNat_tdiv, Int.bmod_def]
  generalize a / b = q at hq
  omega
theorem neg_rest {a b : Nat} (h : a * 100 ≤ b) : (-I a) * 100 - (-I b) = I (b - a * 100) := by
  have e : (-I a) * 100 = -(I (a * 100)) := by
    rw [Int32.neg_mul, show I a * 100 = I (a * 100) from I_mul a 100]
  rw [e, Int32.sub_eq_add_neg, Int32.neg_neg, Int32.add_comm, ← Int32.sub_eq_add_neg, I_sub h]
theorem dec1 {e : Nat} (h : 1 ≤ e) : I e + (-1) = I (e - 1) := by
  rw [← Int32.sub_eq_add_neg]; exact I_sub (b := 1) h
theorem size_ok {x : Nat} (h : x < 1000000) (σ : Mm) : f_J6_stringSize_0f7a4 (I x) σ = some (I (nd x)) := by
  unfold f_J6_stringSize_0f7a4
  rw [if_neg (I_n0 (by omega)), lt_d]
  have l1 : (-10 : Int32) = -I 10 := rfl
  have l2 : (10 : Int32) * -I 10 = -I 100 := by decide
  have l3 : (10 : Int32) * -I 100 = -I 1000 := by decide
  have l4 : (10 : Int32) * -I 1000 = -I 10000 := by decide
  have l5 : (10 : Int32) * -I 10000 = -I 100000 := by decide
  have l6 : (10 : Int32) * -I 100000 = -I 1000000 := by decide
  have P : ∀ y, y < 2147483648 → y ≤ x → -I x ≤ -I y := fun y h1 h2 => (neg_le (by omega) h1).mpr h2
  have N : ∀ y, y < 2147483648 → x < y → ¬ -I x ≤ -I y := fun y h1 h2 z => by have := (neg_le (by omega) h1).mp z; omega
  unfold nd
  rw [l1, f_J6_stringSize_0f7a4_l16b, if_neg (show ¬ (10 : Int32) ≤ 1 by decide)]
  by_cases q1 : x < 10
  · rw [if_neg (N 10 (by omega) q1), if_pos q1]; rfl
  rw [if_pos (P 10 (by omega) (by omega)), if_neg q1, l2, lt_d, lt_d, f_J6_stringSize_0f7a4_l16b, if_neg (show ¬ (10 : Int32) ≤ 1 + 1 by decide)]
  by_cases q2 : x < 100
  · rw [if_neg (N 100 (by omega) q2), if_pos q2]; rfl
  rw [if_pos (P 100 (by omega) (by omega)), if_neg q2, l3, lt_d, lt_d, f_J6_stringSize_0f7a4_l16b, if_neg (show ¬ (10 : Int32) ≤ 1 + 1 + 1 by decide)]
  by_cases q3 : x < 1000
  · rw [if_neg (N 1000 (by omega) q3), if_pos q3]; rfl
  rw [if_pos (P 1000 (by omega) (by omega)), if_neg q3, l4, lt_d, lt_d, f_J6_stringSize_0f7a4_l16b, if_neg (show ¬ (10 : Int32) ≤ 1 + 1 + 1 + 1 by decide)]
  by_cases q4 : x < 10000
  · rw [if_neg (N 10000 (by omega) q4), if_pos q4]; rfl
  rw [if_pos (P 10000 (by omega) (by omega)), if_neg q4, l5, lt_d, lt_d, f_J6_stringSize_0f7a4_l16b, if_neg (show ¬ (10 : Int32) ≤ 1 + 1 + 1 + 1 + 1 by decide)]
  by_cases q5 : x < 100000
  · rw [if_neg (N 100000 (by omega) q5), if_pos q5]; rfl
  rw [if_pos (P 100000 (by omega) (by omega)), if_neg q5, l6, lt_d, lt_d, f_J6_stringSize_0f7a4_l16b, if_neg (show ¬ (10 : Int32) ≤ 1 + 1 + 1 + 1 + 1 + 1 by decide), if_neg (N 1000000 (by omega) h)]
  rfl
theorem tab_o {r : Nat} (h : r < 100) : vp_nar .byte (digO r) = I (48 + r % 10) := nar_b (c := 48 + r % 10) (by omega)
theorem tab_t {r : Nat} (h : r < 100) : vp_nar .byte (digT r) = I (48 + r / 10) := nar_b (c := 48 + r / 10) (by omega)
theorem chars_step {K : Int32 → Int32 → Mm → Option (Int32 × Mm)} {a1 : Int32} {n y e : Nat} {σ : Mm} (h1 : 100 ≤ y) (h2 : y < 1000000) (e1 : 2 ≤ e) (e2 : e ≤ 16) : f_J6_getChars_ba4f3_l22 K a1 (n + 1) (-I y) (I e) σ = f_J6_getChars_ba4f3_l22 K a1 n (-I (y / 100)) (I (e - 2)) (up (up σ 197 (e - 1) (I (48 + y % 100 % 10))) 197 (e - 2) (I (48 + y % 100 / 10))) := by
  have hx : (-I y) / 100 = -I (y / 100) := neg_div (b := 100) (by omega) (by omega) (by omega)
  have hr : (-I (y / 100)) * 100 - (-I y) = I (y % 100) := by
    rw [neg_rest (by omega)]; congr 1; omega
  rw [f_J6_getChars_ba4f3_l22, if_neg (show ¬ (-100 : Int32) < -I y from fun z => Int32.not_lt.mpr ((neg_le (b := 100) (by omega) (by omega)).mpr h1) z), hx, lt_d, hr, lt_d, dec1 (by omega), lt_d, gd_I (show y % 100 < 100 by omega) (by omega), gd_I (show e - 1 < 16 by omega) (by omega), I_clamp (show e - 1 < 2147483648 by omega), I_clamp (show y % 100 < 2147483648 by omega), lt_d, dec1 (by omega), lt_d, gd_I (show y % 100 < 100 by omega) (by omega), gd_I (show e - 1 - 1 < 16 by omega) (by omega), I_clamp (by omega), lt_d, tab_o (by omega), tab_t (by omega), show e - 1 - 1 = e - 2 by omega]
theorem chars_stop {K : Int32 → Int32 → Mm → Option (Int32 × Mm)} {a1 : Int32} {n y e : Nat} {σ : Mm} (h1 : y < 100) : f_J6_getChars_ba4f3_l22 K a1 (n + 1) (-I y) (I e) σ = K (-I y) (I e) σ := by
  rw [f_J6_getChars_ba4f3_l22, if_pos]
  exact Int32.not_le.mp (fun z => by have := (neg_le (b := 100) (by omega) (by omega)).mp z; omega)
/-- the last one or two digits -/
def lastD (y e : Nat) (σ : Mm) : Mm := if y < 10 then up σ 197 (e - 1) (I (48 + y % 10)) else up (up σ 197 (e - 1) (I (48 + y % 10))) 197 (e - 2) (I (48 + y / 10))
theorem chars_ok {x e : Nat} {σ : Mm} (hx : x < 1000000) (he : nd x ≤ e) (he2 : e ≤ 16) : ∃ z τ, f_J6_getChars_ba4f3 (I x) (I e) σ = some (z, τ) ∧ (∀ a, a ≠ 197 → τ a = σ a) ∧ ∀ j, τ 197 j = if e - nd x ≤ j ∧ j < e then I (48 + x / 10 ^ (e - 1 - j) % 10) else σ 197 j := by
  unfold f_J6_getChars_ba4f3
  rw [if_pos (Int32.not_lt.mp (I_n0 (by omega))), lt_d, lt_d]
  obtain ⟨K, hK⟩ : ∃ K : Int32 → Int32 → Mm → Option (Int32 × Mm), K = (fun v3 v4 σ5 => lt (v4 + (-1)) fun x7 => gd (-v3) 100 (gd x7 16 (lt (up σ5 197 x7.toNatClampNeg (vp_nar .byte (digO (-v3).toNatClampNeg))) fun σ8 => if (-9) ≤ v3 then (some (x7, σ8)) else (lt (x7 + (-1)) fun x10 => gd (-v3) 100 (gd x10 16 (lt (up σ8 197 x10.toNatClampNeg (vp_nar .byte (digT (-v3).toNatClampNeg))) fun σ11 => some (x10, σ11))))))) := ⟨_, rfl⟩
  rw [← hK]
  have kf : ∀ (y e : Nat) (σ : Mm), y < 100 → (if y < 10 then 1 else 2) ≤ e → e ≤ 16 → ∃ z, K (-I y) (I e) σ = some (z, lastD y e σ) := by
    intro y e σ h1 h2 h3
    have h4 : 1 ≤ e := by split at h2 <;> omega
    rw [hK]
    dsimp only
    rw [dec1 h4, lt_d, Int32.neg_neg, gd_I h1 (by omega), gd_I (show e - 1 < 16 by omega) (by omega), I_clamp (by omega), I_clamp (by omega), lt_d, tab_o h1]
    unfold lastD
    by_cases q : y < 10
    · rw [if_pos (show (-9 : Int32) ≤ -I y from (neg_le (a := 9) (by omega) (by omega)).mpr (by omega)), if_pos q]
      exact ⟨_, rfl⟩
    · rw [if_neg q] at h2
      rw [if_neg (show ¬ (-9 : Int32) ≤ -I y from fun z => by have := (neg_le (a := 9) (by omega) (by omega)).mp z; omega), if_neg q, dec1 (by omega), lt_d, gd_I h1 (by omega), gd_I (show e - 1 - 1 < 16 by omega) (by omega), I_clamp (by omega), lt_d, tab_t h1, show e - 1 - 1 = e - 2 by omega]
      exact ⟨_, rfl⟩
  by_cases c1 : x < 100
  · obtain ⟨z, hz⟩ := kf x e σ c1 (by unfold nd at he; split <;> (split at he <;> omega)) he2
    rw [chars_stop c1, hz]
    refine ⟨z, _, rfl, fun a ha => by unfold lastD; split <;> simp only [up_n _ _ _ ha], fun j => ?_⟩
    unfold lastD
    by_cases q : x < 10
    · have en : nd x = 1 := by unfold nd; rw [if_pos q]
      rw [if_pos q, up_e, en]
      by_cases w : j = e - 1
      · subst w; rw [upd_e, if_pos (by omega), show e - 1 - (e - 1) = 0 by omega, Nat.pow_zero, Nat.div_one]
      · rw [upd_n _ _ w, if_neg (by omega)]
    · have en : nd x = 2 := by unfold nd; rw [if_neg q, if_pos c1]
      rw [en] at he
      rw [if_neg q, up_e, up_e, en]
      by_cases w2 : j = e - 2
      · subst w2; rw [upd_e, if_pos (by omega), show e - 1 - (e - 2) = 1 by omega, Nat.pow_one]; congr 2; omega
      · rw [upd_n _ _ w2]
        by_cases w : j = e - 1
        · subst w; rw [upd_e, if_pos (by omega), show e - 1 - (e - 1) = 0 by omega, Nat.pow_zero, Nat.div_one]
        · rw [upd_n _ _ w, if_neg (by omega)]
  by_cases c2 : x < 10000
  · have e3 : (if x / 100 < 10 then 1 else 2) ≤ e - 2 := by
      unfold nd at he
      rw [if_neg (by omega), if_neg c1] at he
      split <;> (split at he <;> omega)
    have e2 : 3 ≤ e := by split at e3 <;> omega
    obtain ⟨z, hz⟩ := kf (x / 100) (e - 2) (up (up σ 197 (e - 1) (I (48 + x % 100 % 10))) 197 (e - 2) (I (48 + x % 100 / 10))) (by omega) e3 (by omega)
    rw [chars_step (by omega) hx (by omega) he2, chars_stop (by omega), hz]
    refine ⟨z, _, rfl, fun a ha => by unfold lastD; split <;> simp only [up_n _ _ _ ha], fun j => ?_⟩
    unfold lastD
    by_cases q : x / 100 < 10
    · have en : nd x = 3 := by unfold nd; rw [if_neg (by omega), if_neg c1, if_pos (by omega)]
      rw [if_pos q, up_e, up_e, up_e, en]
      by_cases w3 : j = e - 2 - 1
      · subst w3; rw [upd_e, if_pos (by omega), show e - 1 - (e - 2 - 1) = 2 by omega]
      · rw [upd_n _ _ w3]
        by_cases w2 : j = e - 2
        · subst w2; rw [upd_e, if_pos (by omega), show e - 1 - (e - 2) = 1 by omega, Nat.pow_one]; congr 2; omega
        · rw [upd_n _ _ w2]
          by_cases w : j = e - 1
          · subst w; rw [upd_e, if_pos (by omega), show e - 1 - (e - 1) = 0 by omega, Nat.pow_zero, Nat.div_one]; congr 2; omega
          · rw [upd_n _ _ w, if_neg (by omega)]
    · have en : nd x = 4 := by unfold nd; rw [if_neg (by omega), if_neg c1, if_neg (by omega), if_pos c2]
      rw [en] at he
      rw [if_neg q, up_e, up_e, up_e, up_e, en]
      by_cases w4 : j = e - 2 - 2
      · subst w4; rw [upd_e, if_pos (by omega), show e - 1 - (e - 2 - 2) = 3 by omega]; congr 2; show x / 100 / 10 = x / 1000 % 10; omega
      · rw [upd_n _ _ w4]
        by_cases w3 : j = e - 2 - 1
        · subst w3; rw [upd_e, if_pos (by omega), show e - 1 - (e - 2 - 1) = 2 by omega]
        · rw [upd_n _ _ w3]
          by_cases w2 : j = e - 2
          · subst w2; rw [upd_e, if_pos (by omega), show e - 1 - (e - 2) = 1 by omega, Nat.pow_one]; congr 2; omega
          · rw [upd_n _ _ w2]
            by_cases w : j = e - 1
            · subst w; rw [upd_e, if_pos (by omega), show e - 1 - (e - 1) = 0 by omega, Nat.pow_zero, Nat.div_one]; congr 2; omega
            · rw [upd_n _ _ w, if_neg (by omega)]
  · have e3 : (if x / 100 / 100 < 10 then 1 else 2) ≤ e - 2 - 2 := by
      unfold nd at he
      rw [if_neg (by omega), if_neg c1, if_neg (by omega), if_neg c2] at he
      split <;> (split at he <;> omega)
    have e2 : 5 ≤ e := by split at e3 <;> omega
    obtain ⟨z, hz⟩ := kf (x / 100 / 100) (e - 2 - 2) (up (up (up (up σ 197 (e - 1) (I (48 + x % 100 % 10))) 197 (e - 2) (I (48 + x % 100 / 10))) 197 (e - 2 - 1) (I (48 + x / 100 % 100 % 10))) 197 (e - 2 - 2) (I (48 + x / 100 % 100 / 10))) (by omega) e3 (by omega)
    rw [chars_step (by omega) hx (by omega) he2, chars_step (by omega) (by omega) (by omega) (by omega), chars_stop (by omega), hz]
    refine ⟨z, _, rfl, fun a ha => by unfold lastD; split <;> simp only [up_n _ _ _ ha], fun j => ?_⟩
    unfold lastD
    have low : ∀ g : Nat → Int32, (∀ j, g j = σ 197 j) → ∀ N, 4 ≤ N → N ≤ e → (j = e - 2 - 2 ∨ j = e - 2 - 1 ∨ j = e - 2 ∨ j = e - 1 ∨ e ≤ j ∨ j < e - N) → upd (upd (upd (upd g (e - 1) (I (48 + x % 100 % 10))) (e - 2) (I (48 + x % 100 / 10))) (e - 2 - 1) (I (48 + x / 100 % 100 % 10))) (e - 2 - 2) (I (48 + x / 100 % 100 / 10)) j = if e - N ≤ j ∧ j < e then I (48 + x / 10 ^ (e - 1 - j) % 10) else σ 197 j := by
      intro g hg N hN hN2 hj
      by_cases w4 : j = e - 2 - 2
      · subst w4; rw [upd_e, if_pos (by omega), show e - 1 - (e - 2 - 2) = 3 by omega]; congr 2; show x / 100 % 100 / 10 = x / 1000 % 10; omega
      · rw [upd_n _ _ w4]
        by_cases w3 : j = e - 2 - 1
        · subst w3; rw [upd_e, if_pos (by omega), show e - 1 - (e - 2 - 1) = 2 by omega]; congr 2; show x / 100 % 100 % 10 = x / 100 % 10; omega
        · rw [upd_n _ _ w3]
          by_cases w2 : j = e - 2
          · subst w2; rw [upd_e, if_pos (by omega), show e - 1 - (e - 2) = 1 by omega, Nat.pow_one]; congr 2; omega
          · rw [upd_n _ _ w2]
            by_cases w : j = e - 1
            · subst w; rw [upd_e, if_pos (by omega), show e - 1 - (e - 1) = 0 by omega, Nat.pow_zero, Nat.div_one]; congr 2; omega
            · rw [upd_n _ _ w, if_neg (by omega), hg]
    by_cases q : x / 100 / 100 < 10
    · have en : nd x = 5 := by unfold nd; rw [if_neg (by omega), if_neg c1, if_neg (by omega), if_neg c2, if_pos (by omega)]
      rw [if_pos q, up_e, up_e, up_e, up_e, up_e, en]
      by_cases w5 : j = e - 2 - 2 - 1
      · subst w5; rw [upd_e, if_pos (by omega), show e - 1 - (e - 2 - 2 - 1) = 4 by omega]; congr 2; show x / 100 / 100 % 10 = x / 10000 % 10; omega
      · rw [upd_n _ _ w5]
        exact low (σ 197) (fun _ => rfl) 5 (by omega) (by omega) (by omega)
    · have en : nd x = 6 := by unfold nd; rw [if_neg (by omega), if_neg c1, if_neg (by omega), if_neg c2, if_neg (by omega)]
      rw [en] at he
      rw [if_neg q, up_e, up_e, up_e, up_e, up_e, up_e, en]
      by_cases w6 : j = e - 2 - 2 - 2
      · subst w6; rw [upd_e, if_pos (by omega), show e - 1 - (e - 2 - 2 - 2) = 5 by omega]; congr 2; show x / 100 / 100 / 10 = x / 100000 % 10; omega
      · rw [upd_n _ _ w6]
        by_cases w5 : j = e - 2 - 2 - 1
        · subst w5; rw [upd_e, if_pos (by omega), show e - 1 - (e - 2 - 2 - 1) = 4 by omega]; congr 2; show x / 100 / 100 % 10 = x / 10000 % 10; omega
        · rw [upd_n _ _ w5]
          exact low (σ 197) (fun _ => rfl) 6 (by omega) (by omega) (by omega)
theorem c_num {σ0 σ : Mm} {p : Tx} {x : Nat} (h : BL σ0 p σ) (hp : p.1 + nd x ≤ 16) (hx : x < 1000000) : ∃ τ, f_J4_append_bf812 (I x) σ = some τ ∧ BL σ0 (tn x p) τ := by
  obtain ⟨h1, h3, hk, hs, hf⟩ := h
  have hd := nd_le x
  unfold f_J4_append_bf812 f_J5_append_c97b9
  obtain ⟨z, τ, t1, t2, t3⟩ := chars_ok (σ := σ) hx (show nd x ≤ p.1 + nd x by omega) hp
  rw [h3, lt_d, size_ok hx, bnd_d, I_add, lt_d, cap_ok h1 hp, bnd_d, lat_ok h1, bnd_d, if_neg one_ne, t1, bnm_d, lt_d, bnd_d]
  refine ⟨_, rfl, by rw [up_e, upd_n _ _ (by omega), t2 196 (by omega)]; exact h1, by rw [up_e, upd_e, tn_1], by rw [tn_1]; exact hp, fun j hj => ?_, fun a z1 z2 => by rw [up_n _ _ _ z1, t2 a z2]; exact hf a z1 z2⟩
  rw [tn_1] at hj
  rw [up_n _ _ _ (show 197 ≠ 196 by omega), t3 j]
  unfold tn wrI
  dsimp only
  rw [show p.1 + nd x - nd x = p.1 by omega, show p.1 + (nd x - 1) + 1 = p.1 + nd x by omega, show p.1 + nd x - 1 - j = p.1 + (nd x - 1) - j by omega]
  by_cases q : p.1 ≤ j ∧ j < p.1 + nd x
  · rw [if_pos q, if_pos q]
    refine ⟨?_, rfl⟩
    have := Nat.mod_lt (x / 10 ^ (p.1 + (nd x - 1) - j)) (show 0 < 10 by omega)
    omega
  · rw [if_neg q, if_neg q]; exact hs j (by omega)
theorem pw {i : Nat} (h : i ≤ 5) : 10 ^ i ≤ 100000 ∧ 0 < 10 ^ i := by
  rcases (show i = 0 ∨ i = 1 ∨ i = 2 ∨ i = 3 ∨ i = 4 ∨ i = 5 by omega) with rfl | rfl | rfl | rfl | rfl | rfl <;> decide
theorem r_digs {σ0 : Mm} {x : Nat} (hx : x < 1000000) (v1 : Int32) : ∀ (i n : Nat) (p : Tx) (σ : Mm), i ≤ 5 → i + 1 < n → RLn σ0 p σ → p.1 + i < 30 → ∃ τ, f_X10_writesNumber_l20 v1 (I x) n (I (10 ^ i)) σ = some τ ∧ RLn σ0 (wrI x i p) τ := by
  intro i
  induction i with
  | zero =>
    intro n p σ hi hn h hp
    obtain ⟨n, rfl⟩ : ∃ m, n = m + 2 := ⟨n - 2, by omega⟩
    have hv : I x / I 1 = I x := by rw [I_div (by omega) (by omega) (by omega), Nat.div_one]
    have hm : I x - I x / 10 * 10 = I (x % 10) := by
      rw [show I x / 10 = I (x / 10) from I_div (b := 10) (by omega) (by omega) (by omega), show I (x / 10) * 10 = I (x / 10 * 10) from I_mul _ 10, I_sub (by omega)]
      congr 1; omega
    obtain ⟨τ, t1, t2⟩ := r_sgn (c := 48 + x % 10) h (by omega)
    refine ⟨τ, ?_, ?_⟩
    · rw [show (10 : Nat) ^ 0 = 1 from rfl, f_X10_writesNumber_l20, if_neg (show ¬ I 1 ≤ 0 by decide)]
      unfold nz
      rw [if_neg (show ¬ I 1 = 0 by decide), hv, hm, show (48 : Int32) + I (x % 10) = I (48 + x % 10) from I_add 48 _, t1, bnd_d, show I 1 / 10 = (0 : Int32) by decide, lt_d, f_X10_writesNumber_l20, if_pos (by decide)]
    · have e : wrI x 0 p = tc (48 + x % 10) p := by
        unfold wrI tc
        refine Prod.ext rfl (funext fun j => ?_)
        dsimp only
        by_cases q : j = p.1
        · subst q; rw [if_pos (by omega), if_pos rfl, show p.1 + 0 - p.1 = 0 by omega, Nat.pow_zero, Nat.div_one]
        · rw [if_neg (by omega), if_neg q]
      rw [e]; exact t2
  | succ i ih =>
    intro n p σ hi hn h hp
    obtain ⟨n, rfl⟩ : ∃ m, n = m + 1 := ⟨n - 1, by omega⟩
    obtain ⟨w1, w2⟩ := pw hi
    have hv : I x / I (10 ^ (i + 1)) = I (x / 10 ^ (i + 1)) := I_div (by omega) (by omega) w2
    have hq : x / 10 ^ (i + 1) ≤ x := Nat.div_le_self _ _
    have hm : I (x / 10 ^ (i + 1)) - I (x / 10 ^ (i + 1)) / 10 * 10 = I (x / 10 ^ (i + 1) % 10) := by
      rw [show I (x / 10 ^ (i + 1)) / 10 = I (x / 10 ^ (i + 1) / 10) from I_div (b := 10) (by omega) (by omega) (by omega), show I (x / 10 ^ (i + 1) / 10) * 10 = I (x / 10 ^ (i + 1) / 10 * 10) from I_mul _ 10, I_sub (by omega)]
      congr 1; omega
    obtain ⟨τ1, t1, t2⟩ := r_sgn (c := 48 + x / 10 ^ (i + 1) % 10) h (by omega)
    obtain ⟨τ, u1, u2⟩ := ih n (tc (48 + x / 10 ^ (i + 1) % 10) p) τ1 (by omega) (by omega) t2 (by show p.1 + 1 + i < 30; omega)
    refine ⟨τ, ?_, ?_⟩
    · rw [f_X10_writesNumber_l20, if_neg (fun z => by have := (I_le (b := 0) (by omega) (by omega)).mp z; omega)]
      unfold nz
      rw [if_neg (show ¬ I (10 ^ (i + 1)) = 0 from I_beq (b := 0) (by omega) (by omega) (by omega)), hv, hm, show (48 : Int32) + I (x / 10 ^ (i + 1) % 10) = I (48 + x / 10 ^ (i + 1) % 10) from I_add 48 _, t1, bnd_d, show I (10 ^ (i + 1)) / 10 = I (10 ^ i) from (I_div (b := 10) (by omega) (by omega) (by omega)).trans (by rw [Nat.pow_succ, Nat.mul_div_cancel _ (by omega)]), lt_d]
      exact u1
    · have e : wrI x (i + 1) p = wrI x i (tc (48 + x / 10 ^ (i + 1) % 10) p) := by
        unfold wrI tc
        refine Prod.ext (by dsimp only; omega) (funext fun j => ?_)
        dsimp only
        by_cases q : p.1 + 1 ≤ j ∧ j < p.1 + 1 + i + 1
        · rw [if_pos q, if_pos (by omega), show p.1 + 1 + i - j = p.1 + (i + 1) - j by omega]
        · rw [if_neg q]
          by_cases q2 : j = p.1
          · subst q2; rw [if_pos (by omega), if_pos rfl, show p.1 + (i + 1) - p.1 = i + 1 by omega]
          · rw [if_neg (by omega), if_neg q2]
      rw [e]; exact u2
theorem r_num {σ0 σ : Mm} {p : Tx} {x : Nat} (h : RLn σ0 p σ) (hp : p.1 + nd x ≤ 30) (hx : x < 1000000) : ∃ τ, f_X10_writesNumber (I x) σ = some τ ∧ RLn σ0 (tn x p) τ := by
  have hd := nd_le x
  unfold f_X10_writesNumber tn
  rw [lt_d]
  obtain ⟨K, hK⟩ : ∃ K : Int32 → Option Mm, K = (fun v1 => f_X10_writesNumber_l20 v1 (I x) 12 v1 σ) := ⟨_, rfl⟩
  rw [← hK]
  have step : ∀ (i n : Nat), i ≤ 4 → 9 < x / 10 ^ i → f_X10_writesNumber_l2 K (I x) σ (n + 1) (I (10 ^ i)) = f_X10_writesNumber_l2 K (I x) σ n (I (10 ^ (i + 1))) := fun i n hi hq => by
    obtain ⟨w1, w2⟩ := pw (show i ≤ 5 by omega)
    have : x / 10 ^ i ≤ x := Nat.div_le_self _ _
    rw [f_X10_writesNumber_l2]
    unfold nz
    rw [if_neg (show ¬ I (10 ^ i) = 0 from I_beq (b := 0) (by omega) (by omega) (by omega)), I_div (by omega) (by omega) w2, if_neg (show ¬ I (x / 10 ^ i) ≤ 9 from fun z => by have := (I_le (b := 9) (by omega) (by omega)).mp z; omega), show I (10 ^ i) * 10 = I (10 ^ i * 10) from I_mul _ 10, lt_d, Nat.pow_succ]
  have stop : ∀ (i n : Nat), i ≤ 5 → x / 10 ^ i ≤ 9 → f_X10_writesNumber_l2 K (I x) σ (n + 1) (I (10 ^ i)) = K (I (10 ^ i)) := fun i n hi hq => by
    obtain ⟨w1, w2⟩ := pw hi
    rw [f_X10_writesNumber_l2]
    unfold nz
    rw [if_neg (show ¬ I (10 ^ i) = 0 from I_beq (b := 0) (by omega) (by omega) (by omega)), I_div (by omega) (by omega) w2, if_pos (show I (x / 10 ^ i) ≤ 9 from (I_le (b := 9) (by omega) (by omega)).mpr hq)]
  have main : f_X10_writesNumber_l2 K (I x) σ 12 1 = K (I (10 ^ (nd x - 1))) := by
    show f_X10_writesNumber_l2 K (I x) σ 12 (I (10 ^ 0)) = K (I (10 ^ (nd x - 1)))
    unfold nd
    by_cases q1 : x < 10
    · rw [stop 0 11 (by omega) (by show x / 1 ≤ 9; omega), if_pos q1]
    rw [step 0 11 (by omega) (by show 9 < x / 1; omega), if_neg q1]
    by_cases q2 : x < 100
    · rw [stop 1 10 (by omega) (by show x / 10 ≤ 9; omega), if_pos q2]
    rw [step 1 10 (by omega) (by show 9 < x / 10; omega), if_neg q2]
    by_cases q3 : x < 1000
    · rw [stop 2 9 (by omega) (by show x / 100 ≤ 9; omega), if_pos q3]
    rw [step 2 9 (by omega) (by show 9 < x / 100; omega), if_neg q3]
    by_cases q4 : x < 10000
    · rw [stop 3 8 (by omega) (by show x / 1000 ≤ 9; omega), if_pos q4]
    rw [step 3 8 (by omega) (by show 9 < x / 1000; omega), if_neg q4]
    by_cases q5 : x < 100000
    · rw [stop 4 7 (by omega) (by show x / 10000 ≤ 9; omega), if_pos q5]
    rw [step 4 7 (by omega) (by show 9 < x / 10000; omega), if_neg q5, stop 5 6 (by omega) (by show x / 100000 ≤ 9; omega)]
  rw [main, hK]
  exact r_digs hx _ (nd x - 1) 12 p σ (by omega) (by omega) h (by omega)
