/-! SMALL NUMBERS and the words of the functions -/
theorem lt_d {α β : Type} (a : α) (f : α → β) : lt a f = f a := rfl
theorem bnd_d {α β : Type} (a : α) (f : α → Option β) : bnd (some a) f = f a := rfl
theorem bnm_d {α β : Type} (a : α) (σ : Mm) (f : α → Mm → Option β) : bnm (some (a, σ)) f = f a σ := rfl
theorem xb_d {α β : Type} (a : α) (σ : Mm) (f : α → Mm → Option ((β ⊕ Nat) × Mm)) : xb (some (.inl a, σ)) f = f a σ := rfl
theorem xb_n {α β : Type} (n : Nat) (σ : Mm) (f : α → Mm → Option ((β ⊕ Nat) × Mm)) : xb (some (.inr n, σ)) f = some (.inr n, σ) := rfl
theorem oc_d {α β : Type} (n : Option β) (f : α → Option β) : oc none n f = n := rfl
theorem oc_e {α β : Type} (x : α) (n : Option β) (f : α → Option β) : oc (some x) n f = f x := rfl
theorem bz_i0 {α : Type} (a : Option α) : bz 0 a = a := rfl
theorem bz_i1 {α : Type} (a : Option α) : bz 1 a = a := rfl
/-- a small number -/
abbrev I (n : Nat) : Int32 := Int32.ofNat n
theorem I_toInt {n : Nat} (h : n < 2147483648) : (I n).toInt = (n : Int) := Int32.toInt_ofNat_of_lt h
theorem I_clamp {n : Nat} (h : n < 2147483648) : (I n).toNatClampNeg = n := by
  show (I n).toInt.toNat = n
  rw [I_toInt h]; rfl
theorem I_lt {a b : Nat} (ha : a < 2147483648) (hb : b < 2147483648) : (I a < I b) ↔ a < b := by
  rw [Int32.lt_iff_toInt_lt, I_toInt ha, I_toInt hb]; omega
theorem I_le {a b : Nat} (ha : a < 2147483648) (hb : b < 2147483648) : (I a ≤ I b) ↔ a ≤ b := by
  rw [Int32.le_iff_toInt_le, I_toInt ha, I_toInt hb]; omega
theorem I_eq {a b : Nat} (ha : a < 2147483648) (hb : b < 2147483648) : (I a = I b) ↔ a = b := by
  rw [← Int32.toInt_inj, I_toInt ha, I_toInt hb]; omega
theorem I_n0 {a : Nat} (ha : a < 2147483648) : ¬ I a < 0 := by
  rw [Int32.lt_iff_toInt_lt, I_toInt ha]; show ¬ (a : Int) < 0; omega
theorem I_add (a b : Nat) : I a + I b = I (a + b) := Int32.toBitVec_inj.mp (BitVec.ofNat_add a b).symm
theorem gd_I {α : Type} {n N : Nat} {a : Option α} (hn : n < N) (hN : N < 2147483648) : gd (I n) N a = a := by
  unfold gd
  rw [if_neg]
  rintro (h | h)
  · exact I_n0 (by omega) h
  · rw [I_clamp (by omega)] at h; omega
/-- a number between 0 and N is small -/
theorem to_I {x : Int32} {N : Nat} (h0 : ¬ x < 0) (h1 : x < I N) (hN : N < 2147483648) : ∃ n, n < N ∧ x = I n := by
  have h2 : 0 ≤ x.toInt := by
    have := Int32.not_lt.mp h0
    simpa using Int32.le_iff_toInt_le.mp this
  have h3 : x.toInt < (N : Int) := by
    have := Int32.lt_iff_toInt_lt.mp h1
    rwa [I_toInt hN] at this
  refine ⟨x.toInt.toNat, by omega, ?_⟩
  rw [← Int32.toInt_inj, I_toInt (by omega)]
  omega
theorem up_e (σ : Mm) (i k : Nat) (v : Int32) : up σ i k v i = upd (σ i) k v := by unfold up; rw [if_pos rfl]
theorem up_n (σ : Mm) {i a : Nat} (k : Nat) (v : Int32) (h : a ≠ i) : up σ i k v a = σ a := by unfold up; rw [if_neg h]
theorem upd_e (f : Nat → Int32) (k : Nat) (v : Int32) : upd f k v k = v := by simp [upd]
theorem upd_n (f : Nat → Int32) {k j : Nat} (v : Int32) (h : j ≠ k) : upd f k v j = f j := by simp [upd, h]
theorem I_lit (n : Nat) : @OfNat.ofNat Int32 n Int32.instOfNat = I n := rfl
theorem I_m1 {a : Nat} (ha : a < 2147483648) : ¬ I a = -I 1 := by
  intro h
  have h1 := congrArg Int32.toInt h
  rw [I_toInt ha] at h1
  have : (-I 1).toInt = -1 := rfl
  omega
theorem I_sub {a b : Nat} (hb : b ≤ a) : I a - I b = I (a - b) := by
  have h : I a = I (a - b) + I b := by rw [I_add]; congr 1; omega
  rw [h]
  apply Int32.toBitVec_inj.mp
  show (I (a - b)).toBitVec + (I b).toBitVec - (I b).toBitVec = (I (a - b)).toBitVec
  exact BitVec.add_sub_cancel _ _
/-- a loop that counts from v to N -/
theorem loopI {β γ : Type} (f : Nat → Int32 → γ → Option β) (Kf : γ → Option β) (N : Nat) (Inv : Nat → γ → Prop) (hstop : ∀ n g, Inv N g → f (n + 1) (I N) g = Kf g)
    (hstep : ∀ n v g, v < N → Inv v g → ∃ g1, f (n + 1) (I v) g = f n (I (v + 1)) g1 ∧ Inv (v + 1) g1) : ∀ d v n g, v + d = N → d < n → Inv v g → ∃ g1, f n (I v) g = Kf g1 ∧ Inv N g1 := by
  intro d
  induction d with
  | zero =>
    intro v n g hv hn hi
    obtain ⟨n, rfl⟩ : ∃ m, n = m + 1 := ⟨n - 1, by omega⟩
    have : v = N := by omega
    subst this
    exact ⟨g, hstop n g hi, hi⟩
  | succ d ih =>
    intro v n g hv hn hi
    obtain ⟨n, rfl⟩ : ∃ m, n = m + 1 := ⟨n - 1, by omega⟩
    obtain ⟨g1, h1, h2⟩ := hstep n v g (by omega) hi
    obtain ⟨g2, h3, h4⟩ := ih (v + 1) n g1 (by omega) (by omega) h2
    exact ⟨g2, h1.trans h3, h4⟩
