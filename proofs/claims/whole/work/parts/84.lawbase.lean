/-! THE LAW'S LOOP: what it stands on -/
/-- what holds all along of the law's start -/
def L0 (p : Program) (s : State) (m : MethodId) (meth : Method) (c : Code) (b L : Nat) (xs : Nat → Int32) : Prop := CallFix p m c cL_law 10 s #[Value.ref b] lwT RL ∧ va_X b L xs s s.heap ∧ b < s.heap.size
/-- where the loop stands -/
def LB (G : Gd) (σ : Mm) (s : State) (H : Heap) (locs : List Loc) (ls : Array Slot) (b : Nat) (i : Int32) (B : Nat) : Prop := Fx G s ∧ Bd G σ s H locs ∧ RR B σ ∧ (∀ q, AA G s.heap.size q → s.heap.size ≤ q) ∧ lv_has ls 10 [(0, .ref b), (1, .ref (G.2.2 154)), (2, .ref (G.2.2 198)), (3, .ref (G.2.2 207)), (4, .ref (G.2.2 208)), (5, .int i)]
theorem gO_self (G : Gd) (j : Nat) : gO G j (G.2.2 j) = G := by
  show (G.1, G.2.1, fun i => if i = j then G.2.2 j else G.2.2 i) = G
  have : (fun i => if i = j then G.2.2 j else G.2.2 i) = G.2.2 := by
    funext i
    by_cases h : i = j
    · rw [if_pos h, h]
    · rw [if_neg h]
  rw [this]
theorem aft_O {G : Gd} {s : State} (F : Fx G s) {j v : Nat} (hj : j = 700 ∨ j = 701) : Fx (gO G j v) s ∧ (∀ z, AA (gO G j v) z = AA G z) ∧ ∀ k, k < 209 → (gO G j v).2.2 k = G.2.2 k := ⟨Fx_gO hj F, fun _ => AA_gO hj, fun k hk => gO_at (by omega)⟩
theorem aft_L {G : Gd} {s : State} (F : Fx G s) (out : Int32 ⊕ Nat) (τ : Mm) : ∃ G1, hgL (out, τ) G = G1 ∧ Fx G1 s ∧ (∀ z, AA G1 z = AA G z) ∧ (∀ k, k < 209 → G1.2.2 k = G.2.2 k) ∧ ∀ w, out = .inl w → Int64.ofNat (G1.2.2 700) = w.toInt64 := by
  refine ⟨_, rfl, ?_⟩
  cases out with
  | inl v =>
    have h := aft_O F (j := 700) (v := v.toInt64.toUInt64.toNat) (Or.inl rfl)
    exact ⟨h.1, h.2.1, h.2.2, fun w hw => by cases hw; exact gL_ok _⟩
  | inr n => exact ⟨F, fun _ => rfl, fun _ _ => rfl, fun w hw => by cases hw⟩
theorem aft_B {G : Gd} {s : State} (F : Fx G s) (out : Int32 ⊕ Nat) (τ : Mm) : ∃ G1, hgB (out, τ) G = G1 ∧ Fx G1 s ∧ (∀ z, AA G1 z = AA G z) ∧ (∀ k, k < 209 → G1.2.2 k = G.2.2 k) ∧ ∀ w, out = .inl w → Int64.ofNat (G1.2.2 700) = if w = 0 then 0 else 1 := by
  refine ⟨_, rfl, ?_⟩
  cases out with
  | inl v =>
    have h := aft_O F (j := 700) (v := (if v = 0 then (0 : Int64) else 1).toUInt64.toNat) (Or.inl rfl)
    exact ⟨h.1, h.2.1, h.2.2, fun w hw => by cases hw; exact gL_ok _⟩
  | inr n => exact ⟨F, fun _ => rfl, fun _ _ => rfl, fun w hw => by cases hw⟩
theorem aft_D {G : Gd} {s : State} (F : Fx G s) (out : UInt64 ⊕ Nat) (τ : Mm) : ∃ G1, hgD (out, τ) G = G1 ∧ Fx G1 s ∧ (∀ z, AA G1 z = AA G z) ∧ (∀ k, k < 209 → G1.2.2 k = G.2.2 k) ∧ ∀ w, out = .inl w → UInt64.ofNat (G1.2.2 701) = w := by
  refine ⟨_, rfl, ?_⟩
  cases out with
  | inl v =>
    have h := aft_O F (j := 701) (v := v.toNat) (Or.inr rfl)
    exact ⟨h.1, h.2.1, h.2.2, fun w hw => by cases hw; exact gD_ok _⟩
  | inr n => exact ⟨F, fun _ => rfl, fun _ _ => rfl, fun w hw => by cases hw⟩
theorem fin1 {out : Int32 ⊕ Nat} {e : Nat} {r t : Int32} {τ : Mm} (h : same1 out e r t) : (∀ n, (out, τ).1 = .inr n → n = e ∧ (fun _ : Nat => (1 : Int32)) n = 1) ∧ t = hp (fun _ => 1) (out, τ) ∧ (t = 0 → out = .inl r) := by
  cases out with
  | inl a =>
    obtain ⟨h1, h2⟩ := h
    exact ⟨fun n q => (nomatch q), h1, fun _ => by rw [h2]⟩
  | inr k =>
    obtain ⟨h1, h2⟩ := h
    exact ⟨fun n q => by cases q; exact ⟨h1, rfl⟩, h2, fun q => absurd (h2.symm.trans q) (by decide)⟩
theorem fin2 {out : Int32 ⊕ Nat} {e1 e2 : Nat} {r t : Int32} {τ : Mm} (hne : e2 ≠ e1) (h : same2 out e1 e2 r t) : (∀ n, (out, τ).1 = .inr n → (n = e1 ∧ (fun n : Nat => if n = e1 then (1 : Int32) else 2) n = 1) ∨ (n = e2 ∧ (fun n : Nat => if n = e1 then (1 : Int32) else 2) n = 2)) ∧ t = hp (fun n => if n = e1 then 1 else 2) (out, τ) ∧ (t = 0 → out = .inl r) := by
  cases out with
  | inl a =>
    obtain ⟨h1, h2⟩ := h
    exact ⟨fun n q => (nomatch q), h1, fun _ => by rw [h2]⟩
  | inr k =>
    rcases h with ⟨h1, h2⟩ | ⟨h1, h2⟩
    · subst h1
      exact ⟨fun n q => by cases q; exact Or.inl ⟨rfl, if_pos rfl⟩, by show t = if k = k then 1 else 2; rw [if_pos rfl]; exact h2, fun q => absurd (h2.symm.trans q) (by decide)⟩
    · subst h1
      exact ⟨fun n q => by cases q; exact Or.inr ⟨rfl, if_neg hne⟩, by show t = if k = e1 then 1 else 2; rw [if_neg hne]; exact h2, fun q => absurd (h2.symm.trans q) (by decide)⟩
theorem lg_same (x : Int64) : lg_cmp x x = 0 := by
  unfold lg_cmp
  rw [if_neg (by rw [gt_iff_lt, Int64.lt_iff_toInt_lt]; omega), if_pos rfl]
theorem ch_of (x : Int32) : ∃ c : Nat, c < 65536 ∧ I c = (x.toUInt32 % 65536).toInt32 := by
  have h : (x.toUInt32 % 65536).toNat < 65536 := by rw [UInt32.toNat_mod]; exact Nat.mod_lt _ (by decide)
  refine ⟨(x.toUInt32 % 65536).toNat, h, ?_⟩
  apply Int32.toBitVec_inj.mp
  apply BitVec.eq_of_toNat_eq
  show (BitVec.ofNat 32 (x.toUInt32 % 65536).toNat).toNat = (x.toUInt32 % 65536).toNat
  rw [BitVec.toNat_ofNat]
  omega
