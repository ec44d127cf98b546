abbrev Mm : Type := Nat → Nat → Int32
def up (σ : Mm) (i k : Nat) (v : Int32) : Mm := fun a => if a = i then upd (σ i) k v else σ a
abbrev NN : Nat := 209
def kdS (o : Nat) : Nat := if o = 0 then 0 else if o = 1 then 1 else if o = 2 then 2 else if o = 3 then 3 else if o < 8 then 4 else if o = 8 then 5 else 6
def kdR (o : Nat) : Nat := [7, 8, 9, 10, 11, 12, 12, 13, 14, 15, 16, 17].getD o (if o < 42 then 18 else [19, 20, 21, 22, 22, 22, 23, 24, 12, 25, 26, 27, 28].getD (o - 42) 99)
def kd (i : Nat) : Nat := if i < 154 then kdS (i % 14) else kdR (i - 154)
def lowC (j : Nat) : Int32 := ([0, 1, 2, 4, 5, 6, 8, 9, 10, 12, 13, 14, 0, 1, 2, 3, 4, 5, 6, 7, 8, 9, 10, 11] : List Int32).getD j 0
def uppC (j : Nat) : Int32 := ([1, 2, 3, 5, 6, 7, 9, 10, 11, 13, 14, 15, 4, 5, 6, 7, 8, 9, 10, 11, 12, 13, 14, 15] : List Int32).getD j 0
def digT (j : Nat) : Int32 := Int32.ofNat (48 + j / 10)
def digO (j : Nat) : Int32 := Int32.ofNat (48 + j % 10)
def txs : List (String × Nat × String) := [("MazeBonds", 116, "the call is refused"), ("MazeBonds", 183, "there is no such cell"), ("MazeBonds", 186, "the cells are no neighbours"), ("MazeBonds", 188, "there is no way"), ("MazeBonds", 157, "there is no way, or it is the exit"), ("MazeBonds", 251, "there is no such gardener"), ("MazeBonds", 214, "what is not from 0 to 4"), ("MazeBonds", 256, "there is no such visitor"), ("MazeBonds", 221, "what is not from 0 to 8"), ("MazeBonds", 237, "the visitor is out or has no bond"), ("MazeBonds", 269, "there is no such place"), ("MazeBonds", 261, "there is no such measure"), ("MazeBonds", 282, "the buffer is full"), ("MazeBonds$CommandText", 63, "N-N=D"), ("MazeBonds$CommandText", 65, ""), ("MazeBonds$CommandText", 67, "D:N-N"), ("MazeBonds$CommandText", 69, "X"), ("MazeBonds$CommandText", 71, "N"), ("MazeBonds$CommandText", 73, "D>D*D"), ("MazeBonds$CommandText", 75, "DW"), ("MazeBonds$CommandText", 77, "D+D"), ("MazeBonds", 293, "the text has a fault"), ("MazeBonds", 305, "a command is refused"), ("MazeBonds", 310, "what is not from 0 to 2"), ("MazeBonds", 315, "nothing was refused"), ("MazeBonds", 324, "out"), ("MazeBonds", 350, "there is no such row"), ("MazeBonds", 358, "there is no such index"), ("MazeBonds", 366, "there are no visitors"), ("MazeBonds", 392, "what is not from 0 to 11"), ("MazeBonds", 394, "there is nothing to undo"), ("MazeBonds", 399, "there is no snapshot")]
def txB (k : Nat) : List Int32 := ((txs.getD k ("", 0, "")).2.2.toList.map (fun c => Int32.ofNat c.toNat))
theorem kq {i kc : Nat} (h : (kd i == kc && decide (i < NN)) = true) : kd i = kc ∧ i < NN := by
  rw [Bool.and_eq_true] at h
  exact ⟨eq_of_beq h.1, of_decide_eq_true h.2⟩
theorem kgG {x : Int32} (h : vp_in x 4) : kd (3 + 1 + x.toNatClampNeg) = 4 ∧ 3 + 1 + x.toNatClampNeg < NN := by
  have h := Nat.not_le.mp fun q => h (Or.inr q)
  generalize x.toNatClampNeg = j at h
  exact (by decide : ∀ j, j < 4 → kd (3 + 1 + j) = 4 ∧ 3 + 1 + j < NN) j h
theorem kgV {x : Int32} (h : vp_in x 5) : kd (8 + 1 + x.toNatClampNeg) = 6 ∧ 8 + 1 + x.toNatClampNeg < NN := by
  have h := Nat.not_le.mp fun q => h (Or.inr q)
  generalize x.toNatClampNeg = j at h
  exact (by decide : ∀ j, j < 5 → kd (8 + 1 + j) = 6 ∧ 8 + 1 + j < NN) j h
theorem kgN {x : Int32} (h : vp_in x 30) : kd (166 + x.toNatClampNeg) = 18 ∧ 166 + x.toNatClampNeg < NN := by
  have h := Nat.not_le.mp fun q => h (Or.inr q)
  generalize x.toNatClampNeg = j at h
  exact (by decide : ∀ j, j < 30 → kd (166 + j) = 18 ∧ 166 + j < NN) j h
def isS (i : Nat) : Prop := ∃ j, j < 11 ∧ i = 14 * j
theorem isS.all {i : Nat} (h : isS i) {P : Nat → Prop} (hP : ∀ j, j < 11 → P (14 * j)) : P i := by
  obtain ⟨j, hj, rfl⟩ := h
  exact hP j hj
theorem isS.k0 {i : Nat} (h : isS i) : kd i = 0 ∧ i < NN := h.all (P := fun i => kd i = 0 ∧ i < NN) (by decide)
theorem isS.t1 {i : Nat} (h : isS i) : kd (i + 1) = 1 ∧ i + 1 < NN := h.all (P := fun i => kd (i + 1) = 1 ∧ i + 1 < NN) (by decide)
theorem isS.t2 {i : Nat} (h : isS i) : kd (i + 1 + 1) = 2 ∧ i + 1 + 1 < NN := h.all (P := fun i => kd (i + 1 + 1) = 2 ∧ i + 1 + 1 < NN) (by decide)
theorem isS.t3 {i : Nat} (h : isS i) : kd (i + 3) = 3 ∧ i + 3 < NN := h.all (P := fun i => kd (i + 3) = 3 ∧ i + 3 < NN) (by decide)
theorem isS.t5 {i : Nat} (h : isS i) : kd (i + 8) = 5 ∧ i + 8 < NN := h.all (P := fun i => kd (i + 8) = 5 ∧ i + 8 < NN) (by decide)
theorem isS.e4 {i : Nat} (h : isS i) {x : Int32} (hx : vp_in x 4) : kd (i + 3 + 1 + x.toNatClampNeg) = 4 ∧ i + 3 + 1 + x.toNatClampNeg < NN := by
  have hx := Nat.not_le.mp fun q => hx (Or.inr q)
  generalize x.toNatClampNeg = j at hx
  exact h.all (P := fun i => ∀ j, j < 4 → kd (i + 3 + 1 + j) = 4 ∧ i + 3 + 1 + j < NN) (by decide) j hx
theorem isS.e6 {i : Nat} (h : isS i) {x : Int32} (hx : vp_in x 5) : kd (i + 8 + 1 + x.toNatClampNeg) = 6 ∧ i + 8 + 1 + x.toNatClampNeg < NN := by
  have hx := Nat.not_le.mp fun q => hx (Or.inr q)
  generalize x.toNatClampNeg = j at hx
  exact h.all (P := fun i => ∀ j, j < 5 → kd (i + 8 + 1 + j) = 6 ∧ i + 8 + 1 + j < NN) (by decide) j hx
theorem kgS {x : Int32} (h : vp_in x 8) : isS (42 + 14 * x.toNatClampNeg) := by
  have h := Nat.not_le.mp fun q => h (Or.inr q)
  exact ⟨3 + x.toNatClampNeg, by omega, by omega⟩
theorem isS0 : isS 0 := ⟨0, by decide, rfl⟩
theorem isS14 : isS 14 := ⟨1, by decide, rfl⟩
theorem isS28 : isS 28 := ⟨2, by decide, rfl⟩
def lt {α β : Type} (a : α) (f : α → β) : β := f a
theorem lt_ {α β : Type} {a : α} {f : α → Option β} {o : β} (h : lt a f = some o) : ∃ x, x = a ∧ f x = some o := ⟨a, rfl, h⟩
def gd {α : Type} (x : Int32) (n : Nat) (a : Option α) : Option α := if x < 0 ∨ n ≤ x.toNatClampNeg then none else a
theorem gd_ {α : Type} {x : Int32} {n : Nat} {a : Option α} {o : α} (h : gd x n a = some o) : vp_in x n ∧ a = some o := by
  unfold gd at h
  by_cases c : x < 0 ∨ n ≤ x.toNatClampNeg
  · rw [if_pos c] at h; cases h
  · rw [if_neg c] at h; exact ⟨c, h⟩
def bz {α : Type} (x : Int32) (a : Option α) : Option α := if x &&& 1 = x then a else none
theorem bz_ {α : Type} {x : Int32} {a : Option α} {o : α} (h : bz x a = some o) : narrow .boolean (.int x) = .int x ∧ a = some o := by
  unfold bz at h
  by_cases c : x &&& 1 = x
  · rw [if_pos c] at h; exact ⟨by simp [narrow, c], h⟩
  · rw [if_neg c] at h; cases h
def nz {α : Type} (x : Int32) (a : Option α) : Option α := if x = 0 then none else a
theorem nz_ {α : Type} {x : Int32} {a : Option α} {o : α} (h : nz x a = some o) : ¬ x = 0 ∧ a = some o := by
  unfold nz at h
  by_cases c : x = 0
  · rw [if_pos c] at h; cases h
  · rw [if_neg c] at h; exact ⟨c, h⟩
def bnd {α β : Type} (a : Option α) (f : α → Option β) : Option β := match a with
  | none => none
  | some x => f x
theorem bnd_ {α β : Type} {a : Option α} {f : α → Option β} {o : β} (h : bnd a f = some o) : ∃ x, a = some x ∧ f x = some o := by
  cases a with
  | none => cases h
  | some x => exact ⟨x, rfl, h⟩
def bnm {α β : Type} (a : Option (α × Mm)) (f : α → Mm → Option β) : Option β := match a with
  | none => none
  | some (x, τ) => f x τ
theorem bnm_ {α β : Type} {a : Option (α × Mm)} {f : α → Mm → Option β} {o : β} (h : bnm a f = some o) : ∃ x τ, a = some (x, τ) ∧ f x τ = some o := by
  cases a with
  | none => cases h
  | some x => exact ⟨x.1, x.2, rfl, h⟩
def xb {α β : Type} (a : Option ((α ⊕ Nat) × Mm)) (f : α → Mm → Option ((β ⊕ Nat) × Mm)) : Option ((β ⊕ Nat) × Mm) := match a with
  | none => none
  | some (.inl r, τ) => f r τ
  | some (.inr n, τ) => some (.inr n, τ)
theorem xb_ {α β : Type} {a : Option ((α ⊕ Nat) × Mm)} {f : α → Mm → Option ((β ⊕ Nat) × Mm)} {o : (β ⊕ Nat) × Mm} (h : xb a f = some o) : (∃ r τ, a = some (.inl r, τ) ∧ f r τ = some o) ∨ ∃ n τ, a = some (.inr n, τ) ∧ o = (.inr n, τ) := by
  match a, h with
  | some (.inl r, τ), h => exact Or.inl ⟨r, τ, rfl, h⟩
  | some (.inr n, τ), h => exact Or.inr ⟨n, τ, rfl, (Option.some.inj h).symm⟩
theorem ip_ {α : Type} {c : Prop} {i : Decidable c} {a b : α} {o : α} (h : c) (k : (if c then a else b) = o) : a = o := (if_pos h).symm.trans k
theorem in_ {α : Type} {c : Prop} {i : Decidable c} {a b : α} {o : α} (h : ¬ c) (k : (if c then a else b) = o) : b = o := (if_neg h).symm.trans k
def oc {α β : Type} (a : Option α) (n : Option β) (f : α → Option β) : Option β := match a with
  | none => n
  | some x => f x
theorem vpc {x : Int32} {n : Nat} (h : ¬ (x < 0 ∨ n ≤ x.toNatClampNeg)) : vp_in x n := h
theorem oc_n {α β : Type} {n : Option β} {f : α → Option β} {o : β} (h : oc none n f = some o) : n = some o := h
theorem oc_s {α β : Type} {x : α} {n : Option β} {f : α → Option β} {o : β} (h : oc (some x) n f = some o) : f x = some o := h
def cpm (σ : Mm) (i j n : Nat) : Mm := fun a => if a = i then va_cpy (σ j) (σ i) 0 0 n else σ a
def isT (i : Nat) : Prop := ∃ k, k < txs.length ∧ i = 400 + k
def txN (i : Nat) : Nat := (txB (i - 400)).length
def txC (i : Nat) (j : Nat) : Int32 := (txB (i - 400)).getD j 0
theorem isT_d {i : Nat} (h : (decide (400 ≤ i) && decide (i - 400 < txs.length)) = true) : isT i := by
  rw [Bool.and_eq_true] at h
  have h1 := of_decide_eq_true h.1
  exact ⟨i - 400, of_decide_eq_true h.2, by omega⟩
def cz {α : Type} (x : Int32) (a : Option α) : Option α := if x.toUInt32.toUInt16.toUInt32.toInt32 = x then a else none
theorem cz_ {α : Type} {x : Int32} {a : Option α} {o : α} (h : cz x a = some o) : narrow .char (.int x) = .int x ∧ a = some o := by
  unfold cz at h
  by_cases c : x.toUInt32.toUInt16.toUInt32.toInt32 = x
  · rw [if_pos c] at h; exact ⟨congrArg Value.int c, h⟩
  · rw [if_neg c] at h; cases h
def yz {α : Type} (x : Int32) (a : Option α) : Option α := if x.toInt8.toInt32 = x then a else none
theorem yz_ {α : Type} {x : Int32} {a : Option α} {o : α} (h : yz x a = some o) : narrow .byte (.int x) = .int x ∧ a = some o := by
  unfold yz at h
  by_cases c : x.toInt8.toInt32 = x
  · rw [if_pos c] at h; exact ⟨congrArg Value.int c, h⟩
  · rw [if_neg c] at h; cases h
def ush (x y : Int32) : Int32 := (x.toUInt32 >>> (y.toUInt32 &&& Int32.toUInt32 31)).toInt32
def cpt (σ : Mm) (i j d n : Nat) : Mm := fun a => if a = j then va_cpy (txC i) (σ j) 0 d n else σ a
def cg {α : Type} (d : Int32) (n N : Nat) (a : Option α) : Option α := if d < 0 ∨ N < d.toNatClampNeg + n then none else a
theorem cg_ {α : Type} {d : Int32} {n N : Nat} {a : Option α} {o : α} (h : cg d n N a = some o) : (¬ d < 0 ∧ d.toNatClampNeg + n ≤ N) ∧ a = some o := by
  unfold cg at h
  by_cases c : d < 0 ∨ N < d.toNatClampNeg + n
  · rw [if_pos c] at h; cases h
  · rw [if_neg c] at h; exact ⟨⟨fun q => c (Or.inl q), Nat.not_lt.mp fun q => c (Or.inr q)⟩, h⟩
