section
abbrev Mm : Type := Nat → Nat → Int32
def up (σ : Mm) (i k : Nat) (v : Int32) : Mm := fun a => if a = i then upd (σ i) k v else σ a
abbrev NN : Nat := 209
def kdS (o : Nat) : Nat := if o = 0 then 0 else if o = 1 then 1 else if o = 2 then 2 else if o = 3 then 3 else if o < 8 then 4 else if o = 8 then 5 else 6
def kdR (o : Nat) : Nat := [7, 8, 9, 10, 11, 12, 12, 13, 14, 15, 16, 17].getD o (if o < 42 then 18 else [19, 20, 21, 22, 22, 22, 23, 24, 12, 25, 26, 27, 28].getD (o - 42) 99)
def kd (i : Nat) : Nat := if i < 154 then kdS (i % 14) else kdR (i - 154)
def lowC (j : Nat) : Int32 := ([0, 1, 2, 4, 5, 6, 8, 9, 10, 12, 13, 14, 0, 1, 2, 3, 4, 5, 6, 7, 8, 9, 10, 11] : List Int32).getD j 0
def uppC (j : Nat) : Int32 := ([1, 2, 3, 5, 6, 7, 9, 10, 11, 13, 14, 15, 4, 5, 6, 7, 8, 9, 10, 11, 12, 13, 14, 15] : List Int32).getD j 0
def digT (j : Nat) : Int32 := Int32.ofNat (48 + j / 10)
def digO (j : Nat) : Int32 := Int32.ofNat (48 + j % 10)
def txs : List (String × Nat × String) := [("MazeBonds", 116, "the call is refused"), ("MazeBonds", 183, "there is no such cell"), ("MazeBonds", 186, "the cells are no neighbours"), ("MazeBonds", 188, "there is no way"), ("MazeBonds", 157, "there is no way, or it is the exit"), ("MazeBonds", 251, "there is no such gardener"), ("MazeBonds", 214, "what is not from 0 to 4"), ("MazeBonds", 256, "there is no such visitor"), ("MazeBonds", 221, "what is not from 0 to 8"), ("MazeBonds", 237, "the visitor is out or has no bond"), ("MazeBonds", 269, "there is no such place"), ("MazeBonds", 261, "there is no such measure"), ("MazeBonds", 282, "the buffer is full"), ("MazeBonds$CommandText", 63, "N-N=D"), ("MazeBonds$CommandText", 65, ""), ("MazeBonds$CommandText", 67, "D:N-N"), ("MazeBonds$CommandText", 69, "X"), ("MazeBonds$CommandText", 71, "N"), ("MazeBonds$CommandText", 73, "D>D*D"), ("MazeBonds$CommandText", 75, "DW"), ("MazeBonds$CommandText", 77, "D+D"), ("MazeBonds", 293, "the text has a fault"), ("MazeBonds", 305, "a command is refused"), ("MazeBonds", 310, "what is not from 0 to 2"), ("MazeBonds", 315, "nothing was refused"), ("MazeBonds", 324, "out"), ("MazeBonds", 350, "there is no such row"), ("MazeBonds", 358, "there is no such index"), ("MazeBonds", 366, "there are no visitors"), ("MazeBonds", 392, "what is not from 0 to 11"), ("MazeBonds", 394, "there is nothing to undo"), ("MazeBonds", 399, "there is no snapshot")]
def txB (k : Nat) : List Int32 := ((txs.getD k ("", 0, "")).2.2.toList.map (fun c => Int32.ofNat c.toNat))
theorem kq {i kc : Nat} (h : (kd i == kc && decide (i < NN)) = true) : kd i = kc ∧ i < NN := by
  rw [Bool.and_eq_true] at h
  exact ⟨eq_of_beq h.1, of_decide_eq_true h.2⟩
theorem kgG {x : Int32} (h : vp_in x 4) : kd (3 + 1 + x.toNatClampNeg) = 4 ∧ 3 + 1 + x.toNatClampNeg < NN := by
  have h := Nat.not_le.mp fun q => h (Or.inr q)
  generalize x.toNatClampNeg = j at h
  exact (by decide : ∀ j, j < 4 → kd (3 + 1 + j) = 4 ∧ 3 + 1 + j < NN) j h
theorem kgV {x : Int32} (h : vp_in x 5) : kd (8 + 1 + x.toNatClampNeg) = 6 ∧ 8 + 1 + x.toNatClampNeg < NN := by
  have h := Nat.not_le.mp fun q => h (Or.inr q)
  generalize x.toNatClampNeg = j at h
  exact (by decide : ∀ j, j < 5 → kd (8 + 1 + j) = 6 ∧ 8 + 1 + j < NN) j h
theorem kgN {x : Int32} (h : vp_in x 30) : kd (166 + x.toNatClampNeg) = 18 ∧ 166 + x.toNatClampNeg < NN := by
  have h := Nat.not_le.mp fun q => h (Or.inr q)
  generalize x.toNatClampNeg = j at h
  exact (by decide : ∀ j, j < 30 → kd (166 + j) = 18 ∧ 166 + j < NN) j h
def isS (i : Nat) : Prop := ∃ j, j < 11 ∧ i = 14 * j
theorem isS.all {i : Nat} (h : isS i) {P : Nat → Prop} (hP : ∀ j, j < 11 → P (14 * j)) : P i := by
  obtain ⟨j, hj, rfl⟩ := h
  exact hP j hj
theorem isS.k0 {i : Nat} (h : isS i) : kd i = 0 ∧ i < NN := h.all (P := fun i => kd i = 0 ∧ i < NN) (by decide)
theorem isS.t1 {i : Nat} (h : isS i) : kd (i + 1) = 1 ∧ i + 1 < NN := h.all (P := fun i => kd (i + 1) = 1 ∧ i + 1 < NN) (by decide)
theorem isS.t2 {i : Nat} (h : isS i) : kd (i + 1 + 1) = 2 ∧ i + 1 + 1 < NN := h.all (P := fun i => kd (i + 1 + 1) = 2 ∧ i + 1 + 1 < NN) (by decide)
theorem isS.t3 {i : Nat} (h : isS i) : kd (i + 3) = 3 ∧ i + 3 < NN := h.all (P := fun i => kd (i + 3) = 3 ∧ i + 3 < NN) (by decide)
theorem isS.t5 {i : Nat} (h : isS i) : kd (i + 8) = 5 ∧ i + 8 < NN := h.all (P := fun i => kd (i + 8) = 5 ∧ i + 8 < NN) (by decide)
theorem isS.e4 {i : Nat} (h : isS i) {x : Int32} (hx : vp_in x 4) : kd (i + 3 + 1 + x.toNatClampNeg) = 4 ∧ i + 3 + 1 + x.toNatClampNeg < NN := by
  have hx := Nat.not_le.mp fun q => hx (Or.inr q)
  generalize x.toNatClampNeg = j at hx
  exact h.all (P := fun i => ∀ j, j < 4 → kd (i + 3 + 1 + j) = 4 ∧ i + 3 + 1 + j < NN) (by decide) j hx
theorem isS.e6 {i : Nat} (h : isS i) {x : Int32} (hx : vp_in x 5) : kd (i + 8 + 1 + x.toNatClampNeg) = 6 ∧ i + 8 + 1 + x.toNatClampNeg < NN := by
  have hx := Nat.not_le.mp fun q => hx (Or.inr q)
  generalize x.toNatClampNeg = j at hx
  exact h.all (P := fun i => ∀ j, j < 5 → kd (i + 8 + 1 + j) = 6 ∧ i + 8 + 1 + j < NN) (by decide) j hx
theorem kgS {x : Int32} (h : vp_in x 8) : isS (42 + 14 * x.toNatClampNeg) := by
  have h := Nat.not_le.mp fun q => h (Or.inr q)
  exact ⟨3 + x.toNatClampNeg, by omega, by omega⟩
theorem isS0 : isS 0 := ⟨0, by decide, rfl⟩
theorem isS14 : isS 14 := ⟨1, by decide, rfl⟩
theorem isS28 : isS 28 := ⟨2, by decide, rfl⟩
def lt {α β : Type} (a : α) (f : α → β) : β := f a
theorem lt_ {α β : Type} {a : α} {f : α → Option β} {o : β} (h : lt a f = some o) : ∃ x, x = a ∧ f x = some o := ⟨a, rfl, h⟩
def gd {α : Type} (x : Int32) (n : Nat) (a : Option α) : Option α := if x < 0 ∨ n ≤ x.toNatClampNeg then none else a
theorem gd_ {α : Type} {x : Int32} {n : Nat} {a : Option α} {o : α} (h : gd x n a = some o) : vp_in x n ∧ a = some o := by
  unfold gd at h
  by_cases c : x < 0 ∨ n ≤ x.toNatClampNeg
  · rw [if_pos c] at h; cases h
  · rw [if_neg c] at h; exact ⟨c, h⟩
def bz {α : Type} (x : Int32) (a : Option α) : Option α := if x &&& 1 = x then a else none
theorem bz_ {α : Type} {x : Int32} {a : Option α} {o : α} (h : bz x a = some o) : narrow .boolean (.int x) = .int x ∧ a = some o := by
  unfold bz at h
  by_cases c : x &&& 1 = x
  · rw [if_pos c] at h; exact ⟨by simp [narrow, c], h⟩
  · rw [if_neg c] at h; cases h
def nz {α : Type} (x : Int32) (a : Option α) : Option α := if x = 0 then none else a
theorem nz_ {α : Type} {x : Int32} {a : Option α} {o : α} (h : nz x a = some o) : ¬ x = 0 ∧ a = some o := by
  unfold nz at h
  by_cases c : x = 0
  · rw [if_pos c] at h; cases h
  · rw [if_neg c] at h; exact ⟨c, h⟩
def bnd {α β : Type} (a : Option α) (f : α → Option β) : Option β := match a with
  | none => none
  | some x => f x
theorem bnd_ {α β : Type} {a : Option α} {f : α → Option β} {o : β} (h : bnd a f = some o) : ∃ x, a = some x ∧ f x = some o := by
  cases a with
  | none => cases h
  | some x => exact ⟨x, rfl, h⟩
def bnm {α β : Type} (a : Option (α × Mm)) (f : α → Mm → Option β) : Option β := match a with
  | none => none
  | some (x, τ) => f x τ
theorem bnm_ {α β : Type} {a : Option (α × Mm)} {f : α → Mm → Option β} {o : β} (h : bnm a f = some o) : ∃ x τ, a = some (x, τ) ∧ f x τ = some o := by
  cases a with
  | none => cases h
  | some x => exact ⟨x.1, x.2, rfl, h⟩
def xb {α β : Type} (a : Option ((α ⊕ Nat) × Mm)) (f : α → Mm → Option ((β ⊕ Nat) × Mm)) : Option ((β ⊕ Nat) × Mm) := match a with
  | none => none
  | some (.inl r, τ) => f r τ
  | some (.inr n, τ) => some (.inr n, τ)
theorem xb_ {α β : Type} {a : Option ((α ⊕ Nat) × Mm)} {f : α → Mm → Option ((β ⊕ Nat) × Mm)} {o : (β ⊕ Nat) × Mm} (h : xb a f = some o) : (∃ r τ, a = some (.inl r, τ) ∧ f r τ = some o) ∨ ∃ n τ, a = some (.inr n, τ) ∧ o = (.inr n, τ) := by
  match a, h with
  | some (.inl r, τ), h => exact Or.inl ⟨r, τ, rfl, h⟩
  | some (.inr n, τ), h => exact Or.inr ⟨n, τ, rfl, (Option.some.inj h).symm⟩
theorem ip_ {α : Type} {c : Prop} {i : Decidable c} {a b : α} {o : α} (h : c) (k : (if c then a else b) = o) : a = o := (if_pos h).symm.trans k
theorem in_ {α : Type} {c : Prop} {i : Decidable c} {a b : α} {o : α} (h : ¬ c) (k : (if c then a else b) = o) : b = o := (if_neg h).symm.trans k
def oc {α β : Type} (a : Option α) (n : Option β) (f : α → Option β) : Option β := match a with
  | none => n
  | some x => f x
theorem vpc {x : Int32} {n : Nat} (h : ¬ (x < 0 ∨ n ≤ x.toNatClampNeg)) : vp_in x n := h
theorem oc_n {α β : Type} {n : Option β} {f : α → Option β} {o : β} (h : oc none n f = some o) : n = some o := h
theorem oc_s {α β : Type} {x : α} {n : Option β} {f : α → Option β} {o : β} (h : oc (some x) n f = some o) : f x = some o := h
def cpm (σ : Mm) (i j n : Nat) : Mm := fun a => if a = i then va_cpy (σ j) (σ i) 0 0 n else σ a
def isT (i : Nat) : Prop := ∃ k, k < txs.length ∧ i = 400 + k
def txN (i : Nat) : Nat := (txB (i - 400)).length
def txC (i : Nat) (j : Nat) : Int32 := (txB (i - 400)).getD j 0
theorem isT_d {i : Nat} (h : (decide (400 ≤ i) && decide (i - 400 < txs.length)) = true) : isT i := by
  rw [Bool.and_eq_true] at h
  have h1 := of_decide_eq_true h.1
  exact ⟨i - 400, of_decide_eq_true h.2, by omega⟩
def cz {α : Type} (x : Int32) (a : Option α) : Option α := if x.toUInt32.toUInt16.toUInt32.toInt32 = x then a else none
theorem cz_ {α : Type} {x : Int32} {a : Option α} {o : α} (h : cz x a = some o) : narrow .char (.int x) = .int x ∧ a = some o := by
  unfold cz at h
  by_cases c : x.toUInt32.toUInt16.toUInt32.toInt32 = x
  · rw [if_pos c] at h; exact ⟨congrArg Value.int c, h⟩
  · rw [if_neg c] at h; cases h
def yz {α : Type} (x : Int32) (a : Option α) : Option α := if x.toInt8.toInt32 = x then a else none
theorem yz_ {α : Type} {x : Int32} {a : Option α} {o : α} (h : yz x a = some o) : narrow .byte (.int x) = .int x ∧ a = some o := by
  unfold yz at h
  by_cases c : x.toInt8.toInt32 = x
  · rw [if_pos c] at h; exact ⟨congrArg Value.int c, h⟩
  · rw [if_neg c] at h; cases h
def ush (x y : Int32) : Int32 := (x.toUInt32 >>> (y.toUInt32 &&& Int32.toUInt32 31)).toInt32
def cpt (σ : Mm) (i j d n : Nat) : Mm := fun a => if a = j then va_cpy (txC i) (σ j) 0 d n else σ a
def cg {α : Type} (d : Int32) (n N : Nat) (a : Option α) : Option α := if d < 0 ∨ N < d.toNatClampNeg + n then none else a
theorem cg_ {α : Type} {d : Int32} {n N : Nat} {a : Option α} {o : α} (h : cg d n N a = some o) : (¬ d < 0 ∧ d.toNatClampNeg + n ≤ N) ∧ a = some o := by
  unfold cg at h
  by_cases c : d < 0 ∨ N < d.toNatClampNeg + n
  · rw [if_pos c] at h; cases h
  · rw [if_neg c] at h; exact ⟨⟨fun q => c (Or.inl q), Nat.not_lt.mp fun q => c (Or.inr q)⟩, h⟩
end
section
/-! what the methods do to the memory: functions, a method each -/
def f_X4_leavesOf (a0 : Int32) (σ : Mm) : Option (Int32) := if a0 < 0 then (some 9) else (if 24 ≤ a0 then (some 9) else (gd a0 24 (some (σ 2 a0.toNatClampNeg))))
def f_X4_isOpen (a0 : Int32) (σ : Mm) : Option (Int32) := bnd (f_X4_leavesOf a0 σ) fun q1 => if 5 ≤ q1 then (some 0) else (some 1)
def f_X4_isCell (a0 : Int32) (σ : Mm) : Option (Int32) := if a0 < 0 then (some 0) else (if 16 ≤ a0 then (some 0) else (some 1))
def f_X4_hedgeBetween_l15 (x2 : Int32) (x1 : Int32) (a0 : Int32) (a1 : Int32) (σ : Mm) : Nat → Int32 → Option (Int32)
  | 0, _ => none
  | n + 1, v5 => if 24 ≤ v5 then (some (-1)) else (gd v5 24 (if (lowC v5.toNatClampNeg) = x1 then (gd v5 24 (if (uppC v5.toNatClampNeg) = x2 then (some v5) else (lt (v5 + 1) fun x10 => f_X4_hedgeBetween_l15  x2 x1 a0 a1 σ n x10))) else (lt (v5 + 1) fun x8 => f_X4_hedgeBetween_l15  x2 x1 a0 a1 σ n x8)))
def f_X4_hedgeBetween (a0 : Int32) (a1 : Int32) (σ : Mm) : Option (Int32) := lt (if a1 < a0 then a1 else a0) fun x1 => lt (if a0 < a1 then a1 else a0) fun x2 => f_X4_hedgeBetween_l15  x2 x1 a0 a1 σ 30 0
def f_X4_cellAcross (a0 : Int32) (a1 : Int32) (σ : Mm) : Option (Int32) := if a0 < 0 then (some (-1)) else (if a0 < 24 then (gd a0 24 (if (lowC a0.toNatClampNeg) = a1 then (gd a0 24 (some (uppC a0.toNatClampNeg))) else (gd a0 24 (if (uppC a0.toNatClampNeg) = a1 then (gd a0 24 (some (lowC a0.toNatClampNeg))) else (some (-1)))))) else (some (-1)))
def f_X4_cellTowards (a0 : Int32) (a1 : Int32) (σ : Mm) : Option (Int32) := if a1 = 0 then (if a0 < 4 then (some (-1)) else (some (a0 - 4))) else (if a1 = 1 then (if 3 ≤ (a0 - a0 / 4 * 4) then (some (-1)) else (some (a0 + 1))) else (if a1 = 2 then (if 12 ≤ a0 then (some (-1)) else (some (a0 + 4))) else (if a1 = 3 then (if (a0 - a0 / 4 * 4) ≤ 0 then (some (-1)) else (some (a0 - 1))) else (some (-1)))))
def f_X4_putLeaves (a0 : Int32) (a1 : Int32) (σ : Mm) : Option (Mm) := if a0 < 0 then (some σ) else (if 24 ≤ a0 then (some σ) else (gd a0 24 (lt (up σ 2 a0.toNatClampNeg a1) fun σ3 => some σ3)))
def f_X4_gaps_l4 (σ : Mm) : Nat → Int32 → Int32 → Option (Int32)
  | 0, _, _ => none
  | n + 1, v4, v5 => if 24 ≤ v4 then (some v5) else (bnd (f_X4_isOpen v4 σ) fun q7 => if q7 = 0 then (lt (v4 + 1) fun x9 => f_X4_gaps_l4  σ n x9 v5) else (lt (v5 + 1) fun x10 => lt (v4 + 1) fun x11 => f_X4_gaps_l4  σ n x11 x10))
def f_X4_gaps (σ : Mm) : Option (Int32) := f_X4_gaps_l4  σ 30 0 0
def f_X4_grow_l2 : Nat → Int32 → Mm → Option (Mm)
  | 0, _, _ => none
  | n + 1, v4, σ5 => if 24 ≤ v4 then (some σ5) else (gd v4 24 (gd v4 24 (lt (up σ5 2 v4.toNatClampNeg (if ((σ5 2 v4.toNatClampNeg) + 1) < 9 then ((σ5 2 v4.toNatClampNeg) + 1) else 9)) fun σ7 => lt (v4 + 1) fun x8 => f_X4_grow_l2   n x8 σ7)))
def f_X4_grow (σ : Mm) : Option (Mm) := f_X4_grow_l2   30 0 σ
def f_X4_copyFrom (i : Nat) (o0 : Nat) (σ : Mm) : Option (Mm) := lt (cpm σ ((i + 1) + 1) ((o0 + 1) + 1) 24) fun σ1 => some σ1
def f_X7_hasBond (i : Nat) (σ : Mm) : Option (Int32) := if (σ i 4) = (-1) then (some 0) else (some 1)
def f_X7_endBond (i : Nat) (σ : Mm) : Option (Mm) := lt (up σ i 4 (-1)) fun σ1 => lt (up σ1 i 5 0) fun σ2 => lt (up σ2 i 6 0) fun σ3 => some σ3
def f_X7_takeBond (i : Nat) (a0 : Int32) (a1 : Int32) (σ : Mm) : Option (Mm) := lt (up σ i 4 a0) fun σ1 => lt (up σ1 i 5 a1) fun σ2 => lt (up σ2 i 6 0) fun σ3 => some σ3
def f_X7_meetMinotaur (i : Nat) (σ : Mm) : Option (Mm) := bnd (f_X7_hasBond i σ) fun q1 => bz q1 (lt (up σ i 6 q1) fun σ2 => some σ2)
def f_X7_isIn (i : Nat) (a0 : Int32) (σ : Mm) : Option (Int32) := if (σ i 7) = 0 then (if (σ i 1) = a0 then (some 1) else (some 0)) else (some 0)
def f_X7_lostAfter (i : Nat) (a0 : Int32) (σ : Mm) : Option (Int32) := some (if 0 < (((σ i 2) + a0) - (σ i 3)) then (((σ i 2) + a0) - (σ i 3)) else 0)
def f_X7_dueAfter (i : Nat) (a0 : Int32) (σ : Mm) : Option (Int32) := if (σ i 6) = 0 then (bnd (f_X7_lostAfter i a0 σ) fun q2 => some ((σ i 5) * q2)) else (some 0)
def f_X7_numberFor (i : Nat) (a0 : Int32) (σ : Mm) : Option (Int32) := if a0 = 0 then (some (σ i 0)) else (if a0 = 1 then (some (σ i 1)) else (if a0 = 2 then (some (σ i 2)) else (if a0 = 3 then (some (σ i 3)) else (if a0 = 4 then (bnd (f_X7_lostAfter i 0 σ) fun q6 => some q6) else (if a0 = 5 then (some (σ i 4)) else (if a0 = 6 then (some (σ i 5)) else (if a0 = 7 then (if (σ i 6) = 0 then (some 0) else (some 1)) else (if (σ i 7) = 0 then (some 0) else (some 1)))))))))
def f_X7_arrive (i : Nat) (a0 : Int32) (a1 : Int32) (σ : Mm) : Option (Mm) := lt (up σ i 0 a0) fun σ1 => lt (up σ1 i 1 0) fun σ2 => lt (up σ2 i 2 0) fun σ3 => lt (up σ3 i 3 a1) fun σ4 => lt (up σ4 i 7 0) fun σ5 => bnd (f_X7_endBond i σ5) fun σ7 => some σ7
def f_X7_copyFrom (i : Nat) (o0 : Nat) (σ : Mm) : Option (Mm) := lt (up σ i 0 (σ o0 0)) fun σ1 => lt (up σ1 i 1 (σ1 o0 1)) fun σ2 => lt (up σ2 i 2 (σ2 o0 2)) fun σ3 => lt (up σ3 i 3 (σ3 o0 3)) fun σ4 => lt (up σ4 i 4 (σ4 o0 4)) fun σ5 => lt (up σ5 i 5 (σ5 o0 5)) fun σ6 => bz (σ6 o0 6) (lt (up σ6 i 6 (σ6 o0 6)) fun σ7 => bz (σ7 o0 7) (lt (up σ7 i 7 (σ7 o0 7)) fun σ8 => some σ8))
def f_X1_arrive (i : Nat) (a0 : Int32) (σ : Mm) : Option (Mm) := lt (up σ i 0 a0) fun σ1 => lt (up σ1 i 1 0) fun σ2 => lt (up σ2 i 2 0) fun σ3 => lt (up σ3 i 3 0) fun σ4 => some σ4
def f_X1_copyFrom (i : Nat) (o0 : Nat) (σ : Mm) : Option (Mm) := lt (up σ i 0 (σ o0 0)) fun σ1 => lt (up σ1 i 1 (σ1 o0 1)) fun σ2 => lt (up σ2 i 2 (σ2 o0 2)) fun σ3 => lt (up σ3 i 3 (σ3 o0 3)) fun σ4 => some σ4
def f_X5_because (a0 : Int32) (a1 : Int32) (σ : Mm) : Option (Int32 × Mm) := lt (up σ 157 0 a0) fun σ1 => lt (up σ1 157 1 a1) fun σ2 => lt (up σ2 157 2 0) fun σ3 => some ((-1), σ3)
def f_X6_findGardener (a0 : Int32) (σ : Mm) : Option (Option Nat) := if a0 < 0 then (some none) else (if (σ 0 3) ≤ a0 then (some none) else (gd a0 4 (some (some (3 + 1 + a0.toNatClampNeg)))))
def f_X6_findVisitor (a0 : Int32) (σ : Mm) : Option (Option Nat) := if a0 < 0 then (some none) else (if (σ 0 4) ≤ a0 then (some none) else (gd a0 5 (some (some (8 + 1 + a0.toNatClampNeg)))))

theorem kf_gard {a : Int32} {σ : Mm} {j : Nat} (h : f_X6_findGardener a σ = some (some j)) : kd j = 4 ∧ j < NN := by
  unfold f_X6_findGardener at h
  repeat' split at h
  all_goals first
    | (cases h; done)
    | (obtain ⟨h1, h⟩ := gd_ h; cases h; exact kgG h1)
theorem kf_vis {a : Int32} {σ : Mm} {j : Nat} (h : f_X6_findVisitor a σ = some (some j)) : kd j = 6 ∧ j < NN := by
  unfold f_X6_findVisitor at h
  repeat' split at h
  all_goals first
    | (cases h; done)
    | (obtain ⟨h1, h⟩ := gd_ h; cases h; exact kgV h1)

def f_X6_bondsOf_l4 (a0 : Int32) (σ : Mm) : Nat → Int32 → Int32 → Option (Int32)
  | 0, _, _ => none
  | n + 1, v4, v5 => if (σ 0 4) ≤ v4 then (some v5) else (gd v4 5 (if (σ (8 + 1 + v4.toNatClampNeg) 4) = a0 then (lt (v5 + 1) fun x10 => lt (v4 + 1) fun x11 => f_X6_bondsOf_l4  a0 σ n x11 x10) else (lt (v4 + 1) fun x9 => f_X6_bondsOf_l4  a0 σ n x9 v5)))
def f_X6_bondsOf (a0 : Int32) (σ : Mm) : Option (Int32) := f_X6_bondsOf_l4  a0 σ 8 0 0
def f_X6_bonds (σ : Mm) : Option (Int32) := bnd (f_X6_bondsOf (-1) σ) fun q1 => some ((σ 0 4) - q1)
def f_X6_debtOf_l4 (a0 : Int32) (σ : Mm) : Nat → Int32 → Int32 → Option (Int32)
  | 0, _, _ => none
  | n + 1, v4, v5 => if (σ 0 4) ≤ v4 then (some v5) else (gd v4 5 (if (σ (8 + 1 + v4.toNatClampNeg) 4) = a0 then (gd v4 5 (bnd (f_X7_dueAfter (8 + 1 + v4.toNatClampNeg) 0 σ) fun q11 => lt (v5 + q11) fun x12 => lt (v4 + 1) fun x13 => f_X6_debtOf_l4  a0 σ n x13 x12)) else (lt (v4 + 1) fun x9 => f_X6_debtOf_l4  a0 σ n x9 v5)))
def f_X6_debtOf (a0 : Int32) (σ : Mm) : Option (Int32) := f_X6_debtOf_l4  a0 σ 8 0 0
def f_X6_visitorsIn_l4 (a0 : Int32) (σ : Mm) : Nat → Int32 → Int32 → Option (Int32)
  | 0, _, _ => none
  | n + 1, v4, v5 => if (σ 0 4) ≤ v4 then (some v5) else (gd v4 5 (bnd (f_X7_isIn (8 + 1 + v4.toNatClampNeg) a0 σ) fun q8 => if q8 = 0 then (lt (v4 + 1) fun x10 => f_X6_visitorsIn_l4  a0 σ n x10 v5) else (lt (v5 + 1) fun x11 => lt (v4 + 1) fun x12 => f_X6_visitorsIn_l4  a0 σ n x12 x11)))
def f_X6_visitorsIn (a0 : Int32) (σ : Mm) : Option (Int32) := f_X6_visitorsIn_l4  a0 σ 8 0 0
def f_X6_totalOf_l4 (a0 : Int32) (σ : Mm) : Nat → Int32 → Int32 → Option (Int32)
  | 0, _, _ => none
  | n + 1, v4, v5 => if (σ 0 4) ≤ v4 then (some v5) else (gd v4 5 (bnd (f_X7_numberFor (8 + 1 + v4.toNatClampNeg) a0 σ) fun q8 => lt (v5 + q8) fun x9 => lt (v4 + 1) fun x10 => f_X6_totalOf_l4  a0 σ n x10 x9))
def f_X6_totalOf (a0 : Int32) (σ : Mm) : Option (Int32) := f_X6_totalOf_l4  a0 σ 8 0 0
def f_X6_coinsOfAll_l8 (σ : Mm) : Nat → Int32 → Int32 → Option (Int32)
  | 0, _, _ => none
  | n + 1, v5, v6 => if (σ 0 3) ≤ v5 then (some v6) else (gd v5 4 (lt (v6 + (σ (3 + 1 + v5.toNatClampNeg) 0)) fun x9 => lt (v5 + 1) fun x10 => f_X6_coinsOfAll_l8  σ n x10 x9))
def f_X6_coinsOfAll (σ : Mm) : Option (Int32) := bnd (f_X6_totalOf 0 σ) fun q1 => f_X6_coinsOfAll_l8  σ 8 0 q1
def f_X6_visitorsAhead_l12 (a0 : Int32) (a1 : Int32) (σ : Mm) : Nat → Int32 → Int32 → Option (Int32)
  | 0, _, _ => none
  | n + 1, v6, v7 => some v7
def f_X6_visitorsAhead_l12b (j2 : Nat) (a0 : Int32) (a1 : Int32) (σ : Mm) : Nat → Int32 → Int32 → Option (Int32)
  | 0, _, _ => none
  | n + 1, v11, v12 => if (σ 0 4) ≤ v11 then (some v12) else (gd v11 5 (bnd (f_X7_numberFor (8 + 1 + v11.toNatClampNeg) a1 σ) fun q15 => bnd (f_X7_numberFor j2 a1 σ) fun q16 => lt (q15 - q16) fun x17 => if 0 < x17 then (lt (v12 + 1) fun x19 => lt (v11 + 1) fun x20 => f_X6_visitorsAhead_l12b  j2 a0 a1 σ n x20 x19) else (if x17 = 0 then (if a0 ≤ v11 then (lt (v11 + 1) fun x24 => f_X6_visitorsAhead_l12b  j2 a0 a1 σ n x24 v12) else (lt (v12 + 1) fun x25 => lt (v11 + 1) fun x26 => f_X6_visitorsAhead_l12b  j2 a0 a1 σ n x26 x25)) else (lt (v11 + 1) fun x22 => f_X6_visitorsAhead_l12b  j2 a0 a1 σ n x22 v12))))
def f_X6_visitorsAhead (a0 : Int32) (a1 : Int32) (σ : Mm) : Option (Int32) := bnd (f_X6_findVisitor a0 σ) fun q1 => oc q1 (f_X6_visitorsAhead_l12  a0 a1 σ 8 0 0) fun j2 => f_X6_visitorsAhead_l12b  j2 a0 a1 σ 8 0 0
def f_X6_isRicher (a0 : Int32) (a1 : Int32) (σ : Mm) : Option (Int32) := bnd (f_X6_findGardener a0 σ) fun q1 => oc q1 (bnd (f_X6_findGardener a1 σ) fun q3 => oc q3 (some 0) fun j4 => some 0) fun j2 => bnd (f_X6_findGardener a1 σ) fun q5 => oc q5 (some 0) fun j6 => if (σ j2 0) = (σ j6 0) then (bnd (f_X6_debtOf a1 σ) fun q8 => bnd (f_X6_debtOf a0 σ) fun q9 => lt (q8 - q9) fun x10 => if 0 < x10 then (some 1) else (if x10 = 0 then (if a1 ≤ a0 then (some 0) else (some 1)) else (some 0))) else (if (σ j2 0) ≤ (σ j6 0) then (some 0) else (some 1))
def f_X6_gardenersAhead_l4 (a0 : Int32) (σ : Mm) : Nat → Int32 → Int32 → Option (Int32)
  | 0, _, _ => none
  | n + 1, v4, v5 => if (σ 0 3) ≤ v4 then (some v5) else (bnd (f_X6_isRicher v4 a0 σ) fun q7 => if q7 = 0 then (lt (v4 + 1) fun x9 => f_X6_gardenersAhead_l4  a0 σ n x9 v5) else (lt (v5 + 1) fun x10 => lt (v4 + 1) fun x11 => f_X6_gardenersAhead_l4  a0 σ n x11 x10))
def f_X6_gardenersAhead (a0 : Int32) (σ : Mm) : Option (Int32) := f_X6_gardenersAhead_l4  a0 σ 8 0 0
def f_X6_copyFrom_l41 (K : Int32 → Mm → Option (Mm)) (i : Nat) (o0 : Nat) : Nat → Int32 → Mm → Option (Mm)
  | 0, _, _ => none
  | n + 1, v15, σ16 => if 5 ≤ v15 then (K v15 σ16) else (gd v15 5 (gd v15 5 (bnd (f_X7_copyFrom ((i + 8) + 1 + v15.toNatClampNeg) ((o0 + 8) + 1 + v15.toNatClampNeg) σ16) fun σ21 => lt (v15 + 1) fun x22 => f_X6_copyFrom_l41 K i o0 n x22 σ21)))
def f_X6_copyFrom_l13 (K : Int32 → Mm → Option (Mm)) (i : Nat) (o0 : Nat) : Nat → Int32 → Mm → Option (Mm)
  | 0, _, _ => none
  | n + 1, v23, σ24 => if 4 ≤ v23 then (K v23 σ24) else (gd v23 4 (gd v23 4 (bnd (f_X1_copyFrom ((i + 3) + 1 + v23.toNatClampNeg) ((o0 + 3) + 1 + v23.toNatClampNeg) σ24) fun σ29 => lt (v23 + 1) fun x30 => f_X6_copyFrom_l13 K i o0 n x30 σ29)))
def f_X6_copyFrom (i : Nat) (o0 : Nat) (σ : Mm) : Option (Mm) := bnd (f_X4_copyFrom i o0 σ) fun σ2 => lt (fun v3 σ4 => lt (fun v6 σ7 => lt (up σ7 i 3 (σ7 o0 3)) fun σ9 => lt (up σ9 i 4 (σ9 o0 4)) fun σ10 => lt (up σ10 i 5 (σ10 o0 5)) fun σ11 => lt (up σ11 i 6 (σ11 o0 6)) fun σ12 => lt (up σ12 i 7 (σ12 o0 7)) fun σ13 => lt (up σ13 i 8 (σ13 o0 8)) fun σ14 => some σ14) fun K => f_X6_copyFrom_l41 K i o0 8 0 σ4) fun K => f_X6_copyFrom_l13 K i o0 8 0 σ2
def f_X2_forget (σ : Mm) : Option (Mm) := lt (up σ 155 2 0) fun σ1 => some σ1
def f_X2_keep (σ : Mm) : Option (Mm) := lt (up σ 155 1 (((σ 155 1) + 1) - ((σ 155 1) + 1) / 8 * 8)) fun σ1 => gd (σ1 155 1) 8 (bnd (f_X6_copyFrom (42 + 14 * (σ1 155 1).toNatClampNeg) 14 σ1) fun σ4 => lt (up σ4 155 2 (if ((σ4 155 2) + 1) < 8 then ((σ4 155 2) + 1) else 8)) fun σ5 => some σ5)
def f_X2_takeBack (σ : Mm) : Option (Mm) := if (σ 155 2) ≤ 0 then (some σ) else (gd (σ 155 1) 8 (bnd (f_X6_copyFrom 0 (42 + 14 * (σ 155 1).toNatClampNeg) σ) fun σ4 => lt (up σ4 155 1 ((((σ4 155 1) + 8) - 1) - (((σ4 155 1) + 8) - 1) / 8 * 8)) fun σ5 => lt (up σ5 155 2 ((σ5 155 2) - 1)) fun σ6 => some σ6))
def f_X8_distanceOf (a0 : Int32) (σ : Mm) : Option (Int32) := bnd (f_X4_isCell a0 σ) fun q1 => if q1 = 0 then (some 1000) else (gd a0 16 (some (σ 159 a0.toNatClampNeg)))
def f_J7_fill_53178_l5 (a1 : Int32) : Nat → Int32 → Mm → Option (Mm)
  | 0, _, _ => none
  | n + 1, v4, σ5 => if 16 ≤ v4 then (some σ5) else (gd v4 16 (lt (up σ5 159 v4.toNatClampNeg a1) fun σ7 => lt (v4 + 1) fun x8 => f_J7_fill_53178_l5  a1 n x8 σ7))
def f_J7_fill_53178 (a1 : Int32) (σ : Mm) : Option (Mm) := f_J7_fill_53178_l5  a1 20 0 σ
def f_X8_startFrom (a0 : Int32) (σ : Mm) : Option (Mm) := bnd (f_J7_fill_53178 1000 σ) fun σ2 => bnd (f_X4_isCell a0 σ2) fun q3 => if q3 = 0 then (some σ2) else (gd a0 16 (lt (up σ2 159 a0.toNatClampNeg 0) fun σ5 => some σ5))
def f_X8_measureFrom_l38 (K : Int32 → Int32 → Mm → Option (Mm)) (x13 : Int32) (v8 : Int32) (a0 : Int32) : Nat → Int32 → Int32 → Mm → Option (Mm)
  | 0, _, _, _ => none
  | n + 1, v19, v20, σ21 => if 24 ≤ v19 then (K v19 v20 σ21) else (bnd (f_X4_cellAcross v19 x13 σ21) fun q23 => if q23 = (-1) then (lt (v19 + 1) fun x25 => f_X8_measureFrom_l38 K x13 v8 a0 n x25 v20 σ21) else (bnd (f_X4_isOpen v19 σ21) fun q26 => if q26 = 0 then (lt (v19 + 1) fun x28 => f_X8_measureFrom_l38 K x13 v8 a0 n x28 v20 σ21) else (gd q23 16 (if (σ21 159 q23.toNatClampNeg) = 1000 then (if 16 ≤ v20 then (lt (v19 + 1) fun x32 => f_X8_measureFrom_l38 K x13 v8 a0 n x32 v20 σ21) else (bnd (f_X8_distanceOf x13 σ21) fun q33 => gd q23 16 (lt (up σ21 159 q23.toNatClampNeg (q33 + 1)) fun σ34 => gd v20 16 (lt (up σ34 160 v20.toNatClampNeg q23) fun σ35 => lt (v20 + 1) fun x36 => lt (v19 + 1) fun x37 => f_X8_measureFrom_l38 K x13 v8 a0 n x37 x36 σ35)))) else (lt (v19 + 1) fun x30 => f_X8_measureFrom_l38 K x13 v8 a0 n x30 v20 σ21)))))
def f_X8_measureFrom_l16 (a0 : Int32) : Nat → Int32 → Int32 → Mm → Option (Mm)
  | 0, _, _, _ => none
  | n + 1, v8, v9, σ10 => if v9 ≤ v8 then (some σ10) else (if 16 ≤ v8 then (some σ10) else (gd v8 16 (lt (σ10 160 v8.toNatClampNeg) fun x13 => lt (fun v14 v15 σ16 => lt (v8 + 1) fun x18 => f_X8_measureFrom_l16  a0 n x18 v15 σ16) fun K => f_X8_measureFrom_l38 K x13 v8 a0 30 0 v9 σ10)))
def f_X8_measureFrom (a0 : Int32) (σ : Mm) : Option (Mm) := bnd (f_X8_startFrom a0 σ) fun σ2 => lt (up σ2 160 0 a0) fun σ3 => f_X8_measureFrom_l16  a0 30 0 1 σ3
def f_X8_hoursByDistance (a0 : Int32) (a1 : Int32) (σ : Mm) : Option (Int32 × Mm) := bnd (f_X8_measureFrom a0 σ) fun σ2 => bnd (f_X8_distanceOf a1 σ2) fun q3 => some (q3, σ2)
def f_X8_lower (a0 : Int32) (a1 : Int32) (a2 : Int32) (σ : Mm) : Option (Int32 × Mm) := gd a1 16 (lt ((σ 159 a1.toNatClampNeg) + a2) fun x1 => gd a0 16 (if x1 < (σ 159 a0.toNatClampNeg) then (gd a0 16 (lt (up σ 159 a0.toNatClampNeg x1) fun σ3 => some (1, σ3))) else (some (0, σ))))
def f_X8_relaxFrom_l29 (K : Int32 → Int32 → Mm → Option (Mm)) (v7 : Int32) (a0 : Int32) (a1 : Int32) (a2 : Int32) : Nat → Int32 → Int32 → Mm → Option (Mm)
  | 0, _, _, _ => none
  | n + 1, v17, v18, σ19 => if 24 ≤ v17 then (K v17 v18 σ19) else (bnd (f_X4_isOpen v17 σ19) fun q21 => if q21 = 0 then (gd v17 24 (gd v17 24 (bnm (f_X8_lower (uppC v17.toNatClampNeg) (lowC v17.toNatClampNeg) a2 σ19) fun q23 σ24 => gd v17 24 (gd v17 24 (bnm (f_X8_lower (lowC v17.toNatClampNeg) (uppC v17.toNatClampNeg) a2 σ24) fun q25 σ26 => if v18 = 0 then (if q23 = 0 then (if q25 = 0 then (lt (v17 + 1) fun x32 => f_X8_relaxFrom_l29 K v7 a0 a1 a2 n x32 0 σ26) else (lt (v17 + 1) fun x33 => f_X8_relaxFrom_l29 K v7 a0 a1 a2 n x33 1 σ26)) else (lt (v17 + 1) fun x30 => f_X8_relaxFrom_l29 K v7 a0 a1 a2 n x30 1 σ26)) else (lt (v17 + 1) fun x28 => f_X8_relaxFrom_l29 K v7 a0 a1 a2 n x28 1 σ26)))))) else (gd v17 24 (gd v17 24 (bnm (f_X8_lower (uppC v17.toNatClampNeg) (lowC v17.toNatClampNeg) a1 σ19) fun q34 σ35 => gd v17 24 (gd v17 24 (bnm (f_X8_lower (lowC v17.toNatClampNeg) (uppC v17.toNatClampNeg) a1 σ35) fun q36 σ37 => if v18 = 0 then (if q34 = 0 then (if q36 = 0 then (lt (v17 + 1) fun x43 => f_X8_relaxFrom_l29 K v7 a0 a1 a2 n x43 0 σ37) else (lt (v17 + 1) fun x44 => f_X8_relaxFrom_l29 K v7 a0 a1 a2 n x44 1 σ37)) else (lt (v17 + 1) fun x41 => f_X8_relaxFrom_l29 K v7 a0 a1 a2 n x41 1 σ37)) else (lt (v17 + 1) fun x39 => f_X8_relaxFrom_l29 K v7 a0 a1 a2 n x39 1 σ37)))))))
def f_X8_relaxFrom_l11 (a0 : Int32) (a1 : Int32) (a2 : Int32) : Nat → Int32 → Int32 → Mm → Option (Mm)
  | 0, _, _, _ => none
  | n + 1, v7, v8, σ9 => if 16 ≤ v7 then (some σ9) else (if v8 = 0 then (some σ9) else (lt (fun v12 v13 σ14 => lt (v7 + 1) fun x16 => f_X8_relaxFrom_l11  a0 a1 a2 n x16 v13 σ14) fun K => f_X8_relaxFrom_l29 K v7 a0 a1 a2 30 0 0 σ9))
def f_X8_relaxFrom (a0 : Int32) (a1 : Int32) (a2 : Int32) (σ : Mm) : Option (Mm) := bnd (f_X8_startFrom a0 σ) fun σ2 => f_X8_relaxFrom_l11  a0 a1 a2 30 0 1 σ2
def f_X8_hoursByNeighbours (a0 : Int32) (a1 : Int32) (σ : Mm) : Option (Int32 × Mm) := bnd (f_X8_relaxFrom a0 1 1000 σ) fun σ2 => bnd (f_X8_distanceOf a1 σ2) fun q3 => some (q3, σ2)
def f_X8_trimsByNeighbours (a0 : Int32) (σ : Mm) : Option (Int32 × Mm) := bnd (f_X8_relaxFrom a0 0 1 σ) fun σ2 => bnd (f_X8_distanceOf 15 σ2) fun q3 => some (q3, σ2)
def f_X8_stepToExit_l26 (q3 : Int32) (a0 : Int32) (σ2 : Mm) : Nat → Int32 → Int32 → Option (Int32 × Mm)
  | 0, _, _ => none
  | n + 1, v8, v9 => if 24 ≤ v8 then (some (v9, σ2)) else (bnd (f_X4_cellAcross v8 a0 σ2) fun q11 => if q11 = (-1) then (lt (v8 + 1) fun x13 => f_X8_stepToExit_l26  q3 a0 σ2 n x13 v9) else (bnd (f_X4_isOpen v8 σ2) fun q14 => if q14 = 0 then (lt (v8 + 1) fun x16 => f_X8_stepToExit_l26  q3 a0 σ2 n x16 v9) else (bnd (f_X8_distanceOf q11 σ2) fun q17 => if q17 = (q3 - 1) then (if v9 = (-1) then (lt (v8 + 1) fun x21 => f_X8_stepToExit_l26  q3 a0 σ2 n x21 q11) else (if v9 ≤ q11 then (lt (v8 + 1) fun x23 => f_X8_stepToExit_l26  q3 a0 σ2 n x23 v9) else (lt (v8 + 1) fun x24 => f_X8_stepToExit_l26  q3 a0 σ2 n x24 q11))) else (lt (v8 + 1) fun x19 => f_X8_stepToExit_l26  q3 a0 σ2 n x19 v9))))
def f_X8_stepToExit (a0 : Int32) (σ : Mm) : Option (Int32 × Mm) := bnd (f_X8_measureFrom 15 σ) fun σ2 => bnd (f_X8_distanceOf a0 σ2) fun q3 => if q3 = 1000 then (some ((-1), σ2)) else (f_X8_stepToExit_l26  q3 a0 σ2 30 0 (-1))
def f_X8_joinedBy (a0 : Int32) (a1 : Int32) (σ : Mm) : Option (Int32) := gd a0 24 (gd a0 24 (lt ((1 <<< ((lowC a0.toNatClampNeg) &&& 31)) ||| (1 <<< ((uppC a0.toNatClampNeg) &&& 31))) fun x1 => if (a1 &&& x1) = 0 then (some 0) else (some x1)))
def f_X8_widened_l4 (a0 : Int32) (σ : Mm) : Nat → Int32 → Int32 → Option (Int32)
  | 0, _, _ => none
  | n + 1, v4, v5 => if 24 ≤ v4 then (some v5) else (bnd (f_X8_joinedBy v4 a0 σ) fun q7 => lt (v5 ||| q7) fun x8 => lt (v4 + 1) fun x9 => f_X8_widened_l4  a0 σ n x9 x8)
def f_X8_widened (a0 : Int32) (σ : Mm) : Option (Int32) := f_X8_widened_l4  a0 σ 30 0 a0
def f_X8_holdsExit (a0 : Int32) (σ : Mm) : Option (Int32) := if (a0 &&& 32768) = 0 then (some 0) else (some 1)
def f_X8_flood_l30 (K : Int32 → Int32 → Option (Int32)) (v7 : Int32) (v5 : Int32) (a0 : Int32) (a1 : Int32) (a2 : Int32) (σ : Mm) : Nat → Int32 → Int32 → Option (Int32)
  | 0, _, _ => none
  | n + 1, v14, v15 => if 24 ≤ v14 then (K v14 v15) else (if v14 = a2 then (lt (v14 + 1) fun x18 => f_X8_flood_l30 K v7 v5 a0 a1 a2 σ n x18 v15) else (bnd (f_X4_leavesOf v14 σ) fun q19 => if a1 ≤ q19 then (lt (v14 + 1) fun x21 => f_X8_flood_l30 K v7 v5 a0 a1 a2 σ n x21 v15) else (bnd (f_X8_joinedBy v14 v15 σ) fun q22 => lt (v15 ||| q22) fun x23 => lt (v14 + 1) fun x24 => f_X8_flood_l30 K v7 v5 a0 a1 a2 σ n x24 x23)))
def f_X8_flood_l9 (a0 : Int32) (a1 : Int32) (a2 : Int32) (σ : Mm) : Nat → Int32 → Int32 → Int32 → Option (Int32)
  | 0, _, _, _ => none
  | n + 1, v5, v6, v7 => if 16 ≤ v5 then (some v7) else (if v7 = v6 then (some v7) else (lt (fun v10 v11 => lt (v5 + 1) fun x13 => f_X8_flood_l9  a0 a1 a2 σ n x13 v7 v11) fun K => f_X8_flood_l30 K v7 v5 a0 a1 a2 σ 30 0 v7))
def f_X8_flood (a0 : Int32) (a1 : Int32) (a2 : Int32) (σ : Mm) : Option (Int32) := f_X8_flood_l9  a0 a1 a2 σ 30 0 0 a0
def f_X8_cellsReached (a0 : Int32) (σ : Mm) : Option (Int32) := bnd (f_X8_flood (1 <<< (a0 &&& 31)) 5 (-1) σ) fun q1 => some q1
def f_X8_leadsThrough (a0 : Int32) (a1 : Int32) (σ : Mm) : Option (Int32) := bnd (f_X8_flood 1 a0 a1 σ) fun q1 => bnd (f_X8_holdsExit q1 σ) fun q2 => bz q2 (some q2)
def f_X8_trimsByNumber_l8 (a0 : Int32) (σ : Mm) : Nat → Int32 → Int32 → Option (Int32)
  | 0, _, _ => none
  | n + 1, v5, v6 => if 24 ≤ v5 then (some v5) else (bnd (f_X8_holdsExit v6 σ) fun q8 => if q8 = 0 then (bnd (f_X8_widened v6 σ) fun q10 => bnd (f_X8_flood q10 5 (-1) σ) fun q11 => lt (v5 + 1) fun x12 => f_X8_trimsByNumber_l8  a0 σ n x12 q11) else (some v5))
def f_X8_trimsByNumber (a0 : Int32) (σ : Mm) : Option (Int32) := bnd (f_X8_cellsReached a0 σ) fun q1 => f_X8_trimsByNumber_l8  a0 σ 30 0 q1
def f_X3_hedgeOrRefusal (a0 : Int32) (a1 : Int32) (σ : Mm) : Option (Int32 × Mm) := bnd (f_X4_isCell a0 σ) fun q1 => if q1 = 0 then (bnm (f_X5_because 1 0 σ) fun q3 σ4 => some ((-1), σ4)) else (bnd (f_X4_isCell a1 σ) fun q5 => if q5 = 0 then (bnm (f_X5_because 1 0 σ) fun q11 σ12 => some ((-1), σ12)) else (bnd (f_X4_hedgeBetween a0 a1 σ) fun q7 => if q7 = (-1) then (bnm (f_X5_because 2 (if a0 < a1 then a1 else a0) σ) fun q9 σ10 => some (q7, σ10)) else (some (q7, σ))))
def f_X3_tellLeaves (a0 : Int32) (a1 : Int32) (a2 : Int32) (σ : Mm) : Option (Int32 × Mm) := if a2 < 0 then (bnm (f_X5_because 1 0 σ) fun q2 σ3 => some (q2, σ3)) else (if a2 ≤ 9 then (bnm (f_X3_hedgeOrRefusal a0 a1 σ) fun q5 σ6 => if q5 = (-1) then (some ((-1), σ6)) else (bnd (f_X4_leavesOf q5 σ6) fun q8 => if q8 = a2 then (bnm (f_X5_because 3 a2 σ6) fun q12 σ13 => some (q12, σ13)) else (bnd (f_X4_putLeaves q5 a2 σ6) fun σ11 => some (q8, σ11)))) else (bnm (f_X5_because 1 0 σ) fun q14 σ15 => some (q14, σ15)))
def f_X3_passSummer (σ : Mm) : Option (Int32 × Mm) := bnd (f_X4_gaps σ) fun q1 => bnd (f_X4_grow σ) fun σ3 => lt (up σ3 0 6 ((σ3 0 6) + 1)) fun σ4 => bnd (f_X4_gaps σ4) fun q5 => some ((q1 - q5), σ4)
def f_X3_trimHedge (a0 : Int32) (a1 : Int32) (a2 : Int32) (σ : Mm) : Option (Int32 × Mm) := bnd (f_X6_findGardener a0 σ) fun q1 => oc q1 (bnm (f_X5_because 4 (σ 0 3) σ) fun q3 σ4 => some (q3, σ4)) fun j2 => bnm (f_X3_hedgeOrRefusal a1 a2 σ) fun q5 σ6 => if q5 = (-1) then (some ((-1), σ6)) else (bnd (f_X4_leavesOf q5 σ6) fun q8 => if q8 = 0 then (bnm (f_X5_because 3 0 σ6) fun q18 σ19 => some (q18, σ19)) else (if 2 ≤ (σ6 j2 0) then (bnd (f_X4_putLeaves q5 0 σ6) fun σ12 => lt (up σ12 j2 0 ((σ12 j2 0) - 2)) fun σ13 => lt (up σ13 j2 3 ((σ13 j2 3) + 1)) fun σ14 => lt (up σ14 0 8 ((σ14 0 8) + 2)) fun σ15 => some ((σ15 j2 0), σ15)) else (bnm (f_X5_because 5 (2 - (σ6 j2 0)) σ6) fun q16 σ17 => some (q16, σ17))))
def f_X3_meetIfThere (o0 : Nat) (σ : Mm) : Option (Mm) := bnd (f_X7_isIn o0 (σ 0 5) σ) fun q1 => if q1 = 0 then (some σ) else (bnd (f_X7_meetMinotaur o0 σ) fun σ4 => some σ4)
def f_X3_placeMinotaur_l53 (a0 : Int32) : Nat → Int32 → Mm → Option (Int32 × Mm)
  | 0, _, _ => none
  | n + 1, v7, σ8 => if (σ8 0 4) ≤ v7 then (bnd (f_X6_visitorsIn a0 σ8) fun q10 => some (q10, σ8)) else (gd v7 5 (bnd (f_X3_meetIfThere (8 + 1 + v7.toNatClampNeg) σ8) fun σ13 => lt (v7 + 1) fun x14 => f_X3_placeMinotaur_l53  a0 n x14 σ13))
def f_X3_placeMinotaur_l53b (a0 : Int32) : Nat → Int32 → Mm → Option (Int32 × Mm)
  | 0, _, _ => none
  | n + 1, v24, σ25 => if (σ25 0 4) ≤ v24 then (bnd (f_X6_visitorsIn a0 σ25) fun q27 => some (q27, σ25)) else (gd v24 5 (bnd (f_X3_meetIfThere (8 + 1 + v24.toNatClampNeg) σ25) fun σ30 => lt (v24 + 1) fun x31 => f_X3_placeMinotaur_l53b  a0 n x31 σ30))
def f_X3_placeMinotaur (a0 : Int32) (σ : Mm) : Option (Int32 × Mm) := if a0 = (-1) then (if a0 = (σ 0 5) then (bnm (f_X5_because 3 a0 σ) fun q15 σ16 => some (q15, σ16)) else (lt (up σ 0 5 a0) fun σ3 => f_X3_placeMinotaur_l53  a0 8 0 σ3)) else (bnd (f_X4_isCell a0 σ) fun q17 => if q17 = 0 then (bnm (f_X5_because 1 0 σ) fun q34 σ35 => some (q34, σ35)) else (if a0 = (σ 0 5) then (bnm (f_X5_because 3 a0 σ) fun q32 σ33 => some (q32, σ33)) else (lt (up σ 0 5 a0) fun σ20 => f_X3_placeMinotaur_l53b  a0 8 0 σ20)))
def f_X3_admitGardener (a0 : Int32) (σ : Mm) : Option (Int32 × Mm) := if a0 < 0 then (bnm (f_X5_because 1 0 σ) fun q2 σ3 => some (q2, σ3)) else (if a0 ≤ 99 then (lt (σ 0 3) fun x5 => if x5 < 4 then (gd x5 4 (bnd (f_X1_arrive (3 + 1 + x5.toNatClampNeg) a0 σ) fun σ9 => lt (up σ9 0 3 ((σ9 0 3) + 1)) fun σ10 => lt (up σ10 0 7 ((σ10 0 7) + a0)) fun σ11 => some (x5, σ11))) else (bnm (f_X5_because 13 4 σ) fun q12 σ13 => some (q12, σ13))) else (bnm (f_X5_because 1 0 σ) fun q14 σ15 => some (q14, σ15)))
def f_J6_bitCount_0f7a4 (a0 : Int32) (σ : Mm) : Option (Int32) := lt (a0 - ((ush a0 1) &&& 1431655765)) fun x1 => lt ((x1 &&& 858993459) + ((ush x1 2) &&& 858993459)) fun x2 => lt ((x2 + (ush x2 4)) &&& 252645135) fun x3 => lt (x3 + (ush x3 8)) fun x4 => lt (x4 + (ush x4 16)) fun x5 => some (x5 &&& 63)
def f_X3_admitVisitor (a0 : Int32) (σ : Mm) : Option (Int32 × Mm) := if a0 < 0 then (bnm (f_X5_because 1 0 σ) fun q2 σ3 => some (q2, σ3)) else (if a0 ≤ 99 then (lt (σ 0 4) fun x5 => if x5 < 5 then (bnm (f_X8_hoursByDistance 0 15 σ) fun q7 σ8 => if q7 < 1000 then (gd x5 5 (bnd (f_X7_arrive (8 + 1 + x5.toNatClampNeg) a0 q7 σ8) fun σ12 => lt (up σ12 0 4 ((σ12 0 4) + 1)) fun σ13 => lt (up σ13 0 7 ((σ13 0 7) + a0)) fun σ14 => some (x5, σ14))) else (bnd (f_X8_cellsReached 0 σ8) fun q15 => bnd (f_J6_bitCount_0f7a4 q15 σ8) fun q16 => bnm (f_X5_because 6 q16 σ8) fun q17 σ18 => some (q17, σ18))) else (bnm (f_X5_because 13 5 σ) fun q19 σ20 => some (q19, σ20))) else (bnm (f_X5_because 1 0 σ) fun q21 σ22 => some (q21, σ22)))
def f_X3_giveBond (a0 : Int32) (a1 : Int32) (a2 : Int32) (σ : Mm) : Option (Int32 × Mm) := bnd (f_X6_findGardener a0 σ) fun q1 => oc q1 (bnm (f_X5_because 4 (σ 0 3) σ) fun q3 σ4 => some (q3, σ4)) fun j2 => bnd (f_X6_findVisitor a1 σ) fun q5 => oc q5 (bnm (f_X5_because 7 (σ 0 4) σ) fun q7 σ8 => some (q7, σ8)) fun j6 => if a2 < 1 then (bnm (f_X5_because 1 0 σ) fun q10 σ11 => some (q10, σ11)) else (if a2 ≤ 5 then (if (σ j6 7) = 0 then (bnd (f_X7_hasBond j6 σ) fun q14 => if q14 = 0 then (bnd (f_X7_isIn j6 (σ 0 5) σ) fun q16 => if q16 = 0 then (lt (2 * a2) fun x18 => if x18 ≤ (σ j6 0) then (lt (up σ j6 0 ((σ j6 0) - x18)) fun σ20 => bnd (f_X7_takeBond j6 a0 a2 σ20) fun σ22 => lt (up σ22 j2 0 ((σ22 j2 0) + x18)) fun σ23 => lt (up σ23 j2 1 ((σ23 j2 1) + x18)) fun σ24 => some ((σ24 j6 0), σ24)) else (bnm (f_X5_because 5 (x18 - (σ j6 0)) σ) fun q25 σ26 => some (q25, σ26))) else (bnm (f_X5_because 10 (σ 0 5) σ) fun q27 σ28 => some (q27, σ28))) else (bnm (f_X5_because 8 (σ j6 4) σ) fun q29 σ30 => some (q29, σ30))) else (bnm (f_X5_because 9 (σ j6 2) σ) fun q31 σ32 => some (q31, σ32))) else (bnm (f_X5_because 1 0 σ) fun q33 σ34 => some (q33, σ34)))
def f_X3_leaveMaze (o0 : Nat) (σ : Mm) : Option (Mm) := bnd (f_X6_findGardener (σ o0 4) σ) fun q1 => oc q1 (bnd (f_X7_endBond o0 σ) fun σ4 => lt (up σ4 o0 7 1) fun σ5 => some σ5) fun j2 => bnd (f_X7_dueAfter o0 0 σ) fun q6 => lt (if (σ j2 0) < q6 then (σ j2 0) else q6) fun x7 => lt (up σ j2 0 ((σ j2 0) - x7)) fun σ8 => lt (up σ8 j2 2 ((σ8 j2 2) + x7)) fun σ9 => lt (up σ9 o0 0 ((σ9 o0 0) + x7)) fun σ10 => bnd (f_X7_endBond o0 σ10) fun σ12 => lt (up σ12 o0 7 1) fun σ13 => some σ13
def f_X3_moveVisitor (a0 : Int32) (a1 : Int32) (σ : Mm) : Option (Int32 × Mm) := bnd (f_X6_findVisitor a0 σ) fun q1 => oc q1 (bnm (f_X5_because 7 (σ 0 4) σ) fun q3 σ4 => some (q3, σ4)) fun j2 => if a1 < 0 then (bnm (f_X5_because 1 0 σ) fun q6 σ7 => some (q6, σ7)) else (if a1 ≤ 3 then (if (σ j2 7) = 0 then (bnd (f_X4_cellTowards (σ j2 1) a1 σ) fun q10 => if q10 = (-1) then (bnm (f_X5_because 11 (σ j2 1) σ) fun q25 σ26 => some (q25, σ26)) else (bnd (f_X4_hedgeBetween (σ j2 1) q10 σ) fun q12 => bnd (f_X4_isOpen q12 σ) fun q13 => if q13 = 0 then (bnd (f_X4_leavesOf q12 σ) fun q22 => bnm (f_X5_because 12 q22 σ) fun q23 σ24 => some (q23, σ24)) else (lt (up σ j2 1 q10) fun σ15 => lt (up σ15 j2 2 ((σ15 j2 2) + 1)) fun σ16 => bnd (f_X3_meetIfThere j2 σ16) fun σ18 => if q10 = 15 then (bnd (f_X3_leaveMaze j2 σ18) fun σ21 => some (q10, σ21)) else (some (q10, σ18))))) else (bnm (f_X5_because 9 (σ j2 2) σ) fun q27 σ28 => some (q27, σ28))) else (bnm (f_X5_because 1 0 σ) fun q29 σ30 => some (q29, σ30)))
def f_X3_restVisitor (a0 : Int32) (a1 : Int32) (σ : Mm) : Option (Int32 × Mm) := bnd (f_X6_findVisitor a0 σ) fun q1 => oc q1 (bnm (f_X5_because 7 (σ 0 4) σ) fun q3 σ4 => some (q3, σ4)) fun j2 => if a1 < 1 then (bnm (f_X5_because 1 0 σ) fun q6 σ7 => some (q6, σ7)) else (if a1 ≤ 9 then (if (σ j2 7) = 0 then (lt (up σ j2 2 ((σ j2 2) + a1)) fun σ10 => some ((σ10 j2 2), σ10)) else (bnm (f_X5_because 9 (σ j2 2) σ) fun q11 σ12 => some (q11, σ12))) else (bnm (f_X5_because 1 0 σ) fun q13 σ14 => some (q13, σ14)))
def f_J0_coder_7d493 (i : Nat) (σ : Mm) : Option (Int32) := some 0
def f_J0_length_8abf5 (i : Nat) (σ : Mm) : Option (Int32) := bnd (f_J0_coder_7d493 i σ) fun q1 => some ((Int32.ofNat (txN i)) >>> (q1 &&& 31))
def f_J0_isLatin1_aae02 (i : Nat) (σ : Mm) : Option (Int32) := some 1
def f_J3_checkIndex_8e157 (a0 : Int32) (a1 : Int32) (σ : Mm) : Option (Int32) := if a0 < 0 then (none) else (if a0 < a1 then (some a0) else (none))
def f_J0_checkIndex_df160 (a0 : Int32) (a1 : Int32) (σ : Mm) : Option (Unit) := bnd (f_J3_checkIndex_8e157 a0 a1 σ) fun q1 => some ()
def f_J1_charAt_3b067 (o0 : Nat) (a1 : Int32) (σ : Mm) : Option (Int32) := bnd (f_J0_checkIndex_df160 a1 (Int32.ofNat (txN o0)) σ) fun q1 => gd a1 (txN o0) (cz ((((txC o0 a1.toNatClampNeg) &&& 255).toUInt32 % 65536).toInt32) (some ((((txC o0 a1.toNatClampNeg) &&& 255).toUInt32 % 65536).toInt32)))
def f_J0_charAt_5068e (i : Nat) (a0 : Int32) (σ : Mm) : Option (Int32) := bnd (f_J0_isLatin1_aae02 i σ) fun q1 => if q1 = 0 then (none) else (bnd (f_J1_charAt_3b067 i a0 σ) fun q3 => cz q3 (some q3))
def f_J5_isLatin1_aae02 (σ : Mm) : Option (Int32) := if (σ 196 1) = 0 then (some 1) else (some 0)
def f_J5_length_8abf5 (σ : Mm) : Option (Int32) := some (σ 196 3)
def f_J5_ensureCapacityInternal_d00df (a0 : Int32) (σ : Mm) : Option (Unit) := lt (16 >>> ((σ 196 1) &&& 31)) fun x1 => if (a0 - x1) ≤ 0 then (some ()) else (none)
def f_J5_setLength_d00df (a0 : Int32) (σ : Mm) : Option (Mm) := if 0 ≤ a0 then (bnd (f_J5_ensureCapacityInternal_d00df a0 σ) fun q2 => if a0 ≤ (σ 196 3) then (if (σ 196 3) ≤ a0 then (lt (up σ 196 3 a0) fun σ5 => some σ5) else (lt (up σ 196 2 1) fun σ6 => lt (up σ6 196 3 a0) fun σ7 => some σ7)) else (none)) else (none)
def f_J1_canEncode_fc78d (a0 : Int32) (σ : Mm) : Option (Int32) := if 255 < a0 then (some 0) else (some 1)
def f_J5_append_3fe6f (a0 : Int32) (σ : Mm) : Option (Mm) := bnd (f_J5_ensureCapacityInternal_d00df ((σ 196 3) + 1) σ) fun q1 => bnd (f_J5_isLatin1_aae02 σ) fun q2 => if q2 = 0 then (none) else (bnd (f_J1_canEncode_fc78d a0 σ) fun q4 => if q4 = 0 then (none) else (lt (up σ 196 3 ((σ 196 3) + 1)) fun σ6 => gd (σ 196 3) 16 (lt (up σ6 197 (σ 196 3).toNatClampNeg (vp_nar .byte a0.toInt8.toInt32)) fun σ7 => some σ7)))
def f_J6_stringSize_0f7a4_l16 (a0 : Int32) (σ : Mm) : Nat → Int32 → Int32 → Option (Int32)
  | 0, _, _ => none
  | n + 1, v5, v6 => if 10 ≤ v5 then (some (10 + 1)) else (if a0 ≤ v6 then (lt (10 * v6) fun x9 => lt (v5 + 1) fun x10 => f_J6_stringSize_0f7a4_l16  a0 σ n x10 x9) else (some (v5 + 1)))
def f_J6_stringSize_0f7a4_l16b (x11 : Int32) (σ : Mm) : Nat → Int32 → Int32 → Option (Int32)
  | 0, _, _ => none
  | n + 1, v15, v16 => if 10 ≤ v15 then (some (10 + 0)) else (if x11 ≤ v16 then (lt (10 * v16) fun x19 => lt (v15 + 1) fun x20 => f_J6_stringSize_0f7a4_l16b  x11 σ n x20 x19) else (some (v15 + 0)))
def f_J6_stringSize_0f7a4 (a0 : Int32) (σ : Mm) : Option (Int32) := if a0 < 0 then (f_J6_stringSize_0f7a4_l16  a0 σ 12 1 (-10)) else (lt (-a0) fun x11 => f_J6_stringSize_0f7a4_l16b  x11 σ 12 1 (-10))
def f_J6_getChars_ba4f3_l22 (K : Int32 → Int32 → Mm → Option (Int32 × Mm)) (a1 : Int32) : Nat → Int32 → Int32 → Mm → Option (Int32 × Mm)
  | 0, _, _, _ => none
  | n + 1, v12, v13, σ14 => if (-100) < v12 then (K v12 v13 σ14) else (lt (v12 / 100) fun x16 => lt ((x16 * 100) - v12) fun x17 => lt (v13 + (-1)) fun x18 => gd x17 100 (gd x18 16 (lt (up σ14 197 x18.toNatClampNeg (vp_nar .byte (digO x17.toNatClampNeg))) fun σ19 => lt (x18 + (-1)) fun x20 => gd x17 100 (gd x20 16 (lt (up σ19 197 x20.toNatClampNeg (vp_nar .byte (digT x17.toNatClampNeg))) fun σ21 => f_J6_getChars_ba4f3_l22 K a1 n x16 x20 σ21)))))
def f_J6_getChars_ba4f3_l22b (K : Int32 → Int32 → Mm → Option (Int32 × Mm)) (a1 : Int32) : Nat → Int32 → Int32 → Mm → Option (Int32 × Mm)
  | 0, _, _, _ => none
  | n + 1, v35, v36, σ37 => if (-100) < v36 then (K v35 v36 σ37) else (lt (v36 / 100) fun x39 => lt ((x39 * 100) - v36) fun x40 => lt (v35 + (-1)) fun x41 => gd x40 100 (gd x41 16 (lt (up σ37 197 x41.toNatClampNeg (vp_nar .byte (digO x40.toNatClampNeg))) fun σ42 => lt (x41 + (-1)) fun x43 => gd x40 100 (gd x43 16 (lt (up σ42 197 x43.toNatClampNeg (vp_nar .byte (digT x40.toNatClampNeg))) fun σ44 => f_J6_getChars_ba4f3_l22b K a1 n x43 x39 σ44)))))
def f_J6_getChars_ba4f3 (a0 : Int32) (a1 : Int32) (σ : Mm) : Option (Int32 × Mm) := if 0 ≤ a0 then (lt (-a0) fun x2 => lt (fun v3 v4 σ5 => lt (v4 + (-1)) fun x7 => gd (-v3) 100 (gd x7 16 (lt (up σ5 197 x7.toNatClampNeg (vp_nar .byte (digO (-v3).toNatClampNeg))) fun σ8 => if (-9) ≤ v3 then (some (x7, σ8)) else (lt (x7 + (-1)) fun x10 => gd (-v3) 100 (gd x10 16 (lt (up σ8 197 x10.toNatClampNeg (vp_nar .byte (digT (-v3).toNatClampNeg))) fun σ11 => some (x10, σ11))))))) fun K => f_J6_getChars_ba4f3_l22 K a1 8 x2 a1 σ) else (lt (fun v22 v23 σ24 => lt (v22 + (-1)) fun x26 => gd (-v23) 100 (gd x26 16 (lt (up σ24 197 x26.toNatClampNeg (vp_nar .byte (digO (-v23).toNatClampNeg))) fun σ27 => if (-9) ≤ v23 then (lt (x26 + (-1)) fun x29 => gd x29 16 (lt (up σ27 197 x29.toNatClampNeg (vp_nar .byte 45)) fun σ30 => some (x29, σ30))) else (lt (x26 + (-1)) fun x31 => gd (-v23) 100 (gd x31 16 (lt (up σ27 197 x31.toNatClampNeg (vp_nar .byte (digT (-v23).toNatClampNeg))) fun σ32 => lt (x31 + (-1)) fun x33 => gd x33 16 (lt (up σ32 197 x33.toNatClampNeg (vp_nar .byte 45)) fun σ34 => some (x33, σ34)))))))) fun K => f_J6_getChars_ba4f3_l22b K a1 8 a1 a0 σ)
def f_J5_append_c97b9 (a0 : Int32) (σ : Mm) : Option (Mm) := lt (σ 196 3) fun x1 => bnd (f_J6_stringSize_0f7a4 a0 σ) fun q2 => lt (x1 + q2) fun x3 => bnd (f_J5_ensureCapacityInternal_d00df x3 σ) fun q4 => bnd (f_J5_isLatin1_aae02 σ) fun q5 => if q5 = 0 then (none) else (bnm (f_J6_getChars_ba4f3 a0 x3 σ) fun q7 σ8 => lt (up σ8 196 3 x3) fun σ9 => some σ9)
def f_J5_inflateIfNeededFor_a7421 (σ : Mm) : Option (Unit) := bnd (f_J0_coder_7d493 425 σ) fun q1 => if (σ 196 1) = q1 then (some ()) else (none)
def f_J0_getBytes_840e7 (a1 : Int32) (a2 : Int32) (σ : Mm) : Option (Mm) := bnd (f_J0_coder_7d493 425 σ) fun q1 => if q1 = a2 then (cg (a1 <<< (a2 &&& 31)) 3 16 (lt (cpt σ 425 197 (a1 <<< (a2 &&& 31)).toNatClampNeg 3) fun σ3 => some σ3)) else (none)
def f_J5_putStringAt_47b60 (a0 : Int32) (σ : Mm) : Option (Mm) := bnd (f_J5_inflateIfNeededFor_a7421 σ) fun q1 => bnd (f_J0_getBytes_840e7 a0 (σ 196 1) σ) fun σ3 => some σ3
def f_J5_append_cf1ce (σ : Mm) : Option (Mm) := bnd (f_J0_length_8abf5 425 σ) fun q1 => bnd (f_J5_ensureCapacityInternal_d00df ((σ 196 3) + q1) σ) fun q2 => bnd (f_J5_putStringAt_47b60 (σ 196 3) σ) fun σ4 => lt (up σ4 196 3 ((σ4 196 3) + q1)) fun σ5 => some σ5
def f_J5_charAt_5068e (a0 : Int32) (σ : Mm) : Option (Int32) := lt (σ 196 1) fun x1 => lt (if (16 >>> (x1 &&& 31)) < (σ 196 3) then (16 >>> (x1 &&& 31)) else (σ 196 3)) fun x2 => bnd (f_J0_checkIndex_df160 a0 x2 σ) fun q3 => if x1 = 0 then (gd a0 16 (cz ((((σ 197 a0.toNatClampNeg) &&& 255).toUInt32 % 65536).toInt32) (some ((((σ 197 a0.toNatClampNeg) &&& 255).toUInt32 % 65536).toInt32)))) else (none)
def f_J4_append_15ec4 (σ : Mm) : Option (Mm) := bnd (f_J5_append_cf1ce σ) fun σ2 => some σ2
def f_J4_append_bf812 (a0 : Int32) (σ : Mm) : Option (Mm) := bnd (f_J5_append_c97b9 a0 σ) fun σ2 => some σ2
def f_J4_append_cf468 (a0 : Int32) (σ : Mm) : Option (Mm) := bnd (f_J5_append_3fe6f a0 σ) fun σ2 => some σ2
def f_J4_charAt_5068e (a0 : Int32) (σ : Mm) : Option (Int32) := bnd (f_J5_charAt_5068e a0 σ) fun q1 => cz q1 (some q1)
def f_J4_length_8abf5 (σ : Mm) : Option (Int32) := bnd (f_J5_length_8abf5 σ) fun q1 => some q1
def f_J4_setLength_d00df (a0 : Int32) (σ : Mm) : Option (Mm) := bnd (f_J5_setLength_d00df a0 σ) fun σ2 => some σ2
def f_X0_add (a0 : Int32) (σ : Mm) : Option (Mm) := if 60 ≤ (σ 162 3) then (some σ) else (gd (σ 162 3) 60 (lt (up σ 163 (σ 162 3).toNatClampNeg (vp_nar .char a0)) fun σ2 => lt (up σ2 162 3 ((σ2 162 3) + 1)) fun σ3 => some σ3))
def f_X0_kindOf (a0 : Int32) (σ : Mm) : Option (Int32) := if a0 < 0 then (some 32) else (if (σ 162 5) ≤ a0 then (some 32) else (gd a0 30 (cz (σ 164 a0.toNatClampNeg) (some (σ 164 a0.toNatClampNeg)))))
def f_X0_numberOf (a0 : Int32) (a1 : Int32) (σ : Mm) : Option (Int32) := if a0 < 0 then (some (-1)) else (if (σ 162 5) ≤ a0 then (some (-1)) else (if a1 < 0 then (some (-1)) else (if 3 ≤ a1 then (some (-1)) else (gd a0 30 (gd a1 3 (some (σ (166 + a0.toNatClampNeg) a1.toNatClampNeg)))))))
def f_X0_takeSign (a0 : Int32) (σ : Mm) : Option (Int32 × Mm) := if (σ 162 3) ≤ (σ 162 4) then (some (0, σ)) else (gd (σ 162 4) 60 (if (σ 163 (σ 162 4).toNatClampNeg) = a0 then (lt (up σ 162 4 ((σ 162 4) + 1)) fun σ3 => some (1, σ3)) else (some (0, σ))))
def f_X0_isAtDigit (σ : Mm) : Option (Int32) := if (σ 162 3) ≤ (σ 162 4) then (some 0) else (gd (σ 162 4) 60 (if (σ 163 (σ 162 4).toNatClampNeg) < 48 then (some 0) else (gd (σ 162 4) 60 (if 57 < (σ 163 (σ 162 4).toNatClampNeg) then (some 0) else (some 1)))))
def f_X0_keepNumber (a0 : Int32) (σ : Mm) : Option (Int32 × Mm) := if 30 ≤ (σ 162 5) then (some (0, σ)) else (if (σ 162 6) < 3 then (gd (σ 162 5) 30 (gd (σ 162 6) 3 (lt (up σ (166 + (σ 162 5).toNatClampNeg) (σ 162 6).toNatClampNeg a0) fun σ4 => lt (up σ4 162 6 ((σ4 162 6) + 1)) fun σ5 => some (1, σ5)))) else (some (0, σ)))
def f_X0_readNumber_l13 (a0 : Int32) : Nat → Int32 → Int32 → Mm → Option (Int32 × Mm)
  | 0, _, _, _ => none
  | n + 1, v7, v8, σ9 => if a0 ≤ v7 then (bnm (f_X0_keepNumber v8 σ9) fun q11 σ12 => bz q11 (some (q11, σ12))) else (bnd (f_X0_isAtDigit σ9) fun q13 => if q13 = 0 then (bnm (f_X0_keepNumber v8 σ9) fun q15 σ16 => bz q15 (some (q15, σ16))) else (gd (σ9 162 4) 60 (lt (((v8 * 10) + (σ9 163 (σ9 162 4).toNatClampNeg)) - 48) fun x17 => lt (up σ9 162 4 ((σ9 162 4) + 1)) fun σ18 => lt (v7 + 1) fun x19 => f_X0_readNumber_l13  a0 n x19 x17 σ18)))
def f_X0_readNumber (a0 : Int32) (σ : Mm) : Option (Int32 × Mm) := bnd (f_X0_isAtDigit σ) fun q1 => if q1 = 0 then (some (0, σ)) else (f_X0_readNumber_l13  a0 4 0 0 σ)
def f_X0_readDirection (σ : Mm) : Option (Int32 × Mm) := bnm (f_X0_takeSign 110 σ) fun q1 σ2 => if q1 = 0 then (bnm (f_X0_takeSign 101 σ2) fun q4 σ5 => if q4 = 0 then (bnm (f_X0_takeSign 115 σ5) fun q7 σ8 => if q7 = 0 then (bnm (f_X0_takeSign 119 σ8) fun q10 σ11 => if q10 = 0 then (some (0, σ11)) else (bnm (f_X0_keepNumber 3 σ11) fun q13 σ14 => if q13 = 0 then (some (0, σ14)) else (some (1, σ14)))) else (bnm (f_X0_keepNumber 2 σ8) fun q16 σ17 => bz q16 (some (q16, σ17)))) else (bnm (f_X0_keepNumber 1 σ5) fun q18 σ19 => bz q18 (some (q18, σ19)))) else (bnm (f_X0_keepNumber 0 σ2) fun q20 σ21 => bz q20 (some (q20, σ21)))
def f_X0_readPart (a0 : Int32) (σ : Mm) : Option (Int32 × Mm) := if a0 = 68 then (bnm (f_X0_readNumber 1 σ) fun q2 σ3 => bz q2 (some (q2, σ3))) else (if a0 = 78 then (bnm (f_X0_readNumber 2 σ) fun q5 σ6 => bz q5 (some (q5, σ6))) else (if a0 = 87 then (bnm (f_X0_readDirection σ) fun q8 σ9 => bz q8 (some (q8, σ9))) else (if a0 = 88 then (bnm (f_X0_takeSign 120 σ) fun q11 σ12 => if q11 = 0 then (bnm (f_X0_readNumber 2 σ12) fun q14 σ15 => bz q14 (some (q14, σ15))) else (bnm (f_X0_keepNumber (-1) σ12) fun q16 σ17 => bz q16 (some (q16, σ17)))) else (bnm (f_X0_takeSign a0 σ) fun q18 σ19 => bz q18 (some (q18, σ19))))))
def f_X0_formOf (a0 : Int32) (σ : Mm) : Option (Option Nat) := if a0 = 98 then (some (some 418)) else (if a0 = 103 then (some (some 417)) else (if a0 = 104 then (some (some 413)) else (if a0 = 109 then (some (some 416)) else (if a0 = 114 then (some (some 420)) else (if a0 = 115 then (some (some 414)) else (if a0 = 116 then (some (some 415)) else (if a0 = 118 then (some (some 417)) else (if a0 = 119 then (some (some 419)) else (some none)))))))))

theorem kf_form {a : Int32} {σ : Mm} {j : Nat} (h : f_X0_formOf a σ = some (some j)) : isT j := by
  unfold f_X0_formOf at h
  repeat' split at h
  all_goals (cases h <;> exact isT_d (by decide))

def f_X0_readCommand_l70 (j5 : Nat) (x3 : Int32) : Nat → Int32 → Mm → Option (Int32 × Mm)
  | 0, _, _ => none
  | n + 1, v12, σ13 => bnd (f_J0_length_8abf5 j5 σ13) fun q14 => if q14 ≤ v12 then (lt (up σ13 162 5 ((σ13 162 5) + 1)) fun σ16 => some (1, σ16)) else (bnd (f_J0_charAt_5068e j5 v12 σ13) fun q17 => bnm (f_X0_readPart q17 σ13) fun q18 σ19 => if q18 = 0 then (some (0, σ19)) else (lt (v12 + 1) fun x21 => f_X0_readCommand_l70  j5 x3 n x21 σ19))
def f_X0_readCommand (σ : Mm) : Option (Int32 × Mm) := if (σ 162 3) ≤ (σ 162 4) then (some (0, σ)) else (if (σ 162 5) < 30 then (gd (σ 162 4) 60 (lt (σ 163 (σ 162 4).toNatClampNeg) fun x3 => bnd (f_X0_formOf x3 σ) fun q4 => oc q4 (some (0, σ)) fun j5 => gd (σ 162 5) 30 (lt (up σ 164 (σ 162 5).toNatClampNeg (vp_nar .char x3)) fun σ6 => lt (up σ6 162 6 0) fun σ7 => lt (up σ7 162 4 ((σ7 162 4) + 1)) fun σ8 => f_X0_readCommand_l70  j5 x3 8 0 σ8))) else (some (0, σ)))
def f_X0_takeCommands_l17 (K : Int32 → Int32 → Mm → Option (Int32 × Mm)) : Nat → Int32 → Int32 → Mm → Option (Int32 × Mm)
  | 0, _, _, _ => none
  | n + 1, v14, v15, σ16 => if 60 ≤ v14 then (K v14 v15 σ16) else (if v15 = 0 then (K v14 v15 σ16) else (if (σ16 162 3) ≤ (σ16 162 4) then (K v14 v15 σ16) else (bnm (f_X0_takeSign 59 σ16) fun q20 σ21 => if q20 = 0 then (lt (v14 + 1) fun x23 => f_X0_takeCommands_l17 K  n x23 0 σ21) else (bnm (f_X0_readCommand σ21) fun q24 σ25 => if q24 = 0 then (lt (v14 + 1) fun x27 => f_X0_takeCommands_l17 K  n x27 0 σ25) else (lt (v14 + 1) fun x28 => f_X0_takeCommands_l17 K  n x28 1 σ25)))))
def f_X0_takeCommands (σ : Mm) : Option (Int32 × Mm) := lt (up σ 162 4 0) fun σ1 => lt (up σ1 162 5 0) fun σ2 => bnm (f_X0_readCommand σ2) fun q3 σ4 => lt (fun v5 v6 σ7 => if v6 = 0 then (lt (up σ7 162 7 (σ7 162 4)) fun σ10 => lt (up σ10 162 3 0) fun σ11 => bz v6 (some (v6, σ11))) else (lt (up σ7 162 7 (-1)) fun σ12 => lt (up σ12 162 3 0) fun σ13 => bz v6 (some (v6, σ13)))) fun K => f_X0_takeCommands_l17 K  64 0 q3 σ4
def f_X3_carryOut (a1 : Int32) (σ : Mm) : Option (Int32 × Mm) := bnd (f_X0_numberOf a1 0 σ) fun q1 => bnd (f_X0_numberOf a1 1 σ) fun q2 => bnd (f_X0_numberOf a1 2 σ) fun q3 => bnd (f_X0_kindOf a1 σ) fun q4 => if q4 = 98 then (bnm (f_X3_giveBond q1 q2 q3 σ) fun q6 σ7 => some (q6, σ7)) else (if q4 = 103 then (bnm (f_X3_admitGardener q1 σ) fun q9 σ10 => some (q9, σ10)) else (if q4 = 104 then (bnm (f_X3_tellLeaves q1 q2 q3 σ) fun q12 σ13 => some (q12, σ13)) else (if q4 = 109 then (bnm (f_X3_placeMinotaur q1 σ) fun q15 σ16 => some (q15, σ16)) else (if q4 = 115 then (bnm (f_X3_passSummer σ) fun q18 σ19 => some (q18, σ19)) else (if q4 = 116 then (bnm (f_X3_trimHedge q1 q2 q3 σ) fun q21 σ22 => some (q21, σ22)) else (if q4 = 118 then (bnm (f_X3_admitVisitor q1 σ) fun q24 σ25 => some (q24, σ25)) else (if q4 = 119 then (bnm (f_X3_moveVisitor q1 q2 σ) fun q27 σ28 => some (q27, σ28)) else (bnm (f_X3_restVisitor q1 q2 σ) fun q29 σ30 => some (q29, σ30)))))))))
def f_X9_settled (a0 : Int32) (σ : Mm) : Option ((Int32 ⊕ Nat) × Mm) := if a0 = (-1) then (some (Sum.inr 0, σ)) else (bnd (f_X2_keep σ) fun σ3 => some (Sum.inl a0, σ3))
def f_X9_hedge (a0 : Int32) (a1 : Int32) (a2 : Int32) (σ : Mm) : Option ((Int32 ⊕ Nat) × Mm) := bnd (f_X6_copyFrom 14 0 σ) fun σ2 => bnm (f_X3_tellLeaves a0 a1 a2 σ2) fun q3 σ4 => xb (f_X9_settled q3 σ4) fun q5 σ6 => some (Sum.inl q5, σ6)
def f_X9_summer (σ : Mm) : Option ((Int32 ⊕ Nat) × Mm) := bnd (f_X6_copyFrom 14 0 σ) fun σ2 => bnm (f_X3_passSummer σ2) fun q3 σ4 => xb (f_X9_settled q3 σ4) fun q5 σ6 => some (Sum.inl q5, σ6)
def f_X9_trim (a0 : Int32) (a1 : Int32) (a2 : Int32) (σ : Mm) : Option ((Int32 ⊕ Nat) × Mm) := bnd (f_X6_copyFrom 14 0 σ) fun σ2 => bnm (f_X3_trimHedge a0 a1 a2 σ2) fun q3 σ4 => xb (f_X9_settled q3 σ4) fun q5 σ6 => some (Sum.inl q5, σ6)
def f_X9_minotaur (a0 : Int32) (σ : Mm) : Option ((Int32 ⊕ Nat) × Mm) := bnd (f_X6_copyFrom 14 0 σ) fun σ2 => bnm (f_X3_placeMinotaur a0 σ2) fun q3 σ4 => xb (f_X9_settled q3 σ4) fun q5 σ6 => some (Sum.inl q5, σ6)
def f_X9_gardener (a0 : Int32) (σ : Mm) : Option ((Int32 ⊕ Nat) × Mm) := bnd (f_X6_copyFrom 14 0 σ) fun σ2 => bnm (f_X3_admitGardener a0 σ2) fun q3 σ4 => xb (f_X9_settled q3 σ4) fun q5 σ6 => some (Sum.inl q5, σ6)
def f_X9_visitor (a0 : Int32) (σ : Mm) : Option ((Int32 ⊕ Nat) × Mm) := bnd (f_X6_copyFrom 14 0 σ) fun σ2 => bnm (f_X3_admitVisitor a0 σ2) fun q3 σ4 => xb (f_X9_settled q3 σ4) fun q5 σ6 => some (Sum.inl q5, σ6)
def f_X9_bond (a0 : Int32) (a1 : Int32) (a2 : Int32) (σ : Mm) : Option ((Int32 ⊕ Nat) × Mm) := bnd (f_X6_copyFrom 14 0 σ) fun σ2 => bnm (f_X3_giveBond a0 a1 a2 σ2) fun q3 σ4 => xb (f_X9_settled q3 σ4) fun q5 σ6 => some (Sum.inl q5, σ6)
def f_X9_walk (a0 : Int32) (a1 : Int32) (σ : Mm) : Option ((Int32 ⊕ Nat) × Mm) := bnd (f_X6_copyFrom 14 0 σ) fun σ2 => bnm (f_X3_moveVisitor a0 a1 σ2) fun q3 σ4 => xb (f_X9_settled q3 σ4) fun q5 σ6 => some (Sum.inl q5, σ6)
def f_X9_rest (a0 : Int32) (a1 : Int32) (σ : Mm) : Option ((Int32 ⊕ Nat) × Mm) := bnd (f_X6_copyFrom 14 0 σ) fun σ2 => bnm (f_X3_restVisitor a0 a1 σ2) fun q3 σ4 => xb (f_X9_settled q3 σ4) fun q5 σ6 => some (Sum.inl q5, σ6)
def f_X9_demandCells (a0 : Int32) (a1 : Int32) (σ : Mm) : Option ((Unit ⊕ Nat) × Mm) := bnd (f_X4_isCell a0 σ) fun q1 => if q1 = 0 then (some (Sum.inr 1, σ)) else (bnd (f_X4_isCell a1 σ) fun q3 => if q3 = 0 then (some (Sum.inr 1, σ)) else (some (Sum.inl (), σ)))
def f_X9_hedgeAsked (a0 : Int32) (a1 : Int32) (σ : Mm) : Option ((Int32 ⊕ Nat) × Mm) := xb (f_X9_demandCells a0 a1 σ) fun q1 σ2 => bnd (f_X4_hedgeBetween a0 a1 σ2) fun q3 => if q3 = (-1) then (some (Sum.inr 2, σ2)) else (some (Sum.inl q3, σ2))
def f_X9_demandWay (a0 : Int32) (σ : Mm) : Option ((Int32 ⊕ Nat) × Mm) := if a0 < 1000 then (some (Sum.inl a0, σ)) else (some (Sum.inr 2, σ))
def f_X9_leaves (a0 : Int32) (a1 : Int32) (σ : Mm) : Option ((Int32 ⊕ Nat) × Mm) := xb (f_X9_hedgeAsked a0 a1 σ) fun q1 σ2 => bnd (f_X4_leavesOf q1 σ2) fun q3 => some (Sum.inl q3, σ2)
def f_X9_isGap (a0 : Int32) (a1 : Int32) (σ : Mm) : Option ((Int32 ⊕ Nat) × Mm) := xb (f_X9_demandCells a0 a1 σ) fun q1 σ2 => bnd (f_X4_hedgeBetween a0 a1 σ2) fun q3 => bnd (f_X4_isOpen q3 σ2) fun q4 => bz q4 (some (Sum.inl q4, σ2))
def f_X9_hours (a0 : Int32) (a1 : Int32) (σ : Mm) : Option ((Int32 ⊕ Nat) × Mm) := xb (f_X9_demandCells a0 a1 σ) fun q1 σ2 => bnm (f_X8_hoursByDistance a0 a1 σ2) fun q3 σ4 => xb (f_X9_demandWay q3 σ4) fun q5 σ6 => some (Sum.inl q5, σ6)
def f_X9_hoursAgain (a0 : Int32) (a1 : Int32) (σ : Mm) : Option ((Int32 ⊕ Nat) × Mm) := xb (f_X9_demandCells a0 a1 σ) fun q1 σ2 => bnm (f_X8_hoursByNeighbours a0 a1 σ2) fun q3 σ4 => xb (f_X9_demandWay q3 σ4) fun q5 σ6 => some (Sum.inl q5, σ6)
def f_X9_next (a0 : Int32) (σ : Mm) : Option ((Int32 ⊕ Nat) × Mm) := xb (f_X9_demandCells a0 a0 σ) fun q1 σ2 => bnm (f_X8_stepToExit a0 σ2) fun q3 σ4 => if q3 = (-1) then (some (Sum.inr 2, σ4)) else (some (Sum.inl q3, σ4))
def f_X9_reached (a0 : Int32) (σ : Mm) : Option ((Int32 ⊕ Nat) × Mm) := xb (f_X9_demandCells a0 a0 σ) fun q1 σ2 => bnd (f_X8_cellsReached a0 σ2) fun q3 => some (Sum.inl q3, σ2)
def f_X9_trims (a0 : Int32) (σ : Mm) : Option ((Int32 ⊕ Nat) × Mm) := xb (f_X9_demandCells a0 a0 σ) fun q1 σ2 => bnd (f_X8_trimsByNumber a0 σ2) fun q3 => some (Sum.inl q3, σ2)
def f_X9_trimsAgain (a0 : Int32) (σ : Mm) : Option ((Int32 ⊕ Nat) × Mm) := xb (f_X9_demandCells a0 a0 σ) fun q1 σ2 => bnm (f_X8_trimsByNeighbours a0 σ2) fun q3 σ4 => some (Sum.inl q3, σ4)
def f_X9_isNeeded (a0 : Int32) (a1 : Int32) (σ : Mm) : Option ((Int32 ⊕ Nat) × Mm) := xb (f_X9_hedgeAsked a0 a1 σ) fun q1 σ2 => bnd (f_X8_leadsThrough 5 (-1) σ2) fun q3 => if q3 = 0 then (some (Sum.inl 0, σ2)) else (bnd (f_X8_leadsThrough 5 q1 σ2) fun q5 => if q5 = 0 then (some (Sum.inl 1, σ2)) else (some (Sum.inl 0, σ2)))
def f_X9_closesIn (a0 : Int32) (a1 : Int32) (σ : Mm) : Option ((Int32 ⊕ Nat) × Mm) := xb (f_X9_hedgeAsked a0 a1 σ) fun q1 σ2 => bnd (f_X4_leavesOf q1 σ2) fun q3 => some (Sum.inl (if 0 < (5 - q3) then (5 - q3) else 0), σ2)
def f_X9_summersLeft_l2 (σ : Mm) : Nat → Int32 → Option (Int32)
  | 0, _ => none
  | n + 1, v3 => if 5 ≤ v3 then (some 5) else (bnd (f_X8_leadsThrough (5 - v3) (-1) σ) fun q5 => if q5 = 0 then (some v3) else (lt (v3 + 1) fun x7 => f_X9_summersLeft_l2  σ n x7))
def f_X9_summersLeft (σ : Mm) : Option (Int32) := f_X9_summersLeft_l2  σ 8 0
def f_X9_gardenerAsked (a0 : Int32) (σ : Mm) : Option ((Option Nat ⊕ Nat) × Mm) := bnd (f_X6_findGardener a0 σ) fun q1 => oc q1 (some (Sum.inr 1, σ)) fun j2 => some (Sum.inl (some j2), σ)
def f_X9_visitorAsked (a0 : Int32) (σ : Mm) : Option ((Option Nat ⊕ Nat) × Mm) := bnd (f_X6_findVisitor a0 σ) fun q1 => oc q1 (some (Sum.inr 1, σ)) fun j2 => some (Sum.inl (some j2), σ)

theorem kf_gasked {a : Int32} {σ τ : Mm} {j : Nat} (h : f_X9_gardenerAsked a σ = some (Sum.inl (some j), τ)) : kd j = 4 ∧ j < NN := by
  unfold f_X9_gardenerAsked at h
  obtain ⟨q, h1, h⟩ := bnd_ h
  cases q with
  | none => cases h
  | some k => cases h; exact kf_gard h1
theorem kf_vasked {a : Int32} {σ τ : Mm} {j : Nat} (h : f_X9_visitorAsked a σ = some (Sum.inl (some j), τ)) : kd j = 6 ∧ j < NN := by
  unfold f_X9_visitorAsked at h
  obtain ⟨q, h1, h⟩ := bnd_ h
  cases q with
  | none => cases h
  | some k => cases h; exact kf_vis h1

def f_X9_gardenerOf (a0 : Int32) (a1 : Int32) (σ : Mm) : Option ((Int32 ⊕ Nat) × Mm) := xb (f_X9_gardenerAsked a0 σ) fun q1 σ2 => oc q1 (none) fun j3 => if a1 = 0 then (some (Sum.inl (σ2 j3 0), σ2)) else (if a1 = 1 then (bnd (f_X6_bondsOf a0 σ2) fun q6 => some (Sum.inl q6, σ2)) else (if a1 = 2 then (some (Sum.inl (σ2 j3 1), σ2)) else (if a1 = 3 then (some (Sum.inl (σ2 j3 2), σ2)) else (if a1 = 4 then (some (Sum.inl (σ2 j3 3), σ2)) else (some (Sum.inr 3, σ2))))))
def f_X9_visitorOf (a0 : Int32) (a1 : Int32) (σ : Mm) : Option ((Int32 ⊕ Nat) × Mm) := xb (f_X9_visitorAsked a0 σ) fun q1 σ2 => oc q1 (none) fun j3 => if a1 < 0 then (some (Sum.inr 3, σ2)) else (if a1 ≤ 8 then (bnd (f_X7_numberFor j3 a1 σ2) fun q6 => some (Sum.inl q6, σ2)) else (some (Sum.inr 3, σ2)))
def f_X9_wouldPay (a0 : Int32) (σ : Mm) : Option ((Int32 ⊕ Nat) × Mm) := xb (f_X9_visitorAsked a0 σ) fun q1 σ2 => oc q1 (none) fun j3 => bnd (f_X6_findGardener (σ2 j3 4) σ2) fun q4 => oc q4 (if (σ2 j3 7) = 0 then (some (Sum.inr 2, σ2)) else (some (Sum.inr 2, σ2))) fun j5 => if (σ2 j3 7) = 0 then (bnm (f_X8_hoursByDistance (σ2 j3 1) 15 σ2) fun q8 σ9 => xb (f_X9_demandWay q8 σ9) fun q10 σ11 => bnd (f_X7_dueAfter j3 q10 σ11) fun q12 => some (Sum.inl (if (σ11 j5 0) < q12 then (σ11 j5 0) else q12), σ11)) else (some (Sum.inr 2, σ2))
def f_X9_owed (a0 : Int32) (σ : Mm) : Option ((Int32 ⊕ Nat) × Mm) := xb (f_X9_gardenerAsked a0 σ) fun q1 σ2 => oc q1 (none) fun j3 => bnd (f_X6_debtOf a0 σ2) fun q4 => some (Sum.inl q4, σ2)
def f_X9_visitorPlaced_l2 (a0 : Int32) (a1 : Int32) (σ : Mm) : Nat → Int32 → Option ((Int32 ⊕ Nat) × Mm)
  | 0, _ => none
  | n + 1, v3 => if (σ 0 4) ≤ v3 then (some (Sum.inr 2, σ)) else (bnd (f_X6_visitorsAhead v3 a0 σ) fun q5 => if q5 = a1 then (some (Sum.inl v3, σ)) else (lt (v3 + 1) fun x7 => f_X9_visitorPlaced_l2  a0 a1 σ n x7))
def f_X9_visitorPlaced (a0 : Int32) (a1 : Int32) (σ : Mm) : Option ((Int32 ⊕ Nat) × Mm) := f_X9_visitorPlaced_l2  a0 a1 σ 8 0
def f_X9_ranked (a0 : Int32) (a1 : Int32) (σ : Mm) : Option ((Int32 ⊕ Nat) × Mm) := if a0 = 0 then (xb (f_X9_visitorPlaced 0 a1 σ) fun q2 σ3 => some (Sum.inl q2, σ3)) else (if a0 = 1 then (xb (f_X9_visitorPlaced 2 a1 σ) fun q5 σ6 => some (Sum.inl q5, σ6)) else (if a0 = 2 then (xb (f_X9_visitorPlaced 4 a1 σ) fun q8 σ9 => some (Sum.inl q8, σ9)) else (if a0 = 3 then (xb (f_X9_visitorPlaced 6 a1 σ) fun q11 σ12 => some (Sum.inl q11, σ12)) else (some (Sum.inr 3, σ)))))
def f_X9_richest_l2 (a0 : Int32) (σ : Mm) : Nat → Int32 → Option ((Int32 ⊕ Nat) × Mm)
  | 0, _ => none
  | n + 1, v3 => if (σ 0 3) ≤ v3 then (some (Sum.inr 2, σ)) else (bnd (f_X6_gardenersAhead v3 σ) fun q5 => if q5 = a0 then (some (Sum.inl v3, σ)) else (lt (v3 + 1) fun x7 => f_X9_richest_l2  a0 σ n x7))
def f_X9_richest (a0 : Int32) (σ : Mm) : Option ((Int32 ⊕ Nat) × Mm) := f_X9_richest_l2  a0 σ 8 0
def f_X9_append (a0 : Int32) (σ : Mm) : Option ((Int32 ⊕ Nat) × Mm) := if (σ 162 3) < 60 then (bnd (f_X0_add a0 σ) fun σ3 => some (Sum.inl (σ3 162 3), σ3)) else (some (Sum.inr 4, σ))
def f_X9_commands_l34 : Nat → Int32 → Mm → Option ((Int32 ⊕ Nat) × Mm)
  | 0, _, _ => none
  | n + 1, v9, σ10 => if (σ10 162 5) ≤ v9 then (xb (f_X9_settled (σ10 162 5) σ10) fun q12 σ13 => some (Sum.inl q12, σ13)) else (bnm (f_X3_carryOut v9 σ10) fun q14 σ15 => if q14 = (-1) then (lt (up σ15 157 2 v9) fun σ18 => bnd (f_X6_copyFrom 0 14 σ18) fun σ20 => some (Sum.inr 0, σ20)) else (lt (v9 + 1) fun x17 => f_X9_commands_l34   n x17 σ15))
def f_X9_commands (σ : Mm) : Option ((Int32 ⊕ Nat) × Mm) := bnm (f_X0_takeCommands σ) fun q1 σ2 => if q1 = 0 then (some (Sum.inr 3, σ2)) else (bnd (f_X6_copyFrom 14 0 σ2) fun σ5 => f_X9_commands_l34   40 0 σ5)
def f_X9_faultPosition (σ : Mm) : Option (Int32) := some (σ 162 7)
def f_X9_reason (a0 : Int32) (σ : Mm) : Option ((Int32 ⊕ Nat) × Mm) := if a0 < 0 then (some (Sum.inr 3, σ)) else (if a0 ≤ 2 then (if (σ 157 0) = 0 then (some (Sum.inr 2, σ)) else (if a0 = 0 then (some (Sum.inl (σ 157 0), σ)) else (if a0 = 1 then (some (Sum.inl (σ 157 1), σ)) else (some (Sum.inl (σ 157 2), σ))))) else (some (Sum.inr 3, σ)))
def f_X9_line (a0 : Int32) (σ : Mm) : Option ((Int32 ⊕ Nat) × Mm) := xb (f_X9_visitorAsked a0 σ) fun q1 σ2 => oc q1 (none) fun j3 => bnd (f_J4_setLength_d00df 0 σ2) fun σ5 => if (σ5 j3 7) = 0 then (bnd (f_J4_append_bf812 (σ5 j3 1) σ5) fun σ8 => bnd (f_J4_append_cf468 43 σ8) fun σ10 => bnd (f_J4_append_bf812 (σ10 j3 2) σ10) fun σ12 => bnd (f_X7_hasBond j3 σ12) fun q13 => if q13 = 0 then (bnd (f_J4_length_8abf5 σ12) fun q15 => some (Sum.inl q15, σ12)) else (bnd (f_J4_append_cf468 35 σ12) fun σ17 => bnd (f_J4_append_bf812 (σ17 j3 4) σ17) fun σ19 => bnd (f_J4_append_cf468 42 σ19) fun σ21 => bnd (f_J4_append_bf812 (σ21 j3 5) σ21) fun σ23 => if (σ23 j3 6) = 0 then (bnd (f_J4_length_8abf5 σ23) fun q25 => some (Sum.inl q25, σ23)) else (bnd (f_J4_append_cf468 33 σ23) fun σ27 => bnd (f_J4_length_8abf5 σ27) fun q28 => some (Sum.inl q28, σ27)))) else (bnd (f_J4_append_15ec4 σ5) fun σ30 => bnd (f_J4_append_cf468 43 σ30) fun σ32 => bnd (f_J4_append_bf812 (σ32 j3 2) σ32) fun σ34 => bnd (f_X7_hasBond j3 σ34) fun q35 => if q35 = 0 then (bnd (f_J4_length_8abf5 σ34) fun q37 => some (Sum.inl q37, σ34)) else (bnd (f_J4_append_cf468 35 σ34) fun σ39 => bnd (f_J4_append_bf812 (σ39 j3 4) σ39) fun σ41 => bnd (f_J4_append_cf468 42 σ41) fun σ43 => bnd (f_J4_append_bf812 (σ43 j3 5) σ43) fun σ45 => if (σ45 j3 6) = 0 then (bnd (f_J4_length_8abf5 σ45) fun q47 => some (Sum.inl q47, σ45)) else (bnd (f_J4_append_cf468 33 σ45) fun σ49 => bnd (f_J4_length_8abf5 σ49) fun q50 => some (Sum.inl q50, σ49))))
def f_X9_row_l40 (x5 : Int32) (a0 : Int32) : Nat → Int32 → Mm → Option ((Int32 ⊕ Nat) × Mm)
  | 0, _, _ => none
  | n + 1, v10, σ11 => if x5 < v10 then (bnd (f_J4_length_8abf5 σ11) fun q13 => some (Sum.inl q13, σ11)) else (if v10 = (σ11 0 5) then (bnd (f_J4_append_cf468 77 σ11) fun σ30 => if x5 ≤ v10 then (lt (v10 + 1) fun x32 => f_X9_row_l40  x5 a0 n x32 σ30) else (bnd (f_X4_hedgeBetween v10 (v10 + 1) σ30) fun q33 => bnd (f_X4_isOpen q33 σ30) fun q34 => if q34 = 0 then (bnd (f_J4_append_cf468 124 σ30) fun σ37 => lt (v10 + 1) fun x38 => f_X9_row_l40  x5 a0 n x38 σ37) else (bnd (f_J4_append_cf468 32 σ30) fun σ40 => lt (v10 + 1) fun x41 => f_X9_row_l40  x5 a0 n x41 σ40))) else (bnd (f_X6_visitorsIn v10 σ11) fun q15 => bnd (f_J4_append_bf812 q15 σ11) fun σ17 => if x5 ≤ v10 then (lt (v10 + 1) fun x19 => f_X9_row_l40  x5 a0 n x19 σ17) else (bnd (f_X4_hedgeBetween v10 (v10 + 1) σ17) fun q20 => bnd (f_X4_isOpen q20 σ17) fun q21 => if q21 = 0 then (bnd (f_J4_append_cf468 124 σ17) fun σ24 => lt (v10 + 1) fun x25 => f_X9_row_l40  x5 a0 n x25 σ24) else (bnd (f_J4_append_cf468 32 σ17) fun σ27 => lt (v10 + 1) fun x28 => f_X9_row_l40  x5 a0 n x28 σ27))))
def f_X9_row (a0 : Int32) (σ : Mm) : Option ((Int32 ⊕ Nat) × Mm) := if a0 < 0 then (some (Sum.inr 3, σ)) else (if a0 < 4 then (bnd (f_J4_setLength_d00df 0 σ) fun σ4 => lt (((a0 * 4) + 4) - 1) fun x5 => lt (a0 * 4) fun x6 => f_X9_row_l40  x5 a0 8 x6 σ4) else (some (Sum.inr 3, σ)))
def f_X9_character (a0 : Int32) (σ : Mm) : Option ((Int32 ⊕ Nat) × Mm) := if a0 < 0 then (some (Sum.inr 1, σ)) else (bnd (f_J4_length_8abf5 σ) fun q2 => if a0 < q2 then (bnd (f_J4_charAt_5068e a0 σ) fun q4 => cz q4 (some (Sum.inl q4, σ))) else (some (Sum.inr 1, σ)))
def f_X9_account (a0 : Int32) (σ : Mm) : Option ((Int32 ⊕ Nat) × Mm) := if a0 = 0 then (some (Sum.inl (σ 0 3), σ)) else (if a0 = 1 then (some (Sum.inl (σ 0 4), σ)) else (if a0 = 2 then (bnd (f_X6_totalOf 8 σ) fun q4 => some (Sum.inl q4, σ)) else (if a0 = 3 then (bnd (f_X6_bonds σ) fun q6 => some (Sum.inl q6, σ)) else (if a0 = 4 then (bnd (f_X6_totalOf 7 σ) fun q8 => some (Sum.inl q8, σ)) else (if a0 = 5 then (bnd (f_X4_gaps σ) fun q10 => some (Sum.inl q10, σ)) else (if a0 = 6 then (some (Sum.inl (σ 0 6), σ)) else (if a0 = 7 then (some (Sum.inl (σ 0 7), σ)) else (if a0 = 8 then (some (Sum.inl (σ 0 8), σ)) else (if a0 = 9 then (bnd (f_X6_coinsOfAll σ) fun q15 => some (Sum.inl q15, σ)) else (if a0 = 10 then (some (Sum.inl (σ 155 2), σ)) else (if a0 = 11 then (some (Sum.inl (σ 162 3), σ)) else (some (Sum.inr 3, σ)))))))))))))
def f_X9_undo (σ : Mm) : Option ((Int32 ⊕ Nat) × Mm) := if (σ 155 2) = 0 then (some (Sum.inr 4, σ)) else (bnd (f_X2_takeBack σ) fun σ3 => some (Sum.inl (σ3 155 2), σ3))
def f_X9_save (σ : Mm) : Option (Int32 × Mm) := bnd (f_X6_copyFrom 28 0 σ) fun σ2 => lt (up σ2 154 3 1) fun σ3 => some ((σ3 0 4), σ3)
def f_X9_restore (σ : Mm) : Option ((Int32 ⊕ Nat) × Mm) := if (σ 154 3) = 0 then (some (Sum.inr 4, σ)) else (bnd (f_X6_copyFrom 0 28 σ) fun σ3 => bnd (f_X2_forget σ3) fun σ5 => some (Sum.inl (σ5 0 4), σ5))
def f_X10_thrown (σ : Mm) : Option (Int32) := some (σ 198 12)
def f_X10_throwing (a0 : Int32) (σ : Mm) : Option (Int32 × Mm) := lt (up σ 198 12 a0) fun σ1 => some ((-1), σ1)
def f_X10_in (a0 : Int64) (a1 : Int64) (a2 : Int64) (σ : Mm) : Option (Int32) := if (lg_cmp a0 a1) < 0 then (some 0) else (if 0 < (lg_cmp a0 a2) then (some 0) else (some 1))
def f_X10_refuse (a0 : Int32) (a1 : Int32) (σ : Mm) : Option (Int32 × Mm) := lt (up σ 198 6 a0) fun σ1 => lt (up σ1 198 7 a1) fun σ2 => lt (up σ2 198 8 0) fun σ3 => bnm (f_X10_throwing 1 σ3) fun q4 σ5 => some (q4, σ5)
def f_X10_starts_l7 : Nat → Int32 → Mm → Option (Mm)
  | 0, _, _ => none
  | n + 1, v5, σ6 => if 86 ≤ v5 then (some σ6) else (gd v5 86 (gd v5 86 (lt (up σ6 200 v5.toNatClampNeg (σ6 199 v5.toNatClampNeg)) fun σ8 => lt (v5 + 1) fun x9 => f_X10_starts_l7   n x9 σ8)))
def f_X10_starts (σ : Mm) : Option (Mm) := lt (up σ 198 12 0) fun σ1 => f_X10_starts_l7   90 0 σ1
def f_X10_changed_l60 (a0 : Int32) : Nat → Int32 → Mm → Option (Int32 × Mm)
  | 0, _, _ => none
  | n + 1, v6, σ7 => if 86 ≤ v6 then (lt (up σ7 198 5 ((σ7 198 5) + 1)) fun σ9 => some (a0, σ9)) else (gd v6 86 (gd ((86 * (σ7 198 5)) + v6) 688 (lt (up σ7 202 ((86 * (σ7 198 5)) + v6).toNatClampNeg (σ7 200 v6.toNatClampNeg)) fun σ10 => lt (v6 + 1) fun x11 => f_X10_changed_l60  a0 n x11 σ10)))
def f_X10_changed_l60b (a0 : Int32) : Nat → Int32 → Mm → Option (Int32 × Mm)
  | 0, _, _ => none
  | n + 1, v19, σ20 => if 86 ≤ v19 then (lt (up σ20 198 5 ((σ20 198 5) + 1)) fun σ22 => some (a0, σ22)) else (gd v19 86 (gd ((86 * (σ20 198 5)) + v19) 688 (lt (up σ20 202 ((86 * (σ20 198 5)) + v19).toNatClampNeg (σ20 200 v19.toNatClampNeg)) fun σ23 => lt (v19 + 1) fun x24 => f_X10_changed_l60b  a0 n x24 σ23)))
def f_X10_changed_l20 (K : Int32 → Mm → Option (Int32 × Mm)) (a0 : Int32) : Nat → Int32 → Mm → Option (Int32 × Mm)
  | 0, _, _ => none
  | n + 1, v25, σ26 => if 602 ≤ v25 then (K v25 σ26) else (gd (v25 + 86) 688 (gd v25 688 (lt (up σ26 202 v25.toNatClampNeg (σ26 202 (v25 + 86).toNatClampNeg)) fun σ28 => lt (v25 + 1) fun x29 => f_X10_changed_l20 K a0 n x29 σ28)))
def f_X10_changed (a0 : Int32) (σ : Mm) : Option (Int32 × Mm) := if (σ 198 12) ≤ 0 then (if (σ 198 5) = 8 then (lt (fun v12 σ13 => lt (up σ13 198 5 ((σ13 198 5) - 1)) fun σ15 => f_X10_changed_l60b  a0 700 0 σ15) fun K => f_X10_changed_l20 K a0 700 0 σ) else (f_X10_changed_l60  a0 700 0 σ)) else (some (a0, σ))
def f_X10_isCell (a0 : Int32) (σ : Mm) : Option (Int32) := bnd (f_X10_in a0.toInt64 0 15 σ) fun q1 => bz q1 (some q1)
def f_X10_nextTo (a0 : Int32) (a1 : Int32) (σ : Mm) : Option (Int32) := if a1 = 0 then (lt ((a0 / 4) + (-1)) fun x39 => if a1 = 1 then (lt ((a0 - a0 / 4 * 4) + 1) fun x52 => bnd (f_X10_in x39.toInt64 0 3 σ) fun q53 => if q53 = 0 then (some (-1)) else (bnd (f_X10_in x52.toInt64 0 3 σ) fun q55 => if q55 = 0 then (some (-1)) else (some ((4 * x39) + x52)))) else (if a1 = 3 then (lt ((a0 - a0 / 4 * 4) + (-1)) fun x47 => bnd (f_X10_in x39.toInt64 0 3 σ) fun q48 => if q48 = 0 then (some (-1)) else (bnd (f_X10_in x47.toInt64 0 3 σ) fun q50 => if q50 = 0 then (some (-1)) else (some ((4 * x39) + x47)))) else (lt ((a0 - a0 / 4 * 4) + 0) fun x42 => bnd (f_X10_in x39.toInt64 0 3 σ) fun q43 => if q43 = 0 then (some (-1)) else (bnd (f_X10_in x42.toInt64 0 3 σ) fun q45 => if q45 = 0 then (some (-1)) else (some ((4 * x39) + x42)))))) else (if a1 = 2 then (lt ((a0 / 4) + 1) fun x21 => if a1 = 1 then (lt ((a0 - a0 / 4 * 4) + 1) fun x34 => bnd (f_X10_in x21.toInt64 0 3 σ) fun q35 => if q35 = 0 then (some (-1)) else (bnd (f_X10_in x34.toInt64 0 3 σ) fun q37 => if q37 = 0 then (some (-1)) else (some ((4 * x21) + x34)))) else (if a1 = 3 then (lt ((a0 - a0 / 4 * 4) + (-1)) fun x29 => bnd (f_X10_in x21.toInt64 0 3 σ) fun q30 => if q30 = 0 then (some (-1)) else (bnd (f_X10_in x29.toInt64 0 3 σ) fun q32 => if q32 = 0 then (some (-1)) else (some ((4 * x21) + x29)))) else (lt ((a0 - a0 / 4 * 4) + 0) fun x24 => bnd (f_X10_in x21.toInt64 0 3 σ) fun q25 => if q25 = 0 then (some (-1)) else (bnd (f_X10_in x24.toInt64 0 3 σ) fun q27 => if q27 = 0 then (some (-1)) else (some ((4 * x21) + x24)))))) else (lt ((a0 / 4) + 0) fun x3 => if a1 = 1 then (lt ((a0 - a0 / 4 * 4) + 1) fun x16 => bnd (f_X10_in x3.toInt64 0 3 σ) fun q17 => if q17 = 0 then (some (-1)) else (bnd (f_X10_in x16.toInt64 0 3 σ) fun q19 => if q19 = 0 then (some (-1)) else (some ((4 * x3) + x16)))) else (if a1 = 3 then (lt ((a0 - a0 / 4 * 4) + (-1)) fun x11 => bnd (f_X10_in x3.toInt64 0 3 σ) fun q12 => if q12 = 0 then (some (-1)) else (bnd (f_X10_in x11.toInt64 0 3 σ) fun q14 => if q14 = 0 then (some (-1)) else (some ((4 * x3) + x11)))) else (lt ((a0 - a0 / 4 * 4) + 0) fun x6 => bnd (f_X10_in x3.toInt64 0 3 σ) fun q7 => if q7 = 0 then (some (-1)) else (bnd (f_X10_in x6.toInt64 0 3 σ) fun q9 => if q9 = 0 then (some (-1)) else (some ((4 * x3) + x6)))))))
def f_X10_hedgeAt (a0 : Int32) (a1 : Int32) (σ : Mm) : Option (Int32) := lt (if a1 < a0 then a1 else a0) fun x1 => lt (if a0 < a1 then a1 else a0) fun x2 => if (x2 - x1) = 4 then (some (18 + x1)) else (if (x2 - x1) = 1 then (if 3 ≤ (x1 - x1 / 4 * 4) then (some (-1)) else (some ((6 + (3 * (x1 / 4))) + (x1 - x1 / 4 * 4)))) else (some (-1)))
def f_X10_isGapAt (a0 : Int32) (σ : Mm) : Option (Int32) := if a0 = (-1) then (some 0) else (gd a0 86 (if 5 ≤ (σ 199 a0.toNatClampNeg) then (some 0) else (some 1)))
def f_X10_gardenerAt (a0 : Int32) (σ : Mm) : Option (Int32) := some (30 + (4 * a0))
def f_X10_visitorAt (a0 : Int32) (σ : Mm) : Option (Int32) := some (46 + (8 * a0))
def f_X10_isGardener (a0 : Int32) (σ : Mm) : Option (Int32) := bnd (f_X10_in a0.toInt64 0 (((σ 199 0) - 1).toInt64) σ) fun q1 => bz q1 (some q1)
def f_X10_isVisitor (a0 : Int32) (σ : Mm) : Option (Int32) := bnd (f_X10_in a0.toInt64 0 (((σ 199 1) - 1).toInt64) σ) fun q1 => bz q1 (some q1)
def f_X10_laysWays_l52 (K : Int32 → Mm → Option (Mm)) (v14 : Int32) (v7 : Int32) (a0 : Int32) (a1 : Int32) : Nat → Int32 → Mm → Option (Mm)
  | 0, _, _ => none
  | n + 1, v21, σ22 => if 4 ≤ v21 then (K v21 σ22) else (bnd (f_X10_nextTo v14 v21 σ22) fun q24 => if q24 = (-1) then (if a1 = 0 then (if q24 = (-1) then (lt (v21 + 1) fun x28 => f_X10_laysWays_l52 K v14 v7 a0 a1 n x28 σ22) else (gd q24 16 (gd v14 16 (gd q24 16 (lt (up σ22 204 q24.toNatClampNeg (if ((σ22 204 v14.toNatClampNeg) + 99) < (σ22 204 q24.toNatClampNeg) then ((σ22 204 v14.toNatClampNeg) + 99) else (σ22 204 q24.toNatClampNeg))) fun σ29 => lt (v21 + 1) fun x30 => f_X10_laysWays_l52 K v14 v7 a0 a1 n x30 σ29))))) else (if q24 = (-1) then (lt (v21 + 1) fun x32 => f_X10_laysWays_l52 K v14 v7 a0 a1 n x32 σ22) else (gd q24 16 (gd v14 16 (gd q24 16 (lt (up σ22 204 q24.toNatClampNeg (if ((σ22 204 v14.toNatClampNeg) + 1) < (σ22 204 q24.toNatClampNeg) then ((σ22 204 v14.toNatClampNeg) + 1) else (σ22 204 q24.toNatClampNeg))) fun σ33 => lt (v21 + 1) fun x34 => f_X10_laysWays_l52 K v14 v7 a0 a1 n x34 σ33)))))) else (bnd (f_X10_hedgeAt v14 q24 σ22) fun q35 => bnd (f_X10_isGapAt q35 σ22) fun q36 => if q36 = 0 then (if a1 = 0 then (if q24 = (-1) then (lt (v21 + 1) fun x40 => f_X10_laysWays_l52 K v14 v7 a0 a1 n x40 σ22) else (gd q24 16 (gd v14 16 (gd q24 16 (lt (up σ22 204 q24.toNatClampNeg (if ((σ22 204 v14.toNatClampNeg) + 99) < (σ22 204 q24.toNatClampNeg) then ((σ22 204 v14.toNatClampNeg) + 99) else (σ22 204 q24.toNatClampNeg))) fun σ41 => lt (v21 + 1) fun x42 => f_X10_laysWays_l52 K v14 v7 a0 a1 n x42 σ41))))) else (if q24 = (-1) then (lt (v21 + 1) fun x44 => f_X10_laysWays_l52 K v14 v7 a0 a1 n x44 σ22) else (gd q24 16 (gd v14 16 (gd q24 16 (lt (up σ22 204 q24.toNatClampNeg (if ((σ22 204 v14.toNatClampNeg) + 1) < (σ22 204 q24.toNatClampNeg) then ((σ22 204 v14.toNatClampNeg) + 1) else (σ22 204 q24.toNatClampNeg))) fun σ45 => lt (v21 + 1) fun x46 => f_X10_laysWays_l52 K v14 v7 a0 a1 n x46 σ45)))))) else (if a1 = 0 then (if q24 = (-1) then (lt (v21 + 1) fun x49 => f_X10_laysWays_l52 K v14 v7 a0 a1 n x49 σ22) else (gd q24 16 (gd v14 16 (gd q24 16 (lt (up σ22 204 q24.toNatClampNeg (if ((σ22 204 v14.toNatClampNeg) + 1) < (σ22 204 q24.toNatClampNeg) then ((σ22 204 v14.toNatClampNeg) + 1) else (σ22 204 q24.toNatClampNeg))) fun σ50 => lt (v21 + 1) fun x51 => f_X10_laysWays_l52 K v14 v7 a0 a1 n x51 σ50))))) else (if q24 = (-1) then (lt (v21 + 1) fun x53 => f_X10_laysWays_l52 K v14 v7 a0 a1 n x53 σ22) else (gd q24 16 (gd v14 16 (gd q24 16 (lt (up σ22 204 q24.toNatClampNeg (if ((σ22 204 v14.toNatClampNeg) + 0) < (σ22 204 q24.toNatClampNeg) then ((σ22 204 v14.toNatClampNeg) + 0) else (σ22 204 q24.toNatClampNeg))) fun σ54 => lt (v21 + 1) fun x55 => f_X10_laysWays_l52 K v14 v7 a0 a1 n x55 σ54))))))))
def f_X10_laysWays_l42 (K : Int32 → Mm → Option (Mm)) (v7 : Int32) (a0 : Int32) (a1 : Int32) : Nat → Int32 → Mm → Option (Mm)
  | 0, _, _ => none
  | n + 1, v14, σ15 => if 16 ≤ v14 then (K v14 σ15) else (lt (fun v17 σ18 => lt (v14 + 1) fun x20 => f_X10_laysWays_l42 K v7 a0 a1 n x20 σ18) fun K => f_X10_laysWays_l52 K v14 v7 a0 a1 20 0 σ15)
def f_X10_laysWays_l33 (a0 : Int32) (a1 : Int32) : Nat → Int32 → Mm → Option (Mm)
  | 0, _, _ => none
  | n + 1, v7, σ8 => if 16 ≤ v7 then (some σ8) else (lt (fun v10 σ11 => lt (v7 + 1) fun x13 => f_X10_laysWays_l33  a0 a1 n x13 σ11) fun K => f_X10_laysWays_l42 K v7 a0 a1 20 0 σ8)
def f_X10_laysWays_l2 (K : Int32 → Mm → Option (Mm)) (a0 : Int32) (a1 : Int32) : Nat → Int32 → Mm → Option (Mm)
  | 0, _, _ => none
  | n + 1, v56, σ57 => if 16 ≤ v56 then (K v56 σ57) else (if v56 = a0 then (gd v56 16 (lt (up σ57 204 v56.toNatClampNeg 0) fun σ62 => lt (v56 + 1) fun x63 => f_X10_laysWays_l2 K a0 a1 n x63 σ62)) else (gd v56 16 (lt (up σ57 204 v56.toNatClampNeg 99) fun σ60 => lt (v56 + 1) fun x61 => f_X10_laysWays_l2 K a0 a1 n x61 σ60)))
def f_X10_laysWays (a0 : Int32) (a1 : Int32) (σ : Mm) : Option (Mm) := lt (fun v1 σ2 => f_X10_laysWays_l33  a0 a1 20 0 σ2) fun K => f_X10_laysWays_l2 K a0 a1 20 0 σ
def f_X10_hoursOf (a0 : Int32) (a1 : Int32) (σ : Mm) : Option (Int32 × Mm) := bnd (f_X10_laysWays a0 0 σ) fun σ2 => gd a1 16 (if (σ2 204 a1.toNatClampNeg) < 99 then (gd a1 16 (some ((σ2 204 a1.toNatClampNeg), σ2))) else (some ((-1), σ2)))
def f_X10_reachedFrom_l10 (a0 : Int32) (σ2 : Mm) : Nat → Int32 → Int32 → Option (Int32 × Mm)
  | 0, _, _ => none
  | n + 1, v6, v7 => if 16 ≤ v6 then (some (v7, σ2)) else (gd v6 16 (if 99 ≤ (σ2 204 v6.toNatClampNeg) then (lt (v7 ||| 0) fun x10 => lt (v6 + 1) fun x11 => f_X10_reachedFrom_l10  a0 σ2 n x11 x10) else (lt (v7 ||| (1 <<< (v6 &&& 31))) fun x12 => lt (v6 + 1) fun x13 => f_X10_reachedFrom_l10  a0 σ2 n x13 x12)))
def f_X10_reachedFrom (a0 : Int32) (σ : Mm) : Option (Int32 × Mm) := bnd (f_X10_laysWays a0 0 σ) fun σ2 => f_X10_reachedFrom_l10  a0 σ2 20 0 0
def f_X10_ones_l4 (a0 : Int32) (σ : Mm) : Nat → Int32 → Int32 → Option (Int32)
  | 0, _, _ => none
  | n + 1, v4, v5 => if 16 ≤ v4 then (some v5) else (lt (v5 + ((a0 >>> (v4 &&& 31)) &&& 1)) fun x7 => lt (v4 + 1) fun x8 => f_X10_ones_l4  a0 σ n x8 x7)
def f_X10_ones (a0 : Int32) (σ : Mm) : Option (Int32) := f_X10_ones_l4  a0 σ 20 0 0
def f_X10_gaps_l4 (σ : Mm) : Nat → Int32 → Int32 → Option (Int32)
  | 0, _, _ => none
  | n + 1, v4, v5 => if 24 ≤ v4 then (some v5) else (bnd (f_X10_isGapAt (6 + v4) σ) fun q7 => if q7 = 0 then (lt (v5 + 0) fun x9 => lt (v4 + 1) fun x10 => f_X10_gaps_l4  σ n x10 x9) else (lt (v5 + 1) fun x11 => lt (v4 + 1) fun x12 => f_X10_gaps_l4  σ n x12 x11))
def f_X10_gaps (σ : Mm) : Option (Int32) := f_X10_gaps_l4  σ 30 0 0
def f_X10_areNeighbours (a0 : Int32) (a1 : Int32) (σ : Mm) : Option (Int32 × Mm) := bnd (f_X10_isCell a0 σ) fun q1 => if q1 = 0 then (bnm (f_X10_refuse 1 0 σ) fun q3 σ4 => some (0, σ4)) else (bnd (f_X10_isCell a1 σ) fun q5 => if q5 = 0 then (bnm (f_X10_refuse 1 0 σ) fun q11 σ12 => some (0, σ12)) else (bnd (f_X10_hedgeAt a0 a1 σ) fun q7 => if q7 = (-1) then (bnm (f_X10_refuse 2 (if a0 < a1 then a1 else a0) σ) fun q9 σ10 => some (0, σ10)) else (some (1, σ))))
def f_X10_hedgeIt (a0 : Int32) (a1 : Int32) (a2 : Int32) (σ : Mm) : Option (Int32 × Mm) := bnd (f_X10_in a2.toInt64 0 9 σ) fun q1 => if q1 = 0 then (bnm (f_X10_refuse 1 0 σ) fun q12 σ13 => some (q12, σ13)) else (bnm (f_X10_areNeighbours a0 a1 σ) fun q3 σ4 => if q3 = 0 then (some ((-1), σ4)) else (bnd (f_X10_hedgeAt a0 a1 σ4) fun q6 => gd q6 86 (lt (σ4 199 q6.toNatClampNeg) fun x7 => if x7 = a2 then (bnm (f_X10_refuse 3 a2 σ4) fun q10 σ11 => some (q10, σ11)) else (gd q6 86 (lt (up σ4 199 q6.toNatClampNeg a2) fun σ9 => some (x7, σ9))))))
def f_X10_hedge (a0 : Int32) (a1 : Int32) (a2 : Int32) (σ : Mm) : Option (Int32 × Mm) := bnd (f_X10_starts σ) fun σ2 => bnm (f_X10_hedgeIt a0 a1 a2 σ2) fun q3 σ4 => bnm (f_X10_changed q3 σ4) fun q5 σ6 => some (q5, σ6)
def f_X10_summerIt_l7 (q1 : Int32) : Nat → Int32 → Mm → Option (Int32 × Mm)
  | 0, _, _ => none
  | n + 1, v5, σ6 => if 24 ≤ v5 then (lt (up σ6 199 3 ((σ6 199 3) + 1)) fun σ8 => bnd (f_X10_gaps σ8) fun q9 => some ((q1 - q9), σ8)) else (gd (6 + v5) 86 (gd (6 + v5) 86 (lt (up σ6 199 (6 + v5).toNatClampNeg (if ((σ6 199 (6 + v5).toNatClampNeg) + 1) < 9 then ((σ6 199 (6 + v5).toNatClampNeg) + 1) else 9)) fun σ10 => lt (v5 + 1) fun x11 => f_X10_summerIt_l7  q1 n x11 σ10)))
def f_X10_summerIt (σ : Mm) : Option (Int32 × Mm) := bnd (f_X10_gaps σ) fun q1 => f_X10_summerIt_l7  q1 30 0 σ
def f_X10_summer (σ : Mm) : Option (Int32 × Mm) := bnd (f_X10_starts σ) fun σ2 => bnm (f_X10_summerIt σ2) fun q3 σ4 => bnm (f_X10_changed q3 σ4) fun q5 σ6 => some (q5, σ6)
def f_X10_trimIt (a0 : Int32) (a1 : Int32) (a2 : Int32) (σ : Mm) : Option (Int32 × Mm) := bnd (f_X10_isGardener a0 σ) fun q1 => if q1 = 0 then (bnm (f_X10_refuse 4 (σ 199 0) σ) fun q18 σ19 => some (q18, σ19)) else (bnm (f_X10_areNeighbours a1 a2 σ) fun q3 σ4 => if q3 = 0 then (some ((-1), σ4)) else (bnd (f_X10_hedgeAt a1 a2 σ4) fun q6 => bnd (f_X10_gardenerAt a0 σ4) fun q7 => gd q6 86 (if (σ4 199 q6.toNatClampNeg) = 0 then (bnm (f_X10_refuse 3 0 σ4) fun q16 σ17 => some (q16, σ17)) else (gd q7 86 (if 2 ≤ (σ4 199 q7.toNatClampNeg) then (gd q6 86 (lt (up σ4 199 q6.toNatClampNeg 0) fun σ10 => gd q7 86 (gd q7 86 (lt (up σ10 199 q7.toNatClampNeg ((σ10 199 q7.toNatClampNeg) - 2)) fun σ11 => gd (q7 + 3) 86 (gd (q7 + 3) 86 (lt (up σ11 199 (q7 + 3).toNatClampNeg ((σ11 199 (q7 + 3).toNatClampNeg) + 1)) fun σ12 => lt (up σ12 199 5 ((σ12 199 5) + 2)) fun σ13 => gd q7 86 (some ((σ13 199 q7.toNatClampNeg), σ13)))))))) else (gd q7 86 (bnm (f_X10_refuse 5 (2 - (σ4 199 q7.toNatClampNeg)) σ4) fun q14 σ15 => some (q14, σ15))))))))
def f_X10_trim (a0 : Int32) (a1 : Int32) (a2 : Int32) (σ : Mm) : Option (Int32 × Mm) := bnd (f_X10_starts σ) fun σ2 => bnm (f_X10_trimIt a0 a1 a2 σ2) fun q3 σ4 => bnm (f_X10_changed q3 σ4) fun q5 σ6 => some (q5, σ6)
def f_X10_meets (a0 : Int32) (σ : Mm) : Option (Int32) := bnd (f_X10_visitorAt a0 σ) fun q1 => gd (q1 + 7) 86 (if (σ 199 (q1 + 7).toNatClampNeg) = 0 then (gd (q1 + 1) 86 (if (σ 199 (q1 + 1).toNatClampNeg) = (σ 199 2) then (some 1) else (some 0))) else (some 0))
def f_X10_minotaurIt_l49 (a0 : Int32) : Nat → Int32 → Int32 → Mm → Option (Int32 × Mm)
  | 0, _, _, _ => none
  | n + 1, v9, v10, σ11 => if (σ11 199 1) ≤ v9 then (some (v10, σ11)) else (bnd (f_X10_meets v9 σ11) fun q13 => bnd (f_X10_visitorAt v9 σ11) fun q14 => if q13 = 0 then (bnd (f_X10_visitorAt v9 σ11) fun q16 => gd (q16 + 6) 86 (gd (q14 + 6) 86 (lt (up σ11 199 (q14 + 6).toNatClampNeg (σ11 199 (q16 + 6).toNatClampNeg)) fun σ17 => if q13 = 0 then (lt (v10 + 0) fun x19 => lt (v9 + 1) fun x20 => f_X10_minotaurIt_l49  a0 n x20 x19 σ17) else (lt (v10 + 1) fun x21 => lt (v9 + 1) fun x22 => f_X10_minotaurIt_l49  a0 n x22 x21 σ17)))) else (bnd (f_X10_visitorAt v9 σ11) fun q23 => gd (q23 + 5) 86 (if (σ11 199 (q23 + 5).toNatClampNeg) ≤ 0 then (bnd (f_X10_visitorAt v9 σ11) fun q25 => gd (q25 + 6) 86 (gd (q14 + 6) 86 (lt (up σ11 199 (q14 + 6).toNatClampNeg (σ11 199 (q25 + 6).toNatClampNeg)) fun σ26 => if q13 = 0 then (lt (v10 + 0) fun x28 => lt (v9 + 1) fun x29 => f_X10_minotaurIt_l49  a0 n x29 x28 σ26) else (lt (v10 + 1) fun x30 => lt (v9 + 1) fun x31 => f_X10_minotaurIt_l49  a0 n x31 x30 σ26)))) else (gd (q14 + 6) 86 (lt (up σ11 199 (q14 + 6).toNatClampNeg 1) fun σ32 => if q13 = 0 then (lt (v10 + 0) fun x34 => lt (v9 + 1) fun x35 => f_X10_minotaurIt_l49  a0 n x35 x34 σ32) else (lt (v10 + 1) fun x36 => lt (v9 + 1) fun x37 => f_X10_minotaurIt_l49  a0 n x37 x36 σ32))))))
def f_X10_minotaurIt (a0 : Int32) (σ : Mm) : Option (Int32 × Mm) := bnd (f_X10_in a0.toInt64 (-1) 15 σ) fun q1 => if q1 = 0 then (bnm (f_X10_refuse 1 0 σ) fun q40 σ41 => some (q40, σ41)) else (if (σ 199 2) = a0 then (bnm (f_X10_refuse 3 a0 σ) fun q38 σ39 => some (q38, σ39)) else (lt (up σ 199 2 a0) fun σ4 => f_X10_minotaurIt_l49  a0 8 0 0 σ4))
def f_X10_minotaur (a0 : Int32) (σ : Mm) : Option (Int32 × Mm) := bnd (f_X10_starts σ) fun σ2 => bnm (f_X10_minotaurIt a0 σ2) fun q3 σ4 => bnm (f_X10_changed q3 σ4) fun q5 σ6 => some (q5, σ6)
def f_X10_gardenerIt (a0 : Int32) (σ : Mm) : Option (Int32 × Mm) := bnd (f_X10_in a0.toInt64 0 99 σ) fun q1 => if q1 = 0 then (bnm (f_X10_refuse 1 0 σ) fun q10 σ11 => some (q10, σ11)) else (if (σ 199 0) = 4 then (bnm (f_X10_refuse 13 4 σ) fun q8 σ9 => some (q8, σ9)) else (bnd (f_X10_gardenerAt (σ 199 0) σ) fun q4 => gd q4 86 (lt (up σ 199 q4.toNatClampNeg a0) fun σ5 => lt (up σ5 199 4 ((σ5 199 4) + a0)) fun σ6 => lt (up σ6 199 0 ((σ6 199 0) + 1)) fun σ7 => some (((σ7 199 0) - 1), σ7))))
def f_X10_gardener (a0 : Int32) (σ : Mm) : Option (Int32 × Mm) := bnd (f_X10_starts σ) fun σ2 => bnm (f_X10_gardenerIt a0 σ2) fun q3 σ4 => bnm (f_X10_changed q3 σ4) fun q5 σ6 => some (q5, σ6)
def f_X10_visitorIt (a0 : Int32) (σ : Mm) : Option (Int32 × Mm) := bnd (f_X10_in a0.toInt64 0 99 σ) fun q1 => if q1 = 0 then (bnm (f_X10_refuse 1 0 σ) fun q20 σ21 => some (q20, σ21)) else (if (σ 199 1) = 5 then (bnm (f_X10_refuse 13 5 σ) fun q18 σ19 => some (q18, σ19)) else (bnm (f_X10_hoursOf 0 15 σ) fun q4 σ5 => if q4 = (-1) then (bnm (f_X10_reachedFrom 0 σ5) fun q13 σ14 => bnd (f_X10_ones q13 σ14) fun q15 => bnm (f_X10_refuse 6 q15 σ14) fun q16 σ17 => some (q16, σ17)) else (bnd (f_X10_visitorAt (σ5 199 1) σ5) fun q7 => gd q7 86 (lt (up σ5 199 q7.toNatClampNeg a0) fun σ8 => gd (q7 + 3) 86 (lt (up σ8 199 (q7 + 3).toNatClampNeg q4) fun σ9 => gd (q7 + 4) 86 (lt (up σ9 199 (q7 + 4).toNatClampNeg (-1)) fun σ10 => lt (up σ10 199 4 ((σ10 199 4) + a0)) fun σ11 => lt (up σ11 199 1 ((σ11 199 1) + 1)) fun σ12 => some (((σ12 199 1) - 1), σ12)))))))
def f_X10_visitor (a0 : Int32) (σ : Mm) : Option (Int32 × Mm) := bnd (f_X10_starts σ) fun σ2 => bnm (f_X10_visitorIt a0 σ2) fun q3 σ4 => bnm (f_X10_changed q3 σ4) fun q5 σ6 => some (q5, σ6)
def f_X10_bondIt (a0 : Int32) (a1 : Int32) (a2 : Int32) (σ : Mm) : Option (Int32 × Mm) := bnd (f_X10_isGardener a0 σ) fun q1 => if q1 = 0 then (bnm (f_X10_refuse 4 (σ 199 0) σ) fun q32 σ33 => some (q32, σ33)) else (bnd (f_X10_isVisitor a1 σ) fun q3 => if q3 = 0 then (bnm (f_X10_refuse 7 (σ 199 1) σ) fun q30 σ31 => some (q30, σ31)) else (bnd (f_X10_in a2.toInt64 1 5 σ) fun q5 => if q5 = 0 then (bnm (f_X10_refuse 1 0 σ) fun q28 σ29 => some (q28, σ29)) else (bnd (f_X10_visitorAt a1 σ) fun q7 => gd (q7 + 7) 86 (if (σ 199 (q7 + 7).toNatClampNeg) = 1 then (gd (q7 + 2) 86 (bnm (f_X10_refuse 9 (σ 199 (q7 + 2).toNatClampNeg) σ) fun q26 σ27 => some (q26, σ27))) else (gd (q7 + 4) 86 (if (σ 199 (q7 + 4).toNatClampNeg) = (-1) then (bnd (f_X10_meets a1 σ) fun q10 => if q10 = 0 then (gd q7 86 (if (2 * a2) ≤ (σ 199 q7.toNatClampNeg) then (gd q7 86 (gd q7 86 (lt (up σ 199 q7.toNatClampNeg ((σ 199 q7.toNatClampNeg) - (2 * a2))) fun σ13 => gd (q7 + 4) 86 (lt (up σ13 199 (q7 + 4).toNatClampNeg a0) fun σ14 => gd (q7 + 5) 86 (lt (up σ14 199 (q7 + 5).toNatClampNeg a2) fun σ15 => bnd (f_X10_gardenerAt a0 σ15) fun q16 => gd q16 86 (gd q16 86 (lt (up σ15 199 q16.toNatClampNeg ((σ15 199 q16.toNatClampNeg) + (2 * a2))) fun σ17 => bnd (f_X10_gardenerAt a0 σ17) fun q18 => gd (q18 + 1) 86 (gd (q18 + 1) 86 (lt (up σ17 199 (q18 + 1).toNatClampNeg ((σ17 199 (q18 + 1).toNatClampNeg) + (2 * a2))) fun σ19 => gd q7 86 (some ((σ19 199 q7.toNatClampNeg), σ19))))))))))) else (gd q7 86 (bnm (f_X10_refuse 5 ((2 * a2) - (σ 199 q7.toNatClampNeg)) σ) fun q20 σ21 => some (q20, σ21))))) else (bnm (f_X10_refuse 10 (σ 199 2) σ) fun q22 σ23 => some (q22, σ23))) else (gd (q7 + 4) 86 (bnm (f_X10_refuse 8 (σ 199 (q7 + 4).toNatClampNeg) σ) fun q24 σ25 => some (q24, σ25)))))))))
def f_X10_bond (a0 : Int32) (a1 : Int32) (a2 : Int32) (σ : Mm) : Option (Int32 × Mm) := bnd (f_X10_starts σ) fun σ2 => bnm (f_X10_bondIt a0 a1 a2 σ2) fun q3 σ4 => bnm (f_X10_changed q3 σ4) fun q5 σ6 => some (q5, σ6)
def f_X10_lostOf (a0 : Int32) (σ : Mm) : Option (Int32) := bnd (f_X10_visitorAt a0 σ) fun q1 => gd (q1 + 2) 86 (gd (q1 + 3) 86 (some (if 0 < ((σ 199 (q1 + 2).toNatClampNeg) - (σ 199 (q1 + 3).toNatClampNeg)) then ((σ 199 (q1 + 2).toNatClampNeg) - (σ 199 (q1 + 3).toNatClampNeg)) else 0)))
def f_X10_pays (a0 : Int32) (a1 : Int32) (σ : Mm) : Option (Int32) := bnd (f_X10_visitorAt a0 σ) fun q1 => gd (q1 + 4) 86 (if (σ 199 (q1 + 4).toNatClampNeg) = (-1) then (some 0) else (gd (q1 + 6) 86 (if (σ 199 (q1 + 6).toNatClampNeg) = 1 then (some 0) else (gd (q1 + 5) 86 (gd (q1 + 4) 86 (bnd (f_X10_gardenerAt (σ 199 (q1 + 4).toNatClampNeg) σ) fun q4 => gd q4 86 (some (if (σ 199 q4.toNatClampNeg) < ((σ 199 (q1 + 5).toNatClampNeg) * a1) then (σ 199 q4.toNatClampNeg) else ((σ 199 (q1 + 5).toNatClampNeg) * a1)))))))))
def f_X10_walkIt (a0 : Int32) (a1 : Int32) (σ : Mm) : Option (Int32 × Mm) := bnd (f_X10_isVisitor a0 σ) fun q1 => if q1 = 0 then (bnm (f_X10_refuse 7 (σ 199 1) σ) fun q81 σ82 => some (q81, σ82)) else (bnd (f_X10_in a1.toInt64 0 3 σ) fun q3 => if q3 = 0 then (bnm (f_X10_refuse 1 0 σ) fun q79 σ80 => some (q79, σ80)) else (bnd (f_X10_visitorAt a0 σ) fun q5 => gd (q5 + 7) 86 (if (σ 199 (q5 + 7).toNatClampNeg) = 1 then (gd (q5 + 2) 86 (bnm (f_X10_refuse 9 (σ 199 (q5 + 2).toNatClampNeg) σ) fun q77 σ78 => some (q77, σ78))) else (gd (q5 + 1) 86 (lt (σ 199 (q5 + 1).toNatClampNeg) fun x7 => bnd (f_X10_nextTo x7 a1 σ) fun q8 => if q8 = (-1) then (bnm (f_X10_refuse 11 x7 σ) fun q75 σ76 => some (q75, σ76)) else (bnd (f_X10_hedgeAt x7 q8 σ) fun q10 => bnd (f_X10_isGapAt q10 σ) fun q11 => if q11 = 0 then (bnd (f_X10_hedgeAt x7 q8 σ) fun q72 => gd q72 86 (bnm (f_X10_refuse 12 (σ 199 q72.toNatClampNeg) σ) fun q73 σ74 => some (q73, σ74))) else (gd (q5 + 1) 86 (lt (up σ 199 (q5 + 1).toNatClampNeg q8) fun σ13 => gd (q5 + 2) 86 (gd (q5 + 2) 86 (lt (up σ13 199 (q5 + 2).toNatClampNeg ((σ13 199 (q5 + 2).toNatClampNeg) + 1)) fun σ14 => bnd (f_X10_meets a0 σ14) fun q15 => if q15 = 0 then (gd (q5 + 6) 86 (gd (q5 + 6) 86 (lt (up σ14 199 (q5 + 6).toNatClampNeg (σ14 199 (q5 + 6).toNatClampNeg)) fun σ17 => if q8 = 15 then (bnd (f_X10_lostOf a0 σ17) fun q19 => bnd (f_X10_pays a0 q19 σ17) fun q20 => gd q5 86 (gd q5 86 (lt (up σ17 199 q5.toNatClampNeg ((σ17 199 q5.toNatClampNeg) + q20)) fun σ21 => gd (q5 + 4) 86 (if (σ21 199 (q5 + 4).toNatClampNeg) = (-1) then (gd (q5 + 7) 86 (lt (up σ21 199 (q5 + 7).toNatClampNeg 1) fun σ23 => gd (q5 + 4) 86 (lt (up σ23 199 (q5 + 4).toNatClampNeg (-1)) fun σ24 => gd (q5 + 5) 86 (lt (up σ24 199 (q5 + 5).toNatClampNeg 0) fun σ25 => gd (q5 + 6) 86 (lt (up σ25 199 (q5 + 6).toNatClampNeg 0) fun σ26 => some (q8, σ26)))))) else (gd (q5 + 4) 86 (bnd (f_X10_gardenerAt (σ21 199 (q5 + 4).toNatClampNeg) σ21) fun q27 => gd q27 86 (gd q27 86 (lt (up σ21 199 q27.toNatClampNeg ((σ21 199 q27.toNatClampNeg) - q20)) fun σ28 => gd (q5 + 4) 86 (bnd (f_X10_gardenerAt (σ28 199 (q5 + 4).toNatClampNeg) σ28) fun q29 => gd (q29 + 2) 86 (gd (q29 + 2) 86 (lt (up σ28 199 (q29 + 2).toNatClampNeg ((σ28 199 (q29 + 2).toNatClampNeg) + q20)) fun σ30 => gd (q5 + 7) 86 (lt (up σ30 199 (q5 + 7).toNatClampNeg 1) fun σ31 => gd (q5 + 4) 86 (lt (up σ31 199 (q5 + 4).toNatClampNeg (-1)) fun σ32 => gd (q5 + 5) 86 (lt (up σ32 199 (q5 + 5).toNatClampNeg 0) fun σ33 => gd (q5 + 6) 86 (lt (up σ33 199 (q5 + 6).toNatClampNeg 0) fun σ34 => some (q8, σ34)))))))))))))))) else (some (q8, σ17))))) else (gd (q5 + 5) 86 (if (σ14 199 (q5 + 5).toNatClampNeg) ≤ 0 then (gd (q5 + 6) 86 (gd (q5 + 6) 86 (lt (up σ14 199 (q5 + 6).toNatClampNeg (σ14 199 (q5 + 6).toNatClampNeg)) fun σ36 => if q8 = 15 then (bnd (f_X10_lostOf a0 σ36) fun q38 => bnd (f_X10_pays a0 q38 σ36) fun q39 => gd q5 86 (gd q5 86 (lt (up σ36 199 q5.toNatClampNeg ((σ36 199 q5.toNatClampNeg) + q39)) fun σ40 => gd (q5 + 4) 86 (if (σ40 199 (q5 + 4).toNatClampNeg) = (-1) then (gd (q5 + 7) 86 (lt (up σ40 199 (q5 + 7).toNatClampNeg 1) fun σ42 => gd (q5 + 4) 86 (lt (up σ42 199 (q5 + 4).toNatClampNeg (-1)) fun σ43 => gd (q5 + 5) 86 (lt (up σ43 199 (q5 + 5).toNatClampNeg 0) fun σ44 => gd (q5 + 6) 86 (lt (up σ44 199 (q5 + 6).toNatClampNeg 0) fun σ45 => some (q8, σ45)))))) else (gd (q5 + 4) 86 (bnd (f_X10_gardenerAt (σ40 199 (q5 + 4).toNatClampNeg) σ40) fun q46 => gd q46 86 (gd q46 86 (lt (up σ40 199 q46.toNatClampNeg ((σ40 199 q46.toNatClampNeg) - q39)) fun σ47 => gd (q5 + 4) 86 (bnd (f_X10_gardenerAt (σ47 199 (q5 + 4).toNatClampNeg) σ47) fun q48 => gd (q48 + 2) 86 (gd (q48 + 2) 86 (lt (up σ47 199 (q48 + 2).toNatClampNeg ((σ47 199 (q48 + 2).toNatClampNeg) + q39)) fun σ49 => gd (q5 + 7) 86 (lt (up σ49 199 (q5 + 7).toNatClampNeg 1) fun σ50 => gd (q5 + 4) 86 (lt (up σ50 199 (q5 + 4).toNatClampNeg (-1)) fun σ51 => gd (q5 + 5) 86 (lt (up σ51 199 (q5 + 5).toNatClampNeg 0) fun σ52 => gd (q5 + 6) 86 (lt (up σ52 199 (q5 + 6).toNatClampNeg 0) fun σ53 => some (q8, σ53)))))))))))))))) else (some (q8, σ36))))) else (gd (q5 + 6) 86 (lt (up σ14 199 (q5 + 6).toNatClampNeg 1) fun σ54 => if q8 = 15 then (bnd (f_X10_lostOf a0 σ54) fun q56 => bnd (f_X10_pays a0 q56 σ54) fun q57 => gd q5 86 (gd q5 86 (lt (up σ54 199 q5.toNatClampNeg ((σ54 199 q5.toNatClampNeg) + q57)) fun σ58 => gd (q5 + 4) 86 (if (σ58 199 (q5 + 4).toNatClampNeg) = (-1) then (gd (q5 + 7) 86 (lt (up σ58 199 (q5 + 7).toNatClampNeg 1) fun σ60 => gd (q5 + 4) 86 (lt (up σ60 199 (q5 + 4).toNatClampNeg (-1)) fun σ61 => gd (q5 + 5) 86 (lt (up σ61 199 (q5 + 5).toNatClampNeg 0) fun σ62 => gd (q5 + 6) 86 (lt (up σ62 199 (q5 + 6).toNatClampNeg 0) fun σ63 => some (q8, σ63)))))) else (gd (q5 + 4) 86 (bnd (f_X10_gardenerAt (σ58 199 (q5 + 4).toNatClampNeg) σ58) fun q64 => gd q64 86 (gd q64 86 (lt (up σ58 199 q64.toNatClampNeg ((σ58 199 q64.toNatClampNeg) - q57)) fun σ65 => gd (q5 + 4) 86 (bnd (f_X10_gardenerAt (σ65 199 (q5 + 4).toNatClampNeg) σ65) fun q66 => gd (q66 + 2) 86 (gd (q66 + 2) 86 (lt (up σ65 199 (q66 + 2).toNatClampNeg ((σ65 199 (q66 + 2).toNatClampNeg) + q57)) fun σ67 => gd (q5 + 7) 86 (lt (up σ67 199 (q5 + 7).toNatClampNeg 1) fun σ68 => gd (q5 + 4) 86 (lt (up σ68 199 (q5 + 4).toNatClampNeg (-1)) fun σ69 => gd (q5 + 5) 86 (lt (up σ69 199 (q5 + 5).toNatClampNeg 0) fun σ70 => gd (q5 + 6) 86 (lt (up σ70 199 (q5 + 6).toNatClampNeg 0) fun σ71 => some (q8, σ71)))))))))))))))) else (some (q8, σ54))))))))))))))))
def f_X10_walk (a0 : Int32) (a1 : Int32) (σ : Mm) : Option (Int32 × Mm) := bnd (f_X10_starts σ) fun σ2 => bnm (f_X10_walkIt a0 a1 σ2) fun q3 σ4 => bnm (f_X10_changed q3 σ4) fun q5 σ6 => some (q5, σ6)
def f_X10_restIt (a0 : Int32) (a1 : Int32) (σ : Mm) : Option (Int32 × Mm) := bnd (f_X10_isVisitor a0 σ) fun q1 => if q1 = 0 then (bnm (f_X10_refuse 7 (σ 199 1) σ) fun q12 σ13 => some (q12, σ13)) else (bnd (f_X10_in a1.toInt64 1 9 σ) fun q3 => if q3 = 0 then (bnm (f_X10_refuse 1 0 σ) fun q10 σ11 => some (q10, σ11)) else (bnd (f_X10_visitorAt a0 σ) fun q5 => gd (q5 + 7) 86 (if (σ 199 (q5 + 7).toNatClampNeg) = 1 then (gd (q5 + 2) 86 (bnm (f_X10_refuse 9 (σ 199 (q5 + 2).toNatClampNeg) σ) fun q8 σ9 => some (q8, σ9))) else (gd (q5 + 2) 86 (gd (q5 + 2) 86 (lt (up σ 199 (q5 + 2).toNatClampNeg ((σ 199 (q5 + 2).toNatClampNeg) + a1)) fun σ7 => gd (q5 + 2) 86 (some ((σ7 199 (q5 + 2).toNatClampNeg), σ7))))))))
def f_X10_rest (a0 : Int32) (a1 : Int32) (σ : Mm) : Option (Int32 × Mm) := bnd (f_X10_starts σ) fun σ2 => bnm (f_X10_restIt a0 a1 σ2) fun q3 σ4 => bnm (f_X10_changed q3 σ4) fun q5 σ6 => some (q5, σ6)
def f_X10_areCells (a0 : Int32) (a1 : Int32) (σ : Mm) : Option (Int32 × Mm) := bnd (f_X10_isCell a0 σ) fun q1 => if q1 = 0 then (lt (up σ 198 12 1) fun σ3 => if (σ3 198 12) = 0 then (some (1, σ3)) else (some (0, σ3))) else (bnd (f_X10_isCell a1 σ) fun q5 => if q5 = 0 then (lt (up σ 198 12 1) fun σ7 => if (σ7 198 12) = 0 then (some (1, σ7)) else (some (0, σ7))) else (lt (up σ 198 12 0) fun σ9 => if (σ9 198 12) = 0 then (some (1, σ9)) else (some (0, σ9))))
def f_X10_leaves (a0 : Int32) (a1 : Int32) (σ : Mm) : Option (Int32 × Mm) := bnm (f_X10_areCells a0 a1 σ) fun q1 σ2 => if q1 = 0 then (some ((-1), σ2)) else (bnd (f_X10_hedgeAt a0 a1 σ2) fun q4 => if q4 = (-1) then (bnm (f_X10_throwing 2 σ2) fun q6 σ7 => some (q6, σ7)) else (gd q4 86 (some ((σ2 199 q4.toNatClampNeg), σ2))))
def f_X10_isGap (a0 : Int32) (a1 : Int32) (σ : Mm) : Option (Int32 × Mm) := bnm (f_X10_areCells a0 a1 σ) fun q1 σ2 => if q1 = 0 then (some (0, σ2)) else (bnd (f_X10_hedgeAt a0 a1 σ2) fun q4 => bnd (f_X10_isGapAt q4 σ2) fun q5 => if q5 = 0 then (some (0, σ2)) else (some (1, σ2)))
def f_X10_hours (a0 : Int32) (a1 : Int32) (σ : Mm) : Option (Int32 × Mm) := bnm (f_X10_areCells a0 a1 σ) fun q1 σ2 => if q1 = 0 then (some ((-1), σ2)) else (bnm (f_X10_hoursOf a0 a1 σ2) fun q4 σ5 => if q4 = (-1) then (bnm (f_X10_throwing 2 σ5) fun q7 σ8 => some (q7, σ8)) else (some (q4, σ5)))
def f_X10_hoursAgain (a0 : Int32) (a1 : Int32) (σ : Mm) : Option (Int32 × Mm) := bnm (f_X10_hours a0 a1 σ) fun q1 σ2 => some (q1, σ2)
def f_X10_next_l43 (a0 : Int32) (σ5 : Mm) : Nat → Int32 → Option (Int32 × Mm)
  | 0, _ => none
  | n + 1, v12 => bnd (f_X10_hedgeAt a0 v12 σ5) fun q13 => if q13 = (-1) then (lt (v12 + 1) fun x15 => f_X10_next_l43  a0 σ5 n x15) else (bnd (f_X10_hedgeAt a0 v12 σ5) fun q16 => bnd (f_X10_isGapAt q16 σ5) fun q17 => if q17 = 0 then (lt (v12 + 1) fun x19 => f_X10_next_l43  a0 σ5 n x19) else (gd v12 16 (gd a0 16 (if (σ5 204 v12.toNatClampNeg) = ((σ5 204 a0.toNatClampNeg) - 1) then (some (v12, σ5)) else (lt (v12 + 1) fun x21 => f_X10_next_l43  a0 σ5 n x21)))))
def f_X10_next (a0 : Int32) (σ : Mm) : Option (Int32 × Mm) := bnm (f_X10_areCells a0 a0 σ) fun q1 σ2 => if q1 = 0 then (some ((-1), σ2)) else (bnd (f_X10_laysWays 15 0 σ2) fun σ5 => if a0 = 15 then (bnm (f_X10_throwing 2 σ5) fun q7 σ8 => some (q7, σ8)) else (gd a0 16 (if (σ5 204 a0.toNatClampNeg) < 99 then (f_X10_next_l43  a0 σ5 20 0) else (bnm (f_X10_throwing 2 σ5) fun q22 σ23 => some (q22, σ23)))))
def f_X10_reached (a0 : Int32) (σ : Mm) : Option (Int32 × Mm) := bnm (f_X10_areCells a0 a0 σ) fun q1 σ2 => if q1 = 0 then (some ((-1), σ2)) else (bnm (f_X10_reachedFrom a0 σ2) fun q4 σ5 => some (q4, σ5))
def f_X10_trims (a0 : Int32) (σ : Mm) : Option (Int32 × Mm) := bnm (f_X10_areCells a0 a0 σ) fun q1 σ2 => if q1 = 0 then (some ((-1), σ2)) else (bnd (f_X10_laysWays a0 1 σ2) fun σ5 => some ((σ5 204 15), σ5))
def f_X10_trimsAgain (a0 : Int32) (σ : Mm) : Option (Int32 × Mm) := bnm (f_X10_trims a0 σ) fun q1 σ2 => some (q1, σ2)
def f_X10_isNeeded (a0 : Int32) (a1 : Int32) (σ : Mm) : Option (Int32 × Mm) := bnm (f_X10_areCells a0 a1 σ) fun q1 σ2 => if q1 = 0 then (some (0, σ2)) else (bnd (f_X10_hedgeAt a0 a1 σ2) fun q4 => if q4 = (-1) then (bnm (f_X10_throwing 2 σ2) fun q18 σ19 => some (0, σ19)) else (bnd (f_X10_isGapAt q4 σ2) fun q6 => if q6 = 0 then (some (0, σ2)) else (bnm (f_X10_hoursOf 0 15 σ2) fun q8 σ9 => if q8 = (-1) then (some (0, σ9)) else (gd q4 86 (lt (σ9 199 q4.toNatClampNeg) fun x11 => gd q4 86 (lt (up σ9 199 q4.toNatClampNeg 5) fun σ12 => bnm (f_X10_hoursOf 0 15 σ12) fun q13 σ14 => if q13 = (-1) then (gd q4 86 (lt (up σ14 199 q4.toNatClampNeg x11) fun σ17 => some (1, σ17))) else (gd q4 86 (lt (up σ14 199 q4.toNatClampNeg x11) fun σ16 => some (0, σ16)))))))))
def f_X10_closesIn (a0 : Int32) (a1 : Int32) (σ : Mm) : Option (Int32 × Mm) := bnm (f_X10_areCells a0 a1 σ) fun q1 σ2 => if q1 = 0 then (some ((-1), σ2)) else (bnd (f_X10_hedgeAt a0 a1 σ2) fun q4 => if q4 = (-1) then (bnm (f_X10_throwing 2 σ2) fun q6 σ7 => some (q6, σ7)) else (gd q4 86 (some ((if 0 < (5 - (σ2 199 q4.toNatClampNeg)) then (5 - (σ2 199 q4.toNatClampNeg)) else 0), σ2))))
def f_X10_summersLeft_l53 (v2 : Int32) : Nat → Int32 → Mm → Option (Int32 × Mm)
  | 0, _, _ => none
  | n + 1, v8, σ9 => if 24 ≤ v8 then (some (v2, σ9)) else (gd (6 + v8) 86 (gd (6 + v8) 86 (lt (up σ9 199 (6 + v8).toNatClampNeg ((σ9 199 (6 + v8).toNatClampNeg) - v2)) fun σ11 => lt (v8 + 1) fun x12 => f_X10_summersLeft_l53  v2 n x12 σ11)))
def f_X10_summersLeft_l20 (K : Int32 → Mm → Option (Int32 × Mm)) (v13 : Int32) : Nat → Int32 → Mm → Option (Int32 × Mm)
  | 0, _, _ => none
  | n + 1, v22, σ23 => if 24 ≤ v22 then (K v22 σ23) else (gd (6 + v22) 86 (gd (6 + v22) 86 (lt (up σ23 199 (6 + v22).toNatClampNeg ((σ23 199 (6 + v22).toNatClampNeg) + 1)) fun σ25 => lt (v22 + 1) fun x26 => f_X10_summersLeft_l20 K v13 n x26 σ25)))
def f_X10_summersLeft_l7 (K : Int32 → Mm → Option (Int32 × Mm)) : Nat → Int32 → Mm → Option (Int32 × Mm)
  | 0, _, _ => none
  | n + 1, v13, σ14 => bnm (f_X10_hoursOf 0 15 σ14) fun q15 σ16 => if q15 = (-1) then (K v13 σ16) else (lt (fun v18 σ19 => lt (v13 + 1) fun x21 => f_X10_summersLeft_l7 K  n x21 σ19) fun K => f_X10_summersLeft_l20 K v13 30 0 σ16)
def f_X10_summersLeft (σ : Mm) : Option (Int32 × Mm) := lt (up σ 198 12 0) fun σ1 => lt (fun v2 σ3 => f_X10_summersLeft_l53  v2 30 0 σ3) fun K => f_X10_summersLeft_l7 K  30 0 σ1
def f_X10_lasts (a0 : Int32) (σ : Mm) : Option (Int32) := bnd (f_X10_visitorAt a0 σ) fun q1 => gd (q1 + 4) 86 (if (σ 199 (q1 + 4).toNatClampNeg) = (-1) then (some 0) else (bnd (f_X10_visitorAt a0 σ) fun q3 => gd (q3 + 7) 86 (if (σ 199 (q3 + 7).toNatClampNeg) = 0 then (some 1) else (some 0))))
def f_X10_lasting_l4 (a0 : Int32) (σ : Mm) : Nat → Int32 → Int32 → Option (Int32)
  | 0, _, _ => none
  | n + 1, v4, v5 => if (σ 199 1) ≤ v4 then (some v5) else (bnd (f_X10_lasts v4 σ) fun q7 => if q7 = 0 then (lt (v5 + 0) fun x9 => lt (v4 + 1) fun x10 => f_X10_lasting_l4  a0 σ n x10 x9) else (if a0 = (-1) then (lt (v5 + 1) fun x12 => lt (v4 + 1) fun x13 => f_X10_lasting_l4  a0 σ n x13 x12) else (bnd (f_X10_visitorAt v4 σ) fun q14 => gd (q14 + 4) 86 (if (σ 199 (q14 + 4).toNatClampNeg) = a0 then (lt (v5 + 1) fun x18 => lt (v4 + 1) fun x19 => f_X10_lasting_l4  a0 σ n x19 x18) else (lt (v5 + 0) fun x16 => lt (v4 + 1) fun x17 => f_X10_lasting_l4  a0 σ n x17 x16)))))
def f_X10_lasting (a0 : Int32) (σ : Mm) : Option (Int32) := f_X10_lasting_l4  a0 σ 8 0 0
def f_X10_gardenerOf (a0 : Int32) (a1 : Int32) (σ : Mm) : Option (Int32 × Mm) := lt (up σ 198 12 0) fun σ1 => bnd (f_X10_isGardener a0 σ1) fun q2 => if q2 = 0 then (bnm (f_X10_throwing 1 σ1) fun q16 σ17 => some (q16, σ17)) else (if a1 = 0 then (bnd (f_X10_gardenerAt a0 σ1) fun q5 => gd q5 86 (some ((σ1 199 q5.toNatClampNeg), σ1))) else (if a1 = 1 then (bnd (f_X10_lasting a0 σ1) fun q7 => some (q7, σ1)) else (if a1 = 2 then (bnd (f_X10_gardenerAt a0 σ1) fun q9 => gd ((q9 + a1) - 1) 86 (some ((σ1 199 ((q9 + a1) - 1).toNatClampNeg), σ1))) else (if a1 = 3 then (bnd (f_X10_gardenerAt a0 σ1) fun q11 => gd ((q11 + a1) - 1) 86 (some ((σ1 199 ((q11 + a1) - 1).toNatClampNeg), σ1))) else (if a1 = 4 then (bnd (f_X10_gardenerAt a0 σ1) fun q13 => gd ((q13 + a1) - 1) 86 (some ((σ1 199 ((q13 + a1) - 1).toNatClampNeg), σ1))) else (bnm (f_X10_throwing 2 σ1) fun q14 σ15 => some (q14, σ15)))))))
def f_X10_visitorOf (a0 : Int32) (a1 : Int32) (σ : Mm) : Option (Int32 × Mm) := lt (up σ 198 12 0) fun σ1 => bnd (f_X10_isVisitor a0 σ1) fun q2 => if q2 = 0 then (bnm (f_X10_throwing 1 σ1) fun q17 σ18 => some (q17, σ18)) else (bnd (f_X10_visitorAt a0 σ1) fun q4 => if a1 = 0 then (gd (q4 + a1) 86 (some ((σ1 199 (q4 + a1).toNatClampNeg), σ1))) else (if a1 = 1 then (gd (q4 + a1) 86 (some ((σ1 199 (q4 + a1).toNatClampNeg), σ1))) else (if a1 = 2 then (gd (q4 + a1) 86 (some ((σ1 199 (q4 + a1).toNatClampNeg), σ1))) else (if a1 = 3 then (gd (q4 + a1) 86 (some ((σ1 199 (q4 + a1).toNatClampNeg), σ1))) else (if a1 = 4 then (bnd (f_X10_lostOf a0 σ1) fun q10 => some (q10, σ1)) else (if a1 = 5 then (gd ((q4 + a1) - 1) 86 (some ((σ1 199 ((q4 + a1) - 1).toNatClampNeg), σ1))) else (if a1 = 6 then (gd ((q4 + a1) - 1) 86 (some ((σ1 199 ((q4 + a1) - 1).toNatClampNeg), σ1))) else (if a1 = 7 then (gd ((q4 + a1) - 1) 86 (some ((σ1 199 ((q4 + a1) - 1).toNatClampNeg), σ1))) else (if a1 = 8 then (gd ((q4 + a1) - 1) 86 (some ((σ1 199 ((q4 + a1) - 1).toNatClampNeg), σ1))) else (bnm (f_X10_throwing 2 σ1) fun q15 σ16 => some (q15, σ16)))))))))))
def f_X10_wouldPay (a0 : Int32) (σ : Mm) : Option (Int32 × Mm) := lt (up σ 198 12 0) fun σ1 => bnd (f_X10_isVisitor a0 σ1) fun q2 => if q2 = 0 then (bnm (f_X10_throwing 1 σ1) fun q15 σ16 => some (q15, σ16)) else (bnd (f_X10_visitorAt a0 σ1) fun q4 => gd (q4 + 1) 86 (bnm (f_X10_hoursOf (σ1 199 (q4 + 1).toNatClampNeg) 15 σ1) fun q5 σ6 => bnd (f_X10_lasts a0 σ6) fun q7 => if q7 = 0 then (bnm (f_X10_throwing 2 σ6) fun q9 σ10 => some (q9, σ10)) else (if q5 = (-1) then (bnm (f_X10_throwing 2 σ6) fun q13 σ14 => some (q13, σ14)) else (gd (q4 + 2) 86 (gd (q4 + 3) 86 (bnd (f_X10_pays a0 (if 0 < (((σ6 199 (q4 + 2).toNatClampNeg) + q5) - (σ6 199 (q4 + 3).toNatClampNeg)) then (((σ6 199 (q4 + 2).toNatClampNeg) + q5) - (σ6 199 (q4 + 3).toNatClampNeg)) else 0) σ6) fun q12 => some (q12, σ6)))))))
def f_X10_owedBy_l4 (a0 : Int32) (σ : Mm) : Nat → Int32 → Int32 → Option (Int32)
  | 0, _, _ => none
  | n + 1, v4, v5 => if (σ 199 1) ≤ v4 then (some v5) else (bnd (f_X10_visitorAt v4 σ) fun q7 => bnd (f_X10_lasts v4 σ) fun q8 => if q8 = 0 then (lt (v5 + 0) fun x10 => lt (v4 + 1) fun x11 => f_X10_owedBy_l4  a0 σ n x11 x10) else (gd (q7 + 4) 86 (if (σ 199 (q7 + 4).toNatClampNeg) = a0 then (gd (q7 + 6) 86 (if (σ 199 (q7 + 6).toNatClampNeg) = 0 then (gd (q7 + 5) 86 (bnd (f_X10_lostOf v4 σ) fun q18 => lt (v5 + ((σ 199 (q7 + 5).toNatClampNeg) * q18)) fun x19 => lt (v4 + 1) fun x20 => f_X10_owedBy_l4  a0 σ n x20 x19)) else (lt (v5 + 0) fun x16 => lt (v4 + 1) fun x17 => f_X10_owedBy_l4  a0 σ n x17 x16))) else (lt (v5 + 0) fun x13 => lt (v4 + 1) fun x14 => f_X10_owedBy_l4  a0 σ n x14 x13))))
def f_X10_owedBy (a0 : Int32) (σ : Mm) : Option (Int32) := f_X10_owedBy_l4  a0 σ 8 0 0
def f_X10_owed (a0 : Int32) (σ : Mm) : Option (Int32 × Mm) := lt (up σ 198 12 0) fun σ1 => bnd (f_X10_isGardener a0 σ1) fun q2 => if q2 = 0 then (bnm (f_X10_throwing 1 σ1) fun q4 σ5 => some (q4, σ5)) else (bnd (f_X10_owedBy a0 σ1) fun q6 => some (q6, σ1))
def f_X10_measured (a0 : Int32) (a1 : Int32) (σ : Mm) : Option (Int32) := bnd (f_X10_visitorAt a1 σ) fun q1 => if a0 = 0 then (gd q1 86 (some (σ 199 q1.toNatClampNeg))) else (if a0 = 1 then (gd (q1 + 2) 86 (some (σ 199 (q1 + 2).toNatClampNeg))) else (if a0 = 2 then (bnd (f_X10_lostOf a1 σ) fun q5 => some q5) else (gd (q1 + 5) 86 (some (σ 199 (q1 + 5).toNatClampNeg)))))
def f_X10_ranked_l41 (K : Int32 → Int32 → Option (Int32 × Mm)) (v6 : Int32) (a0 : Int32) (a1 : Int32) (σ1 : Mm) : Nat → Int32 → Int32 → Option (Int32 × Mm)
  | 0, _, _ => none
  | n + 1, v15, v16 => if (σ1 199 1) ≤ v15 then (K v15 v16) else (bnd (f_X10_measured a0 v15 σ1) fun q18 => bnd (f_X10_measured a0 v6 σ1) fun q19 => lt (q18 - q19) fun x20 => if 0 < x20 then (lt (v16 + 1) fun x22 => lt (v15 + 1) fun x23 => f_X10_ranked_l41 K v6 a0 a1 σ1 n x23 x22) else (if x20 = 0 then (if v6 ≤ v15 then (lt (v16 + 0) fun x28 => lt (v15 + 1) fun x29 => f_X10_ranked_l41 K v6 a0 a1 σ1 n x29 x28) else (lt (v16 + 1) fun x30 => lt (v15 + 1) fun x31 => f_X10_ranked_l41 K v6 a0 a1 σ1 n x31 x30)) else (lt (v16 + 0) fun x25 => lt (v15 + 1) fun x26 => f_X10_ranked_l41 K v6 a0 a1 σ1 n x26 x25)))
def f_X10_ranked_l25 (a0 : Int32) (a1 : Int32) (σ1 : Mm) : Nat → Int32 → Option (Int32 × Mm)
  | 0, _ => none
  | n + 1, v6 => if (σ1 199 1) ≤ v6 then (bnm (f_X10_throwing 2 σ1) fun q8 σ9 => some (q8, σ9)) else (lt (fun v10 v11 => if v11 = a1 then (some (v6, σ1)) else (lt (v6 + 1) fun x14 => f_X10_ranked_l25  a0 a1 σ1 n x14)) fun K => f_X10_ranked_l41 K v6 a0 a1 σ1 8 0 0)
def f_X10_ranked (a0 : Int32) (a1 : Int32) (σ : Mm) : Option (Int32 × Mm) := lt (up σ 198 12 0) fun σ1 => bnd (f_X10_in a0.toInt64 0 3 σ1) fun q2 => if q2 = 0 then (bnm (f_X10_throwing 1 σ1) fun q32 σ33 => some (q32, σ33)) else (f_X10_ranked_l25  a0 a1 σ1 8 0)
def f_X10_richest_l22 (K : Int32 → Int32 → Option (Int32 × Mm)) (v4 : Int32) (a0 : Int32) (σ1 : Mm) : Nat → Int32 → Int32 → Option (Int32 × Mm)
  | 0, _, _ => none
  | n + 1, v13, v14 => if (σ1 199 0) ≤ v13 then (K v13 v14) else (bnd (f_X10_gardenerAt v13 σ1) fun q16 => gd q16 86 (bnd (f_X10_gardenerAt v4 σ1) fun q17 => gd q17 86 (lt ((σ1 199 q16.toNatClampNeg) - (σ1 199 q17.toNatClampNeg)) fun x18 => if x18 = 0 then (bnd (f_X10_owedBy v4 σ1) fun q31 => bnd (f_X10_owedBy v13 σ1) fun q32 => lt (q31 - q32) fun x33 => if 0 < x33 then (lt (v14 + 1) fun x35 => lt (v13 + 1) fun x36 => f_X10_richest_l22 K v4 a0 σ1 n x36 x35) else (if x33 = 0 then (if v4 ≤ v13 then (lt (v14 + 0) fun x41 => lt (v13 + 1) fun x42 => f_X10_richest_l22 K v4 a0 σ1 n x42 x41) else (lt (v14 + 1) fun x43 => lt (v13 + 1) fun x44 => f_X10_richest_l22 K v4 a0 σ1 n x44 x43)) else (lt (v14 + 0) fun x38 => lt (v13 + 1) fun x39 => f_X10_richest_l22 K v4 a0 σ1 n x39 x38))) else (if 0 < x18 then (lt (v14 + 1) fun x21 => lt (v13 + 1) fun x22 => f_X10_richest_l22 K v4 a0 σ1 n x22 x21) else (if x18 = 0 then (if v4 ≤ v13 then (lt (v14 + 0) fun x27 => lt (v13 + 1) fun x28 => f_X10_richest_l22 K v4 a0 σ1 n x28 x27) else (lt (v14 + 1) fun x29 => lt (v13 + 1) fun x30 => f_X10_richest_l22 K v4 a0 σ1 n x30 x29)) else (lt (v14 + 0) fun x24 => lt (v13 + 1) fun x25 => f_X10_richest_l22 K v4 a0 σ1 n x25 x24))))))
def f_X10_richest_l7 (a0 : Int32) (σ1 : Mm) : Nat → Int32 → Option (Int32 × Mm)
  | 0, _ => none
  | n + 1, v4 => if (σ1 199 0) ≤ v4 then (bnm (f_X10_throwing 1 σ1) fun q6 σ7 => some (q6, σ7)) else (lt (fun v8 v9 => if v9 = a0 then (some (v4, σ1)) else (lt (v4 + 1) fun x12 => f_X10_richest_l7  a0 σ1 n x12)) fun K => f_X10_richest_l22 K v4 a0 σ1 8 0 0)
def f_X10_richest (a0 : Int32) (σ : Mm) : Option (Int32 × Mm) := lt (up σ 198 12 0) fun σ1 => f_X10_richest_l7  a0 σ1 8 0
def f_X10_append (a0 : Int32) (σ : Mm) : Option (Int32 × Mm) := lt (up σ 198 12 0) fun σ1 => if (σ1 198 11) = 60 then (bnm (f_X10_throwing 1 σ1) fun q5 σ6 => some (q5, σ6)) else (gd (σ1 198 11) 60 (lt (up σ1 203 (σ1 198 11).toNatClampNeg a0) fun σ3 => lt (up σ3 198 11 ((σ3 198 11) + 1)) fun σ4 => some ((σ4 198 11), σ4)))
def f_X10_here (σ : Mm) : Option (Int32) := if (σ 198 17) ≤ (σ 198 16) then (some (-1)) else (gd (σ 198 16) 60 (some (σ 203 (σ 198 16).toNatClampNeg)))
def f_X10_expects (a0 : Int32) (σ : Mm) : Option (Mm) := if (σ 198 18) = 0 then (if a0 = 0 then (lt (up σ 198 18 1) fun σ11 => if (σ11 198 18) = 0 then (lt (up σ11 198 16 ((σ11 198 16) + 1)) fun σ13 => some σ13) else (lt (up σ11 198 16 ((σ11 198 16) + 0)) fun σ14 => some σ14)) else (lt (up σ 198 18 0) fun σ7 => if (σ7 198 18) = 0 then (lt (up σ7 198 16 ((σ7 198 16) + 1)) fun σ9 => some σ9) else (lt (up σ7 198 16 ((σ7 198 16) + 0)) fun σ10 => some σ10))) else (lt (up σ 198 18 1) fun σ2 => if (σ2 198 18) = 0 then (lt (up σ2 198 16 ((σ2 198 16) + 1)) fun σ4 => some σ4) else (lt (up σ2 198 16 ((σ2 198 16) + 0)) fun σ5 => some σ5))
def f_X10_digit (σ : Mm) : Option (Int32 × Mm) := bnd (f_X10_here σ) fun q1 => lt (q1 - 48) fun x2 => bnd (f_X10_here σ) fun q3 => bnd (f_X10_in q3.toInt64 48 57 σ) fun q4 => bnd (f_X10_expects q4 σ) fun σ6 => if (σ6 198 18) = 0 then (some (x2, σ6)) else (some (0, σ6))
def f_X10_number (σ : Mm) : Option (Int32 × Mm) := bnm (f_X10_digit σ) fun q1 σ2 => if (σ2 198 18) = 0 then (bnd (f_X10_here σ2) fun q4 => bnd (f_X10_in q4.toInt64 48 57 σ2) fun q5 => if q5 = 0 then (some (q1, σ2)) else (bnm (f_X10_digit σ2) fun q7 σ8 => some (((10 * q1) + q7), σ8))) else (some (q1, σ2))
def f_X10_directionOf (a0 : Int32) (σ : Mm) : Option (Int32) := if a0 = 110 then (some 0) else (if a0 = 101 then (some 1) else (if a0 = 115 then (some 2) else (if a0 = 119 then (some 3) else (some (-1)))))
def f_X10_cells (a0 : Int32) (σ : Mm) : Option (Mm) := bnm (f_X10_number σ) fun q1 σ2 => gd a0 244 (lt (up σ2 205 a0.toNatClampNeg q1) fun σ3 => bnd (f_X10_here σ3) fun q4 => if q4 = 45 then (bnd (f_X10_expects 1 σ3) fun σ12 => bnm (f_X10_number σ12) fun q13 σ14 => gd (a0 + 1) 244 (lt (up σ14 205 (a0 + 1).toNatClampNeg q13) fun σ15 => some σ15)) else (bnd (f_X10_expects 0 σ3) fun σ7 => bnm (f_X10_number σ7) fun q8 σ9 => gd (a0 + 1) 244 (lt (up σ9 205 (a0 + 1).toNatClampNeg q8) fun σ10 => some σ10)))
def f_X10_readOrder (σ : Mm) : Option (Mm) := lt (4 * (σ 198 15)) fun x1 => bnd (f_X10_here σ) fun q2 => lt (fun y3 => bnd (f_X10_expects y3 σ) fun σ6 => gd x1 244 (lt (up σ6 205 x1.toNatClampNeg q2) fun σ7 => lt (up σ7 198 15 ((σ7 198 15) + 1)) fun σ8 => if q2 = 98 then (bnm (f_X10_digit σ8) fun q10 σ11 => gd (x1 + 1) 244 (lt (up σ11 205 (x1 + 1).toNatClampNeg q10) fun σ12 => bnd (f_X10_here σ12) fun q13 => if q13 = 62 then (bnd (f_X10_expects 1 σ12) fun σ33 => bnm (f_X10_digit σ33) fun q34 σ35 => gd (x1 + 2) 244 (lt (up σ35 205 (x1 + 2).toNatClampNeg q34) fun σ36 => bnd (f_X10_here σ36) fun q37 => if q37 = 42 then (bnd (f_X10_expects 1 σ36) fun σ45 => bnm (f_X10_digit σ45) fun q46 σ47 => gd (x1 + 3) 244 (lt (up σ47 205 (x1 + 3).toNatClampNeg q46) fun σ48 => some σ48)) else (bnd (f_X10_expects 0 σ36) fun σ40 => bnm (f_X10_digit σ40) fun q41 σ42 => gd (x1 + 3) 244 (lt (up σ42 205 (x1 + 3).toNatClampNeg q41) fun σ43 => some σ43)))) else (bnd (f_X10_expects 0 σ12) fun σ16 => bnm (f_X10_digit σ16) fun q17 σ18 => gd (x1 + 2) 244 (lt (up σ18 205 (x1 + 2).toNatClampNeg q17) fun σ19 => bnd (f_X10_here σ19) fun q20 => if q20 = 42 then (bnd (f_X10_expects 1 σ19) fun σ28 => bnm (f_X10_digit σ28) fun q29 σ30 => gd (x1 + 3) 244 (lt (up σ30 205 (x1 + 3).toNatClampNeg q29) fun σ31 => some σ31)) else (bnd (f_X10_expects 0 σ19) fun σ23 => bnm (f_X10_digit σ23) fun q24 σ25 => gd (x1 + 3) 244 (lt (up σ25 205 (x1 + 3).toNatClampNeg q24) fun σ26 => some σ26)))))) else (if q2 = 103 then (bnm (f_X10_number σ8) fun q50 σ51 => gd (x1 + 1) 244 (lt (up σ51 205 (x1 + 1).toNatClampNeg q50) fun σ52 => some σ52)) else (if q2 = 104 then (bnd (f_X10_cells (x1 + 1) σ8) fun σ55 => bnd (f_X10_here σ55) fun q56 => if q56 = 61 then (bnd (f_X10_expects 1 σ55) fun σ64 => bnm (f_X10_digit σ64) fun q65 σ66 => gd (x1 + 3) 244 (lt (up σ66 205 (x1 + 3).toNatClampNeg q65) fun σ67 => some σ67)) else (bnd (f_X10_expects 0 σ55) fun σ59 => bnm (f_X10_digit σ59) fun q60 σ61 => gd (x1 + 3) 244 (lt (up σ61 205 (x1 + 3).toNatClampNeg q60) fun σ62 => some σ62))) else (if q2 = 109 then (bnd (f_X10_here σ8) fun q69 => if q69 = 120 then (lt (up σ8 198 16 ((σ8 198 16) + 1)) fun σ74 => gd (x1 + 1) 244 (lt (up σ74 205 (x1 + 1).toNatClampNeg (-1)) fun σ75 => some σ75)) else (bnm (f_X10_number σ8) fun q71 σ72 => gd (x1 + 1) 244 (lt (up σ72 205 (x1 + 1).toNatClampNeg q71) fun σ73 => some σ73))) else (if q2 = 114 then (bnm (f_X10_digit σ8) fun q77 σ78 => gd (x1 + 1) 244 (lt (up σ78 205 (x1 + 1).toNatClampNeg q77) fun σ79 => bnd (f_X10_here σ79) fun q80 => if q80 = 43 then (bnd (f_X10_expects 1 σ79) fun σ88 => bnm (f_X10_digit σ88) fun q89 σ90 => gd (x1 + 2) 244 (lt (up σ90 205 (x1 + 2).toNatClampNeg q89) fun σ91 => some σ91)) else (bnd (f_X10_expects 0 σ79) fun σ83 => bnm (f_X10_digit σ83) fun q84 σ85 => gd (x1 + 2) 244 (lt (up σ85 205 (x1 + 2).toNatClampNeg q84) fun σ86 => some σ86)))) else (if q2 = 116 then (bnm (f_X10_digit σ8) fun q93 σ94 => gd (x1 + 1) 244 (lt (up σ94 205 (x1 + 1).toNatClampNeg q93) fun σ95 => bnd (f_X10_here σ95) fun q96 => if q96 = 58 then (bnd (f_X10_expects 1 σ95) fun σ103 => bnd (f_X10_cells (x1 + 2) σ103) fun σ105 => some σ105) else (bnd (f_X10_expects 0 σ95) fun σ99 => bnd (f_X10_cells (x1 + 2) σ99) fun σ101 => some σ101))) else (if q2 = 118 then (bnm (f_X10_number σ8) fun q107 σ108 => gd (x1 + 1) 244 (lt (up σ108 205 (x1 + 1).toNatClampNeg q107) fun σ109 => some σ109)) else (if q2 = 119 then (bnm (f_X10_digit σ8) fun q111 σ112 => gd (x1 + 1) 244 (lt (up σ112 205 (x1 + 1).toNatClampNeg q111) fun σ113 => bnd (f_X10_here σ113) fun q114 => bnd (f_X10_directionOf q114 σ113) fun q115 => gd (x1 + 2) 244 (lt (up σ113 205 (x1 + 2).toNatClampNeg q115) fun σ116 => gd (x1 + 2) 244 (if (σ116 205 (x1 + 2).toNatClampNeg) = (-1) then (bnd (f_X10_expects 0 σ116) fun σ119 => some σ119) else (bnd (f_X10_expects 1 σ116) fun σ121 => some σ121))))) else (some σ8)))))))))) fun K4 => if q2 = 104 then (K4 1) else (if q2 = 115 then (K4 1) else (if q2 = 116 then (K4 1) else (if q2 = 109 then (K4 1) else (if q2 = 103 then (K4 1) else (if q2 = 118 then (K4 1) else (if q2 = 98 then (K4 1) else (if q2 = 119 then (K4 1) else (if q2 = 114 then (K4 1) else (K4 0)))))))))
def f_X10_does (a0 : Int32) (σ : Mm) : Option (Mm) := gd (a0 + 1) 244 (lt (σ 205 (a0 + 1).toNatClampNeg) fun x1 => gd (a0 + 2) 244 (lt (σ 205 (a0 + 2).toNatClampNeg) fun x2 => gd (a0 + 3) 244 (lt (σ 205 (a0 + 3).toNatClampNeg) fun x3 => gd a0 244 (if (σ 205 a0.toNatClampNeg) = 98 then (bnm (f_X10_bondIt x1 x2 x3 σ) fun q5 σ6 => some σ6) else (if (σ 205 a0.toNatClampNeg) = 103 then (bnm (f_X10_gardenerIt x1 σ) fun q8 σ9 => some σ9) else (if (σ 205 a0.toNatClampNeg) = 104 then (bnm (f_X10_hedgeIt x1 x2 x3 σ) fun q11 σ12 => some σ12) else (if (σ 205 a0.toNatClampNeg) = 109 then (bnm (f_X10_minotaurIt x1 σ) fun q14 σ15 => some σ15) else (if (σ 205 a0.toNatClampNeg) = 115 then (bnm (f_X10_summerIt σ) fun q17 σ18 => some σ18) else (if (σ 205 a0.toNatClampNeg) = 116 then (bnm (f_X10_trimIt x1 x2 x3 σ) fun q20 σ21 => some σ21) else (if (σ 205 a0.toNatClampNeg) = 118 then (bnm (f_X10_visitorIt x1 σ) fun q23 σ24 => some σ24) else (if (σ 205 a0.toNatClampNeg) = 119 then (bnm (f_X10_walkIt x1 x2 σ) fun q26 σ27 => some σ27) else (bnm (f_X10_restIt x1 x2 σ) fun q28 σ29 => some σ29))))))))))))
def f_X10_commands_l162 (v14 : Int32) (v8 : Int32) : Nat → Int32 → Mm → Option (Int32 × Mm)
  | 0, _, _ => none
  | n + 1, v20, σ21 => if 86 ≤ v20 then (lt (up σ21 198 8 v14) fun σ23 => bnm (f_X10_throwing 2 σ23) fun q24 σ25 => some (q24, σ25)) else (gd v20 86 (gd v20 86 (lt (up σ21 199 v20.toNatClampNeg (σ21 200 v20.toNatClampNeg)) fun σ26 => lt (v20 + 1) fun x27 => f_X10_commands_l162  v14 v8 n x27 σ26)))
def f_X10_commands_l138 (K : Int32 → Mm → Option (Int32 × Mm)) (v8 : Int32) : Nat → Int32 → Mm → Option (Int32 × Mm)
  | 0, _, _ => none
  | n + 1, v28, σ29 => if (σ29 198 15) ≤ v28 then (bnm (f_X10_changed (σ29 198 15) σ29) fun q31 σ32 => some (q31, σ32)) else (bnd (f_X10_does (4 * v28) σ29) fun σ34 => if (σ34 198 12) ≤ 0 then (lt (v28 + 1) fun x36 => f_X10_commands_l138 K v8 n x36 σ34) else (K v28 σ34))
def f_X10_commands_l162b (v41 : Int32) (v8 : Int32) : Nat → Int32 → Mm → Option (Int32 × Mm)
  | 0, _, _ => none
  | n + 1, v47, σ48 => if 86 ≤ v47 then (lt (up σ48 198 8 v41) fun σ50 => bnm (f_X10_throwing 2 σ50) fun q51 σ52 => some (q51, σ52)) else (gd v47 86 (gd v47 86 (lt (up σ48 199 v47.toNatClampNeg (σ48 200 v47.toNatClampNeg)) fun σ53 => lt (v47 + 1) fun x54 => f_X10_commands_l162b  v41 v8 n x54 σ53)))
def f_X10_commands_l138b (K : Int32 → Mm → Option (Int32 × Mm)) (v8 : Int32) : Nat → Int32 → Mm → Option (Int32 × Mm)
  | 0, _, _ => none
  | n + 1, v55, σ56 => if (σ56 198 15) ≤ v55 then (bnm (f_X10_changed (σ56 198 15) σ56) fun q58 σ59 => some (q58, σ59)) else (bnd (f_X10_does (4 * v55) σ56) fun σ61 => if (σ61 198 12) ≤ 0 then (lt (v55 + 1) fun x63 => f_X10_commands_l138b K v8 n x63 σ61) else (K v55 σ61))
def f_X10_commands_l34 (K : Int32 → Mm → Option (Int32 × Mm)) : Nat → Int32 → Mm → Option (Int32 × Mm)
  | 0, _, _ => none
  | n + 1, v66, σ67 => if v66 = 0 then (K v66 σ67) else (bnd (f_X10_readOrder σ67) fun σ70 => if (σ70 198 18) = 0 then (if (σ70 198 17) ≤ (σ70 198 16) then (f_X10_commands_l34 K  n 0 σ70) else (bnd (f_X10_here σ70) fun q73 => if q73 = 59 then (bnd (f_X10_expects 1 σ70) fun σ79 => if (σ79 198 18) = 0 then (f_X10_commands_l34 K  n 1 σ79) else (f_X10_commands_l34 K  n 0 σ79)) else (bnd (f_X10_expects 0 σ70) fun σ76 => if (σ76 198 18) = 0 then (f_X10_commands_l34 K  n 1 σ76) else (f_X10_commands_l34 K  n 0 σ76)))) else (f_X10_commands_l34 K  n 0 σ70))
def f_X10_commands (σ : Mm) : Option (Int32 × Mm) := bnd (f_X10_starts σ) fun σ2 => lt (up σ2 198 17 (σ2 198 11)) fun σ3 => lt (up σ3 198 11 0) fun σ4 => lt (up σ4 198 16 0) fun σ5 => lt (up σ5 198 15 0) fun σ6 => lt (up σ6 198 18 0) fun σ7 => lt (fun v8 σ9 => if (σ9 198 18) = 0 then (lt (up σ9 198 9 (-1)) fun σ12 => if (σ12 198 18) = 0 then (lt (fun v14 σ15 => f_X10_commands_l162  v14 v8 90 0 σ15) fun K => f_X10_commands_l138 K v8 90 0 σ12) else (bnm (f_X10_throwing 1 σ12) fun q37 σ38 => some (q37, σ38))) else (lt (up σ9 198 9 (σ9 198 16)) fun σ39 => if (σ39 198 18) = 0 then (lt (fun v41 σ42 => f_X10_commands_l162b  v41 v8 90 0 σ42) fun K => f_X10_commands_l138b K v8 90 0 σ39) else (bnm (f_X10_throwing 1 σ39) fun q64 σ65 => some (q64, σ65)))) fun K => f_X10_commands_l34 K  90 1 σ7
def f_X10_faultPosition (σ : Mm) : Option (Int32 × Mm) := lt (up σ 198 12 0) fun σ1 => some ((σ1 198 9), σ1)
def f_X10_reason (a0 : Int32) (σ : Mm) : Option (Int32 × Mm) := lt (up σ 198 12 0) fun σ1 => bnd (f_X10_in a0.toInt64 0 2 σ1) fun q2 => if q2 = 0 then (bnm (f_X10_throwing 1 σ1) fun q9 σ10 => some (q9, σ10)) else (if (σ1 198 6) = 0 then (bnm (f_X10_throwing 2 σ1) fun q7 σ8 => some (q7, σ8)) else (if a0 = 0 then (some ((σ1 198 6), σ1)) else (if a0 = 1 then (some ((σ1 198 7), σ1)) else (some ((σ1 198 8), σ1)))))
def f_X10_sign (a0 : Int32) (σ : Mm) : Option (Mm) := gd (σ 198 20) 30 (lt (up σ 206 (σ 198 20).toNatClampNeg a0) fun σ1 => lt (up σ1 198 20 ((σ1 198 20) + 1)) fun σ2 => some σ2)
def f_X10_writesNumber_l20 (v1 : Int32) (a0 : Int32) : Nat → Int32 → Mm → Option (Mm)
  | 0, _, _ => none
  | n + 1, v6, σ7 => if v6 ≤ 0 then (some σ7) else (nz v6 (bnd (f_X10_sign (48 + ((a0 / v6) - (a0 / v6) / 10 * 10)) σ7) fun σ10 => lt (v6 / 10) fun x11 => f_X10_writesNumber_l20  v1 a0 n x11 σ10))
def f_X10_writesNumber_l2 (K : Int32 → Option (Mm)) (a0 : Int32) (σ : Mm) : Nat → Int32 → Option (Mm)
  | 0, _ => none
  | n + 1, v12 => nz v12 (if (a0 / v12) ≤ 9 then (K v12) else (lt (v12 * 10) fun x14 => f_X10_writesNumber_l2 K a0 σ n x14))
def f_X10_writesNumber (a0 : Int32) (σ : Mm) : Option (Mm) := lt (fun v1 => f_X10_writesNumber_l20  v1 a0 12 v1 σ) fun K => f_X10_writesNumber_l2 K a0 σ 12 1
def f_X10_line (a0 : Int32) (σ : Mm) : Option (Int32 × Mm) := lt (up σ 198 12 0) fun σ1 => bnd (f_X10_isVisitor a0 σ1) fun q2 => if q2 = 0 then (bnm (f_X10_throwing 1 σ1) fun q47 σ48 => some (q47, σ48)) else (bnd (f_X10_visitorAt a0 σ1) fun q4 => lt (up σ1 198 20 0) fun σ5 => gd (q4 + 7) 86 (if (σ5 199 (q4 + 7).toNatClampNeg) = 1 then (bnd (f_X10_sign 111 σ5) fun σ26 => bnd (f_X10_sign 117 σ26) fun σ28 => bnd (f_X10_sign 116 σ28) fun σ30 => bnd (f_X10_sign 43 σ30) fun σ32 => gd (q4 + 2) 86 (bnd (f_X10_writesNumber (σ32 199 (q4 + 2).toNatClampNeg) σ32) fun σ34 => gd (q4 + 4) 86 (if (σ34 199 (q4 + 4).toNatClampNeg) = (-1) then (some ((σ34 198 20), σ34)) else (bnd (f_X10_sign 35 σ34) fun σ37 => gd (q4 + 4) 86 (bnd (f_X10_writesNumber (σ37 199 (q4 + 4).toNatClampNeg) σ37) fun σ39 => bnd (f_X10_sign 42 σ39) fun σ41 => gd (q4 + 5) 86 (bnd (f_X10_writesNumber (σ41 199 (q4 + 5).toNatClampNeg) σ41) fun σ43 => gd (q4 + 6) 86 (if (σ43 199 (q4 + 6).toNatClampNeg) = 1 then (bnd (f_X10_sign 33 σ43) fun σ46 => some ((σ46 198 20), σ46)) else (some ((σ43 198 20), σ43))))))))) else (gd (q4 + 1) 86 (bnd (f_X10_writesNumber (σ5 199 (q4 + 1).toNatClampNeg) σ5) fun σ8 => bnd (f_X10_sign 43 σ8) fun σ10 => gd (q4 + 2) 86 (bnd (f_X10_writesNumber (σ10 199 (q4 + 2).toNatClampNeg) σ10) fun σ12 => gd (q4 + 4) 86 (if (σ12 199 (q4 + 4).toNatClampNeg) = (-1) then (some ((σ12 198 20), σ12)) else (bnd (f_X10_sign 35 σ12) fun σ15 => gd (q4 + 4) 86 (bnd (f_X10_writesNumber (σ15 199 (q4 + 4).toNatClampNeg) σ15) fun σ17 => bnd (f_X10_sign 42 σ17) fun σ19 => gd (q4 + 5) 86 (bnd (f_X10_writesNumber (σ19 199 (q4 + 5).toNatClampNeg) σ19) fun σ21 => gd (q4 + 6) 86 (if (σ21 199 (q4 + 6).toNatClampNeg) = 1 then (bnd (f_X10_sign 33 σ21) fun σ24 => some ((σ24 198 20), σ24)) else (some ((σ21 198 20), σ21))))))))))))
def f_X10_visitorsIn_l4 (a0 : Int32) (σ : Mm) : Nat → Int32 → Int32 → Option (Int32)
  | 0, _, _ => none
  | n + 1, v4, v5 => if (σ 199 1) ≤ v4 then (some v5) else (bnd (f_X10_visitorAt v4 σ) fun q7 => gd (q7 + 7) 86 (if (σ 199 (q7 + 7).toNatClampNeg) = 0 then (bnd (f_X10_visitorAt v4 σ) fun q11 => gd (q11 + 1) 86 (if (σ 199 (q11 + 1).toNatClampNeg) = a0 then (lt (v5 + 1) fun x15 => lt (v4 + 1) fun x16 => f_X10_visitorsIn_l4  a0 σ n x16 x15) else (lt (v5 + 0) fun x13 => lt (v4 + 1) fun x14 => f_X10_visitorsIn_l4  a0 σ n x14 x13))) else (lt (v5 + 0) fun x9 => lt (v4 + 1) fun x10 => f_X10_visitorsIn_l4  a0 σ n x10 x9)))
def f_X10_visitorsIn (a0 : Int32) (σ : Mm) : Option (Int32) := f_X10_visitorsIn_l4  a0 σ 8 0 0
def f_X10_row_l32 (a0 : Int32) : Nat → Int32 → Mm → Option (Int32 × Mm)
  | 0, _, _ => none
  | n + 1, v9, σ10 => if ((4 * a0) + 4) ≤ v9 then (some ((σ10 198 20), σ10)) else (if v9 ≤ (4 * a0) then (if (σ10 199 2) = v9 then (bnd (f_X10_sign 77 σ10) fun σ19 => lt (v9 + 1) fun x20 => f_X10_row_l32  a0 n x20 σ19) else (bnd (f_X10_visitorsIn v9 σ10) fun q14 => bnd (f_X10_sign (48 + q14) σ10) fun σ16 => lt (v9 + 1) fun x17 => f_X10_row_l32  a0 n x17 σ16)) else (bnd (f_X10_hedgeAt (v9 - 1) v9 σ10) fun q21 => bnd (f_X10_isGapAt q21 σ10) fun q22 => if q22 = 0 then (bnd (f_X10_sign 124 σ10) fun σ25 => if (σ25 199 2) = v9 then (bnd (f_X10_sign 77 σ25) fun σ32 => lt (v9 + 1) fun x33 => f_X10_row_l32  a0 n x33 σ32) else (bnd (f_X10_visitorsIn v9 σ25) fun q27 => bnd (f_X10_sign (48 + q27) σ25) fun σ29 => lt (v9 + 1) fun x30 => f_X10_row_l32  a0 n x30 σ29)) else (bnd (f_X10_sign 32 σ10) fun σ35 => if (σ35 199 2) = v9 then (bnd (f_X10_sign 77 σ35) fun σ42 => lt (v9 + 1) fun x43 => f_X10_row_l32  a0 n x43 σ42) else (bnd (f_X10_visitorsIn v9 σ35) fun q37 => bnd (f_X10_sign (48 + q37) σ35) fun σ39 => lt (v9 + 1) fun x40 => f_X10_row_l32  a0 n x40 σ39))))
def f_X10_row (a0 : Int32) (σ : Mm) : Option (Int32 × Mm) := lt (up σ 198 12 0) fun σ1 => bnd (f_X10_in a0.toInt64 0 3 σ1) fun q2 => if q2 = 0 then (bnm (f_X10_throwing 1 σ1) fun q44 σ45 => some (q44, σ45)) else (lt (up σ1 198 20 0) fun σ4 => lt (4 * a0) fun x5 => f_X10_row_l32  a0 8 x5 σ4)
def f_X10_character (a0 : Int32) (σ : Mm) : Option (Int32 × Mm) := lt (up σ 198 12 0) fun σ1 => bnd (f_X10_in a0.toInt64 0 (((σ1 198 20) - 1).toInt64) σ1) fun q2 => if q2 = 0 then (bnm (f_X10_throwing 1 σ1) fun q4 σ5 => cz ((q4.toUInt32 % 65536).toInt32) (some ((q4.toUInt32 % 65536).toInt32, σ5))) else (gd a0 30 (cz (((σ1 206 a0.toNatClampNeg).toUInt32 % 65536).toInt32) (some (((σ1 206 a0.toNatClampNeg).toUInt32 % 65536).toInt32, σ1))))
def f_X10_coins_l34 (σ : Mm) : Nat → Int32 → Int32 → Option (Int32)
  | 0, _, _ => none
  | n + 1, v7, v8 => if (σ 199 1) ≤ v7 then (some v8) else (bnd (f_X10_visitorAt v7 σ) fun q10 => gd q10 86 (lt (v8 + (σ 199 q10.toNatClampNeg)) fun x11 => lt (v7 + 1) fun x12 => f_X10_coins_l34  σ n x12 x11))
def f_X10_coins_l4 (K : Int32 → Int32 → Option (Int32)) (σ : Mm) : Nat → Int32 → Int32 → Option (Int32)
  | 0, _, _ => none
  | n + 1, v13, v14 => if (σ 199 0) ≤ v13 then (K v13 v14) else (bnd (f_X10_gardenerAt v13 σ) fun q16 => gd q16 86 (lt (v14 + (σ 199 q16.toNatClampNeg)) fun x17 => lt (v13 + 1) fun x18 => f_X10_coins_l4 K σ n x18 x17))
def f_X10_coins (σ : Mm) : Option (Int32) := lt (fun v1 v2 => f_X10_coins_l34  σ 8 0 v2) fun K => f_X10_coins_l4 K σ 8 0 0
def f_X10_voids_l4 (σ : Mm) : Nat → Int32 → Int32 → Option (Int32)
  | 0, _, _ => none
  | n + 1, v4, v5 => if (σ 199 1) ≤ v4 then (some v5) else (bnd (f_X10_lasts v4 σ) fun q7 => if q7 = 0 then (lt (v5 + 0) fun x9 => lt (v4 + 1) fun x10 => f_X10_voids_l4  σ n x10 x9) else (bnd (f_X10_visitorAt v4 σ) fun q11 => gd (q11 + 6) 86 (lt (v5 + (σ 199 (q11 + 6).toNatClampNeg)) fun x12 => lt (v4 + 1) fun x13 => f_X10_voids_l4  σ n x13 x12)))
def f_X10_voids (σ : Mm) : Option (Int32) := f_X10_voids_l4  σ 8 0 0
def f_X10_outs_l4 (σ : Mm) : Nat → Int32 → Int32 → Option (Int32)
  | 0, _, _ => none
  | n + 1, v4, v5 => if (σ 199 1) ≤ v4 then (some v5) else (bnd (f_X10_visitorAt v4 σ) fun q7 => gd (q7 + 7) 86 (lt (v5 + (σ 199 (q7 + 7).toNatClampNeg)) fun x8 => lt (v4 + 1) fun x9 => f_X10_outs_l4  σ n x9 x8))
def f_X10_outs (σ : Mm) : Option (Int32) := f_X10_outs_l4  σ 8 0 0
def f_X10_account (a0 : Int32) (σ : Mm) : Option (Int32 × Mm) := lt (up σ 198 12 0) fun σ1 => if a0 = 0 then (gd a0 86 (some ((σ1 199 a0.toNatClampNeg), σ1))) else (if a0 = 1 then (gd a0 86 (some ((σ1 199 a0.toNatClampNeg), σ1))) else (if a0 = 2 then (bnd (f_X10_outs σ1) fun q5 => some (q5, σ1)) else (if a0 = 3 then (bnd (f_X10_lasting (-1) σ1) fun q7 => some (q7, σ1)) else (if a0 = 4 then (bnd (f_X10_voids σ1) fun q9 => some (q9, σ1)) else (if a0 = 5 then (bnd (f_X10_gaps σ1) fun q11 => some (q11, σ1)) else (if a0 = 6 then (gd ((3 + a0) - 6) 86 (some ((σ1 199 ((3 + a0) - 6).toNatClampNeg), σ1))) else (if a0 = 7 then (gd ((3 + a0) - 6) 86 (some ((σ1 199 ((3 + a0) - 6).toNatClampNeg), σ1))) else (if a0 = 8 then (gd ((3 + a0) - 6) 86 (some ((σ1 199 ((3 + a0) - 6).toNatClampNeg), σ1))) else (if a0 = 9 then (bnd (f_X10_coins σ1) fun q16 => some (q16, σ1)) else (if a0 = 10 then (some ((σ1 198 5), σ1)) else (if a0 = 11 then (some ((σ1 198 11), σ1)) else (bnm (f_X10_throwing 1 σ1) fun q19 σ20 => some (q19, σ20)))))))))))))
def f_X10_undo_l30 : Nat → Int32 → Mm → Option (Int32 × Mm)
  | 0, _, _ => none
  | n + 1, v7, σ8 => if 86 ≤ v7 then (some ((σ8 198 5), σ8)) else (gd ((86 * (σ8 198 5)) + v7) 688 (gd v7 86 (lt (up σ8 199 v7.toNatClampNeg (σ8 202 ((86 * (σ8 198 5)) + v7).toNatClampNeg)) fun σ10 => lt (v7 + 1) fun x11 => f_X10_undo_l30   n x11 σ10)))
def f_X10_undo (σ : Mm) : Option (Int32 × Mm) := lt (up σ 198 12 0) fun σ1 => if (σ1 198 5) = 0 then (bnm (f_X10_throwing 1 σ1) fun q12 σ13 => some (q12, σ13)) else (lt (up σ1 198 5 ((σ1 198 5) - 1)) fun σ3 => f_X10_undo_l30   90 0 σ3)
def f_X10_save_l7 : Nat → Int32 → Mm → Option (Int32 × Mm)
  | 0, _, _ => none
  | n + 1, v5, σ6 => if 86 ≤ v5 then (lt (up σ6 198 3 1) fun σ8 => some ((σ8 199 1), σ8)) else (gd v5 86 (gd v5 86 (lt (up σ6 201 v5.toNatClampNeg (σ6 199 v5.toNatClampNeg)) fun σ9 => lt (v5 + 1) fun x10 => f_X10_save_l7   n x10 σ9)))
def f_X10_save (σ : Mm) : Option (Int32 × Mm) := lt (up σ 198 12 0) fun σ1 => f_X10_save_l7   90 0 σ1
def f_X10_restore_l20 : Nat → Int32 → Mm → Option (Int32 × Mm)
  | 0, _, _ => none
  | n + 1, v6, σ7 => if 86 ≤ v6 then (lt (up σ7 198 5 0) fun σ9 => some ((σ9 199 1), σ9)) else (gd v6 86 (gd v6 86 (lt (up σ7 199 v6.toNatClampNeg (σ7 201 v6.toNatClampNeg)) fun σ10 => lt (v6 + 1) fun x11 => f_X10_restore_l20   n x11 σ10)))
def f_X10_restore (σ : Mm) : Option (Int32 × Mm) := lt (up σ 198 12 0) fun σ1 => if (σ1 198 3) = 0 then (bnm (f_X10_throwing 1 σ1) fun q12 σ13 => some (q12, σ13)) else (f_X10_restore_l20   90 0 σ1)
end
section
/-! SMALL NUMBERS and the words of the functions -/
theorem lt_d {α β : Type} (a : α) (f : α → β) : lt a f = f a := rfl
theorem bnd_d {α β : Type} (a : α) (f : α → Option β) : bnd (some a) f = f a := rfl
theorem bnm_d {α β : Type} (a : α) (σ : Mm) (f : α → Mm → Option β) : bnm (some (a, σ)) f = f a σ := rfl
theorem xb_d {α β : Type} (a : α) (σ : Mm) (f : α → Mm → Option ((β ⊕ Nat) × Mm)) : xb (some (.inl a, σ)) f = f a σ := rfl
theorem xb_n {α β : Type} (n : Nat) (σ : Mm) (f : α → Mm → Option ((β ⊕ Nat) × Mm)) : xb (some (.inr n, σ)) f = some (.inr n, σ) := rfl
theorem oc_d {α β : Type} (n : Option β) (f : α → Option β) : oc none n f = n := rfl
theorem oc_e {α β : Type} (x : α) (n : Option β) (f : α → Option β) : oc (some x) n f = f x := rfl
theorem bz_i0 {α : Type} (a : Option α) : bz 0 a = a := rfl
theorem bz_i1 {α : Type} (a : Option α) : bz 1 a = a := rfl
/-- a small number -/
abbrev I (n : Nat) : Int32 := Int32.ofNat n
theorem I_toInt {n : Nat} (h : n < 2147483648) : (I n).toInt = (n : Int) := Int32.toInt_ofNat_of_lt h
theorem I_clamp {n : Nat} (h : n < 2147483648) : (I n).toNatClampNeg = n := by
  show (I n).toInt.toNat = n
  rw [I_toInt h]; rfl
theorem I_lt {a b : Nat} (ha : a < 2147483648) (hb : b < 2147483648) : (I a < I b) ↔ a < b := by
  rw [Int32.lt_iff_toInt_lt, I_toInt ha, I_toInt hb]; omega
theorem I_le {a b : Nat} (ha : a < 2147483648) (hb : b < 2147483648) : (I a ≤ I b) ↔ a ≤ b := by
  rw [Int32.le_iff_toInt_le, I_toInt ha, I_toInt hb]; omega
theorem I_eq {a b : Nat} (ha : a < 2147483648) (hb : b < 2147483648) : (I a = I b) ↔ a = b := by
  rw [← Int32.toInt_inj, I_toInt ha, I_toInt hb]; omega
theorem I_n0 {a : Nat} (ha : a < 2147483648) : ¬ I a < 0 := by
  rw [Int32.lt_iff_toInt_lt, I_toInt ha]; show ¬ (a : Int) < 0; omega
theorem I_add (a b : Nat) : I a + I b = I (a + b) := Int32.toBitVec_inj.mp (BitVec.ofNat_add a b).symm
theorem gd_I {α : Type} {n N : Nat} {a : Option α} (hn : n < N) (hN : N < 2147483648) : gd (I n) N a = a := by
  unfold gd
  rw [if_neg]
  rintro (h | h)
  · exact I_n0 (by omega) h
  · rw [I_clamp (by omega)] at h; omega
/-- a number between 0 and N is small -/
theorem to_I {x : Int32} {N : Nat} (h0 : ¬ x < 0) (h1 : x < I N) (hN : N < 2147483648) : ∃ n, n < N ∧ x = I n := by
  have h2 : 0 ≤ x.toInt := by
    have := Int32.not_lt.mp h0
    simpa using Int32.le_iff_toInt_le.mp this
  have h3 : x.toInt < (N : Int) := by
    have := Int32.lt_iff_toInt_lt.mp h1
    rwa [I_toInt hN] at this
  refine ⟨x.toInt.toNat, by omega, ?_⟩
  rw [← Int32.toInt_inj, I_toInt (by omega)]
  omega
theorem up_e (σ : Mm) (i k : Nat) (v : Int32) : up σ i k v i = upd (σ i) k v := by unfold up; rw [if_pos rfl]
theorem up_n (σ : Mm) {i a : Nat} (k : Nat) (v : Int32) (h : a ≠ i) : up σ i k v a = σ a := by unfold up; rw [if_neg h]
theorem upd_e (f : Nat → Int32) (k : Nat) (v : Int32) : upd f k v k = v := by simp [upd]
theorem upd_n (f : Nat → Int32) {k j : Nat} (v : Int32) (h : j ≠ k) : upd f k v j = f j := by simp [upd, h]
theorem I_lit (n : Nat) : @OfNat.ofNat Int32 n Int32.instOfNat = I n := rfl
theorem I_m1 {a : Nat} (ha : a < 2147483648) : ¬ I a = -I 1 := by
  intro h
  have h1 := congrArg Int32.toInt h
  rw [I_toInt ha] at h1
  have : (-I 1).toInt = -1 := rfl
  omega
theorem I_sub {a b : Nat} (hb : b ≤ a) : I a - I b = I (a - b) := by
  have h : I a = I (a - b) + I b := by rw [I_add]; congr 1; omega
  rw [h]
  apply Int32.toBitVec_inj.mp
  show (I (a - b)).toBitVec + (I b).toBitVec - (I b).toBitVec = (I (a - b)).toBitVec
  exact BitVec.add_sub_cancel _ _
/-- a loop that counts from v to N -/
theorem loopI {β γ : Type} (f : Nat → Int32 → γ → Option β) (Kf : γ → Option β) (N : Nat) (Inv : Nat → γ → Prop) (hstop : ∀ n g, Inv N g → f (n + 1) (I N) g = Kf g)
    (hstep : ∀ n v g, v < N → Inv v g → ∃ g1, f (n + 1) (I v) g = f n (I (v + 1)) g1 ∧ Inv (v + 1) g1) : ∀ d v n g, v + d = N → d < n → Inv v g → ∃ g1, f n (I v) g = Kf g1 ∧ Inv N g1 := by
  intro d
  induction d with
  | zero =>
    intro v n g hv hn hi
    obtain ⟨n, rfl⟩ : ∃ m, n = m + 1 := ⟨n - 1, by omega⟩
    have : v = N := by omega
    subst this
    exact ⟨g, hstop n g hi, hi⟩
  | succ d ih =>
    intro v n g hv hn hi
    obtain ⟨n, rfl⟩ : ∃ m, n = m + 1 := ⟨n - 1, by omega⟩
    obtain ⟨g1, h1, h2⟩ := hstep n v g (by omega) hi
    obtain ⟨g2, h3, h4⟩ := ih (v + 1) n g1 (by omega) (by omega) h2
    exact ⟨g2, h1.trans h3, h4⟩
end
section
/-! GRAPH: the cells, the hedges between them, walks and what they cost -/
def loN (h : Nat) : Nat := ([0, 1, 2, 4, 5, 6, 8, 9, 10, 12, 13, 14, 0, 1, 2, 3, 4, 5, 6, 7, 8, 9, 10, 11] : List Nat).getD h 0
def hiN (h : Nat) : Nat := ([1, 2, 3, 5, 6, 7, 9, 10, 11, 13, 14, 15, 4, 5, 6, 7, 8, 9, 10, 11, 12, 13, 14, 15] : List Nat).getD h 0
def ed (h u v : Nat) : Prop := h < 24 ∧ ((u = loN h ∧ v = hiN h) ∨ (u = hiN h ∧ v = loN h))
theorem lohi (h : Nat) (hh : h < 24) : loN h < 16 ∧ hiN h < 16 := (by decide : ∀ h, h < 24 → loN h < 16 ∧ hiN h < 16) h hh
theorem ed.swap {h u v : Nat} (e : ed h u v) : ed h v u := ⟨e.1, e.2.elim (fun q => Or.inr ⟨q.2, q.1⟩) (fun q => Or.inl ⟨q.2, q.1⟩)⟩
theorem ed.lt {h u v : Nat} (e : ed h u v) : u < 16 ∧ v < 16 := by
  obtain ⟨h0, h1⟩ := e
  have h2 := lohi h h0
  rcases h1 with ⟨a, b⟩ | ⟨a, b⟩ <;> subst a <;> subst b
  · exact h2
  · exact ⟨h2.2, h2.1⟩
/-- a walk of n hops from s to v at the cost k; c: what a hedge costs, none where it can't be passed -/
def wk (c : Nat → Option Nat) (s : Nat) : Nat → Nat → Nat → Prop
  | 0, v, k => v = s ∧ k = 0
  | n + 1, v, k => ∃ h u j w, ed h u v ∧ c h = some w ∧ wk c s n u j ∧ k = j + w
/-- the same from its first hop on, within S -/
def wf (c : Nat → Option Nat) (S : Nat → Prop) (v : Nat) : Nat → Nat → Nat → Prop
  | 0, u, k => u = v ∧ k = 0 ∧ S u
  | n + 1, u, k => S u ∧ ∃ h x j w, ed h u x ∧ c h = some w ∧ wf c S v n x j ∧ k = w + j
theorem wf_start {c : Nat → Option Nat} {S : Nat → Prop} {v n u k : Nat} (h : wf c S v n u k) : S u := by
  cases n with
  | zero => exact h.2.2
  | succ n => exact h.1
theorem wf_weak {c : Nat → Option Nat} {S T : Nat → Prop} (hST : ∀ x, S x → T x) {v : Nat} : ∀ {n u k : Nat}, wf c S v n u k → wf c T v n u k := by
  intro n
  induction n with
  | zero => intro u k h; exact ⟨h.1, h.2.1, hST _ h.2.2⟩
  | succ n ih =>
    intro u k h
    obtain ⟨h1, g, x, j, w, h2, h3, h4, h5⟩ := h
    exact ⟨hST _ h1, g, x, j, w, h2, h3, ih h4, h5⟩
theorem wf_snoc {c : Nat → Option Nat} {S : Nat → Prop} {h u v w : Nat} (e : ed h u v) (hc : c h = some w) (hv : S v) : ∀ {n s j : Nat}, wf c S u n s j → wf c S v (n + 1) s (j + w) := by
  intro n
  induction n with
  | zero =>
    intro s j q
    obtain ⟨rfl, rfl, q3⟩ := q
    exact ⟨q3, h, v, 0, w, e, hc, ⟨rfl, rfl, hv⟩, by omega⟩
  | succ n ih =>
    intro s j q
    obtain ⟨q1, g, x, i, z, q2, q3, q4, rfl⟩ := q
    exact ⟨q1, g, x, i + w, z, q2, q3, ih q4, by omega⟩
theorem wk_cons {c : Nat → Option Nat} {h s u w : Nat} (e : ed h s u) (hc : c h = some w) : ∀ {n v j : Nat}, wk c u n v j → wk c s (n + 1) v (w + j) := by
  intro n
  induction n with
  | zero =>
    intro v j q
    obtain ⟨rfl, rfl⟩ := q
    exact ⟨h, s, 0, w, e, hc, ⟨rfl, rfl⟩, by omega⟩
  | succ n ih =>
    intro v j q
    obtain ⟨g, x, i, z, q2, q3, q4, rfl⟩ := q
    exact ⟨g, x, w + i, z, q2, q3, ih q4, by omega⟩
theorem wk_wf {c : Nat → Option Nat} {s : Nat} (hs : s < 16) : ∀ {n v k : Nat}, wk c s n v k → wf c (fun x => x < 16) v n s k := by
  intro n
  induction n with
  | zero =>
    intro v k q
    obtain ⟨rfl, rfl⟩ := q
    exact ⟨rfl, rfl, hs⟩
  | succ n ih =>
    intro v k q
    obtain ⟨g, x, i, z, q2, q3, q4, rfl⟩ := q
    exact wf_snoc q2 q3 q2.lt.2 (ih q4)
theorem wf_wk {c : Nat → Option Nat} {S : Nat → Prop} {v : Nat} : ∀ {n s k : Nat}, wf c S v n s k → wk c s n v k := by
  intro n
  induction n with
  | zero =>
    intro s k q
    obtain ⟨rfl, rfl, -⟩ := q
    exact ⟨rfl, rfl⟩
  | succ n ih =>
    intro s k q
    obtain ⟨q1, g, x, j, w, q2, q3, q4, rfl⟩ := q
    exact wk_cons q2 q3 (ih q4)
theorem wf_cut {c : Nat → Option Nat} {S : Nat → Prop} {v : Nat} (s : Nat) : ∀ {n u k : Nat}, wf c S v n u k → wf c (fun x => S x ∧ x ≠ s) v n u k ∨ ∃ n1 k1, n1 ≤ n ∧ k1 ≤ k ∧ wf c S v n1 s k1 := by
  intro n
  induction n with
  | zero =>
    intro u k q
    by_cases hu : u = s
    · subst hu
      exact Or.inr ⟨0, k, Nat.le_refl _, Nat.le_refl _, q⟩
    · exact Or.inl ⟨q.1, q.2.1, q.2.2, hu⟩
  | succ n ih =>
    intro u k q
    by_cases hu : u = s
    · subst hu
      exact Or.inr ⟨n + 1, k, Nat.le_refl _, Nat.le_refl _, q⟩
    · obtain ⟨q1, g, x, j, w, q2, q3, q4, rfl⟩ := q
      rcases ih q4 with h | ⟨n1, k1, h1, h2, h3⟩
      · exact Or.inl ⟨⟨q1, hu⟩, g, x, j, w, q2, q3, h, rfl⟩
      · exact Or.inr ⟨n1, k1, by omega, by omega, h3⟩
theorem wf_last {c : Nat → Option Nat} {S : Nat → Prop} {v s : Nat} : ∀ (m n : Nat), n < m → ∀ {k : Nat}, wf c S v n s k → v = s ∨ ∃ h u j w n1, ed h s u ∧ c h = some w ∧ wf c (fun x => S x ∧ x ≠ s) v n1 u j ∧ w + j ≤ k := by
  intro m
  induction m with
  | zero => intro n hn; omega
  | succ m ih =>
    intro n hn k q
    cases n with
    | zero => exact Or.inl q.1.symm
    | succ n =>
      obtain ⟨q1, g, x, j, w, q2, q3, q4, rfl⟩ := q
      rcases wf_cut s q4 with h | ⟨n1, k1, h1, h2, h3⟩
      · exact Or.inr ⟨g, x, j, w, n, q2, q3, h, Nat.le_refl _⟩
      · rcases ih n1 (by omega) h3 with h | ⟨a1, a2, a3, a4, a5, b1, b2, b3, b4⟩
        · exact Or.inl h
        · exact Or.inr ⟨a1, a2, a3, a4, a5, b1, b2, b3, by omega⟩
theorem wf_hop {c : Nat → Option Nat} {v : Nat} : ∀ (m : Nat) (L : List Nat), L.length ≤ m → ∀ (S : Nat → Prop), (∀ x, S x → x ∈ L) → ∀ {n s k : Nat}, wf c S v n s k → ∃ n1 k1, n1 + 1 ≤ m ∧ k1 ≤ k ∧ wf c (fun _ => True) v n1 s k1 := by
  intro m
  induction m with
  | zero =>
    intro L hL S hS n s k q
    have h1 := hS _ (wf_start q)
    have : L = [] := List.length_eq_zero_iff.mp (by omega)
    rw [this] at h1
    cases h1
  | succ m ih =>
    intro L hL S hS n s k q
    rcases wf_last (n + 1) n (by omega) q with h | ⟨g, u, j, w, n1, q1, q2, q3, q4⟩
    · subst h
      exact ⟨0, 0, by omega, by omega, rfl, rfl, trivial⟩
    · have hs : s ∈ L := hS _ (wf_start q)
      have hlt : (L.filter (fun x => decide (x ≠ s))).length < L.length := by
        rw [List.length_filter_lt_length_iff_exists]
        exact ⟨s, hs, by simp⟩
      obtain ⟨n2, k2, a1, a2, a3⟩ := ih (L.filter (fun x => decide (x ≠ s))) (by omega) (fun x => S x ∧ x ≠ s) (fun x hx => List.mem_filter.mpr ⟨hS x hx.1, by simpa using hx.2⟩) q3
      exact ⟨n2 + 1, w + k2, by omega, by omega, trivial, g, u, k2, w, q1, q2, a3, rfl⟩
/-- no way needs more than 15 hops -/
theorem hop {c : Nat → Option Nat} {s n v k : Nat} (hs : s < 16) (h : wk c s n v k) : ∃ n1 k1, n1 ≤ 15 ∧ k1 ≤ k ∧ wk c s n1 v k1 := by
  obtain ⟨n1, k1, h1, h2, h3⟩ := wf_hop 16 (List.range 16) (by simp) (fun x => x < 16) (fun x hx => List.mem_range.mpr hx) (wk_wf hs h)
  exact ⟨n1, k1, by omega, h2, wf_wk h3⟩
def isOne (c : Nat → Option Nat) : Prop := ∀ h w, c h = some w → w ≤ 1
theorem wk_le {c : Nat → Option Nat} {s : Nat} (hc : isOne c) : ∀ {n v k : Nat}, wk c s n v k → k ≤ n := by
  intro n
  induction n with
  | zero => intro v k q; exact Nat.le_of_eq q.2
  | succ n ih =>
    intro v k q
    obtain ⟨g, x, i, z, q2, q3, q4, rfl⟩ := q
    have := ih q4
    have := hc _ _ q3
    omega
/-- the least cost of a way, and that there is none -/
def isD (c : Nat → Option Nat) (s v k : Nat) : Prop := (∃ n, wk c s n v k) ∧ ∀ n j, wk c s n v j → k ≤ j
def noW (c : Nat → Option Nat) (s v : Nat) : Prop := ∀ n k, ¬ wk c s n v k
theorem isD.uniq {c : Nat → Option Nat} {s v k j : Nat} (h1 : isD c s v k) (h2 : isD c s v j) : k = j := by
  obtain ⟨⟨n, a⟩, b⟩ := h1
  obtain ⟨⟨m, a'⟩, b'⟩ := h2
  exact Nat.le_antisymm (b _ _ a') (b' _ _ a)
theorem isD.no {c : Nat → Option Nat} {s v k : Nat} (h1 : isD c s v k) (h2 : noW c s v) : False := by
  obtain ⟨⟨n, a⟩, -⟩ := h1
  exact h2 n k a
theorem isD.le15 {c : Nat → Option Nat} (hc : isOne c) {s v k : Nat} (hs : s < 16) (h : isD c s v k) : k ≤ 15 := by
  obtain ⟨⟨n, a⟩, b⟩ := h
  obtain ⟨n1, k1, h1, h2, h3⟩ := hop hs a
  have := b _ _ h3
  have := wk_le hc h3
  omega
/-- labels D (F where there is none) are right: sound, at most 0 at the start, and no more than any short walk costs -/
def lab (c : Nat → Option Nat) (F s : Nat) (D : Nat → Nat) : Prop := ∀ v, v < 16 → (D v < F ∧ isD c s v (D v)) ∨ (D v = F ∧ noW c s v)
theorem lab_of {c : Nat → Option Nat} (hc : isOne c) {F s : Nat} {D : Nat → Nat} (hs : s < 16) (hF : 16 ≤ F) (hD : ∀ v, v < 16 → D v ≤ F) (hS : ∀ v, v < 16 → D v < F → ∃ n, wk c s n v (D v)) (hC : ∀ n v k, n ≤ 15 → wk c s n v k → D v ≤ k) : lab c F s D := by
  intro v hv
  by_cases h : D v < F
  · refine Or.inl ⟨h, hS v hv h, fun n j q => ?_⟩
    obtain ⟨n1, k1, h1, h2, h3⟩ := hop hs q
    exact Nat.le_trans (hC _ _ _ h1 h3) h2
  · refine Or.inr ⟨Nat.le_antisymm (hD v hv) (Nat.not_lt.mp h), fun n k q => ?_⟩
    obtain ⟨n1, k1, h1, h2, h3⟩ := hop hs q
    have := hC _ _ _ h1 h3
    have := wk_le hc h3
    omega
/-- labels that no hop lowers -/
theorem closed_le {c : Nat → Option Nat} {s : Nat} {D : Nat → Nat} (h0 : D s = 0) (hE : ∀ h u v w, ed h u v → c h = some w → D v ≤ D u + w) : ∀ n v k, wk c s n v k → D v ≤ k := by
  intro n
  induction n with
  | zero =>
    intro v k q
    obtain ⟨rfl, rfl⟩ := q
    omega
  | succ n ih =>
    intro v k q
    obtain ⟨g, x, i, z, q2, q3, q4, rfl⟩ := q
    have := ih _ _ q4
    have := hE _ _ _ _ q2 q3
    omega
/-- after r rounds -/
def rnd (c : Nat → Option Nat) (s r : Nat) (D : Nat → Nat) : Prop := ∀ n, n ≤ r → ∀ v k, wk c s n v k → D v ≤ k
theorem rnd_zero {c : Nat → Option Nat} {s : Nat} {D : Nat → Nat} (h0 : D s = 0) : rnd c s 0 D := by
  intro n hn v k q
  have : n = 0 := by omega
  subst this
  obtain ⟨rfl, rfl⟩ := q
  omega
theorem rnd_step {c : Nat → Option Nat} {s r : Nat} {D E : Nat → Nat} (h : rnd c s r D) (hm : ∀ v, v < 16 → E v ≤ D v) (hs : s < 16) (hE : ∀ h u v w, ed h u v → c h = some w → E v ≤ D u + w) : rnd c s (r + 1) E := by
  intro n hn v k q
  cases n with
  | zero =>
    have h1 := h 0 (Nat.zero_le _) v k q
    obtain ⟨rfl, rfl⟩ := q
    exact Nat.le_trans (hm _ hs) h1
  | succ n =>
    obtain ⟨g, x, i, z, q2, q3, q4, rfl⟩ := q
    have h1 := h n (by omega) _ _ q4
    have h2 := hE _ _ _ _ q2 q3
    omega
/-- hedge by hedge: what a walk reaches -/
def rch (c : Nat → Option Nat) (s v : Nat) : Prop := ∃ n k, wk c s n v k
theorem rch.start {c : Nat → Option Nat} {s : Nat} : rch c s s := ⟨0, 0, rfl, rfl⟩
theorem rch.step {c : Nat → Option Nat} {s h u v w : Nat} (q : rch c s u) (e : ed h u v) (hc : c h = some w) : rch c s v := by
  obtain ⟨n, k, q⟩ := q
  exact ⟨n + 1, k + w, h, u, k, w, e, hc, q, rfl⟩
/-- where every hedge can be passed at some cost, the exit is reached -/
theorem rch_exit {c : Nat → Option Nat} (hc : ∀ h, h < 24 → ∃ w, c h = some w) {s : Nat} (hs : s < 16) : rch c s 15 := by
  have key : ∀ v, v < 15 → ∃ h u, h < 24 ∧ loN h = v ∧ hiN h = u ∧ v < u ∧ u < 16 := by
    intro v hv
    have := (by decide : ∀ v, v < 15 → ∃ h, h < 24 ∧ loN h = v ∧ v < hiN h ∧ hiN h < 16) v hv
    obtain ⟨h, a, b, c1, d⟩ := this
    exact ⟨h, hiN h, a, b, rfl, c1, d⟩
  have go : ∀ m v, 15 - v ≤ m → v < 16 → rch c s v → rch c s 15 := by
    intro m
    induction m with
    | zero =>
      intro v h1 h2 q
      have : v = 15 := by omega
      exact this ▸ q
    | succ m ih =>
      intro v h1 h2 q
      by_cases hv : v = 15
      · exact hv ▸ q
      · obtain ⟨h, u, a, b, c1, d, e⟩ := key v (by omega)
        obtain ⟨w, hw⟩ := hc h a
        exact ih u (by omega) e (q.step ⟨a, Or.inl ⟨b.symm, c1.symm⟩⟩ hw)
  exact go 15 s (by omega) hs rch.start
end
section
/-! THE MAZE: single hedges; sets of cells as bits; floods -/
theorem low_I {h : Nat} (hh : h < 24) : lowC h = I (loN h) := (by decide +kernel : ∀ h, h < 24 → lowC h = I (loN h)) h hh
theorem upp_I {h : Nat} (hh : h < 24) : uppC h = I (hiN h) := (by decide +kernel : ∀ h, h < 24 → uppC h = I (hiN h)) h hh
theorem m_leaves {σ : Mm} {h : Nat} (hh : h < 24) : f_X4_leavesOf (I h) σ = some (σ 2 h) := by
  have e1 : ¬ 24 ≤ h := by omega
  unfold f_X4_leavesOf
  simp (disch := omega) only [I_lit, I_lt, I_le, gd_I, I_clamp, Nat.not_lt_zero, e1, if_false]
theorem m_open {σ : Mm} {h : Nat} (hh : h < 24) : f_X4_isOpen (I h) σ = some (if 5 ≤ σ 2 h then 0 else 1) := by
  unfold f_X4_isOpen
  rw [m_leaves hh, bnd_d]
  split <;> rfl
theorem m_cell {σ : Mm} {u : Nat} (hu : u < 16) : f_X4_isCell (I u) σ = some 1 := by
  have e1 : ¬ 16 ≤ u := by omega
  unfold f_X4_isCell
  simp (disch := omega) only [I_lit, I_lt, I_le, Nat.not_lt_zero, e1, if_false]
theorem m_cellN {σ : Mm} {x : Int32} (hx : x < 0 ∨ 16 ≤ x) : f_X4_isCell x σ = some 0 := by
  unfold f_X4_isCell
  by_cases h : x < 0
  · rw [if_pos h]
  · rw [if_neg h, if_pos (hx.resolve_left h)]
theorem m_across {σ : Mm} {h u : Nat} (hh : h < 24) (hu : u < 16) : f_X4_cellAcross (I h) (I u) σ = some (if loN h = u then I (hiN h) else if hiN h = u then I (loN h) else -1) := by
  have e2 := lohi h hh
  unfold f_X4_cellAcross
  rw [if_neg (I_n0 (by omega)), if_pos (show I h < 24 from (I_lt (b := 24) (by omega) (by omega)).mpr hh)]
  simp (disch := omega) only [gd_I, I_clamp, low_I, upp_I, I_eq]
  split
  · rfl
  · split <;> rfl
/-! bits -/
def bit (x : Int32) (v : Nat) : Bool := x.toBitVec.getLsbD v
theorem bit_or (x y : Int32) (v : Nat) : bit (x ||| y) v = (bit x v || bit y v) := by simp [bit]
theorem bit_and (x y : Int32) (v : Nat) : bit (x &&& y) v = (bit x v && bit y v) := by simp [bit]
theorem bit_0 (v : Nat) : bit 0 v = false := by simp [bit]
theorem bit_ge {x : Int32} {v : Nat} (h : 32 ≤ v) : bit x v = false := BitVec.getLsbD_of_ge _ _ h
theorem bit_ext {x y : Int32} (h : ∀ v, v < 32 → bit x v = bit y v) : x = y := Int32.toBitVec_inj.mp (BitVec.eq_of_getLsbD_eq (fun i hi => h i hi))
def jn (h : Nat) : Int32 := (1 <<< (lowC h &&& 31)) ||| (1 <<< (uppC h &&& 31))
theorem jn_bit {h : Nat} (hh : h < 24) (v : Nat) : bit (jn h) v = (v == loN h || v == hiN h) := by
  by_cases hv : v < 32
  · exact (by decide +kernel : ∀ h, h < 24 → ∀ v, v < 32 → bit (jn h) v = (v == loN h || v == hiN h)) h hh v hv
  · have := lohi h hh
    rw [bit_ge (by omega)]
    have a : (v == loN h) = false := by simp; omega
    have b : (v == hiN h) = false := by simp; omega
    rw [a, b]; rfl
theorem jn_meet {h : Nat} (hh : h < 24) (x : Int32) : (x &&& jn h = 0) ↔ (bit x (loN h) = false ∧ bit x (hiN h) = false) := by
  constructor
  · intro q
    have k : ∀ v, (bit x v && (v == loN h || v == hiN h)) = false := fun v => by
      rw [← jn_bit hh, ← bit_and, q, bit_0]
    have a := k (loN h)
    have b := k (hiN h)
    simp at a b
    exact ⟨a, b⟩
  · rintro ⟨a, b⟩
    apply bit_ext
    intro v _
    rw [bit_and, jn_bit hh, bit_0]
    by_cases c : v = loN h
    · subst c; rw [a]; rfl
    · by_cases d : v = hiN h
      · subst d; rw [b]; rfl
      · simp [c, d]
theorem m_joined {σ : Mm} {h : Nat} (hh : h < 24) (x : Int32) : f_X8_joinedBy (I h) x σ = some (if x &&& jn h = 0 then 0 else jn h) := by
  unfold f_X8_joinedBy
  simp (disch := omega) only [gd_I, I_clamp, lt_d]
  show (if x &&& jn h = 0 then some 0 else some (jn h)) = _
  split <;> rfl
/-- a hedge joins what it stands between -/
def fst1 (ok : Nat → Bool) (h : Nat) (x : Int32) : Int32 := if ok h = true then x ||| (if x &&& jn h = 0 then 0 else jn h) else x
theorem fst1_bit {ok : Nat → Bool} {h : Nat} (hh : h < 24) (x : Int32) (v : Nat) : bit (fst1 ok h x) v = true ↔ bit x v = true ∨ (ok h = true ∧ (v = loN h ∨ v = hiN h) ∧ (bit x (loN h) = true ∨ bit x (hiN h) = true)) := by
  unfold fst1
  by_cases ho : ok h = true
  · rw [if_pos ho, bit_or]
    by_cases hm : x &&& jn h = 0
    · rw [if_pos hm, bit_0]
      obtain ⟨a, b⟩ := (jn_meet hh x).mp hm
      simp [a, b]
    · rw [if_neg hm, jn_bit hh]
      have k : bit x (loN h) = true ∨ bit x (hiN h) = true := by
        cases a : bit x (loN h)
        · cases b : bit x (hiN h)
          · exact absurd ((jn_meet hh x).mpr ⟨a, b⟩) hm
          · exact Or.inr rfl
        · exact Or.inl rfl
      simp [ho, k]
  · rw [if_neg ho]
    simp [ho]
def cF (ok : Nat → Bool) : Nat → Option Nat := fun h => if ok h = true then some 0 else none
/-- one round of a flood -/
def fInv (ok : Nat → Bool) (R : Nat → Prop) (x0 : Int32) (v : Nat) (x : Int32) : Prop :=
  (∀ u, bit x0 u = true → bit x u = true) ∧ (∀ u, bit x u = true → R u) ∧ ∀ h, h < v → ok h = true → (bit x0 (loN h) = true → bit x (hiN h) = true) ∧ (bit x0 (hiN h) = true → bit x (loN h) = true)
theorem fInv_step {ok : Nat → Bool} {R : Nat → Prop} {x0 x : Int32} {v : Nat} (hR : ∀ h u w, ed h u w → ok h = true → R u → R w) (hv : v < 24) (h : fInv ok R x0 v x) : fInv ok R x0 (v + 1) (fst1 ok v x) := by
  obtain ⟨h1, h2, h3⟩ := h
  have up1 : ∀ u, bit x u = true → bit (fst1 ok v x) u = true := fun u q => (fst1_bit hv x u).mpr (Or.inl q)
  refine ⟨fun u q => up1 u (h1 u q), fun u q => ?_, fun h hh ho => ?_⟩
  · rcases (fst1_bit hv x u).mp q with q | ⟨q1, q2, q3⟩
    · exact h2 u q
    · rcases q2 with rfl | rfl <;> rcases q3 with q3 | q3
      · exact h2 _ q3
      · exact hR v _ _ ⟨hv, Or.inr ⟨rfl, rfl⟩⟩ q1 (h2 _ q3)
      · exact hR v _ _ ⟨hv, Or.inl ⟨rfl, rfl⟩⟩ q1 (h2 _ q3)
      · exact h2 _ q3
  · by_cases e : h = v
    · subst e
      exact ⟨fun q => (fst1_bit hv x _).mpr (Or.inr ⟨ho, Or.inr rfl, Or.inl (h1 _ q)⟩), fun q => (fst1_bit hv x _).mpr (Or.inr ⟨ho, Or.inl rfl, Or.inr (h1 _ q)⟩)⟩
    · obtain ⟨a, b⟩ := h3 h (by omega) ho
      exact ⟨fun q => up1 _ (a q), fun q => up1 _ (b q)⟩
/-- which hedges a flood passes -/
def okF (σ : Mm) (lim out : Int32) : Nat → Bool := fun h => !decide (I h = out) && !decide (lim ≤ σ 2 h)
theorem flood_in {σ : Mm} {K : Int32 → Int32 → Option Int32} {v7 v5 a0 lim out x0 : Int32} {R : Nat → Prop} (hR : ∀ h u w, ed h u w → okF σ lim out h = true → R u → R w) (h0 : ∀ u, bit x0 u = true → R u) :
    ∃ x1, f_X8_flood_l30 K v7 v5 a0 lim out σ 30 0 x0 = K (I 24) x1 ∧ fInv (okF σ lim out) R x0 24 x1 := by
  refine loopI (fun n v g => f_X8_flood_l30 K v7 v5 a0 lim out σ n v g) (fun g => K (I 24) g) 24 (fun v g => fInv (okF σ lim out) R x0 v g) ?_ ?_ 24 0 30 x0 (by omega) (by omega) ⟨fun _ h => h, h0, fun h hh => by omega⟩
  · intro n g _
    show f_X8_flood_l30 K v7 v5 a0 lim out σ (n + 1) (I 24) g = _
    rw [f_X8_flood_l30, if_pos (show (24 : Int32) ≤ I 24 by decide)]
  · intro n v g hv hi
    refine ⟨fst1 (okF σ lim out) v g, ?_, fInv_step hR hv hi⟩
    show f_X8_flood_l30 K v7 v5 a0 lim out σ (n + 1) (I v) g = f_X8_flood_l30 K v7 v5 a0 lim out σ n (I (v + 1)) _
    have e1 : I v + 1 = I (v + 1) := I_add v 1
    rw [f_X8_flood_l30, if_neg (show ¬ (24 : Int32) ≤ I v from fun q => by have := (I_le (by omega) (by omega)).mp (show I 24 ≤ I v from q); omega)]
    unfold fst1 okF
    by_cases c1 : I v = out
    · rw [if_pos c1, lt_d, e1, if_neg (by simp [c1])]
    · rw [if_neg c1, m_leaves hv, bnd_d]
      by_cases c2 : lim ≤ σ 2 v
      · rw [if_pos c2, lt_d, e1, if_neg (by simp [c2])]
      · have hk : (!decide (I v = out) && !decide (lim ≤ σ 2 v)) = true := by simp [c1, c2]
        rw [if_neg c2, m_joined hv, bnd_d, lt_d, lt_d, e1, if_pos hk]
/-- what a flood reaches -/
theorem m_flood {σ : Mm} (a0 lim out : Int32) (h16 : ∀ u, bit a0 u = true → u < 16) : ∃ q, f_X8_flood a0 lim out σ = some q ∧ ∀ u, bit q u = true ↔ ∃ s, bit a0 s = true ∧ rch (cF (okF σ lim out)) s u := by
  have okc : ∀ h, okF σ lim out h = true → cF (okF σ lim out) h = some 0 := fun h q => by unfold cF; rw [if_pos q]
  have cok : ∀ h w, cF (okF σ lim out) h = some w → okF σ lim out h = true := fun h w q => by
    unfold cF at q
    by_cases c : okF σ lim out h = true
    · exact c
    · rw [if_neg c] at q; cases q
  have hR : ∀ h u w, ed h u w → okF σ lim out h = true → (∃ s, bit a0 s = true ∧ rch (cF (okF σ lim out)) s u) → ∃ s, bit a0 s = true ∧ rch (cF (okF σ lim out)) s w := fun h u w e ho q => by
    obtain ⟨s, q1, q2⟩ := q
    exact ⟨s, q1, q2.step e (okc h ho)⟩
  have main : ∀ d r n (e x : Int32), r + d = 16 → d < n → (∀ u, bit x u = true → ∃ s, bit a0 s = true ∧ rch (cF (okF σ lim out)) s u) → (∀ u, bit a0 u = true → bit x u = true) → (∀ k, k ≤ r → ∀ s u j, bit a0 s = true → wk (cF (okF σ lim out)) s k u j → bit x u = true) →
      (∀ h, h < 24 → okF σ lim out h = true → (bit e (loN h) = true → bit x (hiN h) = true) ∧ (bit e (hiN h) = true → bit x (loN h) = true)) → ∃ q, f_X8_flood_l9 a0 lim out σ n (I r) e x = some q ∧ ∀ u, bit q u = true ↔ ∃ s, bit a0 s = true ∧ rch (cF (okF σ lim out)) s u := by
    intro d
    induction d with
    | zero =>
      intro r n e x hr hn h1 h2 h3 h4
      obtain ⟨n, rfl⟩ : ∃ m, n = m + 1 := ⟨n - 1, by omega⟩
      have : r = 16 := by omega
      subst this
      refine ⟨x, ?_, fun u => ⟨h1 u, ?_⟩⟩
      · rw [f_X8_flood_l9, if_pos (show (16 : Int32) ≤ I 16 by decide)]
      · rintro ⟨s, q1, k, j, q2⟩
        obtain ⟨n1, k1, b1, b2, b3⟩ := hop (h16 s q1) q2
        exact h3 n1 (by omega) s u k1 q1 b3
    | succ d ih =>
      intro r n e x hr hn h1 h2 h3 h4
      obtain ⟨n, rfl⟩ : ∃ m, n = m + 1 := ⟨n - 1, by omega⟩
      rw [f_X8_flood_l9, if_neg (show ¬ (16 : Int32) ≤ I r from fun q => by have := (I_le (by omega) (by omega)).mp (show I 16 ≤ I r from q); omega)]
      by_cases c : x = e
      · rw [if_pos c]
        subst c
        refine ⟨x, rfl, fun u => ⟨h1 u, ?_⟩⟩
        rintro ⟨s, q1, k, j, q2⟩
        have go : ∀ k u j, wk (cF (okF σ lim out)) s k u j → bit x u = true := by
          intro k
          induction k with
          | zero => intro u j q; rw [q.1]; exact h2 s q1
          | succ k ihk =>
            intro u j q
            obtain ⟨g, y, i, z, p1, p2, p3, -⟩ := q
            have b := ihk _ _ p3
            obtain ⟨a1, a2⟩ := h4 g p1.1 (cok g z p2)
            rcases p1.2 with ⟨e1, e2⟩ | ⟨e1, e2⟩ <;> subst e1 <;> subst e2
            · exact a1 b
            · exact a2 b
        exact go k u j q2
      · rw [if_neg c, lt_d]
        obtain ⟨x1, e1, f1, f2, f3⟩ := flood_in (σ := σ) (K := fun v10 v11 => lt (I r + 1) fun x13 => f_X8_flood_l9 a0 lim out σ n x13 x v11) (v7 := x) (v5 := I r) (a0 := a0) (lim := lim) (out := out) (x0 := x) hR h1
        rw [e1]
        show ∃ q, lt (I r + 1) (fun x13 => f_X8_flood_l9 a0 lim out σ n x13 x x1) = some q ∧ _
        rw [lt_d, show I r + 1 = I (r + 1) from I_add r 1]
        refine ih (r + 1) n x x1 (by omega) (by omega) f2 (fun u q => f1 u (h2 u q)) ?_ f3
        intro k hk s u j q1 q2
        cases k with
        | zero => rw [q2.1]; exact f1 _ (h2 s q1)
        | succ k =>
          obtain ⟨g, y, i, z, p1, p2, p3, -⟩ := q2
          have b := h3 k (by omega) s y i q1 p3
          obtain ⟨a1, a2⟩ := f3 g p1.1 (cok g z p2)
          rcases p1.2 with ⟨e1, e2⟩ | ⟨e1, e2⟩ <;> subst e1 <;> subst e2
          · exact a1 b
          · exact a2 b
  unfold f_X8_flood
  exact main 16 0 30 0 a0 (by omega) (by omega) (fun u q => ⟨u, q, rch.start⟩) (fun _ q => q) (fun k hk s u j q1 q2 => by
    have : k = 0 := by omega
    subst this
    rw [q2.1]; exact q1) (fun h _ _ => ⟨fun q => (by rw [bit_0] at q; cases q), fun q => (by rw [bit_0] at q; cases q)⟩)
end
section
/-! RELAXING: labels in a row, lowered hedge by hedge -/
theorem nle {N r : Nat} (h : r < N) (hN : N < 2147483648) : ¬ I N ≤ I r := fun q => by
  have := (I_le hN (by omega)).mp q
  omega
/-- the labels D stand in the cell A of the memory -/
def lbl (A F : Nat) (σ : Mm) (D : Nat → Nat) : Prop := ∀ v, v < 16 → σ A v = I (D v) ∧ D v ≤ F
def rl (D : Nat → Nat) (u v w : Nat) : Nat → Nat := fun x => if x = v ∧ D u + w < D v then D u + w else D x
theorem rl_le (D : Nat → Nat) (u v w x : Nat) : rl D u v w x ≤ D x := by
  unfold rl
  by_cases h : x = v ∧ D u + w < D v
  · rw [if_pos h]; obtain ⟨rfl, h2⟩ := h; omega
  · rw [if_neg h]; exact Nat.le_refl _
theorem rl_at (D : Nat → Nat) (u v w : Nat) : rl D u v w v ≤ D u + w := by
  unfold rl
  by_cases h : v = v ∧ D u + w < D v
  · rw [if_pos h]; exact Nat.le_refl _
  · rw [if_neg h]; omega
theorem rl_no {D : Nat → Nat} {u v w : Nat} (h : ¬ D u + w < D v) : rl D u v w = D := by
  funext x
  unfold rl
  rw [if_neg (fun q => h q.2)]
/-- what a hedge costs, and what it is taken to cost -/
def wgt (c : Nat → Option Nat) (W : Nat → Nat) : Prop := ∀ h, h < 24 → (c h = some (W h)) ∨ (c h = none ∧ 1000 ≤ W h)
def snd (c : Nat → Option Nat) (F s : Nat) (D : Nat → Nat) : Prop := ∀ v, v < 16 → D v < F → ∃ n, wk c s n v (D v)
theorem rl_snd {c : Nat → Option Nat} {W : Nat → Nat} (hW : wgt c W) {s : Nat} {D : Nat → Nat} (hD : ∀ v, v < 16 → D v ≤ 1000) {h u v : Nat} (e : ed h u v) (hs : snd c 1000 s D) : snd c 1000 s (rl D u v (W h)) := by
  intro x hx hlt
  unfold rl at hlt ⊢
  by_cases q : x = v ∧ D u + W h < D v
  · rw [if_pos q] at hlt ⊢
    obtain ⟨rfl, q2⟩ := q
    obtain ⟨n, hn⟩ := hs u e.lt.1 (by omega)
    rcases hW h e.1 with hc | ⟨-, hc⟩
    · exact ⟨n + 1, h, u, D u, W h, e, hc, hn, rfl⟩
    · omega
  · rw [if_neg q] at hlt ⊢
    exact hs x hx hlt
theorem up_lbl {A F : Nat} {σ : Mm} {D : Nat → Nat} (h : lbl A F σ D) {v k : Nat} (hk : k ≤ F) : lbl A F (up σ A v (I k)) (fun x => if x = v then k else D x) := by
  intro x hx
  rw [up_e]
  by_cases q : x = v
  · subst q
    rw [upd_e]
    simp [hk]
  · rw [upd_n _ _ q]
    simp [q]
    exact h x hx
theorem m_lower {σ : Mm} {D : Nat → Nat} (h : lbl 159 1000 σ D) {u v w : Nat} (hu : u < 16) (hv : v < 16) (hw : w ≤ 1000) :
    ∃ b σ1, f_X8_lower (I v) (I u) (I w) σ = some (b, σ1) ∧ lbl 159 1000 σ1 (rl D u v w) ∧ (∀ a, a ≠ 159 → σ1 a = σ a) ∧ ((b = 0 ∧ rl D u v w = D) ∨ b = 1) := by
  have h1 := h u hu
  have h2 := h v hv
  unfold f_X8_lower
  simp (disch := omega) only [gd_I, I_clamp, lt_d, h1.1, h2.1, I_add, I_lt]
  by_cases q : D u + w < D v
  · rw [if_pos q]
    refine ⟨1, _, rfl, ?_, fun a ha => up_n _ _ _ ha, Or.inr rfl⟩
    have e : rl D u v w = fun x => if x = v then D u + w else D x := by
      funext x
      unfold rl
      by_cases c : x = v
      · rw [if_pos ⟨c, q⟩, if_pos c]
      · rw [if_neg (fun z => c z.1), if_neg c]
    rw [e]
    exact up_lbl h (by omega)
  · rw [if_neg q]
    exact ⟨0, σ, rfl, by rw [rl_no q]; exact h, fun _ _ => rfl, Or.inl ⟨rfl, rl_no q⟩⟩
/-- within a round -/
def rInv (c : Nat → Option Nat) (W : Nat → Nat) (s : Nat) (σ0 : Mm) (D0 : Nat → Nat) (v : Nat) (g : Int32 × Mm) : Prop :=
  ∃ D, lbl 159 1000 g.2 D ∧ (∀ x, D x ≤ D0 x) ∧ D s = 0 ∧ snd c 1000 s D ∧ (∀ h, h < v → D (hiN h) ≤ D0 (loN h) + W h ∧ D (loN h) ≤ D0 (hiN h) + W h) ∧ ((g.1 = 0 ∧ D = D0) ∨ g.1 = 1) ∧ ∀ a, a ≠ 159 → g.2 a = σ0 a
theorem I_beq {a b : Nat} (ha : a < 2147483648) (hb : b < 2147483648) (h : a ≠ b) : ¬ I a = I b := fun q => h ((I_eq ha hb).mp q)
theorem relax_in {c : Nat → Option Nat} {W : Nat → Nat} (hW : wgt c W) (hW2 : ∀ h, W h ≤ 1000) {s : Nat} {σ0 : Mm} {g1 g2 : Nat} (hg : ∀ h, h < 24 → W h = if 5 ≤ σ0 2 h then g2 else g1) {D0 : Nat → Nat} {K : Int32 → Int32 → Mm → Option Mm} {v7 a0 : Int32}
    (h0 : lbl 159 1000 σ0 D0) (hs0 : D0 s = 0) (hsn : snd c 1000 s D0) : ∃ g, f_X8_relaxFrom_l29 K v7 a0 (I g1) (I g2) 30 0 0 σ0 = K (I 24) g.1 g.2 ∧ rInv c W s σ0 D0 24 g := by
  refine loopI (fun n v g => f_X8_relaxFrom_l29 K v7 a0 (I g1) (I g2) n v g.1 g.2) (fun g => K (I 24) g.1 g.2) 24 (fun v g => rInv c W s σ0 D0 v g) ?_ ?_ 24 0 30 (0, σ0) (by omega) (by omega) ⟨D0, h0, fun _ => Nat.le_refl _, hs0, hsn, fun h hh => by omega, Or.inl ⟨rfl, rfl⟩, fun _ _ => rfl⟩
  · intro n g _
    show f_X8_relaxFrom_l29 K v7 a0 (I g1) (I g2) (n + 1) (I 24) g.1 g.2 = _
    rw [f_X8_relaxFrom_l29, if_pos (show (24 : Int32) ≤ I 24 by decide)]
  · intro n v g hv hi
    obtain ⟨fl, σ⟩ := g
    obtain ⟨D, i1, i2, i3, i4, i5, i6, i7⟩ := hi
    dsimp only at i1 i6 i7
    have hlh := lohi v hv
    have e1 : I v + 1 = I (v + 1) := I_add v 1
    have hop1 : σ 2 v = σ0 2 v := by rw [i7 2 (by omega)]
    obtain ⟨b1, σ1, l1, l2, l3, l4⟩ := m_lower i1 hlh.1 hlh.2 (hW2 v)
    obtain ⟨b2, σ2, r1, r2, r3, r4⟩ := m_lower l2 hlh.2 hlh.1 (hW2 v)
    have cost : (if 5 ≤ σ 2 v then I g2 else I g1) = I (W v) := by
      rw [hg v hv, hop1]
      split <;> rfl
    have inv : ∀ f : Int32, ((f = 0 ∧ fl = 0 ∧ b1 = 0 ∧ b2 = 0) ∨ f = 1) → rInv c W s σ0 D0 (v + 1) (f, σ2) := by
      intro f hf
      refine ⟨rl (rl D (loN v) (hiN v) (W v)) (hiN v) (loN v) (W v), r2, fun x => Nat.le_trans (rl_le _ _ _ _ _) (Nat.le_trans (rl_le _ _ _ _ _) (i2 x)), ?_, ?_, ?_, ?_, ?_⟩
      · have a := rl_le (rl D (loN v) (hiN v) (W v)) (hiN v) (loN v) (W v) s
        have b := rl_le D (loN v) (hiN v) (W v) s
        omega
      · exact rl_snd hW (fun x hx => (l2 x hx).2) ⟨hv, Or.inr ⟨rfl, rfl⟩⟩ (rl_snd hW (fun x hx => (i1 x hx).2) ⟨hv, Or.inl ⟨rfl, rfl⟩⟩ i4)
      · intro h hh
        have m1 := fun x => rl_le (rl D (loN v) (hiN v) (W v)) (hiN v) (loN v) (W v) x
        have m2 := fun x => rl_le D (loN v) (hiN v) (W v) x
        by_cases q : h = v
        · subst q
          have a := rl_at D (loN h) (hiN h) (W h)
          have b := rl_at (rl D (loN h) (hiN h) (W h)) (hiN h) (loN h) (W h)
          have c1 := m1 (hiN h)
          have c2 := m2 (hiN h)
          have c3 := i2 (hiN h)
          have c4 := i2 (loN h)
          omega
        · obtain ⟨a, b⟩ := i5 h (by omega)
          have c1 := m1 (hiN h)
          have c2 := m2 (hiN h)
          have c3 := m1 (loN h)
          have c4 := m2 (loN h)
          omega
      · rcases hf with ⟨q1, q2, q3, q4⟩ | q1
        · refine Or.inl ⟨q1, ?_⟩
          rcases l4 with ⟨-, l4⟩ | l4
          · rcases r4 with ⟨-, r4⟩ | r4
            · rcases i6 with ⟨-, i6⟩ | i6
              · rw [r4, l4, i6]
              · rw [q2] at i6; cases i6
            · rw [q4] at r4; cases r4
          · rw [q3] at l4; cases l4
        · exact Or.inr q1
      · intro a ha
        show σ2 a = σ0 a
        rw [r3 a ha, l3 a ha, i7 a ha]
    refine ⟨(if fl = 0 then (if b1 = 0 then (if b2 = 0 then 0 else 1) else 1) else 1, σ2), ?_, ?_⟩
    · show f_X8_relaxFrom_l29 K v7 a0 (I g1) (I g2) (n + 1) (I v) fl σ = f_X8_relaxFrom_l29 K v7 a0 (I g1) (I g2) n (I (v + 1)) _ σ2
      rw [f_X8_relaxFrom_l29, if_neg (show ¬ (24 : Int32) ≤ I v from nle (N := 24) hv (by omega)), m_open hv, bnd_d]
      by_cases o : 5 ≤ σ 2 v
      · rw [if_pos o] at cost
        rw [if_pos o, if_pos rfl]
        simp (disch := omega) only [gd_I, I_clamp, low_I, upp_I, cost, l1, r1, bnm_d, lt_d]
        rw [show I v + 1 = I (v + 1) from e1]
        split
        · split
          · split <;> rfl
          · rfl
        · rfl
      · rw [if_neg o] at cost
        rw [if_neg o, if_neg (by decide)]
        simp (disch := omega) only [gd_I, I_clamp, low_I, upp_I, cost, l1, r1, bnm_d, lt_d]
        rw [show I v + 1 = I (v + 1) from e1]
        split
        · split
          · split <;> rfl
          · rfl
        · rfl
    · apply inv
      by_cases z1 : fl = 0
      · by_cases z2 : b1 = 0
        · by_cases z3 : b2 = 0
          · left; simp [z1, z2, z3]
          · right; simp [z1, z2, z3]
        · right; simp [z1, z2]
      · right; simp [z1]
theorem m_fill {σ : Mm} : ∃ σ1, f_J7_fill_53178 1000 σ = some σ1 ∧ (∀ v, v < 16 → σ1 159 v = 1000) ∧ ∀ a, a ≠ 159 → σ1 a = σ a := by
  unfold f_J7_fill_53178
  obtain ⟨g, h1, h2⟩ := loopI (fun n v g => f_J7_fill_53178_l5 1000 n v g) (fun g => some g) 16 (fun v (g : Mm) => (∀ x, x < v → g 159 x = 1000) ∧ ∀ a, a ≠ 159 → g a = σ a) (by
      intro n g _
      show f_J7_fill_53178_l5 1000 (n + 1) (I 16) g = _
      rw [f_J7_fill_53178_l5, if_pos (show (16 : Int32) ≤ I 16 by decide)])
    (by
      intro n v g hv hi
      refine ⟨up g 159 v 1000, ?_, ?_, ?_⟩
      · show f_J7_fill_53178_l5 1000 (n + 1) (I v) g = f_J7_fill_53178_l5 1000 n (I (v + 1)) _
        rw [f_J7_fill_53178_l5, if_neg (show ¬ (16 : Int32) ≤ I v from nle (N := 16) hv (by omega)), gd_I hv (by omega), I_clamp (by omega), lt_d, lt_d, show I v + 1 = I (v + 1) from I_add v 1]
      · intro x hx
        rw [up_e]
        by_cases q : x = v
        · rw [q, upd_e]
        · rw [upd_n _ _ q]; exact hi.1 x (by omega)
      · intro a ha
        rw [up_n _ _ _ ha]; exact hi.2 a ha) 16 0 20 σ (by omega) (by omega) ⟨fun x hx => by omega, fun _ _ => rfl⟩
  exact ⟨g, h1, h2.1, h2.2⟩
theorem m_start {σ : Mm} {s : Nat} (hs : s < 16) : ∃ σ1, f_X8_startFrom (I s) σ = some σ1 ∧ lbl 159 1000 σ1 (fun v => if v = s then 0 else 1000) ∧ ∀ a, a ≠ 159 → σ1 a = σ a := by
  obtain ⟨σ1, h1, h2, h3⟩ := m_fill (σ := σ)
  unfold f_X8_startFrom
  rw [h1, bnd_d, m_cell hs, bnd_d, if_neg (by decide), gd_I hs (by omega), I_clamp (by omega), lt_d]
  refine ⟨_, rfl, ?_, fun a ha => by rw [up_n _ _ _ ha]; exact h3 a ha⟩
  intro v hv
  rw [up_e]
  by_cases q : v = s
  · rw [q, upd_e]; simp; rfl
  · rw [upd_n _ _ q, h2 v hv]; simp [q]; rfl
theorem start_snd {c : Nat → Option Nat} {s : Nat} : snd c 1000 s (fun v => if v = s then 0 else 1000) := by
  intro v hv h
  by_cases q : v = s
  · exact ⟨0, q, by simp [q]⟩
  · simp [q] at h
/-- relaxing, whole -/
theorem m_relax {c : Nat → Option Nat} {W : Nat → Nat} (hW : wgt c W) (hc1 : isOne c) (hW2 : ∀ h, W h ≤ 1000) {s : Nat} (hs : s < 16) {σ0 : Mm} {g1 g2 : Nat} (hg : ∀ h, h < 24 → W h = if 5 ≤ σ0 2 h then g2 else g1) :
    ∃ σ1 D, f_X8_relaxFrom (I s) (I g1) (I g2) σ0 = some σ1 ∧ lbl 159 1000 σ1 D ∧ lab c 1000 s D ∧ ∀ a, a ≠ 159 → σ1 a = σ0 a := by
  have main : ∀ d r n (fl : Int32) (σ : Mm) (D : Nat → Nat), r + d = 16 → d < n → lbl 159 1000 σ D → D s = 0 → snd c 1000 s D → rnd c s r D → (fl = 0 → ∀ h u v w, ed h u v → c h = some w → D v ≤ D u + w) → (∀ a, a ≠ 159 → σ a = σ0 a) →
      ∃ σ1 E, f_X8_relaxFrom_l11 (I s) (I g1) (I g2) n (I r) fl σ = some σ1 ∧ lbl 159 1000 σ1 E ∧ lab c 1000 s E ∧ ∀ a, a ≠ 159 → σ1 a = σ0 a := by
    intro d
    induction d with
    | zero =>
      intro r n fl σ D hr hn h1 h2 h3 h4 h5 h6
      obtain ⟨n, rfl⟩ : ∃ m, n = m + 1 := ⟨n - 1, by omega⟩
      have : r = 16 := by omega
      subst this
      refine ⟨σ, D, ?_, h1, lab_of hc1 hs (by omega) (fun v hv => (h1 v hv).2) h3 (fun n v k hn q => h4 n (by omega) v k q), h6⟩
      rw [f_X8_relaxFrom_l11, if_pos (show (16 : Int32) ≤ I 16 by decide)]
    | succ d ih =>
      intro r n fl σ D hr hn h1 h2 h3 h4 h5 h6
      obtain ⟨n, rfl⟩ : ∃ m, n = m + 1 := ⟨n - 1, by omega⟩
      rw [f_X8_relaxFrom_l11, if_neg (show ¬ (16 : Int32) ≤ I r from nle (N := 16) (by omega) (by omega))]
      by_cases hf : fl = 0
      · rw [if_pos hf]
        exact ⟨σ, D, rfl, h1, lab_of hc1 hs (by omega) (fun v hv => (h1 v hv).2) h3 (fun n v k _ q => closed_le h2 (h5 hf) n v k q), h6⟩
      · rw [if_neg hf, lt_d]
        obtain ⟨⟨fl1, σ1⟩, e1, E, i1, i2, i3, i4, i5, i6, i7⟩ := relax_in hW hW2 (s := s) (σ0 := σ) (g1 := g1) (g2 := g2) (fun h hh => by rw [hg h hh, h6 2 (by omega)]) (K := fun v12 v13 σ14 => lt (I r + 1) fun x16 => f_X8_relaxFrom_l11 (I s) (I g1) (I g2) n x16 v13 σ14) (v7 := I r) (a0 := I s) h1 h2 h3
        dsimp only at e1 i1 i6 i7
        have hE : ∀ h u v w, ed h u v → c h = some w → E v ≤ D u + w := by
          intro h u v w e hc
          have hw : W h = w := by
            rcases hW h e.1 with q | ⟨q, -⟩
            · rw [hc] at q; exact (Option.some.inj q).symm
            · rw [hc] at q; cases q
          obtain ⟨a, b⟩ := i5 h e.1
          rw [hw] at a b
          rcases e.2 with ⟨x1, x2⟩ | ⟨x1, x2⟩ <;> subst x1 <;> subst x2
          · exact a
          · exact b
        rw [e1]
        show ∃ σ2 E2, lt (I r + 1) (fun x16 => f_X8_relaxFrom_l11 (I s) (I g1) (I g2) n x16 fl1 σ1) = some σ2 ∧ _
        rw [lt_d, show I r + 1 = I (r + 1) from I_add r 1]
        refine ih (r + 1) n fl1 σ1 E (by omega) (by omega) i1 i3 i4 (rnd_step h4 (fun v _ => i2 v) hs hE) ?_ (fun a ha => by rw [i7 a ha, h6 a ha])
        intro hz
        rcases i6 with ⟨-, q⟩ | q
        · rw [q]; rw [q] at hE; exact hE
        · rw [hz] at q; cases q
  obtain ⟨σ1, h1, h2, h3⟩ := m_start (σ := σ0) hs
  unfold f_X8_relaxFrom
  rw [h1, bnd_d]
  exact main 16 0 30 1 σ1 _ (by omega) (by omega) h2 (by simp) start_snd (rnd_zero (by simp)) (fun q => by cases q) h3
end
section
/-! BREADTH FIRST: the queue -/
theorem pig : ∀ (n k : Nat) (Q : Nat → Nat), (∀ i, i < k → Q i < n) → (∀ i j, i < k → j < k → Q i = Q j → i = j) → k ≤ n := by
  intro n
  induction n with
  | zero =>
    intro k Q h1 h2
    rcases Nat.eq_zero_or_pos k with h | h
    · omega
    · have := h1 0 h; omega
  | succ n ih =>
    intro k Q h1 h2
    by_cases hx : ∃ i, i < k ∧ Q i = n
    · obtain ⟨i, hi, hq⟩ := hx
      have := ih (k - 1) (fun j => if j < i then Q j else Q (j + 1)) (fun j hj => by
          split
          · have a := h1 j (by omega)
            have b : Q j ≠ n := fun q => by have := h2 j i (by omega) hi (q.trans hq.symm); omega
            omega
          · have a := h1 (j + 1) (by omega)
            have b : Q (j + 1) ≠ n := fun q => by have := h2 (j + 1) i (by omega) hi (q.trans hq.symm); omega
            omega) (fun a b ha hb q => by
          split at q <;> split at q
          · exact h2 _ _ (by omega) (by omega) q
          · have := h2 _ _ (by omega) (by omega) q; omega
          · have := h2 _ _ (by omega) (by omega) q; omega
          · have := h2 _ _ (by omega) (by omega) q; omega)
      omega
    · exact Nat.le_succ_of_le (ih k Q (fun i hi => by
          have a := h1 i hi
          have b : Q i ≠ n := fun q => hx ⟨i, hi, q⟩
          omega) h2)
/-- k cells wait in the queue Q, t of them are done, D are the labels -/
def bq (c : Nat → Option Nat) (s k t : Nat) (Q D : Nat → Nat) : Prop :=
  (∀ i, i < k → Q i < 16 ∧ D (Q i) < 1000) ∧ (∀ i j, i < k → j < k → Q i = Q j → i = j) ∧ (∀ v, v < 16 → D v < 1000 → ∃ i, i < k ∧ Q i = v) ∧ (∀ i j, i ≤ j → j < k → D (Q i) ≤ D (Q j)) ∧ (t < k → ∀ j, j < k → D (Q j) ≤ D (Q t) + 1) ∧ snd c 1000 s D ∧ D s = 0 ∧ (∀ i, i < t → i < k → ∀ h v w, ed h (Q i) v → c h = some w → D v ≤ D (Q i) + w) ∧ ∀ i, i < k → D (Q i) ≤ i
theorem bq_add {c : Nat → Option Nat} {s k t : Nat} {Q D : Nat → Nat} (hb : bq c s k t Q D) (ht : t < k) {h x : Nat} (e : ed h (Q t) x) (hc : c h = some 1) (hx : D x = 1000) :
    k < 16 ∧ D (Q t) + 1 < 1000 ∧ bq c s (k + 1) t (fun i => if i = k then x else Q i) (fun y => if y = x then D (Q t) + 1 else D y) := by
  obtain ⟨b1, b2, b3, b4, b5, b6, b7, b8, b9⟩ := hb
  have hx16 := e.lt.2
  have nx : ∀ i, i < k → Q i ≠ x := fun i hi q => by have := (b1 i hi).2; rw [q, hx] at this; omega
  obtain ⟨Q1, hQ1⟩ : ∃ Q1 : Nat → Nat, Q1 = fun i => if i = k then x else Q i := ⟨_, rfl⟩
  obtain ⟨D1, hD1⟩ : ∃ D1 : Nat → Nat, D1 = fun y => if y = x then D (Q t) + 1 else D y := ⟨_, rfl⟩
  have qk : Q1 k = x := by rw [hQ1]; exact if_pos rfl
  have qi : ∀ i, i < k → Q1 i = Q i := fun i hi => by rw [hQ1]; exact if_neg (by omega)
  have dx : D1 x = D (Q t) + 1 := by rw [hD1]; exact if_pos rfl
  have dn : ∀ y, y ≠ x → D1 y = D y := fun y hy => by rw [hD1]; exact if_neg hy
  have inj : ∀ i j, i < k + 1 → j < k + 1 → Q1 i = Q1 j → i = j := by
    intro i j hi hj q
    by_cases a : i = k
    · by_cases b : j = k
      · omega
      · rw [a, qk, qi j (by omega)] at q; exact absurd q.symm (nx j (by omega))
    · by_cases b : j = k
      · rw [b, qk, qi i (by omega)] at q; exact absurd q (nx i (by omega))
      · rw [qi i (by omega), qi j (by omega)] at q; exact b2 i j (by omega) (by omega) q
  have r16 : ∀ i, i < k + 1 → Q1 i < 16 := by
    intro i hi
    by_cases a : i = k
    · rw [a, qk]; exact hx16
    · rw [qi i (by omega)]; exact (b1 i (by omega)).1
  have hk := pig 16 (k + 1) Q1 r16 inj
  have hd := b9 t ht
  have hle : ∀ y, D1 y ≤ D y := fun y => by
    by_cases a : y = x
    · rw [a, dx, hx]; omega
    · rw [dn y a]; exact Nat.le_refl _
  have dq : ∀ i, i < k → D1 (Q1 i) = D (Q i) := fun i hi => by rw [qi i hi, dn _ (nx i hi)]
  have dk : D1 (Q1 k) = D (Q t) + 1 := by rw [qk, dx]
  rw [← hQ1, ← hD1]
  refine ⟨by omega, by omega, ?_, inj, ?_, ?_, ?_, ?_, ?_, ?_, ?_⟩
  · intro i hi
    refine ⟨r16 i hi, ?_⟩
    by_cases a : i = k
    · rw [a, dk]; omega
    · rw [dq i (by omega)]; exact (b1 i (by omega)).2
  · intro v hv q
    by_cases a : v = x
    · exact ⟨k, by omega, by rw [qk, a]⟩
    · rw [dn v a] at q
      obtain ⟨i, hi, q2⟩ := b3 v hv q
      exact ⟨i, by omega, by rw [qi i hi]; exact q2⟩
  · intro i j hij hj
    by_cases a : j = k
    · by_cases b : i = k
      · rw [a, b]; exact Nat.le_refl _
      · rw [a, dk, dq i (by omega)]; exact b5 ht i (by omega)
    · rw [dq i (by omega), dq j (by omega)]; exact b4 i j hij (by omega)
  · intro _ j hj
    rw [dq t ht]
    by_cases a : j = k
    · rw [a, dk]; exact Nat.le_refl _
    · rw [dq j (by omega)]; exact b5 ht j (by omega)
  · intro v hv q
    by_cases a : v = x
    · rw [a, dx]
      obtain ⟨n, hn⟩ := b6 (Q t) (b1 t ht).1 (b1 t ht).2
      exact ⟨n + 1, h, Q t, D (Q t), 1, e, hc, hn, rfl⟩
    · rw [dn v a] at q ⊢; exact b6 v hv q
  · by_cases a : s = x
    · rw [a] at b7; omega
    · rw [dn s a]; exact b7
  · intro i hi hi2 g v w e2 hw
    rw [qi i (by omega)] at e2
    rw [dq i (by omega)]
    exact Nat.le_trans (hle v) (b8 i hi (by omega) g v w e2 hw)
  · intro i hi
    by_cases a : i = k
    · rw [a, dk]; omega
    · rw [dq i (by omega)]; exact b9 i (by omega)
/-- hedges that are gaps cost 1, others can't be passed -/
def cH (σ : Mm) : Nat → Option Nat := fun h => if (5 : Int32) ≤ σ 2 h then none else some 1
theorem nm1 {a : Nat} (h : a < 2147483648) : ¬ I a = (-1 : Int32) := I_m1 h
theorem cH_one (σ : Mm) : isOne (cH σ) := fun h w q => by
  unfold cH at q
  split at q
  · cases q
  · cases q; exact Nat.le_refl _
theorem m_dist {σ : Mm} {u : Nat} (hu : u < 16) : f_X8_distanceOf (I u) σ = some (σ 159 u) := by
  unfold f_X8_distanceOf
  rw [m_cell hu, bnd_d, if_neg (by decide), gd_I hu (by omega), I_clamp (by omega)]
/-- a hop from u over the hedge v, or none -/
theorem across_cases {v u : Nat} (hv : v < 24) : (∃ x, x < 16 ∧ ed v u x ∧ (if loN v = u then I (hiN v) else if hiN v = u then I (loN v) else -1) = I x) ∨ ((if loN v = u then I (hiN v) else if hiN v = u then I (loN v) else (-1 : Int32)) = -1 ∧ ∀ x, ¬ ed v u x) := by
  have l := lohi v hv
  by_cases a : loN v = u
  · rw [if_pos a]; exact Or.inl ⟨hiN v, l.2, ⟨hv, Or.inl ⟨a.symm, rfl⟩⟩, rfl⟩
  · rw [if_neg a]
    by_cases b : hiN v = u
    · rw [if_pos b]; exact Or.inl ⟨loN v, l.1, ⟨hv, Or.inr ⟨b.symm, rfl⟩⟩, rfl⟩
    · rw [if_neg b]
      refine Or.inr ⟨rfl, fun x e => ?_⟩
      rcases e.2 with ⟨q, -⟩ | ⟨q, -⟩
      · exact a q.symm
      · exact b q.symm
theorem ed_fun {v u x y : Nat} (a : ed v u x) (b : ed v u y) : x = y := by
  have hd := (by decide : ∀ v, v < 24 → loN v ≠ hiN v) v a.1
  rcases a.2 with ⟨p, q⟩ | ⟨p, q⟩ <;> rcases b.2 with ⟨r, t⟩ | ⟨r, t⟩
  · rw [q, t]
  · exact absurd (p.symm.trans r) hd
  · exact absurd (r.symm.trans p) hd
  · rw [q, t]
def bIn (σ0 : Mm) (s t u v : Nat) (g : Int32 × Mm) : Prop :=
  ∃ k Q D, g.1 = I k ∧ k ≤ 16 ∧ lbl 159 1000 g.2 D ∧ (∀ i, i < k → g.2 160 i = I (Q i)) ∧ bq (cH σ0) s k t Q D ∧ t < k ∧ Q t = u ∧ (∀ h, h < v → ∀ x w, ed h u x → cH σ0 h = some w → D x ≤ D u + w) ∧ ∀ a, a ≠ 159 → a ≠ 160 → g.2 a = σ0 a
theorem bfs_in {σ0 : Mm} {K : Int32 → Int32 → Mm → Option Mm} {v8 a0 : Int32} {s t u : Nat} (hu : u < 16) (g0 : Int32 × Mm) (h0 : bIn σ0 s t u 0 g0) :
    ∃ g, f_X8_measureFrom_l38 K (I u) v8 a0 30 0 g0.1 g0.2 = K (I 24) g.1 g.2 ∧ bIn σ0 s t u 24 g := by
  have hstop : ∀ (n : Nat) (g : Int32 × Mm), bIn σ0 s t u 24 g → f_X8_measureFrom_l38 K (I u) v8 a0 (n + 1) (I 24) g.1 g.2 = K (I 24) g.1 g.2 := by
    intro n g _
    rw [f_X8_measureFrom_l38, if_pos (show (24 : Int32) ≤ I 24 by decide)]
  have hstep : ∀ (n v : Nat) (g : Int32 × Mm), v < 24 → bIn σ0 s t u v g → ∃ g1 : Int32 × Mm, f_X8_measureFrom_l38 K (I u) v8 a0 (n + 1) (I v) g.1 g.2 = f_X8_measureFrom_l38 K (I u) v8 a0 n (I (v + 1)) g1.1 g1.2 ∧ bIn σ0 s t u (v + 1) g1 := by
    intro n v g hv hi
    obtain ⟨kk, σ⟩ := g
    obtain ⟨k, Q, D, i1, i2, i3, i4, i5, i6, i7, i8, i9⟩ := hi
    dsimp only at i1 i3 i4 i9
    subst i1
    have e1 : I v + 1 = I (v + 1) := I_add v 1
    have hop1 : σ 2 v = σ0 2 v := by rw [i9 2 (by omega) (by omega)]
    have skip : (∀ x w, ed v u x → cH σ0 v = some w → D x ≤ D u + w) → bIn σ0 s t u (v + 1) (I k, σ) := fun q => ⟨k, Q, D, rfl, i2, i3, i4, i5, i6, i7, fun h hh x w e hc => by
      by_cases a : h = v
      · subst a; exact q x w e hc
      · exact i8 h (by omega) x w e hc, i9⟩
    show ∃ g1, f_X8_measureFrom_l38 K (I u) v8 a0 (n + 1) (I v) (I k) σ = f_X8_measureFrom_l38 K (I u) v8 a0 n (I (v + 1)) g1.1 g1.2 ∧ bIn σ0 s t u (v + 1) g1
    rw [f_X8_measureFrom_l38, if_neg (show ¬ (24 : Int32) ≤ I v from nle (N := 24) hv (by omega)), m_across hv hu, bnd_d]
    rcases across_cases (u := u) hv with ⟨x, hx, e, hq⟩ | ⟨hq, hn⟩
    · rw [hq, if_neg (nm1 (by omega)), m_open hv, bnd_d, hop1]
      by_cases o : (5 : Int32) ≤ σ0 2 v
      · rw [if_pos o, if_pos rfl, lt_d, e1]
        exact ⟨(I k, σ), rfl, skip (fun y w _ hc => by unfold cH at hc; rw [if_pos o] at hc; cases hc)⟩
      · have hc1 : cH σ0 v = some 1 := by unfold cH; rw [if_neg o]
        rw [if_neg o, if_neg (by decide), gd_I hx (by omega), I_clamp (by omega), (i3 x hx).1]
        by_cases f : D x = 1000
        · rw [if_pos (show I (D x) = 1000 by rw [f]; rfl)]
          have ek : Q t = u := i7
          subst ek
          obtain ⟨h1, h2, h3⟩ := bq_add i5 i6 e hc1 f
          rw [if_neg (show ¬ (16 : Int32) ≤ I k from nle (N := 16) h1 (by omega)), m_dist hu, bnd_d, gd_I hx (by omega), I_clamp (by omega), (i3 _ hu).1, show I (D (Q t)) + 1 = I (D (Q t) + 1) from I_add _ 1, lt_d, gd_I h1 (by omega), lt_d, show I k + 1 = I (k + 1) from I_add _ 1, lt_d, lt_d, e1]
          refine ⟨(I (k + 1), up (up σ 159 x (I (D (Q t) + 1))) 160 k (I x)), rfl, k + 1, _, _, rfl, h1, ?_, ?_, h3, Nat.lt_succ_of_lt i6, if_neg (by omega), ?_, ?_⟩
          · intro y hy
            dsimp only
            rw [up_n _ _ _ (by decide)]
            exact up_lbl i3 (Nat.le_of_lt h2) y hy
          · intro i hi
            dsimp only
            rw [up_e]
            by_cases a : i = k
            · rw [a, upd_e, if_pos rfl]
            · rw [upd_n _ _ a, up_n _ _ _ (by decide), if_neg a]; exact i4 i (by omega)
          · intro h hh y w e2 hc
            have un : Q t ≠ x := fun q => by
              have := (i5.1 t i6).2
              rw [q, f] at this; omega
            rw [if_neg un]
            by_cases a : h = v
            · subst a
              rw [hc1] at hc; cases hc
              rw [ed_fun e2 e, if_pos rfl]
              exact Nat.le_refl _
            · have := i8 h (by omega) y w e2 hc
              by_cases b : y = x
              · rw [if_pos b]; rw [b, f] at this; omega
              · rw [if_neg b]; exact this
          · intro a ha hb
            dsimp only
            rw [up_n _ _ _ hb, up_n _ _ _ ha]; exact i9 a ha hb
        · rw [if_neg (show ¬ I (D x) = 1000 from fun q => f ((I_eq (by have := (i3 x hx).2; omega) (by omega)).mp (show I (D x) = I 1000 from q))), lt_d, e1]
          refine ⟨(I k, σ), rfl, skip (fun y w e2 hc => ?_)⟩
          rw [hc1] at hc; cases hc
          rw [ed_fun e2 e]
          have hl : D x < 1000 := by have := (i3 x hx).2; omega
          obtain ⟨b1, b2, b3, b4, b5, b6, b7, b8, b9⟩ := i5
          obtain ⟨j, hj, q⟩ := b3 x hx hl
          have := b5 i6 j hj
          rw [q, i7] at this
          exact this
    · rw [hq, if_pos rfl, lt_d, e1]
      exact ⟨(I k, σ), rfl, skip (fun x w e _ => absurd e (hn x))⟩
  exact loopI (fun n v (g : Int32 × Mm) => f_X8_measureFrom_l38 K (I u) v8 a0 n v g.1 g.2) (fun g => K (I 24) g.1 g.2) 24 (fun v g => bIn σ0 s t u v g) hstop hstep 24 0 30 g0 rfl (by omega) h0
theorem m_measure {σ0 : Mm} {s : Nat} (hs : s < 16) : ∃ σ1 D, f_X8_measureFrom (I s) σ0 = some σ1 ∧ lbl 159 1000 σ1 D ∧ lab (cH σ0) 1000 s D ∧ ∀ a, a ≠ 159 → a ≠ 160 → σ1 a = σ0 a := by
  have fin : ∀ (k : Nat) (Q D : Nat → Nat) (σ : Mm), lbl 159 1000 σ D → bq (cH σ0) s k k Q D → lab (cH σ0) 1000 s D := by
    intro k Q D σ h1 h2
    obtain ⟨b1, b2, b3, b4, b5, b6, b7, b8, b9⟩ := h2
    refine lab_of (cH_one σ0) hs (by omega) (fun v hv => (h1 v hv).2) b6 (fun n v j _ q => closed_le b7 ?_ n v j q)
    intro h u v w e hc
    by_cases a : D u < 1000
    · obtain ⟨i, hi, q⟩ := b3 u e.lt.1 a
      subst q
      exact b8 i hi hi h v w e hc
    · have := (h1 v e.lt.2).2
      omega
  have main : ∀ d t n k (σ : Mm) (Q D : Nat → Nat), t + d = 16 → d < n → k ≤ 16 → t ≤ k → lbl 159 1000 σ D → (∀ i, i < k → σ 160 i = I (Q i)) → bq (cH σ0) s k t Q D → (∀ a, a ≠ 159 → a ≠ 160 → σ a = σ0 a) →
      ∃ σ1 E, f_X8_measureFrom_l16 (I s) n (I t) (I k) σ = some σ1 ∧ lbl 159 1000 σ1 E ∧ lab (cH σ0) 1000 s E ∧ ∀ a, a ≠ 159 → a ≠ 160 → σ1 a = σ0 a := by
    intro d
    induction d with
    | zero =>
      intro t n k σ Q D ht hn hk htk h1 h2 h3 h4
      obtain ⟨n, rfl⟩ : ∃ m, n = m + 1 := ⟨n - 1, by omega⟩
      have : k = t := by omega
      subst this
      refine ⟨σ, D, ?_, h1, fin _ _ _ _ h1 h3, h4⟩
      rw [f_X8_measureFrom_l16, if_pos (show I k ≤ I k from (I_le (by omega) (by omega)).mpr (Nat.le_refl _))]
    | succ d ih =>
      intro t n k σ Q D ht hn hk htk h1 h2 h3 h4
      obtain ⟨n, rfl⟩ : ∃ m, n = m + 1 := ⟨n - 1, by omega⟩
      rw [f_X8_measureFrom_l16]
      by_cases e : k ≤ t
      · have : k = t := by omega
        subst this
        refine ⟨σ, D, ?_, h1, fin _ _ _ _ h1 h3, h4⟩
        rw [if_pos (show I k ≤ I k from (I_le (by omega) (by omega)).mpr (Nat.le_refl _))]
      · have htk2 : t < k := by omega
        rw [if_neg (show ¬ I k ≤ I t from nle htk2 (by omega)), if_neg (show ¬ (16 : Int32) ≤ I t from nle (N := 16) (by omega) (by omega)), gd_I (by omega) (by omega), I_clamp (by omega), h2 t htk2, lt_d, lt_d]
        obtain ⟨b1, b2, b3, b4, b5, b6, b7, b8, b9⟩ := id h3
        obtain ⟨⟨kk, σ1⟩, e1, k1, Q1, D1, c1, c2, c3, c4, c5, c6, c7, c8, c9⟩ := bfs_in (σ0 := σ0) (K := fun v14 v15 σ16 => lt (I t + 1) fun x18 => f_X8_measureFrom_l16 (I s) n x18 v15 σ16) (v8 := I t) (a0 := I s) (s := s) (t := t) (b1 t htk2).1 (I k, σ) ⟨k, Q, D, rfl, hk, h1, h2, h3, htk2, rfl, fun h hh => by omega, h4⟩
        dsimp only at e1 c1 c3 c4 c9
        rw [e1]
        show ∃ σ2 E, lt (I t + 1) (fun x18 => f_X8_measureFrom_l16 (I s) n x18 kk σ1) = some σ2 ∧ _
        rw [lt_d, show I t + 1 = I (t + 1) from I_add t 1, c1]
        refine ih (t + 1) n k1 σ1 Q1 D1 (by omega) (by omega) c2 c6 c3 c4 ?_ c9
        obtain ⟨d1, d2, d3, d4, d5, d6, d7, d8, d9⟩ := c5
        refine ⟨d1, d2, d3, d4, ?_, d6, d7, ?_, d9⟩
        · intro hlt j hj
          have p1 := d5 c6 j hj
          have p2 := d4 t (t + 1) (by omega) hlt
          omega
        · intro i hi hi2 h v w e2 hc
          by_cases a : i = t
          · subst a
            rw [c7] at e2 ⊢
            exact c8 h e2.1 v w e2 hc
          · exact d8 i (by omega) hi2 h v w e2 hc
  obtain ⟨σ1, h1, h2, h3⟩ := m_start (σ := σ0) hs
  unfold f_X8_measureFrom
  rw [h1, bnd_d, lt_d]
  refine main 16 0 30 1 _ (fun _ => s) (fun v => if v = s then 0 else 1000) (by omega) (by omega) (by omega) (by omega) ?_ ?_ ?_ ?_
  · intro v hv
    rw [up_n _ _ _ (by decide)]
    exact h2 v hv
  · intro i hi
    have : i = 0 := by omega
    subst this
    rw [up_e]; exact upd_e _ _ _
  · refine ⟨fun i _ => ⟨hs, by simp⟩, fun i j hi hj _ => by omega, fun v hv q => ⟨0, by omega, ?_⟩, fun i j _ _ => Nat.le_refl _, fun _ j _ => Nat.le_succ _, start_snd, by simp, fun i hi => by omega, fun i _ => by simp⟩
    by_cases a : v = s
    · exact a.symm
    · simp [a] at q
  · intro a ha hb
    rw [up_n _ _ _ hb]; exact h3 a ha
/-- the fewest hours, 1000 where there is no way -/
noncomputable def dst (c : Nat → Option Nat) (s v : Nat) : Nat := @dite _ (∃ k, isD c s v k) (Classical.propDecidable _) (fun h => h.choose) (fun _ => 1000)
theorem dst_is {c : Nat → Option Nat} {s v k : Nat} (h : isD c s v k) : dst c s v = k := by
  unfold dst
  have hx : ∃ k, isD c s v k := ⟨k, h⟩
  rw [dif_pos hx]
  exact hx.choose_spec.uniq h
theorem dst_no {c : Nat → Option Nat} {s v : Nat} (h : noW c s v) : dst c s v = 1000 := by
  unfold dst
  rw [dif_neg (fun ⟨k, q⟩ => q.no h)]
theorem lab_dst {c : Nat → Option Nat} {F s v : Nat} {D : Nat → Nat} (hF : F ≤ 1000) (h : lab c F s D) (hv : v < 16) : (D v < F ∧ dst c s v = D v ∧ isD c s v (D v)) ∨ (D v = F ∧ dst c s v = 1000 ∧ noW c s v) := by
  rcases h v hv with ⟨a, b⟩ | ⟨a, b⟩
  · exact Or.inl ⟨a, dst_is b, b⟩
  · exact Or.inr ⟨a, dst_no b, b⟩
end
section
/-! THE REFERENCE'S WAYS: neighbours by number, labels lowered cell by cell -/
def hN (u v : Nat) : Option Nat := (List.range 24).find? (fun h => (loN h == u && hiN h == v) || (hiN h == u && loN h == v))
def nxN (u d : Nat) : Option Nat := if d = 0 then (if 4 ≤ u then some (u - 4) else none) else if d = 1 then (if u % 4 < 3 then some (u + 1) else none) else if d = 2 then (if u < 12 then some (u + 4) else none) else if 0 < u % 4 then some (u - 1) else none
def oI (o : Option Nat) : Int32 := match o with
  | none => -1
  | some x => I x
theorem nextTo_ind (a b : Int32) (σ τ : Mm) : f_X10_nextTo a b σ = f_X10_nextTo a b τ := rfl
theorem hedgeAt_ind (a b : Int32) (σ τ : Mm) : f_X10_hedgeAt a b σ = f_X10_hedgeAt a b τ := rfl
theorem n_next {σ : Mm} {u d : Nat} (hu : u < 16) (hd : d < 4) : f_X10_nextTo (I u) (I d) σ = some (oI (nxN u d)) := by
  rw [nextTo_ind _ _ σ (fun _ _ => 0)]
  exact (by decide +kernel : ∀ u, u < 16 → ∀ d, d < 4 → f_X10_nextTo (I u) (I d) (fun _ _ => 0) = some (oI (nxN u d))) u hu d hd
def o6 (o : Option Nat) : Int32 := match o with
  | none => -1
  | some h => I (6 + h)
theorem n_hedge {σ : Mm} {u v : Nat} (hu : u < 16) (hv : v < 16) : f_X10_hedgeAt (I u) (I v) σ = some (o6 (hN u v)) := by
  rw [hedgeAt_ind _ _ σ (fun _ _ => 0)]
  exact (by decide +kernel : ∀ u, u < 16 → ∀ v, v < 16 → f_X10_hedgeAt (I u) (I v) (fun _ _ => 0) = some (o6 (hN u v))) u hu v hv
theorem nx_lt {u d x : Nat} (hu : u < 16) (hd : d < 4) (h : nxN u d = some x) : x < 16 ∧ ∃ g, hN u x = some g ∧ ed g u x := by
  have k := (by decide +kernel : ∀ u, u < 16 → ∀ d, d < 4 → (match nxN u d with
    | none => true
    | some x => decide (x < 16) && (match hN u x with
      | none => false
      | some g => decide (g < 24) && ((u == loN g && x == hiN g) || (u == hiN g && x == loN g)))) = true) u hu d hd
  rw [h] at k
  dsimp only at k
  rw [Bool.and_eq_true] at k
  refine ⟨of_decide_eq_true k.1, ?_⟩
  have k2 := k.2
  cases e : hN u x with
  | none => rw [e] at k2; cases k2
  | some g =>
    rw [e] at k2
    dsimp only at k2
    rw [Bool.and_eq_true, Bool.or_eq_true, Bool.and_eq_true, Bool.and_eq_true] at k2
    exact ⟨g, rfl, of_decide_eq_true k2.1, k2.2.elim (fun q => Or.inl ⟨eq_of_beq q.1, eq_of_beq q.2⟩) (fun q => Or.inr ⟨eq_of_beq q.1, eq_of_beq q.2⟩)⟩
theorem ed_nx {g u x : Nat} (e : ed g u x) : ∃ d, d < 4 ∧ nxN u d = some x := by
  have k := (by decide +kernel : ∀ g, g < 24 → ((List.range 4).any (fun d => nxN (loN g) d == some (hiN g)) && (List.range 4).any (fun d => nxN (hiN g) d == some (loN g))) = true) g e.1
  rw [Bool.and_eq_true, List.any_eq_true, List.any_eq_true] at k
  obtain ⟨⟨d1, a1, b1⟩, ⟨d2, a2, b2⟩⟩ := k
  rcases e.2 with ⟨p, q⟩ | ⟨p, q⟩ <;> subst p <;> subst q
  · exact ⟨d1, List.mem_range.mp a1, eq_of_beq b1⟩
  · exact ⟨d2, List.mem_range.mp a2, eq_of_beq b2⟩
theorem hN_ed {u v h : Nat} (q : hN u v = some h) : ed h u v := by
  unfold hN at q
  have a := List.find?_some q
  have b := List.mem_of_find?_eq_some q
  rw [Bool.or_eq_true, Bool.and_eq_true, Bool.and_eq_true] at a
  exact ⟨List.mem_range.mp b, a.elim (fun p => Or.inl ⟨(eq_of_beq p.1).symm, (eq_of_beq p.2).symm⟩) (fun p => Or.inr ⟨(eq_of_beq p.1).symm, (eq_of_beq p.2).symm⟩)⟩
theorem ed_hN {u v h : Nat} (e : ed h u v) : hN u v = some h := by
  have k := (by decide +kernel : ∀ g, g < 24 → (hN (loN g) (hiN g) == some g && hN (hiN g) (loN g) == some g) = true) h e.1
  rw [Bool.and_eq_true] at k
  rcases e.2 with ⟨p, q⟩ | ⟨p, q⟩ <;> subst p <;> subst q
  · exact eq_of_beq k.1
  · exact eq_of_beq k.2
theorem nN1 {o : Option Nat} (h : ∀ x, o = some x → x < 2147483648) : (oI o = -1) ↔ o = none := by
  cases o with
  | none => exact ⟨fun _ => rfl, fun _ => rfl⟩
  | some x => exact ⟨fun q => absurd q (nm1 (h x rfl)), fun q => by cases q⟩
/-- the leaves of the reference's array stand over those of the class -/
def gapR (σ : Mm) (h : Nat) : Bool := !decide ((5 : Int32) ≤ σ 199 (6 + h))
theorem n_gap {σ : Mm} {h : Nat} (hh : h < 24) : f_X10_isGapAt (I (6 + h)) σ = some (if gapR σ h = true then 1 else 0) := by
  unfold f_X10_isGapAt gapR
  rw [if_neg (nm1 (by omega)), gd_I (by omega) (by omega), I_clamp (by omega)]
  by_cases q : (5 : Int32) ≤ σ 199 (6 + h) <;> simp [q]
/-- what a hop is taken to cost -/
def wR (g tr : Bool) : Nat := if g then (if tr then 0 else 1) else if tr then 1 else 99
def cR (σ : Mm) (tr : Bool) : Nat → Option Nat := fun h => if tr then some (if gapR σ h = true then 0 else 1) else if gapR σ h = true then some 1 else none
theorem cR_one (σ : Mm) (tr : Bool) : isOne (cR σ tr) := fun h w q => by
  unfold cR at q
  split at q
  · cases q; split <;> omega
  · split at q
    · cases q; exact Nat.le_refl _
    · cases q
theorem cR_w (σ : Mm) (tr : Bool) (h : Nat) : cR σ tr h = some (wR (gapR σ h) tr) ∨ (cR σ tr h = none ∧ wR (gapR σ h) tr = 99) := by
  unfold cR wR
  cases tr <;> cases gapR σ h <;> simp
theorem rl_sndF {c : Nat → Option Nat} {F w : Nat} {s : Nat} {D : Nat → Nat} {h u v : Nat} (hw : c h = some w ∨ (c h = none ∧ F ≤ w)) (hv : D v ≤ F) (e : ed h u v) (hs : snd c F s D) : snd c F s (rl D u v w) := by
  intro x hx hlt
  unfold rl at hlt ⊢
  by_cases q : x = v ∧ D u + w < D v
  · rw [if_pos q] at hlt ⊢
    obtain ⟨rfl, q2⟩ := q
    obtain ⟨n, hn⟩ := hs u e.lt.1 (by omega)
    rcases hw with hc | ⟨-, hc⟩
    · exact ⟨n + 1, h, u, D u, w, e, hc, hn, rfl⟩
    · omega
  · rw [if_neg q] at hlt ⊢
    exact hs x hx hlt
theorem lay_val {A F : Nat} {σ : Mm} {D : Nat → Nat} (hF : F ≤ 1000) (h : lbl A F σ D) {u x w : Nat} (hu : u < 16) (hx : x < 16) (hw : w ≤ 99) : (if σ A u + I w < σ A x then σ A u + I w else σ A x) = I (rl D u x w x) := by
  have a := h u hu
  have b := h x hx
  rw [a.1, b.1, I_add]
  unfold rl
  by_cases q : D u + w < D x
  · rw [if_pos ((I_lt (by omega) (by omega)).mpr q), if_pos ⟨rfl, q⟩]
  · rw [if_neg (fun z => q ((I_lt (by omega) (by omega)).mp z)), if_neg (fun z => q z.2)]
theorem lay_lbl {A F : Nat} {σ : Mm} {D : Nat → Nat} (hF : F ≤ 1000) (h : lbl A F σ D) {u x w : Nat} (hu : u < 16) (hx : x < 16) (hw : w ≤ 99) : lbl A F (up σ A x (if σ A u + I w < σ A x then σ A u + I w else σ A x)) (rl D u x w) := by
  rw [lay_val hF h hu hx hw]
  intro y hy
  have hle := rl_le D u x w x
  have := (h x hx).2
  have k := up_lbl h (v := x) (k := rl D u x w x) (by omega) y hy
  dsimp only at k
  by_cases q : y = x
  · rw [if_pos q] at k
    rw [q] at k ⊢
    exact k
  · rw [if_neg q] at k
    have e : rl D u x w y = D y := by unfold rl; rw [if_neg (fun z => q z.1)]
    rw [e]; exact k
/-- one cell's four directions -/
def lI (σ0 : Mm) (tr : Bool) (s : Nat) (D0 : Nat → Nat) (P : Nat → Nat → Prop) (σ : Mm) : Prop :=
  ∃ D, lbl 204 99 σ D ∧ (∀ x, D x ≤ D0 x) ∧ D s = 0 ∧ snd (cR σ0 tr) 99 s D ∧ (∀ h u x, P u x → ed h u x → D x ≤ D0 u + wR (gapR σ0 h) tr) ∧ ∀ a, a ≠ 204 → σ a = σ0 a
theorem lay_in {σ0 : Mm} {tr : Bool} {s : Nat} {D0 : Nat → Nat} {P : Nat → Nat → Prop} {K : Int32 → Mm → Option Mm} {v7 a0 : Int32} {u : Nat} (hu : u < 16) (σ : Mm) (h0 : lI σ0 tr s D0 P σ) :
    ∃ σ1, f_X10_laysWays_l52 K (I u) v7 a0 (if tr then 1 else 0) 20 0 σ = K (I 4) σ1 ∧ lI σ0 tr s D0 (fun y x => P y x ∨ y = u) σ1 := by
  obtain ⟨σ1, h1, h2⟩ := loopI (fun n v g => f_X10_laysWays_l52 K (I u) v7 a0 (if tr then 1 else 0) n v g) (fun g => K (I 4) g) 4 (fun v g => lI σ0 tr s D0 (fun y x => P y x ∨ (y = u ∧ ∃ d, d < v ∧ nxN u d = some x)) g) (by
      intro n g _
      show f_X10_laysWays_l52 K (I u) v7 a0 (if tr then 1 else 0) (n + 1) (I 4) g = _
      rw [f_X10_laysWays_l52, if_pos (show (4 : Int32) ≤ I 4 by decide)]) (by
      intro n v g hv hi
      have e1 : I v + 1 = I (v + 1) := I_add v 1
      obtain ⟨D, i1, i2, i3, i4, i5, i6⟩ := hi
      show ∃ g1, f_X10_laysWays_l52 K (I u) v7 a0 (if tr then 1 else 0) (n + 1) (I v) g = f_X10_laysWays_l52 K (I u) v7 a0 (if tr then 1 else 0) n (I (v + 1)) g1 ∧ _
      rw [f_X10_laysWays_l52, if_neg (show ¬ (4 : Int32) ≤ I v from nle (N := 4) hv (by omega)), n_next hu hv, bnd_d]
      cases hn : nxN u v with
      | none =>
        refine ⟨g, ?_, D, i1, i2, i3, i4, fun h y x q e => ?_, i6⟩
        · rw [show oI none = (-1 : Int32) from rfl, if_pos rfl, if_pos rfl, if_pos rfl, lt_d, e1]
          split <;> rfl
        · rcases q with q | ⟨q1, d, q2, q3⟩
          · exact i5 h y x (Or.inl q) e
          · by_cases a : d = v
            · rw [a, hn] at q3; cases q3
            · exact i5 h y x (Or.inr ⟨q1, d, by omega, q3⟩) e
      | some x =>
        obtain ⟨hx, gh, hg, eg⟩ := nx_lt hu hv hn
        have gg : gapR g gh = gapR σ0 gh := by unfold gapR; rw [i6 199 (by omega)]
        have fin : ∀ w, w = wR (gapR σ0 gh) tr → lI σ0 tr s D0 (fun y x => P y x ∨ (y = u ∧ ∃ d, d < v + 1 ∧ nxN u d = some x)) (up g 204 x (if g 204 u + I w < g 204 x then g 204 u + I w else g 204 x)) := by
          intro w hw
          have hw99 : w ≤ 99 := by rw [hw]; unfold wR; split <;> split <;> omega
          refine ⟨rl D u x w, lay_lbl (by omega) i1 hu hx hw99, fun y => Nat.le_trans (rl_le _ _ _ _ _) (i2 y), ?_, ?_, ?_, fun a ha => by rw [up_n _ _ _ ha]; exact i6 a ha⟩
          · have := rl_le D u x w s; omega
          · refine rl_sndF ?_ (i1 x hx).2 eg i4
            rw [hw]
            rcases cR_w σ0 tr gh with q | ⟨q, q2⟩
            · exact Or.inl q
            · exact Or.inr ⟨q, by omega⟩
          · intro h y z q e
            have m1 := rl_le D u x w z
            rcases q with q | ⟨q1, d, q2, q3⟩
            · exact Nat.le_trans m1 (i5 h y z (Or.inl q) e)
            · by_cases a : d = v
              · subst a
                subst q1
                rw [hn] at q3; cases q3
                have hh : h = gh := Option.some.inj ((ed_hN e).symm.trans (ed_hN eg))
                have k := rl_at D y x w
                have k2 := i2 y
                rw [hh, ← hw]
                omega
              · exact Nat.le_trans m1 (i5 h y z (Or.inr ⟨q1, d, by omega, q3⟩) e)
        refine ⟨_, ?_, fin _ rfl⟩
        rw [show oI (some x) = I x from rfl, if_neg (nm1 (by omega)), n_hedge hu hx, bnd_d, hg, show o6 (some gh) = I (6 + gh) from rfl, n_gap eg.1, bnd_d, gg]
        simp only [if_neg (nm1 (show x < 2147483648 by omega))]
        simp only [gd_I hx (show 16 < 2147483648 by omega), gd_I hu (show 16 < 2147483648 by omega), I_clamp (show x < 2147483648 by omega), I_clamp (show u < 2147483648 by omega), lt_d, e1]
        cases tr <;> cases gapR σ0 gh <;> rfl) 4 0 20 σ (by omega) (by omega) (by
      obtain ⟨D, i1, i2, i3, i4, i5, i6⟩ := h0
      exact ⟨D, i1, i2, i3, i4, fun h y x q e => q.elim (fun q => i5 h y x q e) (fun q => by obtain ⟨-, d, q2, -⟩ := q; omega), i6⟩)
  refine ⟨σ1, h1, ?_⟩
  obtain ⟨D, i1, i2, i3, i4, i5, i6⟩ := h2
  refine ⟨D, i1, i2, i3, i4, fun h y x q e => ?_, i6⟩
  rcases q with q | q
  · exact i5 h y x (Or.inl q) e
  · subst q
    obtain ⟨d, q1, q2⟩ := ed_nx e
    exact i5 h y x (Or.inr ⟨rfl, d, q1, q2⟩) e
theorem lay_round {σ0 : Mm} {tr : Bool} {s : Nat} {D0 : Nat → Nat} {K : Int32 → Mm → Option Mm} {v7 a0 : Int32} (σ : Mm) (h0 : lI σ0 tr s D0 (fun _ _ => False) σ) :
    ∃ σ1, f_X10_laysWays_l42 K v7 a0 (if tr then 1 else 0) 20 0 σ = K (I 16) σ1 ∧ lI σ0 tr s D0 (fun _ _ => True) σ1 := by
  obtain ⟨σ1, h1, h2⟩ := loopI (fun n v g => f_X10_laysWays_l42 K v7 a0 (if tr then 1 else 0) n v g) (fun g => K (I 16) g) 16 (fun v g => lI σ0 tr s D0 (fun y _ => y < v) g) (by
      intro n g _
      show f_X10_laysWays_l42 K v7 a0 (if tr then 1 else 0) (n + 1) (I 16) g = _
      rw [f_X10_laysWays_l42, if_pos (show (16 : Int32) ≤ I 16 by decide)]) (by
      intro n v g hv hi
      have e1 : I v + 1 = I (v + 1) := I_add v 1
      show ∃ g1, f_X10_laysWays_l42 K v7 a0 (if tr then 1 else 0) (n + 1) (I v) g = f_X10_laysWays_l42 K v7 a0 (if tr then 1 else 0) n (I (v + 1)) g1 ∧ _
      rw [f_X10_laysWays_l42, if_neg (show ¬ (16 : Int32) ≤ I v from nle (N := 16) hv (by omega)), lt_d]
      obtain ⟨g1, q1, q2⟩ := lay_in (K := fun v17 σ18 => lt (I v + 1) fun x20 => f_X10_laysWays_l42 K v7 a0 (if tr then 1 else 0) n x20 σ18) (v7 := v7) (a0 := a0) hv g hi
      rw [q1]
      refine ⟨g1, ?_, ?_⟩
      · show lt (I v + 1) (fun x20 => f_X10_laysWays_l42 K v7 a0 (if tr then 1 else 0) n x20 g1) = _
        rw [lt_d, e1]
      · obtain ⟨D, i1, i2, i3, i4, i5, i6⟩ := q2
        exact ⟨D, i1, i2, i3, i4, fun h y x q e => i5 h y x (by omega) e, i6⟩) 16 0 20 σ (by omega) (by omega) (by
      obtain ⟨D, i1, i2, i3, i4, i5, i6⟩ := h0
      exact ⟨D, i1, i2, i3, i4, fun h y x q e => absurd q (by omega), i6⟩)
  refine ⟨σ1, h1, ?_⟩
  obtain ⟨D, i1, i2, i3, i4, i5, i6⟩ := h2
  exact ⟨D, i1, i2, i3, i4, fun h y x _ e => i5 h y x e.lt.1 e, i6⟩
theorem m_lays {σ0 : Mm} {tr : Bool} {s : Nat} (hs : s < 16) : ∃ σ1 D, f_X10_laysWays (I s) (if tr then 1 else 0) σ0 = some σ1 ∧ lbl 204 99 σ1 D ∧ lab (cR σ0 tr) 99 s D ∧ ∀ a, a ≠ 204 → σ1 a = σ0 a := by
  have main : ∀ d r n (σ : Mm) (D : Nat → Nat), r + d = 16 → d < n → lbl 204 99 σ D → D s = 0 → snd (cR σ0 tr) 99 s D → rnd (cR σ0 tr) s r D → (∀ a, a ≠ 204 → σ a = σ0 a) →
      ∃ σ1 E, f_X10_laysWays_l33 (I s) (if tr then 1 else 0) n (I r) σ = some σ1 ∧ lbl 204 99 σ1 E ∧ lab (cR σ0 tr) 99 s E ∧ ∀ a, a ≠ 204 → σ1 a = σ0 a := by
    intro d
    induction d with
    | zero =>
      intro r n σ D hr hn h1 h2 h3 h4 h6
      obtain ⟨n, rfl⟩ : ∃ m, n = m + 1 := ⟨n - 1, by omega⟩
      have : r = 16 := by omega
      subst this
      refine ⟨σ, D, ?_, h1, lab_of (cR_one σ0 tr) hs (by omega) (fun v hv => (h1 v hv).2) h3 (fun n v k hn q => h4 n (by omega) v k q), h6⟩
      rw [f_X10_laysWays_l33, if_pos (show (16 : Int32) ≤ I 16 by decide)]
    | succ d ih =>
      intro r n σ D hr hn h1 h2 h3 h4 h6
      obtain ⟨n, rfl⟩ : ∃ m, n = m + 1 := ⟨n - 1, by omega⟩
      rw [f_X10_laysWays_l33, if_neg (show ¬ (16 : Int32) ≤ I r from nle (N := 16) (by omega) (by omega)), lt_d]
      obtain ⟨σ1, q1, E, i1, i2, i3, i4, i5, i6⟩ := lay_round (σ0 := σ0) (tr := tr) (s := s) (D0 := D) (K := fun v10 σ11 => lt (I r + 1) fun x13 => f_X10_laysWays_l33 (I s) (if tr then 1 else 0) n x13 σ11) (v7 := I r) (a0 := I s) σ ⟨D, h1, fun _ => Nat.le_refl _, h2, h3, fun _ _ _ q => q.elim, h6⟩
      rw [q1]
      show ∃ σ2 E2, lt (I r + 1) (fun x13 => f_X10_laysWays_l33 (I s) (if tr then 1 else 0) n x13 σ1) = some σ2 ∧ _
      rw [lt_d, show I r + 1 = I (r + 1) from I_add r 1]
      refine ih (r + 1) n σ1 E (by omega) (by omega) i1 i3 i4 (rnd_step h4 (fun v _ => i2 v) hs ?_) i6
      intro h u v w e hc
      have := i5 h u v trivial e
      rcases cR_w σ0 tr h with q | ⟨q, -⟩
      · rw [hc] at q; cases q; exact this
      · rw [hc] at q; cases q
  unfold f_X10_laysWays
  rw [lt_d]
  obtain ⟨σ1, q1, q2, q3⟩ := loopI (fun n v g => f_X10_laysWays_l2 (fun v1 σ2 => f_X10_laysWays_l33 (I s) (if tr then 1 else 0) 20 0 σ2) (I s) (if tr then 1 else 0) n v g) (fun g => f_X10_laysWays_l33 (I s) (if tr then 1 else 0) 20 0 g) 16 (fun v (g : Mm) => (∀ x, x < v → g 204 x = I (if x = s then 0 else 99)) ∧ ∀ a, a ≠ 204 → g a = σ0 a) (by
      intro n g _
      rw [f_X10_laysWays_l2, if_pos (show (16 : Int32) ≤ I 16 by decide)]) (by
      intro n v g hv hi
      have e1 : I v + 1 = I (v + 1) := I_add v 1
      refine ⟨up g 204 v (I (if v = s then 0 else 99)), ?_, ?_, ?_⟩
      · rw [f_X10_laysWays_l2, if_neg (show ¬ (16 : Int32) ≤ I v from nle (N := 16) hv (by omega)), gd_I hv (by omega), gd_I hv (by omega), I_clamp (by omega), lt_d, lt_d, lt_d, lt_d, e1]
        by_cases q : v = s
        · rw [if_pos (by rw [q]), if_pos q]; rfl
        · rw [if_neg (I_beq (by omega) (by omega) q), if_neg q]; rfl
      · intro x hx
        rw [up_e]
        by_cases q : x = v
        · rw [q, upd_e]
        · rw [upd_n _ _ q]; exact hi.1 x (by omega)
      · intro a ha
        rw [up_n _ _ _ ha]; exact hi.2 a ha) 16 0 20 σ0 (by omega) (by omega) ⟨fun x hx => by omega, fun _ _ => rfl⟩
  refine (show ∃ σ1 D, f_X10_laysWays_l2 (fun v1 σ2 => f_X10_laysWays_l33 (I s) (if tr then 1 else 0) 20 0 σ2) (I s) (if tr then 1 else 0) 20 0 σ0 = some σ1 ∧ _ from ?_)
  rw [show f_X10_laysWays_l2 (fun v1 σ2 => f_X10_laysWays_l33 (I s) (if tr then 1 else 0) 20 0 σ2) (I s) (if tr then 1 else 0) 20 0 σ0 = f_X10_laysWays_l33 (I s) (if tr then 1 else 0) 20 0 σ1 from q1]
  refine main 16 0 20 σ1 (fun v => if v = s then 0 else 99) (by omega) (by omega) (fun v hv => ⟨q2 v hv, by dsimp only; split <;> omega⟩) (by simp) ?_ (rnd_zero (by simp)) q3
  intro v hv h
  by_cases q : v = s
  · exact ⟨0, q, by simp [q]⟩
  · simp [q] at h
end
section
/-! SETS OF CELLS AND WAYS: the two ways of telling agree -/
theorem wk_congr {c d : Nat → Option Nat} (h : ∀ g, g < 24 → c g = d g) {s : Nat} : ∀ {n v k : Nat}, wk c s n v k → wk d s n v k := by
  intro n
  induction n with
  | zero => intro v k q; exact q
  | succ n ih =>
    intro v k q
    obtain ⟨g, u, j, w, e, hc, q, hk⟩ := q
    exact ⟨g, u, j, w, e, by rw [← h g e.1]; exact hc, ih q, hk⟩
theorem isD_congr {c d : Nat → Option Nat} (h : ∀ g, g < 24 → c g = d g) {s v k : Nat} (q : isD c s v k) : isD d s v k := by
  obtain ⟨⟨n, a⟩, b⟩ := q
  exact ⟨⟨n, wk_congr h a⟩, fun m j z => b m j (wk_congr (fun g hg => (h g hg).symm) z)⟩
theorem noW_congr {c d : Nat → Option Nat} (h : ∀ g, g < 24 → c g = d g) {s v : Nat} (q : noW c s v) : noW d s v := fun n k z => q n k (wk_congr (fun g hg => (h g hg).symm) z)
theorem rch_mono {c d : Nat → Option Nat} (h : ∀ g, g < 24 → c g ≠ none → d g ≠ none) {s v : Nat} (q : rch c s v) : rch d s v := by
  obtain ⟨n, k, q⟩ := q
  revert v k
  induction n with
  | zero => intro v k q; obtain ⟨rfl, rfl⟩ := q; exact rch.start
  | succ n ih =>
    intro v k q
    obtain ⟨g, u, j, w, e, hc, q, -⟩ := q
    have := ih _ q
    cases hd : d g with
    | none => exact absurd hd (h g e.1 (by rw [hc]; intro z; cases z))
    | some x => exact this.step e hd
theorem noW_rch {c : Nat → Option Nat} {s v : Nat} : noW c s v ↔ ¬ rch c s v := ⟨fun h ⟨n, k, q⟩ => h n k q, fun h n k q => h ⟨n, k, q⟩⟩
theorem isD_rch {c : Nat → Option Nat} {s v k : Nat} (h : isD c s v k) : rch c s v := by
  obtain ⟨⟨n, a⟩, -⟩ := h
  exact ⟨n, k, a⟩
theorem lab_rch {c : Nat → Option Nat} {F s v : Nat} {D : Nat → Nat} (h : lab c F s D) (hv : v < 16) : D v < F ↔ rch c s v := by
  rcases h v hv with ⟨a, b⟩ | ⟨a, b⟩
  · exact ⟨fun _ => isD_rch b, fun _ => a⟩
  · exact ⟨fun q => by omega, fun q => absurd q (noW_rch.mp b)⟩
/-- cells that are joined by hedges that p lets pass -/
def rp (p : Nat → Bool) (s v : Nat) : Prop := rch (cF p) s v
theorem cF_ne {p : Nat → Bool} {g : Nat} : cF p g ≠ none ↔ p g = true := by
  unfold cF
  cases p g <;> simp
theorem rp_of {c : Nat → Option Nat} {p : Nat → Bool} (h : ∀ g, g < 24 → (c g ≠ none ↔ p g = true)) {s v : Nat} : rch c s v ↔ rp p s v :=
  ⟨rch_mono (fun g hg q => cF_ne.mpr ((h g hg).mp q)), rch_mono (fun g hg q => (h g hg).mpr (cF_ne.mp q))⟩
theorem rp_congr {p q : Nat → Bool} (h : ∀ g, g < 24 → p g = q g) {s v : Nat} : rp p s v ↔ rp q s v := rp_of (fun g hg => by rw [cF_ne, h g hg])
/-- which hedges are gaps in the class's maze -/
def gC (σ : Mm) (h : Nat) : Bool := !decide ((5 : Int32) ≤ σ 2 h)
theorem gC_cH {σ : Mm} {s v : Nat} : rch (cH σ) s v ↔ rp (gC σ) s v := rp_of (fun g _ => by unfold cH gC; by_cases q : (5 : Int32) ≤ σ 2 g <;> simp [q])
theorem gR_cR {σ : Mm} {s v : Nat} : rch (cR σ false) s v ↔ rp (gapR σ) s v := rp_of (fun g _ => by unfold cR; cases gapR σ g <;> simp)
theorem okF_gC {σ : Mm} {h : Nat} (hh : h < 24) : okF σ 5 (-1) h = gC σ h := by
  unfold okF gC
  rw [show decide (I h = (-1 : Int32)) = false from decide_eq_false (nm1 (by omega))]
  rfl
/-! bits of one cell, the exit's bit -/
theorem one_bit {s : Nat} (hs : s < 16) (v : Nat) : bit ((1 : Int32) <<< (I s &&& 31)) v = (v == s) := by
  by_cases hv : v < 32
  · exact (by decide +kernel : ∀ s, s < 16 → ∀ v, v < 32 → bit ((1 : Int32) <<< (I s &&& 31)) v = (v == s)) s hs v hv
  · rw [bit_ge (by omega)]
    symm
    simp
    omega
theorem b15 (v : Nat) : bit (32768 : Int32) v = (v == 15) := by
  have k := one_bit (s := 15) (by omega) v
  rw [← k]
  rfl
theorem m_holds {σ : Mm} (x : Int32) : f_X8_holdsExit x σ = some (if bit x 15 = true then 1 else 0) := by
  unfold f_X8_holdsExit
  by_cases q : bit x 15 = true
  · rw [if_pos q, if_neg]
    intro z
    have := bit_and x 32768 15
    rw [z, bit_0, q, b15] at this
    cases this
  · rw [if_neg q, if_pos]
    apply bit_ext
    intro v _
    rw [bit_and, b15, bit_0]
    by_cases e : v = 15
    · subst e; rw [Bool.eq_false_iff.mpr q]; rfl
    · simp [e]
theorem m_leads {σ : Mm} (lim out : Int32) : ∃ b : Bool, f_X8_leadsThrough lim out σ = some (if b then 1 else 0) ∧ (b = true ↔ rp (okF σ lim out) 0 15) := by
  have h1 : ∀ v, bit (1 : Int32) v = (v == 0) := fun v => one_bit (s := 0) (by omega) v
  obtain ⟨q, a, b⟩ := m_flood (σ := σ) 1 lim out (fun u hu => by rw [h1] at hu; have := eq_of_beq hu; omega)
  refine ⟨bit q 15, ?_, ?_⟩
  · unfold f_X8_leadsThrough
    rw [a, bnd_d, m_holds, bnd_d]
    cases bit q 15 <;> rfl
  · rw [b 15]
    constructor
    · rintro ⟨s, hs, k⟩
      rw [h1] at hs
      rw [eq_of_beq hs] at k
      exact k
    · intro k
      exact ⟨0, by rw [h1]; rfl, k⟩
theorem m_reach {σ : Mm} {s : Nat} (hs : s < 16) : ∃ q, f_X8_cellsReached (I s) σ = some q ∧ ∀ u, bit q u = true ↔ rp (gC σ) s u := by
  obtain ⟨q, a, b⟩ := m_flood (σ := σ) ((1 : Int32) <<< (I s &&& 31)) 5 (-1) (fun u hu => by rw [one_bit hs] at hu; have := eq_of_beq hu; omega)
  refine ⟨q, ?_, fun u => ?_⟩
  · unfold f_X8_cellsReached
    rw [a, bnd_d]
  · rw [b u]
    have e : rp (okF σ 5 (-1)) s u ↔ rp (gC σ) s u := rp_congr (fun g hg => okF_gC hg)
    constructor
    · rintro ⟨t, ht, k⟩
      rw [one_bit hs] at ht
      rw [eq_of_beq ht] at k
      exact e.mp k
    · intro k
      exact ⟨s, by rw [one_bit hs]; simp, e.mpr k⟩
theorem rch_lt {c : Nat → Option Nat} {s v : Nat} (hs : s < 16) (h : rch c s v) : v < 16 := by
  obtain ⟨n, k, q⟩ := h
  cases n with
  | zero => rw [q.1]; exact hs
  | succ n => obtain ⟨g, u, j, w, e, -⟩ := q; exact e.lt.2
/-! the reference's set -/
theorem n_reach {σ : Mm} {s : Nat} (hs : s < 16) : ∃ q σ1, f_X10_reachedFrom (I s) σ = some (q, σ1) ∧ (∀ u, bit q u = true ↔ rp (gapR σ) s u) ∧ ∀ a, a ≠ 204 → σ1 a = σ a := by
  obtain ⟨σ1, D, h1, h2, h3, h4⟩ := m_lays (σ0 := σ) (tr := false) hs
  have h1 : f_X10_laysWays (I s) 0 σ = some σ1 := h1
  unfold f_X10_reachedFrom
  rw [h1, bnd_d]
  obtain ⟨g, q1, q2⟩ := loopI (fun n v g => f_X10_reachedFrom_l10 (I s) σ1 n v g) (fun g => some (g, σ1)) 16 (fun v (g : Int32) => ∀ u, bit g u = true ↔ u < v ∧ D u < 99) (by
      intro n g _
      rw [f_X10_reachedFrom_l10, if_pos (show (16 : Int32) ≤ I 16 by decide)]) (by
      intro n v g hv hi
      have e1 : I v + 1 = I (v + 1) := I_add v 1
      have hw := h2 v hv
      rw [f_X10_reachedFrom_l10, if_neg (show ¬ (16 : Int32) ≤ I v from nle (N := 16) hv (by omega)), gd_I hv (by omega), I_clamp (by omega), hw.1, lt_d, lt_d, lt_d, lt_d, e1]
      by_cases f : D v < 99
      · rw [if_neg (show ¬ (99 : Int32) ≤ I (D v) from nle (N := 99) f (by omega))]
        refine ⟨_, rfl, fun u => ?_⟩
        rw [bit_or, Bool.or_eq_true, one_bit hv, hi u]
        constructor
        · rintro (⟨a, b⟩ | a)
          · exact ⟨by omega, b⟩
          · have := eq_of_beq a; subst this; exact ⟨by omega, f⟩
        · rintro ⟨a, b⟩
          by_cases e : u = v
          · exact Or.inr (by simp [e])
          · exact Or.inl ⟨by omega, b⟩
      · rw [if_pos (show (99 : Int32) ≤ I (D v) from (I_le (a := 99) (by omega) (by omega)).mpr (by omega))]
        refine ⟨_, rfl, fun u => ?_⟩
        rw [bit_or, bit_0, Bool.or_false, hi u]
        constructor
        · rintro ⟨a, b⟩; exact ⟨by omega, b⟩
        · rintro ⟨a, b⟩
          by_cases e : u = v
          · rw [e] at b; exact absurd b f
          · exact ⟨by omega, b⟩) 16 0 20 0 (by omega) (by omega) (fun u => by rw [bit_0]; simp)
  refine ⟨g, σ1, q1, fun u => ?_, h4⟩
  rw [q2 u, ← gR_cR]
  constructor
  · rintro ⟨a, b⟩; exact (lab_rch h3 a).mp b
  · intro k
    have := rch_lt hs k
    exact ⟨this, (lab_rch h3 this).mpr k⟩
/-- the two sets are one number -/
theorem set_eq {x y : Int32} {p q : Nat → Bool} {s : Nat} (hx : ∀ u, bit x u = true ↔ rp p s u) (hy : ∀ u, bit y u = true ↔ rp q s u) (h : ∀ g, g < 24 → p g = q g) : x = y := by
  apply bit_ext
  intro v _
  have k : bit x v = true ↔ bit y v = true := by rw [hx, hy, rp_congr h]
  cases a : bit x v <;> cases b : bit y v
  · rfl
  · rw [a, b] at k; exact absurd (k.mpr rfl) (by decide)
  · rw [a, b] at k; exact absurd (k.mp rfl) (by decide)
  · rfl
/-! trims: by number, by neighbours, by the reference -/
def cT (p : Nat → Bool) : Nat → Option Nat := fun h => some (if p h = true then 0 else 1)
theorem cT_one (p : Nat → Bool) : isOne (cT p) := fun h w q => by
  unfold cT at q; cases q; split <;> omega
theorem cT_exit {p : Nat → Bool} {s : Nat} (hs : s < 16) : rch (cT p) s 15 := rch_exit (fun h _ => ⟨_, rfl⟩) hs
theorem wk_cF {p : Nat → Bool} {s : Nat} : ∀ {n v k : Nat}, wk (cF p) s n v k → wk (cT p) s n v 0 := by
  intro n
  induction n with
  | zero => intro v k q; exact ⟨q.1, rfl⟩
  | succ n ih =>
    intro v k q
    obtain ⟨g, u, j, w, e, hc, q, -⟩ := q
    have hp : p g = true := cF_ne.mp (by rw [hc]; intro z; cases z)
    exact ⟨g, u, 0, 0, e, by unfold cT; rw [if_pos hp], ih q, rfl⟩
/-- what at most k trims reach -/
def tR (p : Nat → Bool) (s k v : Nat) : Prop := ∃ n j, j ≤ k ∧ wk (cT p) s n v j
theorem tR_gap {p : Nat → Bool} {s k u v : Nat} (h : tR p s k u) (g : rp p u v) : tR p s k v := by
  obtain ⟨n, z, q⟩ := g
  revert v z
  induction n with
  | zero => intro v z q; rw [q.1]; exact h
  | succ n ih =>
    intro v z q
    obtain ⟨g, x, j, w, e, hc, q, -⟩ := q
    obtain ⟨m, i, h1, h2⟩ := ih _ q
    have hp : p g = true := cF_ne.mp (by rw [hc]; intro z; cases z)
    exact ⟨m + 1, i, h1, g, x, i, 0, e, by unfold cT; rw [if_pos hp], h2, rfl⟩
theorem tR_step {p : Nat → Bool} {s k : Nat} {X Y : Nat → Prop} (hX : ∀ v, X v ↔ tR p s k v) (hY : ∀ v, Y v ↔ ∃ t, (X t ∨ ∃ h u, ed h u t ∧ X u) ∧ rp p t v) : ∀ v, Y v ↔ tR p s (k + 1) v := by
  intro v
  rw [hY]
  constructor
  · rintro ⟨t, ht, g⟩
    refine tR_gap ?_ g
    rcases ht with ht | ⟨h, u, e, hu⟩
    · obtain ⟨n, j, a, b⟩ := (hX t).mp ht
      exact ⟨n, j, by omega, b⟩
    · obtain ⟨n, j, a, b⟩ := (hX u).mp hu
      refine ⟨n + 1, j + (if p h = true then 0 else 1), ?_, h, u, j, _, e, rfl, b, rfl⟩
      split <;> omega
  · rintro ⟨n, j, a, b⟩
    revert v j
    induction n with
    | zero =>
      intro v j a b
      refine ⟨v, Or.inl ((hX v).mpr ⟨0, 0, by omega, b.1, rfl⟩), rch.start⟩
    | succ n ih =>
      intro v j a b
      obtain ⟨g, u, i, w, e, hc, q, rfl⟩ := b
      unfold cT at hc
      by_cases hp : p g = true
      · rw [if_pos hp] at hc
        obtain ⟨t, h1, h2⟩ := ih u i (by omega) q
        exact ⟨t, h1, rch.step (c := cF p) h2 e (by unfold cF; rw [if_pos hp])⟩
      · rw [if_neg hp] at hc
        cases hc
        exact ⟨v, Or.inr ⟨g, u, e, (hX u).mpr ⟨n, i, by omega, q⟩⟩, rch.start⟩
theorem m_wide {σ : Mm} (x : Int32) : ∃ y, f_X8_widened x σ = some y ∧ ∀ v, bit y v = true ↔ bit x v = true ∨ ∃ h u, ed h u v ∧ bit x u = true := by
  obtain ⟨g, q1, q2⟩ := loopI (fun n v g => f_X8_widened_l4 x σ n v g) (fun g => some g) 24 (fun v (g : Int32) => ∀ w, bit g w = true ↔ bit x w = true ∨ ∃ h, h < v ∧ (w = loN h ∨ w = hiN h) ∧ (bit x (loN h) = true ∨ bit x (hiN h) = true)) (by
      intro n g _
      rw [f_X8_widened_l4, if_pos (show (24 : Int32) ≤ I 24 by decide)]) (by
      intro n v g hv hi
      have e1 : I v + 1 = I (v + 1) := I_add v 1
      rw [f_X8_widened_l4, if_neg (show ¬ (24 : Int32) ≤ I v from nle (N := 24) hv (by omega)), m_joined hv, bnd_d, lt_d, lt_d, e1]
      refine ⟨_, rfl, fun w => ?_⟩
      rw [bit_or, Bool.or_eq_true, hi w]
      have key : bit (if x &&& jn v = 0 then 0 else jn v) w = true ↔ (w = loN v ∨ w = hiN v) ∧ (bit x (loN v) = true ∨ bit x (hiN v) = true) := by
        by_cases hm : x &&& jn v = 0
        · rw [if_pos hm, bit_0]
          obtain ⟨a, b⟩ := (jn_meet hv x).mp hm
          simp [a, b]
        · rw [if_neg hm, jn_bit hv]
          have k : bit x (loN v) = true ∨ bit x (hiN v) = true := by
            cases a : bit x (loN v)
            · cases b : bit x (hiN v)
              · exact absurd ((jn_meet hv x).mpr ⟨a, b⟩) hm
              · exact Or.inr rfl
            · exact Or.inl rfl
          simp [k]
      rw [key]
      constructor
      · rintro ((a | ⟨h, a, b⟩) | a)
        · exact Or.inl a
        · exact Or.inr ⟨h, by omega, b⟩
        · exact Or.inr ⟨v, by omega, a⟩
      · rintro (a | ⟨h, a, b⟩)
        · exact Or.inl (Or.inl a)
        · by_cases e : h = v
          · subst e; exact Or.inr b
          · exact Or.inl (Or.inr ⟨h, by omega, b⟩)) 24 0 30 x (by omega) (by omega) (fun w => ⟨Or.inl, fun q => q.elim id (fun ⟨h, a, _⟩ => absurd a (by omega))⟩)
  refine ⟨g, by unfold f_X8_widened; exact q1, fun v => ?_⟩
  rw [q2 v]
  constructor
  · rintro (a | ⟨h, hh, b, c⟩)
    · exact Or.inl a
    · rcases b with b | b <;> rcases c with c | c
      · exact Or.inl (by rw [b]; exact c)
      · exact Or.inr ⟨h, hiN h, ⟨hh, Or.inr ⟨rfl, b⟩⟩, c⟩
      · exact Or.inr ⟨h, loN h, ⟨hh, Or.inl ⟨rfl, b⟩⟩, c⟩
      · exact Or.inl (by rw [b]; exact c)
  · rintro (a | ⟨h, u, e, b⟩)
    · exact Or.inl a
    · refine Or.inr ⟨h, e.1, ?_⟩
      rcases e.2 with ⟨p, q⟩ | ⟨p, q⟩
      · exact ⟨Or.inr q, Or.inl (by rw [← p]; exact b)⟩
      · exact ⟨Or.inl q, Or.inr (by rw [← p]; exact b)⟩
theorem m_trimsN {σ : Mm} {s : Nat} (hs : s < 16) : ∃ k, f_X8_trimsByNumber (I s) σ = some (I k) ∧ isD (cT (gC σ)) s 15 k := by
  obtain ⟨D0, hD0⟩ : ∃ k, isD (cT (gC σ)) s 15 k := by
    obtain ⟨n, j, q⟩ := cT_exit (p := gC σ) hs
    have : ∀ m j, j ≤ m → (∃ n, wk (cT (gC σ)) s n 15 j) → ∃ k, isD (cT (gC σ)) s 15 k := by
      intro m
      induction m with
      | zero =>
        intro j hj h
        have : j = 0 := by omega
        subst this
        exact ⟨0, h, fun _ _ _ => Nat.zero_le _⟩
      | succ m ih =>
        intro j hj h
        by_cases e : ∃ i, i < j ∧ ∃ n, wk (cT (gC σ)) s n 15 i
        · obtain ⟨i, hi, h2⟩ := e
          exact ih i (by omega) h2
        · exact ⟨j, h, fun n i q => Nat.not_lt.mp fun z => e ⟨i, z, n, q⟩⟩
    exact this j j (Nat.le_refl _) ⟨n, q⟩
  have h15 := hD0.le15 (cT_one _) hs
  obtain ⟨q0, a0, b0⟩ := m_reach (σ := σ) hs
  have main : ∀ d k n (x : Int32), k + d = 24 → d < n → (∀ v, bit x v = true ↔ tR (gC σ) s k v) → (∀ j, j < k → ¬ tR (gC σ) s j 15) → ∃ r, f_X8_trimsByNumber_l8 (I s) σ n (I k) x = some (I r) ∧ isD (cT (gC σ)) s 15 r := by
    intro d
    induction d with
    | zero =>
      intro k n x hk hn hx hno
      exfalso
      exact hno D0 (by omega) ⟨hD0.1.choose, D0, Nat.le_refl _, hD0.1.choose_spec⟩
    | succ d ih =>
      intro k n x hk hn hx hno
      obtain ⟨n, rfl⟩ : ∃ m, n = m + 1 := ⟨n - 1, by omega⟩
      rw [f_X8_trimsByNumber_l8, if_neg (show ¬ (24 : Int32) ≤ I k from nle (N := 24) (by omega) (by omega)), m_holds, bnd_d]
      by_cases h : bit x 15 = true
      · rw [if_pos h, if_neg (by decide)]
        refine ⟨k, rfl, ?_⟩
        obtain ⟨m, j, h1, h2⟩ := (hx 15).mp h
        have ej : j = k := by
          by_cases e : j = k
          · exact e
          · exact absurd ⟨m, j, Nat.le_refl _, h2⟩ (hno j (by omega))
        subst ej
        refine ⟨⟨m, h2⟩, fun n2 i q => ?_⟩
        by_cases e : j ≤ i
        · exact e
        · exact absurd ⟨n2, i, Nat.le_refl _, q⟩ (hno i (by omega))
      · rw [if_neg h, if_pos rfl]
        obtain ⟨y, y1, y2⟩ := m_wide (σ := σ) x
        have y16 : ∀ u, bit y u = true → u < 16 := by
          intro u hu
          rcases (y2 u).mp hu with q | ⟨g, w, e, -⟩
          · obtain ⟨m, j, -, h2⟩ := (hx u).mp q
            exact rch_lt hs ⟨m, j, h2⟩
          · exact e.lt.2
        obtain ⟨z, z1, z2⟩ := m_flood (σ := σ) y 5 (-1) y16
        rw [y1, bnd_d, z1, bnd_d, lt_d, show I k + 1 = I (k + 1) from I_add k 1]
        refine ih (k + 1) n z (by omega) (by omega) (tR_step hx (fun v => ?_)) ?_
        · rw [z2 v]
          have e : ∀ t, rp (okF σ 5 (-1)) t v ↔ rp (gC σ) t v := fun t => rp_congr (fun g hg => okF_gC hg)
          constructor
          · rintro ⟨t, h1, h2⟩
            exact ⟨t, (y2 t).mp h1, (e t).mp h2⟩
          · rintro ⟨t, h1, h2⟩
            exact ⟨t, (y2 t).mpr h1, (e t).mpr h2⟩
        · intro j hj q
          by_cases e : j = k
          · subst e; exact h ((hx 15).mpr q)
          · exact hno j (by omega) q
  unfold f_X8_trimsByNumber
  rw [a0, bnd_d]
  refine main 24 0 30 q0 (by omega) (by omega) (fun v => ?_) (fun j hj => by omega)
  rw [b0 v]
  constructor
  · rintro ⟨n, k, q⟩
    exact ⟨n, 0, Nat.le_refl _, wk_cF q⟩
  · rintro ⟨n, j, h1, h2⟩
    have : j = 0 := by omega
    subst this
    revert v
    induction n with
    | zero => intro v q; rw [q.1]; exact rch.start
    | succ n ih =>
      intro v q
      obtain ⟨g, u, i, w, e, hc, q, hk⟩ := q
      have hi : i = 0 := by omega
      have hw : w = 0 := by omega
      subst hi; subst hw
      refine rch.step (c := cF (gC σ)) (ih u q) e (w := 0) ?_
      unfold cT at hc
      unfold cF
      by_cases hp : gC σ g = true
      · rw [if_pos hp]
      · rw [if_neg hp] at hc; cases hc
/-- the class's second way, and the reference's -/
theorem m_trimsB {σ : Mm} {s : Nat} (hs : s < 16) : ∃ k σ1, f_X8_trimsByNeighbours (I s) σ = some (I k, σ1) ∧ isD (cT (gC σ)) s 15 k ∧ ∀ a, a ≠ 159 → σ1 a = σ a := by
  obtain ⟨σ1, D, h1, h2, h3, h4⟩ := m_relax (c := cT (gC σ)) (W := fun h => if gC σ h = true then 0 else 1) (fun h _ => Or.inl rfl) (cT_one _) (fun h => by split <;> omega) hs (σ0 := σ) (g1 := 0) (g2 := 1) (fun h _ => by unfold gC; by_cases q : (5 : Int32) ≤ σ 2 h <;> simp [q])
  have h1 : f_X8_relaxFrom (I s) 0 1 σ = some σ1 := h1
  rcases h3 15 (by omega) with ⟨a, b⟩ | ⟨a, b⟩
  · refine ⟨D 15, σ1, ?_, b, h4⟩
    unfold f_X8_trimsByNeighbours
    rw [h1, bnd_d, show (15 : Int32) = I 15 from rfl, m_dist (by omega), bnd_d, (h2 15 (by omega)).1]
  · exact absurd (cT_exit hs) (noW_rch.mp b)
theorem n_trims {σ : Mm} {s : Nat} (hs : s < 16) : ∃ k σ1, f_X10_laysWays (I s) 1 σ = some σ1 ∧ σ1 204 15 = I k ∧ isD (cT (gapR σ)) s 15 k ∧ ∀ a, a ≠ 204 → σ1 a = σ a := by
  obtain ⟨σ1, D, h1, h2, h3, h4⟩ := m_lays (σ0 := σ) (tr := true) hs
  have h1 : f_X10_laysWays (I s) 1 σ = some σ1 := h1
  have e : ∀ g, g < 24 → cR σ true g = cT (gapR σ) g := fun g _ => by unfold cR cT; simp
  rcases h3 15 (by omega) with ⟨a, b⟩ | ⟨a, b⟩
  · exact ⟨D 15, σ1, h1, (h2 15 (by omega)).1, isD_congr e b, h4⟩
  · exact absurd (cT_exit hs) (noW_rch.mp (noW_congr e b))
/-- hours: the class's two ways, the reference's -/
theorem m_hours {σ : Mm} {s v : Nat} (hs : s < 16) (hv : v < 16) : ∃ σ1, f_X8_hoursByDistance (I s) (I v) σ = some (I (dst (cH σ) s v), σ1) ∧ ∀ a, a ≠ 159 → a ≠ 160 → σ1 a = σ a := by
  obtain ⟨σ1, D, h1, h2, h3, h4⟩ := m_measure (σ0 := σ) hs
  refine ⟨σ1, ?_, h4⟩
  unfold f_X8_hoursByDistance
  rw [h1, bnd_d, m_dist hv, bnd_d, (h2 v hv).1]
  rcases lab_dst (by omega) h3 hv with ⟨-, b, -⟩ | ⟨a, b, -⟩
  · rw [b]
  · rw [a, b]
theorem m_again {σ : Mm} {s v : Nat} (hs : s < 16) (hv : v < 16) : ∃ σ1, f_X8_hoursByNeighbours (I s) (I v) σ = some (I (dst (cH σ) s v), σ1) ∧ ∀ a, a ≠ 159 → σ1 a = σ a := by
  obtain ⟨σ1, D, h1, h2, h3, h4⟩ := m_relax (c := cH σ) (W := fun h => if gC σ h = true then 1 else 1000) (fun h _ => by unfold cH gC; by_cases q : (5 : Int32) ≤ σ 2 h <;> simp [q]) (cH_one σ) (fun h => by split <;> omega) hs (σ0 := σ) (g1 := 1) (g2 := 1000) (fun h _ => by unfold gC; by_cases q : (5 : Int32) ≤ σ 2 h <;> simp [q])
  have h1 : f_X8_relaxFrom (I s) 1 1000 σ = some σ1 := h1
  refine ⟨σ1, ?_, h4⟩
  unfold f_X8_hoursByNeighbours
  rw [h1, bnd_d, m_dist hv, bnd_d, (h2 v hv).1]
  rcases lab_dst (by omega) h3 hv with ⟨-, b, -⟩ | ⟨a, b, -⟩
  · rw [b]
  · rw [a, b]
theorem dst_congr {c d : Nat → Option Nat} (h : ∀ g, g < 24 → c g = d g) (s v : Nat) : dst c s v = dst d s v := by
  by_cases e : ∃ k, isD c s v k
  · obtain ⟨k, q⟩ := e
    rw [dst_is q, dst_is (isD_congr h q)]
  · have e2 : ¬ ∃ k, isD d s v k := fun ⟨k, q⟩ => e ⟨k, isD_congr (fun g hg => (h g hg).symm) q⟩
    unfold dst
    rw [dif_neg e, dif_neg e2]
theorem n_hours {σ : Mm} {s v : Nat} (hs : s < 16) (hv : v < 16) : ∃ σ1, f_X10_hoursOf (I s) (I v) σ = some (if dst (cR σ false) s v < 1000 then I (dst (cR σ false) s v) else -1, σ1) ∧ ∀ a, a ≠ 204 → σ1 a = σ a := by
  obtain ⟨σ1, D, h1, h2, h3, h4⟩ := m_lays (σ0 := σ) (tr := false) hs
  have h1 : f_X10_laysWays (I s) 0 σ = some σ1 := h1
  refine ⟨σ1, ?_, h4⟩
  unfold f_X10_hoursOf
  rw [h1, bnd_d, gd_I hv (by omega), gd_I hv (by omega), I_clamp (by omega), (h2 v hv).1]
  rcases lab_dst (by omega) h3 hv with ⟨a, b, -⟩ | ⟨a, b, -⟩
  · rw [b, if_pos (show I (D v) < 99 from (I_lt (b := 99) (by omega) (by omega)).mpr a), if_pos (by omega)]
  · rw [a, b, if_neg (by decide), if_neg (by omega)]
theorem dst_lt {c : Nat → Option Nat} (hc : isOne c) {s v : Nat} (hs : s < 16) : dst c s v ≤ 15 ∨ dst c s v = 1000 := by
  by_cases e : ∃ k, isD c s v k
  · obtain ⟨k, q⟩ := e
    rw [dst_is q]; exact Or.inl (q.le15 hc hs)
  · right; unfold dst; rw [dif_neg e]
end
section
/-! THE NEXT CELL on a way with the fewest hours to the exit, of several the lowest -/
/-- x is a neighbour of s by a gap of p, one hour nearer by the labels D -/
def good (p : Nat → Bool) (D : Nat → Nat) (s x : Nat) : Prop := ∃ h, ed h s x ∧ p h = true ∧ D x + 1 = D s
/-- the least number with a property, or none: what is answered -/
def isLeast (P : Nat → Prop) (o : Option Nat) : Prop := match o with
  | none => ∀ x, ¬ P x
  | some x => P x ∧ ∀ y, P y → x ≤ y
theorem isLeast_uniq {P Q : Nat → Prop} (h : ∀ x, P x ↔ Q x) {a b : Option Nat} (ha : isLeast P a) (hb : isLeast Q b) : a = b := by
  cases a with
  | none =>
    cases b with
    | none => rfl
    | some y => exact absurd ((h y).mpr hb.1) (ha y)
  | some x =>
    cases b with
    | none => exact absurd ((h x).mp ha.1) (hb x)
    | some y =>
      have e : x = y := Nat.le_antisymm (ha.2 y ((h y).mpr hb.1)) (hb.2 x ((h x).mp ha.1))
      rw [e]
theorem m_step {σ : Mm} {s : Nat} (hs : s < 16) : ∃ o σ1 D, f_X8_stepToExit (I s) σ = some (oI o, σ1) ∧ lab (cH σ) 1000 15 D ∧ (∀ x, o = some x → x < 16) ∧ isLeast (fun x => D s < 1000 ∧ good (gC σ) D s x) o ∧ ∀ a, a ≠ 159 → a ≠ 160 → σ1 a = σ a := by
  obtain ⟨σ1, D, h1, h2, h3, h4⟩ := m_measure (σ0 := σ) (s := 15) (by omega)
  have h1 : f_X8_measureFrom 15 σ = some σ1 := h1
  unfold f_X8_stepToExit
  rw [h1, bnd_d, m_dist hs, bnd_d, (h2 s hs).1]
  have hDs := (h2 s hs).2
  by_cases f : D s = 1000
  · rw [if_pos (show I (D s) = 1000 by rw [f]; rfl)]
    exact ⟨none, σ1, D, rfl, h3, fun x q => (by cases q), fun x q => (by omega), h4⟩
  · rw [if_neg (show ¬ I (D s) = 1000 from fun q => f ((I_eq (by omega) (by omega)).mp (show I (D s) = I 1000 from q)))]
    have hlt : D s < 1000 := by omega
    have hp : ∀ h, h < 24 → ((5 : Int32) ≤ σ1 2 h ↔ gC σ h = false) := fun h _ => by
      rw [h4 2 (by omega) (by omega)]; unfold gC; by_cases q : (5 : Int32) ≤ σ 2 h <;> simp [q]
    obtain ⟨g, q1, o, q2, q3, q4⟩ := loopI (fun n v g => f_X8_stepToExit_l26 (I (D s)) (I s) σ1 n v g) (fun g => some (g, σ1)) 24 (fun v (g : Int32) => ∃ o, g = oI o ∧ (∀ x, o = some x → x < 16) ∧ isLeast (fun x => ∃ h, h < v ∧ ed h s x ∧ gC σ h = true ∧ D x + 1 = D s) o) (by
        intro n g _
        rw [f_X8_stepToExit_l26, if_pos (show (24 : Int32) ≤ I 24 by decide)]) (by
        intro n v g hv hi
        obtain ⟨o, rfl, i1, i2⟩ := hi
        have e1 : I v + 1 = I (v + 1) := I_add v 1
        have skip : (∀ x, ed v s x → gC σ v = true → D x + 1 = D s → False) → isLeast (fun x => ∃ h, h < v + 1 ∧ ed h s x ∧ gC σ h = true ∧ D x + 1 = D s) o := fun hno => by
          have up : ∀ x, (∃ h, h < v + 1 ∧ ed h s x ∧ gC σ h = true ∧ D x + 1 = D s) → ∃ h, h < v ∧ ed h s x ∧ gC σ h = true ∧ D x + 1 = D s := by
            rintro x ⟨h, a, b, c, d⟩
            by_cases e : h = v
            · subst e; exact (hno x b c d).elim
            · exact ⟨h, by omega, b, c, d⟩
          cases o with
          | none => exact fun x q => i2 x (up x q)
          | some y => exact ⟨by obtain ⟨h, a, b⟩ := i2.1; exact ⟨h, by omega, b⟩, fun x q => i2.2 x (up x q)⟩
        rw [f_X8_stepToExit_l26, if_neg (show ¬ (24 : Int32) ≤ I v from nle (N := 24) hv (by omega)), m_across hv hs, bnd_d]
        rcases across_cases (u := s) hv with ⟨x, hx, e, hq⟩ | ⟨hq, hn⟩
        · rw [hq, if_neg (nm1 (by omega)), m_open hv, bnd_d]
          by_cases c : gC σ v = true
          · rw [if_neg (show ¬ (5 : Int32) ≤ σ1 2 v from fun z => by rw [(hp v hv).mp z] at c; cases c), if_neg (by decide), m_dist hx, bnd_d, (h2 x hx).1]
            have hDx := (h2 x hx).2
            by_cases d : D x + 1 = D s
            · rw [if_pos (show I (D x) = I (D s) - 1 by rw [← d, ← I_add]; apply Int32.toBitVec_inj.mp; show (I (D x)).toBitVec = (I (D x)).toBitVec + (1 : Int32).toBitVec - (1 : Int32).toBitVec; exact (BitVec.add_sub_cancel _ _).symm)]
              have new : ∀ y, o = none ∨ (∃ z, o = some z ∧ y = min z x) → True := fun _ _ => trivial
              cases o with
              | none =>
                rw [if_pos (show oI none = (-1 : Int32) from rfl), lt_d, e1]
                refine ⟨I x, rfl, some x, rfl, fun y q => by cases q; exact hx, ⟨v, by omega, e, c, d⟩, ?_⟩
                rintro y ⟨h, a, b, c2, d2⟩
                by_cases ev : h = v
                · subst ev; rw [ed_fun b e]; exact Nat.le_refl _
                · exact absurd ⟨h, by omega, b, c2, d2⟩ (i2 y)
              | some z =>
                have hz := i1 z rfl
                rw [show oI (some z) = I z from rfl, if_neg (nm1 (by omega))]
                by_cases w : z ≤ x
                · rw [if_pos ((I_le (by omega) (by omega)).mpr w), lt_d, e1]
                  refine ⟨I z, rfl, some z, rfl, i1, ?_, ?_⟩
                  · obtain ⟨h, a, b⟩ := i2.1; exact ⟨h, by omega, b⟩
                  · rintro y ⟨h, a, b, c2, d2⟩
                    by_cases ev : h = v
                    · subst ev; rw [ed_fun b e]; exact w
                    · exact i2.2 y ⟨h, by omega, b, c2, d2⟩
                · rw [if_neg (fun q => w ((I_le (by omega) (by omega)).mp q)), lt_d, e1]
                  refine ⟨I x, rfl, some x, rfl, fun y q => by cases q; exact hx, ⟨v, by omega, e, c, d⟩, ?_⟩
                  rintro y ⟨h, a, b, c2, d2⟩
                  by_cases ev : h = v
                  · subst ev; rw [ed_fun b e]; exact Nat.le_refl _
                  · have := i2.2 y ⟨h, by omega, b, c2, d2⟩; omega
            · rw [if_neg (show ¬ I (D x) = I (D s) - 1 from ?_), lt_d, e1]
              · exact ⟨oI o, rfl, o, rfl, i1, skip (fun y a _ b => by rw [ed_fun a e] at b; exact d b)⟩
              · intro q
                apply d
                have : I (D x) + 1 = I (D s) := by
                  rw [q]; apply Int32.toBitVec_inj.mp
                  show (I (D s)).toBitVec - (1 : Int32).toBitVec + (1 : Int32).toBitVec = (I (D s)).toBitVec
                  exact BitVec.sub_add_cancel _ _
                exact (I_eq (by omega) (by omega)).mp ((I_add _ 1).symm.trans this)
          · rw [if_pos (show (5 : Int32) ≤ σ1 2 v from (hp v hv).mpr (Bool.eq_false_iff.mpr c)), if_pos rfl, lt_d, e1]
            exact ⟨oI o, rfl, o, rfl, i1, skip (fun _ _ z _ => c z)⟩
        · rw [hq, if_pos rfl, lt_d, e1]
          exact ⟨oI o, rfl, o, rfl, i1, skip (fun x a _ _ => hn x a)⟩) 24 0 30 (-1) (by omega) (by omega) ⟨none, rfl, fun x q => (by cases q), fun x ⟨h, a, _⟩ => (by omega)⟩
    refine ⟨o, σ1, D, by rw [← q2]; exact q1, h3, q3, ?_, h4⟩
    have eqv : ∀ x, (∃ h, h < 24 ∧ ed h s x ∧ gC σ h = true ∧ D x + 1 = D s) ↔ (D s < 1000 ∧ good (gC σ) D s x) := fun x => ⟨fun ⟨h, _, b⟩ => ⟨hlt, h, b⟩, fun ⟨_, h, b⟩ => ⟨h, b.1.1, b⟩⟩
    cases o with
    | none => exact fun x q => q4 x ((eqv x).mpr q)
    | some y => exact ⟨(eqv y).mp q4.1, fun x q => q4.2 x ((eqv x).mpr q)⟩
/-- some neighbour is one hour nearer -/
theorem good_ex {c : Nat → Option Nat} {p : Nat → Bool} (hc : ∀ h w, c h = some w → w = 1 ∧ p h = true) {F s : Nat} {D : Nat → Nat} (hF : 16 ≤ F) (h : lab c F 15 D) (hs : s < 16) (h1 : D s < F) (h2 : s ≠ 15) : ∃ x, x < 16 ∧ good p D s x := by
  rcases h s hs with ⟨-, ⟨n, q⟩, m⟩ | ⟨a, -⟩
  · cases n with
    | zero => exact absurd q.1 h2
    | succ n =>
      obtain ⟨g, u, j, w, e, hw, q, hk⟩ := q
      obtain ⟨rfl, hp⟩ := hc g w hw
      refine ⟨u, e.lt.1, g, e.swap, hp, ?_⟩
      rcases h u e.lt.1 with ⟨a, ⟨n2, b⟩, l⟩ | ⟨a, l⟩
      · have k1 := l n j q
        have k2 := m (n2 + 1) (D u + 1) ⟨g, u, D u, 1, e, hw, b, rfl⟩
        omega
      · exact absurd q (l n j)
  · omega
theorem n_next2 {σ : Mm} {s : Nat} (hs : s < 16) {E : Nat → Nat} (h2 : lbl 204 99 σ E) (h1 : E s < 99) (hex : ∃ x, x < 16 ∧ good (gapR σ) E s x) : ∃ x, x < 16 ∧ f_X10_next_l43 (I s) σ 20 0 = some (I x, σ) ∧ isLeast (good (gapR σ) E s) (some x) := by
  have main : ∀ d v n, v + d = 16 → d < n → (∀ y, y < v → ¬ good (gapR σ) E s y) → ∃ x, x < 16 ∧ f_X10_next_l43 (I s) σ n (I v) = some (I x, σ) ∧ isLeast (good (gapR σ) E s) (some x) := by
    intro d
    induction d with
    | zero =>
      intro v n hv hn hno
      obtain ⟨x, hx, hg⟩ := hex
      exact absurd hg (hno x (by omega))
    | succ d ih =>
      intro v n hv hn hno
      obtain ⟨n, rfl⟩ : ∃ m, n = m + 1 := ⟨n - 1, by omega⟩
      have hv16 : v < 16 := by omega
      have e1 : I v + 1 = I (v + 1) := I_add v 1
      have next : ¬ good (gapR σ) E s v → ∃ x, x < 16 ∧ f_X10_next_l43 (I s) σ n (I (v + 1)) = some (I x, σ) ∧ isLeast (good (gapR σ) E s) (some x) := fun hg => ih (v + 1) n (by omega) (by omega) (fun y hy => by
        by_cases e : y = v
        · subst e; exact hg
        · exact hno y (by omega))
      rw [f_X10_next_l43, n_hedge hs hv16, bnd_d]
      cases hh : hN s v with
      | none =>
        rw [show o6 none = (-1 : Int32) from rfl, if_pos rfl, lt_d, e1]
        exact next (fun ⟨h, e, _⟩ => by rw [ed_hN e] at hh; cases hh)
      | some h =>
        have e := hN_ed hh
        rw [show o6 (some h) = I (6 + h) from rfl, if_neg (nm1 (by have := e.1; omega)), bnd_d, n_gap e.1, bnd_d]
        by_cases c : gapR σ h = true
        · rw [if_pos c, if_neg (by decide), gd_I hv16 (by omega), gd_I hs (by omega), I_clamp (by omega), I_clamp (by omega), (h2 v hv16).1, (h2 s hs).1]
          have l1 := (h2 v hv16).2
          by_cases d2 : E v + 1 = E s
          · rw [if_pos (show I (E v) = I (E s) - 1 by rw [← d2, ← I_add]; apply Int32.toBitVec_inj.mp; show (I (E v)).toBitVec = (I (E v)).toBitVec + (1 : Int32).toBitVec - (1 : Int32).toBitVec; exact (BitVec.add_sub_cancel _ _).symm)]
            exact ⟨v, hv16, rfl, ⟨h, e, c, d2⟩, fun y hy => Nat.not_lt.mp fun z => hno y z hy⟩
          · rw [if_neg (show ¬ I (E v) = I (E s) - 1 from ?_), lt_d, e1]
            · exact next (fun ⟨_, _, _, z⟩ => d2 z)
            · intro q
              apply d2
              have : I (E v) + 1 = I (E s) := by
                rw [q]; apply Int32.toBitVec_inj.mp
                show (I (E s)).toBitVec - (1 : Int32).toBitVec + (1 : Int32).toBitVec = (I (E s)).toBitVec
                exact BitVec.sub_add_cancel _ _
              exact (I_eq (by omega) (by omega)).mp ((I_add _ 1).symm.trans this)
        · rw [if_neg c, if_pos rfl, lt_d, e1]
          exact next (fun ⟨g, e2, c2, _⟩ => by
            have : g = h := Option.some.inj ((ed_hN e2).symm.trans hh)
            rw [this] at c2; exact c c2)
  exact main 16 0 20 (by omega) (by omega) (fun y hy => by omega)
/-- both answers are one -/
theorem next_eq {σ τ : Mm} (hp : ∀ g, g < 24 → gC σ g = gapR τ g) {D E : Nat → Nat} (hD : lab (cH σ) 1000 15 D) (hE : lab (cR τ false) 99 15 E) {s : Nat} (hs : s < 16) (h1 : E s < 99) : ∀ x, (D s < 1000 ∧ good (gC σ) D s x) ↔ good (gapR τ) E s x := by
  have hc : ∀ g, g < 24 → cH σ g = cR τ false g := fun g hg => by
    have := hp g hg
    unfold cH cR
    rw [← this]
    unfold gC
    by_cases q : (5 : Int32) ≤ σ 2 g <;> simp [q]
  have key : ∀ v, v < 16 → (D v < 1000 ↔ E v < 99) ∧ (E v < 99 → D v = E v) := by
    intro v hv
    have a := lab_dst (by omega) hD hv
    have b := lab_dst (by omega) hE hv
    rw [dst_congr hc] at a
    have := dst_lt (cR_one τ false) (s := 15) (v := v) (by omega)
    rcases a with ⟨a1, a2, -⟩ | ⟨a1, a2, -⟩ <;> rcases b with ⟨b1, b2, -⟩ | ⟨b1, b2, -⟩
    · exact ⟨⟨fun _ => b1, fun _ => a1⟩, fun _ => by omega⟩
    · omega
    · omega
    · exact ⟨⟨fun _ => by omega, fun _ => by omega⟩, fun _ => by omega⟩
  have ks := key s hs
  intro x
  constructor
  · rintro ⟨a, h, e, c, d⟩
    have kx := key x e.lt.2
    refine ⟨h, e, by rw [← hp h e.1]; exact c, ?_⟩
    have := kx.2 (kx.1.mp (by omega))
    have := ks.2 h1
    omega
  · rintro ⟨h, e, c, d⟩
    have kx := key x e.lt.2
    refine ⟨ks.1.mpr h1, h, e, by rw [hp h e.1]; exact c, ?_⟩
    have := kx.2 (by omega)
    have := ks.2 h1
    omega
end
section
/-! how many cells a set has -/
theorem cnt_0 : ∀ a, a < 8 → ∀ b, b < 256 → f_J6_bitCount_0f7a4 (I (0 + 256 * a + b)) (fun _ _ => 0) = f_X10_ones (I (0 + 256 * a + b)) (fun _ _ => 0) := by decide +kernel
theorem cnt_1 : ∀ a, a < 8 → ∀ b, b < 256 → f_J6_bitCount_0f7a4 (I (2048 + 256 * a + b)) (fun _ _ => 0) = f_X10_ones (I (2048 + 256 * a + b)) (fun _ _ => 0) := by decide +kernel
theorem cnt_2 : ∀ a, a < 8 → ∀ b, b < 256 → f_J6_bitCount_0f7a4 (I (4096 + 256 * a + b)) (fun _ _ => 0) = f_X10_ones (I (4096 + 256 * a + b)) (fun _ _ => 0) := by decide +kernel
theorem cnt_3 : ∀ a, a < 8 → ∀ b, b < 256 → f_J6_bitCount_0f7a4 (I (6144 + 256 * a + b)) (fun _ _ => 0) = f_X10_ones (I (6144 + 256 * a + b)) (fun _ _ => 0) := by decide +kernel
theorem cnt_4 : ∀ a, a < 8 → ∀ b, b < 256 → f_J6_bitCount_0f7a4 (I (8192 + 256 * a + b)) (fun _ _ => 0) = f_X10_ones (I (8192 + 256 * a + b)) (fun _ _ => 0) := by decide +kernel
theorem cnt_5 : ∀ a, a < 8 → ∀ b, b < 256 → f_J6_bitCount_0f7a4 (I (10240 + 256 * a + b)) (fun _ _ => 0) = f_X10_ones (I (10240 + 256 * a + b)) (fun _ _ => 0) := by decide +kernel
theorem cnt_6 : ∀ a, a < 8 → ∀ b, b < 256 → f_J6_bitCount_0f7a4 (I (12288 + 256 * a + b)) (fun _ _ => 0) = f_X10_ones (I (12288 + 256 * a + b)) (fun _ _ => 0) := by decide +kernel
theorem cnt_7 : ∀ a, a < 8 → ∀ b, b < 256 → f_J6_bitCount_0f7a4 (I (14336 + 256 * a + b)) (fun _ _ => 0) = f_X10_ones (I (14336 + 256 * a + b)) (fun _ _ => 0) := by decide +kernel
theorem cnt_8 : ∀ a, a < 8 → ∀ b, b < 256 → f_J6_bitCount_0f7a4 (I (16384 + 256 * a + b)) (fun _ _ => 0) = f_X10_ones (I (16384 + 256 * a + b)) (fun _ _ => 0) := by decide +kernel
theorem cnt_9 : ∀ a, a < 8 → ∀ b, b < 256 → f_J6_bitCount_0f7a4 (I (18432 + 256 * a + b)) (fun _ _ => 0) = f_X10_ones (I (18432 + 256 * a + b)) (fun _ _ => 0) := by decide +kernel
theorem cnt_10 : ∀ a, a < 8 → ∀ b, b < 256 → f_J6_bitCount_0f7a4 (I (20480 + 256 * a + b)) (fun _ _ => 0) = f_X10_ones (I (20480 + 256 * a + b)) (fun _ _ => 0) := by decide +kernel
theorem cnt_11 : ∀ a, a < 8 → ∀ b, b < 256 → f_J6_bitCount_0f7a4 (I (22528 + 256 * a + b)) (fun _ _ => 0) = f_X10_ones (I (22528 + 256 * a + b)) (fun _ _ => 0) := by decide +kernel
theorem cnt_12 : ∀ a, a < 8 → ∀ b, b < 256 → f_J6_bitCount_0f7a4 (I (24576 + 256 * a + b)) (fun _ _ => 0) = f_X10_ones (I (24576 + 256 * a + b)) (fun _ _ => 0) := by decide +kernel
theorem cnt_13 : ∀ a, a < 8 → ∀ b, b < 256 → f_J6_bitCount_0f7a4 (I (26624 + 256 * a + b)) (fun _ _ => 0) = f_X10_ones (I (26624 + 256 * a + b)) (fun _ _ => 0) := by decide +kernel
theorem cnt_14 : ∀ a, a < 8 → ∀ b, b < 256 → f_J6_bitCount_0f7a4 (I (28672 + 256 * a + b)) (fun _ _ => 0) = f_X10_ones (I (28672 + 256 * a + b)) (fun _ _ => 0) := by decide +kernel
theorem cnt_15 : ∀ a, a < 8 → ∀ b, b < 256 → f_J6_bitCount_0f7a4 (I (30720 + 256 * a + b)) (fun _ _ => 0) = f_X10_ones (I (30720 + 256 * a + b)) (fun _ _ => 0) := by decide +kernel
theorem cnt_16 : ∀ a, a < 8 → ∀ b, b < 256 → f_J6_bitCount_0f7a4 (I (32768 + 256 * a + b)) (fun _ _ => 0) = f_X10_ones (I (32768 + 256 * a + b)) (fun _ _ => 0) := by decide +kernel
theorem cnt_17 : ∀ a, a < 8 → ∀ b, b < 256 → f_J6_bitCount_0f7a4 (I (34816 + 256 * a + b)) (fun _ _ => 0) = f_X10_ones (I (34816 + 256 * a + b)) (fun _ _ => 0) := by decide +kernel
theorem cnt_18 : ∀ a, a < 8 → ∀ b, b < 256 → f_J6_bitCount_0f7a4 (I (36864 + 256 * a + b)) (fun _ _ => 0) = f_X10_ones (I (36864 + 256 * a + b)) (fun _ _ => 0) := by decide +kernel
theorem cnt_19 : ∀ a, a < 8 → ∀ b, b < 256 → f_J6_bitCount_0f7a4 (I (38912 + 256 * a + b)) (fun _ _ => 0) = f_X10_ones (I (38912 + 256 * a + b)) (fun _ _ => 0) := by decide +kernel
theorem cnt_20 : ∀ a, a < 8 → ∀ b, b < 256 → f_J6_bitCount_0f7a4 (I (40960 + 256 * a + b)) (fun _ _ => 0) = f_X10_ones (I (40960 + 256 * a + b)) (fun _ _ => 0) := by decide +kernel
theorem cnt_21 : ∀ a, a < 8 → ∀ b, b < 256 → f_J6_bitCount_0f7a4 (I (43008 + 256 * a + b)) (fun _ _ => 0) = f_X10_ones (I (43008 + 256 * a + b)) (fun _ _ => 0) := by decide +kernel
theorem cnt_22 : ∀ a, a < 8 → ∀ b, b < 256 → f_J6_bitCount_0f7a4 (I (45056 + 256 * a + b)) (fun _ _ => 0) = f_X10_ones (I (45056 + 256 * a + b)) (fun _ _ => 0) := by decide +kernel
theorem cnt_23 : ∀ a, a < 8 → ∀ b, b < 256 → f_J6_bitCount_0f7a4 (I (47104 + 256 * a + b)) (fun _ _ => 0) = f_X10_ones (I (47104 + 256 * a + b)) (fun _ _ => 0) := by decide +kernel
theorem cnt_24 : ∀ a, a < 8 → ∀ b, b < 256 → f_J6_bitCount_0f7a4 (I (49152 + 256 * a + b)) (fun _ _ => 0) = f_X10_ones (I (49152 + 256 * a + b)) (fun _ _ => 0) := by decide +kernel
theorem cnt_25 : ∀ a, a < 8 → ∀ b, b < 256 → f_J6_bitCount_0f7a4 (I (51200 + 256 * a + b)) (fun _ _ => 0) = f_X10_ones (I (51200 + 256 * a + b)) (fun _ _ => 0) := by decide +kernel
theorem cnt_26 : ∀ a, a < 8 → ∀ b, b < 256 → f_J6_bitCount_0f7a4 (I (53248 + 256 * a + b)) (fun _ _ => 0) = f_X10_ones (I (53248 + 256 * a + b)) (fun _ _ => 0) := by decide +kernel
theorem cnt_27 : ∀ a, a < 8 → ∀ b, b < 256 → f_J6_bitCount_0f7a4 (I (55296 + 256 * a + b)) (fun _ _ => 0) = f_X10_ones (I (55296 + 256 * a + b)) (fun _ _ => 0) := by decide +kernel
theorem cnt_28 : ∀ a, a < 8 → ∀ b, b < 256 → f_J6_bitCount_0f7a4 (I (57344 + 256 * a + b)) (fun _ _ => 0) = f_X10_ones (I (57344 + 256 * a + b)) (fun _ _ => 0) := by decide +kernel
theorem cnt_29 : ∀ a, a < 8 → ∀ b, b < 256 → f_J6_bitCount_0f7a4 (I (59392 + 256 * a + b)) (fun _ _ => 0) = f_X10_ones (I (59392 + 256 * a + b)) (fun _ _ => 0) := by decide +kernel
theorem cnt_30 : ∀ a, a < 8 → ∀ b, b < 256 → f_J6_bitCount_0f7a4 (I (61440 + 256 * a + b)) (fun _ _ => 0) = f_X10_ones (I (61440 + 256 * a + b)) (fun _ _ => 0) := by decide +kernel
theorem cnt_31 : ∀ a, a < 8 → ∀ b, b < 256 → f_J6_bitCount_0f7a4 (I (63488 + 256 * a + b)) (fun _ _ => 0) = f_X10_ones (I (63488 + 256 * a + b)) (fun _ _ => 0) := by decide +kernel
theorem cnt_eq {σ τ : Mm} {x : Int32} (h : ∀ v, 16 ≤ v → bit x v = false) : f_J6_bitCount_0f7a4 x σ = f_X10_ones x τ := by
  have ind1 : f_J6_bitCount_0f7a4 x σ = f_J6_bitCount_0f7a4 x (fun _ _ => 0) := rfl
  have ind2 : ∀ n v g, f_X10_ones_l4 x τ n v g = f_X10_ones_l4 x (fun _ _ => 0) n v g := by
    intro n
    induction n with
    | zero => intro v g; rfl
    | succ n ih =>
      intro v g
      rw [f_X10_ones_l4, f_X10_ones_l4]
      split
      · rfl
      · rw [lt_d, lt_d, lt_d, lt_d]; exact ih _ _
  have ind3 : f_X10_ones x τ = f_X10_ones x (fun _ _ => 0) := by unfold f_X10_ones; exact ind2 _ _ _
  rw [ind1, ind3]
  have hx : ∃ a b, a < 256 ∧ b < 256 ∧ x = I (256 * a + b) := by
    have hlt : x.toBitVec.toNat < 65536 := by
      have : x.toBitVec = (x.toBitVec.setWidth 16).setWidth 32 := by
        apply BitVec.eq_of_getLsbD_eq
        intro i hi
        rw [BitVec.getLsbD_setWidth, BitVec.getLsbD_setWidth]
        by_cases q : i < 16
        · simp [q, hi]
        · have := h i (by omega)
          unfold bit at this
          rw [this]
          simp [q]
      rw [this, BitVec.toNat_setWidth, BitVec.toNat_setWidth]
      exact Nat.lt_of_le_of_lt (Nat.mod_le _ _) (Nat.mod_lt _ (by decide))
    refine ⟨x.toBitVec.toNat / 256, x.toBitVec.toNat % 256, by omega, by omega, ?_⟩
    rw [show 256 * (x.toBitVec.toNat / 256) + x.toBitVec.toNat % 256 = x.toBitVec.toNat by omega]
    apply Int32.toBitVec_inj.mp
    show x.toBitVec = BitVec.ofNat 32 x.toBitVec.toNat
    rw [BitVec.ofNat_toNat, BitVec.setWidth_eq]
  obtain ⟨a, b, ha, hb, rfl⟩ := hx
  obtain ⟨k, c, hk, hc, rfl⟩ : ∃ k c, k < 32 ∧ c < 8 ∧ a = 8 * k + c := ⟨a / 8, a % 8, by omega, by omega, by omega⟩
  rcases (show k = 0 ∨ k = 1 ∨ k = 2 ∨ k = 3 ∨ k = 4 ∨ k = 5 ∨ k = 6 ∨ k = 7 ∨ k = 8 ∨ k = 9 ∨ k = 10 ∨ k = 11 ∨ k = 12 ∨ k = 13 ∨ k = 14 ∨ k = 15 ∨ k = 16 ∨ k = 17 ∨ k = 18 ∨ k = 19 ∨ k = 20 ∨ k = 21 ∨ k = 22 ∨ k = 23 ∨ k = 24 ∨ k = 25 ∨ k = 26 ∨ k = 27 ∨ k = 28 ∨ k = 29 ∨ k = 30 ∨ k = 31 by omega) with rfl | rfl | rfl | rfl | rfl | rfl | rfl | rfl | rfl | rfl | rfl | rfl | rfl | rfl | rfl | rfl | rfl | rfl | rfl | rfl | rfl | rfl | rfl | rfl | rfl | rfl | rfl | rfl | rfl | rfl | rfl | rfl
  · have h := cnt_0 c hc b hb
    rwa [show 0 + 256 * c + b = 256 * (8 * 0 + c) + b by omega] at h
  · have h := cnt_1 c hc b hb
    rwa [show 2048 + 256 * c + b = 256 * (8 * 1 + c) + b by omega] at h
  · have h := cnt_2 c hc b hb
    rwa [show 4096 + 256 * c + b = 256 * (8 * 2 + c) + b by omega] at h
  · have h := cnt_3 c hc b hb
    rwa [show 6144 + 256 * c + b = 256 * (8 * 3 + c) + b by omega] at h
  · have h := cnt_4 c hc b hb
    rwa [show 8192 + 256 * c + b = 256 * (8 * 4 + c) + b by omega] at h
  · have h := cnt_5 c hc b hb
    rwa [show 10240 + 256 * c + b = 256 * (8 * 5 + c) + b by omega] at h
  · have h := cnt_6 c hc b hb
    rwa [show 12288 + 256 * c + b = 256 * (8 * 6 + c) + b by omega] at h
  · have h := cnt_7 c hc b hb
    rwa [show 14336 + 256 * c + b = 256 * (8 * 7 + c) + b by omega] at h
  · have h := cnt_8 c hc b hb
    rwa [show 16384 + 256 * c + b = 256 * (8 * 8 + c) + b by omega] at h
  · have h := cnt_9 c hc b hb
    rwa [show 18432 + 256 * c + b = 256 * (8 * 9 + c) + b by omega] at h
  · have h := cnt_10 c hc b hb
    rwa [show 20480 + 256 * c + b = 256 * (8 * 10 + c) + b by omega] at h
  · have h := cnt_11 c hc b hb
    rwa [show 22528 + 256 * c + b = 256 * (8 * 11 + c) + b by omega] at h
  · have h := cnt_12 c hc b hb
    rwa [show 24576 + 256 * c + b = 256 * (8 * 12 + c) + b by omega] at h
  · have h := cnt_13 c hc b hb
    rwa [show 26624 + 256 * c + b = 256 * (8 * 13 + c) + b by omega] at h
  · have h := cnt_14 c hc b hb
    rwa [show 28672 + 256 * c + b = 256 * (8 * 14 + c) + b by omega] at h
  · have h := cnt_15 c hc b hb
    rwa [show 30720 + 256 * c + b = 256 * (8 * 15 + c) + b by omega] at h
  · have h := cnt_16 c hc b hb
    rwa [show 32768 + 256 * c + b = 256 * (8 * 16 + c) + b by omega] at h
  · have h := cnt_17 c hc b hb
    rwa [show 34816 + 256 * c + b = 256 * (8 * 17 + c) + b by omega] at h
  · have h := cnt_18 c hc b hb
    rwa [show 36864 + 256 * c + b = 256 * (8 * 18 + c) + b by omega] at h
  · have h := cnt_19 c hc b hb
    rwa [show 38912 + 256 * c + b = 256 * (8 * 19 + c) + b by omega] at h
  · have h := cnt_20 c hc b hb
    rwa [show 40960 + 256 * c + b = 256 * (8 * 20 + c) + b by omega] at h
  · have h := cnt_21 c hc b hb
    rwa [show 43008 + 256 * c + b = 256 * (8 * 21 + c) + b by omega] at h
  · have h := cnt_22 c hc b hb
    rwa [show 45056 + 256 * c + b = 256 * (8 * 22 + c) + b by omega] at h
  · have h := cnt_23 c hc b hb
    rwa [show 47104 + 256 * c + b = 256 * (8 * 23 + c) + b by omega] at h
  · have h := cnt_24 c hc b hb
    rwa [show 49152 + 256 * c + b = 256 * (8 * 24 + c) + b by omega] at h
  · have h := cnt_25 c hc b hb
    rwa [show 51200 + 256 * c + b = 256 * (8 * 25 + c) + b by omega] at h
  · have h := cnt_26 c hc b hb
    rwa [show 53248 + 256 * c + b = 256 * (8 * 26 + c) + b by omega] at h
  · have h := cnt_27 c hc b hb
    rwa [show 55296 + 256 * c + b = 256 * (8 * 27 + c) + b by omega] at h
  · have h := cnt_28 c hc b hb
    rwa [show 57344 + 256 * c + b = 256 * (8 * 28 + c) + b by omega] at h
  · have h := cnt_29 c hc b hb
    rwa [show 59392 + 256 * c + b = 256 * (8 * 29 + c) + b by omega] at h
  · have h := cnt_30 c hc b hb
    rwa [show 61440 + 256 * c + b = 256 * (8 * 30 + c) + b by omega] at h
  · have h := cnt_31 c hc b hb
    rwa [show 63488 + 256 * c + b = 256 * (8 * 31 + c) + b by omega] at h
end
section
/-! THE STATE: what the class's cells and the reference's row of numbers say of each other -/
theorem I_addL (a n : Nat) : I a + (@OfNat.ofNat Int32 n Int32.instOfNat) = I (a + @OfNat.ofNat Nat n (instOfNatNat n)) := I_add a n
theorem I_addR (a n : Nat) : (@OfNat.ofNat Int32 n Int32.instOfNat) + I a = I (@OfNat.ofNat Nat n (instOfNatNat n) + a) := I_add n a
theorem I_a0 (a : Nat) : I a + 0 = I (a + 0) := I_add a 0
theorem I_a1 (a : Nat) : I a + 1 = I (a + 1) := I_add a 1
theorem I_a2 (a : Nat) : I a + 2 = I (a + 2) := I_add a 2
theorem I_a3 (a : Nat) : I a + 3 = I (a + 3) := I_add a 3
theorem I_a4 (a : Nat) : I a + 4 = I (a + 4) := I_add a 4
theorem I_a5 (a : Nat) : I a + 5 = I (a + 5) := I_add a 5
theorem I_a6 (a : Nat) : I a + 6 = I (a + 6) := I_add a 6
theorem I_a7 (a : Nat) : I a + 7 = I (a + 7) := I_add a 7
theorem I_mulR (a n : Nat) : (@OfNat.ofNat Int32 n Int32.instOfNat) * I a = I (@OfNat.ofNat Nat n (instOfNatNat n) * a) := Int32.toBitVec_inj.mp (BitVec.ofNat_mul n a).symm
theorem I_mul (a b : Nat) : I a * I b = I (a * b) := Int32.toBitVec_inj.mp (BitVec.ofNat_mul a b).symm
/-- a number as an index below N -/
def ix (a : Int32) (N : Nat) : Option Nat := if a < 0 ∨ I N ≤ a then none else some a.toNatClampNeg
theorem ix_I {n N : Nat} (h : n < N) (hN : N < 2147483648) : ix (I n) N = some n := by
  unfold ix
  rw [if_neg, I_clamp (by omega)]
  rintro (q | q)
  · exact I_n0 (by omega) q
  · exact nle h hN q
theorem ix_cases (a : Int32) {N : Nat} (hN : N < 2147483648) : (∃ n, n < N ∧ a = I n ∧ ix a N = some n) ∨ ((a < 0 ∨ I N ≤ a) ∧ ix a N = none) := by
  by_cases h : a < 0 ∨ I N ≤ a
  · exact Or.inr ⟨h, by unfold ix; rw [if_pos h]⟩
  · obtain ⟨n, h1, h2⟩ := to_I (x := a) (N := N) (fun q => h (Or.inl q)) (Int32.not_le.mp fun q => h (Or.inr q)) hN
    exact Or.inl ⟨n, h1, h2, by rw [h2]; exact ix_I h1 hN⟩
theorem ix_lt {a : Int32} {N n : Nat} (hN : N < 2147483648) (h : ix a N = some n) : n < N ∧ a = I n := by
  rcases ix_cases a hN with ⟨m, h1, h2, h3⟩ | ⟨-, h3⟩
  · rw [h3] at h; cases h; exact ⟨h1, h2⟩
  · rw [h3] at h; cases h
/-! the reference's 'in' -/
theorem cmp_lt (x y : Int64) : (lg_cmp x y < 0) ↔ x < y := by
  unfold lg_cmp
  by_cases h : x > y
  · rw [if_pos h]
    exact ⟨fun q => absurd q (by decide), fun q => (Int64.lt_irrefl (Int64.lt_trans q h)).elim⟩
  · rw [if_neg h]
    by_cases e : x = y
    · rw [if_pos e]
      exact ⟨fun q => absurd q (by decide), fun q => (Int64.lt_irrefl (by rw [e] at q; exact q)).elim⟩
    · rw [if_neg e]
      refine ⟨fun _ => ?_, fun _ => by decide⟩
      rcases Int64.lt_or_eq_of_le (Int64.not_lt.mp h) with q | q
      · exact q
      · exact absurd q e
theorem cmp_gt (x y : Int64) : (0 < lg_cmp x y) ↔ y < x := by
  unfold lg_cmp
  by_cases h : x > y
  · rw [if_pos h]; exact ⟨fun _ => h, fun _ => by decide⟩
  · rw [if_neg h]
    by_cases e : x = y
    · rw [if_pos e]; exact ⟨fun q => absurd q (by decide), fun q => absurd q h⟩
    · rw [if_neg e]; exact ⟨fun q => absurd q (by decide), fun q => absurd q h⟩
theorem n_in {a lo hi : Int32} {L H : Int64} {σ : Mm} (hL : L.toInt = lo.toInt) (hH : H.toInt = hi.toInt) : f_X10_in a.toInt64 L H σ = some (if lo ≤ a ∧ a ≤ hi then 1 else 0) := by
  have e1 : (lg_cmp a.toInt64 L < 0) ↔ a < lo := by
    rw [cmp_lt, Int64.lt_iff_toInt_lt, Int32.lt_iff_toInt_lt, Int32.toInt_toInt64, hL]
  have e2 : (0 < lg_cmp a.toInt64 H) ↔ hi < a := by
    rw [cmp_gt, Int64.lt_iff_toInt_lt, Int32.lt_iff_toInt_lt, Int32.toInt_toInt64, hH]
  unfold f_X10_in
  by_cases h1 : a < lo
  · rw [if_pos (e1.mpr h1), if_neg (fun q => absurd h1 (Int32.not_lt.mpr q.1))]
  · rw [if_neg (fun q => h1 (e1.mp q))]
    by_cases h2 : hi < a
    · rw [if_pos (e2.mpr h2), if_neg (fun q => absurd h2 (Int32.not_lt.mpr q.2))]
    · rw [if_neg (fun q => h2 (e2.mp q)), if_pos ⟨Int32.not_lt.mp h1, Int32.not_lt.mp h2⟩]
/-- within 0 .. N-1 -/
theorem n_inN {a : Int32} {N : Nat} {H : Int64} {σ : Mm} (hN : 0 < N) (hN2 : N < 2147483648) (hH : H.toInt = (N : Int) - 1) : f_X10_in a.toInt64 0 H σ = some (match ix a N with | none => 0 | some _ => 1) := by
  rw [n_in (lo := 0) (hi := I (N - 1)) rfl (by rw [I_toInt (by omega), hH]; omega)]
  rcases ix_cases a hN2 with ⟨n, h1, h2, h3⟩ | ⟨h, h3⟩
  · rw [h3, h2, if_pos ⟨Int32.not_lt.mp (I_n0 (by omega)), (I_le (by omega) (by omega)).mpr (by omega)⟩]
  · rw [h3, if_neg]
    rintro ⟨q1, q2⟩
    rcases h with h | h
    · exact absurd h (Int32.not_lt.mpr q1)
    · have := Int32.le_trans h q2
      have := (I_le (by omega) (by omega)).mp this
      omega
theorem n_in1 {a : Int32} {n N : Nat} {σ : Mm} (hn : n ≤ N) (hN : N < 2147483648) : bnd (f_X10_in a.toInt64 0 ((I n - 1).toInt64) σ) (fun q1 => bz q1 (some q1)) = some (match ix a n with | none => 0 | some _ => 1) := by
  rcases Nat.eq_zero_or_pos n with h | h
  · subst h
    rw [n_in (lo := 0) (hi := -1) rfl (by rw [Int32.toInt_toInt64]; rfl), bnd_d]
    have e : ix a 0 = none := by
      rcases ix_cases a (N := 0) (by omega) with ⟨m, h1, -⟩ | ⟨-, h3⟩
      · omega
      · exact h3
    rw [e, if_neg]
    · rfl
    · rintro ⟨q1, q2⟩
      have := Int32.le_trans q1 q2
      exact absurd this (by decide)
  · rw [n_inN h (by omega) (by
      rw [Int32.toInt_toInt64, show I n - 1 = I (n - 1) from I_sub h, I_toInt (by omega)]; omega), bnd_d]
    cases ix a n
    · rfl
    · exact bz_i1 _
/-! what is answered, what is refused -/
abbrev Fm : Type := Nat → Int32
abbrev Rs : Type := (Int32 × Fm) ⊕ (Int32 × Int32)
def yes (r : Int32) (f : Fm) : Rs := .inl (r, f)
def no (n d : Int32) : Rs := .inr (n, d)
/-- the class's cells of one visitor: the giver of one that isn't there yet is -1 -/
def cv (f : Fm) (v k : Nat) : Int32 := if k = 4 ∧ f 1 ≤ I v then -1 else f (46 + 8 * v + k)
def rep (i : Nat) (σ : Mm) (f : Fm) : Prop :=
  (∀ k, k < 6 → σ i (3 + k) = f k) ∧ (∀ h, h < 24 → σ (i + 2) h = f (6 + h)) ∧ (∀ g, g < 4 → ∀ k, k < 4 → σ (i + 4 + g) k = f (30 + 4 * g + k)) ∧ ∀ v, v < 5 → ∀ k, k < 8 → σ (i + 9 + v) k = cv f v k
theorem rep.ext {i : Nat} {σ : Mm} {f g : Fm} (h : rep i σ f) (e : ∀ k, k < 86 → f k = g k) : rep i σ g := by
  obtain ⟨h1, h2, h3, h4⟩ := h
  refine ⟨fun k hk => by rw [h1 k hk, e k (by omega)], fun k hk => by rw [h2 k hk, e _ (by omega)], fun a ha k hk => by rw [h3 a ha k hk, e _ (by omega)], fun v hv k hk => ?_⟩
  rw [h4 v hv k hk]
  unfold cv
  rw [e 1 (by omega), e _ (by omega)]
theorem rep.move {i : Nat} {σ τ : Mm} {f : Fm} (h : rep i σ f) (e : ∀ a, i ≤ a → a < i + 14 → τ a = σ a) : rep i τ f := by
  obtain ⟨h1, h2, h3, h4⟩ := h
  exact ⟨fun k hk => by rw [e i (by omega) (by omega)]; exact h1 k hk, fun k hk => by rw [e _ (by omega) (by omega)]; exact h2 k hk, fun a ha k hk => by rw [e _ (by omega) (by omega)]; exact h3 a ha k hk, fun v hv k hk => by rw [e _ (by omega) (by omega)]; exact h4 v hv k hk⟩
/-- one more write on either side -/
theorem rep.top {σ : Mm} {f : Fm} (h : rep 0 σ f) {k : Nat} (hk : k < 6) (h1 : k ≠ 1) (x : Int32) : rep 0 (up σ 0 (3 + k) x) (upd f k x) := by
  obtain ⟨a1, a2, a3, a4⟩ := h
  refine ⟨fun j hj => ?_, fun j hj => ?_, fun g hg j hj => ?_, fun v hv j hj => ?_⟩
  · rw [up_e]
    by_cases e : j = k
    · subst e; rw [upd_e, upd_e]
    · rw [upd_n _ _ (by omega), upd_n _ _ e]; exact a1 j hj
  · rw [up_n _ _ _ (by omega), upd_n _ _ (by omega)]; exact a2 j hj
  · rw [up_n _ _ _ (by omega), upd_n _ _ (by omega)]; exact a3 g hg j hj
  · rw [up_n _ _ _ (by omega), a4 v hv j hj]
    unfold cv
    rw [upd_n _ _ (by omega), upd_n _ _ (by omega)]
theorem rep.leaf {σ : Mm} {f : Fm} (h : rep 0 σ f) {k : Nat} (hk : k < 24) (x : Int32) : rep 0 (up σ 2 k x) (upd f (6 + k) x) := by
  obtain ⟨a1, a2, a3, a4⟩ := h
  refine ⟨fun j hj => ?_, fun j hj => ?_, fun g hg j hj => ?_, fun v hv j hj => ?_⟩
  · rw [up_n _ _ _ (by omega), upd_n _ _ (by omega)]; exact a1 j hj
  · rw [up_e]
    by_cases e : j = k
    · subst e; rw [upd_e, upd_e]
    · rw [upd_n _ _ e, upd_n _ _ (by omega)]; exact a2 j hj
  · rw [up_n _ _ _ (by omega), upd_n _ _ (by omega)]; exact a3 g hg j hj
  · rw [up_n _ _ _ (by omega), a4 v hv j hj]
    unfold cv
    rw [upd_n _ _ (by omega), upd_n _ _ (by omega)]
theorem rep.gard {σ : Mm} {f : Fm} (h : rep 0 σ f) {g k : Nat} (hg : g < 4) (hk : k < 4) (x : Int32) : rep 0 (up σ (4 + g) k x) (upd f (30 + 4 * g + k) x) := by
  obtain ⟨a1, a2, a3, a4⟩ := h
  refine ⟨fun j hj => ?_, fun j hj => ?_, fun b hb j hj => ?_, fun v hv j hj => ?_⟩
  · rw [up_n _ _ _ (by omega), upd_n _ _ (by omega)]; exact a1 j hj
  · rw [up_n _ _ _ (by omega), upd_n _ _ (by omega)]; exact a2 j hj
  · by_cases e : b = g
    · subst e
      rw [show 0 + 4 + b = 4 + b by omega, up_e]
      by_cases e2 : j = k
      · subst e2; rw [upd_e, upd_e]
      · rw [upd_n _ _ e2, upd_n _ _ (by omega), ← a3 b hb j hj, show 0 + 4 + b = 4 + b by omega]
    · rw [up_n _ _ _ (by omega), upd_n _ _ (by omega)]; exact a3 b hb j hj
  · rw [up_n _ _ _ (by omega), a4 v hv j hj]
    unfold cv
    rw [upd_n _ _ (by omega), upd_n _ _ (by omega)]
theorem rep.vis {σ : Mm} {f : Fm} (h : rep 0 σ f) {v k : Nat} (hv : v < 5) (hk : k < 8) (hf : ¬ f 1 ≤ I v) (x : Int32) : rep 0 (up σ (9 + v) k x) (upd f (46 + 8 * v + k) x) := by
  obtain ⟨a1, a2, a3, a4⟩ := h
  refine ⟨fun j hj => ?_, fun j hj => ?_, fun g hg j hj => ?_, fun b hb j hj => ?_⟩
  · rw [up_n _ _ _ (by omega), upd_n _ _ (by omega)]; exact a1 j hj
  · rw [up_n _ _ _ (by omega), upd_n _ _ (by omega)]; exact a2 j hj
  · rw [up_n _ _ _ (by omega), upd_n _ _ (by omega)]; exact a3 g hg j hj
  · unfold cv
    rw [upd_n f x (show 1 ≠ 46 + 8 * v + k by omega)]
    by_cases e : b = v
    · subst e
      rw [show 0 + 9 + b = 9 + b by omega, up_e]
      have a5 := a4 b hb j hj
      rw [show 0 + 9 + b = 9 + b by omega] at a5
      unfold cv at a5
      rw [if_neg (fun q => hf q.2)] at a5 ⊢
      by_cases e2 : j = k
      · subst e2; rw [upd_e, upd_e]
      · rw [upd_n _ _ e2, upd_n _ _ (by omega)]; exact a5
    · rw [up_n _ _ _ (by omega), upd_n _ _ (by omega)]; exact a4 b hb j hj
theorem rep.get0 {σ : Mm} {f : Fm} (h : rep 0 σ f) {k : Nat} (hk : k < 6) : σ 0 (3 + k) = f k := h.1 k hk
theorem rep.getL {σ : Mm} {f : Fm} (h : rep 0 σ f) {k : Nat} (hk : k < 24) : σ 2 k = f (6 + k) := h.2.1 k hk
theorem rep.getG {σ : Mm} {f : Fm} (h : rep 0 σ f) {g k : Nat} (hg : g < 4) (hk : k < 4) : σ (4 + g) k = f (30 + 4 * g + k) := by
  have := h.2.2.1 g hg k hk
  rwa [show 0 + 4 + g = 4 + g by omega] at this
theorem rep.getV {σ : Mm} {f : Fm} (h : rep 0 σ f) {v k : Nat} (hv : v < 5) (hk : k < 8) (hf : ¬ f 1 ≤ I v) : σ (9 + v) k = f (46 + 8 * v + k) := by
  have := h.2.2.2 v hv k hk
  rw [show 0 + 9 + v = 9 + v by omega] at this
  unfold cv at this
  rwa [if_neg (fun q => hf q.2)] at this
/-! what numbers a state may hold -/
/-- a visitor: where, how long, and one of: none lasts; a bond of one of n gardeners -/
def okV (B n : Nat) (f : Fm) (v : Nat) : Prop :=
  (∃ c, c < 16 ∧ f (46 + 8 * v + 1) = I c) ∧ (∃ h, h ≤ B ∧ f (46 + 8 * v + 2) = I h) ∧ (∃ a, a ≤ 15 ∧ f (46 + 8 * v + 3) = I a) ∧
  ((f (46 + 8 * v + 4) = -1 ∧ f (46 + 8 * v + 5) = 0 ∧ f (46 + 8 * v + 6) = 0 ∧ (f (46 + 8 * v + 7) = 0 ∨ f (46 + 8 * v + 7) = 1)) ∨
   ((∃ g, g < n ∧ f (46 + 8 * v + 4) = I g) ∧ (∃ r, 1 ≤ r ∧ r ≤ 5 ∧ f (46 + 8 * v + 5) = I r) ∧ (f (46 + 8 * v + 6) = 0 ∨ f (46 + 8 * v + 6) = 1) ∧ f (46 + 8 * v + 7) = 0))
def S4 (c : Nat → Nat) : Nat := c 0 + c 1 + c 2 + c 3
def S5 (c : Nat → Nat) : Nat := c 0 + c 1 + c 2 + c 3 + c 4
def money (n m : Nat) (f : Fm) : Prop := ∃ c d : Nat → Nat, (∀ g, g < 4 → f (30 + 4 * g) = I (c g)) ∧ (∀ v, v < 5 → f (46 + 8 * v) = I (d v)) ∧ S4 c + S5 d ≤ 99 * (n + m)
def okC (B n m : Nat) (f : Fm) : Prop :=
  (n ≤ 4 ∧ f 0 = I n) ∧ (m ≤ 5 ∧ f 1 = I m) ∧ (∀ g, n ≤ g → g < 4 → ∀ k, k < 4 → f (30 + 4 * g + k) = 0) ∧ (∀ v, m ≤ v → v < 5 → ∀ k, k < 8 → f (46 + 8 * v + k) = 0) ∧ (∀ v, v < m → okV B n f v) ∧
  (f 2 = -1 ∨ ∃ c, c < 16 ∧ f 2 = I c) ∧ (∀ h, h < 24 → ∃ l, l ≤ 9 ∧ f (6 + h) = I l) ∧ money n m f
def ok (B : Nat) (f : Fm) : Prop := ∃ n m, okC B n m f
theorem S4_upd {c : Nat → Nat} {g : Nat} (hg : g < 4) (x : Nat) : S4 (fun j => if j = g then x else c j) + c g = S4 c + x := by
  unfold S4
  rcases (show g = 0 ∨ g = 1 ∨ g = 2 ∨ g = 3 by omega) with rfl | rfl | rfl | rfl <;> simp <;> omega
theorem S5_upd {c : Nat → Nat} {g : Nat} (hg : g < 5) (x : Nat) : S5 (fun j => if j = g then x else c j) + c g = S5 c + x := by
  unfold S5
  rcases (show g = 0 ∨ g = 1 ∨ g = 2 ∨ g = 3 ∨ g = 4 by omega) with rfl | rfl | rfl | rfl | rfl <;> simp <;> omega
theorem S4_le {c : Nat → Nat} {g : Nat} (hg : g < 4) : c g ≤ S4 c := by
  unfold S4
  rcases (show g = 0 ∨ g = 1 ∨ g = 2 ∨ g = 3 by omega) with rfl | rfl | rfl | rfl <;> omega
theorem S5_le {c : Nat → Nat} {g : Nat} (hg : g < 5) : c g ≤ S5 c := by
  unfold S5
  rcases (show g = 0 ∨ g = 1 ∨ g = 2 ∨ g = 3 ∨ g = 4 by omega) with rfl | rfl | rfl | rfl | rfl <;> omega
/-- a gardener's coins, a visitor's -/
theorem money.setG {n m n1 m1 : Nat} {f : Fm} {c d : Nat → Nat} (h1 : ∀ g, g < 4 → f (30 + 4 * g) = I (c g)) (h2 : ∀ v, v < 5 → f (46 + 8 * v) = I (d v)) {g : Nat} (hg : g < 4) {x : Nat} (hs : S4 c + x + S5 d ≤ 99 * (n1 + m1) + c g) : money n1 m1 (upd f (30 + 4 * g) (I x)) := by
  refine ⟨fun j => if j = g then x else c j, d, fun j hj => ?_, fun v hv => by rw [upd_n _ _ (by omega)]; exact h2 v hv, ?_⟩
  · by_cases e : j = g
    · subst e; rw [upd_e]; simp
    · rw [upd_n _ _ (by omega)]; simp [e]; exact h1 j hj
  · have := S4_upd (c := c) hg x; omega
theorem money.setV {n m n1 m1 : Nat} {f : Fm} {c d : Nat → Nat} (h1 : ∀ g, g < 4 → f (30 + 4 * g) = I (c g)) (h2 : ∀ v, v < 5 → f (46 + 8 * v) = I (d v)) {v : Nat} (hv : v < 5) {x : Nat} (hs : S4 c + x + S5 d ≤ 99 * (n1 + m1) + d v) : money n1 m1 (upd f (46 + 8 * v) (I x)) := by
  refine ⟨c, fun j => if j = v then x else d j, fun j hj => by rw [upd_n _ _ (by omega)]; exact h1 j hj, fun j hj => ?_, ?_⟩
  · by_cases e : j = v
    · subst e; rw [upd_e]; simp
    · rw [upd_n _ _ (by omega)]; simp [e]; exact h2 j hj
  · have := S5_upd (c := d) hv x; omega
theorem money.same {n m : Nat} {f g : Fm} (h : money n m f) (e1 : ∀ j, j < 4 → g (30 + 4 * j) = f (30 + 4 * j)) (e2 : ∀ j, j < 5 → g (46 + 8 * j) = f (46 + 8 * j)) : money n m g := by
  obtain ⟨c, d, a, b, s⟩ := h
  exact ⟨c, d, fun j hj => by rw [e1 j hj]; exact a j hj, fun j hj => by rw [e2 j hj]; exact b j hj, s⟩
theorem okV.same {B n : Nat} {f g : Fm} {v : Nat} (h : okV B n f v) (e : ∀ k, 1 ≤ k → k < 8 → g (46 + 8 * v + k) = f (46 + 8 * v + k)) : okV B n g v := by
  unfold okV at h ⊢
  rw [e 1 (by omega) (by omega), e 2 (by omega) (by omega), e 3 (by omega) (by omega), e 4 (by omega) (by omega), e 5 (by omega) (by omega), e 6 (by omega) (by omega), e 7 (by omega) (by omega)]
  exact h
theorem okV.mono {B B1 n n1 : Nat} {f : Fm} {v : Nat} (h : okV B n f v) (hB : B ≤ B1) (hn : n ≤ n1) : okV B1 n1 f v := by
  obtain ⟨a, ⟨x, x1, x2⟩, b, c⟩ := h
  refine ⟨a, ⟨x, by omega, x2⟩, b, c.elim Or.inl (fun ⟨⟨g, g1, g2⟩, r⟩ => Or.inr ⟨⟨g, by omega, g2⟩, r⟩)⟩
theorem ok.mono {B B1 : Nat} {f : Fm} (h : ok B f) (hB : B ≤ B1) : ok B1 f := by
  obtain ⟨n, m, a, b, c, d, e, r⟩ := h
  exact ⟨n, m, a, b, c, d, fun v hv => (e v hv).mono hB (Nat.le_refl _), r⟩
theorem ok.ext {B : Nat} {f g : Fm} (h : ok B f) (e : ∀ k, k < 86 → f k = g k) : ok B g := by
  obtain ⟨n, m, ⟨a1, a2⟩, ⟨b1, b2⟩, c, d, v, mi, l, mo⟩ := h
  refine ⟨n, m, ⟨a1, by rw [← e 0 (by omega)]; exact a2⟩, ⟨b1, by rw [← e 1 (by omega)]; exact b2⟩, fun j h1 h2 k hk => by rw [← e _ (by omega)]; exact c j h1 h2 k hk, fun j h1 h2 k hk => by rw [← e _ (by omega)]; exact d j h1 h2 k hk, fun j hj => (v j hj).same (fun k h1 h2 => (e _ (by omega)).symm), by rw [← e 2 (by omega)]; exact mi, fun h hh => by rw [← e _ (by omega)]; exact l h hh, mo.same (fun j hj => (e _ (by omega)).symm) (fun j hj => (e _ (by omega)).symm)⟩
/-- what a change leaves: of the class, of the reference -/
def cOk (σ : Mm) (x : Option (Int32 × Mm)) (r : Rs) : Prop := match r with
  | .inl (a, f) => ∃ τ, x = some (a, τ) ∧ a ≠ -1 ∧ rep 0 τ f ∧ ∀ i, 14 ≤ i → i ≠ 159 → i ≠ 160 → τ i = σ i
  | .inr (n, d) => ∃ τ, x = some (-1, τ) ∧ (τ 157 0 = n ∧ τ 157 1 = d ∧ τ 157 2 = 0) ∧ ∀ i, i ≠ 157 → i ≠ 159 → i ≠ 160 → τ i = σ i
def rOk (σ : Mm) (x : Option (Int32 × Mm)) (r : Rs) : Prop := match r with
  | .inl (a, f) => ∃ τ, x = some (a, τ) ∧ τ 199 = f ∧ ∀ i, i ≠ 199 → i ≠ 204 → τ i = σ i
  | .inr (n, d) => ∃ τ, x = some (-1, τ) ∧ (τ 198 6 = n ∧ τ 198 7 = d ∧ τ 198 8 = 0 ∧ τ 198 12 = 1) ∧ (∀ k, k < 6 ∨ 8 < k → k ≠ 12 → τ 198 k = σ 198 k) ∧ ∀ i, i ≠ 198 → i ≠ 204 → τ i = σ i
theorem c_no (σ : Mm) (n d : Int32) : ∃ τ, f_X5_because n d σ = some (-1, τ) ∧ (τ 157 0 = n ∧ τ 157 1 = d ∧ τ 157 2 = 0) ∧ ∀ i, i ≠ 157 → τ i = σ i := by
  refine ⟨up (up (up σ 157 0 n) 157 1 d) 157 2 0, rfl, ⟨?_, ?_, ?_⟩, fun i hi => ?_⟩
  · rw [up_e, upd_n _ _ (by decide), up_e, upd_n _ _ (by decide), up_e, upd_e]
  · rw [up_e, upd_n _ _ (by decide), up_e, upd_e]
  · rw [up_e, upd_e]
  · rw [up_n _ _ _ hi, up_n _ _ _ hi, up_n _ _ _ hi]
theorem r_no (σ : Mm) (n d : Int32) : ∃ τ, f_X10_refuse n d σ = some (-1, τ) ∧ (τ 198 6 = n ∧ τ 198 7 = d ∧ τ 198 8 = 0 ∧ τ 198 12 = 1) ∧ (∀ k, k < 6 ∨ 8 < k → k ≠ 12 → τ 198 k = σ 198 k) ∧ ∀ i, i ≠ 198 → τ i = σ i := by
  refine ⟨up (up (up (up σ 198 6 n) 198 7 d) 198 8 0) 198 12 1, rfl, ⟨?_, ?_, ?_, ?_⟩, fun k h1 h2 => ?_, fun i hi => ?_⟩
  · rw [up_e, upd_n _ _ (by decide), up_e, upd_n _ _ (by decide), up_e, upd_n _ _ (by decide), up_e, upd_e]
  · rw [up_e, upd_n _ _ (by decide), up_e, upd_n _ _ (by decide), up_e, upd_e]
  · rw [up_e, upd_n _ _ (by decide), up_e, upd_e]
  · rw [up_e, upd_e]
  · rw [up_e, upd_n _ _ h2, up_e, upd_n _ _ (by omega), up_e, upd_n _ _ (by omega), up_e, upd_n _ _ (by omega)]
  · rw [up_n _ _ _ hi, up_n _ _ _ hi, up_n _ _ _ hi, up_n _ _ _ hi]
/-- a refusal, with what went before it -/
theorem c_refuse {σ σ0 : Mm} (n d : Int32) (h0 : ∀ i, i ≠ 159 → i ≠ 160 → σ i = σ0 i) : cOk σ0 (bnm (f_X5_because n d σ) fun q τ => some (q, τ)) (no n d) := by
  obtain ⟨τ, h1, h2, h3⟩ := c_no σ n d
  exact ⟨τ, by rw [h1]; rfl, h2, fun i a b c => by rw [h3 i a, h0 i b c]⟩
theorem r_refuse {σ σ0 : Mm} (n d : Int32) (h0 : ∀ i, i ≠ 204 → σ i = σ0 i) : rOk σ0 (bnm (f_X10_refuse n d σ) fun q τ => some (q, τ)) (no n d) := by
  obtain ⟨τ, h1, h2, h3, h4⟩ := r_no σ n d
  exact ⟨τ, by rw [h1]; rfl, h2, fun k a b => by rw [h3 k a b, h0 198 (by decide)], fun i a b => by rw [h4 i a, h0 i b]⟩
theorem one_ne : ¬ (1 : Int32) = 0 := by decide
theorem zero_ne : ¬ (0 : Int32) = 1 := by decide
/-- the hedge between two numbers, or why there is none -/
def nb (a b : Int32) : Nat ⊕ (Int32 × Int32) := match ix a 16 with
  | none => .inr (1, 0)
  | some u => match ix b 16 with
    | none => .inr (1, 0)
    | some v => match hN u v with
      | none => .inr (2, if a < b then b else a)
      | some h => .inl h
theorem nb_lt {a b : Int32} {h : Nat} (q : nb a b = .inl h) : h < 24 := by
  unfold nb at q
  split at q
  · cases q
  · split at q
    · cases q
    · split at q
      · cases q
      · rename_i e; cases q; exact (hN_ed e).1
theorem m_cellx (a : Int32) (σ : Mm) : f_X4_isCell a σ = some (match ix a 16 with | none => 0 | some _ => 1) := by
  rcases ix_cases a (N := 16) (by omega) with ⟨u, h1, h2, h3⟩ | ⟨h, h3⟩
  · rw [h3, h2, m_cell h1]
  · rw [h3, m_cellN h]
theorem n_cellx (a : Int32) (σ : Mm) : f_X10_isCell a σ = some (match ix a 16 with | none => 0 | some _ => 1) := by
  unfold f_X10_isCell
  rw [n_inN (by omega) (by omega) (show (15 : Int64).toInt = ((16 : Nat) : Int) - 1 by decide), bnd_d]
  cases ix a 16
  · rfl
  · exact bz_i1 _
theorem between_ind (a b : Int32) (σ τ : Mm) : f_X4_hedgeBetween a b σ = f_X4_hedgeBetween a b τ := by
  have k : ∀ n v x2 x1, f_X4_hedgeBetween_l15 x2 x1 a b σ n v = f_X4_hedgeBetween_l15 x2 x1 a b τ n v := by
    intro n
    induction n with
    | zero => intro v x2 x1; rfl
    | succ n ih =>
      intro v x2 x1
      rw [f_X4_hedgeBetween_l15, f_X4_hedgeBetween_l15]
      simp only [lt_d, ih]
  unfold f_X4_hedgeBetween
  simp only [lt_d]
  exact k _ _ _ _
theorem m_between {σ : Mm} {u v : Nat} (hu : u < 16) (hv : v < 16) : f_X4_hedgeBetween (I u) (I v) σ = some (oI (hN u v)) := by
  rw [between_ind _ _ σ (fun _ _ => 0)]
  exact (by decide +kernel : ∀ u, u < 16 → ∀ v, v < 16 → f_X4_hedgeBetween (I u) (I v) (fun _ _ => 0) = some (oI (hN u v))) u hu v hv
theorem c_nb (a b : Int32) (σ : Mm) : match nb a b with
  | .inl h => f_X3_hedgeOrRefusal a b σ = some (I h, σ)
  | .inr (n, d) => ∃ τ, f_X3_hedgeOrRefusal a b σ = some (-1, τ) ∧ (τ 157 0 = n ∧ τ 157 1 = d ∧ τ 157 2 = 0) ∧ ∀ i, i ≠ 157 → τ i = σ i := by
  unfold f_X3_hedgeOrRefusal nb
  rw [m_cellx, bnd_d]
  rcases ix_cases a (N := 16) (by omega) with ⟨u, h1, h2, h3⟩ | ⟨h, h3⟩
  · rw [h3]
    dsimp only
    rw [if_neg one_ne, m_cellx, bnd_d]
    rcases ix_cases b (N := 16) (by omega) with ⟨v, k1, k2, k3⟩ | ⟨k, k3⟩
    · rw [k3]
      dsimp only
      rw [if_neg one_ne, h2, k2, m_between h1 k1, bnd_d]
      cases e : hN u v with
      | none =>
        dsimp only
        rw [if_pos (show oI none = -1 from rfl)]
        obtain ⟨τ, t1, t2, t3⟩ := c_no σ 2 (if I u < I v then I v else I u)
        exact ⟨τ, by rw [t1]; rfl, t2, t3⟩
      | some h =>
        dsimp only
        rw [if_neg (show ¬ oI (some h) = -1 from nm1 (by have := (hN_ed e).1; omega))]
        rfl
    · rw [k3]
      dsimp only
      rw [if_pos rfl]
      obtain ⟨τ, t1, t2, t3⟩ := c_no σ 1 0
      exact ⟨τ, by rw [t1]; rfl, t2, t3⟩
  · rw [h3]
    dsimp only
    rw [if_pos rfl]
    obtain ⟨τ, t1, t2, t3⟩ := c_no σ 1 0
    exact ⟨τ, by rw [t1]; rfl, t2, t3⟩
theorem n_nb (a b : Int32) (σ : Mm) : match nb a b with
  | .inl h => f_X10_areNeighbours a b σ = some (1, σ) ∧ f_X10_hedgeAt a b σ = some (I (6 + h))
  | .inr (n, d) => ∃ τ, f_X10_areNeighbours a b σ = some (0, τ) ∧ (τ 198 6 = n ∧ τ 198 7 = d ∧ τ 198 8 = 0 ∧ τ 198 12 = 1) ∧ (∀ k, k < 6 ∨ 8 < k → k ≠ 12 → τ 198 k = σ 198 k) ∧ ∀ i, i ≠ 198 → τ i = σ i := by
  unfold f_X10_areNeighbours nb
  rw [n_cellx, bnd_d]
  rcases ix_cases a (N := 16) (by omega) with ⟨u, h1, h2, h3⟩ | ⟨h, h3⟩
  · rw [h3]
    dsimp only
    rw [if_neg one_ne, n_cellx, bnd_d]
    rcases ix_cases b (N := 16) (by omega) with ⟨v, k1, k2, k3⟩ | ⟨k, k3⟩
    · rw [k3]
      dsimp only
      rw [if_neg one_ne, h2, k2, n_hedge h1 k1, bnd_d]
      cases e : hN u v with
      | none =>
        dsimp only
        rw [if_pos (show o6 none = -1 from rfl)]
        obtain ⟨τ, t1, t2, t3, t4⟩ := r_no σ 2 (if I u < I v then I v else I u)
        exact ⟨τ, by rw [t1]; rfl, t2, t3, t4⟩
      | some h =>
        dsimp only
        rw [if_neg (show ¬ o6 (some h) = -1 from nm1 (by have := (hN_ed e).1; omega))]
        exact ⟨rfl, rfl⟩
    · rw [k3]
      dsimp only
      rw [if_pos rfl]
      obtain ⟨τ, t1, t2, t3, t4⟩ := r_no σ 1 0
      exact ⟨τ, by rw [t1]; rfl, t2, t3, t4⟩
  · rw [h3]
    dsimp only
    rw [if_pos rfl]
    obtain ⟨τ, t1, t2, t3, t4⟩ := r_no σ 1 0
    exact ⟨τ, by rw [t1]; rfl, t2, t3, t4⟩
end
section
/-! HEDGES, TRIMS, GARDENERS: what a change answers, what it leaves; the class's way, the reference's way -/
theorem m_put {σ : Mm} {h : Nat} (hh : h < 24) (x : Int32) : f_X4_putLeaves (I h) x σ = some (up σ 2 h x) := by
  unfold f_X4_putLeaves
  rw [if_neg (I_n0 (by omega)), if_neg (show ¬ (24 : Int32) ≤ I h from nle (N := 24) hh (by omega)), gd_I hh (by omega), I_clamp (by omega), lt_d]
def S_hedge (a b c : Int32) (f : Fm) : Rs := match ix c 10 with
  | none => no 1 0
  | some _ => match nb a b with
    | .inr e => no e.1 e.2
    | .inl h => if f (6 + h) = c then no 3 c else yes (f (6 + h)) (upd f (6 + h) c)
theorem I_ne1 {x : Int32} {n : Nat} (h : x = I n) (hn : n < 2147483648) : x ≠ -1 := by rw [h]; exact nm1 hn
theorem c_hedge {σ : Mm} {f : Fm} {B : Nat} (a b c : Int32) (h : rep 0 σ f) (ho : ok B f) : cOk σ (f_X3_tellLeaves a b c σ) (S_hedge a b c f) := by
  unfold f_X3_tellLeaves S_hedge
  rcases ix_cases c (N := 10) (by omega) with ⟨n, h1, h2, h3⟩ | ⟨h1, h3⟩
  · rw [h3]
    dsimp only
    rw [if_neg (show ¬ c < 0 by rw [h2]; exact I_n0 (by omega)), if_pos (show c ≤ 9 by rw [h2]; exact (I_le (b := 9) (by omega) (by omega)).mpr (by omega))]
    have k := c_nb a b σ
    cases e : nb a b with
    | inl g =>
      rw [e] at k
      have hg := nb_lt e
      obtain ⟨-, -, -, -, -, -, -, -, hl, -⟩ := ho
      obtain ⟨l, l1, l2⟩ := hl g hg
      dsimp only at k ⊢
      rw [k, bnm_d, if_neg (nm1 (by omega)), m_leaves hg, bnd_d, h.getL hg]
      by_cases q : f (6 + g) = c
      · rw [if_pos q, if_pos q]; exact c_refuse 3 c (fun _ _ _ => rfl)
      · rw [if_neg q, if_neg q, m_put hg, bnd_d]
        exact ⟨_, rfl, I_ne1 l2 (by omega), h.leaf hg c, fun i hi _ _ => up_n _ _ _ (by omega)⟩
    | inr p =>
      obtain ⟨r, d⟩ := p
      rw [e] at k
      dsimp only at k ⊢
      obtain ⟨τ, t1, t2, t3⟩ := k
      rw [t1, bnm_d, if_pos rfl]
      exact ⟨τ, rfl, t2, fun i hi _ _ => t3 i hi⟩
  · rw [h3]
    dsimp only
    by_cases q : c < 0
    · rw [if_pos q]; exact c_refuse 1 0 (fun _ _ _ => rfl)
    · rw [if_neg q, if_neg (show ¬ c ≤ 9 from fun z => by
        have := Int32.le_trans (h1.resolve_left q) z
        exact absurd this (by decide))]
      exact c_refuse 1 0 (fun _ _ _ => rfl)
theorem r_hedge {σ : Mm} (a b c : Int32) : rOk σ (f_X10_hedgeIt a b c σ) (S_hedge a b c (σ 199)) := by
  unfold f_X10_hedgeIt S_hedge
  rw [n_inN (by omega) (by omega) (show (9 : Int64).toInt = ((10 : Nat) : Int) - 1 by decide), bnd_d]
  cases e3 : ix c 10 with
  | none => dsimp only; rw [if_pos rfl]; exact r_refuse 1 0 (fun _ _ => rfl)
  | some n =>
    dsimp only
    rw [if_neg (by decide)]
    have k := n_nb a b σ
    cases e : nb a b with
    | inl g =>
      rw [e] at k
      have hg := nb_lt e
      dsimp only at k ⊢
      rw [k.1, bnm_d, if_neg (by decide), k.2, bnd_d, gd_I (by omega) (by omega), I_clamp (by omega), lt_d]
      by_cases q : σ 199 (6 + g) = c
      · rw [if_pos q, if_pos q]; exact r_refuse 3 c (fun _ _ => rfl)
      · rw [if_neg q, if_neg q, gd_I (by omega) (by omega), lt_d]
        exact ⟨_, rfl, up_e _ _ _ _, fun i hi _ => up_n _ _ _ hi⟩
    | inr p =>
      obtain ⟨r, d⟩ := p
      rw [e] at k
      dsimp only at k ⊢
      obtain ⟨τ, t1, t2, t3, t4⟩ := k
      rw [t1, bnm_d, if_pos rfl]
      exact ⟨τ, rfl, t2, t3, fun i hi _ => t4 i hi⟩
theorem ok_leaf {B : Nat} {f : Fm} (ho : ok B f) {h l : Nat} (hh : h < 24) (hl : l ≤ 9) : ok B (upd f (6 + h) (I l)) := by
  obtain ⟨n, m, ⟨a1, a2⟩, ⟨b1, b2⟩, c, d, v, mi, le, mo⟩ := ho
  refine ⟨n, m, ⟨a1, by rw [upd_n _ _ (by omega)]; exact a2⟩, ⟨b1, by rw [upd_n _ _ (by omega)]; exact b2⟩, fun j h1 h2 k hk => by rw [upd_n _ _ (by omega)]; exact c j h1 h2 k hk, fun j h1 h2 k hk => by rw [upd_n _ _ (by omega)]; exact d j h1 h2 k hk, fun j hj => (v j hj).same (fun k h1 h2 => upd_n _ _ (by omega)), by rw [upd_n _ _ (by omega)]; exact mi, fun j hj => ?_, mo.same (fun j hj => upd_n _ _ (by omega)) (fun j hj => upd_n _ _ (by omega))⟩
  by_cases e : j = h
  · subst e; exact ⟨l, hl, upd_e _ _ _⟩
  · rw [upd_n _ _ (by omega)]; exact le j hj
theorem ok_hedge {B : Nat} {f g : Fm} {a b c r : Int32} (ho : ok B f) (h : S_hedge a b c f = .inl (r, g)) : ok (B + 9) g := by
  unfold S_hedge at h
  cases e3 : ix c 10 with
  | none => rw [e3] at h; cases h
  | some n =>
    obtain ⟨h1, rfl⟩ := ix_lt (by omega) e3
    rw [e3] at h
    dsimp only at h
    cases e : nb a b with
    | inr p => rw [e] at h; cases h
    | inl k =>
      rw [e] at h
      dsimp only at h
      split at h
      · cases h
      · cases h
        exact (ok_leaf ho (nb_lt e) (by omega)).mono (by omega)
/-! gardeners and visitors by number -/
theorem m_findG {σ : Mm} {f : Fm} {n : Nat} (h : rep 0 σ f) (hn : n ≤ 4) (f0 : f 0 = I n) (a : Int32) : f_X6_findGardener a σ = some (match ix a n with | none => none | some g => some (4 + g)) := by
  unfold f_X6_findGardener
  rw [show σ 0 3 = I n from (h.get0 (k := 0) (by omega)).trans f0]
  rcases ix_cases a (N := n) (by omega) with ⟨g, h1, h2, h3⟩ | ⟨h1, h3⟩
  · rw [h3, h2, if_neg (I_n0 (by omega)), if_neg (nle h1 (by omega)), gd_I (by omega) (by omega), I_clamp (by omega)]
  · rw [h3]
    by_cases q : a < 0
    · rw [if_pos q]
    · rw [if_neg q, if_pos (h1.resolve_left q)]
theorem m_findV {σ : Mm} {f : Fm} {m : Nat} (h : rep 0 σ f) (hm : m ≤ 5) (f1 : f 1 = I m) (a : Int32) : f_X6_findVisitor a σ = some (match ix a m with | none => none | some v => some (9 + v)) := by
  unfold f_X6_findVisitor
  rw [show σ 0 4 = I m from (h.get0 (k := 1) (by omega)).trans f1]
  rcases ix_cases a (N := m) (by omega) with ⟨g, h1, h2, h3⟩ | ⟨h1, h3⟩
  · rw [h3, h2, if_neg (I_n0 (by omega)), if_neg (nle h1 (by omega)), gd_I (by omega) (by omega), I_clamp (by omega)]
  · rw [h3]
    by_cases q : a < 0
    · rw [if_pos q]
    · rw [if_neg q, if_pos (h1.resolve_left q)]
theorem n_isG {σ : Mm} {n : Nat} (hn : n ≤ 4) (f0 : σ 199 0 = I n) (a : Int32) : f_X10_isGardener a σ = some (match ix a n with | none => 0 | some _ => 1) := by
  unfold f_X10_isGardener
  rw [f0]
  exact n_in1 hn (by omega)
theorem n_isV {σ : Mm} {m : Nat} (hm : m ≤ 5) (f1 : σ 199 1 = I m) (a : Int32) : f_X10_isVisitor a σ = some (match ix a m with | none => 0 | some _ => 1) := by
  unfold f_X10_isVisitor
  rw [f1]
  exact n_in1 hm (by omega)
theorem n_gAt (g : Nat) (σ : Mm) : f_X10_gardenerAt (I g) σ = some (I (30 + 4 * g)) := by
  unfold f_X10_gardenerAt
  rw [I_mulR, I_addR]
theorem n_vAt (v : Nat) (σ : Mm) : f_X10_visitorAt (I v) σ = some (I (46 + 8 * v)) := by
  unfold f_X10_visitorAt
  rw [I_mulR, I_addR]
/-! trims -/
def S_trim (g a b : Int32) (f : Fm) : Rs := match ix g (f 0).toNatClampNeg with
  | none => no 4 (f 0)
  | some j => match nb a b with
    | .inr e => no e.1 e.2
    | .inl h => if f (6 + h) = 0 then no 3 0 else if 2 ≤ f (30 + 4 * j) then yes (f (30 + 4 * j) - 2) (upd (upd (upd (upd f (6 + h) 0) (30 + 4 * j) (f (30 + 4 * j) - 2)) (30 + 4 * j + 3) (f (30 + 4 * j + 3) + 1)) 5 (f 5 + 2)) else no 5 (2 - f (30 + 4 * j))
theorem f0c {f : Fm} {n N : Nat} {k : Nat} (h : f k = I n) (hn : n ≤ N) (hN : N < 2147483648) : (f k).toNatClampNeg = n := by rw [h, I_clamp (by omega)]
theorem c_trim {σ : Mm} {f : Fm} {B : Nat} (g a b : Int32) (h : rep 0 σ f) (ho : ok B f) : cOk σ (f_X3_trimHedge g a b σ) (S_trim g a b f) := by
  obtain ⟨n, m, ⟨a1, a2⟩, ⟨b1, b2⟩, hc, hd, hv, mi, le, c, d, mo1, mo2, mo3⟩ := ho
  unfold f_X3_trimHedge S_trim
  rw [m_findG h a1 a2, bnd_d, f0c a2 a1 (by omega)]
  cases e0 : ix g n with
  | none =>
    dsimp only
    rw [oc_d, show σ 0 3 = f 0 from h.get0 (k := 0) (by omega)]
    exact c_refuse 4 _ (fun _ _ _ => rfl)
  | some j =>
    obtain ⟨j1, rfl⟩ := ix_lt (by omega) e0
    dsimp only
    rw [oc_e]
    have k := c_nb a b σ
    cases e : nb a b with
    | inl x =>
      rw [e] at k
      have hx := nb_lt e
      dsimp only at k ⊢
      rw [k, bnm_d, if_neg (nm1 (by omega)), m_leaves hx, bnd_d, h.getL hx]
      by_cases q : f (6 + x) = 0
      · rw [if_pos q, if_pos q]; exact c_refuse 3 0 (fun _ _ _ => rfl)
      · rw [if_neg q, if_neg q]
        have hg0 : σ (4 + j) 0 = f (30 + 4 * j) := h.getG (k := 0) (by omega) (by omega)
        have hg3 : σ (4 + j) 3 = f (30 + 4 * j + 3) := h.getG (by omega) (by omega)
        have h8 : σ 0 8 = f 5 := h.get0 (k := 5) (by omega)
        rw [hg0]
        by_cases w : (2 : Int32) ≤ f (30 + 4 * j)
        · rw [if_pos w, if_pos w, m_put hx, bnd_d, lt_d, lt_d, lt_d]
          have c0 := mo1 j (by omega)
          have c2 : 2 ≤ c j := by rw [c0] at w; exact (I_le (a := 2) (by omega) (by have := S4_le (c := c) (g := j) (by omega); omega)).mp w
          obtain ⟨τ, hτ⟩ : ∃ τ, τ = up (up (up (up σ 2 x 0) (4 + j) 0 (f (30 + 4 * j) - 2)) (4 + j) 3 (f (30 + 4 * j + 3) + 1)) 0 8 (f 5 + 2) := ⟨_, rfl⟩
          refine ⟨τ, ?_, ?_, ?_, fun i hi _ _ => ?_⟩
          · rw [hτ]
            simp (disch := omega) only [up_e, up_n, upd_e, upd_n, hg0, hg3, h8]
          · rw [c0, show I (c j) - 2 = I (c j - 2) from I_sub c2]
            exact nm1 (by have := S4_le (c := c) (g := j) (by omega); omega)
          · rw [hτ]
            exact (((h.leaf hx 0).gard (g := j) (k := 0) (by omega) (by omega) (f (30 + 4 * j) - 2)).gard (g := j) (k := 3) (by omega) (by omega) (f (30 + 4 * j + 3) + 1)).top (k := 5) (by omega) (by omega) (f 5 + 2)
          · rw [hτ]
            simp (disch := omega) only [up_n]
        · rw [if_neg w, if_neg w]; exact c_refuse 5 _ (fun _ _ _ => rfl)
    | inr p =>
      obtain ⟨r, d⟩ := p
      rw [e] at k
      dsimp only at k ⊢
      obtain ⟨τ, t1, t2, t3⟩ := k
      rw [t1, bnm_d, if_pos rfl]
      exact ⟨τ, rfl, t2, fun i hi _ _ => t3 i hi⟩
theorem r_trim {σ : Mm} {B : Nat} (g a b : Int32) (ho : ok B (σ 199)) : rOk σ (f_X10_trimIt g a b σ) (S_trim g a b (σ 199)) := by
  obtain ⟨n, m, ⟨a1, a2⟩, -⟩ := ho
  unfold f_X10_trimIt S_trim
  rw [n_isG a1 a2, bnd_d, f0c a2 a1 (by omega)]
  cases e0 : ix g n with
  | none => dsimp only; rw [if_pos rfl]; exact r_refuse 4 _ (fun _ _ => rfl)
  | some j =>
    obtain ⟨j1, rfl⟩ := ix_lt (by omega) e0
    dsimp only
    rw [if_neg (by decide)]
    have k := n_nb a b σ
    cases e : nb a b with
    | inl x =>
      rw [e] at k
      have hx := nb_lt e
      dsimp only at k ⊢
      rw [k.1, bnm_d, if_neg (by decide), k.2, bnd_d, n_gAt, bnd_d, gd_I (by omega) (by omega), I_clamp (by omega)]
      by_cases q : σ 199 (6 + x) = 0
      · rw [if_pos q, if_pos q]; exact r_refuse 3 0 (fun _ _ => rfl)
      · rw [if_neg q, if_neg q, gd_I (by omega) (by omega), I_clamp (by omega)]
        by_cases w : (2 : Int32) ≤ σ 199 (30 + 4 * j)
        · rw [if_pos w, if_pos w, I_addL]
          simp only [gd_I (show 6 + x < 86 by omega) (show 86 < 2147483648 by omega), gd_I (show 30 + 4 * j < 86 by omega) (show 86 < 2147483648 by omega), gd_I (show 30 + 4 * j + 3 < 86 by omega) (show 86 < 2147483648 by omega), I_clamp (show 30 + 4 * j + 3 < 2147483648 by omega), lt_d, up_e]
          rw [upd_n (σ 199) _ (show 30 + 4 * j ≠ 6 + x by omega), upd_n _ _ (show 30 + 4 * j + 3 ≠ 30 + 4 * j by omega), upd_n _ _ (show 30 + 4 * j + 3 ≠ 6 + x by omega), upd_n _ _ (show 5 ≠ 30 + 4 * j + 3 by omega), upd_n _ _ (show 5 ≠ 30 + 4 * j by omega), upd_n _ _ (show 5 ≠ 6 + x by omega), upd_n _ _ (show 30 + 4 * j ≠ 5 by omega), upd_n _ _ (show 30 + 4 * j ≠ 30 + 4 * j + 3 by omega), upd_e]
          refine ⟨_, rfl, ?_, fun i hi _ => ?_⟩
          · simp only [up_e]
          · simp only [up_n _ _ _ hi]
        · rw [if_neg w, if_neg w, gd_I (by omega) (by omega)]; exact r_refuse 5 _ (fun _ _ => rfl)
    | inr p =>
      obtain ⟨r, d⟩ := p
      rw [e] at k
      dsimp only at k ⊢
      obtain ⟨τ, t1, t2, t3, t4⟩ := k
      rw [t1, bnm_d, if_pos rfl]
      exact ⟨τ, rfl, t2, t3, fun i hi _ => t4 i hi⟩
theorem ok_trim {B : Nat} {f g : Fm} {x a b r : Int32} (ho : ok B f) (h : S_trim x a b f = .inl (r, g)) : ok (B + 9) g := by
  obtain ⟨n, m, ⟨a1, a2⟩, ⟨b1, b2⟩, hc, hd, hv, mi, le, c, d, mo1, mo2, mo3⟩ := ho
  unfold S_trim at h
  rw [f0c a2 a1 (by omega)] at h
  cases e0 : ix x n with
  | none => rw [e0] at h; cases h
  | some j =>
    obtain ⟨j1, rfl⟩ := ix_lt (by omega) e0
    rw [e0] at h
    dsimp only at h
    cases e : nb a b with
    | inr p => rw [e] at h; cases h
    | inl k =>
      have hk := nb_lt e
      rw [e] at h
      dsimp only at h
      split at h
      · cases h
      · split at h
        · rename_i w
          cases h
          have c0 := mo1 j (by omega)
          have c9 := S4_le (c := c) (g := j) (by omega)
          have c2 : 2 ≤ c j := by rw [c0] at w; exact (I_le (a := 2) (by omega) (by omega)).mp w
          rw [c0, show I (c j) - 2 = I (c j - 2) from I_sub c2]
          refine ⟨n, m, ⟨a1, ?_⟩, ⟨b1, ?_⟩, fun i h1 h2 k2 hk2 => ?_, fun i h1 h2 k2 hk2 => ?_, fun i hi => ?_, ?_, fun i hi => ?_, ?_⟩
          · rw [upd_n _ _ (by omega), upd_n _ _ (by omega), upd_n _ _ (by omega), upd_n _ _ (by omega)]; exact a2
          · rw [upd_n _ _ (by omega), upd_n _ _ (by omega), upd_n _ _ (by omega), upd_n _ _ (by omega)]; exact b2
          · rw [upd_n _ _ (by omega), upd_n _ _ (by omega), upd_n _ _ (by omega), upd_n _ _ (by omega)]; exact hc i h1 h2 k2 hk2
          · rw [upd_n _ _ (by omega), upd_n _ _ (by omega), upd_n _ _ (by omega), upd_n _ _ (by omega)]; exact hd i h1 h2 k2 hk2
          · refine ((hv i hi).mono (by omega) (Nat.le_refl _)).same (fun k2 h1 h2 => ?_)
            rw [upd_n _ _ (by omega), upd_n _ _ (by omega), upd_n _ _ (by omega), upd_n _ _ (by omega)]
          · rw [upd_n _ _ (by omega), upd_n _ _ (by omega), upd_n _ _ (by omega), upd_n _ _ (by omega)]; exact mi
          · by_cases e2 : i = k
            · subst e2
              exact ⟨0, by omega, by rw [upd_n _ _ (by omega), upd_n _ _ (by omega), upd_n _ _ (by omega), upd_e]; rfl⟩
            · rw [upd_n _ _ (by omega), upd_n _ _ (by omega), upd_n _ _ (by omega), upd_n _ _ (by omega)]; exact le i hi
          · refine money.same (f := upd f (30 + 4 * j) (I (c j - 2))) (money.setG (n := n) (m := m) mo1 mo2 (by omega) (by omega)) (fun i hi => ?_) (fun i hi => ?_)
            · rw [upd_n _ _ (by omega), upd_n _ _ (by omega)]
              by_cases e2 : i = j
              · subst e2; rw [upd_e, upd_e]
              · rw [upd_n _ _ (by omega), upd_n _ _ (by omega), upd_n _ _ (by omega)]
            · rw [upd_n _ _ (by omega), upd_n _ _ (by omega), upd_n _ _ (by omega), upd_n _ _ (by omega), upd_n _ _ (by omega)]
        · cases h
/-! gardeners come -/
def S_gard (c : Int32) (f : Fm) : Rs := match ix c 100 with
  | none => no 1 0
  | some _ => if f 0 = 4 then no 13 4 else yes (f 0) (upd (upd (upd f (30 + 4 * (f 0).toNatClampNeg) c) 4 (f 4 + c)) 0 (f 0 + 1))
theorem c_gard {σ : Mm} {f : Fm} {B : Nat} (c : Int32) (h : rep 0 σ f) (ho : ok B f) : cOk σ (f_X3_admitGardener c σ) (S_gard c f) := by
  obtain ⟨n, m, ⟨a1, a2⟩, ⟨b1, b2⟩, hc, hd, hv, mi, le, mo⟩ := ho
  unfold f_X3_admitGardener S_gard
  rcases ix_cases c (N := 100) (by omega) with ⟨x, h1, h2, h3⟩ | ⟨h1, h3⟩
  · rw [h3]
    dsimp only
    rw [if_neg (show ¬ c < 0 by rw [h2]; exact I_n0 (by omega)), if_pos (show c ≤ 99 by rw [h2]; exact (I_le (b := 99) (by omega) (by omega)).mpr (by omega)), lt_d, show σ 0 3 = f 0 from h.get0 (k := 0) (by omega)]
    by_cases q : n = 4
    · rw [if_neg (show ¬ f 0 < 4 by rw [a2, q]; decide), if_pos (show f 0 = 4 by rw [a2, q]; rfl)]
      exact c_refuse 13 4 (fun _ _ _ => rfl)
    · have hn : n < 4 := by omega
      rw [if_pos (show f 0 < 4 by rw [a2]; exact (I_lt (b := 4) (by omega) (by omega)).mpr hn), if_neg (show ¬ f 0 = 4 by rw [a2]; exact I_beq (b := 4) (by omega) (by omega) q)]
      rw [a2, gd_I hn (by omega), I_clamp (by omega)]
      unfold f_X1_arrive
      simp only [lt_d, bnd_d]
      refine ⟨_, rfl, nm1 (by omega), ?_, fun i hi _ _ => ?_⟩
      · rw [show 3 + 1 + n = 4 + n by omega]
        have r1 := h.gard (g := n) (k := 0) hn (by omega) c
        have r2 := r1.gard (g := n) (k := 1) hn (by omega) 0
        have r3 := r2.gard (g := n) (k := 2) hn (by omega) 0
        have r4 := r3.gard (g := n) (k := 3) hn (by omega) 0
        have r5 := r4.top (k := 0) (by omega) (by omega) (f 0 + 1)
        have r6 := r5.top (k := 4) (by omega) (by omega) (f 4 + c)
        have w1 : σ 0 3 = f 0 := h.get0 (k := 0) (by omega)
        have w2 : σ 0 7 = f 4 := h.get0 (k := 4) (by omega)
        rw [up_n _ _ _ (show 0 ≠ 4 + n by omega), up_n _ _ _ (show 0 ≠ 4 + n by omega), up_n _ _ _ (show 0 ≠ 4 + n by omega), up_n _ _ _ (show 0 ≠ 4 + n by omega), w1, up_e, upd_n _ _ (by decide), up_n _ _ _ (show 0 ≠ 4 + n by omega), up_n _ _ _ (show 0 ≠ 4 + n by omega), up_n _ _ _ (show 0 ≠ 4 + n by omega), up_n _ _ _ (show 0 ≠ 4 + n by omega), w2]
        refine rep.ext r6 (fun k hk => ?_)
        have z1 := hc n (Nat.le_refl _) hn 1 (by omega)
        have z2 := hc n (Nat.le_refl _) hn 2 (by omega)
        have z3 := hc n (Nat.le_refl _) hn 3 (by omega)
        rw [a2]
        simp only [upd]
        by_cases k0 : k = 0
        · subst k0; simp
        · by_cases k4 : k = 4
          · subst k4; simp
          · rw [if_neg k4, if_neg k0, if_neg k0, if_neg k4]
            by_cases p1 : k = 30 + 4 * n + 3
            · rw [if_pos p1, if_neg (by omega), p1, z3]
            · rw [if_neg p1]
              by_cases p2 : k = 30 + 4 * n + 2
              · rw [if_pos p2, if_neg (by omega), p2, z2]
              · rw [if_neg p2]
                by_cases p3 : k = 30 + 4 * n + 1
                · rw [if_pos p3, if_neg (by omega), p3, z1]
                · rw [if_neg p3]; rfl
      · simp only [up_n _ _ _ (show i ≠ 0 by omega), up_n _ _ _ (show i ≠ 3 + 1 + n by omega)]
  · rw [h3]
    dsimp only
    by_cases q : c < 0
    · rw [if_pos q]; exact c_refuse 1 0 (fun _ _ _ => rfl)
    · rw [if_neg q, if_neg (show ¬ c ≤ 99 from fun z => by
        have := Int32.le_trans (h1.resolve_left q) z
        exact absurd this (by decide))]
      exact c_refuse 1 0 (fun _ _ _ => rfl)
theorem r_gard {σ : Mm} {B : Nat} (c : Int32) (ho : ok B (σ 199)) : rOk σ (f_X10_gardenerIt c σ) (S_gard c (σ 199)) := by
  obtain ⟨n, m, ⟨a1, a2⟩, -⟩ := ho
  unfold f_X10_gardenerIt S_gard
  rw [n_inN (by omega) (by omega) (show (99 : Int64).toInt = ((100 : Nat) : Int) - 1 by decide), bnd_d]
  cases e3 : ix c 100 with
  | none => dsimp only; rw [if_pos rfl]; exact r_refuse 1 0 (fun _ _ => rfl)
  | some x =>
    dsimp only
    rw [if_neg (by decide)]
    by_cases q : n = 4
    · rw [if_pos (show σ 199 0 = 4 by rw [a2, q]; rfl), if_pos (show σ 199 0 = 4 by rw [a2, q]; rfl)]
      exact r_refuse 13 4 (fun _ _ => rfl)
    · have hn : n < 4 := by omega
      have ne : ¬ σ 199 0 = 4 := by rw [a2]; exact I_beq (b := 4) (by omega) (by omega) q
      rw [if_neg ne, if_neg ne, a2, n_gAt, bnd_d, gd_I (by omega) (by omega), I_clamp (by omega), I_clamp (by omega), lt_d, lt_d, lt_d]
      obtain ⟨τ, hτ⟩ : ∃ τ, τ = up (up (up σ 199 (30 + 4 * n) c) 199 4 (σ 199 4 + c)) 199 0 (I n + 1) := ⟨_, rfl⟩
      refine ⟨τ, ?_, ?_, fun i hi _ => ?_⟩
      · rw [hτ]
        simp (disch := omega) only [up_e, upd_e, upd_n, a2]
        rw [show I n + 1 = I (n + 1) from I_add n 1, show I (n + 1) - 1 = I n from I_sub (b := 1) (by omega)]
      · rw [hτ]
        simp only [up_e]
      · rw [hτ]
        simp only [up_n _ _ _ hi]
theorem ok_gard {B : Nat} {f g : Fm} {x r : Int32} (ho : ok B f) (h : S_gard x f = .inl (r, g)) : ok (B + 9) g := by
  obtain ⟨n, m, ⟨a1, a2⟩, ⟨b1, b2⟩, hc, hd, hv, mi, le, c, d, mo1, mo2, mo3⟩ := ho
  unfold S_gard at h
  cases e0 : ix x 100 with
  | none => rw [e0] at h; cases h
  | some y =>
    obtain ⟨y1, rfl⟩ := ix_lt (by omega) e0
    rw [e0] at h
    dsimp only at h
    split at h
    · cases h
    · rename_i q
      cases h
      have hn : n < 4 := by
        rcases Nat.lt_or_ge n 4 with z | z
        · exact z
        · exact absurd (by rw [a2, show n = 4 by omega]; rfl) q
      rw [a2, I_clamp (by omega), I_addL]
      refine ⟨n + 1, m, ⟨by omega, ?_⟩, ⟨b1, ?_⟩, fun i h1 h2 k2 hk2 => ?_, fun i h1 h2 k2 hk2 => ?_, fun i hi => ?_, ?_, fun i hi => ?_, ?_⟩
      · rw [upd_e]
      · simp (disch := omega) only [upd_n]; exact b2
      · simp (disch := omega) only [upd_n]; exact hc i (by omega) h2 k2 hk2
      · simp (disch := omega) only [upd_n]; exact hd i h1 h2 k2 hk2
      · refine ((hv i hi).mono (by omega) (by omega)).same (fun k2 h1 h2 => ?_)
        simp (disch := omega) only [upd_n]
      · simp (disch := omega) only [upd_n]; exact mi
      · simp (disch := omega) only [upd_n]; exact le i hi
      · have z0 := hc n (Nat.le_refl _) hn 0 (by omega)
        have z1 := mo1 n hn
        have z2 : c n = 0 := by
          have := S4_le (c := c) (g := n) hn
          have e : I (c n) = I 0 := by rw [← z1]; exact z0
          exact (I_eq (by omega) (by omega)).mp e
        refine money.same (f := upd f (30 + 4 * n) (I y)) (money.setG (n := n) (m := m) mo1 mo2 (by omega) (by omega)) (fun i hi => ?_) (fun i hi => ?_)
        · by_cases e2 : i = n
          · subst e2; simp (disch := omega) only [upd_n, upd_e]
          · simp (disch := omega) only [upd_n]
        · simp (disch := omega) only [upd_n]
end
section
/-! VISITORS: rest, bond -/
theorem m_isIn {σ : Mm} {f : Fm} {v : Nat} (h : rep 0 σ f) (hv : v < 5) (hf : ¬ f 1 ≤ I v) (a : Int32) : f_X7_isIn (9 + v) a σ = some (if f (46 + 8 * v + 7) = 0 ∧ f (46 + 8 * v + 1) = a then 1 else 0) := by
  unfold f_X7_isIn
  rw [h.getV hv (by omega) hf, h.getV hv (by omega) hf]
  by_cases q : f (46 + 8 * v + 7) = 0
  · rw [if_pos q]
    by_cases w : f (46 + 8 * v + 1) = a
    · rw [if_pos w, if_pos ⟨q, w⟩]
    · rw [if_neg w, if_neg (fun z => w z.2)]
  · rw [if_neg q, if_neg (fun z => q z.1)]
theorem hfI {f : Fm} {m v : Nat} (h : f 1 = I m) (hm : m ≤ 5) (hv : v < m) : ¬ f 1 ≤ I v := by rw [h]; exact nle hv (by omega)
theorem okV.out {B n : Nat} {f : Fm} {v : Nat} (h : okV B n f v) : f (46 + 8 * v + 7) = 0 ∨ f (46 + 8 * v + 7) = 1 := by
  rcases h.2.2.2 with ⟨-, -, -, h⟩ | ⟨-, -, -, h⟩
  · exact h
  · exact Or.inl h
def S_rest (x t : Int32) (f : Fm) : Rs := match ix x (f 1).toNatClampNeg with
  | none => no 7 (f 1)
  | some v => if 1 ≤ t ∧ t ≤ 9 then (if f (46 + 8 * v + 7) = 0 then yes (f (46 + 8 * v + 2) + t) (upd f (46 + 8 * v + 2) (f (46 + 8 * v + 2) + t)) else no 9 (f (46 + 8 * v + 2))) else no 1 0
theorem rng {t : Int32} {a b : Nat} (h1 : I a ≤ t) (h2 : t ≤ I b) (hb : b < 2147483648) (ha : a < 2147483648) : ∃ n, a ≤ n ∧ n ≤ b ∧ t = I n := by
  have k1 := Int32.le_iff_toInt_le.mp h1
  have k2 := Int32.le_iff_toInt_le.mp h2
  rw [I_toInt ha] at k1
  rw [I_toInt hb] at k2
  refine ⟨t.toInt.toNat, by omega, by omega, ?_⟩
  rw [← Int32.toInt_inj, I_toInt (by omega)]
  omega
theorem c_rest {σ : Mm} {f : Fm} {B : Nat} (hB : B ≤ 1000000) (x t : Int32) (h : rep 0 σ f) (ho : ok B f) : cOk σ (f_X3_restVisitor x t σ) (S_rest x t f) := by
  obtain ⟨n, m, ⟨a1, a2⟩, ⟨b1, b2⟩, hc, hd, hv, mi, le, mo⟩ := ho
  unfold f_X3_restVisitor S_rest
  rw [m_findV h b1 b2, bnd_d, f0c b2 b1 (by omega)]
  cases e0 : ix x m with
  | none =>
    dsimp only
    rw [oc_d, show σ 0 4 = f 1 from h.get0 (k := 1) (by omega)]
    exact c_refuse 7 _ (fun _ _ _ => rfl)
  | some v =>
    obtain ⟨v1, rfl⟩ := ix_lt (by omega) e0
    have hf := hfI b2 b1 v1
    dsimp only
    rw [oc_e]
    by_cases q1 : t < 1
    · rw [if_pos q1, if_neg (fun z => absurd q1 (Int32.not_lt.mpr z.1))]; exact c_refuse 1 0 (fun _ _ _ => rfl)
    · rw [if_neg q1]
      by_cases q2 : t ≤ 9
      · rw [if_pos q2, if_pos (show (1 : Int32) ≤ t ∧ t ≤ 9 from ⟨Int32.not_lt.mp q1, q2⟩), h.getV (by omega) (by omega) hf]
        have g2 : σ (9 + v) 2 = f (46 + 8 * v + 2) := h.getV (by omega) (by omega) hf
        by_cases q3 : f (46 + 8 * v + 7) = 0
        · rw [if_pos q3, if_pos q3, lt_d, g2]
          obtain ⟨-, ⟨y, y1, y2⟩, -⟩ := hv v v1
          obtain ⟨z, z1, z2, z3⟩ := rng (a := 1) (b := 9) (Int32.not_lt.mp q1) q2 (by omega) (by omega)
          refine ⟨_, by rw [up_e, upd_e], ?_, h.vis (by omega) (by omega) hf _, fun i hi _ _ => up_n _ _ _ (by omega)⟩
          rw [y2, z3, I_add]; exact nm1 (by omega)
        · rw [if_neg q3, if_neg q3, g2]; exact c_refuse 9 _ (fun _ _ _ => rfl)
      · rw [if_neg q2, if_neg (fun z => q2 z.2)]; exact c_refuse 1 0 (fun _ _ _ => rfl)
theorem r_rest {σ : Mm} {B : Nat} (x t : Int32) (ho : ok B (σ 199)) : rOk σ (f_X10_restIt x t σ) (S_rest x t (σ 199)) := by
  obtain ⟨n, m, ⟨a1, a2⟩, ⟨b1, b2⟩, hc, hd, hv, mi, le, mo⟩ := ho
  unfold f_X10_restIt S_rest
  rw [n_isV b1 b2, bnd_d, f0c b2 b1 (by omega)]
  cases e0 : ix x m with
  | none => dsimp only; rw [if_pos rfl]; exact r_refuse 7 _ (fun _ _ => rfl)
  | some v =>
    obtain ⟨v1, rfl⟩ := ix_lt (by omega) e0
    dsimp only
    rw [if_neg (by decide), n_in (lo := 1) (hi := 9) rfl rfl, bnd_d]
    by_cases q : (1 : Int32) ≤ t ∧ t ≤ 9
    · rw [if_pos q, if_neg (by decide), if_pos q, n_vAt, bnd_d, I_addL, I_addL]
      simp only [gd_I (show 46 + 8 * v + 7 < 86 by omega) (show 86 < 2147483648 by omega), gd_I (show 46 + 8 * v + 2 < 86 by omega) (show 86 < 2147483648 by omega), I_clamp (show 46 + 8 * v + 7 < 2147483648 by omega), I_clamp (show 46 + 8 * v + 2 < 2147483648 by omega), lt_d]
      rcases (hv v v1).out with w | w
      · rw [if_neg (by rw [w]; decide), if_pos w]
        exact ⟨_, by rw [up_e, upd_e], up_e _ _ _ _, fun i hi _ => up_n _ _ _ hi⟩
      · rw [if_pos w, if_neg (by rw [w]; decide)]; exact r_refuse 9 _ (fun _ _ => rfl)
    · rw [if_neg q, if_pos rfl, if_neg q]; exact r_refuse 1 0 (fun _ _ => rfl)
/-- a visitor's numbers change, the coins don't -/
theorem okC.vis {B B1 n m : Nat} {f g : Fm} (ho : okC B n m f) (hB : B ≤ B1) {v : Nat} (hv : v < m) (e : ∀ k, k < 86 → (∀ j, 1 ≤ j → j < 8 → k ≠ 46 + 8 * v + j) → g k = f k) (hn : okV B1 n g v) : okC B1 n m g := by
  obtain ⟨⟨a1, a2⟩, ⟨b1, b2⟩, c, d, vv, mi, le, mo⟩ := ho
  refine ⟨⟨a1, by rw [e 0 (by omega) (by omega)]; exact a2⟩, ⟨b1, by rw [e 1 (by omega) (by omega)]; exact b2⟩, fun j h1 h2 k hk => by rw [e _ (by omega) (by omega)]; exact c j h1 h2 k hk, fun j h1 h2 k hk => by rw [e _ (by omega) (by omega)]; exact d j h1 h2 k hk, fun j hj => ?_, by rw [e 2 (by omega) (by omega)]; exact mi, fun j hj => by rw [e _ (by omega) (by omega)]; exact le j hj, mo.same (fun j hj => e _ (by omega) (by omega)) (fun j hj => e _ (by omega) (by omega))⟩
  by_cases q : j = v
  · subst q; exact hn
  · exact ((vv j hj).mono hB (Nat.le_refl _)).same (fun k h1 h2 => e _ (by omega) (by omega))
theorem ok_rest {B : Nat} {f g : Fm} {x t r : Int32} (ho : ok B f) (h : S_rest x t f = .inl (r, g)) : ok (B + 9) g := by
  obtain ⟨n, m, hok⟩ := ho
  obtain ⟨⟨a1, a2⟩, ⟨b1, b2⟩, hc, hd, hv, mi, le, mo⟩ := id hok
  unfold S_rest at h
  rw [f0c b2 b1 (by omega)] at h
  cases e0 : ix x m with
  | none => rw [e0] at h; cases h
  | some v =>
    obtain ⟨v1, rfl⟩ := ix_lt (by omega) e0
    rw [e0] at h
    dsimp only at h
    split at h
    · rename_i q
      split at h
      · cases h
        obtain ⟨z, z1, z2, rfl⟩ := rng (a := 1) (b := 9) q.1 q.2 (by omega) (by omega)
        obtain ⟨p1, ⟨y, y1, y2⟩, p3, p4⟩ := hv v v1
        refine ⟨n, m, hok.vis (by omega) v1 (fun k hk hne => upd_n _ _ (hne 2 (by omega) (by omega))) ?_⟩
        unfold okV
        simp (disch := omega) only [upd_n, upd_e]
        exact ⟨p1, ⟨y + z, by omega, by rw [y2, I_add]⟩, p3, p4⟩
      · cases h
    · cases h
/-! bonds -/
def S_bond (x y r : Int32) (f : Fm) : Rs := match ix x (f 0).toNatClampNeg with
  | none => no 4 (f 0)
  | some g => match ix y (f 1).toNatClampNeg with
    | none => no 7 (f 1)
    | some v => if 1 ≤ r ∧ r ≤ 5 then (if f (46 + 8 * v + 7) = 0 then (if f (46 + 8 * v + 4) = -1 then (if f (46 + 8 * v + 1) = f 2 then no 10 (f 2) else
      if 2 * r ≤ f (46 + 8 * v) then yes (f (46 + 8 * v) - 2 * r) (upd (upd (upd (upd (upd f (46 + 8 * v) (f (46 + 8 * v) - 2 * r)) (46 + 8 * v + 4) x) (46 + 8 * v + 5) r) (30 + 4 * g) (f (30 + 4 * g) + 2 * r)) (30 + 4 * g + 1) (f (30 + 4 * g + 1) + 2 * r))
      else no 5 (2 * r - f (46 + 8 * v))) else no 8 (f (46 + 8 * v + 4))) else no 9 (f (46 + 8 * v + 2))) else no 1 0
theorem okV.void {B n : Nat} {f : Fm} {v : Nat} (h : okV B n f v) (hn : n ≤ 4) (q : f (46 + 8 * v + 4) = -1) : f (46 + 8 * v + 5) = 0 ∧ f (46 + 8 * v + 6) = 0 := by
  rcases h.2.2.2 with ⟨-, a, b, -⟩ | ⟨⟨g, g1, g2⟩, -⟩
  · exact ⟨a, b⟩
  · rw [g2] at q
    exact absurd q (nm1 (by omega))
theorem c_bond {σ : Mm} {f : Fm} {B : Nat} (x y r : Int32) (h : rep 0 σ f) (ho : ok B f) : cOk σ (f_X3_giveBond x y r σ) (S_bond x y r f) := by
  obtain ⟨n, m, ⟨a1, a2⟩, ⟨b1, b2⟩, hc, hd, hv, mi, le, c, d, mo1, mo2, mo3⟩ := ho
  unfold f_X3_giveBond S_bond
  rw [m_findG h a1 a2, bnd_d, f0c a2 a1 (by omega), f0c b2 b1 (by omega)]
  cases e0 : ix x n with
  | none =>
    dsimp only
    rw [oc_d, show σ 0 3 = f 0 from h.get0 (k := 0) (by omega)]
    exact c_refuse 4 _ (fun _ _ _ => rfl)
  | some g =>
    obtain ⟨g1, rfl⟩ := ix_lt (by omega) e0
    dsimp only
    rw [oc_e, m_findV h b1 b2, bnd_d]
    cases e1 : ix y m with
    | none =>
      dsimp only
      rw [oc_d, show σ 0 4 = f 1 from h.get0 (k := 1) (by omega)]
      exact c_refuse 7 _ (fun _ _ _ => rfl)
    | some v =>
      obtain ⟨v1, rfl⟩ := ix_lt (by omega) e1
      have hf := hfI b2 b1 v1
      have hV := fun k hk => h.getV (v := v) (k := k) (by omega) hk hf
      dsimp only
      rw [oc_e]
      by_cases q1 : r < 1
      · rw [if_pos q1, if_neg (fun z => absurd q1 (Int32.not_lt.mpr z.1))]; exact c_refuse 1 0 (fun _ _ _ => rfl)
      · rw [if_neg q1]
        by_cases q2 : r ≤ 5
        · rw [if_pos q2, if_pos (show (1 : Int32) ≤ r ∧ r ≤ 5 from ⟨Int32.not_lt.mp q1, q2⟩), hV 7 (by omega)]
          by_cases q3 : f (46 + 8 * v + 7) = 0
          · rw [if_pos q3, if_pos q3]
            unfold f_X7_hasBond
            rw [hV 4 (by omega)]
            by_cases q4 : f (46 + 8 * v + 4) = -1
            · rw [if_pos q4, if_pos q4, bnd_d, if_pos rfl, show σ 0 5 = f 2 from h.get0 (k := 2) (by omega), m_isIn h (by omega) hf, bnd_d]
              by_cases q5 : f (46 + 8 * v + 1) = f 2
              · have hq : f (46 + 8 * v + 7) = 0 ∧ f (46 + 8 * v + 1) = f 2 := ⟨q3, q5⟩
                rw [if_pos hq, if_neg one_ne, if_pos q5]; exact c_refuse 10 _ (fun _ _ _ => rfl)
              · have hq : ¬ (f (46 + 8 * v + 7) = 0 ∧ f (46 + 8 * v + 1) = f 2) := fun z => q5 z.2
                rw [if_neg hq, if_pos rfl, if_neg q5, lt_d, hV 0 (by omega)]
                obtain ⟨z, z1, z2, rfl⟩ := rng (a := 1) (b := 5) (Int32.not_lt.mp q1) q2 (by omega) (by omega)
                by_cases q6 : (2 : Int32) * I z ≤ f (46 + 8 * v + 0)
                · have q6' : (2 : Int32) * I z ≤ f (46 + 8 * v) := q6
                  rw [if_pos q6, if_pos q6']
                  have hd0 := S5_le (c := d) (g := v) (by omega)
                  have c2 : 2 * z ≤ d v := by
                    rw [mo2 v (by omega), I_mulR] at q6'
                    exact (I_le (by omega) (by omega)).mp q6'
                  unfold f_X7_takeBond
                  simp only [lt_d, bnd_d]
                  have r1 := h.vis (v := v) (k := 0) (by omega) (by omega) hf (f (46 + 8 * v) - 2 * I z)
                  have hf1 : ¬ (upd f (46 + 8 * v + 0) (f (46 + 8 * v) - 2 * I z)) 1 ≤ I v := by rw [upd_n _ _ (by omega)]; exact hf
                  have r2 := r1.vis (v := v) (k := 4) (by omega) (by omega) hf1 (I g)
                  have hf2 : ¬ (upd (upd f (46 + 8 * v + 0) (f (46 + 8 * v) - 2 * I z)) (46 + 8 * v + 4) (I g)) 1 ≤ I v := by rw [upd_n _ _ (by omega)]; exact hf1
                  have r3 := r2.vis (v := v) (k := 5) (by omega) (by omega) hf2 (I z)
                  have hf3 : ¬ (upd (upd (upd f (46 + 8 * v + 0) (f (46 + 8 * v) - 2 * I z)) (46 + 8 * v + 4) (I g)) (46 + 8 * v + 5) (I z)) 1 ≤ I v := by rw [upd_n _ _ (by omega)]; exact hf2
                  have r4 := r3.vis (v := v) (k := 6) (by omega) (by omega) hf3 0
                  have r5 := r4.gard (g := g) (k := 0) (by omega) (by omega) (f (30 + 4 * g) + 2 * I z)
                  have r6 := r5.gard (g := g) (k := 1) (by omega) (by omega) (f (30 + 4 * g + 1) + 2 * I z)
                  have hG0 : σ (4 + g) 0 = f (30 + 4 * g) := h.getG (k := 0) (by omega) (by omega)
                  have hG1 : σ (4 + g) 1 = f (30 + 4 * g + 1) := h.getG (by omega) (by omega)
                  have ex : ∃ τ, τ = up (up (up (up (up (up σ (9 + v) 0 (f (46 + 8 * v) - 2 * I z)) (9 + v) 4 (I g)) (9 + v) 5 (I z)) (9 + v) 6 0) (4 + g) 0 (f (30 + 4 * g) + 2 * I z)) (4 + g) 1 (f (30 + 4 * g + 1) + 2 * I z) := ⟨_, rfl⟩
                  obtain ⟨τ, hτ⟩ := ex
                  refine ⟨τ, ?_, ?_, ?_, fun i hi _ _ => ?_⟩
                  · rw [hτ]
                    simp (disch := omega) only [up_e, up_n, upd_e, upd_n, hG0, hG1]
                    rfl
                  · rw [mo2 v (by omega), I_mulR, I_sub c2]; exact nm1 (by omega)
                  · rw [hτ]
                    refine rep.ext r6 (fun k hk => ?_)
                    have hz := (hv v v1).void a1 q4
                    simp only [upd]
                    by_cases p1 : k = 30 + 4 * g + 1
                    · rw [if_pos p1, if_pos p1]
                    · rw [if_neg p1, if_neg p1]
                      by_cases p2 : k = 30 + 4 * g
                      · rw [if_pos (by omega), if_pos p2]
                      · rw [if_neg (by omega), if_neg p2]
                        by_cases p3 : k = 46 + 8 * v + 6
                        · rw [if_pos p3, if_neg (by omega), if_neg (by omega), if_neg (by omega), p3, hz.2]
                        · rw [if_neg p3]; rfl
                  · rw [hτ]
                    simp (disch := omega) only [up_n]
                · have q6' : ¬ (2 : Int32) * I z ≤ f (46 + 8 * v) := q6
                  rw [if_neg q6, if_neg q6']; exact c_refuse 5 _ (fun _ _ _ => rfl)
            · rw [if_neg q4, if_neg q4, bnd_d, if_neg one_ne]; exact c_refuse 8 _ (fun _ _ _ => rfl)
          · rw [if_neg q3, if_neg q3, hV 2 (by omega)]; exact c_refuse 9 _ (fun _ _ _ => rfl)
        · rw [if_neg q2, if_neg (fun z => q2 z.2)]; exact c_refuse 1 0 (fun _ _ _ => rfl)
theorem n_meets {σ : Mm} {v : Nat} (hv : v < 5) : f_X10_meets (I v) σ = some (if σ 199 (46 + 8 * v + 7) = 0 ∧ σ 199 (46 + 8 * v + 1) = σ 199 2 then 1 else 0) := by
  unfold f_X10_meets
  rw [n_vAt, bnd_d, I_addL, I_addL, gd_I (by omega) (by omega), gd_I (by omega) (by omega), I_clamp (by omega), I_clamp (by omega)]
  by_cases q : σ 199 (46 + 8 * v + 7) = 0
  · rw [if_pos q]
    by_cases w : σ 199 (46 + 8 * v + 1) = σ 199 2
    · rw [if_pos w, if_pos ⟨q, w⟩]
    · rw [if_neg w, if_neg (fun z => w z.2)]
  · rw [if_neg q, if_neg (fun z => q z.1)]
theorem r_bond {σ : Mm} {B : Nat} (x y r : Int32) (ho : ok B (σ 199)) : rOk σ (f_X10_bondIt x y r σ) (S_bond x y r (σ 199)) := by
  obtain ⟨n, m, ⟨a1, a2⟩, ⟨b1, b2⟩, hc, hd, hv, mi, le, mo⟩ := ho
  unfold f_X10_bondIt S_bond
  rw [n_isG a1 a2, bnd_d, f0c a2 a1 (by omega), f0c b2 b1 (by omega)]
  cases e0 : ix x n with
  | none => dsimp only; rw [if_pos rfl]; exact r_refuse 4 _ (fun _ _ => rfl)
  | some g =>
    obtain ⟨g1, rfl⟩ := ix_lt (by omega) e0
    dsimp only
    rw [if_neg (by decide), n_isV b1 b2, bnd_d]
    cases e1 : ix y m with
    | none => dsimp only; rw [if_pos rfl]; exact r_refuse 7 _ (fun _ _ => rfl)
    | some v =>
      obtain ⟨v1, rfl⟩ := ix_lt (by omega) e1
      dsimp only
      rw [if_neg (by decide), n_in (lo := 1) (hi := 5) rfl rfl, bnd_d]
      by_cases q : (1 : Int32) ≤ r ∧ r ≤ 5
      · rw [if_pos q, if_neg (by decide), if_pos q, n_vAt, bnd_d]
        simp only [I_a1, I_a2, I_a3, I_a4, I_a5, I_a6, I_a7, gd_I (show 46 + 8 * v + 7 < 86 by omega) (show 86 < 2147483648 by omega), gd_I (show 46 + 8 * v + 2 < 86 by omega) (show 86 < 2147483648 by omega), gd_I (show 46 + 8 * v + 4 < 86 by omega) (show 86 < 2147483648 by omega), gd_I (show 46 + 8 * v + 5 < 86 by omega) (show 86 < 2147483648 by omega), gd_I (show 46 + 8 * v < 86 by omega) (show 86 < 2147483648 by omega), I_clamp (show 46 + 8 * v + 7 < 2147483648 by omega), I_clamp (show 46 + 8 * v + 2 < 2147483648 by omega), I_clamp (show 46 + 8 * v + 4 < 2147483648 by omega), I_clamp (show 46 + 8 * v + 5 < 2147483648 by omega), I_clamp (show 46 + 8 * v < 2147483648 by omega), lt_d, n_gAt, bnd_d, gd_I (show 30 + 4 * g < 86 by omega) (show 86 < 2147483648 by omega), gd_I (show 30 + 4 * g + 1 < 86 by omega) (show 86 < 2147483648 by omega), I_clamp (show 30 + 4 * g < 2147483648 by omega), I_clamp (show 30 + 4 * g + 1 < 2147483648 by omega), n_meets (σ := σ) (v := v) (by omega)]
        rcases (hv v v1).out with w | w
        · rw [if_neg (show ¬ σ 199 (46 + 8 * v + 7) = 1 by rw [w]; decide), if_pos w]
          by_cases q4 : σ 199 (46 + 8 * v + 4) = -1
          · rw [if_pos q4, if_pos q4]
            by_cases q5 : σ 199 (46 + 8 * v + 1) = σ 199 2
            · have hq : σ 199 (46 + 8 * v + 7) = 0 ∧ σ 199 (46 + 8 * v + 1) = σ 199 2 := ⟨w, q5⟩
              rw [if_pos hq, if_neg one_ne, if_pos q5]; exact r_refuse 10 _ (fun _ _ => rfl)
            · have hq : ¬ (σ 199 (46 + 8 * v + 7) = 0 ∧ σ 199 (46 + 8 * v + 1) = σ 199 2) := fun z => q5 z.2
              rw [if_neg hq, if_pos rfl, if_neg q5]
              by_cases q6 : (2 : Int32) * r ≤ σ 199 (46 + 8 * v)
              · rw [if_pos q6, if_pos q6]
                have ex : ∃ τ, τ = up (up (up (up (up σ 199 (46 + 8 * v) (σ 199 (46 + 8 * v) - 2 * r)) 199 (46 + 8 * v + 4) (I g)) 199 (46 + 8 * v + 5) r) 199 (30 + 4 * g) (σ 199 (30 + 4 * g) + 2 * r)) 199 (30 + 4 * g + 1) (σ 199 (30 + 4 * g + 1) + 2 * r) := ⟨_, rfl⟩
                obtain ⟨τ, hτ⟩ := ex
                refine ⟨τ, ?_, ?_, fun i hi _ => ?_⟩
                · rw [hτ]
                  simp (disch := omega) only [up_e, upd_e, upd_n]
                · rw [hτ]; simp only [up_e]
                · rw [hτ]; simp only [up_n _ _ _ hi]
              · rw [if_neg q6, if_neg q6]; exact r_refuse 5 _ (fun _ _ => rfl)
          · rw [if_neg q4, if_neg q4]; exact r_refuse 8 _ (fun _ _ => rfl)
        · rw [if_pos w, if_neg (show ¬ σ 199 (46 + 8 * v + 7) = 0 by rw [w]; decide)]; exact r_refuse 9 _ (fun _ _ => rfl)
      · rw [if_neg q, if_pos rfl, if_neg q]; exact r_refuse 1 0 (fun _ _ => rfl)
theorem ok_bond {B : Nat} {f g : Fm} {x y t r : Int32} (ho : ok B f) (h : S_bond x y t f = .inl (r, g)) : ok (B + 9) g := by
  obtain ⟨n, m, ⟨a1, a2⟩, ⟨b1, b2⟩, hc, hd, hv, mi, le, c, d, mo1, mo2, mo3⟩ := ho
  unfold S_bond at h
  rw [f0c a2 a1 (by omega), f0c b2 b1 (by omega)] at h
  cases e0 : ix x n with
  | none => rw [e0] at h; cases h
  | some u =>
    obtain ⟨u1, rfl⟩ := ix_lt (by omega) e0
    rw [e0] at h
    dsimp only at h
    cases e1 : ix y m with
    | none => rw [e1] at h; cases h
    | some v =>
      obtain ⟨v1, rfl⟩ := ix_lt (by omega) e1
      rw [e1] at h
      dsimp only at h
      split at h
      case isFalse => cases h
      rename_i q1
      split at h
      case isFalse => cases h
      rename_i q2
      split at h
      case isFalse => cases h
      rename_i q3
      split at h
      · cases h
      split at h
      case isFalse => cases h
      rename_i q4
      cases h
      obtain ⟨z, z1, z2, rfl⟩ := rng (a := 1) (b := 5) q1.1 q1.2 (by omega) (by omega)
      have hd0 := S5_le (c := d) (g := v) (by omega)
      have hc0 := S4_le (c := c) (g := u) (by omega)
      rw [mo2 v (by omega), I_mulR] at q4
      have c2 := (I_le (by omega) (by omega)).mp q4
      rw [mo2 v (by omega), mo1 u (by omega), I_mulR, I_sub c2, I_add]
      refine ⟨n, m, ⟨a1, ?_⟩, ⟨b1, ?_⟩, fun i h1 h2 k2 hk2 => ?_, fun i h1 h2 k2 hk2 => ?_, fun i hi => ?_, ?_, fun i hi => ?_, ?_⟩
      · simp (disch := omega) only [upd_n]; exact a2
      · simp (disch := omega) only [upd_n]; exact b2
      · simp (disch := omega) only [upd_n]; exact hc i h1 h2 k2 hk2
      · simp (disch := omega) only [upd_n]; exact hd i h1 h2 k2 hk2
      · by_cases e2 : i = v
        · subst e2
          obtain ⟨p1, p2, p3, p4⟩ := (hv i hi).mono (B1 := B + 9) (by omega) (Nat.le_refl n)
          have hz := (hv i hi).void a1 q3
          unfold okV
          simp (disch := omega) only [upd_n, upd_e]
          exact ⟨p1, p2, p3, Or.inr ⟨⟨u, u1, rfl⟩, ⟨z, z1, z2, rfl⟩, Or.inl hz.2, q2⟩⟩
        · refine ((hv i hi).mono (by omega) (Nat.le_refl _)).same (fun k2 h1 h2 => ?_)
          simp (disch := omega) only [upd_n]
      · simp (disch := omega) only [upd_n]; exact mi
      · simp (disch := omega) only [upd_n]; exact le i hi
      · refine ⟨fun j => if j = u then c u + 2 * z else c j, fun j => if j = v then d v - 2 * z else d j, fun j hj => ?_, fun j hj => ?_, ?_⟩
        · by_cases e2 : j = u
          · subst e2
            simp (disch := omega) only [upd_n, upd_e]
            simp
          · simp (disch := omega) only [upd_n]
            simp [e2]; exact mo1 j hj
        · by_cases e2 : j = v
          · subst e2
            simp (disch := omega) only [upd_n, upd_e]
            simp
          · simp (disch := omega) only [upd_n]
            simp [e2]; exact mo2 j hj
        · have k1 := S4_upd (c := c) (g := u) (by omega) (c u + 2 * z)
          have k2 := S5_upd (c := d) (g := v) (by omega) (d v - 2 * z)
          omega
end
section
/-! the reference's walk, its three like ends as one -/
def wTail (q5 q8 a0 : Int32) (σ17 : Mm) : Option (Int32 × Mm) := if q8 = 15 then (bnd (f_X10_lostOf a0 σ17) fun q19 => bnd (f_X10_pays a0 q19 σ17) fun q20 => gd q5 86 (gd q5 86 (lt (up σ17 199 q5.toNatClampNeg ((σ17 199 q5.toNatClampNeg) + q20)) fun σ21 => gd (q5 + 4) 86 (if (σ21 199 (q5 + 4).toNatClampNeg) = (-1) then (gd (q5 + 7) 86 (lt (up σ21 199 (q5 + 7).toNatClampNeg 1) fun σ23 => gd (q5 + 4) 86 (lt (up σ23 199 (q5 + 4).toNatClampNeg (-1)) fun σ24 => gd (q5 + 5) 86 (lt (up σ24 199 (q5 + 5).toNatClampNeg 0) fun σ25 => gd (q5 + 6) 86 (lt (up σ25 199 (q5 + 6).toNatClampNeg 0) fun σ26 => some (q8, σ26)))))) else (gd (q5 + 4) 86 (bnd (f_X10_gardenerAt (σ21 199 (q5 + 4).toNatClampNeg) σ21) fun q27 => gd q27 86 (gd q27 86 (lt (up σ21 199 q27.toNatClampNeg ((σ21 199 q27.toNatClampNeg) - q20)) fun σ28 => gd (q5 + 4) 86 (bnd (f_X10_gardenerAt (σ28 199 (q5 + 4).toNatClampNeg) σ28) fun q29 => gd (q29 + 2) 86 (gd (q29 + 2) 86 (lt (up σ28 199 (q29 + 2).toNatClampNeg ((σ28 199 (q29 + 2).toNatClampNeg) + q20)) fun σ30 => gd (q5 + 7) 86 (lt (up σ30 199 (q5 + 7).toNatClampNeg 1) fun σ31 => gd (q5 + 4) 86 (lt (up σ31 199 (q5 + 4).toNatClampNeg (-1)) fun σ32 => gd (q5 + 5) 86 (lt (up σ32 199 (q5 + 5).toNatClampNeg 0) fun σ33 => gd (q5 + 6) 86 (lt (up σ33 199 (q5 + 6).toNatClampNeg 0) fun σ34 => some (q8, σ34)))))))))))))))) else (some (q8, σ17))
def walk2 (a0 a1 : Int32) (σ : Mm) : Option (Int32 × Mm) := bnd (f_X10_isVisitor a0 σ) fun q1 => if q1 = 0 then (bnm (f_X10_refuse 7 (σ 199 1) σ) fun q81 σ82 => some (q81, σ82)) else (bnd (f_X10_in a1.toInt64 0 3 σ) fun q3 => if q3 = 0 then (bnm (f_X10_refuse 1 0 σ) fun q79 σ80 => some (q79, σ80)) else (bnd (f_X10_visitorAt a0 σ) fun q5 => gd (q5 + 7) 86 (if (σ 199 (q5 + 7).toNatClampNeg) = 1 then (gd (q5 + 2) 86 (bnm (f_X10_refuse 9 (σ 199 (q5 + 2).toNatClampNeg) σ) fun q77 σ78 => some (q77, σ78))) else (gd (q5 + 1) 86 (lt (σ 199 (q5 + 1).toNatClampNeg) fun x7 => bnd (f_X10_nextTo x7 a1 σ) fun q8 => if q8 = (-1) then (bnm (f_X10_refuse 11 x7 σ) fun q75 σ76 => some (q75, σ76)) else (bnd (f_X10_hedgeAt x7 q8 σ) fun q10 => bnd (f_X10_isGapAt q10 σ) fun q11 => if q11 = 0 then (bnd (f_X10_hedgeAt x7 q8 σ) fun q72 => gd q72 86 (bnm (f_X10_refuse 12 (σ 199 q72.toNatClampNeg) σ) fun q73 σ74 => some (q73, σ74))) else (gd (q5 + 1) 86 (lt (up σ 199 (q5 + 1).toNatClampNeg q8) fun σ13 => gd (q5 + 2) 86 (gd (q5 + 2) 86 (lt (up σ13 199 (q5 + 2).toNatClampNeg ((σ13 199 (q5 + 2).toNatClampNeg) + 1)) fun σ14 => bnd (f_X10_meets a0 σ14) fun q15 => if q15 = 0 then (gd (q5 + 6) 86 (gd (q5 + 6) 86 (lt (up σ14 199 (q5 + 6).toNatClampNeg (σ14 199 (q5 + 6).toNatClampNeg)) fun σ17 => wTail q5 q8 a0 σ17))) else (gd (q5 + 5) 86 (if (σ14 199 (q5 + 5).toNatClampNeg) ≤ 0 then (gd (q5 + 6) 86 (gd (q5 + 6) 86 (lt (up σ14 199 (q5 + 6).toNatClampNeg (σ14 199 (q5 + 6).toNatClampNeg)) fun σ36 => wTail q5 q8 a0 σ36))) else (gd (q5 + 6) 86 (lt (up σ14 199 (q5 + 6).toNatClampNeg 1) fun σ54 => wTail q5 q8 a0 σ54))))))))))))))
theorem walk_eq (a0 a1 : Int32) (σ : Mm) : f_X10_walkIt a0 a1 σ = walk2 a0 a1 σ := rfl
end
section
/-! WALKS -/
theorem I_sub_neg {a b : Nat} (h : a < b) (hb : b < 2147483648) : ¬ (0 : Int32) < I a - I b := by
  rw [Int32.lt_iff_toInt_lt, Int32.toInt_sub, I_toInt (by omega), I_toInt hb]
  show ¬ (0 : Int) < Int.bmod ((a : Int) - b) 4294967296
  rw [Int.bmod_def]
  split <;> omega
theorem I_pos {a : Nat} (ha : a < 2147483648) : (0 : Int32) < I a ↔ 0 < a := I_lt (a := 0) (by omega) ha
def lostV (v : Nat) (f : Fm) : Int32 := if 0 < f (46 + 8 * v + 2) - f (46 + 8 * v + 3) then f (46 + 8 * v + 2) - f (46 + 8 * v + 3) else 0
def payV (v : Nat) (f : Fm) : Int32 := if f (46 + 8 * v + 4) = -1 then 0 else if f (46 + 8 * v + 6) = 1 then 0 else if f (30 + 4 * (f (46 + 8 * v + 4)).toNatClampNeg) < f (46 + 8 * v + 5) * lostV v f then f (30 + 4 * (f (46 + 8 * v + 4)).toNatClampNeg) else f (46 + 8 * v + 5) * lostV v f
def leaveV (v : Nat) (f : Fm) : Fm :=
  upd (upd (upd (upd (if f (46 + 8 * v + 4) = -1 then upd f (46 + 8 * v) (f (46 + 8 * v) + payV v f) else upd (upd (upd f (46 + 8 * v) (f (46 + 8 * v) + payV v f)) (30 + 4 * (f (46 + 8 * v + 4)).toNatClampNeg) (f (30 + 4 * (f (46 + 8 * v + 4)).toNatClampNeg) - payV v f)) (30 + 4 * (f (46 + 8 * v + 4)).toNatClampNeg + 2) (f (30 + 4 * (f (46 + 8 * v + 4)).toNatClampNeg + 2) + payV v f)) (46 + 8 * v + 7) 1) (46 + 8 * v + 4) (-1)) (46 + 8 * v + 5) 0) (46 + 8 * v + 6) 0
theorem n_lost {σ : Mm} {v : Nat} (hv : v < 5) : f_X10_lostOf (I v) σ = some (lostV v (σ 199)) := by
  unfold f_X10_lostOf lostV
  rw [n_vAt, bnd_d]
  simp only [I_a2, I_a3, gd_I (show 46 + 8 * v + 2 < 86 by omega) (show 86 < 2147483648 by omega), gd_I (show 46 + 8 * v + 3 < 86 by omega) (show 86 < 2147483648 by omega), I_clamp (show 46 + 8 * v + 2 < 2147483648 by omega), I_clamp (show 46 + 8 * v + 3 < 2147483648 by omega)]
theorem lost_I {B n : Nat} {f : Fm} {v : Nat} (h : okV B n f v) (hB : B ≤ 1000000) : ∃ l, l ≤ B ∧ lostV v f = I l := by
  obtain ⟨-, ⟨x, x1, x2⟩, ⟨a, a1, a2⟩, -⟩ := h
  unfold lostV
  rw [x2, a2]
  by_cases q : a ≤ x
  · rw [I_sub q]
    by_cases w : (0 : Int32) < I (x - a)
    · rw [if_pos w]; exact ⟨x - a, by omega, rfl⟩
    · rw [if_neg w]; exact ⟨0, by omega, rfl⟩
  · rw [if_neg (I_sub_neg (by omega) (by omega))]
    exact ⟨0, by omega, rfl⟩
theorem n_pays {σ : Mm} {B n v : Nat} (hn : n ≤ 4) (hv : v < 5) (h : okV B n (σ 199) v) : f_X10_pays (I v) (lostV v (σ 199)) σ = some (payV v (σ 199)) := by
  unfold f_X10_pays payV
  rw [n_vAt, bnd_d]
  simp only [I_a4, I_a5, I_a6, gd_I (show 46 + 8 * v + 4 < 86 by omega) (show 86 < 2147483648 by omega), gd_I (show 46 + 8 * v + 5 < 86 by omega) (show 86 < 2147483648 by omega), gd_I (show 46 + 8 * v + 6 < 86 by omega) (show 86 < 2147483648 by omega), I_clamp (show 46 + 8 * v + 4 < 2147483648 by omega), I_clamp (show 46 + 8 * v + 5 < 2147483648 by omega), I_clamp (show 46 + 8 * v + 6 < 2147483648 by omega)]
  rcases h.2.2.2 with ⟨a, -⟩ | ⟨⟨g, g1, g2⟩, -⟩
  · rw [if_pos a, if_pos a]
  · have ne : ¬ σ 199 (46 + 8 * v + 4) = -1 := by rw [g2]; exact nm1 (by omega)
    rw [if_neg ne, if_neg ne]
    by_cases w : σ 199 (46 + 8 * v + 6) = 1
    · rw [if_pos w, if_pos w]
    · rw [if_neg w, if_neg w, g2, n_gAt, bnd_d, gd_I (by omega) (by omega), I_clamp (by omega), I_clamp (by omega)]
theorem r_leave {σ : Mm} {B n v : Nat} (hn : n ≤ 4) (hv : v < 5) (h : okV B n (σ 199) v) : ∃ τ, wTail (I (46 + 8 * v)) 15 (I v) σ = some (15, τ) ∧ τ 199 = leaveV v (σ 199) ∧ ∀ i, i ≠ 199 → τ i = σ i := by
  unfold wTail
  rw [if_pos rfl, n_lost hv, bnd_d, n_pays hn hv h, bnd_d]
  simp only [I_a4, I_a5, I_a6, I_a7, gd_I (show 46 + 8 * v < 86 by omega) (show 86 < 2147483648 by omega), gd_I (show 46 + 8 * v + 4 < 86 by omega) (show 86 < 2147483648 by omega), gd_I (show 46 + 8 * v + 5 < 86 by omega) (show 86 < 2147483648 by omega), gd_I (show 46 + 8 * v + 6 < 86 by omega) (show 86 < 2147483648 by omega), gd_I (show 46 + 8 * v + 7 < 86 by omega) (show 86 < 2147483648 by omega), I_clamp (show 46 + 8 * v < 2147483648 by omega), I_clamp (show 46 + 8 * v + 4 < 2147483648 by omega), I_clamp (show 46 + 8 * v + 5 < 2147483648 by omega), I_clamp (show 46 + 8 * v + 6 < 2147483648 by omega), I_clamp (show 46 + 8 * v + 7 < 2147483648 by omega), lt_d, up_e, upd_n _ _ (show 46 + 8 * v + 4 ≠ 46 + 8 * v by omega)]
  unfold leaveV
  rcases h.2.2.2 with ⟨a, -⟩ | ⟨⟨g, g1, g2⟩, -⟩
  · rw [if_pos a, if_pos a]
    exact ⟨_, rfl, by simp only [up_e], fun i hi => by simp only [up_n _ _ _ hi]⟩
  · have ne : ¬ σ 199 (46 + 8 * v + 4) = -1 := by rw [g2]; exact nm1 (by omega)
    rw [if_neg ne, if_neg ne, g2]
    obtain ⟨p, hp⟩ : ∃ p, p = payV v (σ 199) := ⟨_, rfl⟩
    rw [← hp]
    simp only [n_gAt, bnd_d, gd_I (show 30 + 4 * g < 86 by omega) (show 86 < 2147483648 by omega), I_clamp (show 30 + 4 * g < 2147483648 by omega), upd_n _ _ (show 46 + 8 * v + 4 ≠ 30 + 4 * g by omega), upd_n _ _ (show 46 + 8 * v + 4 ≠ 46 + 8 * v by omega), g2, I_a2, gd_I (show 30 + 4 * g + 2 < 86 by omega) (show 86 < 2147483648 by omega), I_clamp (show 30 + 4 * g + 2 < 2147483648 by omega), I_clamp (show g < 2147483648 by omega), upd_n _ _ (show 30 + 4 * g ≠ 46 + 8 * v by omega), upd_n _ _ (show 30 + 4 * g + 2 ≠ 46 + 8 * v by omega), upd_n _ _ (show 30 + 4 * g + 2 ≠ 30 + 4 * g by omega)]
    exact ⟨_, rfl, by simp only [up_e], fun i hi => by simp only [up_n _ _ _ hi]⟩
/-- what is paid is there -/
theorem pay_I {B n v : Nat} {f : Fm} {c : Nat → Nat} (hB : B ≤ 1000000) (hn : n ≤ 4) (h : okV B n f v) (mo1 : ∀ g, g < 4 → f (30 + 4 * g) = I (c g)) (hc : S4 c ≤ 1000000) : ∃ p, payV v f = I p ∧ ((f (46 + 8 * v + 4) = -1 ∧ p = 0) ∨ ∃ g, g < n ∧ f (46 + 8 * v + 4) = I g ∧ p ≤ c g) := by
  obtain ⟨l, l1, l2⟩ := lost_I h hB
  unfold payV
  rcases h.2.2.2 with ⟨a, -⟩ | ⟨⟨g, g1, g2⟩, ⟨r, r1, r2, r3⟩, -⟩
  · rw [if_pos a]; exact ⟨0, rfl, Or.inl ⟨a, rfl⟩⟩
  · have ne : ¬ f (46 + 8 * v + 4) = -1 := by rw [g2]; exact nm1 (by omega)
    have hg := S4_le (c := c) (g := g) (by omega)
    rw [if_neg ne]
    by_cases w : f (46 + 8 * v + 6) = 1
    · rw [if_pos w]; exact ⟨0, rfl, Or.inr ⟨g, g1, g2, by omega⟩⟩
    · rw [if_neg w, l2, r3, g2, I_clamp (by omega), mo1 g (by omega), I_mul]
      have hm : r * l ≤ 5 * 1000000 := Nat.mul_le_mul r2 (Nat.le_trans l1 hB)
      by_cases z : I (c g) < I (r * l)
      · rw [if_pos z]; exact ⟨c g, rfl, Or.inr ⟨g, g1, rfl, Nat.le_refl _⟩⟩
      · rw [if_neg z]
        refine ⟨r * l, rfl, Or.inr ⟨g, g1, rfl, ?_⟩⟩
        exact Nat.not_lt.mp fun y => z ((I_lt (by omega) (by omega)).mpr y)
theorem m_due {σ : Mm} {f : Fm} {v : Nat} (h : rep 0 σ f) (hv : v < 5) (hf : ¬ f 1 ≤ I v) : f_X7_dueAfter (9 + v) 0 σ = some (if f (46 + 8 * v + 6) = 0 then f (46 + 8 * v + 5) * lostV v f else 0) := by
  unfold f_X7_dueAfter f_X7_lostAfter lostV
  rw [h.getV hv (by omega) hf, h.getV hv (by omega) hf, h.getV hv (by omega) hf, h.getV hv (by omega) hf, Int32.add_zero]
  by_cases q : f (46 + 8 * v + 6) = 0
  · rw [if_pos q, if_pos q]; rfl
  · rw [if_neg q, if_neg q]
theorem c_leave {σ : Mm} {f : Fm} {B n m v : Nat} (hB : B ≤ 1000000) (h : rep 0 σ f) (ho : okC B n m f) (hv : v < m) : ∃ τ, f_X3_leaveMaze (9 + v) σ = some τ ∧ rep 0 τ (leaveV v f) ∧ ∀ i, 14 ≤ i → τ i = σ i := by
  obtain ⟨⟨a1, a2⟩, ⟨b1, b2⟩, hc, hd, hvv, mi, le, c, d, mo1, mo2, mo3⟩ := ho
  have hf := hfI b2 b1 hv
  have hV := fun k hk => h.getV (v := v) (k := k) (by omega) hk hf
  have hS : S4 c ≤ 1000000 := by omega
  obtain ⟨p, p1, p2⟩ := pay_I hB a1 (hvv v hv) mo1 hS
  unfold f_X3_leaveMaze
  rw [hV 4 (by omega), m_findG h a1 a2, bnd_d]
  rcases p2 with ⟨q1, rfl⟩ | ⟨g, g1, g2, g3⟩
  · have e : ix (f (46 + 8 * v + 4)) n = none := by
      rw [q1]
      rcases ix_cases (-1) (N := n) (by omega) with ⟨j, j1, j2, -⟩ | ⟨-, j3⟩
      · exact absurd j2.symm (nm1 (by omega))
      · exact j3
    rw [e]
    dsimp only
    rw [oc_d]
    unfold f_X7_endBond
    simp only [lt_d, bnd_d]
    have r1 := h.vis (v := v) (k := 4) (by omega) (by omega) hf (-1)
    have r2 := r1.vis (v := v) (k := 5) (by omega) (by omega) (by rw [upd_n _ _ (by omega)]; exact hf) 0
    have r3 := r2.vis (v := v) (k := 6) (by omega) (by omega) (by rw [upd_n _ _ (by omega), upd_n _ _ (by omega)]; exact hf) 0
    have r4 := r3.vis (v := v) (k := 7) (by omega) (by omega) (by rw [upd_n _ _ (by omega), upd_n _ _ (by omega), upd_n _ _ (by omega)]; exact hf) 1
    refine ⟨_, rfl, rep.ext r4 (fun k hk => ?_), fun i hi => by simp (disch := omega) only [up_n]⟩
    unfold leaveV
    rw [if_pos q1, p1, show I 0 = (0 : Int32) from rfl, Int32.add_zero]
    simp only [upd]
    (repeat' split) <;> first | rfl | omega | (subst_vars; rfl)
  · have e : ix (f (46 + 8 * v + 4)) n = some g := by rw [g2]; exact ix_I g1 (by omega)
    rw [e]
    dsimp only
    rw [oc_e, m_due h (by omega) hf, bnd_d, lt_d]
    have hG0 : σ (4 + g) 0 = f (30 + 4 * g) := h.getG (k := 0) (by omega) (by omega)
    have hG2 : σ (4 + g) 2 = f (30 + 4 * g + 2) := h.getG (by omega) (by omega)
    have hV0 : σ (9 + v) 0 = f (46 + 8 * v) := hV 0 (by omega)
    have ep : (if σ (4 + g) 0 < (if f (46 + 8 * v + 6) = 0 then f (46 + 8 * v + 5) * lostV v f else 0) then σ (4 + g) 0 else (if f (46 + 8 * v + 6) = 0 then f (46 + 8 * v + 5) * lostV v f else 0)) = I p := by
      rw [hG0, ← p1]
      unfold payV
      rw [if_neg (show ¬ f (46 + 8 * v + 4) = -1 by rw [g2]; exact nm1 (by omega)), g2, I_clamp (by omega)]
      have hz : f (46 + 8 * v + 6) = 0 ∨ f (46 + 8 * v + 6) = 1 := by
        rcases (hvv v hv).2.2.2 with ⟨-, -, z, -⟩ | ⟨-, -, z, -⟩
        · exact Or.inl z
        · exact z
      rcases hz with hz | hz
      · rw [if_pos hz, if_neg (show ¬ f (46 + 8 * v + 6) = 1 by rw [hz]; decide)]
      · have hneg : ¬ f (30 + 4 * g) < 0 := by
          rw [mo1 g (by omega)]
          exact I_n0 (by have := S4_le (c := c) (g := g) (by omega); omega)
        rw [if_neg (show ¬ f (46 + 8 * v + 6) = 0 by rw [hz]; decide), if_pos hz, if_neg hneg]
    rw [ep, lt_d, lt_d, lt_d]
    unfold f_X7_endBond
    simp only [lt_d, bnd_d]
    have r1 := h.gard (g := g) (k := 0) (by omega) (by omega) (f (30 + 4 * g) - I p)
    have r2 := r1.gard (g := g) (k := 2) (by omega) (by omega) (f (30 + 4 * g + 2) + I p)
    have r3 := r2.vis (v := v) (k := 0) (by omega) (by omega) (by simp (disch := omega) only [upd_n]; exact hf) (f (46 + 8 * v) + I p)
    have r4 := r3.vis (v := v) (k := 4) (by omega) (by omega) (by simp (disch := omega) only [upd_n]; exact hf) (-1)
    have r5 := r4.vis (v := v) (k := 5) (by omega) (by omega) (by simp (disch := omega) only [upd_n]; exact hf) 0
    have r6 := r5.vis (v := v) (k := 6) (by omega) (by omega) (by simp (disch := omega) only [upd_n]; exact hf) 0
    have r7 := r6.vis (v := v) (k := 7) (by omega) (by omega) (by simp (disch := omega) only [upd_n]; exact hf) 1
    obtain ⟨τ, hτ⟩ : ∃ τ, τ = up (up (up (up (up (up (up σ (4 + g) 0 (f (30 + 4 * g) - I p)) (4 + g) 2 (f (30 + 4 * g + 2) + I p)) (9 + v) 0 (f (46 + 8 * v) + I p)) (9 + v) 4 (-1)) (9 + v) 5 0) (9 + v) 6 0) (9 + v) 7 1 := ⟨_, rfl⟩
    refine ⟨τ, ?_, ?_, fun i hi => by rw [hτ]; simp (disch := omega) only [up_n]⟩
    · rw [hτ]
      simp (disch := omega) only [up_e, up_n, upd_e, upd_n, hG0, hG2, hV0]
    · rw [hτ]
      refine rep.ext r7 (fun k hk => ?_)
      unfold leaveV
      rw [if_neg (show ¬ f (46 + 8 * v + 4) = -1 by rw [g2]; exact nm1 (by omega)), g2, I_clamp (by omega), p1]
      simp only [upd]
      (repeat' split) <;> first | rfl | omega | (subst_vars; rfl)
theorem ok_leave {f : Fm} {B n m v : Nat} (hB : B ≤ 1000000) (ho : okC B n m f) (hv : v < m) : okC B n m (leaveV v f) := by
  have ho' := ho
  obtain ⟨⟨a1, a2⟩, ⟨b1, b2⟩, hc, hd, hvv, mi, le, c, d, mo1, mo2, mo3⟩ := ho
  have hS : S4 c ≤ 1000000 := by omega
  obtain ⟨p, p1, p2⟩ := pay_I hB a1 (hvv v hv) mo1 hS
  have hd0 := S5_le (c := d) (g := v) (by omega)
  unfold leaveV
  rw [p1]
  rcases p2 with ⟨q1, rfl⟩ | ⟨g, g1, g2, g3⟩
  · rw [if_pos q1, show I 0 = (0 : Int32) from rfl, Int32.add_zero]
    refine ho'.vis (Nat.le_refl _) hv (fun k hk hne => ?_) ?_
    · rw [upd_n _ _ (hne 6 (by omega) (by omega)), upd_n _ _ (hne 5 (by omega) (by omega)), upd_n _ _ (hne 4 (by omega) (by omega)), upd_n _ _ (hne 7 (by omega) (by omega))]
      by_cases z : k = 46 + 8 * v
      · rw [z, upd_e]
      · rw [upd_n _ _ z]
    · obtain ⟨z1, z2, z3, -⟩ := hvv v hv
      unfold okV
      simp (disch := omega) only [upd_n, upd_e]
      refine ⟨z1, z2, z3, Or.inl ⟨?_, ?_, ?_, Or.inr ?_⟩⟩ <;> first | rfl | trivial
  · have hc0 := S4_le (c := c) (g := g) (by omega)
    rw [if_neg (show ¬ f (46 + 8 * v + 4) = -1 by rw [g2]; exact nm1 (by omega)), g2, I_clamp (by omega), mo1 g (by omega), mo2 v (by omega), I_sub g3, I_add]
    refine ⟨⟨a1, ?_⟩, ⟨b1, ?_⟩, fun i h1 h2 k2 hk2 => ?_, fun i h1 h2 k2 hk2 => ?_, fun i hi => ?_, ?_, fun i hi => ?_, ?_⟩
    · simp (disch := omega) only [upd_n]; exact a2
    · simp (disch := omega) only [upd_n]; exact b2
    · simp (disch := omega) only [upd_n]; exact hc i h1 h2 k2 hk2
    · simp (disch := omega) only [upd_n]; exact hd i h1 h2 k2 hk2
    · by_cases e2 : i = v
      · subst e2
        obtain ⟨z1, z2, z3, -⟩ := hvv i hi
        unfold okV
        simp (disch := omega) only [upd_n, upd_e]
        refine ⟨z1, z2, z3, Or.inl ⟨?_, ?_, ?_, Or.inr ?_⟩⟩ <;> first | rfl | trivial
      · refine (hvv i hi).same (fun k2 h1 h2 => ?_)
        simp (disch := omega) only [upd_n]
    · simp (disch := omega) only [upd_n]; exact mi
    · simp (disch := omega) only [upd_n]; exact le i hi
    · refine ⟨fun j => if j = g then c g - p else c j, fun j => if j = v then d v + p else d j, fun j hj => ?_, fun j hj => ?_, ?_⟩
      · by_cases e2 : j = g
        · subst e2
          simp (disch := omega) only [upd_n, upd_e]
          simp
        · simp (disch := omega) only [upd_n]
          simp [e2]; exact mo1 j hj
      · by_cases e2 : j = v
        · subst e2
          simp (disch := omega) only [upd_n, upd_e]
          simp
        · simp (disch := omega) only [upd_n]
          simp [e2]; exact mo2 j hj
      · have k1 := S4_upd (c := c) (g := g) (by omega) (c g - p)
        have k2 := S5_upd (c := d) (g := v) (by omega) (d v + p)
        omega
/-! a step -/
def stepV (v u : Nat) (f : Fm) : Fm := upd (upd (upd f (46 + 8 * v + 1) (I u)) (46 + 8 * v + 2) (f (46 + 8 * v + 2) + 1)) (46 + 8 * v + 6) (if I u = f 2 ∧ ¬ f (46 + 8 * v + 5) ≤ 0 then 1 else f (46 + 8 * v + 6))
def S_walk (x t : Int32) (f : Fm) : Rs := match ix x (f 1).toNatClampNeg with
  | none => no 7 (f 1)
  | some v => match ix t 4 with
    | none => no 1 0
    | some d => if f (46 + 8 * v + 7) = 0 then (match nxN (f (46 + 8 * v + 1)).toNatClampNeg d with
        | none => no 11 (f (46 + 8 * v + 1))
        | some u => match hN (f (46 + 8 * v + 1)).toNatClampNeg u with
          | none => no 0 0
          | some h => if 5 ≤ f (6 + h) then no 12 (f (6 + h)) else yes (I u) (if u = 15 then leaveV v (stepV v u f) else stepV v u f)) else no 9 (f (46 + 8 * v + 2))
theorem m_towards {σ : Mm} {u d : Nat} (hu : u < 16) (hd : d < 4) : f_X4_cellTowards (I u) (I d) σ = some (oI (nxN u d)) := by
  rw [show f_X4_cellTowards (I u) (I d) σ = f_X4_cellTowards (I u) (I d) (fun _ _ => 0) from rfl]
  exact (by decide +kernel : ∀ u, u < 16 → ∀ d, d < 4 → f_X4_cellTowards (I u) (I d) (fun _ _ => 0) = some (oI (nxN u d))) u hu d hd
theorem okV.bond {B n : Nat} {f : Fm} {v : Nat} (h : okV B n f v) (hn : n ≤ 4) : (f (46 + 8 * v + 4) = -1 ∧ f (46 + 8 * v + 5) ≤ 0 ∧ f (46 + 8 * v + 6) = 0) ∨ (¬ f (46 + 8 * v + 4) = -1 ∧ ¬ f (46 + 8 * v + 5) ≤ 0) := by
  rcases h.2.2.2 with ⟨a, b, c, -⟩ | ⟨⟨g, g1, g2⟩, ⟨r, r1, r2, r3⟩, -⟩
  · exact Or.inl ⟨a, by rw [b]; decide, c⟩
  · refine Or.inr ⟨by rw [g2]; exact nm1 (by omega), ?_⟩
    rw [r3]
    exact Int32.not_le.mpr ((I_pos (by omega)).mpr (by omega))
theorem ok_step {B n m v u : Nat} {f : Fm} (ho : okC B n m f) (hv : v < m) (hu : u < 16) (h7 : f (46 + 8 * v + 7) = 0) : okC (B + 9) n m (stepV v u f) := by
  have a1 := ho.1.1
  obtain ⟨z1, ⟨h, h1, h2⟩, z3, z4⟩ := ho.2.2.2.2.1 v hv
  have hb := (ho.2.2.2.2.1 v hv).bond a1
  unfold stepV
  refine ho.vis (by omega) hv (fun k hk hne => ?_) ?_
  · rw [upd_n _ _ (hne 6 (by omega) (by omega)), upd_n _ _ (hne 2 (by omega) (by omega)), upd_n _ _ (hne 1 (by omega) (by omega))]
  · unfold okV
    simp (disch := omega) only [upd_n, upd_e]
    refine ⟨⟨u, hu, rfl⟩, ⟨h + 1, by omega, by rw [h2, I_a1]⟩, z3, ?_⟩
    rcases z4 with ⟨q1, q2, q3, q4⟩ | ⟨q1, q2, q3, q4⟩
    · refine Or.inl ⟨q1, q2, ?_, q4⟩
      rw [if_neg (fun z => z.2 (by rw [q2]; decide))]; exact q3
    · refine Or.inr ⟨q1, q2, ?_, q4⟩
      split
      · exact Or.inr rfl
      · exact q3
theorem c_meet {σ : Mm} {f : Fm} {v : Nat} (h : rep 0 σ f) (hv : v < 5) (hf : ¬ f 1 ≤ I v) : ∃ τ, f_X3_meetIfThere (9 + v) σ = some τ ∧ rep 0 τ (upd f (46 + 8 * v + 6) (if f (46 + 8 * v + 7) = 0 ∧ f (46 + 8 * v + 1) = f 2 then (if f (46 + 8 * v + 4) = -1 then 0 else 1) else f (46 + 8 * v + 6))) ∧ ∀ i, i ≠ 9 + v → τ i = σ i := by
  unfold f_X3_meetIfThere
  rw [show σ 0 5 = f 2 from h.get0 (k := 2) (by omega), m_isIn h hv hf, bnd_d]
  by_cases q : f (46 + 8 * v + 7) = 0 ∧ f (46 + 8 * v + 1) = f 2
  · rw [if_pos q, if_pos q, if_neg one_ne]
    unfold f_X7_meetMinotaur f_X7_hasBond
    rw [h.getV hv (by omega) hf]
    by_cases w : f (46 + 8 * v + 4) = -1
    · rw [if_pos w, if_pos w, bnd_d, bz_i0, lt_d, bnd_d]
      exact ⟨_, rfl, h.vis hv (by omega) hf 0, fun i hi => up_n _ _ _ hi⟩
    · rw [if_neg w, if_neg w, bnd_d, bz_i1, lt_d, bnd_d]
      exact ⟨_, rfl, h.vis hv (by omega) hf 1, fun i hi => up_n _ _ _ hi⟩
  · rw [if_neg q, if_neg q, if_pos rfl]
    refine ⟨σ, rfl, rep.ext h (fun k hk => ?_), fun i hi => rfl⟩
    by_cases e : k = 46 + 8 * v + 6
    · rw [e, upd_e]
    · rw [upd_n _ _ e]
theorem c_walk {σ : Mm} {f : Fm} {B : Nat} (hB : B + 9 ≤ 1000000) (x t : Int32) (h : rep 0 σ f) (ho : ok B f) : cOk σ (f_X3_moveVisitor x t σ) (S_walk x t f) := by
  obtain ⟨n, m, hok⟩ := ho
  obtain ⟨⟨a1, a2⟩, ⟨b1, b2⟩, hc, hd, hv, mi, le, mo⟩ := id hok
  unfold f_X3_moveVisitor S_walk
  rw [m_findV h b1 b2, bnd_d, f0c b2 b1 (by omega)]
  cases e0 : ix x m with
  | none =>
    dsimp only
    rw [oc_d, show σ 0 4 = f 1 from h.get0 (k := 1) (by omega)]
    exact c_refuse 7 _ (fun _ _ _ => rfl)
  | some v =>
    obtain ⟨v1, rfl⟩ := ix_lt (by omega) e0
    have hf := hfI b2 b1 v1
    have hV := fun k hk => h.getV (v := v) (k := k) (by omega) hk hf
    dsimp only
    rw [oc_e]
    rcases ix_cases t (N := 4) (by omega) with ⟨d, d1, rfl, d3⟩ | ⟨d1, d3⟩
    · rw [d3, if_neg (I_n0 (by omega)), if_pos (show I d ≤ 3 from (I_le (b := 3) (by omega) (by omega)).mpr (by omega)), hV 7 (by omega)]
      dsimp only
      by_cases q3 : f (46 + 8 * v + 7) = 0
      · rw [if_pos q3, if_pos q3, hV 1 (by omega)]
        obtain ⟨⟨ce, ce1, ce2⟩, -⟩ := hv v v1
        rw [ce2, I_clamp (by omega), m_towards ce1 d1, bnd_d]
        cases eu : nxN ce d with
        | none =>
          dsimp only
          rw [if_pos (show oI none = -1 from rfl)]
          exact c_refuse 11 _ (fun _ _ _ => rfl)
        | some u =>
          obtain ⟨hu, g, hg, eg⟩ := nx_lt ce1 d1 eu
          dsimp only
          rw [hg]
          dsimp only
          rw [show oI (some u) = I u from rfl, if_neg (nm1 (by omega)), m_between ce1 hu, hg, bnd_d, show oI (some g) = I g from rfl, m_open eg.1, bnd_d, h.getL eg.1]
          by_cases q5 : (5 : Int32) ≤ f (6 + g)
          · rw [if_pos q5, if_pos rfl, if_pos q5, m_leaves eg.1, bnd_d, h.getL eg.1]
            exact c_refuse 12 _ (fun _ _ _ => rfl)
          · rw [if_neg q5, if_neg one_ne, if_neg q5, lt_d, lt_d, up_e, upd_n _ _ (by decide), hV 2 (by omega)]
            have r1 := h.vis (v := v) (k := 1) (by omega) (by omega) hf (I u)
            have hf1 : ¬ (upd f (46 + 8 * v + 1) (I u)) 1 ≤ I v := by rw [upd_n _ _ (by omega)]; exact hf
            have r2 := r1.vis (v := v) (k := 2) (by omega) (by omega) hf1 (f (46 + 8 * v + 2) + 1)
            have hf2 : ¬ (upd (upd f (46 + 8 * v + 1) (I u)) (46 + 8 * v + 2) (f (46 + 8 * v + 2) + 1)) 1 ≤ I v := by rw [upd_n _ _ (by omega)]; exact hf1
            obtain ⟨τ, t1, t2, t3⟩ := c_meet r2 (by omega) hf2
            have r3 : rep 0 τ (stepV v u f) := by
              refine rep.ext t2 (fun k hk => ?_)
              unfold stepV
              by_cases e : k = 46 + 8 * v + 6
              · rw [e, upd_e, upd_e]
                simp (disch := omega) only [upd_n, upd_e]
                rcases (hv v v1).bond a1 with ⟨w1, w2, w3⟩ | ⟨w1, w2⟩
                · rw [if_pos w1, if_neg (show ¬ (I u = f 2 ∧ ¬ f (46 + 8 * v + 5) ≤ 0) from fun z => z.2 w2), w3]
                  split <;> rfl
                · rw [if_neg w1]
                  by_cases w : I u = f 2
                  · have w9 : f (46 + 8 * v + 7) = 0 ∧ I u = f 2 := ⟨q3, w⟩
                    have w8 : I u = f 2 ∧ ¬ f (46 + 8 * v + 5) ≤ 0 := ⟨w, w2⟩
                    rw [if_pos w9, if_pos w8]
                  · rw [if_neg (fun z => w z.2), if_neg (fun z => w z.1)]
              · rw [upd_n _ _ e, upd_n _ _ e]
            rw [t1, bnd_d]
            have same : ∀ i, 14 ≤ i → τ i = σ i := fun i hi => by rw [t3 i (by omega)]; simp (disch := omega) only [up_n]
            by_cases q6 : u = 15
            · subst q6
              rw [if_pos (show I 15 = 15 from rfl), if_pos rfl]
              obtain ⟨τ2, s1, s2, s3⟩ := c_leave hB r3 (ok_step hok v1 hu q3) v1
              rw [s1, bnd_d]
              exact ⟨τ2, rfl, nm1 (by omega), s2, fun i hi _ _ => by rw [s3 i hi, same i hi]⟩
            · rw [if_neg (show ¬ I u = 15 from I_beq (b := 15) (by omega) (by omega) q6), if_neg q6]
              exact ⟨τ, rfl, nm1 (by omega), r3, fun i hi _ _ => same i hi⟩
      · rw [if_neg q3, if_neg q3, hV 2 (by omega)]; exact c_refuse 9 _ (fun _ _ _ => rfl)
    · rw [d3]
      dsimp only
      by_cases q : t < 0
      · rw [if_pos q]; exact c_refuse 1 0 (fun _ _ _ => rfl)
      · rw [if_neg q, if_neg (show ¬ t ≤ 3 from fun z => by
          have := Int32.le_trans (d1.resolve_left q) z
          exact absurd this (by decide))]
        exact c_refuse 1 0 (fun _ _ _ => rfl)
theorem r_walk {σ : Mm} {B : Nat} (hB : B + 9 ≤ 1000000) (x t : Int32) (ho : ok B (σ 199)) : rOk σ (f_X10_walkIt x t σ) (S_walk x t (σ 199)) := by
  obtain ⟨n, m, hok⟩ := ho
  obtain ⟨⟨a1, a2⟩, ⟨b1, b2⟩, hc, hd, hv, mi, le, mo⟩ := id hok
  rw [walk_eq]
  unfold walk2 S_walk
  rw [n_isV b1 b2, bnd_d, f0c b2 b1 (by omega)]
  cases e0 : ix x m with
  | none => dsimp only; rw [if_pos rfl]; exact r_refuse 7 _ (fun _ _ => rfl)
  | some v =>
    obtain ⟨v1, rfl⟩ := ix_lt (by omega) e0
    dsimp only
    rw [if_neg one_ne, n_inN (by omega) (by omega) (show (3 : Int64).toInt = ((4 : Nat) : Int) - 1 by decide), bnd_d]
    cases e1 : ix t 4 with
    | none => dsimp only; rw [if_pos rfl]; exact r_refuse 1 0 (fun _ _ => rfl)
    | some d =>
      obtain ⟨d1, rfl⟩ := ix_lt (by omega) e1
      dsimp only
      rw [if_neg one_ne, n_vAt, bnd_d]
      simp only [I_a1, I_a2, I_a5, I_a6, I_a7, gd_I (show 46 + 8 * v + 1 < 86 by omega) (show 86 < 2147483648 by omega), gd_I (show 46 + 8 * v + 2 < 86 by omega) (show 86 < 2147483648 by omega), gd_I (show 46 + 8 * v + 5 < 86 by omega) (show 86 < 2147483648 by omega), gd_I (show 46 + 8 * v + 6 < 86 by omega) (show 86 < 2147483648 by omega), gd_I (show 46 + 8 * v + 7 < 86 by omega) (show 86 < 2147483648 by omega), I_clamp (show 46 + 8 * v + 1 < 2147483648 by omega), I_clamp (show 46 + 8 * v + 2 < 2147483648 by omega), I_clamp (show 46 + 8 * v + 5 < 2147483648 by omega), I_clamp (show 46 + 8 * v + 6 < 2147483648 by omega), I_clamp (show 46 + 8 * v + 7 < 2147483648 by omega), lt_d]
      rcases (hv v v1).out with w | w
      · rw [if_neg (show ¬ σ 199 (46 + 8 * v + 7) = 1 by rw [w]; decide), if_pos w]
        obtain ⟨⟨ce, ce1, ce2⟩, -⟩ := hv v v1
        rw [ce2, I_clamp (by omega), n_next ce1 d1, bnd_d]
        cases eu : nxN ce d with
        | none =>
          dsimp only
          rw [if_pos (show oI none = -1 from rfl)]
          exact r_refuse 11 _ (fun _ _ => rfl)
        | some u =>
          obtain ⟨hu, g, hg, eg⟩ := nx_lt ce1 d1 eu
          have hg24 := eg.1
          dsimp only
          rw [hg]
          dsimp only
          rw [show oI (some u) = I u from rfl, if_neg (nm1 (by omega)), n_hedge ce1 hu, hg, bnd_d, bnd_d, show o6 (some g) = I (6 + g) from rfl, n_gap hg24, bnd_d]
          by_cases q5 : (5 : Int32) ≤ σ 199 (6 + g)
          · rw [if_neg (show ¬ gapR σ g = true by unfold gapR; simp [q5]), if_pos rfl, if_pos q5, gd_I (by omega) (by omega), I_clamp (by omega)]
            exact r_refuse 12 _ (fun _ _ => rfl)
          · rw [if_pos (show gapR σ g = true by unfold gapR; simp [q5]), if_neg one_ne, if_neg q5]
            have fin : ∀ τ : Mm, τ 199 = stepV v u (σ 199) → (∀ i, i ≠ 199 → τ i = σ i) → rOk σ (wTail (I (46 + 8 * v)) (I u) (I v) τ) (yes (I u) (if u = 15 then leaveV v (stepV v u (σ 199)) else stepV v u (σ 199))) := by
              intro τ h1 h2
              by_cases q6 : u = 15
              · subst q6
                have hs := ok_step hok v1 hu w
                obtain ⟨τ2, s1, s2, s3⟩ := r_leave (σ := τ) a1 (v := v) (by omega) (by rw [h1]; exact hs.2.2.2.2.1 v v1)
                rw [if_pos rfl]
                exact ⟨τ2, s1, by rw [s2, h1], fun i hi _ => by rw [s3 i hi, h2 i hi]⟩
              · rw [if_neg q6]
                unfold wTail
                rw [if_neg (show ¬ I u = 15 from I_beq (b := 15) (by omega) (by omega) q6)]
                exact ⟨τ, rfl, h1, fun i hi _ => h2 i hi⟩
            rw [n_meets (by omega), bnd_d]
            simp only [up_e]
            simp (disch := omega) only [upd_n, upd_e]
            rcases (hv v v1).bond a1 with ⟨w1, w2, w3⟩ | ⟨w1, w2⟩
            · have z0 : ¬ (I u = σ 199 2 ∧ ¬ σ 199 (46 + 8 * v + 5) ≤ 0) := fun z => z.2 w2
              have key : ∀ τ : Mm, τ = up (up (up σ 199 (46 + 8 * v + 1) (I u)) 199 (46 + 8 * v + 2) (σ 199 (46 + 8 * v + 2) + 1)) 199 (46 + 8 * v + 6) (σ 199 (46 + 8 * v + 6)) → rOk σ (wTail (I (46 + 8 * v)) (I u) (I v) τ) (yes (I u) (if u = 15 then leaveV v (stepV v u (σ 199)) else stepV v u (σ 199))) := fun τ hτ => fin τ (by rw [hτ]; unfold stepV; rw [if_neg z0]; simp only [up_e]) (fun i hi => by rw [hτ]; simp only [up_n _ _ _ hi])
              by_cases q : σ 199 (46 + 8 * v + 7) = 0 ∧ I u = σ 199 2
              · rw [if_pos q, if_neg one_ne, if_pos w2]; exact key _ rfl
              · rw [if_neg q, if_pos rfl]; exact key _ rfl
            · by_cases q : σ 199 (46 + 8 * v + 7) = 0 ∧ I u = σ 199 2
              · rw [if_pos q, if_neg one_ne, if_neg w2]
                refine fin _ ?_ (fun i hi => by simp only [up_n _ _ _ hi])
                have z8 : I u = σ 199 2 ∧ ¬ σ 199 (46 + 8 * v + 5) ≤ 0 := ⟨q.2, w2⟩
                unfold stepV
                rw [if_pos z8]
                simp only [up_e]
              · rw [if_neg q, if_pos rfl]
                refine fin _ ?_ (fun i hi => by simp only [up_n _ _ _ hi])
                have z8 : ¬ (I u = σ 199 2 ∧ ¬ σ 199 (46 + 8 * v + 5) ≤ 0) := fun z => q ⟨w, z.1⟩
                unfold stepV
                rw [if_neg z8]
                simp only [up_e]
      · rw [if_pos w, if_neg (show ¬ σ 199 (46 + 8 * v + 7) = 0 by rw [w]; decide)]; exact r_refuse 9 _ (fun _ _ => rfl)
theorem ok_walk {B : Nat} (hB : B + 9 ≤ 1000000) {f g : Fm} {x t r : Int32} (ho : ok B f) (h : S_walk x t f = .inl (r, g)) : ok (B + 9) g := by
  obtain ⟨n, m, hok⟩ := ho
  obtain ⟨⟨a1, a2⟩, ⟨b1, b2⟩, hc, hd, hv, mi, le, mo⟩ := id hok
  unfold S_walk at h
  rw [f0c b2 b1 (by omega)] at h
  cases e0 : ix x m with
  | none => rw [e0] at h; cases h
  | some v =>
    obtain ⟨v1, rfl⟩ := ix_lt (by omega) e0
    rw [e0] at h
    dsimp only at h
    cases e1 : ix t 4 with
    | none => rw [e1] at h; cases h
    | some d =>
      obtain ⟨d1, rfl⟩ := ix_lt (by omega) e1
      rw [e1] at h
      dsimp only at h
      split at h
      case isFalse => cases h
      rename_i q3
      obtain ⟨⟨ce, ce1, ce2⟩, -⟩ := hv v v1
      rw [ce2, I_clamp (by omega)] at h
      cases eu : nxN ce d with
      | none => rw [eu] at h; cases h
      | some u =>
        obtain ⟨hu, k, hk, ek⟩ := nx_lt ce1 d1 eu
        rw [eu] at h
        dsimp only at h
        rw [hk] at h
        dsimp only at h
        split at h
        · cases h
        · cases h
          have hs := ok_step hok v1 hu q3
          split
          · exact ⟨n, m, ok_leave hB hs v1⟩
          · exact ⟨n, m, hs⟩
end
section
/-! SUMMERS, the MINOTAUR, VISITORS who come -/
def gN (f : Fm) : Nat → Nat
  | 0 => 0
  | n + 1 => gN f n + if (5 : Int32) ≤ f (6 + n) then 0 else 1
theorem gN_S (f : Fm) (n : Nat) : gN f (n + 1) = gN f n + if (5 : Int32) ≤ f (6 + n) then 0 else 1 := rfl
theorem gN_le (f : Fm) (n : Nat) : gN f n ≤ n := by
  induction n with
  | zero => exact Nat.le_refl _
  | succ n ih => rw [gN_S]; split <;> omega
theorem gN_congr {f g : Fm} {n : Nat} (h : ∀ k, k < n → f (6 + k) = g (6 + k)) : gN f n = gN g n := by
  induction n with
  | zero => rfl
  | succ n ih => rw [gN_S, gN_S, ih (fun k hk => h k (by omega)), h n (by omega)]
theorem c_gaps {σ : Mm} {f : Fm} (h : rep 0 σ f) : f_X4_gaps σ = some (I (gN f 24)) := by
  obtain ⟨g, q1, q2⟩ := loopI (fun n v g => f_X4_gaps_l4 σ n v g) (fun g => some g) 24 (fun v (g : Int32) => g = I (gN f v)) (by
      intro n g _
      rw [f_X4_gaps_l4, if_pos (show (24 : Int32) ≤ I 24 by decide)]) (by
      intro n v g hv hi
      have e1 : I v + 1 = I (v + 1) := I_add v 1
      subst hi
      refine ⟨I (gN f (v + 1)), ?_, rfl⟩
      rw [f_X4_gaps_l4, if_neg (show ¬ (24 : Int32) ≤ I v from nle (N := 24) hv (by omega)), m_open hv, bnd_d, h.getL hv]
      rw [gN_S]
      by_cases q : (5 : Int32) ≤ f (6 + v)
      · rw [if_pos q, if_pos rfl, lt_d, e1, if_pos q]; rfl
      · rw [if_neg q, if_neg one_ne, lt_d, lt_d, e1, if_neg q, I_a1]) 24 0 30 0 rfl (by omega) rfl
  unfold f_X4_gaps
  rw [← q2]; exact q1
theorem r_gaps {σ : Mm} : f_X10_gaps σ = some (I (gN (σ 199) 24)) := by
  obtain ⟨g, q1, q2⟩ := loopI (fun n v g => f_X10_gaps_l4 σ n v g) (fun g => some g) 24 (fun v (g : Int32) => g = I (gN (σ 199) v)) (by
      intro n g _
      rw [f_X10_gaps_l4, if_pos (show (24 : Int32) ≤ I 24 by decide)]) (by
      intro n v g hv hi
      have e1 : I v + 1 = I (v + 1) := I_add v 1
      subst hi
      refine ⟨I (gN (σ 199) (v + 1)), ?_, rfl⟩
      rw [f_X10_gaps_l4, if_neg (show ¬ (24 : Int32) ≤ I v from nle (N := 24) hv (by omega)), show (6 : Int32) + I v = I (6 + v) from I_add 6 v, n_gap hv, bnd_d]
      rw [gN_S]
      by_cases q : (5 : Int32) ≤ σ 199 (6 + v)
      · have hg : ¬ gapR σ v = true := by unfold gapR; simp [q]
        rw [if_neg hg, if_pos rfl, Int32.add_zero, lt_d, lt_d, e1, if_pos q]; rfl
      · have hg : gapR σ v = true := by unfold gapR; simp [q]
        rw [if_pos hg, if_neg one_ne, lt_d, lt_d, e1, if_neg q, I_a1]) 24 0 30 0 rfl (by omega) rfl
  unfold f_X10_gaps
  rw [← q2]; exact q1
def gro (x : Int32) : Int32 := if x + 1 < 9 then x + 1 else 9
def growF (f : Fm) (n : Nat) : Fm := fun k => if 6 ≤ k ∧ k < 6 + n then gro (f k) else f k
theorem growF_S (f : Fm) (n : Nat) : growF f (n + 1) = upd (growF f n) (6 + n) (gro (f (6 + n))) := by
  funext k
  unfold growF upd
  by_cases e : k = 6 + n
  · subst e; rw [if_pos (by omega), if_pos rfl]
  · rw [if_neg e]
    dsimp only
    by_cases w : 6 ≤ k ∧ k < 6 + n
    · rw [if_pos w, if_pos (by omega)]
    · rw [if_neg w, if_neg (by omega)]
theorem growF_at (f : Fm) (n : Nat) : growF f n (6 + n) = f (6 + n) := by unfold growF; rw [if_neg (by omega)]
theorem c_grow {σ : Mm} {f : Fm} (h : rep 0 σ f) : ∃ τ, f_X4_grow σ = some τ ∧ rep 0 τ (growF f 24) ∧ ∀ i, i ≠ 2 → τ i = σ i := by
  obtain ⟨g, q1, q2, q3⟩ := loopI (fun n v g => f_X4_grow_l2 n v g) (fun g => some g) 24 (fun v (g : Mm) => rep 0 g (growF f v) ∧ ∀ i, i ≠ 2 → g i = σ i) (by
      intro n g _
      rw [f_X4_grow_l2, if_pos (show (24 : Int32) ≤ I 24 by decide)]) (by
      intro n v g hv hi
      have e1 : I v + 1 = I (v + 1) := I_add v 1
      refine ⟨up g 2 v (gro (f (6 + v))), ?_, ?_, fun i hi2 => by rw [up_n _ _ _ hi2]; exact hi.2 i hi2⟩
      · rw [f_X4_grow_l2, if_neg (show ¬ (24 : Int32) ≤ I v from nle (N := 24) hv (by omega)), gd_I hv (by omega), gd_I hv (by omega), I_clamp (by omega), hi.1.getL hv, growF_at, lt_d, lt_d, e1]; rfl
      · rw [growF_S]; exact hi.1.leaf hv _) 24 0 30 σ rfl (by omega) ⟨rep.ext h (fun k hk => by unfold growF; rw [if_neg (by omega)]), fun _ _ => rfl⟩
  exact ⟨g, q1, q2, q3⟩
def S_summer (f : Fm) : Rs := yes (I (gN f 24) - I (gN (growF f 24) 24)) (upd (growF f 24) 3 (f 3 + 1))
theorem gro_I {l : Nat} (h : l ≤ 9) : ∃ k, k ≤ 9 ∧ gro (I l) = I k ∧ (5 ≤ l → 5 ≤ k) := by
  unfold gro
  rw [I_a1]
  by_cases q : l + 1 < 9
  · rw [if_pos (show I (l + 1) < 9 from (I_lt (b := 9) (by omega) (by omega)).mpr q)]; exact ⟨l + 1, by omega, rfl, by omega⟩
  · rw [if_neg (show ¬ I (l + 1) < 9 from fun z => q ((I_lt (b := 9) (by omega) (by omega)).mp z))]; exact ⟨9, by omega, rfl, by omega⟩
theorem gN_grow {f : Fm} (h : ∀ k, k < 24 → ∃ l, l ≤ 9 ∧ f (6 + k) = I l) (n : Nat) (hn : n ≤ 24) : gN (growF f 24) n ≤ gN f n := by
  induction n with
  | zero => exact Nat.le_refl _
  | succ n ih =>
    have := ih (by omega)
    obtain ⟨l, l1, l2⟩ := h n (by omega)
    obtain ⟨k, k1, k2, k3⟩ := gro_I l1
    have e : growF f 24 (6 + n) = I k := by unfold growF; rw [if_pos (by omega), l2, k2]
    rw [gN_S, gN_S, e, l2]
    by_cases q : 5 ≤ l
    · rw [if_pos (show (5 : Int32) ≤ I k from (I_le (a := 5) (by omega) (by omega)).mpr (k3 q)), if_pos (show (5 : Int32) ≤ I l from (I_le (a := 5) (by omega) (by omega)).mpr q)]; omega
    · rw [if_neg (show ¬ (5 : Int32) ≤ I l from fun z => q ((I_le (a := 5) (by omega) (by omega)).mp z))]
      split <;> omega
theorem c_summer {σ : Mm} {f : Fm} {B : Nat} (h : rep 0 σ f) (ho : ok B f) : cOk σ (f_X3_passSummer σ) (S_summer f) := by
  obtain ⟨n, m, ⟨a1, a2⟩, ⟨b1, b2⟩, hc, hd, hv, mi, le, mo⟩ := ho
  obtain ⟨τ, t1, t2, t3⟩ := c_grow h
  unfold f_X3_passSummer S_summer
  have h6 : τ 0 6 = f 3 := (t2.get0 (k := 3) (by omega)).trans (by unfold growF; rw [if_neg (by omega)])
  have r := t2.top (k := 3) (by omega) (by omega) (f 3 + 1)
  rw [c_gaps h, bnd_d, t1, bnd_d, h6, lt_d, c_gaps r, bnd_d]
  refine ⟨_, rfl, ?_, r, fun i hi _ _ => by rw [up_n _ _ _ (by omega), t3 i (by omega)]⟩
  rw [I_sub (gN_grow le 24 (by omega))]
  exact nm1 (by have := gN_le f 24; omega)
theorem r_summer {σ : Mm} : rOk σ (f_X10_summerIt σ) (S_summer (σ 199)) := by
  unfold f_X10_summerIt S_summer
  rw [r_gaps, bnd_d]
  obtain ⟨g, q1, q2, q3⟩ := loopI (fun n v g => f_X10_summerIt_l7 (I (gN (σ 199) 24)) n v g) (fun g => lt (up g 199 3 ((g 199 3) + 1)) fun σ8 => bnd (f_X10_gaps σ8) fun q9 => some ((I (gN (σ 199) 24) - q9), σ8)) 24 (fun v (g : Mm) => g 199 = growF (σ 199) v ∧ ∀ i, i ≠ 199 → g i = σ i) (by
      intro n g _
      rw [f_X10_summerIt_l7, if_pos (show (24 : Int32) ≤ I 24 by decide)]) (by
      intro n v g hv hi
      have e1 : I v + 1 = I (v + 1) := I_add v 1
      refine ⟨up g 199 (6 + v) (gro (σ 199 (6 + v))), ?_, ?_, fun i hi2 => by rw [up_n _ _ _ hi2]; exact hi.2 i hi2⟩
      · rw [f_X10_summerIt_l7, if_neg (show ¬ (24 : Int32) ≤ I v from nle (N := 24) hv (by omega)), show (6 : Int32) + I v = I (6 + v) from I_add 6 v, gd_I (by omega) (by omega), gd_I (by omega) (by omega), I_clamp (by omega), hi.1, growF_at, lt_d, lt_d, e1]; rfl
      · rw [up_e, hi.1, growF_S]) 24 0 30 σ rfl (by omega) ⟨by funext k; unfold growF; rw [if_neg (by omega)], fun _ _ => rfl⟩
  rw [show f_X10_summerIt_l7 (I (gN (σ 199) 24)) 30 0 σ = _ from q1, lt_d, r_gaps, bnd_d, up_e, q2]
  refine ⟨_, by rw [gN_congr (f := upd (growF (σ 199) 24) 3 _) (g := growF (σ 199) 24) (fun k _ => upd_n _ _ (by omega))], ?_, fun i hi _ => by rw [up_n _ _ _ hi, q3 i hi]⟩
  rw [up_e, q2]
  unfold growF
  rw [if_neg (by omega)]
theorem ok_summer {B : Nat} {f g : Fm} {r : Int32} (ho : ok B f) (h : S_summer f = .inl (r, g)) : ok (B + 9) g := by
  obtain ⟨n, m, ⟨a1, a2⟩, ⟨b1, b2⟩, hc, hd, hv, mi, le, mo⟩ := ho
  cases h
  have e : ∀ k, k < 86 → ¬ (6 ≤ k ∧ k < 30) → k ≠ 3 → upd (growF f 24) 3 (f 3 + 1) k = f k := fun k hk h1 h2 => by rw [upd_n _ _ h2]; unfold growF; rw [if_neg h1]
  refine ⟨n, m, ⟨a1, by rw [e 0 (by omega) (by omega) (by omega)]; exact a2⟩, ⟨b1, by rw [e 1 (by omega) (by omega) (by omega)]; exact b2⟩, fun j h1 h2 k hk => by rw [e _ (by omega) (by omega) (by omega)]; exact hc j h1 h2 k hk, fun j h1 h2 k hk => by rw [e _ (by omega) (by omega) (by omega)]; exact hd j h1 h2 k hk, fun j hj => ((hv j hj).mono (by omega) (Nat.le_refl _)).same (fun k h1 h2 => e _ (by omega) (by omega) (by omega)), by rw [e 2 (by omega) (by omega) (by omega)]; exact mi, fun j hj => ?_, mo.same (fun j hj => e _ (by omega) (by omega) (by omega)) (fun j hj => e _ (by omega) (by omega) (by omega))⟩
  obtain ⟨l, l1, l2⟩ := le j hj
  obtain ⟨k, k1, k2, -⟩ := gro_I l1
  refine ⟨k, k1, ?_⟩
  rw [upd_n _ _ (by omega)]
  unfold growF
  rw [if_pos (by omega), l2, k2]
/-! the minotaur -/
/-- who is in a cell -/
def cN (f : Fm) (c : Int32) : Nat → Nat
  | 0 => 0
  | k + 1 => cN f c k + if f (46 + 8 * k + 7) = 0 ∧ f (46 + 8 * k + 1) = c then 1 else 0
theorem cN_S (f : Fm) (c : Int32) (k : Nat) : cN f c (k + 1) = cN f c k + if f (46 + 8 * k + 7) = 0 ∧ f (46 + 8 * k + 1) = c then 1 else 0 := rfl
theorem cN_le (f : Fm) (c : Int32) (n : Nat) : cN f c n ≤ n := by
  induction n with
  | zero => exact Nat.le_refl _
  | succ n ih => rw [cN_S]; split <;> omega
theorem cN_congr {f g : Fm} {c : Int32} {n : Nat} (h : ∀ k, k < n → f (46 + 8 * k + 7) = g (46 + 8 * k + 7) ∧ f (46 + 8 * k + 1) = g (46 + 8 * k + 1)) : cN f c n = cN g c n := by
  induction n with
  | zero => rfl
  | succ n ih => rw [cN_S, cN_S, ih (fun k hk => h k (by omega)), (h n (by omega)).1, (h n (by omega)).2]
theorem c_in {σ : Mm} {f : Fm} {m : Nat} (h : rep 0 σ f) (b1 : m ≤ 5) (b2 : f 1 = I m) (c : Int32) : f_X6_visitorsIn c σ = some (I (cN f c m)) := by
  obtain ⟨g, q1, q2⟩ := loopI (fun n v g => f_X6_visitorsIn_l4 c σ n v g) (fun g => some g) m (fun v (g : Int32) => g = I (cN f c v)) (by
      intro n g _
      rw [f_X6_visitorsIn_l4, show σ 0 4 = I m from (h.get0 (k := 1) (by omega)).trans b2, if_pos ((I_le (by omega) (by omega)).mpr (Nat.le_refl _))]) (by
      intro n v g hv hi
      have e1 : I v + 1 = I (v + 1) := I_add v 1
      subst hi
      refine ⟨I (cN f c (v + 1)), ?_, rfl⟩
      rw [f_X6_visitorsIn_l4, show σ 0 4 = I m from (h.get0 (k := 1) (by omega)).trans b2, if_neg (nle hv (by omega)), gd_I (by omega) (by omega), I_clamp (by omega), show 8 + 1 + v = 9 + v by omega, m_isIn h (by omega) (hfI b2 b1 hv), bnd_d]
      rw [cN_S]
      by_cases q : f (46 + 8 * v + 7) = 0 ∧ f (46 + 8 * v + 1) = c
      · rw [if_pos q, if_neg one_ne, if_pos q, lt_d, lt_d, e1, I_a1]
      · rw [if_neg q, if_pos rfl, if_neg q, lt_d, e1]; rfl) m 0 8 0 (by omega) (by omega) rfl
  unfold f_X6_visitorsIn
  rw [← q2]; exact q1
/-- those before n meet him -/
def mF (f : Fm) : Nat → Fm
  | 0 => f
  | n + 1 => upd (mF f n) (46 + 8 * n + 6) (if (f (46 + 8 * n + 7) = 0 ∧ f (46 + 8 * n + 1) = f 2) ∧ ¬ f (46 + 8 * n + 5) ≤ 0 then 1 else f (46 + 8 * n + 6))
theorem mF_ne (f : Fm) (n k : Nat) (h : ∀ v, v < n → k ≠ 46 + 8 * v + 6) : mF f n k = f k := by
  induction n with
  | zero => rfl
  | succ n ih => unfold mF; rw [upd_n _ _ (h n (by omega)), ih (fun v hv => h v (by omega))]
theorem mF_okV {B n m : Nat} {f : Fm} (hv : ∀ v, v < m → okV B n f v) (k : Nat) (hk : k ≤ m) : ∀ v, v < m → okV B n (mF f k) v := by
  induction k with
  | zero => exact hv
  | succ k ih =>
    intro v hvm
    by_cases e : v = k
    · subst e
      obtain ⟨z1, z2, z3, z4⟩ := hv v hvm
      have g : ∀ j, 1 ≤ j → j < 8 → j ≠ 6 → mF f (v + 1) (46 + 8 * v + j) = f (46 + 8 * v + j) := fun j h1 h2 h3 => mF_ne _ _ _ (fun w hw => by omega)
      have g6 : mF f (v + 1) (46 + 8 * v + 6) = (if (f (46 + 8 * v + 7) = 0 ∧ f (46 + 8 * v + 1) = f 2) ∧ ¬ f (46 + 8 * v + 5) ≤ 0 then 1 else f (46 + 8 * v + 6)) := by unfold mF; exact upd_e _ _ _
      unfold okV
      rw [g 1 (by omega) (by omega) (by omega), g 2 (by omega) (by omega) (by omega), g 3 (by omega) (by omega) (by omega), g 4 (by omega) (by omega) (by omega), g 5 (by omega) (by omega) (by omega), g 7 (by omega) (by omega) (by omega), g6]
      refine ⟨z1, z2, z3, ?_⟩
      rcases z4 with ⟨q1, q2, q3, q4⟩ | ⟨q1, q2, q3, q4⟩
      · refine Or.inl ⟨q1, q2, ?_, q4⟩
        rw [if_neg (fun z => z.2 (by rw [q2]; decide))]; exact q3
      · refine Or.inr ⟨q1, q2, ?_, q4⟩
        split
        · exact Or.inr rfl
        · exact q3
    · refine (ih (by omega) v hvm).same (fun j h1 h2 => ?_)
      show upd (mF f k) _ _ _ = _
      rw [upd_n _ _ (by omega)]
def S_mino (c : Int32) (f : Fm) : Rs := if c = -1 ∨ ix c 16 ≠ none then (if f 2 = c then no 3 c else yes (I (cN (upd f 2 c) c (f 1).toNatClampNeg)) (mF (upd f 2 c) (f 1).toNatClampNeg)) else no 1 0
theorem c_mloop {F : Int32 → Nat → Int32 → Mm → Option (Int32 × Mm)} (a0 : Int32) (hF : ∀ n v σ, F a0 (n + 1) v σ = if (σ 0 4) ≤ v then (bnd (f_X6_visitorsIn a0 σ) fun q10 => some (q10, σ)) else (gd v 5 (bnd (f_X3_meetIfThere (8 + 1 + v.toNatClampNeg) σ) fun σ13 => lt (v + 1) fun x14 => F a0 n x14 σ13)))
    {σ : Mm} {f : Fm} {B n m : Nat} (h : rep 0 σ f) (a1 : n ≤ 4) (b1 : m ≤ 5) (b2 : f 1 = I m) (hv : ∀ v, v < m → okV B n f v) : ∃ τ, F a0 8 0 σ = some (I (cN f a0 m), τ) ∧ rep 0 τ (mF f m) ∧ ∀ i, 14 ≤ i → τ i = σ i := by
  obtain ⟨g, q1, q2, q3⟩ := loopI (fun n v g => F a0 n v g) (fun g => bnd (f_X6_visitorsIn a0 g) fun q10 => some (q10, g)) m (fun v (g : Mm) => rep 0 g (mF f v) ∧ ∀ i, 14 ≤ i → g i = σ i) (by
      intro n g hi
      rw [hF, show g 0 4 = I m from (hi.1.get0 (k := 1) (by omega)).trans (by rw [mF_ne _ _ _ (fun v _ => by omega)]; exact b2), if_pos ((I_le (by omega) (by omega)).mpr (Nat.le_refl _))]) (by
      intro n v g hv2 hi
      have e1 : I v + 1 = I (v + 1) := I_add v 1
      have f1 : mF f v 1 = I m := by rw [mF_ne _ _ _ (fun w _ => by omega)]; exact b2
      obtain ⟨τ, t1, t2, t3⟩ := c_meet hi.1 (v := v) (by omega) (hfI f1 b1 hv2)
      refine ⟨τ, ?_, ?_, fun i hi2 => by rw [t3 i (by omega)]; exact hi.2 i hi2⟩
      · rw [hF, show g 0 4 = I m from (hi.1.get0 (k := 1) (by omega)).trans f1, if_neg (nle hv2 (by omega)), gd_I (by omega) (by omega), I_clamp (by omega), show 8 + 1 + v = 9 + v by omega, t1, bnd_d, lt_d, e1]
      · refine rep.ext t2 (fun k hk => ?_)
        have z : ∀ j, j < 8 → mF f v (46 + 8 * v + j) = f (46 + 8 * v + j) := fun j hj => mF_ne _ _ _ (fun w hw => by omega)
        rw [z 7 (by omega), z 1 (by omega), z 4 (by omega), z 6 (by omega), mF_ne f v 2 (fun w _ => by omega)]
        show _ = upd (mF f v) _ _ _
        by_cases e : k = 46 + 8 * v + 6
        · rw [e, upd_e, upd_e]
          rcases (hv v hv2).bond a1 with ⟨w1, w2, w3⟩ | ⟨w1, w2⟩
          · rw [if_pos w1, if_neg (show ¬ ((f (46 + 8 * v + 7) = 0 ∧ f (46 + 8 * v + 1) = f 2) ∧ ¬ f (46 + 8 * v + 5) ≤ 0) from fun y => y.2 w2), w3]
            split <;> rfl
          · rw [if_neg w1]
            by_cases w : f (46 + 8 * v + 7) = 0 ∧ f (46 + 8 * v + 1) = f 2
            · have w8 : (f (46 + 8 * v + 7) = 0 ∧ f (46 + 8 * v + 1) = f 2) ∧ ¬ f (46 + 8 * v + 5) ≤ 0 := ⟨w, w2⟩
              rw [if_pos w, if_pos w8]
            · rw [if_neg w, if_neg (fun y => w y.1)]
        · rw [upd_n _ _ e, upd_n _ _ e]) m 0 8 σ (by omega) (by omega) ⟨h, fun _ _ => rfl⟩
  refine ⟨g, ?_, q2, q3⟩
  have f1 : mF f m 1 = I m := by rw [mF_ne _ _ _ (fun w _ => by omega)]; exact b2
  rw [show F a0 8 0 σ = _ from q1, c_in q2 b1 f1, bnd_d, cN_congr (f := mF f m) (g := f) (fun k _ => ⟨mF_ne _ _ _ (fun w hw => by omega), mF_ne _ _ _ (fun w hw => by omega)⟩)]
theorem c_mino {σ : Mm} {f : Fm} {B : Nat} (c : Int32) (h : rep 0 σ f) (ho : ok B f) : cOk σ (f_X3_placeMinotaur c σ) (S_mino c f) := by
  obtain ⟨n, m, ⟨a1, a2⟩, ⟨b1, b2⟩, hc, hd, hv, mi, le, mo⟩ := ho
  unfold f_X3_placeMinotaur S_mino
  have h5 : σ 0 5 = f 2 := h.get0 (k := 2) (by omega)
  rw [h5, f0c b2 b1 (by omega)]
  have r := h.top (k := 2) (by omega) (by omega) c
  have f1 : upd f 2 c 1 = I m := by rw [upd_n _ _ (by omega)]; exact b2
  have hv2 : ∀ v, v < m → okV B n (upd f 2 c) v := fun v hvm => (hv v hvm).same (fun k _ _ => upd_n _ _ (by omega))
  by_cases q : c = -1
  · rw [if_pos q, if_pos (Or.inl q)]
    by_cases w : f 2 = c
    · rw [if_pos w.symm, if_pos w]; exact c_refuse 3 c (fun _ _ _ => rfl)
    · rw [if_neg (fun z => w z.symm), if_neg w, lt_d]
      obtain ⟨τ, t1, t2, t3⟩ := c_mloop (F := f_X3_placeMinotaur_l53) c (fun n v σ => by rw [f_X3_placeMinotaur_l53]) r a1 b1 f1 hv2
      exact ⟨τ, t1, nm1 (by have := cN_le (upd f 2 c) c m; omega), t2, fun i hi _ _ => by rw [t3 i hi]; exact up_n _ _ _ (by omega)⟩
  · rw [if_neg q, m_cellx, bnd_d]
    cases e : ix c 16 with
    | none =>
      dsimp only
      rw [if_pos rfl, if_neg (fun z => z.elim q (fun y => y rfl))]
      exact c_refuse 1 0 (fun _ _ _ => rfl)
    | some j =>
      dsimp only
      rw [if_neg one_ne, if_pos (Or.inr (by intro z; cases z))]
      by_cases w : f 2 = c
      · rw [if_pos w.symm, if_pos w]; exact c_refuse 3 c (fun _ _ _ => rfl)
      · rw [if_neg (fun z => w z.symm), if_neg w, lt_d]
        obtain ⟨τ, t1, t2, t3⟩ := c_mloop (F := f_X3_placeMinotaur_l53b) c (fun n v σ => by rw [f_X3_placeMinotaur_l53b]) r a1 b1 f1 hv2
        exact ⟨τ, t1, nm1 (by have := cN_le (upd f 2 c) c m; omega), t2, fun i hi _ _ => by rw [t3 i hi]; exact up_n _ _ _ (by omega)⟩
theorem r_mino {σ : Mm} {B : Nat} (c : Int32) (ho : ok B (σ 199)) : rOk σ (f_X10_minotaurIt c σ) (S_mino c (σ 199)) := by
  obtain ⟨n, m, ⟨a1, a2⟩, ⟨b1, b2⟩, hc, hd, hv, mi, le, mo⟩ := ho
  unfold f_X10_minotaurIt S_mino
  rw [n_in (lo := -1) (hi := 15) rfl rfl, bnd_d, f0c b2 b1 (by omega)]
  have key : ((-1 : Int32) ≤ c ∧ c ≤ 15) ↔ (c = -1 ∨ ix c 16 ≠ none) := by
    rcases ix_cases c (N := 16) (by omega) with ⟨j, j1, j2, j3⟩ | ⟨j1, j3⟩
    · rw [j3]
      refine ⟨fun _ => Or.inr (by intro z; cases z), fun _ => ?_⟩
      rw [j2]
      exact ⟨Int32.le_trans (show (-1 : Int32) ≤ 0 by decide) (Int32.not_lt.mp (I_n0 (by omega))), (I_le (b := 15) (by omega) (by omega)).mpr (by omega)⟩
    · rw [j3]
      constructor
      · rintro ⟨z1, z2⟩
        left
        rcases j1 with j1 | j1
        · rw [← Int32.toInt_inj]
          have y1 := Int32.le_iff_toInt_le.mp z1
          have y2 := Int32.lt_iff_toInt_lt.mp j1
          have y3 : (-1 : Int32).toInt = -1 := rfl
          have y4 : (0 : Int32).toInt = 0 := rfl
          omega
        · exact absurd (Int32.le_trans j1 z2) (by decide)
      · rintro (z | z)
        · rw [z]; decide
        · exact absurd rfl z
  by_cases q : (-1 : Int32) ≤ c ∧ c ≤ 15
  · rw [if_pos q, if_neg one_ne, if_pos (key.mp q)]
    by_cases w : σ 199 2 = c
    · rw [if_pos w, if_pos w]; exact r_refuse 3 c (fun _ _ => rfl)
    · rw [if_neg w, if_neg w, lt_d]
      obtain ⟨f, hf⟩ : ∃ f : Fm, f = upd (σ 199) 2 c := ⟨_, rfl⟩
      have f1 : f 1 = I m := by rw [hf, upd_n _ _ (by omega)]; exact b2
      have f2 : f 2 = c := by rw [hf, upd_e]
      obtain ⟨g, q1, q2, q3, q4⟩ := loopI (fun n v (g : Int32 × Mm) => f_X10_minotaurIt_l49 c n v g.1 g.2) (fun g => some (g.1, g.2)) m (fun v (g : Int32 × Mm) => g.1 = I (cN f c v) ∧ g.2 199 = mF f v ∧ ∀ i, i ≠ 199 → g.2 i = σ i) (by
          rintro n ⟨g1, g2⟩ ⟨i1, i2, i3⟩
          dsimp only at i1 i2 i3 ⊢
          rw [f_X10_minotaurIt_l49, i2, mF_ne _ _ _ (fun w _ => by omega), f1, if_pos ((I_le (by omega) (by omega)).mpr (Nat.le_refl _))]) (by
          rintro n v ⟨g1, g2⟩ hv2 ⟨i1, i2, i3⟩
          dsimp only at i1 i2 i3 ⊢
          subst i1
          have e1 : I v + 1 = I (v + 1) := I_add v 1
          have z : ∀ j, j < 8 → mF f v (46 + 8 * v + j) = f (46 + 8 * v + j) := fun j hj => mF_ne _ _ _ (fun w hw => by omega)
          have z2 : mF f v 2 = f 2 := mF_ne _ _ _ (fun w hw => by omega)
          refine ⟨(I (cN f c (v + 1)), up g2 199 (46 + 8 * v + 6) (if (f (46 + 8 * v + 7) = 0 ∧ f (46 + 8 * v + 1) = f 2) ∧ ¬ f (46 + 8 * v + 5) ≤ 0 then 1 else f (46 + 8 * v + 6))), ?_, rfl, by dsimp only; rw [up_e, i2]; rfl, fun i hi => by dsimp only; rw [up_n _ _ _ hi]; exact i3 i hi⟩
          dsimp only
          rw [f_X10_minotaurIt_l49, i2, mF_ne _ _ _ (fun w _ => by omega), f1, if_neg (nle hv2 (by omega)), n_meets (by omega), bnd_d]
          simp only [n_vAt, bnd_d, I_a5, I_a6, gd_I (show 46 + 8 * v + 5 < 86 by omega) (show 86 < 2147483648 by omega), gd_I (show 46 + 8 * v + 6 < 86 by omega) (show 86 < 2147483648 by omega), I_clamp (show 46 + 8 * v + 5 < 2147483648 by omega), I_clamp (show 46 + 8 * v + 6 < 2147483648 by omega), lt_d, e1]
          rw [i2, z 7 (by omega), z 1 (by omega), z 5 (by omega), z 6 (by omega), z2]
          show _ = f_X10_minotaurIt_l49 c n (I (v + 1)) (I (cN f c v + if f (46 + 8 * v + 7) = 0 ∧ f (46 + 8 * v + 1) = c then 1 else 0)) _
          rw [← f2]
          by_cases y : f (46 + 8 * v + 7) = 0 ∧ f (46 + 8 * v + 1) = f 2
          · simp only [if_pos y, if_neg one_ne]
            by_cases x : f (46 + 8 * v + 5) ≤ 0
            · have x2 : ¬ ((f (46 + 8 * v + 7) = 0 ∧ f (46 + 8 * v + 1) = f 2) ∧ ¬ f (46 + 8 * v + 5) ≤ 0) := fun u => u.2 x
              rw [if_pos x, if_neg x2, I_a1]
            · have x2 : (f (46 + 8 * v + 7) = 0 ∧ f (46 + 8 * v + 1) = f 2) ∧ ¬ f (46 + 8 * v + 5) ≤ 0 := ⟨y, x⟩
              rw [if_neg x, if_pos x2, I_a1]
          · have x2 : ¬ ((f (46 + 8 * v + 7) = 0 ∧ f (46 + 8 * v + 1) = f 2) ∧ ¬ f (46 + 8 * v + 5) ≤ 0) := fun u => y u.1
            simp only [if_neg y, if_true]
            rw [if_neg x2, Int32.add_zero]; rfl) m 0 8 (0, up σ 199 2 c) (by omega) (by omega) ⟨rfl, by dsimp only; rw [up_e, hf]; rfl, fun i hi => up_n _ _ _ hi⟩
      refine ⟨g.2, ?_, by rw [q3, hf], fun i hi _ => q4 i hi⟩
      rw [show f_X10_minotaurIt_l49 c 8 0 0 (up σ 199 2 c) = _ from q1, q2, hf]
  · rw [if_neg q, if_pos rfl, if_neg (fun z => q (key.mpr z))]; exact r_refuse 1 0 (fun _ _ => rfl)
theorem ok_mino {B : Nat} {f g : Fm} {c r : Int32} (ho : ok B f) (h : S_mino c f = .inl (r, g)) : ok (B + 9) g := by
  obtain ⟨n, m, ⟨a1, a2⟩, ⟨b1, b2⟩, hc, hd, hv, mi, le, mo⟩ := ho
  unfold S_mino at h
  rw [f0c b2 b1 (by omega)] at h
  split at h
  case isFalse => cases h
  rename_i q
  split at h
  · cases h
  cases h
  have e : ∀ k, k ≠ 2 → (∀ v, v < m → k ≠ 46 + 8 * v + 6) → mF (upd f 2 c) m k = f k := fun k h1 h2 => by rw [mF_ne _ _ _ h2, upd_n _ _ h1]
  refine ⟨n, m, ⟨a1, by rw [e 0 (by omega) (fun v _ => by omega)]; exact a2⟩, ⟨b1, by rw [e 1 (by omega) (fun v _ => by omega)]; exact b2⟩, fun j h1 h2 k hk => by rw [e _ (by omega) (fun v _ => by omega)]; exact hc j h1 h2 k hk, fun j h1 h2 k hk => by rw [e _ (by omega) (fun v _ => by omega)]; exact hd j h1 h2 k hk, fun j hj => ?_, ?_, fun j hj => by rw [e _ (by omega) (fun v _ => by omega)]; exact le j hj, mo.same (fun j hj => e _ (by omega) (fun v _ => by omega)) (fun j hj => e _ (by omega) (fun v _ => by omega))⟩
  · exact (mF_okV (fun v hvm => (hv v hvm).same (fun k _ _ => upd_n _ _ (by omega))) m (Nat.le_refl _) j hj).mono (by omega) (Nat.le_refl _)
  · rw [mF_ne _ _ _ (fun v _ => by omega), upd_e]
    rcases q with q | q
    · exact Or.inl q
    · rcases ix_cases c (N := 16) (by omega) with ⟨j, j1, j2, -⟩ | ⟨-, j3⟩
      · exact Or.inr ⟨j, j1, j2⟩
      · exact absurd j3 q
end
section
/-! VISITORS who come -/
def cX (f : Fm) (h : Nat) : Option Nat := if (5 : Int32) ≤ f (6 + h) then none else some 1
def gX (f : Fm) (h : Nat) : Bool := !decide ((5 : Int32) ≤ f (6 + h))
theorem rep.toC {σ : Mm} {f : Fm} (h : rep 0 σ f) : ∀ g, g < 24 → cH σ g = cX f g := fun g hg => by unfold cH cX; rw [h.getL hg]
theorem rep.toG {σ : Mm} {f : Fm} (h : rep 0 σ f) : ∀ g, g < 24 → gC σ g = gX f g := fun g hg => by unfold gC gX; rw [h.getL hg]
theorem cR_cX (σ : Mm) : ∀ g, g < 24 → cR σ false g = cX (σ 199) g := fun g _ => by
  unfold cR cX gapR
  by_cases q : (5 : Int32) ≤ σ 199 (6 + g) <;> simp [q]
noncomputable def dX (f : Fm) (s v : Nat) : Nat := dst (cX f) s v
theorem dX_lt (f : Fm) {s v : Nat} (hs : s < 16) : dX f s v ≤ 15 ∨ dX f s v = 1000 := dst_lt (fun h w q => by
  unfold cX at q
  split at q
  · cases q
  · cases q; exact Nat.le_refl _) hs
theorem c_hours {σ : Mm} {f : Fm} (h : rep 0 σ f) {s v : Nat} (hs : s < 16) (hv : v < 16) : ∃ τ, f_X8_hoursByDistance (I s) (I v) σ = some (I (dX f s v), τ) ∧ ∀ a, a ≠ 159 → a ≠ 160 → τ a = σ a := by
  obtain ⟨τ, t1, t2⟩ := m_hours (σ := σ) hs hv
  exact ⟨τ, by rw [t1, dst_congr h.toC]; rfl, t2⟩
theorem r_hours {σ : Mm} {s v : Nat} (hs : s < 16) (hv : v < 16) : ∃ τ, f_X10_hoursOf (I s) (I v) σ = some (if dX (σ 199) s v < 1000 then I (dX (σ 199) s v) else -1, τ) ∧ ∀ a, a ≠ 204 → τ a = σ a := by
  obtain ⟨τ, t1, t2⟩ := n_hours (σ := σ) hs hv
  exact ⟨τ, by rw [t1, dst_congr (cR_cX σ)]; rfl, t2⟩
/-- the set of the cells that are reached, how many they are -/
noncomputable def setX (f : Fm) : Int32 := @dite _ (∃ x : Int32, ∀ u, bit x u = true ↔ rp (gX f) 0 u) (Classical.propDecidable _) (fun h => h.choose) (fun _ => 0)
theorem setX_is {f : Fm} {x : Int32} {p : Nat → Bool} (hp : ∀ g, g < 24 → p g = gX f g) (h : ∀ u, bit x u = true ↔ rp p 0 u) : setX f = x := by
  have hx : ∃ x : Int32, ∀ u, bit x u = true ↔ rp (gX f) 0 u := ⟨x, fun u => by rw [h u, rp_congr hp]⟩
  unfold setX
  rw [dif_pos hx]
  exact set_eq hx.choose_spec h (fun g hg => (hp g hg).symm)
noncomputable def cntX (f : Fm) : Int32 := match f_X10_ones (setX f) (fun _ _ => 0) with
  | none => 0
  | some n => n
theorem ones_ind (x : Int32) (σ τ : Mm) : f_X10_ones x σ = f_X10_ones x τ := by
  have k : ∀ n v g, f_X10_ones_l4 x σ n v g = f_X10_ones_l4 x τ n v g := by
    intro n
    induction n with
    | zero => intro v g; rfl
    | succ n ih =>
      intro v g
      rw [f_X10_ones_l4, f_X10_ones_l4]
      split
      · rfl
      · rw [lt_d, lt_d, lt_d, lt_d]; exact ih _ _
  unfold f_X10_ones; exact k _ _ _
theorem ones_ex (x : Int32) (σ : Mm) : ∃ n, f_X10_ones x σ = some n := by
  obtain ⟨g, q1, -⟩ := loopI (fun n v g => f_X10_ones_l4 x σ n v g) (fun g => some g) 16 (fun _ (_ : Int32) => True) (by
      intro n g _
      rw [f_X10_ones_l4, if_pos (show (16 : Int32) ≤ I 16 by decide)]) (by
      intro n v g hv _
      have e1 : I v + 1 = I (v + 1) := I_add v 1
      refine ⟨g + ((x >>> (I v &&& 31)) &&& 1), ?_, trivial⟩
      rw [f_X10_ones_l4, if_neg (show ¬ (16 : Int32) ≤ I v from nle (N := 16) hv (by omega)), lt_d, lt_d, e1]) 16 0 20 0 rfl (by omega) trivial
  exact ⟨g, q1⟩
theorem cntX_is (f : Fm) (τ : Mm) : f_X10_ones (setX f) τ = some (cntX f) := by
  rw [ones_ind _ τ (fun _ _ => 0)]
  unfold cntX
  obtain ⟨n, hn⟩ := ones_ex (setX f) (fun _ _ => 0)
  rw [hn]
noncomputable def S_visi (c : Int32) (f : Fm) : Rs := match ix c 100 with
  | none => no 1 0
  | some _ => if f 1 = 5 then no 13 5 else if dX f 0 15 < 1000 then yes (f 1) (upd (upd (upd (upd (upd f (46 + 8 * (f 1).toNatClampNeg) c) (46 + 8 * (f 1).toNatClampNeg + 3) (I (dX f 0 15))) (46 + 8 * (f 1).toNatClampNeg + 4) (-1)) 4 (f 4 + c)) 1 (f 1 + 1)) else no 6 (cntX f)
theorem c_visi {σ : Mm} {f : Fm} {B : Nat} (c : Int32) (h : rep 0 σ f) (ho : ok B f) : cOk σ (f_X3_admitVisitor c σ) (S_visi c f) := by
  obtain ⟨n, m, ⟨a1, a2⟩, ⟨b1, b2⟩, hc, hd, hv, mi, le, mo⟩ := ho
  unfold f_X3_admitVisitor S_visi
  rcases ix_cases c (N := 100) (by omega) with ⟨x, h1, h2, h3⟩ | ⟨h1, h3⟩
  · rw [h3]
    dsimp only
    rw [if_neg (show ¬ c < 0 by rw [h2]; exact I_n0 (by omega)), if_pos (show c ≤ 99 by rw [h2]; exact (I_le (b := 99) (by omega) (by omega)).mpr (by omega)), lt_d, show σ 0 4 = f 1 from h.get0 (k := 1) (by omega)]
    by_cases q : m = 5
    · rw [if_neg (show ¬ f 1 < 5 by rw [b2, q]; decide), if_pos (show f 1 = 5 by rw [b2, q]; rfl)]
      exact c_refuse 13 5 (fun _ _ _ => rfl)
    · have hm : m < 5 := by omega
      rw [if_pos (show f 1 < 5 by rw [b2]; exact (I_lt (b := 5) (by omega) (by omega)).mpr hm), if_neg (show ¬ f 1 = 5 by rw [b2]; exact I_beq (b := 5) (by omega) (by omega) q)]
      obtain ⟨τ, t1, t2⟩ := c_hours h (s := 0) (v := 15) (by omega) (by omega)
      have t1 : f_X8_hoursByDistance 0 15 σ = some (I (dX f 0 15), τ) := t1
      rw [t1, bnm_d]
      have hr : rep 0 τ f := h.move (fun a _ ha => t2 a (by omega) (by omega))
      by_cases w : dX f 0 15 < 1000
      · rw [if_pos (show I (dX f 0 15) < 1000 from (I_lt (b := 1000) (by omega) (by omega)).mpr w), if_pos w]
        rw [b2, gd_I hm (by omega), I_clamp (by omega), show 8 + 1 + m = 9 + m by omega]
        unfold f_X7_arrive f_X7_endBond
        simp only [lt_d, bnd_d]
        have g4 : τ 0 4 = I m := (hr.get0 (k := 1) (by omega)).trans b2
        have g7 : τ 0 7 = f 4 := hr.get0 (k := 4) (by omega)
        obtain ⟨ρ, hρ⟩ : ∃ ρ, ρ = up (up (up (up (up (up (up (up (up (up τ (9 + m) 0 c) (9 + m) 1 0) (9 + m) 2 0) (9 + m) 3 (I (dX f 0 15))) (9 + m) 7 0) (9 + m) 4 (-1)) (9 + m) 5 0) (9 + m) 6 0) 0 4 (I m + 1)) 0 7 (f 4 + c) := ⟨_, rfl⟩
        refine ⟨ρ, ?_, nm1 (by omega), ?_, fun i hi j1 j2 => ?_⟩
        · rw [hρ]
          simp (disch := omega) only [up_e, up_n, upd_e, upd_n, g4, g7]
        · obtain ⟨r1, r2, r3, r4⟩ := hr
          obtain ⟨f', hf'⟩ : ∃ f', f' = upd (upd (upd (upd (upd f (46 + 8 * m) c) (46 + 8 * m + 3) (I (dX f 0 15))) (46 + 8 * m + 4) (-1)) 4 (f 4 + c)) 1 (I m + 1) := ⟨_, rfl⟩
          rw [← hf']
          have f1' : f' 1 = I (m + 1) := by rw [hf', upd_e, I_a1]
          refine ⟨fun k hk => ?_, fun k hk => ?_, fun g hg k hk => ?_, fun v hvv k hk => ?_⟩
          · rw [hρ, hf']
            rcases (show k = 1 ∨ k = 4 ∨ (k ≠ 1 ∧ k ≠ 4) by omega) with e | e | ⟨e1, e2⟩
            · subst e; simp (disch := omega) only [up_e, up_n, upd_e, upd_n]
            · subst e; simp (disch := omega) only [up_e, up_n, upd_e, upd_n]
            · simp (disch := omega) only [up_e, up_n, upd_e, upd_n]; exact r1 k hk
          · rw [hρ, hf']
            simp (disch := omega) only [up_n, upd_n]; exact r2 k hk
          · rw [hρ, hf']
            simp (disch := omega) only [up_n, upd_n]; exact r3 g hg k hk
          · by_cases e : v = m
            · subst e
              unfold cv
              rw [f1', if_neg (fun z => nle (Nat.lt_succ_self v) (by omega) z.2), show 0 + 9 + v = 9 + v by omega, hρ, hf']
              have z := hd v (Nat.le_refl _) hm
              rcases (show k = 0 ∨ k = 1 ∨ k = 2 ∨ k = 3 ∨ k = 4 ∨ k = 5 ∨ k = 6 ∨ k = 7 by omega) with e | e | e | e | e | e | e | e <;> subst e
              · rw [show 46 + 8 * v + 0 = 46 + 8 * v from rfl]
                simp (disch := omega) only [up_e, up_n, upd_e, upd_n]
              · simp (disch := omega) only [up_e, up_n, upd_e, upd_n]; exact (z 1 (by omega)).symm
              · simp (disch := omega) only [up_e, up_n, upd_e, upd_n]; exact (z 2 (by omega)).symm
              · simp (disch := omega) only [up_e, up_n, upd_e, upd_n]
              · simp (disch := omega) only [up_e, up_n, upd_e, upd_n]
              · simp (disch := omega) only [up_e, up_n, upd_e, upd_n]; exact (z 5 (by omega)).symm
              · simp (disch := omega) only [up_e, up_n, upd_e, upd_n]; exact (z 6 (by omega)).symm
              · simp (disch := omega) only [up_e, up_n, upd_e, upd_n]; exact (z 7 (by omega)).symm
            · have z := r4 v hvv k hk
              have e2 : cv f' v k = cv f v k := by
                unfold cv
                rw [f1', b2]
                have e3 : f' (46 + 8 * v + k) = f (46 + 8 * v + k) := by rw [hf']; simp (disch := omega) only [upd_n]
                rw [e3]
                by_cases y : v < m
                · rw [if_neg (fun u => nle (show v < m + 1 by omega) (by omega) u.2), if_neg (fun u => nle y (by omega) u.2)]
                · have y1 : I (m + 1) ≤ I v := (I_le (by omega) (by omega)).mpr (by omega)
                  have y2 : I m ≤ I v := (I_le (by omega) (by omega)).mpr (by omega)
                  by_cases u : k = 4
                  · have u1 : k = 4 ∧ I (m + 1) ≤ I v := ⟨u, y1⟩
                    have u2 : k = 4 ∧ I m ≤ I v := ⟨u, y2⟩
                    rw [if_pos u1, if_pos u2]
                  · rw [if_neg (fun t => u t.1), if_neg (fun t => u t.1)]
              rw [e2, ← z, hρ]
              simp (disch := omega) only [up_n]
        · rw [hρ]
          simp (disch := omega) only [up_n]
          exact t2 i j1 j2
      · have w1000 : dX f 0 15 = 1000 := by rcases dX_lt f (s := 0) (v := 15) (by omega) with z | z <;> omega
        rw [if_neg (show ¬ I (dX f 0 15) < 1000 by rw [w1000]; decide), if_neg w]
        obtain ⟨q1, q2, q3⟩ := m_reach (σ := τ) (s := 0) (by omega)
        have q2 : f_X8_cellsReached 0 τ = some q1 := q2
        have e1 : setX f = q1 := setX_is hr.toG q3
        rw [q2, bnd_d, cnt_eq (τ := τ) (fun v hv => by
          cases z : bit q1 v with
          | false => rfl
          | true => exact absurd (rch_lt (by omega) ((q3 v).mp z)) (by omega)), ← e1, cntX_is, bnd_d]
        exact c_refuse 6 _ (fun i j1 j2 => t2 i j1 j2)
  · rw [h3]
    dsimp only
    by_cases q : c < 0
    · rw [if_pos q]; exact c_refuse 1 0 (fun _ _ _ => rfl)
    · rw [if_neg q, if_neg (show ¬ c ≤ 99 from fun z => by
        have := Int32.le_trans (h1.resolve_left q) z
        exact absurd this (by decide))]
      exact c_refuse 1 0 (fun _ _ _ => rfl)
theorem r_visi {σ : Mm} {B : Nat} (c : Int32) (ho : ok B (σ 199)) : rOk σ (f_X10_visitorIt c σ) (S_visi c (σ 199)) := by
  obtain ⟨n, m, ⟨a1, a2⟩, ⟨b1, b2⟩, -⟩ := ho
  unfold f_X10_visitorIt S_visi
  rw [n_inN (by omega) (by omega) (show (99 : Int64).toInt = ((100 : Nat) : Int) - 1 by decide), bnd_d]
  cases e3 : ix c 100 with
  | none => dsimp only; rw [if_pos rfl]; exact r_refuse 1 0 (fun _ _ => rfl)
  | some x =>
    dsimp only
    rw [if_neg one_ne]
    by_cases q : m = 5
    · rw [if_pos (show σ 199 1 = 5 by rw [b2, q]; rfl), if_pos (show σ 199 1 = 5 by rw [b2, q]; rfl)]
      exact r_refuse 13 5 (fun _ _ => rfl)
    · have hm : m < 5 := by omega
      have ne : ¬ σ 199 1 = 5 := by rw [b2]; exact I_beq (b := 5) (by omega) (by omega) q
      rw [if_neg ne, if_neg ne]
      obtain ⟨τ, t1, t2⟩ := r_hours (σ := σ) (s := 0) (v := 15) (by omega) (by omega)
      have t1 : f_X10_hoursOf 0 15 σ = _ := t1
      rw [t1, bnm_d]
      have e199 : τ 199 = σ 199 := t2 199 (by omega)
      by_cases w : dX (σ 199) 0 15 < 1000
      · rw [if_pos w, if_neg (nm1 (by omega)), if_pos w, e199, b2, n_vAt, bnd_d, I_clamp (show m < 2147483648 by omega)]
        simp only [I_a3, I_a4, gd_I (show 46 + 8 * m < 86 by omega) (show 86 < 2147483648 by omega), gd_I (show 46 + 8 * m + 3 < 86 by omega) (show 86 < 2147483648 by omega), gd_I (show 46 + 8 * m + 4 < 86 by omega) (show 86 < 2147483648 by omega), I_clamp (show 46 + 8 * m < 2147483648 by omega), I_clamp (show 46 + 8 * m + 3 < 2147483648 by omega), I_clamp (show 46 + 8 * m + 4 < 2147483648 by omega), lt_d]
        obtain ⟨ρ, hρ⟩ : ∃ ρ, ρ = up (up (up (up (up τ 199 (46 + 8 * m) c) 199 (46 + 8 * m + 3) (I (dX (σ 199) 0 15))) 199 (46 + 8 * m + 4) (-1)) 199 4 (σ 199 4 + c)) 199 1 (I m + 1) := ⟨_, rfl⟩
        refine ⟨ρ, ?_, ?_, fun i j1 j2 => ?_⟩
        · rw [hρ]
          simp (disch := omega) only [up_e, upd_e, upd_n, e199, b2]
          rw [show I m + 1 = I (m + 1) from I_add m 1, show I (m + 1) - 1 = I m from I_sub (b := 1) (by omega)]
        · rw [hρ]
          simp only [up_e, e199]
        · rw [hρ]
          simp only [up_n _ _ _ j1]
          exact t2 i j2
      · rw [if_neg w, if_pos rfl, if_neg w]
        obtain ⟨q1, ρ, p1, p2, p3⟩ := n_reach (σ := τ) (s := 0) (by omega)
        have p1 : f_X10_reachedFrom 0 τ = some (q1, ρ) := p1
        have e1 : setX (σ 199) = q1 := setX_is (fun g hg => by unfold gapR gX; rw [e199]) p2
        rw [p1, bnm_d, ← e1, cntX_is, bnd_d]
        exact r_refuse 6 _ (fun i j => by rw [p3 i j, t2 i j])
theorem ok_visi {B : Nat} {f g : Fm} {x r : Int32} (ho : ok B f) (h : S_visi x f = .inl (r, g)) : ok (B + 9) g := by
  obtain ⟨n, m, ⟨a1, a2⟩, ⟨b1, b2⟩, hc, hd, hv, mi, le, c, d, mo1, mo2, mo3⟩ := ho
  unfold S_visi at h
  cases e0 : ix x 100 with
  | none => rw [e0] at h; cases h
  | some y =>
    obtain ⟨y1, rfl⟩ := ix_lt (by omega) e0
    rw [e0] at h
    dsimp only at h
    split at h
    · cases h
    · rename_i q
      split at h
      case isFalse => cases h
      rename_i w
      cases h
      have hm : m < 5 := by
        rcases Nat.lt_or_ge m 5 with z | z
        · exact z
        · exact absurd (by rw [b2, show m = 5 by omega]; rfl) q
      have w15 : dX f 0 15 ≤ 15 := by rcases dX_lt f (s := 0) (v := 15) (by omega) with z | z <;> omega
      rw [b2, I_clamp (by omega), show I m + 1 = I (m + 1) from I_add m 1]
      have z := hd m (Nat.le_refl _) hm
      refine ⟨n, m + 1, ⟨a1, ?_⟩, ⟨by omega, ?_⟩, fun i h1 h2 k2 hk2 => ?_, fun i h1 h2 k2 hk2 => ?_, fun i hi => ?_, ?_, fun i hi => ?_, ?_⟩
      · simp (disch := omega) only [upd_n]; exact a2
      · rw [upd_e]
      · simp (disch := omega) only [upd_n]; exact hc i h1 h2 k2 hk2
      · simp (disch := omega) only [upd_n]; exact hd i (by omega) h2 k2 hk2
      · by_cases e2 : i = m
        · subst e2
          unfold okV
          simp (disch := omega) only [upd_n, upd_e]
          refine ⟨⟨0, by omega, z 1 (by omega)⟩, ⟨0, by omega, z 2 (by omega)⟩, ⟨_, w15, rfl⟩, Or.inl ⟨?_, z 5 (by omega), z 6 (by omega), Or.inl (z 7 (by omega))⟩⟩
          first | rfl | trivial
        · refine ((hv i (by omega)).mono (by omega) (Nat.le_refl _)).same (fun k2 h1 h2 => ?_)
          simp (disch := omega) only [upd_n]
      · simp (disch := omega) only [upd_n]; exact mi
      · simp (disch := omega) only [upd_n]; exact le i hi
      · have z1 := mo2 m hm
        have z2 : d m = 0 := by
          have := S5_le (c := d) (g := m) hm
          have e : I (d m) = I 0 := by rw [← z1]; exact z 0 (by omega)
          exact (I_eq (by omega) (by omega)).mp e
        refine money.same (f := upd f (46 + 8 * m) (I y)) (money.setV (n := n) (m := m) mo1 mo2 (by omega) (by omega)) (fun i hi => ?_) (fun i hi => ?_)
        · simp (disch := omega) only [upd_n]
        · by_cases e2 : i = m
          · subst e2; simp (disch := omega) only [upd_n, upd_e]
          · simp (disch := omega) only [upd_n]
end
section
/-! COPIES of states, what is kept, what is taken back -/
theorem cp4 {σ : Mm} {p q : Nat} (h : p ≠ q) : ∃ τ, f_X1_copyFrom p q σ = some τ ∧ (∀ k, k < 4 → τ p k = σ q k) ∧ ∀ a, a ≠ p → τ a = σ a := by
  have h2 : q ≠ p := fun z => h z.symm
  refine ⟨up (up (up (up σ p 0 (σ q 0)) p 1 (σ q 1)) p 2 (σ q 2)) p 3 (σ q 3), ?_, fun k hk => ?_, fun a ha => ?_⟩
  · unfold f_X1_copyFrom
    simp only [lt_d, up_n _ _ _ h2]
  · rcases (show k = 0 ∨ k = 1 ∨ k = 2 ∨ k = 3 by omega) with e | e | e | e <;> subst e <;> simp (disch := omega) only [up_e, upd_e, upd_n]
  · simp only [up_n _ _ _ ha]
theorem bz_ok {α : Type} {x : Int32} (h : x = 0 ∨ x = 1) (a : Option α) : bz x a = a := by
  rcases h with h | h <;> subst h
  · exact bz_i0 a
  · exact bz_i1 a
theorem cp8 {σ : Mm} {p q : Nat} (h : p ≠ q) (h6 : σ q 6 = 0 ∨ σ q 6 = 1) (h7 : σ q 7 = 0 ∨ σ q 7 = 1) : ∃ τ, f_X7_copyFrom p q σ = some τ ∧ (∀ k, k < 8 → τ p k = σ q k) ∧ ∀ a, a ≠ p → τ a = σ a := by
  have h2 : q ≠ p := fun z => h z.symm
  refine ⟨up (up (up (up (up (up (up (up σ p 0 (σ q 0)) p 1 (σ q 1)) p 2 (σ q 2)) p 3 (σ q 3)) p 4 (σ q 4)) p 5 (σ q 5)) p 6 (σ q 6)) p 7 (σ q 7), ?_, fun k hk => ?_, fun a ha => ?_⟩
  · unfold f_X7_copyFrom
    simp only [lt_d, up_n _ _ _ h2, bz_ok h6, bz_ok h7]
  · rcases (show k = 0 ∨ k = 1 ∨ k = 2 ∨ k = 3 ∨ k = 4 ∨ k = 5 ∨ k = 6 ∨ k = 7 by omega) with e | e | e | e | e | e | e | e <;> subst e <;> simp (disch := omega) only [up_e, upd_e, upd_n]
  · simp only [up_n _ _ _ ha]
theorem ok_bz {B : Nat} {f : Fm} (ho : ok B f) {v : Nat} (hv : v < 5) : (cv f v 6 = 0 ∨ cv f v 6 = 1) ∧ (cv f v 7 = 0 ∨ cv f v 7 = 1) := by
  obtain ⟨n, m, -, ⟨b1, b2⟩, -, hd, hvv, -⟩ := ho
  unfold cv
  rw [if_neg (fun z => absurd z.1 (by decide)), if_neg (fun z => absurd z.1 (by decide))]
  by_cases q : v < m
  · obtain ⟨-, -, -, z⟩ := hvv v q
    rcases z with ⟨-, -, z1, z2⟩ | ⟨-, -, z1, z2⟩
    · exact ⟨Or.inl z1, z2⟩
    · exact ⟨z1, Or.inl z2⟩
  · exact ⟨Or.inl (hd v (by omega) hv 6 (by omega)), Or.inl (hd v (by omega) hv 7 (by omega))⟩
theorem c_copy {σ : Mm} {f : Fm} {i o B : Nat} (hd : i + 14 ≤ o ∨ o + 14 ≤ i) (h : rep o σ f) (ho : ok B f) : ∃ τ, f_X6_copyFrom i o σ = some τ ∧ rep i τ f ∧ ∀ a, a < i ∨ i + 14 ≤ a → τ a = σ a := by
  unfold f_X6_copyFrom f_X4_copyFrom
  rw [lt_d, bnd_d, lt_d]
  obtain ⟨σ0, hσ0⟩ : ∃ σ0, σ0 = cpm σ (i + 1 + 1) (o + 1 + 1) 24 := ⟨_, rfl⟩
  rw [← hσ0]
  have s0 : ∀ a, a < i ∨ i + 14 ≤ a → σ0 a = σ a := fun a ha => by rw [hσ0]; unfold cpm; rw [if_neg (by omega)]
  have s1 : ∀ k, k < 24 → σ0 (i + 2) k = f (6 + k) := fun k hk => by
    rw [hσ0]; unfold cpm va_cpy
    rw [if_pos (by omega), if_pos (by omega), show 0 + (k - 0) = k by omega]
    exact h.2.1 k hk
  have s2 : rep o σ0 f := h.move (fun a h1 h2 => s0 a (by omega))
  obtain ⟨σ1, p1, p2, p3, p4, p5⟩ := loopI (fun n v g => f_X6_copyFrom_l13 (fun v3 σ4 => lt (fun v6 σ7 => lt (up σ7 i 3 (σ7 o 3)) fun σ9 => lt (up σ9 i 4 (σ9 o 4)) fun σ10 => lt (up σ10 i 5 (σ10 o 5)) fun σ11 => lt (up σ11 i 6 (σ11 o 6)) fun σ12 => lt (up σ12 i 7 (σ12 o 7)) fun σ13 => lt (up σ13 i 8 (σ13 o 8)) fun σ14 => some σ14) fun K => f_X6_copyFrom_l41 K i o 8 0 σ4) i o n v g)
    (fun g => f_X6_copyFrom_l41 (fun v6 σ7 => lt (up σ7 i 3 (σ7 o 3)) fun σ9 => lt (up σ9 i 4 (σ9 o 4)) fun σ10 => lt (up σ10 i 5 (σ10 o 5)) fun σ11 => lt (up σ11 i 6 (σ11 o 6)) fun σ12 => lt (up σ12 i 7 (σ12 o 7)) fun σ13 => lt (up σ13 i 8 (σ13 o 8)) fun σ14 => some σ14) i o 8 0 g) 4
    (fun v (g : Mm) => rep o g f ∧ (∀ k, k < 24 → g (i + 2) k = f (6 + k)) ∧ (∀ j, j < v → ∀ k, k < 4 → g (i + 4 + j) k = f (30 + 4 * j + k)) ∧ ∀ a, a < i ∨ i + 14 ≤ a → g a = σ a) (by
      intro n g _
      rw [f_X6_copyFrom_l13, if_pos (show (4 : Int32) ≤ I 4 by decide), lt_d]) (by
      intro n v g hv hi
      have e1 : I v + 1 = I (v + 1) := I_add v 1
      obtain ⟨i1, i2, i3, i4⟩ := hi
      obtain ⟨τ, t1, t2, t3⟩ := cp4 (σ := g) (p := i + 3 + 1 + v) (q := o + 3 + 1 + v) (by omega)
      refine ⟨τ, ?_, ?_, ?_, ?_, ?_⟩
      · rw [f_X6_copyFrom_l13, if_neg (show ¬ (4 : Int32) ≤ I v from nle (N := 4) hv (by omega)), gd_I hv (by omega), gd_I hv (by omega), I_clamp (by omega), t1, bnd_d, lt_d, e1]
      · exact i1.move (fun a h1 h2 => t3 a (by omega))
      · intro k hk; rw [t3 _ (by omega)]; exact i2 k hk
      · intro j hj k hk
        by_cases e : j = v
        · subst e
          rw [show i + 4 + j = i + 3 + 1 + j by omega, t2 k hk, show o + 3 + 1 + j = o + 4 + j by omega]
          exact i1.2.2.1 j hv k hk
        · rw [t3 _ (by omega)]; exact i3 j (by omega) k hk
      · intro a ha; rw [t3 a (by omega)]; exact i4 a ha) 4 0 8 σ0 rfl (by omega) ⟨s2, s1, fun j hj => by omega, s0⟩
  rw [show f_X6_copyFrom_l13 _ i o 8 0 σ0 = _ from p1]
  obtain ⟨σ2, q1, q2, q3, q4, q5, q6⟩ := loopI (fun n v g => f_X6_copyFrom_l41 (fun v6 σ7 => lt (up σ7 i 3 (σ7 o 3)) fun σ9 => lt (up σ9 i 4 (σ9 o 4)) fun σ10 => lt (up σ10 i 5 (σ10 o 5)) fun σ11 => lt (up σ11 i 6 (σ11 o 6)) fun σ12 => lt (up σ12 i 7 (σ12 o 7)) fun σ13 => lt (up σ13 i 8 (σ13 o 8)) fun σ14 => some σ14) i o n v g)
    (fun g => lt (up g i 3 (g o 3)) fun σ9 => lt (up σ9 i 4 (σ9 o 4)) fun σ10 => lt (up σ10 i 5 (σ10 o 5)) fun σ11 => lt (up σ11 i 6 (σ11 o 6)) fun σ12 => lt (up σ12 i 7 (σ12 o 7)) fun σ13 => lt (up σ13 i 8 (σ13 o 8)) fun σ14 => some σ14) 5
    (fun v (g : Mm) => rep o g f ∧ (∀ k, k < 24 → g (i + 2) k = f (6 + k)) ∧ (∀ j, j < 4 → ∀ k, k < 4 → g (i + 4 + j) k = f (30 + 4 * j + k)) ∧ (∀ j, j < v → ∀ k, k < 8 → g (i + 9 + j) k = cv f j k) ∧ ∀ a, a < i ∨ i + 14 ≤ a → g a = σ a) (by
      intro n g _
      rw [f_X6_copyFrom_l41, if_pos (show (5 : Int32) ≤ I 5 by decide)]) (by
      intro n v g hv hi
      have e1 : I v + 1 = I (v + 1) := I_add v 1
      obtain ⟨i1, i2, i3, i5, i4⟩ := hi
      have hz := ok_bz ho hv
      have hs := i1.2.2.2 v hv
      rw [show o + 9 + v = o + 8 + 1 + v by omega] at hs
      obtain ⟨τ, t1, t2, t3⟩ := cp8 (σ := g) (p := i + 8 + 1 + v) (q := o + 8 + 1 + v) (by omega) (by rw [hs 6 (by omega)]; exact hz.1) (by rw [hs 7 (by omega)]; exact hz.2)
      refine ⟨τ, ?_, ?_, ?_, ?_, ?_, ?_⟩
      · rw [f_X6_copyFrom_l41, if_neg (show ¬ (5 : Int32) ≤ I v from nle (N := 5) hv (by omega)), gd_I hv (by omega), gd_I hv (by omega), I_clamp (by omega), t1, bnd_d, lt_d, e1]
      · exact i1.move (fun a h1 h2 => t3 a (by omega))
      · intro k hk; rw [t3 _ (by omega)]; exact i2 k hk
      · intro j hj k hk; rw [t3 _ (by omega)]; exact i3 j hj k hk
      · intro j hj k hk
        by_cases e : j = v
        · subst e
          rw [show i + 9 + j = i + 8 + 1 + j by omega, t2 k hk]
          exact hs k hk
        · rw [t3 _ (by omega)]; exact i5 j (by omega) k hk
      · intro a ha; rw [t3 a (by omega)]; exact i4 a ha) 5 0 8 σ1 rfl (by omega) ⟨p2, p3, p4, fun j hj => by omega, p5⟩
  rw [show f_X6_copyFrom_l41 _ i o 8 0 σ1 = _ from q1]
  have oi : o ≠ i := by omega
  simp only [lt_d, up_n _ _ _ oi]
  refine ⟨_, rfl, ⟨fun k hk => ?_, fun k hk => ?_, fun j hj k hk => ?_, fun v hv k hk => ?_⟩, fun a ha => ?_⟩
  · have z := q2.1
    rcases (show k = 0 ∨ k = 1 ∨ k = 2 ∨ k = 3 ∨ k = 4 ∨ k = 5 by omega) with e | e | e | e | e | e <;> subst e <;> simp (disch := omega) only [up_e, upd_e, upd_n] <;> exact z _ (by omega)
  · simp (disch := omega) only [up_n]; exact q3 k hk
  · simp (disch := omega) only [up_n]; exact q4 j hj k hk
  · simp (disch := omega) only [up_n]; exact q5 v hv k hk
  · simp (disch := omega) only [up_n]; exact q6 a ha
/-! the reference's rows -/
theorem r_starts {σ : Mm} : ∃ τ, f_X10_starts σ = some τ ∧ τ 198 12 = 0 ∧ (∀ k, k ≠ 12 → τ 198 k = σ 198 k) ∧ (∀ k, k < 86 → τ 200 k = σ 199 k) ∧ ∀ a, a ≠ 198 → a ≠ 200 → τ a = σ a := by
  unfold f_X10_starts
  rw [lt_d]
  obtain ⟨g, q1, q2, q3⟩ := loopI (fun n v g => f_X10_starts_l7 n v g) (fun g => some g) 86 (fun v (g : Mm) => (∀ k, k < v → g 200 k = σ 199 k) ∧ ∀ a, a ≠ 200 → g a = up σ 198 12 0 a) (by
      intro n g _
      rw [f_X10_starts_l7, if_pos (show (86 : Int32) ≤ I 86 by decide)]) (by
      intro n v g hv hi
      have e1 : I v + 1 = I (v + 1) := I_add v 1
      refine ⟨up g 200 v (g 199 v), ?_, fun k hk => ?_, fun a ha => by rw [up_n _ _ _ ha]; exact hi.2 a ha⟩
      · rw [f_X10_starts_l7, if_neg (show ¬ (86 : Int32) ≤ I v from nle (N := 86) hv (by omega)), gd_I hv (by omega), gd_I hv (by omega), I_clamp (by omega), lt_d, lt_d, e1]
      · rw [up_e]
        by_cases e : k = v
        · subst e; rw [upd_e, hi.2 199 (by omega), up_n _ _ _ (by omega)]
        · rw [upd_n _ _ e]; exact hi.1 k (by omega)) 86 0 90 (up σ 198 12 0) rfl (by omega) ⟨fun k hk => by omega, fun _ _ => rfl⟩
  refine ⟨g, q1, by rw [q3 198 (by omega), up_e, upd_e], fun k hk => by rw [q3 198 (by omega), up_e, upd_n _ _ hk], q2, fun a h1 h2 => by rw [q3 a h2, up_n _ _ _ h1]⟩
theorem r_push {F : Nat → Int32 → Mm → Option (Int32 × Mm)} (a0 : Int32) (hF : ∀ n v σ, F (n + 1) v σ = if 86 ≤ v then (lt (up σ 198 5 ((σ 198 5) + 1)) fun σ9 => some (a0, σ9)) else (gd v 86 (gd ((86 * (σ 198 5)) + v) 688 (lt (up σ 202 ((86 * (σ 198 5)) + v).toNatClampNeg (σ 200 v.toNatClampNeg)) fun σ10 => lt (v + 1) fun x11 => F n x11 σ10))))
    {σ : Mm} {n : Nat} (hn : n < 8) (h5 : σ 198 5 = I n) : ∃ τ, F 700 0 σ = some (a0, τ) ∧ τ 198 5 = I (n + 1) ∧ (∀ k, k ≠ 5 → τ 198 k = σ 198 k) ∧ (∀ k, k < 86 → τ 202 (86 * n + k) = σ 200 k) ∧ (∀ k, k < 86 * n → τ 202 k = σ 202 k) ∧ ∀ a, a ≠ 198 → a ≠ 202 → τ a = σ a := by
  obtain ⟨g, q1, q2, q3, q4⟩ := loopI (fun m v g => F m v g) (fun g => lt (up g 198 5 ((g 198 5) + 1)) fun σ9 => some (a0, σ9)) 86 (fun v (g : Mm) => (∀ k, k < v → g 202 (86 * n + k) = σ 200 k) ∧ (∀ k, k < 86 * n → g 202 k = σ 202 k) ∧ ∀ a, a ≠ 202 → g a = σ a) (by
      intro m g _
      rw [hF, if_pos (show (86 : Int32) ≤ I 86 by decide)]) (by
      intro m v g hv hi
      have e1 : I v + 1 = I (v + 1) := I_add v 1
      have e5 : g 198 5 = I n := by rw [hi.2.2 198 (by omega)]; exact h5
      refine ⟨up g 202 (86 * n + v) (g 200 v), ?_, fun k hk => ?_, fun k hk => ?_, fun a ha => by rw [up_n _ _ _ ha]; exact hi.2.2 a ha⟩
      · rw [hF, if_neg (show ¬ (86 : Int32) ≤ I v from nle (N := 86) hv (by omega)), e5, show (86 : Int32) * I n = I (86 * n) from I_mul 86 n, I_add, gd_I hv (by omega), gd_I (show 86 * n + v < 688 by omega) (by omega), I_clamp (by omega), I_clamp (by omega), lt_d, lt_d, e1]
      · rw [up_e]
        by_cases e : k = v
        · subst e; rw [upd_e, hi.2.2 200 (by omega)]
        · rw [upd_n _ _ (by omega)]; exact hi.1 k (by omega)
      · rw [up_e, upd_n _ _ (by omega)]; exact hi.2.1 k hk) 86 0 700 σ rfl (by omega) ⟨fun k hk => by omega, fun _ _ => rfl, fun _ _ => rfl⟩
  refine ⟨up g 198 5 (I (n + 1)), ?_, by rw [up_e, upd_e], fun k hk => by rw [up_e, upd_n _ _ hk, q4 198 (by omega)], fun k hk => by rw [up_n _ _ _ (by omega)]; exact q2 k hk, fun k hk => by rw [up_n _ _ _ (by omega)]; exact q3 k hk, fun a h1 h2 => by rw [up_n _ _ _ h1]; exact q4 a h2⟩
  rw [show F 700 0 σ = _ from q1, lt_d, q4 198 (by omega), h5, I_a1]
theorem r_changed {σ : Mm} (a0 : Int32) {n : Nat} (hn : n ≤ 8) (h5 : σ 198 5 = I n) (h12 : σ 198 12 = 0) : ∃ τ, f_X10_changed a0 σ = some (a0, τ) ∧ τ 198 5 = I (min 8 (n + 1)) ∧ (∀ k, k ≠ 5 → τ 198 k = σ 198 k) ∧ (∀ k, k < 86 → τ 202 (86 * (min 8 (n + 1) - 1) + k) = σ 200 k) ∧ (∀ j k, j + 1 < min 8 (n + 1) → k < 86 → τ 202 (86 * (min 8 (n + 1) - 1 - (j + 1)) + k) = σ 202 (86 * (n - 1 - j) + k)) ∧ ∀ a, a ≠ 198 → a ≠ 202 → τ a = σ a := by
  unfold f_X10_changed
  rw [h12, if_pos (by decide), h5]
  by_cases q : n = 8
  · subst q
    rw [if_pos (show I 8 = 8 from rfl), lt_d]
    obtain ⟨g, q1, q2, q3⟩ := loopI (fun m v g => f_X10_changed_l20 (fun v12 σ13 => lt (up σ13 198 5 ((σ13 198 5) - 1)) fun σ15 => f_X10_changed_l60b a0 700 0 σ15) a0 m v g) (fun g => lt (up g 198 5 ((g 198 5) - 1)) fun σ15 => f_X10_changed_l60b a0 700 0 σ15) 602 (fun v (g : Mm) => (∀ k, k < 688 → g 202 k = if k < v then σ 202 (k + 86) else σ 202 k) ∧ ∀ a, a ≠ 202 → g a = σ a) (by
        intro m g _
        rw [f_X10_changed_l20, if_pos (show (602 : Int32) ≤ I 602 by decide)]) (by
        intro m v g hv hi
        have e1 : I v + 1 = I (v + 1) := I_add v 1
        refine ⟨up g 202 v (g 202 (v + 86)), ?_, fun k hk => ?_, fun a ha => by rw [up_n _ _ _ ha]; exact hi.2 a ha⟩
        · rw [f_X10_changed_l20, if_neg (show ¬ (602 : Int32) ≤ I v from nle (N := 602) hv (by omega)), show I v + 86 = I (v + 86) from I_add v 86, gd_I (show v + 86 < 688 by omega) (by omega), gd_I (show v < 688 by omega) (by omega), I_clamp (by omega), I_clamp (by omega), lt_d, lt_d, e1]
        · rw [up_e]
          by_cases e : k = v
          · subst e; rw [upd_e, hi.1 (k + 86) (by omega), if_neg (by omega), if_pos (by omega)]
          · rw [upd_n _ _ e, hi.1 k hk]
            by_cases w : k < v
            · rw [if_pos w, if_pos (by omega)]
            · rw [if_neg w, if_neg (by omega)]) 602 0 700 σ rfl (by omega) ⟨fun k _ => by rw [if_neg (by omega)], fun _ _ => rfl⟩
    rw [show f_X10_changed_l20 _ a0 700 0 σ = _ from q1, lt_d, q3 198 (by omega), h5, show I 8 - 1 = I 7 from rfl]
    obtain ⟨τ, t1, t2, t3, t4, t5, t6⟩ := r_push (F := f_X10_changed_l60b a0) a0 (fun n v σ => by rw [f_X10_changed_l60b]) (σ := up g 198 5 (I 7)) (n := 7) (by omega) (by rw [up_e, upd_e])
    refine ⟨τ, t1, t2, fun k hk => by rw [t3 k hk, up_e, upd_n _ _ hk, q3 198 (by omega)], fun k hk => ?_, fun j k hj hk => ?_, fun a h1 h2 => by rw [t6 a h1 h2, up_n _ _ _ h1, q3 a h2]⟩
    · rw [show min 8 (8 + 1) - 1 = 7 from rfl, t4 k hk, up_n _ _ _ (by omega), q3 200 (by omega)]
    · have hj : j + 1 < 8 := hj
      show τ 202 (86 * (7 - (j + 1)) + k) = σ 202 (86 * (8 - 1 - j) + k)
      rw [t5 _ (by omega), up_n _ _ _ (by omega), q2 _ (by omega), if_pos (by omega), show 86 * (7 - (j + 1)) + k + 86 = 86 * (8 - 1 - j) + k by omega]
  · rw [if_neg (show ¬ I n = 8 from I_beq (b := 8) (by omega) (by omega) q)]
    obtain ⟨τ, t1, t2, t3, t4, t5, t6⟩ := r_push (F := f_X10_changed_l60 a0) a0 (fun n v σ => by rw [f_X10_changed_l60]) (σ := σ) (n := n) (by omega) h5
    have hm : min 8 (n + 1) = n + 1 := by omega
    rw [hm]
    refine ⟨τ, t1, t2, t3, fun k hk => ?_, fun j k hj hk => ?_, t6⟩
    · rw [show n + 1 - 1 = n by omega]; exact t4 k hk
    · rw [t5 _ (by omega), show n + 1 - 1 - (j + 1) = n - 1 - j by omega]
/-- row to row -/
theorem r_copy {β : Type} {σ0 : Mm} {F : Nat → Int32 → Mm → Option β} {K : Mm → Option β} {p q o : Nat} (hpq : p ≠ q) (hF : ∀ n v σ, (∀ a, a ≠ p → σ a = σ0 a) → F (n + 1) v σ = if 86 ≤ v then K σ else (gd v 86 (lt (up σ p v.toNatClampNeg (σ q (o + v.toNatClampNeg))) fun σ10 => lt (v + 1) fun x11 => F n x11 σ10))) :
    ∃ τ, F 90 0 σ0 = K τ ∧ (∀ k, k < 86 → τ p k = σ0 q (o + k)) ∧ ∀ a, a ≠ p → τ a = σ0 a := by
  obtain ⟨g, q1, q2, q3⟩ := loopI (fun m v g => F m v g) (fun g => K g) 86 (fun v (g : Mm) => (∀ k, k < v → g p k = σ0 q (o + k)) ∧ ∀ a, a ≠ p → g a = σ0 a) (by
      intro m g hi
      rw [hF _ _ _ hi.2, if_pos (show (86 : Int32) ≤ I 86 by decide)]) (by
      intro m v g hv hi
      have e1 : I v + 1 = I (v + 1) := I_add v 1
      refine ⟨up g p v (g q (o + v)), ?_, fun k hk => ?_, fun a ha => by rw [up_n _ _ _ ha]; exact hi.2 a ha⟩
      · rw [hF _ _ _ hi.2, if_neg (show ¬ (86 : Int32) ≤ I v from nle (N := 86) hv (by omega)), gd_I hv (by omega), I_clamp (by omega), lt_d, lt_d, e1]
      · rw [up_e]
        by_cases e : k = v
        · subst e; rw [upd_e, hi.2 q (fun z => hpq z.symm)]
        · rw [upd_n _ _ e]; exact hi.1 k (by omega)) 86 0 90 σ0 rfl (by omega) ⟨fun k hk => by omega, fun _ _ => rfl⟩
  exact ⟨g, q1, q2, q3⟩
end
section
/-! WHAT HOLDS BETWEEN THE CALLS: the class's object and the reference's object say the same -/
def hist (B : Nat) (σ : Mm) : Prop := ∃ n l : Nat, n ≤ 8 ∧ l < 8 ∧ σ 155 1 = I l ∧ σ 155 2 = I n ∧ σ 198 5 = I n ∧ ∀ k, k < n → ∃ h : Fm, ok B h ∧ rep (42 + 14 * ((l + 8 - k) % 8)) σ h ∧ ∀ j, j < 86 → σ 202 (86 * (n - 1 - k) + j) = h j
def savd (B : Nat) (σ : Mm) : Prop := (σ 154 3 = 0 ∧ σ 198 3 = 0) ∨ (σ 154 3 = 1 ∧ σ 198 3 = 1 ∧ ∃ g : Fm, ok B g ∧ rep 28 σ g ∧ ∀ k, k < 86 → σ 201 k = g k)
def refu (σ : Mm) : Prop := σ 157 0 = σ 198 6 ∧ σ 157 1 = σ 198 7 ∧ σ 157 2 = σ 198 8
def isCh (x : Int32) : Prop := ∃ c, c < 65536 ∧ x = I c
def txt (σ : Mm) : Prop := ∃ L, L ≤ 60 ∧ σ 162 3 = I L ∧ σ 198 11 = I L ∧ (∀ j, j < L → σ 163 j = σ 203 j ∧ isCh (σ 203 j)) ∧ σ 162 7 = σ 198 9
/-- the line: the builder's bytes and count, the reference's row and count -/
def lin (σ : Mm) : Prop := σ 196 1 = 0 ∧ ∃ K, K ≤ 16 ∧ σ 196 3 = I K ∧ σ 198 20 = I K ∧ ∀ j, j < K → ∃ c, c < 128 ∧ σ 197 j = I c ∧ σ 206 j = I c
def RR (B : Nat) (σ : Mm) : Prop := rep 0 σ (σ 199) ∧ ok B (σ 199) ∧ hist B σ ∧ savd B σ ∧ refu σ ∧ txt σ ∧ lin σ
theorem hist.mono {B B1 : Nat} {σ : Mm} (h : hist B σ) (hB : B ≤ B1) : hist B1 σ := by
  obtain ⟨n, l, a, b, c, d, e, r⟩ := h
  exact ⟨n, l, a, b, c, d, e, fun k hk => by obtain ⟨g, g1, g2⟩ := r k hk; exact ⟨g, g1.mono hB, g2⟩⟩
theorem savd.mono {B B1 : Nat} {σ : Mm} (h : savd B σ) (hB : B ≤ B1) : savd B1 σ := by
  rcases h with h | ⟨a, b, g, g1, g2⟩
  · exact Or.inl h
  · exact Or.inr ⟨a, b, g, g1.mono hB, g2⟩
theorem RR.mono {B B1 : Nat} {σ : Mm} (h : RR B σ) (hB : B ≤ B1) : RR B1 σ := ⟨h.1, h.2.1.mono hB, h.2.2.1.mono hB, h.2.2.2.1.mono hB, h.2.2.2.2⟩
theorem hist.move {B : Nat} {σ τ : Mm} (h : hist B σ) (e1 : ∀ a, 42 ≤ a → a < 154 → τ a = σ a) (e2 : τ 155 = σ 155) (e3 : τ 198 5 = σ 198 5) (e4 : τ 202 = σ 202) : hist B τ := by
  obtain ⟨n, l, a, b, c, d, e, r⟩ := h
  refine ⟨n, l, a, b, by rw [e2]; exact c, by rw [e2]; exact d, by rw [e3]; exact e, fun k hk => ?_⟩
  obtain ⟨g, g1, g2, g3⟩ := r k hk
  exact ⟨g, g1, g2.move (fun a h1 h2 => e1 a (by omega) (by omega)), fun j hj => by rw [e4]; exact g3 j hj⟩
theorem savd.move {B : Nat} {σ τ : Mm} (h : savd B σ) (e1 : ∀ a, 28 ≤ a → a < 42 → τ a = σ a) (e2 : τ 154 = σ 154) (e3 : τ 198 3 = σ 198 3) (e4 : τ 201 = σ 201) : savd B τ := by
  rcases h with ⟨a, b⟩ | ⟨a, b, g, g1, g2, g3⟩
  · exact Or.inl ⟨by rw [e2]; exact a, by rw [e3]; exact b⟩
  · exact Or.inr ⟨by rw [e2]; exact a, by rw [e3]; exact b, g, g1, g2.move (fun a h1 h2 => e1 a h1 (by omega)), fun k hk => by rw [e4]; exact g3 k hk⟩
theorem txt.move {σ τ : Mm} (h : txt σ) (e1 : τ 162 3 = σ 162 3) (e2 : τ 162 7 = σ 162 7) (e3 : τ 163 = σ 163) (e4 : τ 203 = σ 203) (e5 : τ 198 11 = σ 198 11) (e6 : τ 198 9 = σ 198 9) : txt τ := by
  obtain ⟨L, a, b, c, d, e⟩ := h
  exact ⟨L, a, by rw [e1]; exact b, by rw [e5]; exact c, fun j hj => by rw [e3, e4]; exact d j hj, by rw [e2, e6]; exact e⟩
theorem lin.move {σ τ : Mm} (h : lin σ) (e1 : τ 196 = σ 196) (e2 : τ 197 = σ 197) (e3 : τ 206 = σ 206) (e4 : τ 198 20 = σ 198 20) : lin τ := by
  obtain ⟨a, K, b, c, d, e⟩ := h
  exact ⟨by rw [e1]; exact a, K, b, by rw [e1]; exact c, by rw [e4]; exact d, fun j hj => by rw [e2, e3]; exact e j hj⟩
/-! the class keeps, and takes back -/
theorem m_keep {σ : Mm} {f : Fm} {B n l : Nat} (hn : n ≤ 8) (hl : l < 8) (h1 : σ 155 1 = I l) (h2 : σ 155 2 = I n) (hr : rep 14 σ f) (ho : ok B f) :
    ∃ τ, f_X2_keep σ = some τ ∧ τ 155 1 = I ((l + 1) % 8) ∧ τ 155 2 = I (min 8 (n + 1)) ∧ rep (42 + 14 * ((l + 1) % 8)) τ f ∧ ∀ a, a ≠ 155 → a < 42 + 14 * ((l + 1) % 8) ∨ 42 + 14 * ((l + 1) % 8) + 14 ≤ a → τ a = σ a := by
  have e1 : (I l + 1) - (I l + 1) / 8 * 8 = I ((l + 1) % 8) := (by decide +kernel : ∀ l, l < 8 → (I l + 1) - (I l + 1) / 8 * 8 = I ((l + 1) % 8)) l hl
  unfold f_X2_keep
  rw [h1, e1, lt_d, up_e, upd_e]
  have hb : (l + 1) % 8 < 8 := Nat.mod_lt _ (by omega)
  rw [gd_I hb (by omega), I_clamp (by omega)]
  have hr2 : rep 14 (up σ 155 1 (I ((l + 1) % 8))) f := hr.move (fun a _ _ => up_n _ _ _ (by omega))
  obtain ⟨τ, t1, t2, t3⟩ := c_copy (i := 42 + 14 * ((l + 1) % 8)) (o := 14) (by omega) hr2 ho
  have t155 : τ 155 = upd (σ 155) 1 (I ((l + 1) % 8)) := by rw [t3 155 (by omega), up_e]
  rw [t1, bnd_d, t155, upd_n _ _ (by omega), h2, lt_d]
  have e2 : (if I n + 1 < 8 then I n + 1 else (8 : Int32)) = I (min 8 (n + 1)) := by
    rw [I_a1]
    by_cases q : n + 1 < 8
    · rw [if_pos (show I (n + 1) < 8 from (I_lt (b := 8) (by omega) (by omega)).mpr q), show min 8 (n + 1) = n + 1 by omega]
    · rw [if_neg (show ¬ I (n + 1) < 8 from fun z => q ((I_lt (b := 8) (by omega) (by omega)).mp z)), show min 8 (n + 1) = 8 by omega]; rfl
  rw [e2]
  refine ⟨_, rfl, by rw [up_e, upd_n _ _ (by omega), t155, upd_e], by rw [up_e, upd_e], t2.move (fun a h1 h2 => up_n _ _ _ (by omega)), fun a h1 h2 => by rw [up_n _ _ _ h1, t3 a h2, up_n _ _ _ h1]⟩
theorem m_back {σ : Mm} {f : Fm} {B n l : Nat} (hn : n ≤ 8) (h0 : 0 < n) (hl : l < 8) (h1 : σ 155 1 = I l) (h2 : σ 155 2 = I n) (hr : rep (42 + 14 * l) σ f) (ho : ok B f) :
    ∃ τ, f_X2_takeBack σ = some τ ∧ τ 155 1 = I ((l + 7) % 8) ∧ τ 155 2 = I (n - 1) ∧ rep 0 τ f ∧ ∀ a, a ≠ 155 → 14 ≤ a → τ a = σ a := by
  have e1 : ((I l + 8) - 1) - ((I l + 8) - 1) / 8 * 8 = I ((l + 7) % 8) := (by decide +kernel : ∀ l, l < 8 → ((I l + 8) - 1) - ((I l + 8) - 1) / 8 * 8 = I ((l + 7) % 8)) l hl
  unfold f_X2_takeBack
  rw [h2, if_neg (Int32.not_le.mpr ((I_pos (by omega)).mpr h0)), h1, gd_I hl (by omega), I_clamp (by omega)]
  obtain ⟨τ, t1, t2, t3⟩ := c_copy (i := 0) (o := 42 + 14 * l) (by omega) hr ho
  have t155 : τ 155 = σ 155 := t3 155 (by omega)
  rw [t1, bnd_d, t155, h1, e1, lt_d, up_e, upd_n _ _ (by omega), t155, h2, lt_d, show I n - 1 = I (n - 1) from I_sub (b := 1) (by omega)]
  refine ⟨_, rfl, by rw [up_e, upd_n _ _ (by omega), up_e, upd_e], by rw [up_e, upd_e], t2.move (fun a _ _ => by rw [up_n _ _ _ (by omega), up_n _ _ _ (by omega)]), fun a h1 h2 => by rw [up_n _ _ _ h1, up_n _ _ _ h1, t3 a (by omega)]⟩
/-! a change: the class's call, then the reference's -/
def same1 (o : Int32 ⊕ Nat) (e : Nat) (b t : Int32) : Prop := match o with
  | .inl a => t = 0 ∧ b = a
  | .inr k => k = e ∧ t = 1
theorem op9 {σ : Mm} {B : Nat} (R : RR B σ) {cf rf : Mm → Option (Int32 × Mm)} {S : Fm → Rs} (hc : ∀ σ f, rep 0 σ f → ok B f → cOk σ (cf σ) (S f)) (hr : ∀ σ, ok B (σ 199) → rOk σ (rf σ) (S (σ 199))) (hok : ∀ f g r, ok B f → S f = .inl (r, g) → ok (B + 9) g) :
    ∃ out τ, (bnd (f_X6_copyFrom 14 0 σ) fun σ2 => bnm (cf σ2) fun q3 σ4 => xb (f_X9_settled q3 σ4) fun q5 σ6 => some (Sum.inl q5, σ6)) = some (out, τ) ∧
      ∃ b ρ, (bnd (f_X10_starts τ) fun σ2 => bnm (rf σ2) fun q3 σ4 => bnm (f_X10_changed q3 σ4) fun q5 σ6 => some (q5, σ6)) = some (b, ρ) ∧ RR (B + 9) ρ ∧ same1 out 0 b (ρ 198 12) := by
  obtain ⟨r1, r2, r3, r4, r5, r6, r7⟩ := R
  obtain ⟨f, hf⟩ : ∃ f, f = σ 199 := ⟨_, rfl⟩
  rw [← hf] at r1 r2
  obtain ⟨σ1, a1, a2, a3⟩ := c_copy (i := 14) (o := 0) (by omega) r1 r2
  have c1 := hc σ1 f (r1.move (fun a _ h => a3 a (by omega))) r2
  rw [a1, bnd_d]
  cases hS : S f with
  | inl p =>
    obtain ⟨r, g⟩ := p
    rw [hS] at c1
    obtain ⟨σ2, b1, b2, b3, b4⟩ := c1
    rw [b1, bnm_d]
    unfold f_X9_settled
    rw [if_neg b2]
    obtain ⟨n, l, n1, n2, n3, n4, n5, n6⟩ := r3
    have k155 : σ2 155 = σ 155 := by rw [b4 155 (by omega) (by omega) (by omega), a3 155 (by omega)]
    obtain ⟨σ3, k1, k2, k3, k4, k5⟩ := m_keep (σ := σ2) (f := f) (l := l) n1 n2 (by rw [k155]; exact n3) (by rw [k155]; exact n4) (a2.move (fun a h1 h2 => b4 a h1 (by omega) (by omega))) r2
    rw [k1, bnd_d]
    refine ⟨.inl r, σ3, rfl, ?_⟩
    have q : ∀ a, 28 ≤ a → a ≠ 155 → a ≠ 159 → a ≠ 160 → a < 42 ∨ 154 ≤ a → σ3 a = σ a := fun a h1 h2 h3 h4 h5 => by rw [k5 a h2 (by omega), b4 a (by omega) h3 h4, a3 a (by omega)]
    obtain ⟨σ4, s1, s2, s3, s4, s5⟩ := r_starts (σ := σ3)
    have e199 : σ4 199 = f := by rw [s5 199 (by omega) (by omega), q 199 (by omega) (by omega) (by omega) (by omega) (by omega), hf]
    have d1 := hr σ4 (by rw [e199]; exact r2)
    rw [e199, hS] at d1
    obtain ⟨σ5, d2, d3, d4⟩ := d1
    rw [s1, bnd_d, d2, bnm_d]
    have e198 : ∀ k, k ≠ 12 → σ5 198 k = σ 198 k := fun k hk => by rw [d4 198 (by omega) (by omega), s3 k hk, q 198 (by omega) (by omega) (by omega) (by omega) (by omega)]
    obtain ⟨ρ, p1, p2, p3, p4, p5, p6⟩ := r_changed (σ := σ5) r n1 (by rw [e198 5 (by omega)]; exact n5) (by rw [d4 198 (by omega) (by omega)]; exact s2)
    rw [p1, bnm_d]
    refine ⟨r, ρ, rfl, ?_, by rw [p3 12 (by omega), d4 198 (by omega) (by omega)]; exact s2, rfl⟩
    have z : ∀ a, a ≠ 198 → a ≠ 199 → a ≠ 200 → a ≠ 202 → a ≠ 204 → ρ a = σ3 a := fun a h1 h2 h3 h4 h5 => by rw [p6 a h1 h4, d4 a h2 h5, s5 a h1 h3]
    have z198 : ∀ k, k ≠ 5 → k ≠ 12 → ρ 198 k = σ 198 k := fun k h1 h2 => by rw [p3 k h1, e198 k h2]
    have z199 : ρ 199 = g := by rw [p6 199 (by omega) (by omega), d3]
    have e200 : ∀ k, k < 86 → σ5 200 k = f k := fun k hk => by rw [d4 200 (by omega) (by omega), s4 k hk, q 199 (by omega) (by omega) (by omega) (by omega) (by omega), hf]
    have e202 : σ5 202 = σ 202 := by rw [d4 202 (by omega) (by omega), s5 202 (by omega) (by omega), q 202 (by omega) (by omega) (by omega) (by omega) (by omega)]
    refine ⟨?_, ?_, ?_, ?_, ?_, ?_, ?_⟩
    · rw [z199]
      exact b3.move (fun a _ h => by rw [z a (by omega) (by omega) (by omega) (by omega) (by omega), k5 a (by omega) (by omega)])
    · rw [z199]; exact hok f g r r2 hS
    · have hb : (l + 1) % 8 < 8 := Nat.mod_lt _ (by omega)
      refine ⟨min 8 (n + 1), (l + 1) % 8, by omega, hb, by rw [z 155 (by omega) (by omega) (by omega) (by omega) (by omega)]; exact k2, by rw [z 155 (by omega) (by omega) (by omega) (by omega) (by omega)]; exact k3, p2, fun k hk => ?_⟩
      cases k with
      | zero =>
        refine ⟨f, r2.mono (by omega), ?_, fun j hj => ?_⟩
        · rw [show ((l + 1) % 8 + 8 - 0) % 8 = (l + 1) % 8 by omega]
          exact k4.move (fun a h1 h2 => z a (by omega) (by omega) (by omega) (by omega) (by omega))
        · rw [Nat.sub_zero, p4 j hj, e200 j hj]
      | succ k =>
        obtain ⟨h, h1, h2, h3⟩ := n6 k (by omega)
        refine ⟨h, h1.mono (by omega), ?_, fun j hj => ?_⟩
        · have e : ((l + 1) % 8 + 8 - (k + 1)) % 8 = (l + 8 - k) % 8 := by omega
          have ne : (l + 8 - k) % 8 ≠ (l + 1) % 8 := by omega
          rw [e]
          exact h2.move (fun a g1 g2 => by rw [z a (by omega) (by omega) (by omega) (by omega) (by omega), k5 a (by omega) (by omega), b4 a (by omega) (by omega) (by omega), a3 a (by omega)])
        · rw [p5 k j hk hj, e202]; exact h3 j hj
    · exact (r4.mono (by omega)).move (fun a h1 h2 => by rw [z a (by omega) (by omega) (by omega) (by omega) (by omega), q a (by omega) (by omega) (by omega) (by omega) (by omega)]) (by rw [z 154 (by omega) (by omega) (by omega) (by omega) (by omega), q 154 (by omega) (by omega) (by omega) (by omega) (by omega)]) (z198 3 (by omega) (by omega)) (by rw [z 201 (by omega) (by omega) (by omega) (by omega) (by omega), q 201 (by omega) (by omega) (by omega) (by omega) (by omega)])
    · unfold refu
      rw [z198 6 (by omega) (by omega), z198 7 (by omega) (by omega), z198 8 (by omega) (by omega), z 157 (by omega) (by omega) (by omega) (by omega) (by omega), q 157 (by omega) (by omega) (by omega) (by omega) (by omega)]
      exact r5
    · have z2 : ∀ a, 162 ≤ a → a ≠ 198 → a ≠ 199 → a ≠ 200 → a ≠ 202 → a ≠ 204 → ρ a = σ a := fun a h1 h2 h3 h4 h5 h6 => by rw [z a h2 h3 h4 h5 h6, q a (by omega) (by omega) (by omega) (by omega) (by omega)]
      exact r6.move (by rw [z2 162 (by omega) (by omega) (by omega) (by omega) (by omega) (by omega)]) (by rw [z2 162 (by omega) (by omega) (by omega) (by omega) (by omega) (by omega)]) (z2 163 (by omega) (by omega) (by omega) (by omega) (by omega) (by omega)) (z2 203 (by omega) (by omega) (by omega) (by omega) (by omega) (by omega)) (z198 11 (by omega) (by omega)) (z198 9 (by omega) (by omega))
    · have z2 : ∀ a, 162 ≤ a → a ≠ 198 → a ≠ 199 → a ≠ 200 → a ≠ 202 → a ≠ 204 → ρ a = σ a := fun a h1 h2 h3 h4 h5 h6 => by rw [z a h2 h3 h4 h5 h6, q a (by omega) (by omega) (by omega) (by omega) (by omega)]
      exact r7.move (z2 196 (by omega) (by omega) (by omega) (by omega) (by omega) (by omega)) (z2 197 (by omega) (by omega) (by omega) (by omega) (by omega) (by omega)) (z2 206 (by omega) (by omega) (by omega) (by omega) (by omega) (by omega)) (z198 20 (by omega) (by omega))
  | inr p =>
    obtain ⟨n, d⟩ := p
    rw [hS] at c1
    obtain ⟨σ2, b1, b2, b3⟩ := c1
    rw [b1, bnm_d]
    unfold f_X9_settled
    rw [if_pos rfl]
    refine ⟨.inr 0, σ2, rfl, ?_⟩
    have q : ∀ a, a < 14 ∨ 28 ≤ a → a ≠ 157 → a ≠ 159 → a ≠ 160 → σ2 a = σ a := fun a h1 h2 h3 h4 => by rw [b3 a h2 h3 h4, a3 a (by omega)]
    obtain ⟨σ4, s1, s2, s3, s4, s5⟩ := r_starts (σ := σ2)
    have e199 : σ4 199 = f := by rw [s5 199 (by omega) (by omega), q 199 (by omega) (by omega) (by omega) (by omega), hf]
    have d1 := hr σ4 (by rw [e199]; exact r2)
    rw [e199, hS] at d1
    obtain ⟨ρ, d2, ⟨d3, d4, d5, d6⟩, d7, d8⟩ := d1
    rw [s1, bnd_d, d2, bnm_d]
    have hch : f_X10_changed (-1) ρ = some (-1, ρ) := by
      unfold f_X10_changed
      rw [d6, if_neg (by decide)]
    rw [hch, bnm_d]
    refine ⟨-1, ρ, rfl, ?_, rfl, d6⟩
    have z : ∀ a, a < 14 ∨ 28 ≤ a → a ≠ 157 → a ≠ 159 → a ≠ 160 → a ≠ 198 → a ≠ 200 → a ≠ 204 → ρ a = σ a := fun a h0 h1 h2 h3 h4 h5 h6 => by rw [d8 a h4 h6, s5 a h4 h5, q a h0 h1 h2 h3]
    have z198 : ∀ k, k < 6 ∨ 8 < k → k ≠ 12 → ρ 198 k = σ 198 k := fun k h1 h2 => by rw [d7 k h1 h2, s3 k h2, q 198 (by omega) (by omega) (by omega) (by omega)]
    have z199 : ρ 199 = f := by rw [z 199 (by omega) (by omega) (by omega) (by omega) (by omega) (by omega) (by omega), hf]
    refine ⟨?_, ?_, ?_, ?_, ?_, ?_, ?_⟩
    · rw [z199]
      exact r1.move (fun a _ h => z a (by omega) (by omega) (by omega) (by omega) (by omega) (by omega) (by omega))
    · rw [z199]; exact r2.mono (by omega)
    · exact (r3.mono (by omega)).move (fun a h1 h2 => z a (by omega) (by omega) (by omega) (by omega) (by omega) (by omega) (by omega)) (z 155 (by omega) (by omega) (by omega) (by omega) (by omega) (by omega) (by omega)) (z198 5 (by omega) (by omega)) (z 202 (by omega) (by omega) (by omega) (by omega) (by omega) (by omega) (by omega))
    · exact (r4.mono (by omega)).move (fun a h1 h2 => z a (by omega) (by omega) (by omega) (by omega) (by omega) (by omega) (by omega)) (z 154 (by omega) (by omega) (by omega) (by omega) (by omega) (by omega) (by omega)) (z198 3 (by omega) (by omega)) (z 201 (by omega) (by omega) (by omega) (by omega) (by omega) (by omega) (by omega))
    · have e157 : ρ 157 = σ2 157 := by rw [d8 157 (by omega) (by omega), s5 157 (by omega) (by omega)]
      unfold refu
      rw [e157, b2.1, b2.2.1, b2.2.2, d3, d4, d5]
      exact ⟨rfl, rfl, rfl⟩
    · have z2 : ∀ a, 162 ≤ a → a ≠ 198 → a ≠ 200 → a ≠ 204 → ρ a = σ a := fun a h1 h2 h3 h4 => z a (by omega) (by omega) (by omega) (by omega) h2 h3 h4
      exact r6.move (by rw [z2 162 (by omega) (by omega) (by omega) (by omega)]) (by rw [z2 162 (by omega) (by omega) (by omega) (by omega)]) (z2 163 (by omega) (by omega) (by omega) (by omega)) (z2 203 (by omega) (by omega) (by omega) (by omega)) (z198 11 (by omega) (by omega)) (z198 9 (by omega) (by omega))
    · have z2 : ∀ a, 162 ≤ a → a ≠ 198 → a ≠ 200 → a ≠ 204 → ρ a = σ a := fun a h1 h2 h3 h4 => z a (by omega) (by omega) (by omega) (by omega) h2 h3 h4
      exact r7.move (z2 196 (by omega) (by omega) (by omega) (by omega)) (z2 197 (by omega) (by omega) (by omega) (by omega)) (z2 206 (by omega) (by omega) (by omega) (by omega)) (z198 20 (by omega) (by omega))
/-! the nine calls -/
theorem q_hedge {σ : Mm} {B : Nat} (R : RR B σ) (a b c : Int32) : ∃ out τ, f_X9_hedge a b c σ = some (out, τ) ∧ ∃ r ρ, f_X10_hedge a b c τ = some (r, ρ) ∧ RR (B + 9) ρ ∧ same1 out 0 r (ρ 198 12) :=
  op9 R (cf := f_X3_tellLeaves a b c) (rf := f_X10_hedgeIt a b c) (S := S_hedge a b c) (fun _ _ h ho => c_hedge a b c h ho) (fun _ _ => r_hedge a b c) (fun _ _ _ ho h => ok_hedge ho h)
theorem q_trim {σ : Mm} {B : Nat} (R : RR B σ) (a b c : Int32) : ∃ out τ, f_X9_trim a b c σ = some (out, τ) ∧ ∃ r ρ, f_X10_trim a b c τ = some (r, ρ) ∧ RR (B + 9) ρ ∧ same1 out 0 r (ρ 198 12) :=
  op9 R (cf := f_X3_trimHedge a b c) (rf := f_X10_trimIt a b c) (S := S_trim a b c) (fun _ _ h ho => c_trim a b c h ho) (fun _ ho => r_trim a b c ho) (fun _ _ _ ho h => ok_trim ho h)
theorem q_minotaur {σ : Mm} {B : Nat} (R : RR B σ) (a : Int32) : ∃ out τ, f_X9_minotaur a σ = some (out, τ) ∧ ∃ r ρ, f_X10_minotaur a τ = some (r, ρ) ∧ RR (B + 9) ρ ∧ same1 out 0 r (ρ 198 12) :=
  op9 R (cf := f_X3_placeMinotaur a) (rf := f_X10_minotaurIt a) (S := S_mino a) (fun _ _ h ho => c_mino a h ho) (fun _ ho => r_mino a ho) (fun _ _ _ ho h => ok_mino ho h)
theorem q_gardener {σ : Mm} {B : Nat} (R : RR B σ) (a : Int32) : ∃ out τ, f_X9_gardener a σ = some (out, τ) ∧ ∃ r ρ, f_X10_gardener a τ = some (r, ρ) ∧ RR (B + 9) ρ ∧ same1 out 0 r (ρ 198 12) :=
  op9 R (cf := f_X3_admitGardener a) (rf := f_X10_gardenerIt a) (S := S_gard a) (fun _ _ h ho => c_gard a h ho) (fun _ ho => r_gard a ho) (fun _ _ _ ho h => ok_gard ho h)
theorem q_visitor {σ : Mm} {B : Nat} (R : RR B σ) (a : Int32) : ∃ out τ, f_X9_visitor a σ = some (out, τ) ∧ ∃ r ρ, f_X10_visitor a τ = some (r, ρ) ∧ RR (B + 9) ρ ∧ same1 out 0 r (ρ 198 12) :=
  op9 R (cf := f_X3_admitVisitor a) (rf := f_X10_visitorIt a) (S := S_visi a) (fun _ _ h ho => c_visi a h ho) (fun _ ho => r_visi a ho) (fun _ _ _ ho h => ok_visi ho h)
theorem q_bond {σ : Mm} {B : Nat} (R : RR B σ) (a b c : Int32) : ∃ out τ, f_X9_bond a b c σ = some (out, τ) ∧ ∃ r ρ, f_X10_bond a b c τ = some (r, ρ) ∧ RR (B + 9) ρ ∧ same1 out 0 r (ρ 198 12) :=
  op9 R (cf := f_X3_giveBond a b c) (rf := f_X10_bondIt a b c) (S := S_bond a b c) (fun _ _ h ho => c_bond a b c h ho) (fun _ ho => r_bond a b c ho) (fun _ _ _ ho h => ok_bond ho h)
theorem q_walk {σ : Mm} {B : Nat} (hB : B + 9 ≤ 1000000) (R : RR B σ) (a b : Int32) : ∃ out τ, f_X9_walk a b σ = some (out, τ) ∧ ∃ r ρ, f_X10_walk a b τ = some (r, ρ) ∧ RR (B + 9) ρ ∧ same1 out 0 r (ρ 198 12) :=
  op9 R (cf := f_X3_moveVisitor a b) (rf := f_X10_walkIt a b) (S := S_walk a b) (fun _ _ h ho => c_walk hB a b h ho) (fun _ ho => r_walk hB a b ho) (fun _ _ _ ho h => ok_walk hB ho h)
theorem q_rest {σ : Mm} {B : Nat} (hB : B + 9 ≤ 1000000) (R : RR B σ) (a b : Int32) : ∃ out τ, f_X9_rest a b σ = some (out, τ) ∧ ∃ r ρ, f_X10_rest a b τ = some (r, ρ) ∧ RR (B + 9) ρ ∧ same1 out 0 r (ρ 198 12) :=
  op9 R (cf := f_X3_restVisitor a b) (rf := f_X10_restIt a b) (S := S_rest a b) (fun _ _ h ho => c_rest (by omega) a b h ho) (fun _ ho => r_rest a b ho) (fun _ _ _ ho h => ok_rest ho h)
theorem q_summer {σ : Mm} {B : Nat} (R : RR B σ) : ∃ out τ, f_X9_summer σ = some (out, τ) ∧ ∃ r ρ, f_X10_summer τ = some (r, ρ) ∧ RR (B + 9) ρ ∧ same1 out 0 r (ρ 198 12) :=
  op9 R (cf := f_X3_passSummer) (rf := f_X10_summerIt) (S := S_summer) (fun _ _ h ho => c_summer h ho) (fun _ _ => r_summer) (fun _ _ _ ho h => ok_summer ho h)
end
section
/-! QUESTIONS about the maze -/
theorem RR.same {B : Nat} {σ τ : Mm} (h : RR B σ) (e1 : ∀ a, a ≠ 159 → a ≠ 160 → a ≠ 198 → a ≠ 204 → τ a = σ a) (e2 : ∀ k, k ≠ 12 → τ 198 k = σ 198 k) : RR B τ := by
  obtain ⟨r1, r2, r3, r4, r5, r6, r7⟩ := h
  have e199 : τ 199 = σ 199 := e1 199 (by omega) (by omega) (by omega) (by omega)
  refine ⟨by rw [e199]; exact r1.move (fun a _ h => e1 a (by omega) (by omega) (by omega) (by omega)), by rw [e199]; exact r2, r3.move (fun a h1 h2 => e1 a (by omega) (by omega) (by omega) (by omega)) (e1 155 (by omega) (by omega) (by omega) (by omega)) (e2 5 (by omega)) (e1 202 (by omega) (by omega) (by omega) (by omega)), r4.move (fun a h1 h2 => e1 a (by omega) (by omega) (by omega) (by omega)) (e1 154 (by omega) (by omega) (by omega) (by omega)) (e2 3 (by omega)) (e1 201 (by omega) (by omega) (by omega) (by omega)), ?_, r6.move (by rw [e1 162 (by omega) (by omega) (by omega) (by omega)]) (by rw [e1 162 (by omega) (by omega) (by omega) (by omega)]) (e1 163 (by omega) (by omega) (by omega) (by omega)) (e1 203 (by omega) (by omega) (by omega) (by omega)) (e2 11 (by omega)) (e2 9 (by omega)), r7.move (e1 196 (by omega) (by omega) (by omega) (by omega)) (e1 197 (by omega) (by omega) (by omega) (by omega)) (e1 206 (by omega) (by omega) (by omega) (by omega)) (e2 20 (by omega))⟩
  unfold refu
  rw [e1 157 (by omega) (by omega) (by omega) (by omega), e2 6 (by omega), e2 7 (by omega), e2 8 (by omega)]
  exact r5
def same2 (o : Int32 ⊕ Nat) (e1 e2 : Nat) (b t : Int32) : Prop := match o with
  | .inl a => t = 0 ∧ b = a
  | .inr k => (k = e1 ∧ t = 1) ∨ (k = e2 ∧ t = 2)
theorem RR.thr {B : Nat} {σ : Mm} (h : RR B σ) (x : Int32) : RR B (up σ 198 12 x) := h.same (fun a _ _ h _ => up_n _ _ _ h) (fun k hk => by rw [up_e, upd_n _ _ hk])
theorem r_thr (x : Int32) (σ : Mm) : f_X10_throwing x σ = some (-1, up σ 198 12 x) := rfl
theorem c_cells {a b : Int32} {σ : Mm} : (∃ u v, u < 16 ∧ v < 16 ∧ a = I u ∧ b = I v ∧ f_X9_demandCells a b σ = some (.inl (), σ) ∧ f_X10_areCells a b σ = some (1, up σ 198 12 0)) ∨ (f_X9_demandCells a b σ = some (.inr 1, σ) ∧ f_X10_areCells a b σ = some (0, up σ 198 12 1)) := by
  unfold f_X9_demandCells f_X10_areCells
  rw [m_cellx, bnd_d, n_cellx, bnd_d]
  rcases ix_cases a (N := 16) (by omega) with ⟨u, h1, h2, h3⟩ | ⟨h1, h3⟩
  · rw [h3]
    dsimp only
    rw [if_neg one_ne, if_neg one_ne, m_cellx, bnd_d, n_cellx, bnd_d]
    rcases ix_cases b (N := 16) (by omega) with ⟨v, k1, k2, k3⟩ | ⟨k1, k3⟩
    · rw [k3]
      dsimp only
      rw [if_neg one_ne, if_neg one_ne, lt_d, up_e, upd_e, if_pos rfl]
      exact Or.inl ⟨u, v, h1, k1, h2, k2, rfl, rfl⟩
    · rw [k3]
      dsimp only
      rw [if_pos rfl, if_pos rfl, lt_d, up_e, upd_e, if_neg one_ne]
      exact Or.inr ⟨rfl, rfl⟩
  · rw [h3]
    dsimp only
    rw [if_pos rfl, if_pos rfl, lt_d, up_e, upd_e, if_neg one_ne]
    exact Or.inr ⟨rfl, rfl⟩
theorem c_asked {u v : Nat} (hu : u < 16) (hv : v < 16) {σ : Mm} (hc : f_X9_demandCells (I u) (I v) σ = some (.inl (), σ)) : f_X9_hedgeAsked (I u) (I v) σ = some (match hN u v with | none => .inr 2 | some h => .inl (I h), σ) := by
  unfold f_X9_hedgeAsked
  rw [hc, xb_d, m_between hu hv, bnd_d]
  cases e : hN u v with
  | none => rfl
  | some h =>
    rw [show oI (some h) = I h from rfl, if_neg (nm1 (by have := (hN_ed e).1; omega))]
theorem c_asked0 {a b : Int32} {σ : Mm} (hc : f_X9_demandCells a b σ = some (.inr 1, σ)) : f_X9_hedgeAsked a b σ = some (.inr 1, σ) := by
  unfold f_X9_hedgeAsked
  rw [hc, xb_n]
theorem q_leaves {σ : Mm} {B : Nat} (R : RR B σ) (a b : Int32) : ∃ out τ, f_X9_leaves a b σ = some (out, τ) ∧ ∃ r ρ, f_X10_leaves a b τ = some (r, ρ) ∧ RR B ρ ∧ same2 out 1 2 r (ρ 198 12) := by
  unfold f_X9_leaves f_X10_leaves
  rcases c_cells (a := a) (b := b) (σ := σ) with ⟨u, v, hu, hv, rfl, rfl, h1, h2⟩ | ⟨h1, h2⟩
  · rw [c_asked hu hv h1]
    cases e : hN u v with
    | none =>
      dsimp only
      rw [xb_n]
      refine ⟨_, _, rfl, ?_⟩
      rw [h2, bnm_d, if_neg one_ne, n_hedge hu hv, e, bnd_d, if_pos (show o6 none = -1 from rfl), r_thr, bnm_d]
      exact ⟨_, _, rfl, (R.thr 0).thr 2, Or.inr ⟨rfl, by rw [up_e, upd_e]⟩⟩
    | some h =>
      have hh := (hN_ed e).1
      dsimp only
      rw [xb_d, m_leaves hh, bnd_d]
      refine ⟨_, _, rfl, ?_⟩
      rw [h2, bnm_d, if_neg one_ne, n_hedge hu hv, e, bnd_d, show o6 (some h) = I (6 + h) from rfl, if_neg (nm1 (by omega)), gd_I (by omega) (by omega), I_clamp (by omega), up_n _ _ _ (by omega)]
      exact ⟨_, _, rfl, R.thr 0, by rw [up_e, upd_e], (R.1.getL hh).symm⟩
  · rw [c_asked0 h1, xb_n]
    refine ⟨_, _, rfl, ?_⟩
    rw [h2, bnm_d, if_pos rfl]
    exact ⟨_, _, rfl, R.thr 1, Or.inl ⟨rfl, by rw [up_e, upd_e]⟩⟩
def opB (f : Fm) (o : Option Nat) : Int32 := match o with
  | none => 0
  | some g => if gX f g = true then 1 else 0
theorem c_openx {σ : Mm} {f : Fm} (h : rep 0 σ f) {o : Option Nat} (ho : ∀ x, o = some x → x < 24) : f_X4_isOpen (oI o) σ = some (opB f o) := by
  cases o with
  | none => rfl
  | some g =>
    have hg := ho g rfl
    rw [show oI (some g) = I g from rfl, m_open hg, h.getL hg]
    unfold opB gX
    by_cases q : (5 : Int32) ≤ f (6 + g) <;> simp [q]
theorem r_openx {σ : Mm} {o : Option Nat} (ho : ∀ x, o = some x → x < 24) : f_X10_isGapAt (o6 o) σ = some (opB (σ 199) o) := by
  cases o with
  | none => rfl
  | some g => exact n_gap (ho g rfl)
theorem q_isGap {σ : Mm} {B : Nat} (e2 : Nat) (R : RR B σ) (a b : Int32) : ∃ out τ, f_X9_isGap a b σ = some (out, τ) ∧ ∃ r ρ, f_X10_isGap a b τ = some (r, ρ) ∧ RR B ρ ∧ same2 out 1 e2 r (ρ 198 12) := by
  unfold f_X9_isGap f_X10_isGap
  rcases c_cells (a := a) (b := b) (σ := σ) with ⟨u, v, hu, hv, rfl, rfl, h1, h2⟩ | ⟨h1, h2⟩
  · have ho : ∀ x, hN u v = some x → x < 24 := fun x q => (hN_ed q).1
    rw [h1, xb_d, m_between hu hv, bnd_d, c_openx R.1 ho, bnd_d]
    obtain ⟨w, hw, hz⟩ : ∃ w : Int32, w = opB (σ 199) (hN u v) ∧ (w = 0 ∨ w = 1) := by
      refine ⟨_, rfl, ?_⟩
      cases hN u v with
      | none => exact Or.inl rfl
      | some g => unfold opB; dsimp only; split; exact Or.inr rfl; exact Or.inl rfl
    rw [← hw, bz_ok hz]
    refine ⟨_, _, rfl, ?_⟩
    rw [h2, bnm_d, if_neg one_ne, n_hedge hu hv, bnd_d, r_openx ho, bnd_d, up_n _ _ _ (show 199 ≠ 198 by omega), ← hw]
    rcases hz with hz | hz <;> rw [hz]
    · rw [if_pos rfl]
      exact ⟨_, _, rfl, R.thr 0, by rw [up_e, upd_e], rfl⟩
    · rw [if_neg one_ne]
      exact ⟨_, _, rfl, R.thr 0, by rw [up_e, upd_e], rfl⟩
  · rw [h1, xb_n]
    refine ⟨_, _, rfl, ?_⟩
    rw [h2, bnm_d, if_pos rfl]
    exact ⟨_, _, rfl, R.thr 1, Or.inl ⟨rfl, by rw [up_e, upd_e]⟩⟩
/-! hours -/
theorem hours_tail {σ τ : Mm} {B u v : Nat} (R : RR B σ) (hu : u < 16) (hv : v < 16) (h2 : f_X10_areCells (I u) (I v) τ = some (1, up τ 198 12 0)) (ht : ∀ a, a ≠ 159 → a ≠ 160 → τ a = σ a) :
    ∃ r ρ, f_X10_hours (I u) (I v) τ = some (r, ρ) ∧ RR B ρ ∧ ((dX (σ 199) u v < 1000 ∧ ρ 198 12 = 0 ∧ r = I (dX (σ 199) u v)) ∨ (dX (σ 199) u v = 1000 ∧ ρ 198 12 = 2)) := by
  unfold f_X10_hours
  obtain ⟨τ2, t1, t2⟩ := r_hours (σ := up τ 198 12 0) hu hv
  have e199 : (up τ 198 12 0) 199 = σ 199 := by rw [up_n _ _ _ (by omega)]; exact ht 199 (by omega) (by omega)
  rw [h2, bnm_d, if_neg one_ne, t1, bnm_d, e199]
  have Rτ : RR B τ2 := R.same (fun a h1 h2 h3 h4 => by rw [t2 a h4, up_n _ _ _ h3, ht a h1 h2]) (fun k hk => by rw [t2 198 (by omega), up_e, upd_n _ _ hk, ht 198 (by omega) (by omega)])
  rcases dX_lt (σ 199) (s := u) (v := v) hu with q | q
  · rw [if_pos (show dX (σ 199) u v < 1000 by omega), if_neg (nm1 (by omega))]
    exact ⟨_, _, rfl, Rτ, Or.inl ⟨by omega, by rw [t2 198 (by omega), up_e, upd_e], rfl⟩⟩
  · rw [if_neg (show ¬ dX (σ 199) u v < 1000 by omega), if_pos rfl, r_thr, bnm_d]
    exact ⟨_, _, rfl, Rτ.thr 2, Or.inr ⟨q, by rw [up_e, upd_e]⟩⟩
theorem hours_fin {f : Fm} {u v : Nat} (hu : u < 16) {σ : Mm} {r t : Int32} (h : (dX f u v < 1000 ∧ t = 0 ∧ r = I (dX f u v)) ∨ (dX f u v = 1000 ∧ t = 2)) : ∃ out, f_X9_demandWay (I (dX f u v)) σ = some (out, σ) ∧ same2 out 1 2 r t := by
  unfold f_X9_demandWay
  rcases h with ⟨q, h1, h2⟩ | ⟨q, h1⟩
  · rw [if_pos (show I (dX f u v) < 1000 from (I_lt (b := 1000) (by omega) (by omega)).mpr q)]
    exact ⟨_, rfl, h1, h2⟩
  · rw [q, if_neg (show ¬ I 1000 < 1000 by decide)]
    exact ⟨_, rfl, Or.inr ⟨rfl, h1⟩⟩
theorem q_hours {σ : Mm} {B : Nat} (R : RR B σ) (a b : Int32) : ∃ out τ, f_X9_hours a b σ = some (out, τ) ∧ ∃ r ρ, f_X10_hours a b τ = some (r, ρ) ∧ RR B ρ ∧ same2 out 1 2 r (ρ 198 12) := by
  unfold f_X9_hours
  rcases c_cells (a := a) (b := b) (σ := σ) with ⟨u, v, hu, hv, rfl, rfl, h1, h2⟩ | ⟨h1, h2⟩
  · obtain ⟨τ, t1, t2⟩ := c_hours R.1 hu hv
    have h3 : f_X10_areCells (I u) (I v) τ = some (1, up τ 198 12 0) := by
      rcases c_cells (a := I u) (b := I v) (σ := τ) with ⟨-, -, -, -, -, -, -, h⟩ | ⟨h, -⟩
      · exact h
      · unfold f_X9_demandCells at h
        rw [m_cell hu, bnd_d, if_neg one_ne, m_cell hv, bnd_d, if_neg one_ne] at h
        cases h
    obtain ⟨r, ρ, p1, p2, p3⟩ := hours_tail R hu hv h3 t2
    obtain ⟨out, o1, o2⟩ := hours_fin hu (σ := τ) p3
    rw [h1, xb_d, t1, bnm_d, o1]
    exact ⟨_, _, by cases out <;> rfl, r, ρ, p1, p2, o2⟩
  · rw [h1, xb_n]
    refine ⟨_, _, rfl, ?_⟩
    unfold f_X10_hours
    rw [h2, bnm_d, if_pos rfl]
    exact ⟨_, _, rfl, R.thr 1, Or.inl ⟨rfl, by rw [up_e, upd_e]⟩⟩
theorem q_hoursAgain {σ : Mm} {B : Nat} (R : RR B σ) (a b : Int32) : ∃ out τ, f_X9_hoursAgain a b σ = some (out, τ) ∧ ∃ r ρ, f_X10_hoursAgain a b τ = some (r, ρ) ∧ RR B ρ ∧ same2 out 1 2 r (ρ 198 12) := by
  unfold f_X9_hoursAgain f_X10_hoursAgain
  rcases c_cells (a := a) (b := b) (σ := σ) with ⟨u, v, hu, hv, rfl, rfl, h1, h2⟩ | ⟨h1, h2⟩
  · obtain ⟨τ, t1, t2⟩ := m_again (σ := σ) hu hv
    rw [dst_congr R.1.toC] at t1
    have t1 : f_X8_hoursByNeighbours (I u) (I v) σ = some (I (dX (σ 199) u v), τ) := t1
    have h3 : f_X10_areCells (I u) (I v) τ = some (1, up τ 198 12 0) := by
      rcases c_cells (a := I u) (b := I v) (σ := τ) with ⟨-, -, -, -, -, -, -, h⟩ | ⟨h, -⟩
      · exact h
      · unfold f_X9_demandCells at h
        rw [m_cell hu, bnd_d, if_neg one_ne, m_cell hv, bnd_d, if_neg one_ne] at h
        cases h
    obtain ⟨r, ρ, p1, p2, p3⟩ := hours_tail R hu hv h3 (fun a h _ => t2 a h)
    obtain ⟨out, o1, o2⟩ := hours_fin hu (σ := τ) p3
    rw [h1, xb_d, t1, bnm_d, o1]
    refine ⟨_, _, by cases out <;> rfl, r, ρ, ?_, p2, o2⟩
    rw [p1, bnm_d]
  · rw [h1, xb_n]
    refine ⟨_, _, rfl, ?_⟩
    unfold f_X10_hours
    rw [h2, bnm_d, if_pos rfl, bnm_d]
    exact ⟨_, _, rfl, R.thr 1, Or.inl ⟨rfl, by rw [up_e, upd_e]⟩⟩
/-! the next cell, the cells reached, trims -/
theorem r_cells1 {u v : Nat} (hu : u < 16) (hv : v < 16) (τ : Mm) : f_X10_areCells (I u) (I v) τ = some (1, up τ 198 12 0) := by
  rcases c_cells (a := I u) (b := I v) (σ := τ) with ⟨-, -, -, -, -, -, -, h⟩ | ⟨h, -⟩
  · exact h
  · unfold f_X9_demandCells at h
    rw [m_cell hu, bnd_d, if_neg one_ne, m_cell hv, bnd_d, if_neg one_ne] at h
    cases h
theorem q_next {σ : Mm} {B : Nat} (R : RR B σ) (a : Int32) : ∃ out τ, f_X9_next a σ = some (out, τ) ∧ ∃ r ρ, f_X10_next a τ = some (r, ρ) ∧ RR B ρ ∧ same2 out 1 2 r (ρ 198 12) := by
  unfold f_X9_next f_X10_next
  rcases c_cells (a := a) (b := a) (σ := σ) with ⟨u, v, hu, hv, rfl, -, h1, h2⟩ | ⟨h1, h2⟩
  · obtain ⟨o, τ, D, t1, t2, t3, t4, t5⟩ := m_step (σ := σ) hu
    rw [h1, xb_d, t1, bnm_d]
    obtain ⟨ρ1, E, p1, p2, p3, p4⟩ := m_lays (σ0 := up τ 198 12 0) (tr := false) (s := 15) (by omega)
    have p1 : f_X10_laysWays 15 0 (up τ 198 12 0) = some ρ1 := p1
    have e199 : ρ1 199 = σ 199 := by rw [p4 199 (by omega), up_n _ _ _ (by omega), t5 199 (by omega) (by omega)]
    have hp : ∀ g, g < 24 → gC σ g = gapR (up τ 198 12 0) g := fun g hg => by
      rw [R.1.toG g hg]; unfold gX gapR; rw [up_n _ _ _ (by omega), t5 199 (by omega) (by omega)]
    have hp1 : ∀ g, gapR ρ1 g = gapR (up τ 198 12 0) g := fun g => by unfold gapR; rw [p4 199 (by omega)]
    have Rρ : RR B ρ1 := R.same (fun a h1 h2 h3 h4 => by rw [p4 a h4, up_n _ _ _ h3, t5 a h1 h2]) (fun k hk => by rw [p4 198 (by omega), up_e, upd_n _ _ hk, t5 198 (by omega) (by omega)])
    have z12 : ρ1 198 12 = 0 := by rw [p4 198 (by omega), up_e, upd_e]
    by_cases q : E u < 99 ∧ u ≠ 15
    · have hex : ∃ x, x < 16 ∧ good (gapR ρ1) E u x := by
        obtain ⟨x, x1, g, g1, g2, g3⟩ := good_ex (p := gapR (up τ 198 12 0)) (fun h w hc => by
          unfold cR at hc
          rw [if_neg (by decide)] at hc
          by_cases y : gapR (up τ 198 12 0) h = true
          · rw [if_pos y] at hc; cases hc; exact ⟨rfl, y⟩
          · rw [if_neg y] at hc; cases hc) (by omega) p3 hu q.1 q.2
        exact ⟨x, x1, g, g1, by rw [hp1]; exact g2, g3⟩
      obtain ⟨x, x1, x2, x3⟩ := n_next2 (σ := ρ1) hu p2 q.1 hex
      have eo : o = some x := isLeast_uniq (P := fun x => D u < 1000 ∧ good (gC σ) D u x) (Q := good (gapR ρ1) E u) (fun y => by
        rw [next_eq hp t2 p3 hu q.1 y]
        constructor
        · rintro ⟨g, g1, g2, g3⟩; exact ⟨g, g1, by rw [hp1]; exact g2, g3⟩
        · rintro ⟨g, g1, g2, g3⟩; exact ⟨g, g1, by rw [hp1] at g2; exact g2, g3⟩) t4 x3
      subst eo
      rw [show oI (some x) = I x from rfl, if_neg (nm1 (by omega))]
      refine ⟨_, _, rfl, ?_⟩
      rw [r_cells1 hu hu, bnm_d, if_neg one_ne, p1, bnd_d, if_neg (show ¬ I u = 15 from I_beq (b := 15) (by omega) (by omega) q.2), gd_I hu (by omega), I_clamp (by omega), (p2 u hu).1, if_pos (show I (E u) < 99 from (I_lt (b := 99) (by omega) (by omega)).mpr q.1), x2]
      exact ⟨_, _, rfl, Rρ, z12, rfl⟩
    · have eo : o = none := by
        cases o with
        | none => rfl
        | some x =>
          exfalso
          obtain ⟨⟨x1, g, g1, g2, g3⟩, -⟩ := t4
          apply q
          have hDu := t2 u hu
          have hEu := p3 u hu
          have hc : ∀ g, g < 24 → cH σ g = cR (up τ 198 12 0) false g := fun g hg => by
            have := hp g hg
            unfold cH cR
            rw [← this]
            unfold gC
            by_cases y : (5 : Int32) ≤ σ 2 g <;> simp [y]
          refine ⟨?_, ?_⟩
          · rcases hEu with ⟨y, -⟩ | ⟨-, y⟩
            · exact y
            · rcases hDu with ⟨-, y2⟩ | ⟨y2, -⟩
              · exact (isD_congr hc y2).no y |>.elim
              · omega
          · intro z
            subst z
            rcases hDu with ⟨-, y2⟩ | ⟨y2, -⟩
            · have := y2.2 0 0 ⟨rfl, rfl⟩
              omega
            · omega
      subst eo
      rw [if_pos (show oI none = -1 from rfl)]
      refine ⟨_, _, rfl, ?_⟩
      rw [r_cells1 hu hu, bnm_d, if_neg one_ne, p1, bnd_d]
      by_cases w : u = 15
      · rw [if_pos (show I u = 15 by rw [w]; rfl), r_thr, bnm_d]
        exact ⟨_, _, rfl, Rρ.thr 2, Or.inr ⟨rfl, by rw [up_e, upd_e]⟩⟩
      · have y : E u = 99 := by have := (p2 u hu).2; have : ¬ E u < 99 := fun z => q ⟨z, w⟩; omega
        rw [if_neg (show ¬ I u = 15 from I_beq (b := 15) (by omega) (by omega) w), gd_I hu (by omega), I_clamp (by omega), (p2 u hu).1, y, if_neg (show ¬ I 99 < 99 by decide), r_thr, bnm_d]
        exact ⟨_, _, rfl, Rρ.thr 2, Or.inr ⟨rfl, by rw [up_e, upd_e]⟩⟩
  · rw [h1, xb_n]
    refine ⟨_, _, rfl, ?_⟩
    rw [h2, bnm_d, if_pos rfl]
    exact ⟨_, _, rfl, R.thr 1, Or.inl ⟨rfl, by rw [up_e, upd_e]⟩⟩
theorem q_reached {σ : Mm} {B : Nat} (e2 : Nat) (R : RR B σ) (a : Int32) : ∃ out τ, f_X9_reached a σ = some (out, τ) ∧ ∃ r ρ, f_X10_reached a τ = some (r, ρ) ∧ RR B ρ ∧ same2 out 1 e2 r (ρ 198 12) := by
  unfold f_X9_reached f_X10_reached
  rcases c_cells (a := a) (b := a) (σ := σ) with ⟨u, v, hu, hv, rfl, -, h1, h2⟩ | ⟨h1, h2⟩
  · obtain ⟨q, q1, q2⟩ := m_reach (σ := σ) hu
    obtain ⟨q', ρ, p1, p2, p3⟩ := n_reach (σ := up σ 198 12 0) hu
    rw [h1, xb_d, q1, bnd_d]
    refine ⟨_, _, rfl, ?_⟩
    rw [r_cells1 hu hu, bnm_d, if_neg one_ne, p1, bnm_d]
    refine ⟨_, _, rfl, R.same (fun a _ _ h3 h4 => by rw [p3 a h4, up_n _ _ _ h3]) (fun k hk => by rw [p3 198 (by omega), up_e, upd_n _ _ hk]), by rw [p3 198 (by omega), up_e, upd_e], ?_⟩
    exact (set_eq q2 p2 (fun g hg => by rw [R.1.toG g hg]; unfold gX gapR; rw [up_n _ _ _ (by omega)])).symm
  · rw [h1, xb_n]
    refine ⟨_, _, rfl, ?_⟩
    rw [h2, bnm_d, if_pos rfl]
    exact ⟨_, _, rfl, R.thr 1, Or.inl ⟨rfl, by rw [up_e, upd_e]⟩⟩
theorem trims_tail {σ τ : Mm} {B u k : Nat} (R : RR B σ) (hu : u < 16) (ht : ∀ a, a ≠ 159 → a ≠ 160 → τ a = σ a) (hk : isD (cT (gC σ)) u 15 k) : ∃ ρ, f_X10_trims (I u) τ = some (I k, ρ) ∧ RR B ρ ∧ ρ 198 12 = 0 := by
  unfold f_X10_trims
  obtain ⟨j, ρ, p1, p2, p3, p4⟩ := n_trims (σ := up τ 198 12 0) hu
  rw [r_cells1 hu hu, bnm_d, if_neg one_ne, p1, bnd_d, p2]
  have e : j = k := (isD_congr (d := cT (gC σ)) (fun g hg => by
    unfold cT
    rw [R.1.toG g hg]; unfold gX gapR; rw [up_n _ _ _ (by omega), ht 199 (by omega) (by omega)]) p3).uniq hk
  subst e
  exact ⟨ρ, rfl, R.same (fun a h1 h2 h3 h4 => by rw [p4 a h4, up_n _ _ _ h3, ht a h1 h2]) (fun k hk => by rw [p4 198 (by omega), up_e, upd_n _ _ hk, ht 198 (by omega) (by omega)]), by rw [p4 198 (by omega), up_e, upd_e]⟩
theorem q_trims {σ : Mm} {B : Nat} (e2 : Nat) (R : RR B σ) (a : Int32) : ∃ out τ, f_X9_trims a σ = some (out, τ) ∧ ∃ r ρ, f_X10_trims a τ = some (r, ρ) ∧ RR B ρ ∧ same2 out 1 e2 r (ρ 198 12) := by
  unfold f_X9_trims
  rcases c_cells (a := a) (b := a) (σ := σ) with ⟨u, v, hu, hv, rfl, -, h1, h2⟩ | ⟨h1, h2⟩
  · obtain ⟨k, k1, k2⟩ := m_trimsN (σ := σ) hu
    obtain ⟨ρ, p1, p2, p3⟩ := trims_tail R hu (fun _ _ _ => rfl) k2
    rw [h1, xb_d, k1, bnd_d]
    exact ⟨_, _, rfl, _, ρ, p1, p2, p3, rfl⟩
  · rw [h1, xb_n]
    refine ⟨_, _, rfl, ?_⟩
    unfold f_X10_trims
    rw [h2, bnm_d, if_pos rfl]
    exact ⟨_, _, rfl, R.thr 1, Or.inl ⟨rfl, by rw [up_e, upd_e]⟩⟩
theorem q_trimsAgain {σ : Mm} {B : Nat} (e2 : Nat) (R : RR B σ) (a : Int32) : ∃ out τ, f_X9_trimsAgain a σ = some (out, τ) ∧ ∃ r ρ, f_X10_trimsAgain a τ = some (r, ρ) ∧ RR B ρ ∧ same2 out 1 e2 r (ρ 198 12) := by
  unfold f_X9_trimsAgain f_X10_trimsAgain
  rcases c_cells (a := a) (b := a) (σ := σ) with ⟨u, v, hu, hv, rfl, -, h1, h2⟩ | ⟨h1, h2⟩
  · obtain ⟨k, τ, k1, k2, k3⟩ := m_trimsB (σ := σ) hu
    obtain ⟨ρ, p1, p2, p3⟩ := trims_tail R hu (fun a h _ => k3 a h) k2
    rw [h1, xb_d, k1, bnm_d]
    refine ⟨_, _, rfl, _, ρ, ?_, p2, p3, rfl⟩
    rw [p1, bnm_d]
  · rw [h1, xb_n]
    refine ⟨_, _, rfl, ?_⟩
    unfold f_X10_trims
    rw [h2, bnm_d, if_pos rfl, bnm_d]
    exact ⟨_, _, rfl, R.thr 1, Or.inl ⟨rfl, by rw [up_e, upd_e]⟩⟩
/-! when a gap closes -/
theorem q_closesIn {σ : Mm} {B : Nat} (R : RR B σ) (a b : Int32) : ∃ out τ, f_X9_closesIn a b σ = some (out, τ) ∧ ∃ r ρ, f_X10_closesIn a b τ = some (r, ρ) ∧ RR B ρ ∧ same2 out 1 2 r (ρ 198 12) := by
  unfold f_X9_closesIn f_X10_closesIn
  rcases c_cells (a := a) (b := b) (σ := σ) with ⟨u, v, hu, hv, rfl, rfl, h1, h2⟩ | ⟨h1, h2⟩
  · rw [c_asked hu hv h1]
    cases e : hN u v with
    | none =>
      dsimp only
      rw [xb_n]
      refine ⟨_, _, rfl, ?_⟩
      rw [h2, bnm_d, if_neg one_ne, n_hedge hu hv, e, bnd_d, if_pos (show o6 none = -1 from rfl), r_thr, bnm_d]
      exact ⟨_, _, rfl, (R.thr 0).thr 2, Or.inr ⟨rfl, by rw [up_e, upd_e]⟩⟩
    | some h =>
      have hh := (hN_ed e).1
      dsimp only
      rw [xb_d, m_leaves hh, bnd_d, R.1.getL hh]
      try rw [lt_d]
      refine ⟨_, _, rfl, ?_⟩
      rw [h2, bnm_d, if_neg one_ne, n_hedge hu hv, e, bnd_d, show o6 (some h) = I (6 + h) from rfl, if_neg (nm1 (by omega)), gd_I (by omega) (by omega), I_clamp (by omega), up_n _ _ _ (by omega)]
      exact ⟨_, _, rfl, R.thr 0, by rw [up_e, upd_e], rfl⟩
  · rw [c_asked0 h1, xb_n]
    refine ⟨_, _, rfl, ?_⟩
    rw [h2, bnm_d, if_pos rfl]
    exact ⟨_, _, rfl, R.thr 1, Or.inl ⟨rfl, by rw [up_e, upd_e]⟩⟩
end
section
/-! WHAT IS NEEDED, how many summers -/
theorem isD_ex {c : Nat → Option Nat} {s v : Nat} (h : rch c s v) : ∃ k, isD c s v k := by
  obtain ⟨n, j, q⟩ := h
  have : ∀ m j, j ≤ m → (∃ n, wk c s n v j) → ∃ k, isD c s v k := by
    intro m
    induction m with
    | zero =>
      intro j hj h
      have : j = 0 := by omega
      subst this
      exact ⟨0, h, fun _ _ _ => Nat.zero_le _⟩
    | succ m ih =>
      intro j hj h
      by_cases e : ∃ i, i < j ∧ ∃ n, wk c s n v i
      · obtain ⟨i, hi, h2⟩ := e
        exact ih i (by omega) h2
      · exact ⟨j, h, fun n i q => Nat.not_lt.mp fun z => e ⟨i, z, n, q⟩⟩
  exact this j j (Nat.le_refl _) ⟨n, q⟩
theorem cX_one (f : Fm) : isOne (cX f) := fun h w q => by
  unfold cX at q
  split at q
  · cases q
  · cases q; exact Nat.le_refl _
theorem cX_rp {f : Fm} {s v : Nat} : rch (cX f) s v ↔ rp (gX f) s v := rp_of (fun g _ => by unfold cX gX; by_cases q : (5 : Int32) ≤ f (6 + g) <;> simp [q])
theorem dX_rp {f : Fm} {s v : Nat} (hs : s < 16) : dX f s v < 1000 ↔ rp (gX f) s v := by
  rw [← cX_rp]
  constructor
  · intro h
    by_cases e : ∃ k, isD (cX f) s v k
    · obtain ⟨k, q⟩ := e; exact isD_rch q
    · exfalso
      unfold dX dst at h
      rw [dif_neg e] at h
      omega
  · intro h
    obtain ⟨k, q⟩ := isD_ex h
    have := q.le15 (cX_one f) hs
    unfold dX
    rw [dst_is q]
    omega
theorem q_isNeeded {σ : Mm} {B : Nat} (R : RR B σ) (a b : Int32) : ∃ out τ, f_X9_isNeeded a b σ = some (out, τ) ∧ ∃ r ρ, f_X10_isNeeded a b τ = some (r, ρ) ∧ RR B ρ ∧ same2 out 1 2 r (ρ 198 12) := by
  unfold f_X9_isNeeded f_X10_isNeeded
  rcases c_cells (a := a) (b := b) (σ := σ) with ⟨u, v, hu, hv, rfl, rfl, h1, h2⟩ | ⟨h1, h2⟩
  · rw [c_asked hu hv h1]
    cases e : hN u v with
    | none =>
      dsimp only
      rw [xb_n]
      refine ⟨_, _, rfl, ?_⟩
      rw [h2, bnm_d, if_neg one_ne, n_hedge hu hv, e, bnd_d, if_pos (show o6 none = -1 from rfl), r_thr, bnm_d]
      exact ⟨_, _, rfl, (R.thr 0).thr 2, Or.inr ⟨rfl, by rw [up_e, upd_e]⟩⟩
    | some h =>
      have hh := (hN_ed e).1
      dsimp only
      obtain ⟨b1, c1, d1⟩ := m_leads (σ := σ) 5 (-1)
      obtain ⟨b2, c2, d2⟩ := m_leads (σ := σ) 5 (I h)
      rw [xb_d, c1, bnd_d]
      have g1 : b1 = true ↔ rp (gX (σ 199)) 0 15 := by
        rw [d1]; exact rp_congr (fun g hg => by rw [okF_gC hg, R.1.toG g hg])
      have g2 : b2 = true ↔ rp (gX (upd (σ 199) (6 + h) 5)) 0 15 := by
        rw [d2]
        refine rp_congr (fun g hg => ?_)
        have k := R.1.toG g hg
        unfold okF
        unfold gX
        by_cases z : g = h
        · subst z
          rw [upd_e, show decide (I g = I g) = true from decide_eq_true rfl]; rfl
        · rw [upd_n _ _ (show 6 + g ≠ 6 + h by omega), show decide (I g = I h) = false from decide_eq_false (I_beq (by omega) (by omega) z)]
          exact k
      refine ⟨.inl (if b1 = true then (if b2 = true then 0 else 1) else 0), σ, ?_, ?_⟩
      · cases b1 with
        | false => rfl
        | true =>
          rw [if_pos rfl, if_neg one_ne, c2, bnd_d]
          cases b2 <;> rfl
      rw [h2, bnm_d, if_neg one_ne, n_hedge hu hv, e, bnd_d, show o6 (some h) = I (6 + h) from rfl, if_neg (nm1 (by omega)), n_gap hh, bnd_d]
      have g3 : gapR (up σ 198 12 0) h = gX (σ 199) h := by unfold gapR gX; rw [up_n _ _ _ (by omega)]
      rw [g3]
      obtain ⟨τ1, t1, t2⟩ := r_hours (σ := up σ 198 12 0) (s := 0) (v := 15) (by omega) (by omega)
      have t1 : f_X10_hoursOf 0 15 (up σ 198 12 0) = _ := t1
      have e199 : (up σ 198 12 0) 199 = σ 199 := up_n _ _ _ (by omega)
      rw [e199] at t1
      have Rτ : RR B τ1 := R.same (fun a _ _ h3 h4 => by rw [t2 a h4, up_n _ _ _ h3]) (fun k hk => by rw [t2 198 (by omega), up_e, upd_n _ _ hk])
      have z12 : τ1 198 12 = 0 := by rw [t2 198 (by omega), up_e, upd_e]
      by_cases w : dX (σ 199) 0 15 < 1000
      · have hb1 : b1 = true := g1.mpr ((dX_rp (by omega)).mp w)
        by_cases y : gX (σ 199) h = true
        · have e1 : τ1 199 = σ 199 := by rw [t2 199 (by omega), e199]
          obtain ⟨τ2, s1, s2⟩ := r_hours (σ := up τ1 199 (6 + h) 5) (s := 0) (v := 15) (by omega) (by omega)
          have s1 : f_X10_hoursOf 0 15 (up τ1 199 (6 + h) 5) = _ := s1
          have e2 : (up τ1 199 (6 + h) 5) 199 = upd (σ 199) (6 + h) 5 := by rw [up_e, e1]
          rw [e2] at s1
          have e3 : τ2 199 = upd (σ 199) (6 + h) 5 := by rw [s2 199 (by omega), e2]
          have Rf : RR B (up τ2 199 (6 + h) (σ 199 (6 + h))) := R.same (fun a h1 h2 h3 h4 => by
            by_cases z : a = 199
            · subst z
              rw [up_e, e3]
              funext k
              by_cases x : k = 6 + h
              · rw [x, upd_e]
              · rw [upd_n _ _ x, upd_n _ _ x]
            · rw [up_n _ _ _ z, s2 a h4, up_n _ _ _ z, t2 a h4, up_n _ _ _ h3]) (fun k hk => by rw [up_n _ _ _ (by omega), s2 198 (by omega), up_n _ _ _ (by omega), t2 198 (by omega), up_e, upd_n _ _ hk])
          have zf : (up τ2 199 (6 + h) (σ 199 (6 + h))) 198 12 = 0 := by rw [up_n _ _ _ (by omega), s2 198 (by omega), up_n _ _ _ (by omega), z12]
          rw [if_pos y, if_neg one_ne, t1, bnm_d, if_pos w, if_neg (nm1 (by rcases dX_lt (σ 199) (s := 0) (v := 15) (by omega) with z | z <;> omega))]
          simp only [gd_I (show 6 + h < 86 by omega) (show 86 < 2147483648 by omega), I_clamp (show 6 + h < 2147483648 by omega), lt_d, e1]
          rw [s1, bnm_d]
          by_cases x : dX (upd (σ 199) (6 + h) 5) 0 15 < 1000
          · have hb2 : b2 = true := g2.mpr ((dX_rp (by omega)).mp x)
            rw [if_pos x, if_neg (nm1 (by rcases dX_lt (upd (σ 199) (6 + h) 5) (s := 0) (v := 15) (by omega) with z | z <;> omega))]
            exact ⟨_, _, rfl, Rf, zf, by rw [hb1, hb2]; rfl⟩
          · have hb2 : b2 = false := Bool.eq_false_iff.mpr (fun z => x ((dX_rp (by omega)).mpr (g2.mp z)))
            rw [if_neg x, if_pos rfl]
            exact ⟨_, _, rfl, Rf, zf, by rw [hb1, hb2]; rfl⟩
        · have hb2 : b2 = true := by
            rw [g2, rp_congr (q := gX (σ 199)) (fun g hg => ?_)]
            · exact (dX_rp (by omega)).mp w
            · unfold gX
              by_cases z : g = h
              · subst z
                rw [upd_e]
                have y2 : gX (σ 199) g = false := Bool.eq_false_iff.mpr y
                unfold gX at y2
                rw [y2]; rfl
              · rw [upd_n _ _ (show 6 + g ≠ 6 + h by omega)]
          rw [if_neg y, if_pos rfl]
          exact ⟨_, _, rfl, R.thr 0, by rw [up_e, upd_e], by rw [hb1, hb2]; rfl⟩
      · have hb1 : b1 = false := Bool.eq_false_iff.mpr (fun z => w ((dX_rp (by omega)).mpr (g1.mp z)))
        by_cases y : gX (σ 199) h = true
        · rw [if_pos y, if_neg one_ne, t1, bnm_d, if_neg w, if_pos rfl]
          exact ⟨_, _, rfl, Rτ, z12, by rw [hb1]; rfl⟩
        · rw [if_neg y, if_pos rfl]
          exact ⟨_, _, rfl, R.thr 0, by rw [up_e, upd_e], by rw [hb1]; rfl⟩
  · rw [c_asked0 h1, xb_n]
    refine ⟨_, _, rfl, ?_⟩
    rw [h2, bnm_d, if_pos rfl]
    exact ⟨_, _, rfl, R.thr 1, Or.inl ⟨rfl, by rw [up_e, upd_e]⟩⟩
/-! summers left -/
def addF (f : Fm) (v : Nat) (n : Nat) (v' : Nat) : Fm := fun k => if 6 ≤ k ∧ k < 6 + n then f k + I v' else if 6 ≤ k ∧ k < 30 then f k + I v else f k
theorem addF_S (f : Fm) (v v' n : Nat) (hn : n < 24) : addF f v (n + 1) v' = upd (addF f v n v') (6 + n) (f (6 + n) + I v') := by
  funext k
  unfold addF upd
  by_cases e : k = 6 + n
  · subst e; rw [if_pos (by omega), if_pos rfl]
  · rw [if_neg e]
    dsimp only
    by_cases w : 6 ≤ k ∧ k < 6 + n
    · rw [if_pos w, if_pos (by omega)]
    · rw [if_neg w, if_neg (by omega)]
theorem addF_at (f : Fm) (v v' n : Nat) (hn : n < 24) : addF f v n v' (6 + n) = f (6 + n) + I v := by unfold addF; rw [if_neg (by omega), if_pos (by omega)]
theorem addF_end (f : Fm) (v v' : Nat) : addF f v 24 v' = addF f v' 0 v' := by
  funext k
  unfold addF
  by_cases w : 6 ≤ k ∧ k < 30
  · rw [if_pos (by omega), if_neg (by omega), if_pos w]
  · rw [if_neg (by omega), if_neg w, if_neg (by omega), if_neg w]
theorem addF_0 (f : Fm) (n : Nat) : addF f 0 n 0 = f := by
  funext k
  unfold addF
  rw [show I 0 = (0 : Int32) from rfl, Int32.add_zero]
  split
  · rfl
  · split <;> rfl
theorem addF_b (f : Fm) (v v' w : Nat) : addF f v 0 v' = addF f v 0 w := by
  funext k
  have e : ¬ (6 ≤ k ∧ k < 6 + 0) := by omega
  unfold addF
  rw [if_neg e, if_neg e]
theorem r_add {K : Int32 → Mm → Option (Int32 × Mm)} {v13 : Int32} {σ : Mm} {f : Fm} {v : Nat} (h : σ 199 = addF f v 0 (v + 1)) : ∃ τ, f_X10_summersLeft_l20 K v13 30 0 σ = K (I 24) τ ∧ τ 199 = addF f (v + 1) 0 (v + 1) ∧ ∀ a, a ≠ 199 → τ a = σ a := by
  obtain ⟨g, q1, q2, q3⟩ := loopI (fun n v g => f_X10_summersLeft_l20 K v13 n v g) (fun g => K (I 24) g) 24 (fun j (g : Mm) => g 199 = addF f v j (v + 1) ∧ ∀ a, a ≠ 199 → g a = σ a) (by
      intro n g _
      rw [f_X10_summersLeft_l20, if_pos (show (24 : Int32) ≤ I 24 by decide)]) (by
      intro n j g hj hi
      have e1 : I j + 1 = I (j + 1) := I_add j 1
      refine ⟨up g 199 (6 + j) (f (6 + j) + I (v + 1)), ?_, by rw [up_e, hi.1, addF_S _ _ _ _ hj], fun a ha => by rw [up_n _ _ _ ha]; exact hi.2 a ha⟩
      rw [f_X10_summersLeft_l20, if_neg (show ¬ (24 : Int32) ≤ I j from nle (N := 24) hj (by omega)), show (6 : Int32) + I j = I (6 + j) from I_add 6 j, gd_I (by omega) (by omega), gd_I (by omega) (by omega), I_clamp (by omega), hi.1, addF_at _ _ _ _ hj, Int32.add_assoc, show I v + 1 = I (v + 1) from I_add v 1, lt_d, lt_d, e1]) 24 0 30 σ rfl (by omega) ⟨h, fun _ _ => rfl⟩
  exact ⟨g, q1, by rw [q2, addF_end], q3⟩
theorem r_sub {σ : Mm} {f : Fm} {v : Nat} (h : σ 199 = addF f v 0 0) : ∃ τ, f_X10_summersLeft_l53 (I v) 30 0 σ = some (I v, τ) ∧ τ 199 = f ∧ ∀ a, a ≠ 199 → τ a = σ a := by
  obtain ⟨g, q1, q2, q3⟩ := loopI (fun n v' g => f_X10_summersLeft_l53 (I v) n v' g) (fun g => some (I v, g)) 24 (fun j (g : Mm) => g 199 = addF f v j 0 ∧ ∀ a, a ≠ 199 → g a = σ a) (by
      intro n g _
      rw [f_X10_summersLeft_l53, if_pos (show (24 : Int32) ≤ I 24 by decide)]) (by
      intro n j g hj hi
      have e1 : I j + 1 = I (j + 1) := I_add j 1
      have e2 : f (6 + j) + I v - I v = f (6 + j) := Int32.toBitVec_inj.mp (BitVec.add_sub_cancel _ _)
      refine ⟨up g 199 (6 + j) (f (6 + j) + I 0), ?_, by rw [up_e, hi.1, addF_S _ _ _ _ hj], fun a ha => by rw [up_n _ _ _ ha]; exact hi.2 a ha⟩
      rw [f_X10_summersLeft_l53, if_neg (show ¬ (24 : Int32) ≤ I j from nle (N := 24) hj (by omega)), show (6 : Int32) + I j = I (6 + j) from I_add 6 j, gd_I (by omega) (by omega), gd_I (by omega) (by omega), I_clamp (by omega), hi.1, addF_at _ _ _ _ hj, e2, lt_d, lt_d, e1, show I 0 = (0 : Int32) from rfl, Int32.add_zero]) 24 0 30 σ rfl (by omega) ⟨h, fun _ _ => rfl⟩
  exact ⟨g, q1, by rw [q2, addF_end, addF_0], q3⟩
/-- whether there is a way after v summers -/
def wayS (f : Fm) (v : Nat) : Prop := rp (gX (addF f v 0 0)) 0 15
theorem q_summersLeft {σ : Mm} {B : Nat} (R : RR B σ) : ∃ r, f_X9_summersLeft σ = some r ∧ ∃ ρ, f_X10_summersLeft σ = some (r, ρ) ∧ RR B ρ := by
  obtain ⟨n0, m0, -, -, -, -, -, -, le, -⟩ := R.2.1
  -- the class
  have hc : ∀ v, v < 5 → ∃ b : Bool, f_X8_leadsThrough (5 - I v) (-1) σ = some (if b then 1 else 0) ∧ (b = true ↔ wayS (σ 199) v) := by
    intro v hv
    obtain ⟨b, b1, b2⟩ := m_leads (σ := σ) (5 - I v) (-1)
    refine ⟨b, b1, ?_⟩
    rw [b2]
    refine rp_congr (fun g hg => ?_)
    obtain ⟨l, l1, l2⟩ := le g hg
    unfold okF gX addF
    rw [R.1.getL hg, if_neg (by omega), if_pos (by omega), l2, I_add, show decide (I g = (-1 : Int32)) = false from decide_eq_false (nm1 (by omega)), show (5 : Int32) - I v = I (5 - v) from I_sub (a := 5) (by omega)]
    have e : (I (5 - v) ≤ I l) ↔ ((5 : Int32) ≤ I (l + v)) := by
      rw [I_le (by omega) (by omega)]
      exact ⟨fun z => (I_le (a := 5) (by omega) (by omega)).mpr (by omega), fun z => by have := (I_le (a := 5) (by omega) (by omega)).mp z; omega⟩
    simp [e]
  have h5 : ¬ wayS (σ 199) 5 := by
    intro h
    obtain ⟨n, k, q⟩ := h
    cases n with
    | zero => exact absurd q.1 (by decide)
    | succ n =>
      obtain ⟨g, u, j, w, e, hw, -⟩ := q
      obtain ⟨l, l1, l2⟩ := le g e.1
      unfold cF gX addF at hw
      have g24 := e.1
      rw [if_neg (show ¬ (6 ≤ 6 + g ∧ 6 + g < 6 + 0) by omega), if_pos (show 6 ≤ 6 + g ∧ 6 + g < 30 by omega), l2, I_add] at hw
      rw [show decide ((5 : Int32) ≤ I (l + 5)) = true from decide_eq_true ((I_le (a := 5) (by omega) (by omega)).mpr (by omega))] at hw
      cases hw
  obtain ⟨v, hv5, hvno, hvw⟩ : ∃ v, v ≤ 5 ∧ ¬ wayS (σ 199) v ∧ ∀ j, j < v → wayS (σ 199) j := by
    have : ∀ d v, v + d = 5 → (∀ j, j < v → wayS (σ 199) j) → ∃ v, v ≤ 5 ∧ ¬ wayS (σ 199) v ∧ ∀ j, j < v → wayS (σ 199) j := by
      intro d
      induction d with
      | zero => intro v hv hj; exact ⟨v, by omega, by rw [show v = 5 by omega]; exact h5, hj⟩
      | succ d ih =>
        intro v hv hj
        by_cases w : wayS (σ 199) v
        · exact ih (v + 1) (by omega) (fun j hj2 => by
            by_cases e : j = v
            · subst e; exact w
            · exact hj j (by omega))
        · exact ⟨v, by omega, w, hj⟩
    exact this 5 0 rfl (fun j hj => by omega)
  refine ⟨I v, ?_, ?_⟩
  · have main : ∀ d j n, j + d = v → d < n → f_X9_summersLeft_l2 σ n (I j) = some (I v) := by
      intro d
      induction d with
      | zero =>
        intro j n hj hn
        obtain ⟨n, rfl⟩ : ∃ m, n = m + 1 := ⟨n - 1, by omega⟩
        have : j = v := by omega
        subst this
        rw [f_X9_summersLeft_l2]
        by_cases e : j = 5
        · subst e; rw [if_pos (show (5 : Int32) ≤ I 5 by decide)]; rfl
        · obtain ⟨b, b1, b2⟩ := hc j (by omega)
          have hb : b = false := Bool.eq_false_iff.mpr (fun z => hvno (b2.mp z))
          rw [if_neg (show ¬ (5 : Int32) ≤ I j from nle (N := 5) (by omega) (by omega)), b1, bnd_d, hb, if_neg (show ¬ false = true by decide), if_pos rfl]
      | succ d ih =>
        intro j n hj hn
        obtain ⟨n, rfl⟩ : ∃ m, n = m + 1 := ⟨n - 1, by omega⟩
        obtain ⟨b, b1, b2⟩ := hc j (by omega)
        rw [f_X9_summersLeft_l2, if_neg (show ¬ (5 : Int32) ≤ I j from nle (N := 5) (by omega) (by omega)), b1, bnd_d, b2.mpr (hvw j (by omega)), if_pos rfl, if_neg one_ne, lt_d, show I j + 1 = I (j + 1) from I_add j 1]
        exact ih (j + 1) n (by omega) (by omega)
    exact main v 0 8 (by omega) (by omega)
  · unfold f_X10_summersLeft
    rw [lt_d, lt_d]
    have main : ∀ d j n (τ : Mm), j + d = v → d < n → τ 199 = addF (σ 199) j 0 (j + 1) → (∀ a, a ≠ 199 → a ≠ 204 → τ a = up σ 198 12 0 a) → ∃ ρ, f_X10_summersLeft_l7 (fun v2 σ3 => f_X10_summersLeft_l53 v2 30 0 σ3) n (I j) τ = some (I v, ρ) ∧ ρ 199 = σ 199 ∧ ∀ a, a ≠ 199 → a ≠ 204 → ρ a = up σ 198 12 0 a := by
      intro d
      induction d with
      | zero =>
        intro j n τ hj hn h1 h2
        obtain ⟨n, rfl⟩ : ∃ m, n = m + 1 := ⟨n - 1, by omega⟩
        have : j = v := by omega
        subst this
        obtain ⟨τ1, t1, t2⟩ := r_hours (σ := τ) (s := 0) (v := 15) (by omega) (by omega)
        have t1 : f_X10_hoursOf 0 15 τ = _ := t1
        have w : ¬ dX (τ 199) 0 15 < 1000 := fun z => hvno (by
          have := (dX_rp (by omega)).mp z
          rw [h1, addF_b _ _ _ 0] at this
          exact this)
        rw [f_X10_summersLeft_l7, t1, bnm_d, if_neg w, if_pos rfl]
        obtain ⟨ρ, s1, s2, s3⟩ := r_sub (σ := τ1) (f := σ 199) (v := j) (by rw [t2 199 (by omega), h1]; exact addF_b _ _ _ _)
        exact ⟨ρ, s1, s2, fun a h3 h4 => by rw [s3 a h3, t2 a h4, h2 a h3 h4]⟩
      | succ d ih =>
        intro j n τ hj hn h1 h2
        obtain ⟨n, rfl⟩ : ∃ m, n = m + 1 := ⟨n - 1, by omega⟩
        obtain ⟨τ1, t1, t2⟩ := r_hours (σ := τ) (s := 0) (v := 15) (by omega) (by omega)
        have t1 : f_X10_hoursOf 0 15 τ = _ := t1
        have w : dX (τ 199) 0 15 < 1000 := (dX_rp (by omega)).mpr (by
          rw [h1, addF_b _ _ _ 0]
          exact hvw j (by omega))
        rw [f_X10_summersLeft_l7, t1, bnm_d, if_pos w, if_neg (nm1 (by rcases dX_lt (τ 199) (s := 0) (v := 15) (by omega) with z | z <;> omega)), lt_d]
        obtain ⟨τ2, s1, s2, s3⟩ := r_add (K := fun v18 σ19 => lt (I j + 1) fun x21 => f_X10_summersLeft_l7 (fun v2 σ3 => f_X10_summersLeft_l53 v2 30 0 σ3) n x21 σ19) (v13 := I j) (σ := τ1) (f := σ 199) (v := j) (by rw [t2 199 (by omega), h1])
        rw [s1]
        show ∃ ρ, lt (I j + 1) (fun x21 => f_X10_summersLeft_l7 (fun v2 σ3 => f_X10_summersLeft_l53 v2 30 0 σ3) n x21 τ2) = some (I v, ρ) ∧ _
        rw [lt_d, show I j + 1 = I (j + 1) from I_add j 1]
        exact ih (j + 1) n τ2 (by omega) (by omega) (by rw [s2]; exact addF_b _ _ _ _) (fun a h3 h4 => by rw [s3 a h3, t2 a h4, h2 a h3 h4])
    obtain ⟨ρ, p1, p2, p3⟩ := main v 0 30 (up σ 198 12 0) (by omega) (by omega) (by rw [up_n _ _ _ (by omega), addF_b _ _ _ 0, addF_0]) (fun _ _ _ => rfl)
    refine ⟨ρ, p1, R.same (fun a h1 h2 h3 h4 => ?_) (fun k hk => by rw [p3 198 (by omega) (by omega), up_e, upd_n _ _ hk])⟩
    by_cases z : a = 199
    · subst z; exact p2
    · rw [p3 a z h4, up_n _ _ _ h3]
end
section
/-! GARDENERS AND VISITORS, asked -/
def sm (g : Nat → Int32) : Nat → Int32
  | 0 => 0
  | n + 1 => sm g n + g n
theorem sm_S (g : Nat → Int32) (n : Nat) : sm g (n + 1) = sm g n + g n := rfl
theorem sm_congr {g h : Nat → Int32} {n : Nat} (e : ∀ k, k < n → g k = h k) : sm g n = sm h n := by
  induction n with
  | zero => rfl
  | succ n ih => rw [sm_S, sm_S, ih (fun k hk => e k (by omega)), e n (by omega)]
def numV (v : Nat) (w : Int32) (f : Fm) : Int32 := if w = 0 then f (46 + 8 * v) else if w = 1 then f (46 + 8 * v + 1) else if w = 2 then f (46 + 8 * v + 2) else if w = 3 then f (46 + 8 * v + 3) else if w = 4 then lostV v f else if w = 5 then f (46 + 8 * v + 4) else if w = 6 then f (46 + 8 * v + 5) else if w = 7 then f (46 + 8 * v + 6) else f (46 + 8 * v + 7)
theorem okV.v01 {B n : Nat} {f : Fm} {v : Nat} (h : okV B n f v) : f (46 + 8 * v + 6) = 0 ∨ f (46 + 8 * v + 6) = 1 := by
  rcases h.2.2.2 with ⟨-, -, z, -⟩ | ⟨-, -, z, -⟩
  · exact Or.inl z
  · exact z
theorem b01 {x : Int32} (h : x = 0 ∨ x = 1) : (if x = 0 then some 0 else some 1 : Option Int32) = some x := by
  rcases h with h | h <;> rw [h] <;> rfl
theorem m_num {σ : Mm} {f : Fm} {B n m v : Nat} (h : rep 0 σ f) (ho : okC B n m f) (hv : v < m) (w : Int32) : f_X7_numberFor (9 + v) w σ = some (numV v w f) := by
  have hf := hfI ho.2.1.2 ho.2.1.1 hv
  have hm := ho.2.1.1
  have hV := fun k hk => h.getV (v := v) (k := k) (by omega) hk hf
  have hV0 : σ (9 + v) 0 = f (46 + 8 * v) := hV 0 (by omega)
  have ov := ho.2.2.2.2.1 v hv
  unfold f_X7_numberFor f_X7_lostAfter numV lostV
  rw [hV0, hV 1 (by omega), hV 2 (by omega), hV 3 (by omega), hV 4 (by omega), hV 5 (by omega), hV 6 (by omega), hV 7 (by omega), b01 ov.v01, b01 ov.out, Int32.add_zero, bnd_d]
  repeat' split
  all_goals first | rfl | contradiction
/-- a row's sum by a counting loop -/
theorem loopS {β : Type} {F : Nat → Int32 → Int32 → Option β} {K : Int32 → Option β} (N : Nat) (hN : N ≤ 5) (g : Nat → Int32) (a : Int32) (hstop : ∀ n x, F (n + 1) (I N) x = K x) (hstep : ∀ n v x, v < N → F (n + 1) (I v) x = F n (I (v + 1)) (x + g v)) : F 8 0 a = K (a + sm g N) := by
  obtain ⟨x, q1, q2⟩ := loopI (fun n v x => F n v x) (fun x => K x) N (fun v (x : Int32) => x = a + sm g v) (fun n x _ => hstop n x) (fun n v x hv hi => ⟨x + g v, hstep n v x hv, by rw [hi, sm_S, Int32.add_assoc]⟩) N 0 8 a (by omega) (by omega) (by show a = a + 0; rw [Int32.add_zero])
  rw [← q2]; exact q1
theorem m_total {σ : Mm} {f : Fm} {B n m : Nat} (h : rep 0 σ f) (ho : okC B n m f) (w : Int32) : f_X6_totalOf w σ = some (sm (fun v => numV v w f) m) := by
  have hm := ho.2.1.1
  have h4 : σ 0 4 = I m := (h.get0 (k := 1) (by omega)).trans ho.2.1.2
  unfold f_X6_totalOf
  have k := loopS (F := f_X6_totalOf_l4 w σ) (K := fun x => some x) m hm (fun v => numV v w f) 0 (fun n x => by
      rw [f_X6_totalOf_l4, h4, if_pos ((I_le (by omega) (by omega)).mpr (Nat.le_refl _))]) (fun n v x hv => by
      rw [f_X6_totalOf_l4, h4, if_neg (nle hv (by omega)), gd_I (by omega) (by omega), I_clamp (by omega), show 8 + 1 + v = 9 + v by omega, m_num h ho hv, bnd_d, lt_d, lt_d, I_a1])
  rw [k, Int32.zero_add]
def debF (g : Int32) (f : Fm) (v : Nat) : Int32 := if f (46 + 8 * v + 4) = g then (if f (46 + 8 * v + 6) = 0 then f (46 + 8 * v + 5) * lostV v f else 0) else 0
theorem m_debt {σ : Mm} {f : Fm} {B n m : Nat} (h : rep 0 σ f) (ho : okC B n m f) (g : Int32) : f_X6_debtOf g σ = some (sm (debF g f) m) := by
  have hm := ho.2.1.1
  have h4 : σ 0 4 = I m := (h.get0 (k := 1) (by omega)).trans ho.2.1.2
  unfold f_X6_debtOf
  have k := loopS (F := f_X6_debtOf_l4 g σ) (K := fun x => some x) m hm (debF g f) 0 (fun n x => by
      rw [f_X6_debtOf_l4, h4, if_pos ((I_le (by omega) (by omega)).mpr (Nat.le_refl _))]) (fun n v x hv => by
      have hf := hfI ho.2.1.2 ho.2.1.1 hv
      rw [f_X6_debtOf_l4, h4, if_neg (nle hv (by omega)), gd_I (by omega) (by omega), gd_I (by omega) (by omega), I_clamp (by omega), show 8 + 1 + v = 9 + v by omega, h.getV (by omega) (by omega) hf, m_due h (by omega) hf, bnd_d, lt_d, lt_d, lt_d, I_a1]
      unfold debF
      by_cases q : f (46 + 8 * v + 4) = g
      · rw [if_pos q, if_pos q]
      · rw [if_neg q, if_neg q, Int32.add_zero])
  rw [k, Int32.zero_add]
def bonF (g : Int32) (f : Fm) (v : Nat) : Int32 := if f (46 + 8 * v + 4) = g then 1 else 0
theorem m_bonds {σ : Mm} {f : Fm} {B n m : Nat} (h : rep 0 σ f) (ho : okC B n m f) (g : Int32) : f_X6_bondsOf g σ = some (sm (bonF g f) m) := by
  have hm := ho.2.1.1
  have h4 : σ 0 4 = I m := (h.get0 (k := 1) (by omega)).trans ho.2.1.2
  unfold f_X6_bondsOf
  have k := loopS (F := f_X6_bondsOf_l4 g σ) (K := fun x => some x) m hm (bonF g f) 0 (fun n x => by
      rw [f_X6_bondsOf_l4, h4, if_pos ((I_le (by omega) (by omega)).mpr (Nat.le_refl _))]) (fun n v x hv => by
      have hf := hfI ho.2.1.2 ho.2.1.1 hv
      rw [f_X6_bondsOf_l4, h4, if_neg (nle hv (by omega)), gd_I (by omega) (by omega), I_clamp (by omega), show 8 + 1 + v = 9 + v by omega, h.getV (by omega) (by omega) hf, lt_d, lt_d, lt_d, I_a1]
      unfold bonF
      by_cases q : f (46 + 8 * v + 4) = g
      · rw [if_pos q, if_pos q]
      · rw [if_neg q, if_neg q, Int32.add_zero])
  rw [k, Int32.zero_add]
/-! the reference's sums -/
theorem n_lasts {σ : Mm} {B n v : Nat} (hn : n ≤ 4) (hv : v < 5) (h : okV B n (σ 199) v) : f_X10_lasts (I v) σ = some (if σ 199 (46 + 8 * v + 4) = -1 then 0 else 1) := by
  unfold f_X10_lasts
  simp only [n_vAt, bnd_d, I_a4, I_a7, gd_I (show 46 + 8 * v + 4 < 86 by omega) (show 86 < 2147483648 by omega), gd_I (show 46 + 8 * v + 7 < 86 by omega) (show 86 < 2147483648 by omega), I_clamp (show 46 + 8 * v + 4 < 2147483648 by omega), I_clamp (show 46 + 8 * v + 7 < 2147483648 by omega)]
  rcases h.2.2.2 with ⟨a, -⟩ | ⟨⟨g, g1, g2⟩, -, -, z⟩
  · rw [if_pos a, if_pos a]
  · have ne : ¬ σ 199 (46 + 8 * v + 4) = -1 := by rw [g2]; exact nm1 (by omega)
    rw [if_neg ne, if_neg ne, if_pos z]
theorem r_owed {σ : Mm} {B n m : Nat} (ho : okC B n m (σ 199)) {g : Nat} (hg : g < 4) : f_X10_owedBy (I g) σ = some (sm (debF (I g) (σ 199)) m) := by
  have hm := ho.2.1.1
  have h1 := ho.2.1.2
  unfold f_X10_owedBy
  have k := loopS (F := f_X10_owedBy_l4 (I g) σ) (K := fun x => some x) m hm (debF (I g) (σ 199)) 0 (fun n x => by
      rw [f_X10_owedBy_l4, h1, if_pos ((I_le (by omega) (by omega)).mpr (Nat.le_refl _))]) (fun n' v x hv => by
      have ov := ho.2.2.2.2.1 v hv
      rw [f_X10_owedBy_l4, h1, if_neg (nle hv (by omega)), n_vAt, bnd_d, n_lasts ho.1.1 (by omega) ov, bnd_d, n_lost (by omega), bnd_d]
      simp only [I_a1, I_a4, I_a5, I_a6, gd_I (show 46 + 8 * v + 4 < 86 by omega) (show 86 < 2147483648 by omega), gd_I (show 46 + 8 * v + 5 < 86 by omega) (show 86 < 2147483648 by omega), gd_I (show 46 + 8 * v + 6 < 86 by omega) (show 86 < 2147483648 by omega), I_clamp (show 46 + 8 * v + 4 < 2147483648 by omega), I_clamp (show 46 + 8 * v + 5 < 2147483648 by omega), I_clamp (show 46 + 8 * v + 6 < 2147483648 by omega), lt_d]
      unfold debF
      by_cases q : σ 199 (46 + 8 * v + 4) = -1
      · have q2 : ¬ σ 199 (46 + 8 * v + 4) = I g := by rw [q]; exact fun z => nm1 (by omega) z.symm
        rw [if_pos q, if_pos rfl, if_neg q2]
      · rw [if_neg q, if_neg one_ne]
        by_cases q2 : σ 199 (46 + 8 * v + 4) = I g
        · rw [if_pos q2, if_pos q2]
          by_cases q3 : σ 199 (46 + 8 * v + 6) = 0
          · rw [if_pos q3, if_pos q3]
          · rw [if_neg q3, if_neg q3]
        · rw [if_neg q2, if_neg q2])
  rw [k, Int32.zero_add]
theorem r_lasting {σ : Mm} {B n m : Nat} (ho : okC B n m (σ 199)) (g : Int32) : f_X10_lasting g σ = some (sm (fun v => if σ 199 (46 + 8 * v + 4) = -1 then 0 else if g = -1 then 1 else bonF g (σ 199) v) m) := by
  have hm := ho.2.1.1
  have h1 := ho.2.1.2
  unfold f_X10_lasting
  have k := loopS (F := f_X10_lasting_l4 g σ) (K := fun x => some x) m hm (fun v => if σ 199 (46 + 8 * v + 4) = -1 then 0 else if g = -1 then 1 else bonF g (σ 199) v) 0 (fun n x => by
      rw [f_X10_lasting_l4, h1, if_pos ((I_le (by omega) (by omega)).mpr (Nat.le_refl _))]) (fun n' v x hv => by
      have ov := ho.2.2.2.2.1 v hv
      rw [f_X10_lasting_l4, h1, if_neg (nle hv (by omega)), n_vAt, bnd_d, n_lasts ho.1.1 (by omega) ov, bnd_d]
      simp only [I_a1, I_a4, gd_I (show 46 + 8 * v + 4 < 86 by omega) (show 86 < 2147483648 by omega), I_clamp (show 46 + 8 * v + 4 < 2147483648 by omega), lt_d]
      unfold bonF
      by_cases q : σ 199 (46 + 8 * v + 4) = -1
      · rw [if_pos q, if_pos rfl, if_pos q]
      · rw [if_neg q, if_neg one_ne, if_neg q]
        by_cases q2 : g = -1
        · rw [if_pos q2, if_pos q2]
        · rw [if_neg q2, if_neg q2]
          by_cases q3 : σ 199 (46 + 8 * v + 4) = g
          · rw [if_pos q3, if_pos q3]
          · rw [if_neg q3, if_neg q3])
  rw [k, Int32.zero_add]
/-! who is asked -/
theorem c_gask {σ : Mm} {f : Fm} {B n m : Nat} (h : rep 0 σ f) (ho : okC B n m f) (a : Int32) : f_X9_gardenerAsked a σ = some (match ix a n with | none => .inr 1 | some g => .inl (some (4 + g)), σ) := by
  unfold f_X9_gardenerAsked
  rw [m_findG h ho.1.1 ho.1.2, bnd_d]
  cases ix a n <;> rfl
theorem c_vask {σ : Mm} {f : Fm} {B n m : Nat} (h : rep 0 σ f) (ho : okC B n m f) (a : Int32) : f_X9_visitorAsked a σ = some (match ix a m with | none => .inr 1 | some v => .inl (some (9 + v)), σ) := by
  unfold f_X9_visitorAsked
  rw [m_findV h ho.2.1.1 ho.2.1.2, bnd_d]
  cases ix a m <;> rfl
theorem thr199 (σ : Mm) (x : Int32) : (up σ 198 12 x) 199 = σ 199 := up_n _ _ _ (by omega)
theorem thr12 (σ : Mm) (x : Int32) : (up σ 198 12 x) 198 12 = x := by rw [up_e, upd_e]
theorem q_gardenerOf {σ : Mm} {B : Nat} (R : RR B σ) (a w : Int32) : ∃ out τ, f_X9_gardenerOf a w σ = some (out, τ) ∧ ∃ r ρ, f_X10_gardenerOf a w τ = some (r, ρ) ∧ RR B ρ ∧ same2 out 1 3 r (ρ 198 12) := by
  obtain ⟨n, m, ho⟩ := R.2.1
  obtain ⟨f, hf⟩ : ∃ f, f = σ 199 := ⟨_, rfl⟩
  have h := R.1
  rw [← hf] at h ho
  have ho2 : okC B n m ((up σ 198 12 0) 199) := by rw [thr199, ← hf]; exact ho
  have hn := ho.1.1
  unfold f_X9_gardenerOf f_X10_gardenerOf
  rw [c_gask h ho]
  cases e : ix a n with
  | none =>
    dsimp only
    rw [xb_n]
    refine ⟨_, _, rfl, ?_⟩
    rw [lt_d, n_isG hn (by rw [thr199, ← hf]; exact ho.1.2), e, bnd_d]
    dsimp only
    rw [if_pos rfl, r_thr, bnm_d]
    exact ⟨_, _, rfl, (R.thr 0).thr 1, Or.inl ⟨rfl, thr12 _ _⟩⟩
  | some g =>
    obtain ⟨g1, rfl⟩ := ix_lt (by omega) e
    dsimp only
    rw [xb_d, oc_e]
    have hG0 : σ (4 + g) 0 = f (30 + 4 * g) := h.getG (k := 0) (by omega) (by omega)
    rw [hG0, m_bonds h ho, bnd_d, h.getG (g := g) (k := 1) (by omega) (by omega), h.getG (g := g) (k := 2) (by omega) (by omega), h.getG (g := g) (k := 3) (by omega) (by omega)]
    have tail : ∃ r ρ, (lt (up σ 198 12 0) fun σ1 => bnd (f_X10_isGardener (I g) σ1) fun q2 => if q2 = 0 then (bnm (f_X10_throwing 1 σ1) fun q16 σ17 => some (q16, σ17)) else (if w = 0 then (bnd (f_X10_gardenerAt (I g) σ1) fun q5 => gd q5 86 (some ((σ1 199 q5.toNatClampNeg), σ1))) else (if w = 1 then (bnd (f_X10_lasting (I g) σ1) fun q7 => some (q7, σ1)) else (if w = 2 then (bnd (f_X10_gardenerAt (I g) σ1) fun q9 => gd ((q9 + w) - 1) 86 (some ((σ1 199 ((q9 + w) - 1).toNatClampNeg), σ1))) else (if w = 3 then (bnd (f_X10_gardenerAt (I g) σ1) fun q11 => gd ((q11 + w) - 1) 86 (some ((σ1 199 ((q11 + w) - 1).toNatClampNeg), σ1))) else (if w = 4 then (bnd (f_X10_gardenerAt (I g) σ1) fun q13 => gd ((q13 + w) - 1) 86 (some ((σ1 199 ((q13 + w) - 1).toNatClampNeg), σ1))) else (bnm (f_X10_throwing 2 σ1) fun q14 σ15 => some (q14, σ15)))))))) = some (r, ρ) ∧ RR B ρ ∧
        ((w = 0 ∧ ρ 198 12 = 0 ∧ r = f (30 + 4 * g)) ∨ (w = 1 ∧ ρ 198 12 = 0 ∧ r = sm (bonF (I g) f) m) ∨ (w = 2 ∧ ρ 198 12 = 0 ∧ r = f (30 + 4 * g + 1)) ∨ (w = 3 ∧ ρ 198 12 = 0 ∧ r = f (30 + 4 * g + 2)) ∨ (w = 4 ∧ ρ 198 12 = 0 ∧ r = f (30 + 4 * g + 3)) ∨ ((¬ w = 0 ∧ ¬ w = 1 ∧ ¬ w = 2 ∧ ¬ w = 3 ∧ ¬ w = 4) ∧ ρ 198 12 = 2)) := by
      rw [lt_d, n_isG hn (by rw [thr199, ← hf]; exact ho.1.2), e, bnd_d]
      dsimp only
      rw [if_neg one_ne, n_gAt, bnd_d, bnd_d, thr199, ← hf]
      have sub1 : ∀ j : Nat, 1 ≤ j → I (30 + 4 * g) + I j - 1 = I (30 + 4 * g + j - 1) := fun j hj => by rw [I_add]; exact I_sub (b := 1) (by omega)
      by_cases w0 : w = 0
      · rw [if_pos w0, gd_I (by omega) (by omega), I_clamp (by omega)]
        exact ⟨_, _, rfl, R.thr 0, Or.inl ⟨w0, thr12 _ _, rfl⟩⟩
      · rw [if_neg w0]
        by_cases w1 : w = 1
        · rw [if_pos w1, r_lasting ho2, bnd_d, thr199, ← hf]
          refine ⟨_, _, rfl, R.thr 0, Or.inr (Or.inl ⟨w1, thr12 _ _, sm_congr (fun v hv => ?_)⟩)⟩
          unfold bonF
          rw [if_neg (nm1 (by omega))]
          by_cases q : f (46 + 8 * v + 4) = -1
          · rw [if_pos q, if_neg (by rw [q]; exact fun z => nm1 (by omega) z.symm)]
          · rw [if_neg q]
        · rw [if_neg w1]
          by_cases w2 : w = 2
          · have z := sub1 2 (by omega)
            rw [if_pos w2, w2, show I (30 + 4 * g) + 2 - 1 = I (30 + 4 * g + 2 - 1) from z, gd_I (by omega) (by omega), I_clamp (by omega)]
            exact ⟨_, _, rfl, R.thr 0, Or.inr (Or.inr (Or.inl ⟨rfl, thr12 _ _, rfl⟩))⟩
          · rw [if_neg w2]
            by_cases w3 : w = 3
            · have z := sub1 3 (by omega)
              rw [if_pos w3, w3, show I (30 + 4 * g) + 3 - 1 = I (30 + 4 * g + 3 - 1) from z, gd_I (by omega) (by omega), I_clamp (by omega)]
              exact ⟨_, _, rfl, R.thr 0, Or.inr (Or.inr (Or.inr (Or.inl ⟨rfl, thr12 _ _, rfl⟩)))⟩
            · rw [if_neg w3]
              by_cases w4 : w = 4
              · have z := sub1 4 (by omega)
                rw [if_pos w4, w4, show I (30 + 4 * g) + 4 - 1 = I (30 + 4 * g + 4 - 1) from z, gd_I (by omega) (by omega), I_clamp (by omega)]
                exact ⟨_, _, rfl, R.thr 0, Or.inr (Or.inr (Or.inr (Or.inr (Or.inl ⟨rfl, thr12 _ _, rfl⟩))))⟩
              · rw [if_neg w4, r_thr, bnm_d]
                exact ⟨_, _, rfl, (R.thr 0).thr 2, Or.inr (Or.inr (Or.inr (Or.inr (Or.inr ⟨⟨w0, w1, w2, w3, w4⟩, thr12 _ _⟩))))⟩
    obtain ⟨r, ρ, t1, t2, t3⟩ := tail
    rcases t3 with ⟨w0, z1, z2⟩ | ⟨w0, z1, z2⟩ | ⟨w0, z1, z2⟩ | ⟨w0, z1, z2⟩ | ⟨w0, z1, z2⟩ | ⟨⟨y0, y1, y2, y3, y4⟩, z1⟩
    · rw [if_pos w0]; exact ⟨_, _, rfl, r, ρ, t1, t2, z1, z2⟩
    · rw [if_neg (by rw [w0]; decide), if_pos w0]; exact ⟨_, _, rfl, r, ρ, t1, t2, z1, z2⟩
    · rw [if_neg (by rw [w0]; decide), if_neg (by rw [w0]; decide), if_pos w0]; exact ⟨_, _, rfl, r, ρ, t1, t2, z1, z2⟩
    · rw [if_neg (by rw [w0]; decide), if_neg (by rw [w0]; decide), if_neg (by rw [w0]; decide), if_pos w0]; exact ⟨_, _, rfl, r, ρ, t1, t2, z1, z2⟩
    · rw [if_neg (by rw [w0]; decide), if_neg (by rw [w0]; decide), if_neg (by rw [w0]; decide), if_neg (by rw [w0]; decide), if_pos w0]; exact ⟨_, _, rfl, r, ρ, t1, t2, z1, z2⟩
    · rw [if_neg y0, if_neg y1, if_neg y2, if_neg y3, if_neg y4]; exact ⟨_, _, rfl, r, ρ, t1, t2, Or.inr ⟨rfl, z1⟩⟩
theorem q_owed {σ : Mm} {B : Nat} (e2 : Nat) (R : RR B σ) (a : Int32) : ∃ out τ, f_X9_owed a σ = some (out, τ) ∧ ∃ r ρ, f_X10_owed a τ = some (r, ρ) ∧ RR B ρ ∧ same2 out 1 e2 r (ρ 198 12) := by
  obtain ⟨n, m, ho⟩ := R.2.1
  have h := R.1
  have ho2 : okC B n m ((up σ 198 12 0) 199) := by rw [thr199]; exact ho
  have hn := ho.1.1
  unfold f_X9_owed f_X10_owed
  rw [c_gask h ho]
  cases e : ix a n with
  | none =>
    dsimp only
    rw [xb_n]
    refine ⟨_, _, rfl, ?_⟩
    rw [lt_d, n_isG hn (by rw [thr199]; exact ho.1.2), e, bnd_d]
    dsimp only
    rw [if_pos rfl, r_thr, bnm_d]
    exact ⟨_, _, rfl, (R.thr 0).thr 1, Or.inl ⟨rfl, thr12 _ _⟩⟩
  | some g =>
    obtain ⟨g1, rfl⟩ := ix_lt (by omega) e
    dsimp only
    rw [xb_d, oc_e, m_debt h ho, bnd_d]
    refine ⟨_, _, rfl, ?_⟩
    rw [lt_d, n_isG hn (by rw [thr199]; exact ho.1.2), e, bnd_d]
    dsimp only
    rw [if_neg one_ne, r_owed ho2 (by omega), bnd_d, thr199]
    exact ⟨_, _, rfl, R.thr 0, thr12 _ _, rfl⟩
end
section
/-! MORE QUESTIONS, undo, save, restore -/
theorem q_visitorOf {σ : Mm} {B : Nat} (R : RR B σ) (a w : Int32) : ∃ out τ, f_X9_visitorOf a w σ = some (out, τ) ∧ ∃ r ρ, f_X10_visitorOf a w τ = some (r, ρ) ∧ RR B ρ ∧ same2 out 1 3 r (ρ 198 12) := by
  obtain ⟨n, m, ho⟩ := R.2.1
  have h := R.1
  have hm := ho.2.1.1
  unfold f_X9_visitorOf f_X10_visitorOf
  rw [c_vask h ho]
  cases e : ix a m with
  | none =>
    dsimp only
    rw [xb_n]
    refine ⟨_, _, rfl, ?_⟩
    rw [lt_d, n_isV hm (by rw [thr199]; exact ho.2.1.2), e, bnd_d]
    dsimp only
    rw [if_pos rfl, r_thr, bnm_d]
    exact ⟨_, _, rfl, (R.thr 0).thr 1, Or.inl ⟨rfl, thr12 _ _⟩⟩
  | some v =>
    obtain ⟨v1, rfl⟩ := ix_lt (by omega) e
    dsimp only
    rw [xb_d, oc_e, m_num h ho v1, bnd_d]
    rcases ix_cases w (N := 9) (by omega) with ⟨k, k1, rfl, -⟩ | ⟨k1, -⟩
    · rw [if_neg (I_n0 (by omega)), if_pos (show I k ≤ 8 from (I_le (b := 8) (by omega) (by omega)).mpr (by omega))]
      refine ⟨_, _, rfl, ?_⟩
      rw [lt_d, n_isV hm (by rw [thr199]; exact ho.2.1.2), e, bnd_d]
      dsimp only
      rw [if_neg one_ne, n_vAt, bnd_d, n_lost (by omega), bnd_d, thr199]
      have s1 : ∀ j : Nat, 1 ≤ j → I (46 + 8 * v) + I j - 1 = I (46 + 8 * v + j - 1) := fun j hj => by rw [I_add]; exact I_sub (b := 1) (by omega)
      have go : ∀ j, j < 86 → gd (I j) 86 (some (σ 199 (I j).toNatClampNeg, up σ 198 12 0)) = some (σ 199 j, up σ 198 12 0) := fun j hj => by rw [gd_I hj (by omega), I_clamp (by omega)]
      unfold numV
      rcases (show k = 0 ∨ k = 1 ∨ k = 2 ∨ k = 3 ∨ k = 4 ∨ k = 5 ∨ k = 6 ∨ k = 7 ∨ k = 8 by omega) with z | z | z | z | z | z | z | z | z <;> subst z
      · rw [if_pos (show I 0 = 0 from rfl), if_pos (show I 0 = 0 from rfl), I_add, go _ (by omega)]
        exact ⟨_, _, rfl, R.thr 0, thr12 _ _, rfl⟩
      · rw [if_neg (show ¬ I 1 = 0 by decide), if_pos (show I 1 = 1 from rfl), if_neg (show ¬ I 1 = 0 by decide), if_pos (show I 1 = 1 from rfl), I_add, go _ (by omega)]
        exact ⟨_, _, rfl, R.thr 0, thr12 _ _, rfl⟩
      · simp only [show ¬ I 2 = 0 by decide, show ¬ I 2 = 1 by decide, show I 2 = 2 from rfl, if_true, if_false]
        rw [show (2 : Int32) = I 2 from rfl, I_add, go _ (by omega)]
        exact ⟨_, _, rfl, R.thr 0, thr12 _ _, rfl⟩
      · simp only [show ¬ I 3 = 0 by decide, show ¬ I 3 = 1 by decide, show ¬ I 3 = 2 by decide, show I 3 = 3 from rfl, if_true, if_false]
        rw [show (3 : Int32) = I 3 from rfl, I_add, go _ (by omega)]
        exact ⟨_, _, rfl, R.thr 0, thr12 _ _, rfl⟩
      · simp only [show ¬ I 4 = 0 by decide, show ¬ I 4 = 1 by decide, show ¬ I 4 = 2 by decide, show ¬ I 4 = 3 by decide, show I 4 = 4 from rfl, if_true, if_false]
        exact ⟨_, _, rfl, R.thr 0, thr12 _ _, rfl⟩
      · have z := s1 5 (by omega)
        simp only [show ¬ I 5 = 0 by decide, show ¬ I 5 = 1 by decide, show ¬ I 5 = 2 by decide, show ¬ I 5 = 3 by decide, show ¬ I 5 = 4 by decide, if_false]
        rw [z, if_pos (show I 5 = 5 from rfl), if_pos (show I 5 = 5 from rfl), go _ (by omega)]
        exact ⟨_, _, rfl, R.thr 0, thr12 _ _, rfl⟩
      · have z := s1 6 (by omega)
        simp only [show ¬ I 6 = 0 by decide, show ¬ I 6 = 1 by decide, show ¬ I 6 = 2 by decide, show ¬ I 6 = 3 by decide, show ¬ I 6 = 4 by decide, show ¬ I 6 = 5 by decide, if_false]
        rw [z, if_pos (show I 6 = 6 from rfl), if_pos (show I 6 = 6 from rfl), go _ (by omega)]
        exact ⟨_, _, rfl, R.thr 0, thr12 _ _, rfl⟩
      · have z := s1 7 (by omega)
        simp only [show ¬ I 7 = 0 by decide, show ¬ I 7 = 1 by decide, show ¬ I 7 = 2 by decide, show ¬ I 7 = 3 by decide, show ¬ I 7 = 4 by decide, show ¬ I 7 = 5 by decide, show ¬ I 7 = 6 by decide, if_false]
        rw [z, if_pos (show I 7 = 7 from rfl), if_pos (show I 7 = 7 from rfl), go _ (by omega)]
        exact ⟨_, _, rfl, R.thr 0, thr12 _ _, rfl⟩
      · have z := s1 8 (by omega)
        simp only [show ¬ I 8 = 0 by decide, show ¬ I 8 = 1 by decide, show ¬ I 8 = 2 by decide, show ¬ I 8 = 3 by decide, show ¬ I 8 = 4 by decide, show ¬ I 8 = 5 by decide, show ¬ I 8 = 6 by decide, show ¬ I 8 = 7 by decide, if_false]
        rw [z, if_pos (show I 8 = 8 from rfl), go _ (by omega)]
        exact ⟨_, _, rfl, R.thr 0, thr12 _ _, rfl⟩
    · have ne : ∀ j : Nat, j < 9 → ¬ w = I j := fun j hj z => by
        rw [z] at k1
        rcases k1 with k1 | k1
        · exact I_n0 (by omega) k1
        · exact nle hj (by omega) k1
      have hc : (if w < 0 then (some (Sum.inr 3, σ) : Option ((Int32 ⊕ Nat) × Mm)) else if w ≤ 8 then some (Sum.inl (numV v w (σ 199)), σ) else some (Sum.inr 3, σ)) = some (Sum.inr 3, σ) := by
        rcases k1 with k1 | k1
        · rw [if_pos k1]
        · by_cases q : w < 0
          · rw [if_pos q]
          · rw [if_neg q, if_neg (fun z => absurd (Int32.le_trans k1 z) (by decide))]
      rw [hc]
      refine ⟨_, _, rfl, ?_⟩
      rw [lt_d, n_isV hm (by rw [thr199]; exact ho.2.1.2), e, bnd_d]
      dsimp only
      rw [if_neg one_ne, n_vAt, bnd_d, if_neg (show ¬ w = 0 from ne 0 (by omega)), if_neg (show ¬ w = 1 from ne 1 (by omega)), if_neg (show ¬ w = 2 from ne 2 (by omega)), if_neg (show ¬ w = 3 from ne 3 (by omega)), if_neg (show ¬ w = 4 from ne 4 (by omega)), if_neg (show ¬ w = 5 from ne 5 (by omega)), if_neg (show ¬ w = 6 from ne 6 (by omega)), if_neg (show ¬ w = 7 from ne 7 (by omega)), if_neg (show ¬ w = 8 from ne 8 (by omega)), r_thr, bnm_d]
      exact ⟨_, _, rfl, (R.thr 0).thr 2, Or.inr ⟨rfl, thr12 _ _⟩⟩
theorem q_reason {σ : Mm} {B : Nat} (R : RR B σ) (w : Int32) : ∃ out τ, f_X9_reason w σ = some (out, τ) ∧ ∃ r ρ, f_X10_reason w τ = some (r, ρ) ∧ RR B ρ ∧ same2 out 3 2 r (ρ 198 12) := by
  obtain ⟨r1, r2, r3⟩ := R.2.2.2.2.1
  unfold f_X9_reason f_X10_reason
  have e6 : ∀ k, k ≠ 12 → (up σ 198 12 0) 198 k = σ 198 k := fun k hk => by rw [up_e, upd_n _ _ hk]
  have hin : f_X10_in w.toInt64 0 2 (up σ 198 12 0) = some (match ix w 3 with | none => 0 | some _ => 1) := n_inN (by omega) (by omega) (show (2 : Int64).toInt = ((3 : Nat) : Int) - 1 by decide)
  rcases ix_cases w (N := 3) (by omega) with ⟨k, k1, rfl, k3⟩ | ⟨k1, k3⟩
  · rw [k3] at hin
    dsimp only at hin
    rw [if_neg (I_n0 (by omega)), if_pos (show I k ≤ 2 from (I_le (b := 2) (by omega) (by omega)).mpr (by omega)), r1, r2, r3]
    by_cases q : σ 198 6 = 0
    · rw [if_pos q]
      refine ⟨_, _, rfl, ?_⟩
      rw [lt_d, hin, bnd_d, if_neg one_ne, e6 6 (by omega), if_pos q, r_thr, bnm_d]
      exact ⟨_, _, rfl, (R.thr 0).thr 2, Or.inr ⟨rfl, thr12 _ _⟩⟩
    · rw [if_neg q]
      by_cases y0 : I k = 0
      · rw [if_pos y0]
        refine ⟨_, _, rfl, ?_⟩
        rw [lt_d, hin, bnd_d, if_neg one_ne, e6 6 (by omega), if_neg q, if_pos y0]
        exact ⟨_, _, rfl, R.thr 0, thr12 _ _, rfl⟩
      · rw [if_neg y0]
        by_cases y1 : I k = 1
        · rw [if_pos y1]
          refine ⟨_, _, rfl, ?_⟩
          rw [lt_d, hin, bnd_d, if_neg one_ne, e6 6 (by omega), if_neg q, if_neg y0, if_pos y1, e6 7 (by omega)]
          exact ⟨_, _, rfl, R.thr 0, thr12 _ _, rfl⟩
        · rw [if_neg y1]
          refine ⟨_, _, rfl, ?_⟩
          rw [lt_d, hin, bnd_d, if_neg one_ne, e6 6 (by omega), if_neg q, if_neg y0, if_neg y1, e6 8 (by omega)]
          exact ⟨_, _, rfl, R.thr 0, thr12 _ _, rfl⟩
  · rw [k3] at hin
    dsimp only at hin
    have hc : ∀ x : Option ((Int32 ⊕ Nat) × Mm), (if w < 0 then (some (Sum.inr 3, σ) : Option ((Int32 ⊕ Nat) × Mm)) else if w ≤ 2 then x else some (Sum.inr 3, σ)) = some (Sum.inr 3, σ) := fun x => by
      rcases k1 with k1 | k1
      · rw [if_pos k1]
      · by_cases q : w < 0
        · rw [if_pos q]
        · rw [if_neg q, if_neg (fun z => absurd (Int32.le_trans k1 z) (by decide))]
    rw [hc]
    refine ⟨_, _, rfl, ?_⟩
    rw [lt_d, hin, bnd_d, if_pos rfl, r_thr, bnm_d]
    exact ⟨_, _, rfl, (R.thr 0).thr 1, Or.inl ⟨rfl, thr12 _ _⟩⟩
theorem q_fault {σ : Mm} {B : Nat} (R : RR B σ) : ∃ r, f_X9_faultPosition σ = some r ∧ ∃ ρ, f_X10_faultPosition σ = some (r, ρ) ∧ RR B ρ := by
  obtain ⟨L, -, -, -, -, e⟩ := R.2.2.2.2.2.1
  unfold f_X9_faultPosition f_X10_faultPosition
  refine ⟨_, rfl, up σ 198 12 0, ?_, R.thr 0⟩
  rw [lt_d, up_e, upd_n _ _ (by omega), e]
theorem nar_ch {c : Nat} (h : c < 65536) : vp_nar .char (I c) = I c := by
  show ((I c).toUInt32.toUInt16.toUInt32.toInt32) = I c
  apply Int32.toBitVec_inj.mp
  show ((BitVec.ofNat 32 c).setWidth 16).setWidth 32 = BitVec.ofNat 32 c
  apply BitVec.eq_of_toNat_eq
  simp
  omega
theorem q_append {σ : Mm} {B : Nat} (e2 : Nat) (R : RR B σ) {c : Nat} (hc : c < 65536) : ∃ out τ, f_X9_append (I c) σ = some (out, τ) ∧ ∃ r ρ, f_X10_append (I c) τ = some (r, ρ) ∧ RR B ρ ∧ same2 out 4 e2 r (ρ 198 12) := by
  obtain ⟨r1, r2, r3, r4, r5, ⟨L, t1, t2, t3, t4, t5⟩, r7⟩ := id R
  unfold f_X9_append f_X10_append
  rw [t2]
  by_cases q : L < 60
  · rw [if_pos (show I L < 60 from (I_lt (b := 60) (by omega) (by omega)).mpr q)]
    unfold f_X0_add
    rw [t2, if_neg (show ¬ (60 : Int32) ≤ I L from nle (N := 60) q (by omega)), gd_I q (by omega), I_clamp (by omega), nar_ch hc, lt_d, up_n _ _ _ (show 162 ≠ 163 by omega), t2, lt_d, bnd_d, I_a1]
    obtain ⟨τ, hτ⟩ : ∃ τ, τ = up (up σ 163 L (I c)) 162 3 (I (L + 1)) := ⟨_, rfl⟩
    rw [← hτ]
    have e1 : ∀ a, a ≠ 162 → a ≠ 163 → τ a = σ a := fun a h1 h2 => by rw [hτ, up_n _ _ _ h1, up_n _ _ _ h2]
    refine ⟨_, _, rfl, ?_⟩
    have e11 : (up τ 198 12 0) 198 11 = I L := by rw [up_e, upd_n _ _ (by omega), e1 198 (by omega) (by omega)]; exact t3
    rw [lt_d, e11, if_neg (show ¬ I L = 60 from I_beq (b := 60) (by omega) (by omega) (by omega)), gd_I q (by omega), I_clamp (by omega), lt_d, up_n _ _ _ (show 198 ≠ 203 by omega), e11, lt_d, I_a1]
    obtain ⟨ρ, hρ⟩ : ∃ ρ, ρ = up (up (up τ 198 12 0) 203 L (I c)) 198 11 (I (L + 1)) := ⟨_, rfl⟩
    rw [← hρ]
    have z : ∀ a, a ≠ 162 → a ≠ 163 → a ≠ 198 → a ≠ 203 → ρ a = σ a := fun a h1 h2 h3 h4 => by rw [hρ, up_n _ _ _ h3, up_n _ _ _ h4, up_n _ _ _ h3, e1 a h1 h2]
    have z198 : ∀ k, k ≠ 11 → k ≠ 12 → ρ 198 k = σ 198 k := fun k h1 h2 => by rw [hρ, up_e, upd_n _ _ h1, up_n _ _ _ (by omega), up_e, upd_n _ _ h2, e1 198 (by omega) (by omega)]
    have z162 : ρ 162 = τ 162 := by rw [hρ, up_n _ _ _ (by omega), up_n _ _ _ (by omega), up_n _ _ _ (by omega)]
    have z199 : ρ 199 = σ 199 := z 199 (by omega) (by omega) (by omega) (by omega)
    have ea : τ 162 3 = I (L + 1) := by rw [hτ, up_e, upd_e]
    have eb : ρ 198 11 = I (L + 1) := by rw [hρ, up_e, upd_e]
    refine ⟨_, _, rfl, ⟨?_, ?_, ?_, ?_, ?_, ?_, ?_⟩, by rw [hρ, up_e, upd_n _ _ (by omega), up_n _ _ _ (by omega), up_e, upd_e], by rw [eb, ea]⟩
    · rw [z199]; exact r1.move (fun a _ h => z a (by omega) (by omega) (by omega) (by omega))
    · rw [z199]; exact r2
    · exact r3.move (fun a h1 h2 => z a (by omega) (by omega) (by omega) (by omega)) (z 155 (by omega) (by omega) (by omega) (by omega)) (z198 5 (by omega) (by omega)) (z 202 (by omega) (by omega) (by omega) (by omega))
    · exact r4.move (fun a h1 h2 => z a (by omega) (by omega) (by omega) (by omega)) (z 154 (by omega) (by omega) (by omega) (by omega)) (z198 3 (by omega) (by omega)) (z 201 (by omega) (by omega) (by omega) (by omega))
    · unfold refu
      rw [z 157 (by omega) (by omega) (by omega) (by omega), z198 6 (by omega) (by omega), z198 7 (by omega) (by omega), z198 8 (by omega) (by omega)]
      exact r5
    · refine ⟨L + 1, by omega, by rw [z162]; exact ea, eb, fun j hj => ?_, ?_⟩
      · have p1 : ρ 163 = upd (σ 163) L (I c) := by rw [hρ, up_n _ _ _ (by omega), up_n _ _ _ (by omega), up_n _ _ _ (by omega), hτ, up_n _ _ _ (by omega), up_e]
        have p2 : ρ 203 = upd (σ 203) L (I c) := by rw [hρ, up_n _ _ _ (by omega), up_e, up_n _ _ _ (by omega), e1 203 (by omega) (by omega)]
        rw [p1, p2]
        by_cases e : j = L
        · subst e; rw [upd_e, upd_e]; exact ⟨rfl, c, hc, rfl⟩
        · rw [upd_n _ _ e, upd_n _ _ e]; exact t4 j (by omega)
      · rw [z162, z198 9 (by omega) (by omega), hτ, up_e, upd_n _ _ (by omega), up_n _ _ _ (by omega)]; exact t5
    · exact r7.move (z 196 (by omega) (by omega) (by omega) (by omega)) (z 197 (by omega) (by omega) (by omega) (by omega)) (z 206 (by omega) (by omega) (by omega) (by omega)) (z198 20 (by omega) (by omega))
  · have e : L = 60 := by omega
    subst e
    rw [if_neg (show ¬ I 60 < 60 by decide)]
    refine ⟨_, _, rfl, ?_⟩
    have e11 : (up σ 198 12 0) 198 11 = I 60 := by rw [up_e, upd_n _ _ (by omega)]; exact t3
    rw [lt_d, e11, if_pos (show I 60 = 60 from rfl), r_thr, bnm_d]
    exact ⟨_, _, rfl, (R.thr 0).thr 1, Or.inl ⟨rfl, thr12 _ _⟩⟩
/-! save, restore, undo -/
theorem q_save {σ : Mm} {B : Nat} (R : RR B σ) : ∃ r τ, f_X9_save σ = some (r, τ) ∧ ∃ ρ, f_X10_save τ = some (r, ρ) ∧ RR B ρ := by
  obtain ⟨r1, r2, r3, r4, r5, r6, r7⟩ := id R
  obtain ⟨f, hf⟩ : ∃ f, f = σ 199 := ⟨_, rfl⟩
  rw [← hf] at r1 r2
  obtain ⟨σ1, a1, a2, a3⟩ := c_copy (i := 28) (o := 0) (by omega) r1 r2
  unfold f_X9_save f_X10_save
  rw [a1, bnd_d, lt_d, up_n _ _ _ (show 0 ≠ 154 by omega), a3 0 (by omega), show σ 0 4 = f 1 from r1.get0 (k := 1) (by omega)]
  obtain ⟨τ, hτ⟩ : ∃ τ, τ = up σ1 154 3 1 := ⟨_, rfl⟩
  rw [← hτ]
  have e : ∀ a, a < 28 ∨ 42 ≤ a → a ≠ 154 → τ a = σ a := fun a h1 h2 => by rw [hτ, up_n _ _ _ h2, a3 a (by omega)]
  refine ⟨_, _, rfl, ?_⟩
  rw [lt_d]
  obtain ⟨σ2, b1, b2, b3⟩ := r_copy (σ0 := up τ 198 12 0) (F := f_X10_save_l7) (K := fun σ6 => lt (up σ6 198 3 1) fun σ8 => some ((σ8 199 1), σ8)) (p := 201) (q := 199) (o := 0) (by omega) (fun n v g _ => by
    rw [f_X10_save_l7]
    by_cases q : (86 : Int32) ≤ v
    · rw [if_pos q, if_pos q]
    · rw [if_neg q, if_neg q, Nat.zero_add]
      unfold gd
      by_cases w : v < 0 ∨ 86 ≤ v.toNatClampNeg
      · rw [if_pos w, if_pos w]
      · rw [if_neg w, if_neg w])
  rw [b1, lt_d]
  obtain ⟨ρ, hρ⟩ : ∃ ρ, ρ = up σ2 198 3 1 := ⟨_, rfl⟩
  rw [← hρ]
  have z : ∀ a, a < 28 ∨ 42 ≤ a → a ≠ 154 → a ≠ 198 → a ≠ 201 → ρ a = σ a := fun a h1 h2 h3 h4 => by rw [hρ, up_n _ _ _ h3, b3 a h4, up_n _ _ _ h3, e a h1 h2]
  have z198 : ∀ k, k ≠ 3 → k ≠ 12 → ρ 198 k = σ 198 k := fun k h1 h2 => by rw [hρ, up_e, upd_n _ _ h1, b3 198 (by omega), up_e, upd_n _ _ h2, e 198 (by omega) (by omega)]
  have z199 : ρ 199 = f := by rw [z 199 (by omega) (by omega) (by omega) (by omega), hf]
  refine ⟨ρ, by rw [z199], ⟨?_, ?_, ?_, ?_, ?_, ?_, ?_⟩⟩
  · rw [z199]; exact r1.move (fun a _ h => z a (by omega) (by omega) (by omega) (by omega))
  · rw [z199]; exact r2
  · exact r3.move (fun a h1 h2 => z a (by omega) (by omega) (by omega) (by omega)) (z 155 (by omega) (by omega) (by omega) (by omega)) (z198 5 (by omega) (by omega)) (z 202 (by omega) (by omega) (by omega) (by omega))
  · refine Or.inr ⟨?_, by rw [hρ, up_e, upd_e], f, r2, ?_, fun k hk => ?_⟩
    · rw [hρ, up_n _ _ _ (by omega), b3 154 (by omega), up_n _ _ _ (by omega), hτ, up_e, upd_e]
    · exact a2.move (fun a h1 h2 => by rw [hρ, up_n _ _ _ (by omega), b3 a (by omega), up_n _ _ _ (by omega), hτ, up_n _ _ _ (by omega)])
    · rw [hρ, up_n _ _ _ (by omega), b2 k hk, up_n _ _ _ (by omega), e 199 (by omega) (by omega), Nat.zero_add, hf]
  · unfold refu
    rw [z 157 (by omega) (by omega) (by omega) (by omega), z198 6 (by omega) (by omega), z198 7 (by omega) (by omega), z198 8 (by omega) (by omega)]
    exact r5
  · exact r6.move (by rw [z 162 (by omega) (by omega) (by omega) (by omega)]) (by rw [z 162 (by omega) (by omega) (by omega) (by omega)]) (z 163 (by omega) (by omega) (by omega) (by omega)) (z 203 (by omega) (by omega) (by omega) (by omega)) (z198 11 (by omega) (by omega)) (z198 9 (by omega) (by omega))
  · exact r7.move (z 196 (by omega) (by omega) (by omega) (by omega)) (z 197 (by omega) (by omega) (by omega) (by omega)) (z 206 (by omega) (by omega) (by omega) (by omega)) (z198 20 (by omega) (by omega))
theorem q_restore {σ : Mm} {B : Nat} (e2 : Nat) (R : RR B σ) : ∃ out τ, f_X9_restore σ = some (out, τ) ∧ ∃ r ρ, f_X10_restore τ = some (r, ρ) ∧ RR B ρ ∧ same2 out 4 e2 r (ρ 198 12) := by
  obtain ⟨r1, r2, ⟨n, l, n1, n2, n3, n4, n5, n6⟩, r4, r5, r6, r7⟩ := id R
  unfold f_X9_restore f_X10_restore
  rcases r4 with ⟨a, b⟩ | ⟨a, b, f, g1, g2, g3⟩
  · rw [if_pos a]
    refine ⟨_, _, rfl, ?_⟩
    rw [lt_d, up_e, upd_n _ _ (by omega), if_pos b, r_thr, bnm_d]
    exact ⟨_, _, rfl, (R.thr 0).thr 1, Or.inl ⟨rfl, thr12 _ _⟩⟩
  · rw [if_neg (by rw [a]; decide)]
    obtain ⟨σ1, a1, a2, a3⟩ := c_copy (i := 0) (o := 28) (by omega) g2 g1
    unfold f_X2_forget
    rw [a1, bnd_d, lt_d, bnd_d]
    obtain ⟨τ, hτ⟩ : ∃ τ, τ = up σ1 155 2 0 := ⟨_, rfl⟩
    rw [← hτ]
    have e : ∀ a, 14 ≤ a → a ≠ 155 → τ a = σ a := fun a h1 h2 => by rw [hτ, up_n _ _ _ h2, a3 a (by omega)]
    have rτ : rep 0 τ f := a2.move (fun a _ h => by rw [hτ, up_n _ _ _ (by omega)])
    rw [show τ 0 4 = f 1 from rτ.get0 (k := 1) (by omega)]
    refine ⟨_, _, rfl, ?_⟩
    rw [lt_d, up_e, upd_n _ _ (by omega), e 198 (by omega) (by omega), if_neg (by rw [b]; decide)]
    obtain ⟨σ2, b1, b2, b3⟩ := r_copy (σ0 := up τ 198 12 0) (F := f_X10_restore_l20) (K := fun σ6 => lt (up σ6 198 5 0) fun σ8 => some ((σ8 199 1), σ8)) (p := 199) (q := 201) (o := 0) (by omega) (fun n v g _ => by
      rw [f_X10_restore_l20]
      by_cases q : (86 : Int32) ≤ v
      · rw [if_pos q, if_pos q]
      · rw [if_neg q, if_neg q, Nat.zero_add]
        unfold gd
        by_cases w : v < 0 ∨ 86 ≤ v.toNatClampNeg
        · rw [if_pos w, if_pos w]
        · rw [if_neg w, if_neg w])
    rw [b1, lt_d]
    obtain ⟨ρ, hρ⟩ : ∃ ρ, ρ = up σ2 198 5 0 := ⟨_, rfl⟩
    rw [← hρ]
    have z : ∀ a, 14 ≤ a → a ≠ 155 → a ≠ 198 → a ≠ 199 → ρ a = σ a := fun a h1 h2 h3 h4 => by rw [hρ, up_n _ _ _ h3, b3 a h4, up_n _ _ _ h3, e a h1 h2]
    have z198 : ∀ k, k ≠ 5 → k ≠ 12 → ρ 198 k = σ 198 k := fun k h1 h2 => by rw [hρ, up_e, upd_n _ _ h1, b3 198 (by omega), up_e, upd_n _ _ h2, e 198 (by omega) (by omega)]
    have z199 : ∀ k, k < 86 → ρ 199 k = f k := fun k hk => by rw [hρ, up_n _ _ _ (by omega), b2 k hk, up_n _ _ _ (by omega), e 201 (by omega) (by omega), Nat.zero_add, g3 k hk]
    refine ⟨_, _, rfl, ⟨?_, ?_, ?_, ?_, ?_, ?_, ?_⟩, by rw [hρ, up_e, upd_n _ _ (by omega), b3 198 (by omega), up_e, upd_e], z199 1 (by omega)⟩
    · exact (rτ.move (fun a _ h => by rw [hρ, up_n _ _ _ (by omega), b3 a (by omega), up_n _ _ _ (by omega)])).ext (fun k hk => (z199 k hk).symm)
    · exact g1.ext (fun k hk => (z199 k hk).symm)
    · refine ⟨0, l, by omega, n2, ?_, ?_, by rw [hρ, up_e, upd_e]; rfl, fun k hk => by omega⟩
      · rw [hρ, up_n _ _ _ (by omega), b3 155 (by omega), up_n _ _ _ (by omega), hτ, up_e, upd_n _ _ (by omega), a3 155 (by omega)]; exact n3
      · rw [hρ, up_n _ _ _ (by omega), b3 155 (by omega), up_n _ _ _ (by omega), hτ, up_e, upd_e]; rfl
    · refine Or.inr ⟨by rw [z 154 (by omega) (by omega) (by omega) (by omega)]; exact a, by rw [z198 3 (by omega) (by omega)]; exact b, f, g1, g2.move (fun a h1 h2 => z a (by omega) (by omega) (by omega) (by omega)), fun k hk => by rw [z 201 (by omega) (by omega) (by omega) (by omega)]; exact g3 k hk⟩
    · unfold refu
      rw [z 157 (by omega) (by omega) (by omega) (by omega), z198 6 (by omega) (by omega), z198 7 (by omega) (by omega), z198 8 (by omega) (by omega)]
      exact r5
    · exact r6.move (by rw [z 162 (by omega) (by omega) (by omega) (by omega)]) (by rw [z 162 (by omega) (by omega) (by omega) (by omega)]) (z 163 (by omega) (by omega) (by omega) (by omega)) (z 203 (by omega) (by omega) (by omega) (by omega)) (z198 11 (by omega) (by omega)) (z198 9 (by omega) (by omega))
    · exact r7.move (z 196 (by omega) (by omega) (by omega) (by omega)) (z 197 (by omega) (by omega) (by omega) (by omega)) (z 206 (by omega) (by omega) (by omega) (by omega)) (z198 20 (by omega) (by omega))
theorem q_undo {σ : Mm} {B : Nat} (e2 : Nat) (R : RR B σ) : ∃ out τ, f_X9_undo σ = some (out, τ) ∧ ∃ r ρ, f_X10_undo τ = some (r, ρ) ∧ RR B ρ ∧ same2 out 4 e2 r (ρ 198 12) := by
  obtain ⟨r1, r2, ⟨n, l, n1, n2, n3, n4, n5, n6⟩, r4, r5, r6, r7⟩ := id R
  unfold f_X9_undo f_X10_undo
  rw [n4]
  by_cases q : n = 0
  · subst q
    rw [if_pos (show I 0 = 0 from rfl)]
    refine ⟨_, _, rfl, ?_⟩
    rw [lt_d, up_e, upd_n _ _ (by omega), n5, if_pos (show I 0 = 0 from rfl), r_thr, bnm_d]
    exact ⟨_, _, rfl, (R.thr 0).thr 1, Or.inl ⟨rfl, thr12 _ _⟩⟩
  · have ne : ¬ I n = 0 := I_beq (b := 0) (by omega) (by omega) q
    rw [if_neg ne]
    obtain ⟨f, g1, g2, g3⟩ := n6 0 (by omega)
    rw [show (l + 8 - 0) % 8 = l by omega] at g2
    obtain ⟨τ, a1, a2, a3, a4, a5⟩ := m_back n1 (by omega) n2 n3 n4 g2 g1
    rw [a1, bnd_d, a3]
    refine ⟨_, _, rfl, ?_⟩
    have e198 : τ 198 = σ 198 := a5 198 (by omega) (by omega)
    rw [lt_d, up_e, upd_n _ _ (by omega), e198, n5, if_neg ne, show I n - 1 = I (n - 1) from I_sub (b := 1) (by omega), lt_d]
    obtain ⟨σ0, hσ0⟩ : ∃ σ0, σ0 = up (up τ 198 12 0) 198 5 (I (n - 1)) := ⟨_, rfl⟩
    rw [← hσ0]
    have s5 : σ0 198 5 = I (n - 1) := by rw [hσ0, up_e, upd_e]
    obtain ⟨ρ, b1, b2, b3⟩ := r_copy (σ0 := σ0) (F := f_X10_undo_l30) (K := fun σ6 => some ((σ6 198 5), σ6)) (p := 199) (q := 202) (o := 86 * (n - 1)) (by omega) (fun m v g hg => by
      rw [f_X10_undo_l30, hg 198 (by omega), s5]
      by_cases q : (86 : Int32) ≤ v
      · rw [if_pos q, if_pos q]
      · rw [if_neg q, if_neg q]
        rcases ix_cases v (N := 86) (by omega) with ⟨k, k1, rfl, -⟩ | ⟨k1, -⟩
        · rw [show (86 : Int32) * I (n - 1) = I (86 * (n - 1)) from I_mul 86 (n - 1), I_add, gd_I (show 86 * (n - 1) + k < 688 by omega) (by omega), gd_I k1 (by omega), gd_I k1 (by omega), I_clamp (by omega), I_clamp (by omega)]
        · have w : v < 0 := k1.resolve_right q
          have e : ∀ x : Option (Int32 × Mm), gd v 86 x = none := fun x => by unfold gd; rw [if_pos (Or.inl w)]
          rw [e, e]
          unfold gd
          split <;> rfl)
    rw [b1]
    have z : ∀ a, 14 ≤ a → a ≠ 155 → a ≠ 198 → a ≠ 199 → ρ a = σ a := fun a h1 h2 h3 h4 => by rw [b3 a h4, hσ0, up_n _ _ _ h3, up_n _ _ _ h3, a5 a h2 h1]
    have z198 : ∀ k, k ≠ 5 → k ≠ 12 → ρ 198 k = σ 198 k := fun k h1 h2 => by rw [b3 198 (by omega), hσ0, up_e, upd_n _ _ h1, up_e, upd_n _ _ h2, e198]
    have z199 : ∀ k, k < 86 → ρ 199 k = f k := fun k hk => by
      rw [b2 k hk, hσ0, up_n _ _ _ (by omega), up_n _ _ _ (by omega), a5 202 (by omega) (by omega)]
      have := g3 k hk
      rwa [Nat.sub_zero] at this
    have e5 : ρ 198 5 = I (n - 1) := by rw [b3 198 (by omega), s5]
    have hb : (l + 7) % 8 < 8 := Nat.mod_lt _ (by omega)
    refine ⟨_, _, rfl, ⟨?_, ?_, ?_, ?_, ?_, ?_, ?_⟩, by rw [b3 198 (by omega), hσ0, up_e, upd_n _ _ (by omega), up_e, upd_e], e5⟩
    · exact (a4.move (fun a _ h => by rw [b3 a (by omega), hσ0, up_n _ _ _ (by omega), up_n _ _ _ (by omega)])).ext (fun k hk => (z199 k hk).symm)
    · exact g1.ext (fun k hk => (z199 k hk).symm)
    · have e155 : ρ 155 = τ 155 := by rw [b3 155 (by omega), hσ0, up_n _ _ _ (by omega), up_n _ _ _ (by omega)]
      refine ⟨n - 1, (l + 7) % 8, by omega, hb, by rw [e155]; exact a2, by rw [e155]; exact a3, e5, fun k hk => ?_⟩
      obtain ⟨h, h1, h2, h3⟩ := n6 (k + 1) (by omega)
      refine ⟨h, h1, ?_, fun j hj => ?_⟩
      · rw [show ((l + 7) % 8 + 8 - k) % 8 = (l + 8 - (k + 1)) % 8 by omega]
        exact h2.move (fun a g1 g2 => z a (by omega) (by omega) (by omega) (by omega))
      · rw [z 202 (by omega) (by omega) (by omega) (by omega), show n - 1 - 1 - k = n - 1 - (k + 1) by omega]; exact h3 j hj
    · exact r4.move (fun a h1 h2 => z a (by omega) (by omega) (by omega) (by omega)) (z 154 (by omega) (by omega) (by omega) (by omega)) (z198 3 (by omega) (by omega)) (z 201 (by omega) (by omega) (by omega) (by omega))
    · unfold refu
      rw [z 157 (by omega) (by omega) (by omega) (by omega), z198 6 (by omega) (by omega), z198 7 (by omega) (by omega), z198 8 (by omega) (by omega)]
      exact r5
    · exact r6.move (by rw [z 162 (by omega) (by omega) (by omega) (by omega)]) (by rw [z 162 (by omega) (by omega) (by omega) (by omega)]) (z 163 (by omega) (by omega) (by omega) (by omega)) (z 203 (by omega) (by omega) (by omega) (by omega)) (z198 11 (by omega) (by omega)) (z198 9 (by omega) (by omega))
    · exact r7.move (z 196 (by omega) (by omega) (by omega) (by omega)) (z 197 (by omega) (by omega) (by omega) (by omega)) (z 206 (by omega) (by omega) (by omega) (by omega)) (z198 20 (by omega) (by omega))
end
section
/-! TEXTS: what a reader makes of them -/
/-- a digit stands at p -/
def dgt (t : Nat → Nat) (L p : Nat) : Bool := decide (p < L) && (decide (48 ≤ t p) && decide (t p ≤ 57))
theorem dgt_t {t : Nat → Nat} {L p : Nat} : dgt t L p = true ↔ p < L ∧ 48 ≤ t p ∧ t p ≤ 57 := by
  unfold dgt
  rw [Bool.and_eq_true, Bool.and_eq_true, decide_eq_true_iff, decide_eq_true_iff, decide_eq_true_iff]
/-- where a reader stands: the place, whether it is wrong, how many numbers it has, which -/
abbrev Rd : Type := Nat × Bool × Nat × (Nat → Int32)
def rdD (t : Nat → Nat) (L : Nat) (s : Rd) : Rd := if s.2.1 = true then s else if dgt t L s.1 = true then (s.1 + 1, false, s.2.2.1 + 1, upd s.2.2.2 s.2.2.1 (I (t s.1 - 48))) else (s.1, true, s.2.2.1, s.2.2.2)
def rdN (t : Nat → Nat) (L : Nat) (s : Rd) : Rd := if s.2.1 = true then s else if dgt t L s.1 = true then (if dgt t L (s.1 + 1) = true then (s.1 + 2, false, s.2.2.1 + 1, upd s.2.2.2 s.2.2.1 (I (10 * (t s.1 - 48) + (t (s.1 + 1) - 48)))) else (s.1 + 1, false, s.2.2.1 + 1, upd s.2.2.2 s.2.2.1 (I (t s.1 - 48)))) else (s.1, true, s.2.2.1, s.2.2.2)
def rdS (t : Nat → Nat) (L c : Nat) (s : Rd) : Rd := if s.2.1 = true then s else if s.1 < L ∧ t s.1 = c then (s.1 + 1, false, s.2.2.1, s.2.2.2) else (s.1, true, s.2.2.1, s.2.2.2)
def rdX (t : Nat → Nat) (L : Nat) (s : Rd) : Rd := if s.2.1 = true then s else if s.1 < L ∧ t s.1 = 120 then (s.1 + 1, false, s.2.2.1 + 1, upd s.2.2.2 s.2.2.1 (-1)) else rdN t L s
def dirN (c : Nat) : Option Nat := if c = 110 then some 0 else if c = 101 then some 1 else if c = 115 then some 2 else if c = 119 then some 3 else none
def rdW (t : Nat → Nat) (L : Nat) (s : Rd) : Rd := if s.2.1 = true then s else match (if s.1 < L then dirN (t s.1) else none) with
  | some d => (s.1 + 1, false, s.2.2.1 + 1, upd s.2.2.2 s.2.2.1 (I d))
  | none => (s.1, true, s.2.2.1, s.2.2.2)
def rdP (t : Nat → Nat) (L c : Nat) (s : Rd) : Rd := if c = 68 then rdD t L s else if c = 78 then rdN t L s else if c = 87 then rdW t L s else if c = 88 then rdX t L s else rdS t L c s
def rdF (t : Nat → Nat) (L : Nat) : List Nat → Rd → Rd
  | [], s => s
  | c :: r, s => rdF t L r (rdP t L c s)
theorem rdP_w (t : Nat → Nat) (L c : Nat) (s : Rd) (h : s.2.1 = true) : rdP t L c s = s := by
  unfold rdP rdD rdN rdW rdX rdS
  simp [h]
theorem rdF_w (t : Nat → Nat) (L : Nat) (l : List Nat) (s : Rd) (h : s.2.1 = true) : rdF t L l s = s := by
  induction l with
  | nil => rfl
  | cons c r ih => unfold rdF; rw [rdP_w t L c s h, ih]
def isNum (c : Nat) : Bool := c == 68 || c == 78 || c == 87 || c == 88
theorem rdP_le {t : Nat → Nat} {L c : Nat} {s : Rd} (h : s.1 ≤ L) : (rdP t L c s).1 ≤ L := by
  obtain ⟨p, w, k, V⟩ := s
  dsimp only at h
  have d : ∀ q, dgt t L q = true → q < L := fun q z => (dgt_t.mp z).1
  have eD : (rdD t L (p, w, k, V)).1 ≤ L := by
    unfold rdD; dsimp only
    split
    · exact h
    · split
      · rename_i z; have := d _ z; show p + 1 ≤ L; omega
      · exact h
  have eN : (rdN t L (p, w, k, V)).1 ≤ L := by
    unfold rdN; dsimp only
    split
    · exact h
    · split
      · split
        · rename_i z; have := d _ z; show p + 2 ≤ L; omega
        · rename_i z _; have := d _ z; show p + 1 ≤ L; omega
      · exact h
  have eS : (rdS t L c (p, w, k, V)).1 ≤ L := by
    unfold rdS; dsimp only
    split
    · exact h
    · split
      · rename_i z; show p + 1 ≤ L; omega
      · exact h
  have eX : (rdX t L (p, w, k, V)).1 ≤ L := by
    unfold rdX; dsimp only
    split
    · exact h
    · split
      · rename_i z; show p + 1 ≤ L; omega
      · exact eN
  have eW : (rdW t L (p, w, k, V)).1 ≤ L := by
    unfold rdW; dsimp only
    split
    · exact h
    · by_cases z : p < L
      · rw [if_pos z]
        cases dirN (t p) with
        | none => exact h
        | some d => show p + 1 ≤ L; omega
      · rw [if_neg z]; exact h
  unfold rdP
  repeat' split
  all_goals assumption
/-! the class's reader -/
def CZ (t : Nat → Nat) (L n : Nat) (s : Rd) (σ : Mm) : Prop := σ 162 3 = I L ∧ σ 162 4 = I s.1 ∧ σ 162 5 = I n ∧ (s.2.1 = false → σ 162 6 = I s.2.2.1 ∧ ∀ i, i < s.2.2.1 → σ (166 + n) i = s.2.2.2 i) ∧ ∀ j, j < L → σ 163 j = I (t j)
def frC (n : Nat) (σ τ : Mm) : Prop := (∀ a, a ≠ 162 → a ≠ 166 + n → τ a = σ a) ∧ ∀ k, k ≠ 4 → k ≠ 6 → τ 162 k = σ 162 k
theorem frC.refl (n : Nat) (σ : Mm) : frC n σ σ := ⟨fun _ _ _ => rfl, fun _ _ _ => rfl⟩
theorem frC.trans {n : Nat} {σ τ ρ : Mm} (h : frC n σ τ) (g : frC n τ ρ) : frC n σ ρ := ⟨fun a h1 h2 => (g.1 a h1 h2).trans (h.1 a h1 h2), fun k h1 h2 => (g.2 k h1 h2).trans (h.2 k h1 h2)⟩
section
variable {t : Nat → Nat} {L n p k : Nat} {w : Bool} {V : Nat → Int32} {σ : Mm}
theorem z_digit (hL : L ≤ 60) (hp : p ≤ L) (ht : ∀ j, j < L → t j < 65536) (h3 : σ 162 3 = I L) (h4 : σ 162 4 = I p) (hs : ∀ j, j < L → σ 163 j = I (t j)) : f_X0_isAtDigit σ = some (if dgt t L p = true then 1 else 0) := by
  unfold f_X0_isAtDigit
  rw [h3, h4]
  by_cases q : L ≤ p
  · rw [if_pos ((I_le (by omega) (by omega)).mpr q), if_neg (fun z => by have := (dgt_t.mp z).1; omega)]
  · have tp := ht p (by omega)
    rw [if_neg (fun z => q ((I_le (by omega) (by omega)).mp z)), gd_I (by omega) (by omega), gd_I (by omega) (by omega), I_clamp (by omega), hs p (by omega)]
    by_cases q1 : t p < 48
    · rw [if_pos (show I (t p) < 48 from (I_lt (b := 48) (by omega) (by omega)).mpr q1), if_neg (fun z => by have := (dgt_t.mp z).2.1; omega)]
    · rw [if_neg (show ¬ I (t p) < 48 from fun z => q1 ((I_lt (b := 48) (by omega) (by omega)).mp z))]
      by_cases q2 : 57 < t p
      · rw [if_pos (show (57 : Int32) < I (t p) from (I_lt (a := 57) (by omega) (by omega)).mpr q2), if_neg (fun z => by have := (dgt_t.mp z).2.2; omega)]
      · rw [if_neg (show ¬ (57 : Int32) < I (t p) from fun z => q2 ((I_lt (a := 57) (by omega) (by omega)).mp z)), if_pos (dgt_t.mpr ⟨by omega, by omega, by omega⟩)]
theorem z_keep (hn : n < 30) (hk : k < 3) (x : Int32) (h5 : σ 162 5 = I n) (h6 : σ 162 6 = I k) : f_X0_keepNumber x σ = some (1, up (up σ (166 + n) k x) 162 6 (I (k + 1))) := by
  unfold f_X0_keepNumber
  rw [h5, h6, if_neg (show ¬ (30 : Int32) ≤ I n from nle (N := 30) hn (by omega)), if_pos (show I k < 3 from (I_lt (b := 3) (by omega) (by omega)).mpr hk), gd_I hn (by omega), gd_I hk (by omega), I_clamp (by omega), I_clamp (by omega), lt_d, up_n _ _ _ (by omega), h6, I_a1, lt_d]
theorem z_take (hL : L ≤ 60) (ht : ∀ j, j < L → t j < 65536) (hp : p ≤ L) (c : Nat) (hc : c < 65536) (h3 : σ 162 3 = I L) (h4 : σ 162 4 = I p) (hs : ∀ j, j < L → σ 163 j = I (t j)) : f_X0_takeSign (I c) σ = some (if p < L ∧ t p = c then (1, up σ 162 4 (I (p + 1))) else (0, σ)) := by
  unfold f_X0_takeSign
  rw [h3, h4]
  by_cases q : L ≤ p
  · rw [if_pos ((I_le (by omega) (by omega)).mpr q), if_neg (fun z => by omega)]
  · have tp := ht p (by omega)
    rw [if_neg (fun z => q ((I_le (by omega) (by omega)).mp z)), gd_I (by omega) (by omega), I_clamp (by omega), hs p (by omega)]
    by_cases q1 : t p = c
    · have q2 : p < L ∧ t p = c := ⟨by omega, q1⟩
      rw [if_pos (by rw [q1]), if_pos q2, I_a1, lt_d]
    · rw [if_neg (I_beq (by omega) (by omega) q1), if_neg (fun z => q1 z.2)]
/-- a number read: kept -/
theorem z_kept (hn : n < 30) (hk : k < 3) {p1 : Nat} (x : Int32) (h3 : σ 162 3 = I L) (h5 : σ 162 5 = I n) (h6 : σ 162 6 = I k) (hV : ∀ i, i < k → σ (166 + n) i = V i) (hs : ∀ j, j < L → σ 163 j = I (t j)) (h4 : σ 162 4 = I p1) :
    ∃ τ, f_X0_keepNumber x σ = some (1, τ) ∧ CZ t L n (p1, false, k + 1, upd V k x) τ ∧ frC n σ τ := by
  refine ⟨_, z_keep hn hk x h5 h6, ⟨?_, ?_, ?_, fun _ => ⟨?_, fun i hi => ?_⟩, fun j hj => ?_⟩, fun a h1 h2 => ?_, fun j h1 h2 => ?_⟩
  · rw [up_e, upd_n _ _ (by omega), up_n _ _ _ (by omega)]; exact h3
  · rw [up_e, upd_n _ _ (by omega), up_n _ _ _ (by omega)]; exact h4
  · rw [up_e, upd_n _ _ (by omega), up_n _ _ _ (by omega)]; exact h5
  · rw [up_e, upd_e]
  · rw [up_n _ _ _ (by omega), up_e]
    dsimp only at hi ⊢
    by_cases e : i = k
    · rw [e, upd_e, upd_e]
    · rw [upd_n _ _ e, upd_n _ _ e]; exact hV i (by omega)
  · rw [up_n _ _ _ (by omega), up_n _ _ _ (by omega)]; exact hs j hj
  · rw [up_n _ _ _ h1, up_n _ _ _ h2]
  · rw [up_e, upd_n _ _ h2, up_n _ _ _ (by omega)]
theorem sub48 {a : Nat} (h : 48 ≤ a) : I a - 48 = I (a - 48) := I_sub (b := 48) h
theorem z_numD (hL : L ≤ 60) (ht : ∀ j, j < L → t j < 65536) (hp : p ≤ L) (hn : n < 30) (hk : k < 3) (Z : CZ t L n (p, false, k, V) σ) :
    ∃ τ, f_X0_readNumber 1 σ = some (if (rdD t L (p, false, k, V)).2.1 = true then 0 else 1, τ) ∧ CZ t L n (rdD t L (p, false, k, V)) τ ∧ frC n σ τ := by
  obtain ⟨h3, h4, h5, h6, hs⟩ := id Z
  obtain ⟨h6, hV⟩ := h6 rfl
  unfold f_X0_readNumber rdD
  rw [z_digit hL hp ht h3 h4 hs, bnd_d]
  dsimp only
  rw [if_neg (show ¬ false = true by decide)]
  by_cases q : dgt t L p = true
  · obtain ⟨q1, q2, q3⟩ := dgt_t.mp q
    rw [if_pos q, if_neg one_ne, if_pos q]
    dsimp only
    rw [if_neg (show ¬ false = true by decide), f_X0_readNumber_l13, if_neg (show ¬ (1 : Int32) ≤ 0 by decide), z_digit hL hp ht h3 h4 hs, bnd_d, if_pos q, if_neg one_ne, h4, gd_I (by omega) (by omega), I_clamp (by omega), hs p q1, show (0 : Int32) * 10 + I (t p) = I (t p) from by rw [show (0 : Int32) * 10 = 0 from rfl, Int32.zero_add], sub48 q2, lt_d, I_a1, lt_d, lt_d, f_X0_readNumber_l13, if_pos (show (1 : Int32) ≤ 0 + 1 by decide)]
    obtain ⟨τ, t1, t2, t3⟩ := z_kept (t := t) (L := L) (V := V) (p1 := p + 1) (σ := up σ 162 4 (I (p + 1))) hn hk (I (t p - 48)) (by rw [up_e, upd_n _ _ (by omega)]; exact h3) (by rw [up_e, upd_n _ _ (by omega)]; exact h5) (by rw [up_e, upd_n _ _ (by omega)]; exact h6) (fun i hi => by rw [up_n _ _ _ (by omega)]; exact hV i hi) (fun j hj => by rw [up_n _ _ _ (by omega)]; exact hs j hj) (by rw [up_e, upd_e])
    rw [t1, bnm_d, bz_i1]
    exact ⟨τ, rfl, t2, frC.trans ⟨fun a z _ => up_n _ _ _ z, fun j z _ => by rw [up_e, upd_n _ _ z]⟩ t3⟩
  · rw [if_neg q, if_pos rfl, if_neg q]
    exact ⟨σ, rfl, ⟨h3, h4, h5, fun z => (by cases z), hs⟩, frC.refl n σ⟩
theorem z_numN (hL : L ≤ 60) (ht : ∀ j, j < L → t j < 65536) (hp : p ≤ L) (hn : n < 30) (hk : k < 3) (Z : CZ t L n (p, false, k, V) σ) :
    ∃ τ, f_X0_readNumber 2 σ = some (if (rdN t L (p, false, k, V)).2.1 = true then 0 else 1, τ) ∧ CZ t L n (rdN t L (p, false, k, V)) τ ∧ frC n σ τ := by
  obtain ⟨h3, h4, h5, h6, hs⟩ := id Z
  obtain ⟨h6, hV⟩ := h6 rfl
  unfold f_X0_readNumber rdN
  rw [z_digit hL hp ht h3 h4 hs, bnd_d]
  dsimp only
  rw [if_neg (show ¬ false = true by decide)]
  by_cases q : dgt t L p = true
  · obtain ⟨q1, q2, q3⟩ := dgt_t.mp q
    obtain ⟨σ1, hσ1⟩ : ∃ σ1, σ1 = up σ 162 4 (I (p + 1)) := ⟨_, rfl⟩
    have a3 : σ1 162 3 = I L := by rw [hσ1, up_e, upd_n _ _ (by omega)]; exact h3
    have a4 : σ1 162 4 = I (p + 1) := by rw [hσ1, up_e, upd_e]
    have a5 : σ1 162 5 = I n := by rw [hσ1, up_e, upd_n _ _ (by omega)]; exact h5
    have a6 : σ1 162 6 = I k := by rw [hσ1, up_e, upd_n _ _ (by omega)]; exact h6
    have aV : ∀ i, i < k → σ1 (166 + n) i = V i := fun i hi => by rw [hσ1, up_n _ _ _ (by omega)]; exact hV i hi
    have as : ∀ j, j < L → σ1 163 j = I (t j) := fun j hj => by rw [hσ1, up_n _ _ _ (by omega)]; exact hs j hj
    have af : frC n σ σ1 := ⟨fun a z _ => by rw [hσ1]; exact up_n _ _ _ z, fun j z _ => by rw [hσ1, up_e, upd_n _ _ z]⟩
    rw [if_pos q, if_neg one_ne, if_pos q, f_X0_readNumber_l13, if_neg (show ¬ (2 : Int32) ≤ 0 by decide), z_digit hL hp ht h3 h4 hs, bnd_d, if_pos q, if_neg one_ne, h4, gd_I (by omega) (by omega), I_clamp (by omega), hs p q1, show (0 : Int32) * 10 + I (t p) = I (t p) from by rw [show (0 : Int32) * 10 = 0 from rfl, Int32.zero_add], sub48 q2, lt_d, I_a1, ← hσ1, lt_d, lt_d, f_X0_readNumber_l13, if_neg (show ¬ (2 : Int32) ≤ 0 + 1 by decide), z_digit hL (show p + 1 ≤ L by omega) ht a3 a4 as, bnd_d]
    by_cases r : dgt t L (p + 1) = true
    · obtain ⟨r1, r2, r3⟩ := dgt_t.mp r
      have ev : I (t p - 48) * 10 + I (t (p + 1)) - 48 = I (10 * (t p - 48) + (t (p + 1) - 48)) := by
        rw [show I (t p - 48) * 10 = I ((t p - 48) * 10) from I_mul _ 10, I_add, sub48 (by omega)]
        congr 1
        omega
      rw [if_pos r, if_neg one_ne, if_pos r, a4, gd_I (by omega) (by omega), I_clamp (by omega), as (p + 1) r1, ev, lt_d, I_a1, lt_d, lt_d, f_X0_readNumber_l13, if_pos (show (2 : Int32) ≤ 0 + 1 + 1 by decide)]
      obtain ⟨τ, t1, t2, t3⟩ := z_kept (t := t) (L := L) (V := V) (p1 := p + 1 + 1) (σ := up σ1 162 4 (I (p + 1 + 1))) hn hk (I (10 * (t p - 48) + (t (p + 1) - 48))) (by rw [up_e, upd_n _ _ (by omega)]; exact a3) (by rw [up_e, upd_n _ _ (by omega)]; exact a5) (by rw [up_e, upd_n _ _ (by omega)]; exact a6) (fun i hi => by rw [up_n _ _ _ (by omega)]; exact aV i hi) (fun j hj => by rw [up_n _ _ _ (by omega)]; exact as j hj) (by rw [up_e, upd_e])
      rw [t1, bnm_d, bz_i1]
      exact ⟨τ, rfl, t2, af.trans (frC.trans ⟨fun a z _ => up_n _ _ _ z, fun j z _ => by rw [up_e, upd_n _ _ z]⟩ t3)⟩
    · rw [if_neg r, if_pos rfl, if_neg r]
      obtain ⟨τ, t1, t2, t3⟩ := z_kept (t := t) (L := L) (V := V) (p1 := p + 1) (σ := σ1) hn hk (I (t p - 48)) a3 a5 a6 aV as a4
      rw [t1, bnm_d, bz_i1]
      exact ⟨τ, rfl, t2, af.trans t3⟩
  · rw [if_neg q, if_pos rfl, if_neg q]
    exact ⟨σ, rfl, ⟨h3, h4, h5, fun z => (by cases z), hs⟩, frC.refl n σ⟩
end
end
section
/-! TEXTS: the class reads a command -/
theorem bz_if {α : Type} (c : Prop) [Decidable c] (a : Option α) : bz (if c then 0 else 1) a = a := by
  by_cases h : c
  · rw [if_pos h]; rfl
  · rw [if_neg h]; rfl
theorem ff : ¬ false = true := by decide
theorem cz_I {α : Type} {c : Nat} (h : c < 65536) (a : Option α) : cz (I c) a = a := by
  unfold cz
  exact if_pos (show vp_nar .char (I c) = I c from nar_ch h)
section
variable {t : Nat → Nat} {L n p k : Nat} {V : Nat → Int32} {σ : Mm}
theorem z_tk (hn : n < 30) (hk : k < 3) (x : Int32) (Z : CZ t L n (p, false, k, V) σ) : ∃ τ, f_X0_keepNumber x (up σ 162 4 (I (p + 1))) = some (1, τ) ∧ CZ t L n (p + 1, false, k + 1, upd V k x) τ ∧ frC n σ τ := by
  obtain ⟨h3, h4, h5, h6, hs⟩ := id Z
  obtain ⟨h6, hV⟩ := h6 rfl
  obtain ⟨τ, t1, t2, t3⟩ := z_kept (t := t) (L := L) (V := V) (p1 := p + 1) (σ := up σ 162 4 (I (p + 1))) hn hk x (by rw [up_e, upd_n _ _ (by omega)]; exact h3) (by rw [up_e, upd_n _ _ (by omega)]; exact h5) (by rw [up_e, upd_n _ _ (by omega)]; exact h6) (fun i hi => by rw [up_n _ _ _ (by omega)]; exact hV i hi) (fun j hj => by rw [up_n _ _ _ (by omega)]; exact hs j hj) (by rw [up_e, upd_e])
  exact ⟨τ, t1, t2, frC.trans ⟨fun a z _ => up_n _ _ _ z, fun j z _ => by rw [up_e, upd_n _ _ z]⟩ t3⟩
theorem z_dir (hL : L ≤ 60) (ht : ∀ j, j < L → t j < 65536) (hp : p ≤ L) (hn : n < 30) (hk : k < 3) (Z : CZ t L n (p, false, k, V) σ) :
    ∃ τ, f_X0_readDirection σ = some (if (rdW t L (p, false, k, V)).2.1 = true then 0 else 1, τ) ∧ CZ t L n (rdW t L (p, false, k, V)) τ ∧ frC n σ τ := by
  obtain ⟨h3, h4, h5, h6, hs⟩ := id Z
  have T := fun c hc => z_take hL ht hp c hc h3 h4 hs
  have T1 : f_X0_takeSign 110 σ = some (if p < L ∧ t p = 110 then (1, up σ 162 4 (I (p + 1))) else (0, σ)) := T 110 (by omega)
  have T2 : f_X0_takeSign 101 σ = some (if p < L ∧ t p = 101 then (1, up σ 162 4 (I (p + 1))) else (0, σ)) := T 101 (by omega)
  have T3 : f_X0_takeSign 115 σ = some (if p < L ∧ t p = 115 then (1, up σ 162 4 (I (p + 1))) else (0, σ)) := T 115 (by omega)
  have T4 : f_X0_takeSign 119 σ = some (if p < L ∧ t p = 119 then (1, up σ 162 4 (I (p + 1))) else (0, σ)) := T 119 (by omega)
  unfold f_X0_readDirection rdW
  dsimp only
  rw [if_neg ff, T1]
  by_cases q1 : p < L ∧ t p = 110
  · obtain ⟨τ, t1, t2, t3⟩ := z_tk hn hk 0 Z
    rw [if_pos q1, bnm_d, if_neg one_ne, t1, bnm_d, bz_i1, if_pos q1.1, show dirN (t p) = some 0 by rw [q1.2]; rfl]
    exact ⟨τ, rfl, t2, t3⟩
  rw [if_neg q1, bnm_d, if_pos rfl, T2]
  by_cases q2 : p < L ∧ t p = 101
  · obtain ⟨τ, t1, t2, t3⟩ := z_tk hn hk 1 Z
    rw [if_pos q2, bnm_d, if_neg one_ne, t1, bnm_d, bz_i1, if_pos q2.1, show dirN (t p) = some 1 by rw [q2.2]; rfl]
    exact ⟨τ, rfl, t2, t3⟩
  rw [if_neg q2, bnm_d, if_pos rfl, T3]
  by_cases q3 : p < L ∧ t p = 115
  · obtain ⟨τ, t1, t2, t3⟩ := z_tk hn hk 2 Z
    rw [if_pos q3, bnm_d, if_neg one_ne, t1, bnm_d, bz_i1, if_pos q3.1, show dirN (t p) = some 2 by rw [q3.2]; rfl]
    exact ⟨τ, rfl, t2, t3⟩
  rw [if_neg q3, bnm_d, if_pos rfl, T4]
  by_cases q4 : p < L ∧ t p = 119
  · obtain ⟨τ, t1, t2, t3⟩ := z_tk hn hk 3 Z
    rw [if_pos q4, bnm_d, if_neg one_ne, t1, bnm_d, if_neg one_ne, if_pos q4.1, show dirN (t p) = some 3 by rw [q4.2]; rfl]
    exact ⟨τ, rfl, t2, t3⟩
  rw [if_neg q4, bnm_d, if_pos rfl]
  have e : (if p < L then dirN (t p) else none) = none := by
    by_cases q : p < L
    · rw [if_pos q]; unfold dirN
      rw [if_neg (fun z => q1 ⟨q, z⟩), if_neg (fun z => q2 ⟨q, z⟩), if_neg (fun z => q3 ⟨q, z⟩), if_neg (fun z => q4 ⟨q, z⟩)]
    · rw [if_neg q]
  rw [e]
  exact ⟨σ, rfl, ⟨h3, h4, h5, fun z => (by cases z), hs⟩, frC.refl n σ⟩
theorem z_part (hL : L ≤ 60) (ht : ∀ j, j < L → t j < 65536) (hp : p ≤ L) (hn : n < 30) {c : Nat} (hc : c < 65536) (hk : isNum c = true → k < 3) (Z : CZ t L n (p, false, k, V) σ) :
    ∃ τ, f_X0_readPart (I c) σ = some (if (rdP t L c (p, false, k, V)).2.1 = true then 0 else 1, τ) ∧ CZ t L n (rdP t L c (p, false, k, V)) τ ∧ frC n σ τ := by
  obtain ⟨h3, h4, h5, h6, hs⟩ := id Z
  have ne : ∀ {d : Nat}, d < 65536 → c ≠ d → ¬ I c = I d := fun hd h => I_beq (by omega) (by omega) h
  unfold f_X0_readPart rdP
  by_cases q1 : c = 68
  · subst q1
    obtain ⟨τ, t1, t2, t3⟩ := z_numD hL ht hp hn (hk rfl) Z
    rw [if_pos (show I 68 = 68 from rfl), if_pos rfl, t1, bnm_d, bz_if]
    exact ⟨τ, rfl, t2, t3⟩
  rw [if_neg (show ¬ I c = 68 from ne (d := 68) (by omega) q1), if_neg q1]
  by_cases q2 : c = 78
  · subst q2
    obtain ⟨τ, t1, t2, t3⟩ := z_numN hL ht hp hn (hk rfl) Z
    rw [if_pos (show I 78 = 78 from rfl), if_pos rfl, t1, bnm_d, bz_if]
    exact ⟨τ, rfl, t2, t3⟩
  rw [if_neg (show ¬ I c = 78 from ne (d := 78) (by omega) q2), if_neg q2]
  by_cases q3 : c = 87
  · subst q3
    obtain ⟨τ, t1, t2, t3⟩ := z_dir hL ht hp hn (hk rfl) Z
    rw [if_pos (show I 87 = 87 from rfl), if_pos rfl, t1, bnm_d, bz_if]
    exact ⟨τ, rfl, t2, t3⟩
  rw [if_neg (show ¬ I c = 87 from ne (d := 87) (by omega) q3), if_neg q3]
  by_cases q4 : c = 88
  · subst q4
    rw [if_pos (show I 88 = 88 from rfl), if_pos rfl, show f_X0_takeSign 120 σ = some (if p < L ∧ t p = 120 then (1, up σ 162 4 (I (p + 1))) else (0, σ)) from z_take hL ht hp 120 (by omega) h3 h4 hs]
    unfold rdX
    dsimp only
    rw [if_neg ff]
    by_cases q : p < L ∧ t p = 120
    · obtain ⟨τ, t1, t2, t3⟩ := z_tk hn (hk rfl) (-1) Z
      rw [if_pos q, bnm_d, if_neg one_ne, t1, bnm_d, bz_i1, if_pos q]
      exact ⟨τ, rfl, t2, t3⟩
    · obtain ⟨τ, t1, t2, t3⟩ := z_numN hL ht hp hn (hk rfl) Z
      rw [if_neg q, bnm_d, if_pos rfl, t1, bnm_d, bz_if, if_neg q]
      exact ⟨τ, rfl, t2, t3⟩
  rw [if_neg (show ¬ I c = 88 from ne (d := 88) (by omega) q4), if_neg q4, z_take hL ht hp c hc h3 h4 hs]
  unfold rdS
  dsimp only
  rw [if_neg ff]
  by_cases q : p < L ∧ t p = c
  · rw [if_pos q, bnm_d, bz_i1, if_pos q]
    obtain ⟨h6, hV⟩ := h6 rfl
    exact ⟨_, rfl, ⟨by rw [up_e, upd_n _ _ (by omega)]; exact h3, by rw [up_e, upd_e], by rw [up_e, upd_n _ _ (by omega)]; exact h5, fun _ => ⟨by rw [up_e, upd_n _ _ (by omega)]; exact h6, fun i hi => by rw [up_n _ _ _ (by omega)]; exact hV i hi⟩, fun j hj => by rw [up_n _ _ _ (by omega)]; exact hs j hj⟩, ⟨fun a z _ => up_n _ _ _ z, fun j z _ => by rw [up_e, upd_n _ _ z]⟩⟩
  · rw [if_neg q, bnm_d, bz_i0, if_neg q]
    exact ⟨σ, rfl, ⟨h3, h4, h5, fun z => (by cases z), hs⟩, frC.refl n σ⟩
end
def numL (r : List Nat) : Nat := (r.filter isNum).length
theorem rdP_k {t : Nat → Nat} {L c : Nat} {s : Rd} (h : (rdP t L c s).2.1 = false) : (rdP t L c s).2.2.1 = s.2.2.1 + (if isNum c = true then 1 else 0) := by
  obtain ⟨p, w, k, V⟩ := s
  cases w with
  | true => rw [rdP_w t L c _ rfl] at h; cases h
  | false =>
    have eD : ∀ s : Rd, s.2.1 = false → (rdD t L s).2.1 = false → (rdD t L s).2.2.1 = s.2.2.1 + 1 := by
      intro s hs
      unfold rdD
      rw [if_neg (by rw [hs]; exact ff)]
      split
      · intro _; rfl
      · intro z; cases z
    have eN : ∀ s : Rd, s.2.1 = false → (rdN t L s).2.1 = false → (rdN t L s).2.2.1 = s.2.2.1 + 1 := by
      intro s hs
      unfold rdN
      rw [if_neg (by rw [hs]; exact ff)]
      split
      · split <;> (intro _; rfl)
      · intro z; cases z
    have eW : ∀ s : Rd, s.2.1 = false → (rdW t L s).2.1 = false → (rdW t L s).2.2.1 = s.2.2.1 + 1 := by
      intro s hs
      unfold rdW
      rw [if_neg (by rw [hs]; exact ff)]
      cases (if s.1 < L then dirN (t s.1) else none) with
      | none => intro z; cases z
      | some d => intro _; rfl
    have eX : ∀ s : Rd, s.2.1 = false → (rdX t L s).2.1 = false → (rdX t L s).2.2.1 = s.2.2.1 + 1 := by
      intro s hs
      unfold rdX
      rw [if_neg (by rw [hs]; exact ff)]
      split
      · intro _; rfl
      · exact eN s hs
    have eS : ∀ s : Rd, s.2.1 = false → (rdS t L c s).2.1 = false → (rdS t L c s).2.2.1 = s.2.2.1 + 0 := by
      intro s hs
      unfold rdS
      rw [if_neg (by rw [hs]; exact ff)]
      split
      · intro _; rfl
      · intro z; cases z
    unfold rdP at h ⊢
    by_cases q1 : c = 68
    · subst q1; rw [if_pos rfl] at h ⊢; exact eD _ rfl h
    rw [if_neg q1] at h ⊢
    by_cases q2 : c = 78
    · subst q2; rw [if_pos rfl] at h ⊢; exact eN _ rfl h
    rw [if_neg q2] at h ⊢
    by_cases q3 : c = 87
    · subst q3; rw [if_pos rfl] at h ⊢; exact eW _ rfl h
    rw [if_neg q3] at h ⊢
    by_cases q4 : c = 88
    · subst q4; rw [if_pos rfl] at h ⊢; exact eX _ rfl h
    rw [if_neg q4] at h ⊢
    rw [eS _ rfl h, if_neg]
    unfold isNum
    simp [q1, q2, q3, q4]
theorem rdF_k {t : Nat → Nat} {L : Nat} : ∀ (r : List Nat) (s : Rd), (rdF t L r s).2.1 = false → (rdF t L r s).2.2.1 = s.2.2.1 + numL r := by
  intro r
  induction r with
  | nil => intro s _; rfl
  | cons c r ih =>
    intro s h
    unfold rdF at h ⊢
    have h1 : (rdP t L c s).2.1 = false := by
      cases e : (rdP t L c s).2.1 with
      | false => rfl
      | true => rw [rdF_w t L r _ e, e] at h; cases h
    rw [ih _ h, rdP_k h1]
    unfold numL
    by_cases q : isNum c = true
    · rw [if_pos q, List.filter_cons_of_pos q, List.length_cons]; omega
    · rw [if_neg q, List.filter_cons_of_neg q]; omega
theorem rdF_le {t : Nat → Nat} {L : Nat} : ∀ (r : List Nat) (s : Rd), s.1 ≤ L → (rdF t L r s).1 ≤ L := by
  intro r
  induction r with
  | nil => intro s h; exact h
  | cons c r ih => intro s h; exact ih _ (rdP_le h)
theorem rdP_ge {t : Nat → Nat} {L c : Nat} {s : Rd} : s.1 ≤ (rdP t L c s).1 := by
  obtain ⟨p, w, k, V⟩ := s
  have eN : p ≤ (rdN t L (p, w, k, V)).1 := by
    unfold rdN
    repeat' split
    all_goals (dsimp only; omega)
  unfold rdP rdD rdW rdX rdS
  repeat' split
  all_goals first
    | exact eN
    | (dsimp only; omega)
theorem rdF_ge {t : Nat → Nat} {L : Nat} : ∀ (r : List Nat) (s : Rd), s.1 ≤ (rdF t L r s).1 := by
  intro r
  induction r with
  | nil => intro s; exact Nat.le_refl _
  | cons c r ih => intro s; exact Nat.le_trans rdP_ge (ih _)
theorem tx_len (j : Nat) (hj : txN j < 8) (σ : Mm) : f_J0_length_8abf5 j σ = some (I (txN j)) := by
  unfold f_J0_length_8abf5 f_J0_coder_7d493
  rw [bnd_d]
  exact congrArg some ((by decide +kernel : ∀ a, a < 8 → (Int32.ofNat a) >>> ((0 : Int32) &&& 31) = I a) _ hj)
theorem tx_at {j i c : Nat} (hj : txN j < 8) (hi : i < txN j) (hc : c < 128) (h : txC j i = I c) (σ : Mm) : f_J0_charAt_5068e j (I i) σ = some (I c) := by
  unfold f_J0_charAt_5068e f_J0_isLatin1_aae02 f_J1_charAt_3b067 f_J0_checkIndex_df160 f_J3_checkIndex_8e157
  have e : ((((I c) &&& 255).toUInt32 % 65536).toInt32) = I c := (by decide +kernel : ∀ c, c < 128 → ((((I c) &&& 255).toUInt32 % 65536).toInt32) = I c) c hc
  rw [bnd_d, if_neg one_ne, if_neg (I_n0 (by omega)), if_pos ((I_lt (a := i) (b := txN j) (by omega) (by omega)).mpr hi), bnd_d, bnd_d, gd_I hi (by omega), I_clamp (by omega), h, e, cz_I (by omega), bnd_d, cz_I (by omega)]
/-- the form's rest is read -/
theorem z_loop {t : Nat → Nat} {L n j : Nat} {x3 : Int32} (hL : L ≤ 60) (ht : ∀ j, j < L → t j < 65536) (hn : n < 30) (hj : txN j < 8) : ∀ (r : List Nat) (i m : Nat) (s : Rd) (σ : Mm), i + r.length = txN j → (∀ q, q < r.length → txC j (i + q) = I (r.getD q 0)) → (∀ c, c ∈ r → c < 128) → r.length < m → s.2.1 = false → s.1 ≤ L → s.2.2.1 + numL r ≤ 3 → CZ t L n s σ →
    ∃ τ, f_X0_readCommand_l70 j x3 m (I i) σ = (if (rdF t L r s).2.1 = true then some (0, τ) else some (1, up τ 162 5 (I (n + 1)))) ∧ CZ t L n (rdF t L r s) τ ∧ frC n σ τ := by
  intro r
  induction r with
  | nil =>
    intro i m s σ h1 h2 h3 h4 h5 h6 h7 Z
    obtain ⟨m, rfl⟩ : ∃ k, m = k + 1 := ⟨m - 1, by simp at h4; omega⟩
    have e : i = txN j := by simpa using h1
    rw [e, f_X0_readCommand_l70, tx_len j hj, bnd_d, if_pos (Int32.le_refl _), Z.2.2.1, I_a1, lt_d]
    refine ⟨σ, ?_, Z, frC.refl n σ⟩
    rw [show rdF t L [] s = s from rfl, if_neg (by rw [h5]; exact ff)]
  | cons c r ih =>
    intro i m s σ h1 h2 h3 h4 h5 h6 h7 Z
    obtain ⟨m, rfl⟩ : ∃ k, m = k + 1 := ⟨m - 1, by simp at h4; omega⟩
    rw [List.length_cons] at h1 h4
    have hi : i < txN j := by omega
    have hc : c < 128 := h3 c List.mem_cons_self
    have c0 : txC j i = I c := h2 0 (by rw [List.length_cons]; omega)
    have hnum : isNum c = true → s.2.2.1 < 3 := fun z => by
      unfold numL at h7; rw [List.filter_cons_of_pos z, List.length_cons] at h7; omega
    obtain ⟨p, w, k, V⟩ := s
    dsimp only at h5 h6 h7 hnum
    subst h5
    obtain ⟨τ1, t1, t2, t3⟩ := z_part hL ht h6 hn (c := c) (by omega) hnum Z
    rw [f_X0_readCommand_l70, tx_len j hj, bnd_d, if_neg (nle hi (by omega)), tx_at hj hi hc c0, bnd_d, t1, bnm_d]
    by_cases q : (rdP t L c (p, false, k, V)).2.1 = true
    · have e2 : rdF t L (c :: r) (p, false, k, V) = rdP t L c (p, false, k, V) := rdF_w t L r _ q
      rw [if_pos q, if_pos rfl, e2]
      exact ⟨τ1, by rw [if_pos q], t2, t3⟩
    · rw [if_neg q, if_neg one_ne, I_a1, lt_d]
      have q' : (rdP t L c (p, false, k, V)).2.1 = false := by cases e : (rdP t L c (p, false, k, V)).2.1 with | false => rfl | true => exact absurd e q
      have hk := rdP_k q'
      dsimp only at hk
      have h7' : (rdP t L c (p, false, k, V)).2.2.1 + numL r ≤ 3 := by
        rw [hk]
        unfold numL at h7 ⊢
        by_cases z : isNum c = true
        · rw [List.filter_cons_of_pos z, List.length_cons] at h7; rw [if_pos z]; omega
        · rw [List.filter_cons_of_neg z] at h7; rw [if_neg z]; omega
      obtain ⟨τ, u1, u2, u3⟩ := ih (i + 1) m _ τ1 (by omega) (fun q hq => by rw [show i + 1 + q = i + (q + 1) by omega, h2 (q + 1) (by rw [List.length_cons]; omega)]; rfl) (fun d hd => h3 d (List.mem_cons_of_mem _ hd)) (by omega) q' (rdP_le h6) h7' t2
      exact ⟨τ, u1, u2, t3.trans u3⟩
end
section
/-! TEXTS: the class reads all commands -/
def formN (c : Nat) : Option (Nat × List Nat) := if c = 98 then some (418, [68, 62, 68, 42, 68]) else if c = 103 then some (417, [78]) else if c = 104 then some (413, [78, 45, 78, 61, 68]) else if c = 109 then some (416, [88]) else if c = 114 then some (420, [68, 43, 68]) else if c = 115 then some (414, []) else if c = 116 then some (415, [68, 58, 78, 45, 78]) else if c = 118 then some (417, [78]) else if c = 119 then some (419, [68, 87]) else none
def formG (c j : Nat) (l : List Nat) : Prop := txN j = l.length ∧ l.length < 6 ∧ (∀ q, q < l.length → txC j q = I (l.getD q 0)) ∧ (∀ c, c ∈ l → c < 128) ∧ numL l ≤ 3 ∧ c < 128
theorem form_ok {c : Nat} {x : Nat × List Nat} (h : formN c = some x) : formG c x.1 x.2 := by
  unfold formN at h
  have w : ∀ {c j : Nat} {l : List Nat}, formN c = some (j, l) → decide (txN j = l.length ∧ l.length < 6 ∧ (∀ q, q < l.length → txC j q = I (l.getD q 0)) ∧ (∀ c, c ∈ l → c < 128) ∧ numL l ≤ 3 ∧ c < 128) = true → formG c j l := fun _ h => by unfold formG; exact of_decide_eq_true h
  by_cases q : c = 98
  · subst q; rw [if_pos rfl] at h; cases h; exact w rfl (by decide +kernel)
  rw [if_neg q] at h
  by_cases q : c = 103
  · subst q; rw [if_pos rfl] at h; cases h; exact w rfl (by decide +kernel)
  rw [if_neg q] at h
  by_cases q : c = 104
  · subst q; rw [if_pos rfl] at h; cases h; exact w rfl (by decide +kernel)
  rw [if_neg q] at h
  by_cases q : c = 109
  · subst q; rw [if_pos rfl] at h; cases h; exact w rfl (by decide +kernel)
  rw [if_neg q] at h
  by_cases q : c = 114
  · subst q; rw [if_pos rfl] at h; cases h; exact w rfl (by decide +kernel)
  rw [if_neg q] at h
  by_cases q : c = 115
  · subst q; rw [if_pos rfl] at h; cases h; exact w rfl (by decide +kernel)
  rw [if_neg q] at h
  by_cases q : c = 116
  · subst q; rw [if_pos rfl] at h; cases h; exact w rfl (by decide +kernel)
  rw [if_neg q] at h
  by_cases q : c = 118
  · subst q; rw [if_pos rfl] at h; cases h; exact w rfl (by decide +kernel)
  rw [if_neg q] at h
  by_cases q : c = 119
  · subst q; rw [if_pos rfl] at h; cases h; exact w rfl (by decide +kernel)
  rw [if_neg q] at h
  cases h
theorem z_form {c : Nat} (hc : c < 65536) (σ : Mm) : f_X0_formOf (I c) σ = some (match formN c with | none => none | some x => some x.1) := by
  have ne : ∀ {d : Nat}, d < 65536 → c ≠ d → ¬ I c = I d := fun hd h => I_beq (by omega) (by omega) h
  unfold f_X0_formOf formN
  by_cases q : c = 98
  · subst q; rfl
  rw [if_neg (show ¬ I c = 98 from ne (d := 98) (by omega) q), if_neg q]
  by_cases q : c = 103
  · subst q; rfl
  rw [if_neg (show ¬ I c = 103 from ne (d := 103) (by omega) q), if_neg q]
  by_cases q : c = 104
  · subst q; rfl
  rw [if_neg (show ¬ I c = 104 from ne (d := 104) (by omega) q), if_neg q]
  by_cases q : c = 109
  · subst q; rfl
  rw [if_neg (show ¬ I c = 109 from ne (d := 109) (by omega) q), if_neg q]
  by_cases q : c = 114
  · subst q; rfl
  rw [if_neg (show ¬ I c = 114 from ne (d := 114) (by omega) q), if_neg q]
  by_cases q : c = 115
  · subst q; rfl
  rw [if_neg (show ¬ I c = 115 from ne (d := 115) (by omega) q), if_neg q]
  by_cases q : c = 116
  · subst q; rfl
  rw [if_neg (show ¬ I c = 116 from ne (d := 116) (by omega) q), if_neg q]
  by_cases q : c = 118
  · subst q; rfl
  rw [if_neg (show ¬ I c = 118 from ne (d := 118) (by omega) q), if_neg q]
  by_cases q : c = 119
  · subst q; rfl
  rw [if_neg (show ¬ I c = 119 from ne (d := 119) (by omega) q), if_neg q]
def V0 : Nat → Int32 := fun _ => 0
def rdC (t : Nat → Nat) (L p : Nat) : Rd := if p < L then (match formN (t p) with | some x => rdF t L x.2 (p + 1, false, 0, V0) | none => (p, true, 0, V0)) else (p, true, 0, V0)
theorem rdC_le {t : Nat → Nat} {L p : Nat} (h : p ≤ L) : (rdC t L p).1 ≤ L := by
  unfold rdC
  by_cases q : p < L
  · rw [if_pos q]
    cases formN (t p) with
    | none => exact h
    | some x => exact rdF_le _ _ q
  · rw [if_neg q]; exact h
theorem rdC_t {t : Nat → Nat} {L p : Nat} (h : (rdC t L p).2.1 = false) : p < L ∧ p + 1 ≤ (rdC t L p).1 ∧ ∃ x, formN (t p) = some x ∧ (rdC t L p).2.2.1 = numL x.2 := by
  unfold rdC at h ⊢
  by_cases q : p < L
  · rw [if_pos q] at h ⊢
    cases e : formN (t p) with
    | none => rw [e] at h; cases h
    | some x =>
      rw [e] at h
      refine ⟨q, ?_, x, rfl, ?_⟩
      · exact rdF_ge x.2 (p + 1, false, 0, V0)
      dsimp only at h ⊢
      rw [rdF_k x.2 _ h]
      exact Nat.zero_add _
  · rw [if_neg q] at h; cases h
theorem z_cmd {t : Nat → Nat} {L n p : Nat} {σ : Mm} (hL : L ≤ 60) (ht : ∀ j, j < L → t j < 65536) (hp : p ≤ L) (hn : p < L → n < 30) (hn2 : n < 60) (h3 : σ 162 3 = I L) (h4 : σ 162 4 = I p) (h5 : σ 162 5 = I n) (hs : ∀ j, j < L → σ 163 j = I (t j)) :
    ∃ τ, f_X0_readCommand σ = some (if (rdC t L p).2.1 = true then 0 else 1, τ) ∧ τ 162 3 = I L ∧ τ 162 4 = I (rdC t L p).1 ∧ (∀ j, j < L → τ 163 j = I (t j)) ∧ ((rdC t L p).2.1 = false → τ 162 5 = I (n + 1) ∧ τ 164 n = I (t p) ∧ ∀ i, i < (rdC t L p).2.2.1 → τ (166 + n) i = (rdC t L p).2.2.2 i) ∧ (∀ i, i ≠ n → τ 164 i = σ 164 i) ∧ ∀ a, a ≠ 162 → a ≠ 164 → (p < L → a ≠ 166 + n) → τ a = σ a := by
  unfold f_X0_readCommand
  rw [h3, h4, h5]
  by_cases q : p < L
  · have n30 := hn q
    have e0 : rdC t L p = (match formN (t p) with | some x => rdF t L x.2 (p + 1, false, 0, V0) | none => (p, true, 0, V0)) := by unfold rdC; rw [if_pos q]
    rw [if_neg (nle q (by omega)), if_pos (show I n < 30 from (I_lt (b := 30) (by omega) (by omega)).mpr n30), gd_I (by omega) (by omega), I_clamp (by omega), hs p q, lt_d, z_form (ht p q), bnd_d]
    cases e : formN (t p) with
    | none =>
      rw [e] at e0
      rw [e0]
      dsimp only
      rw [oc_d, if_pos rfl]
      exact ⟨σ, rfl, h3, h4, hs, fun z => (by cases z), fun _ _ => rfl, fun _ _ _ _ => rfl⟩
    | some x =>
      rw [e] at e0
      dsimp only at e0 ⊢
      obtain ⟨g1, g2, g3, g4, g5, g6⟩ := form_ok e
      rw [oc_e, gd_I n30 (by omega), I_clamp (by omega), nar_ch (ht p q), lt_d, lt_d, up_e, upd_n _ _ (show 4 ≠ 6 by omega), up_n _ _ _ (show 162 ≠ 164 by omega), h4, I_a1, lt_d]
      obtain ⟨σ8, hσ⟩ : ∃ s, s = up (up (up σ 164 n (I (t p))) 162 6 0) 162 4 (I (p + 1)) := ⟨_, rfl⟩
      rw [← hσ]
      have f162 : ∀ k, k ≠ 4 → k ≠ 6 → σ8 162 k = σ 162 k := fun k z1 z2 => by rw [hσ, up_e, upd_n _ _ z1, up_e, upd_n _ _ z2, up_n _ _ _ (by omega)]
      have fo : ∀ a, a ≠ 162 → a ≠ 164 → σ8 a = σ a := fun a z1 z2 => by rw [hσ, up_n _ _ _ z1, up_n _ _ _ z1, up_n _ _ _ z2]
      have f164 : σ8 164 = upd (σ 164) n (I (t p)) := by rw [hσ, up_n _ _ _ (by omega), up_n _ _ _ (by omega), up_e]
      have Z : CZ t L n (p + 1, false, 0, V0) σ8 := ⟨by rw [f162 3 (by omega) (by omega)]; exact h3, by rw [hσ, up_e, upd_e], by rw [f162 5 (by omega) (by omega)]; exact h5, fun _ => ⟨by rw [hσ, up_e, upd_n _ _ (by omega), up_e, upd_e]; rfl, fun i hi => absurd hi (Nat.not_lt_zero _)⟩, fun j hj => by rw [fo 163 (by omega) (by omega)]; exact hs j hj⟩
      obtain ⟨τ, t1, t2, t3, t4⟩ := z_loop (j := x.1) (x3 := I (t p)) hL ht n30 (by omega) x.2 0 8 (p + 1, false, 0, V0) σ8 (by omega) (fun q hq => by rw [Nat.zero_add]; exact g3 q hq) g4 (by omega) rfl (show p + 1 ≤ L by omega) (by show 0 + numL x.2 ≤ 3; omega) Z
      obtain ⟨u3, u4, u5, u6, us⟩ := t2
      rw [show f_X0_readCommand_l70 x.1 (I (t p)) 8 0 σ8 = _ from t1, e0]
      have k164 : ∀ i, i ≠ n → τ 164 i = σ 164 i := fun i hi => by rw [t3 164 (by omega) (by omega), f164, upd_n _ _ hi]
      have kn : τ 164 n = I (t p) := by rw [t3 164 (by omega) (by omega), f164, upd_e]
      by_cases w : (rdF t L x.2 (p + 1, false, 0, V0)).2.1 = true
      · rw [if_pos w, if_pos w]
        exact ⟨τ, rfl, u3, u4, us, fun z => (by rw [w] at z; cases z), k164, fun a z1 z2 z3 => by rw [t3 a z1 (z3 q), fo a z1 z2]⟩
      · rw [if_neg w, if_neg w]
        have w' : (rdF t L x.2 (p + 1, false, 0, V0)).2.1 = false := by cases z : (rdF t L x.2 (p + 1, false, 0, V0)).2.1 with | false => rfl | true => exact absurd z w
        refine ⟨_, rfl, by rw [up_e, upd_n _ _ (by omega)]; exact u3, by rw [up_e, upd_n _ _ (by omega)]; exact u4, fun j hj => by rw [up_n _ _ _ (by omega)]; exact us j hj, fun _ => ⟨by rw [up_e, upd_e], by rw [up_n _ _ _ (by omega)]; exact kn, fun i hi => by rw [up_n _ _ _ (by omega)]; exact (u6 w').2 i hi⟩, fun i hi => by rw [up_n _ _ _ (by omega)]; exact k164 i hi, fun a z1 z2 z3 => by rw [up_n _ _ _ z1, t3 a z1 (z3 q), fo a z1 z2]⟩
  · have e0 : rdC t L p = (p, true, 0, V0) := by unfold rdC; rw [if_neg q]
    rw [if_pos ((I_le (by omega) (by omega)).mpr (by omega)), e0, if_pos rfl]
    exact ⟨σ, rfl, h3, h4, hs, fun z => (by cases z), fun _ _ => rfl, fun _ _ _ _ => rfl⟩
abbrev Cs : Type := Nat → Nat × Nat × (Nat → Int32)
def sn (C : Cs) (n : Nat) (x : Nat × Nat × (Nat → Int32)) : Cs := fun i => if i = n then x else C i
def rdT (t : Nat → Nat) (L : Nat) : Nat → Nat → Nat → Cs → Nat × Bool × Nat × Cs
  | 0, p, n, C => (p, true, n, C)
  | m + 1, p, n, C => if p < L then (if t p = 59 then (if (rdC t L (p + 1)).2.1 = true then ((rdC t L (p + 1)).1, true, n, C) else rdT t L m (rdC t L (p + 1)).1 (n + 1) (sn C n (t (p + 1), (rdC t L (p + 1)).2.2))) else (p, true, n, C)) else (p, false, n, C)
def C0 : Cs := fun _ => (0, 0, V0)
def rdA (t : Nat → Nat) (L : Nat) : Nat × Bool × Nat × Cs := if (rdC t L 0).2.1 = true then ((rdC t L 0).1, true, 0, C0) else rdT t L 62 (rdC t L 0).1 1 (sn C0 0 (t 0, (rdC t L 0).2.2))
def CM (n : Nat) (C : Cs) (σ : Mm) : Prop := ∀ i, i < n → σ 164 i = I (C i).1 ∧ ∀ j, j < (C i).2.1 → σ (166 + i) j = (C i).2.2 j
theorem CM.add {n : Nat} {C : Cs} {σ τ : Mm} {x : Nat × Nat × (Nat → Int32)} (hn : n < 30) (h : CM n C σ) (e1 : ∀ i, i ≠ n → τ 164 i = σ 164 i) (e2 : ∀ a, 166 ≤ a → a ≠ 166 + n → τ a = σ a) (e3 : τ 164 n = I x.1) (e4 : ∀ j, j < x.2.1 → τ (166 + n) j = x.2.2 j) : CM (n + 1) (sn C n x) τ := by
  intro i hi
  unfold sn
  by_cases e : i = n
  · subst e; rw [if_pos rfl]; exact ⟨e3, e4⟩
  · rw [if_neg e, e1 i e, e2 _ (by omega) (by omega)]
    exact h i (by omega)
theorem z_rest {t : Nat → Nat} {L : Nat} {K : Int32 → Int32 → Mm → Option (Int32 × Mm)} (hL : L ≤ 60) (ht : ∀ j, j < L → t j < 65536) : ∀ (m p r F : Nat) (C : Cs) (σ : Mm), 2 * r + 1 ≤ p → p ≤ L → L + 2 ≤ p + 2 * m → m + 2 ≤ F → σ 162 3 = I L → σ 162 4 = I p → σ 162 5 = I (r + 1) → (∀ j, j < L → σ 163 j = I (t j)) → CM (r + 1) C σ →
    ∃ v τ, f_X0_takeCommands_l17 K F (I r) 1 σ = K v (if (rdT t L m p (r + 1) C).2.1 = true then 0 else 1) τ ∧ τ 162 4 = I (rdT t L m p (r + 1) C).1 ∧ ((rdT t L m p (r + 1) C).2.1 = false → τ 162 5 = I (rdT t L m p (r + 1) C).2.2.1 ∧ CM (rdT t L m p (r + 1) C).2.2.1 (rdT t L m p (r + 1) C).2.2.2 τ) ∧ ∀ a, a ≠ 162 → a ≠ 164 → a < 166 ∨ 196 ≤ a → τ a = σ a := by
  intro m
  induction m with
  | zero => intro p r F C σ _ h2 h3; omega
  | succ m ih =>
    intro p r F C σ h1 h2 hm hF h3 h4 h5 hs hC
    obtain ⟨F, rfl⟩ : ∃ k, F = k + 2 := ⟨F - 2, by omega⟩
    have stop : ∀ (v : Int32) (τ : Mm), f_X0_takeCommands_l17 K (F + 1) v 0 τ = K v 0 τ := fun v τ => by
      rw [f_X0_takeCommands_l17]
      by_cases z : (60 : Int32) ≤ v
      · rw [if_pos z]
      · rw [if_neg z, if_pos rfl]
    rw [f_X0_takeCommands_l17, if_neg (show ¬ (60 : Int32) ≤ I r from nle (N := 60) (by omega) (by omega)), if_neg one_ne, h3, h4]
    by_cases q : p < L
    · rw [if_neg (nle q (by omega)), show f_X0_takeSign 59 σ = some (if p < L ∧ t p = 59 then (1, up σ 162 4 (I (p + 1))) else (0, σ)) from z_take hL ht h2 59 (by omega) h3 h4 hs]
      by_cases q2 : t p = 59
      · rw [if_pos ⟨q, q2⟩, bnm_d, if_neg one_ne]
        obtain ⟨τ, t1, t3, t4, t5, t6, t7, t8⟩ := z_cmd (t := t) (L := L) (n := r + 1) (p := p + 1) (σ := up σ 162 4 (I (p + 1))) hL ht (by omega) (fun z => by omega) (by omega) (by rw [up_e, upd_n _ _ (by omega)]; exact h3) (by rw [up_e, upd_e]) (by rw [up_e, upd_n _ _ (by omega)]; exact h5) (fun j hj => by rw [up_n _ _ _ (by omega)]; exact hs j hj)
        rw [t1, bnm_d]
        by_cases w : (rdC t L (p + 1)).2.1 = true
        · have e0 : rdT t L (m + 1) p (r + 1) C = ((rdC t L (p + 1)).1, true, r + 1, C) := by rw [rdT, if_pos q, if_pos q2, if_pos w]
          rw [if_pos w, if_pos rfl, lt_d, stop, e0, if_pos rfl]
          refine ⟨_, τ, rfl, t4, fun z => (by cases z), fun a z1 z2 z3 => by rw [t8 a z1 z2 (fun _ => by omega), up_n _ _ _ z1]⟩
        · have w' : (rdC t L (p + 1)).2.1 = false := by cases z : (rdC t L (p + 1)).2.1 with | false => rfl | true => exact absurd z w
          have e0 : rdT t L (m + 1) p (r + 1) C = rdT t L m (rdC t L (p + 1)).1 (r + 1 + 1) (sn C (r + 1) (t (p + 1), (rdC t L (p + 1)).2.2)) := by rw [rdT, if_pos q, if_pos q2, if_neg w]
          obtain ⟨y1, y2, -⟩ := rdC_t w'
          obtain ⟨t6a, t6b, t6c⟩ := t6 w'
          rw [if_neg w, if_neg one_ne, I_a1, lt_d, e0]
          obtain ⟨v, ρ, u1, u2, u3, u4⟩ := ih (rdC t L (p + 1)).1 (r + 1) (F + 1) (sn C (r + 1) (t (p + 1), (rdC t L (p + 1)).2.2)) τ (by omega) (rdC_le (by omega)) (by omega) (by omega) t3 t4 t6a t5 (CM.add (by omega) hC (fun i hi => by rw [t7 i hi, up_n _ _ _ (by omega)]) (fun a z1 z2 => by rw [t8 a (by omega) (by omega) (fun _ => z2), up_n _ _ _ (by omega)]) t6b t6c)
          exact ⟨v, ρ, u1, u2, u3, fun a z1 z2 z3 => by rw [u4 a z1 z2 z3, t8 a z1 z2 (fun _ => by omega), up_n _ _ _ z1]⟩
      · have e0 : rdT t L (m + 1) p (r + 1) C = (p, true, r + 1, C) := by rw [rdT, if_pos q, if_neg q2]
        rw [if_neg (fun z => q2 z.2), bnm_d, if_pos rfl, lt_d, stop, e0, if_pos rfl]
        exact ⟨_, σ, rfl, h4, fun z => (by cases z), fun _ _ _ _ => rfl⟩
    · have e0 : rdT t L (m + 1) p (r + 1) C = (p, false, r + 1, C) := by rw [rdT, if_neg q]
      rw [if_pos ((I_le (by omega) (by omega)).mpr (by omega)), e0, if_neg ff]
      exact ⟨_, σ, rfl, h4, fun _ => ⟨h5, hC⟩, fun _ _ _ _ => rfl⟩
theorem z_all {t : Nat → Nat} {L : Nat} {σ : Mm} (hL : L ≤ 60) (ht : ∀ j, j < L → t j < 65536) (h3 : σ 162 3 = I L) (hs : ∀ j, j < L → σ 163 j = I (t j)) :
    ∃ τ, f_X0_takeCommands σ = some (if (rdA t L).2.1 = true then 0 else 1, τ) ∧ τ 162 3 = 0 ∧ τ 162 7 = (if (rdA t L).2.1 = true then I (rdA t L).1 else -1) ∧ ((rdA t L).2.1 = false → τ 162 5 = I (rdA t L).2.2.1 ∧ CM (rdA t L).2.2.1 (rdA t L).2.2.2 τ) ∧ ∀ a, a ≠ 162 → a ≠ 164 → a < 166 ∨ 196 ≤ a → τ a = σ a := by
  have fin : ∀ (v5 v6 : Int32) (τ : Mm) (p n : Nat) (C : Cs) (w : Bool), v6 = (if w = true then 0 else 1) → τ 162 4 = I p → (w = false → τ 162 5 = I n ∧ CM n C τ) → (∀ a, a ≠ 162 → a ≠ 164 → a < 166 ∨ 196 ≤ a → τ a = σ a) →
      ∃ ρ, (if v6 = 0 then (lt (up τ 162 7 (τ 162 4)) fun σ10 => lt (up σ10 162 3 0) fun σ11 => bz v6 (some (v6, σ11))) else (lt (up τ 162 7 (-1)) fun σ12 => lt (up σ12 162 3 0) fun σ13 => bz v6 (some (v6, σ13)))) = some (if w = true then 0 else 1, ρ) ∧ ρ 162 3 = 0 ∧ ρ 162 7 = (if w = true then I p else -1) ∧ (w = false → ρ 162 5 = I n ∧ CM n C ρ) ∧ ∀ a, a ≠ 162 → a ≠ 164 → a < 166 ∨ 196 ≤ a → ρ a = σ a := by
    intro v5 v6 τ p n C w e h4 hC hf
    subst e
    cases w with
    | true =>
      rw [if_pos rfl, if_pos rfl, h4, lt_d, lt_d, bz_i0]
      exact ⟨_, rfl, by rw [up_e, upd_e], by rw [up_e, upd_n _ _ (by omega), up_e, upd_e, if_pos rfl], fun z => (by cases z), fun a z1 z2 z3 => by rw [up_n _ _ _ z1, up_n _ _ _ z1, hf a z1 z2 z3]⟩
    | false =>
      obtain ⟨c1, c2⟩ := hC rfl
      rw [if_neg ff, if_neg one_ne, lt_d, lt_d, bz_i1]
      exact ⟨_, rfl, by rw [up_e, upd_e], by rw [up_e, upd_n _ _ (by omega), up_e, upd_e, if_neg ff], fun _ => ⟨by rw [up_e, upd_n _ _ (by omega), up_e, upd_n _ _ (by omega)]; exact c1, fun i hi => by rw [up_n _ _ _ (by omega), up_n _ _ _ (by omega), up_n _ _ _ (by omega), up_n _ _ _ (by omega)]; exact c2 i hi⟩, fun a z1 z2 z3 => by rw [up_n _ _ _ z1, up_n _ _ _ z1, hf a z1 z2 z3]⟩
  unfold f_X0_takeCommands
  obtain ⟨σ2, hσ⟩ : ∃ s, s = up (up σ 162 4 0) 162 5 0 := ⟨_, rfl⟩
  rw [lt_d, lt_d, ← hσ]
  have f0 : ∀ a, a ≠ 162 → σ2 a = σ a := fun a z => by rw [hσ, up_n _ _ _ z, up_n _ _ _ z]
  obtain ⟨τ, t1, t3, t4, t5, t6, t7, t8⟩ := z_cmd (t := t) (L := L) (n := 0) (p := 0) (σ := σ2) hL ht (by omega) (fun z => by omega) (by omega) (by rw [hσ, up_e, upd_n _ _ (by omega), up_e, upd_n _ _ (by omega)]; exact h3) (by rw [hσ, up_e, upd_n _ _ (by omega), up_e, upd_e]; rfl) (by rw [hσ, up_e, upd_e]; rfl) (fun j hj => by rw [f0 163 (by omega)]; exact hs j hj)
  rw [t1, bnm_d, lt_d]
  by_cases w : (rdC t L 0).2.1 = true
  · have e0 : rdA t L = ((rdC t L 0).1, true, 0, C0) := by unfold rdA; rw [if_pos w]
    rw [if_pos w, f_X0_takeCommands_l17, if_neg (show ¬ (60 : Int32) ≤ 0 by decide), if_pos rfl, e0]
    exact fin 0 0 τ (rdC t L 0).1 0 C0 true rfl t4 (fun z => (by cases z)) (fun a z1 z2 z3 => by rw [t8 a z1 z2 (fun _ => by omega), f0 a z1])
  · have w' : (rdC t L 0).2.1 = false := by cases z : (rdC t L 0).2.1 with | false => rfl | true => exact absurd z w
    have e0 : rdA t L = rdT t L 62 (rdC t L 0).1 1 (sn C0 0 (t 0, (rdC t L 0).2.2)) := by unfold rdA; rw [if_neg w]
    obtain ⟨y1, y2, -⟩ := rdC_t w'
    obtain ⟨t6a, t6b, t6c⟩ := t6 w'
    rw [if_neg w, e0]
    have hC : CM 1 (sn C0 0 (t 0, (rdC t L 0).2.2)) τ := CM.add (σ := σ2) (n := 0) (C := C0) (by omega) (fun i hi => absurd hi (Nat.not_lt_zero _)) t7 (fun a z1 z2 => t8 a (by omega) (by omega) (fun _ => z2)) t6b t6c
    obtain ⟨v, ρ, u1, u2, u3, u4⟩ := z_rest (K := fun v5 v6 σ7 => if v6 = 0 then (lt (up σ7 162 7 (σ7 162 4)) fun σ10 => lt (up σ10 162 3 0) fun σ11 => bz v6 (some (v6, σ11))) else (lt (up σ7 162 7 (-1)) fun σ12 => lt (up σ12 162 3 0) fun σ13 => bz v6 (some (v6, σ13)))) hL ht 62 (rdC t L 0).1 0 64 (sn C0 0 (t 0, (rdC t L 0).2.2)) τ (by omega) (rdC_le (by omega)) (by omega) (by omega) t3 t4 t6a t5 hC
    rw [show f_X0_takeCommands_l17 _ 64 0 1 τ = _ from u1]
    exact fin v _ ρ _ _ _ _ rfl u2 u3 (fun a z1 z2 z3 => by rw [u4 a z1 z2 z3, t8 a z1 z2 (fun _ => by omega), f0 a z1])
end
section
/-! TEXTS: the reference reads a command -/
def hv (t : Nat → Nat) (L p : Nat) : Int32 := if p < L then I (t p) else -1
def RZ (t : Nat → Nat) (L p : Nat) (w : Bool) (σ : Mm) : Prop := σ 198 17 = I L ∧ σ 198 16 = I p ∧ σ 198 18 = (if w = true then 1 else 0) ∧ p ≤ 60 ∧ ∀ j, j < L → σ 203 j = I (t j)
def frR (σ τ : Mm) : Prop := (∀ a, a ≠ 198 → τ a = σ a) ∧ ∀ k, k ≠ 16 → k ≠ 18 → τ 198 k = σ 198 k
theorem frR.trans {σ τ ρ : Mm} (h : frR σ τ) (g : frR τ ρ) : frR σ ρ := ⟨fun a h1 => (g.1 a h1).trans (h.1 a h1), fun k h1 h2 => (g.2 k h1 h2).trans (h.2 k h1 h2)⟩
section
variable {t : Nat → Nat} {L p : Nat} {w : Bool} {σ : Mm}
theorem r_here (hL : L ≤ 60) (Z : RZ t L p w σ) : f_X10_here σ = some (hv t L p) := by
  obtain ⟨h1, h2, h3, h4, h5⟩ := Z
  unfold f_X10_here hv
  rw [h1, h2]
  by_cases q : p < L
  · rw [if_neg (nle q (by omega)), gd_I (by omega) (by omega), I_clamp (by omega), h5 p q, if_pos q]
  · rw [if_pos ((I_le (by omega) (by omega)).mpr (by omega)), if_neg q]
theorem r_yes (Z : RZ t L p w σ) (hp : p < 60) : ∃ τ, f_X10_expects 1 σ = some τ ∧ RZ t L (if w = true then p else p + 1) w τ ∧ frR σ τ := by
  obtain ⟨h1, h2, h3, h4, h5⟩ := Z
  unfold f_X10_expects
  rw [h3]
  cases w with
  | true =>
    rw [if_pos rfl, if_neg one_ne, lt_d, up_e, upd_e, if_neg one_ne, upd_n _ _ (show 16 ≠ 18 by omega), h2, lt_d]
    refine ⟨_, rfl, ⟨by rw [up_e, upd_n _ _ (by omega), up_e, upd_n _ _ (by omega)]; exact h1, by rw [up_e, upd_e, I_a0]; rfl, by rw [up_e, upd_n _ _ (by omega), up_e, upd_e]; rfl, by rw [if_pos rfl]; exact h4, fun j hj => by rw [up_n _ _ _ (by omega), up_n _ _ _ (by omega)]; exact h5 j hj⟩, fun a z => by rw [up_n _ _ _ z, up_n _ _ _ z], fun k z1 z2 => by rw [up_e, upd_n _ _ z1, up_e, upd_n _ _ z2]⟩
  | false =>
    rw [if_neg ff, if_pos rfl, if_neg one_ne, lt_d, up_e, upd_e, if_pos rfl, upd_n _ _ (show 16 ≠ 18 by omega), h2, lt_d, I_a1]
    refine ⟨_, rfl, ⟨by rw [up_e, upd_n _ _ (by omega), up_e, upd_n _ _ (by omega)]; exact h1, by rw [up_e, upd_e, if_neg ff], by rw [up_e, upd_n _ _ (by omega), up_e, upd_e]; rfl, by rw [if_neg ff]; omega, fun j hj => by rw [up_n _ _ _ (by omega), up_n _ _ _ (by omega)]; exact h5 j hj⟩, fun a z => by rw [up_n _ _ _ z, up_n _ _ _ z], fun k z1 z2 => by rw [up_e, upd_n _ _ z1, up_e, upd_n _ _ z2]⟩
theorem r_not (Z : RZ t L p w σ) : ∃ τ, f_X10_expects 0 σ = some τ ∧ RZ t L p true τ ∧ frR σ τ := by
  obtain ⟨h1, h2, h3, h4, h5⟩ := Z
  have e : f_X10_expects 0 σ = some (up (up σ 198 18 1) 198 16 (I p)) := by
    unfold f_X10_expects
    rw [h3]
    cases w with
    | true => rw [if_pos rfl, if_neg one_ne, lt_d, up_e, upd_e, if_neg one_ne, upd_n _ _ (show 16 ≠ 18 by omega), h2, lt_d, I_a0, Nat.add_zero]
    | false => rw [if_neg ff, if_pos rfl, if_pos rfl, lt_d, up_e, upd_e, if_neg one_ne, upd_n _ _ (show 16 ≠ 18 by omega), h2, lt_d, I_a0, Nat.add_zero]
  refine ⟨_, e, ⟨by rw [up_e, upd_n _ _ (by omega), up_e, upd_n _ _ (by omega)]; exact h1, by rw [up_e, upd_e], by rw [up_e, upd_n _ _ (by omega), up_e, upd_e]; rfl, h4, fun j hj => by rw [up_n _ _ _ (by omega), up_n _ _ _ (by omega)]; exact h5 j hj⟩, fun a z => by rw [up_n _ _ _ z, up_n _ _ _ z], fun k z1 z2 => by rw [up_e, upd_n _ _ z1, up_e, upd_n _ _ z2]⟩
theorem r_isd (hL : L ≤ 60) (ht : ∀ j, j < L → t j < 65536) (σ : Mm) : f_X10_in (hv t L p).toInt64 48 57 σ = some (if dgt t L p = true then 1 else 0) := by
  rw [n_in (lo := 48) (hi := 57) (L := 48) (H := 57) rfl rfl]
  congr 1
  unfold hv
  by_cases q : p < L
  · rw [if_pos q]
    have := ht p q
    by_cases z : dgt t L p = true
    · obtain ⟨z1, z2, z3⟩ := dgt_t.mp z
      rw [if_pos z, if_pos ⟨show (48 : Int32) ≤ I (t p) from (I_le (a := 48) (by omega) (by omega)).mpr z2, show I (t p) ≤ (57 : Int32) from (I_le (b := 57) (by omega) (by omega)).mpr z3⟩]
    · rw [if_neg z, if_neg (fun y => z (dgt_t.mpr ⟨q, (I_le (a := 48) (by omega) (by omega)).mp y.1, (I_le (b := 57) (by omega) (by omega)).mp y.2⟩))]
  · rw [if_neg q, if_neg (by decide), if_neg (fun z => q (dgt_t.mp z).1)]
theorem r_digit (hL : L ≤ 60) (ht : ∀ j, j < L → t j < 65536) (Z : RZ t L p w σ) : ∃ τ x, f_X10_digit σ = some (x, τ) ∧ frR σ τ ∧ ∀ k V, RZ t L (rdD t L (p, w, k, V)).1 (rdD t L (p, w, k, V)).2.1 τ ∧ ((rdD t L (p, w, k, V)).2.1 = false → (rdD t L (p, w, k, V)).2.2.2 = upd V k x) := by
  unfold f_X10_digit
  rw [r_here hL Z, bnd_d, lt_d, bnd_d, r_isd hL ht, bnd_d]
  by_cases q : dgt t L p = true
  · obtain ⟨q1, q2, q3⟩ := dgt_t.mp q
    rw [if_pos q]
    obtain ⟨τ, t1, t2, t3⟩ := r_yes Z (by omega)
    rw [t1, bnd_d, t2.2.2.1]
    cases w with
    | true =>
      rw [if_pos rfl, if_neg one_ne]
      exact ⟨τ, 0, rfl, t3, fun k V => ⟨t2, fun z => (by cases z)⟩⟩
    | false =>
      rw [if_neg ff, if_pos rfl]
      refine ⟨τ, _, rfl, t3, fun k V => ?_⟩
      unfold rdD
      dsimp only
      rw [if_neg ff, if_pos q]
      refine ⟨t2, fun _ => ?_⟩
      unfold hv
      rw [if_pos q1, sub48 q2]
  · rw [if_neg q]
    obtain ⟨τ, t1, t2, t3⟩ := r_not Z
    rw [t1, bnd_d, t2.2.2.1, if_pos rfl, if_neg one_ne]
    refine ⟨τ, 0, rfl, t3, fun k V => ?_⟩
    unfold rdD
    dsimp only
    cases w with
    | true => exact ⟨t2, fun z => (by cases z)⟩
    | false => rw [if_neg ff, if_neg q]; exact ⟨t2, fun z => (by cases z)⟩
theorem r_number (hL : L ≤ 60) (ht : ∀ j, j < L → t j < 65536) (Z : RZ t L p w σ) : ∃ τ x, f_X10_number σ = some (x, τ) ∧ frR σ τ ∧ ∀ k V, RZ t L (rdN t L (p, w, k, V)).1 (rdN t L (p, w, k, V)).2.1 τ ∧ ((rdN t L (p, w, k, V)).2.1 = false → (rdN t L (p, w, k, V)).2.2.2 = upd V k x) := by
  unfold f_X10_number
  obtain ⟨σ1, x, t1, t2, t3⟩ := r_digit hL ht Z
  rw [t1, bnm_d]
  cases w with
  | true =>
    obtain ⟨t4, -⟩ := t3 0 V0
    have e : σ1 198 18 = 1 := t4.2.2.1
    rw [e, if_neg one_ne]
    exact ⟨σ1, x, rfl, t2, fun k V => ⟨t4, fun z => (by cases z)⟩⟩
  | false =>
    unfold rdN
    by_cases q : dgt t L p = true
    · have e0 : ∀ k V, rdD t L (p, false, k, V) = (p + 1, false, k + 1, upd V k (I (t p - 48))) := fun k V => by unfold rdD; dsimp only; rw [if_neg ff, if_pos q]
      obtain ⟨t4, t5⟩ := t3 0 V0
      rw [e0] at t4 t5
      have ex : x = I (t p - 48) := by
        have := congrFun (t5 rfl) 0
        dsimp only at this
        rw [upd_e, upd_e] at this
        exact this.symm
      subst ex
      have e : σ1 198 18 = 0 := t4.2.2.1
      rw [e, if_pos rfl, r_here hL t4, bnd_d, r_isd hL ht, bnd_d]
      by_cases r : dgt t L (p + 1) = true
      · obtain ⟨τ, y, u1, u2, u3⟩ := r_digit hL ht t4
        rw [if_pos r, if_neg one_ne, u1, bnm_d]
        have e1 : ∀ k V, rdD t L (p + 1, false, k, V) = (p + 1 + 1, false, k + 1, upd V k (I (t (p + 1) - 48))) := fun k V => by unfold rdD; dsimp only; rw [if_neg ff, if_pos r]
        obtain ⟨u4, u5⟩ := u3 0 V0
        rw [e1] at u4 u5
        have ey : y = I (t (p + 1) - 48) := by
          have := congrFun (u5 rfl) 0
          dsimp only at this
          rw [upd_e, upd_e] at this
          exact this.symm
        subst ey
        refine ⟨τ, _, rfl, t2.trans u2, fun k V => ?_⟩
        dsimp only
        rw [if_neg ff, if_pos q, if_pos r]
        refine ⟨u4, fun _ => ?_⟩
        dsimp only
        rw [show (10 : Int32) * I (t p - 48) = I (10 * (t p - 48)) from I_mul 10 _, I_add]
      · rw [if_neg r, if_pos rfl]
        refine ⟨σ1, _, rfl, t2, fun k V => ?_⟩
        dsimp only
        rw [if_neg ff, if_pos q, if_neg r]
        exact ⟨t4, fun _ => rfl⟩
    · have e0 : ∀ k V, rdD t L (p, false, k, V) = (p, true, k, V) := fun k V => by unfold rdD; dsimp only; rw [if_neg ff, if_neg q]
      obtain ⟨t4, -⟩ := t3 0 V0
      rw [e0] at t4
      have e : σ1 198 18 = 1 := t4.2.2.1
      rw [e, if_neg one_ne]
      refine ⟨σ1, x, rfl, t2, fun k V => ?_⟩
      dsimp only
      rw [if_neg ff, if_neg q]
      exact ⟨t4, fun z => (by cases z)⟩
end
/-- where the reading of the m-th order stands -/
def RO (t : Nat → Nat) (L m i : Nat) (s : Rd) (σ : Mm) : Prop := RZ t L s.1 s.2.1 σ ∧ (s.2.1 = false → s.2.2.1 = i ∧ ∀ j, j < i → σ 205 (4 * m + 1 + j) = s.2.2.2 j)
def frO (m : Nat) (σ τ : Mm) : Prop := (∀ a, a ≠ 198 → a ≠ 205 → τ a = σ a) ∧ (∀ k, k ≠ 16 → k ≠ 18 → τ 198 k = σ 198 k) ∧ ∀ j, j < 4 * m + 1 → τ 205 j = σ 205 j
theorem frO.trans {m : Nat} {σ τ ρ : Mm} (h : frO m σ τ) (g : frO m τ ρ) : frO m σ ρ := ⟨fun a h1 h2 => (g.1 a h1 h2).trans (h.1 a h1 h2), fun k h1 h2 => (g.2.1 k h1 h2).trans (h.2.1 k h1 h2), fun j hj => (g.2.2 j hj).trans (h.2.2 j hj)⟩
theorem frO.refl (m : Nat) (σ : Mm) : frO m σ σ := ⟨fun _ _ _ => rfl, fun _ _ _ => rfl, fun _ _ => rfl⟩
theorem frR.O {σ τ : Mm} (m : Nat) (h : frR σ τ) : frO m σ τ := ⟨fun a h1 _ => h.1 a h1, h.2, fun j _ => by rw [h.1 205 (by omega)]⟩
theorem RO.put {t : Nat → Nat} {L m i : Nat} {s s1 : Rd} {σ τ : Mm} {x : Int32} (Z : RO t L m i s σ) (f : frR σ τ) (h1 : RZ t L s1.1 s1.2.1 τ) (h2 : s1.2.1 = false → s.2.1 = false ∧ s1.2.2.1 = s.2.2.1 + 1 ∧ s1.2.2.2 = upd s.2.2.2 s.2.2.1 x) : RO t L m (i + 1) s1 (up τ 205 (4 * m + 1 + i) x) ∧ frO m σ (up τ 205 (4 * m + 1 + i) x) := by
  obtain ⟨g1, g2, g3, g4, g5⟩ := h1
  refine ⟨⟨⟨by rw [up_n _ _ _ (by omega)]; exact g1, by rw [up_n _ _ _ (by omega)]; exact g2, by rw [up_n _ _ _ (by omega)]; exact g3, g4, fun j hj => by rw [up_n _ _ _ (by omega)]; exact g5 j hj⟩, fun z => ?_⟩, fun a z1 z2 => by rw [up_n _ _ _ z2]; exact f.1 a z1, fun k z1 z2 => by rw [up_n _ _ _ (by omega)]; exact f.2 k z1 z2, fun j hj => by rw [up_e, upd_n _ _ (by omega), f.1 205 (by omega)]⟩
  obtain ⟨a1, a2, a3⟩ := h2 z
  obtain ⟨b1, b2⟩ := Z.2 a1
  refine ⟨by omega, fun j hj => ?_⟩
  rw [a3, b1, up_e]
  by_cases e : j = i
  · subst e; rw [upd_e, upd_e]
  · rw [upd_n _ _ (by omega), upd_n _ _ e, f.1 205 (by omega)]; exact b2 j (by omega)
section
variable {t : Nat → Nat} {L m i : Nat} {s : Rd} {σ : Mm} {β : Type} {F : Mm → Option β} {a : Int32}
theorem o_digit (hL : L ≤ 60) (ht : ∀ j, j < L → t j < 65536) (hm : m < 60) (hi : i < 3) (ha : a = I (4 * m + 1 + i)) (Z : RO t L m i s σ) : ∃ τ, (bnm (f_X10_digit σ) fun q σ' => gd a 244 (lt (up σ' 205 a.toNatClampNeg q) F)) = F τ ∧ RO t L m (i + 1) (rdD t L s) τ ∧ frO m σ τ := by
  obtain ⟨p, w, k, V⟩ := s
  obtain ⟨τ, x, t1, t2, t3⟩ := r_digit hL ht Z.1
  obtain ⟨t4, t5⟩ := t3 k V
  subst ha
  rw [t1, bnm_d, gd_I (by omega) (by omega), I_clamp (by omega), lt_d]
  obtain ⟨u1, u2⟩ := Z.put (s1 := rdD t L (p, w, k, V)) (x := x) t2 t4 (fun z => by
    have w0 : w = false := by
      cases w with
      | false => rfl
      | true => exact absurd z (by unfold rdD; dsimp only; rw [if_pos rfl]; exact fun y => (by cases y))
    refine ⟨w0, ?_, t5 z⟩
    have := rdP_k (t := t) (L := L) (c := 68) (s := (p, w, k, V)) z
    exact this)
  exact ⟨_, rfl, u1, u2⟩
theorem o_number (hL : L ≤ 60) (ht : ∀ j, j < L → t j < 65536) (hm : m < 60) (hi : i < 3) (ha : a = I (4 * m + 1 + i)) (Z : RO t L m i s σ) : ∃ τ, (bnm (f_X10_number σ) fun q σ' => gd a 244 (lt (up σ' 205 a.toNatClampNeg q) F)) = F τ ∧ RO t L m (i + 1) (rdN t L s) τ ∧ frO m σ τ := by
  obtain ⟨p, w, k, V⟩ := s
  obtain ⟨τ, x, t1, t2, t3⟩ := r_number hL ht Z.1
  obtain ⟨t4, t5⟩ := t3 k V
  subst ha
  rw [t1, bnm_d, gd_I (by omega) (by omega), I_clamp (by omega), lt_d]
  obtain ⟨u1, u2⟩ := Z.put (s1 := rdN t L (p, w, k, V)) (x := x) t2 t4 (fun z => by
    have w0 : w = false := by
      cases w with
      | false => rfl
      | true => exact absurd z (by unfold rdN; dsimp only; rw [if_pos rfl]; exact fun y => (by cases y))
    refine ⟨w0, ?_, t5 z⟩
    have := rdP_k (t := t) (L := L) (c := 78) (s := (p, w, k, V)) z
    exact this)
  exact ⟨_, rfl, u1, u2⟩
theorem o_sign (hL : L ≤ 60) (ht : ∀ j, j < L → t j < 65536) {c : Nat} {ci : Int32} (hc : c < 65536) (hci : ci = I c) (Z : RO t L m i s σ) : ∃ τ, (bnd (f_X10_here σ) fun q => if q = ci then (bnd (f_X10_expects 1 σ) F) else (bnd (f_X10_expects 0 σ) F)) = F τ ∧ RO t L m i (rdS t L c s) τ ∧ frO m σ τ := by
  obtain ⟨p, w, k, V⟩ := s
  obtain ⟨Z1, Z2⟩ := Z
  dsimp only at Z1 Z2
  rw [r_here hL Z1, bnd_d]
  subst hci
  unfold hv rdS
  dsimp only
  by_cases q : p < L
  · have := ht p q
    rw [if_pos q]
    by_cases e : t p = c
    · obtain ⟨τ, t1, t2, t3⟩ := r_yes Z1 (by omega)
      rw [if_pos (by rw [e]), t1, bnd_d]
      refine ⟨τ, rfl, ?_, t3.O m⟩
      cases w with
      | true => rw [if_pos rfl]; exact ⟨t2, fun z => (by cases z)⟩
      | false =>
        rw [if_neg ff, if_pos ⟨q, e⟩]
        exact ⟨t2, fun _ => ⟨(Z2 rfl).1, fun j hj => by rw [t3.1 205 (by omega)]; exact (Z2 rfl).2 j hj⟩⟩
    · obtain ⟨τ, t1, t2, t3⟩ := r_not Z1
      rw [if_neg (I_beq (by omega) (by omega) e), t1, bnd_d]
      refine ⟨τ, rfl, ?_, t3.O m⟩
      cases w with
      | true => rw [if_pos rfl]; exact ⟨t2, fun z => (by cases z)⟩
      | false => rw [if_neg ff, if_neg (fun z => e z.2)]; exact ⟨t2, fun z => (by cases z)⟩
  · obtain ⟨τ, t1, t2, t3⟩ := r_not Z1
    rw [if_neg q, if_neg (fun z => I_m1 (a := c) (by omega) z.symm), t1, bnd_d]
    refine ⟨τ, rfl, ?_, t3.O m⟩
    cases w with
    | true => rw [if_pos rfl]; exact ⟨t2, fun z => (by cases z)⟩
    | false => rw [if_neg ff, if_neg (fun z => q z.1)]; exact ⟨t2, fun z => (by cases z)⟩
theorem o_cells (hL : L ≤ 60) (ht : ∀ j, j < L → t j < 65536) (hm : m < 60) (hi : i + 1 < 3) (ha : a = I (4 * m + 1 + i)) (Z : RO t L m i s σ) : ∃ τ, f_X10_cells a σ = some τ ∧ RO t L m (i + 2) (rdN t L (rdS t L 45 (rdN t L s))) τ ∧ frO m σ τ := by
  unfold f_X10_cells
  have e1 : a + 1 = I (4 * m + 1 + (i + 1)) := by rw [ha, I_a1]; rfl
  obtain ⟨σ1, t1, t2, t3⟩ := o_number (F := fun σ3 => bnd (f_X10_here σ3) fun q4 => if q4 = 45 then (bnd (f_X10_expects 1 σ3) fun σ12 => bnm (f_X10_number σ12) fun q13 σ14 => gd (a + 1) 244 (lt (up σ14 205 (a + 1).toNatClampNeg q13) fun σ15 => some σ15)) else (bnd (f_X10_expects 0 σ3) fun σ7 => bnm (f_X10_number σ7) fun q8 σ9 => gd (a + 1) 244 (lt (up σ9 205 (a + 1).toNatClampNeg q8) fun σ10 => some σ10))) hL ht hm (by omega) ha Z
  obtain ⟨σ2, u1, u2, u3⟩ := o_sign (F := fun σ7 => bnm (f_X10_number σ7) fun q8 σ9 => gd (a + 1) 244 (lt (up σ9 205 (a + 1).toNatClampNeg q8) fun σ10 => some σ10)) (c := 45) (ci := 45) hL ht (by omega) rfl t2
  obtain ⟨σ3, v1, v2, v3⟩ := o_number (F := fun σ10 => some σ10) hL ht hm (by omega) e1 u2
  exact ⟨σ3, t1.trans (u1.trans v1), v2, t3.trans (u3.trans v3)⟩
end
end
section
/-! TEXTS: the reference reads an order -/
def noF (q : Int32) : Prop := ¬ q = 98 ∧ ¬ q = 103 ∧ ¬ q = 104 ∧ ¬ q = 109 ∧ ¬ q = 114 ∧ ¬ q = 115 ∧ ¬ q = 116 ∧ ¬ q = 118 ∧ ¬ q = 119
theorem kinds_ok (q : Int32) (A : Int32 → Option Mm) (h : q = 98 ∨ q = 103 ∨ q = 104 ∨ q = 109 ∨ q = 114 ∨ q = 115 ∨ q = 116 ∨ q = 118 ∨ q = 119) : (lt A fun K4 => if q = 104 then (K4 1) else (if q = 115 then (K4 1) else (if q = 116 then (K4 1) else (if q = 109 then (K4 1) else (if q = 103 then (K4 1) else (if q = 118 then (K4 1) else (if q = 98 then (K4 1) else (if q = 119 then (K4 1) else (if q = 114 then (K4 1) else (K4 0)))))))))) = A 1 := by
  rw [lt_d]
  rcases h with rfl | rfl | rfl | rfl | rfl | rfl | rfl | rfl | rfl <;> rfl
theorem kinds_no (q : Int32) (A : Int32 → Option Mm) (h : noF q) : (lt A fun K4 => if q = 104 then (K4 1) else (if q = 115 then (K4 1) else (if q = 116 then (K4 1) else (if q = 109 then (K4 1) else (if q = 103 then (K4 1) else (if q = 118 then (K4 1) else (if q = 98 then (K4 1) else (if q = 119 then (K4 1) else (if q = 114 then (K4 1) else (K4 0)))))))))) = A 0 := by
  obtain ⟨h1, h2, h3, h4, h5, h6, h7, h8, h9⟩ := h
  rw [lt_d, if_neg h3, if_neg h6, if_neg h7, if_neg h4, if_neg h2, if_neg h8, if_neg h1, if_neg h9, if_neg h5]
theorem form_cases (c : Nat) : (formN c = none ∧ c ≠ 98 ∧ c ≠ 103 ∧ c ≠ 104 ∧ c ≠ 109 ∧ c ≠ 114 ∧ c ≠ 115 ∧ c ≠ 116 ∧ c ≠ 118 ∧ c ≠ 119) ∨ c = 98 ∨ c = 103 ∨ c = 104 ∨ c = 109 ∨ c = 114 ∨ c = 115 ∨ c = 116 ∨ c = 118 ∨ c = 119 := by
  by_cases a : c = 98 ∨ c = 103 ∨ c = 104 ∨ c = 109 ∨ c = 114 ∨ c = 115 ∨ c = 116 ∨ c = 118 ∨ c = 119
  · exact Or.inr a
  · refine Or.inl ⟨?_, by omega⟩
    unfold formN
    rw [if_neg (by omega), if_neg (by omega), if_neg (by omega), if_neg (by omega), if_neg (by omega), if_neg (by omega), if_neg (by omega), if_neg (by omega), if_neg (by omega)]
def Fi (t : Nat → Nat) (L m i : Nat) (s : Rd) (σ0 : Mm) (o : Option Mm) : Prop := ∃ τ, o = some τ ∧ RO t L m i s τ ∧ frO m σ0 τ
section
variable {t : Nat → Nat} {L m i i1 : Nat} {s s1 : Rd} {σ σ0 : Mm} {F : Mm → Option Mm} {a : Int32}
theorem fi_digit (hL : L ≤ 60) (ht : ∀ j, j < L → t j < 65536) (hm : m < 60) (hi : i < 3) (ha : a = I (4 * m + 1 + i)) (Z : RO t L m i s σ) (f : frO m σ0 σ) (k : ∀ τ, RO t L m (i + 1) (rdD t L s) τ → frO m σ0 τ → Fi t L m i1 s1 σ0 (F τ)) : Fi t L m i1 s1 σ0 (bnm (f_X10_digit σ) fun q σ' => gd a 244 (lt (up σ' 205 a.toNatClampNeg q) F)) := by
  obtain ⟨τ, t1, t2, t3⟩ := o_digit (F := F) hL ht hm hi ha Z
  rw [t1]
  exact k τ t2 (f.trans t3)
theorem fi_number (hL : L ≤ 60) (ht : ∀ j, j < L → t j < 65536) (hm : m < 60) (hi : i < 3) (ha : a = I (4 * m + 1 + i)) (Z : RO t L m i s σ) (f : frO m σ0 σ) (k : ∀ τ, RO t L m (i + 1) (rdN t L s) τ → frO m σ0 τ → Fi t L m i1 s1 σ0 (F τ)) : Fi t L m i1 s1 σ0 (bnm (f_X10_number σ) fun q σ' => gd a 244 (lt (up σ' 205 a.toNatClampNeg q) F)) := by
  obtain ⟨τ, t1, t2, t3⟩ := o_number (F := F) hL ht hm hi ha Z
  rw [t1]
  exact k τ t2 (f.trans t3)
theorem fi_sign (hL : L ≤ 60) (ht : ∀ j, j < L → t j < 65536) (c : Nat) {ci : Int32} (hc : c < 65536) (hci : ci = I c) (Z : RO t L m i s σ) (f : frO m σ0 σ) (k : ∀ τ, RO t L m i (rdS t L c s) τ → frO m σ0 τ → Fi t L m i1 s1 σ0 (F τ)) : Fi t L m i1 s1 σ0 (bnd (f_X10_here σ) fun q => if q = ci then (bnd (f_X10_expects 1 σ) F) else (bnd (f_X10_expects 0 σ) F)) := by
  obtain ⟨τ, t1, t2, t3⟩ := o_sign (F := F) hL ht hc hci Z
  rw [t1]
  exact k τ t2 (f.trans t3)
theorem fi_cells (hL : L ≤ 60) (ht : ∀ j, j < L → t j < 65536) (hm : m < 60) (hi : i + 1 < 3) (ha : a = I (4 * m + 1 + i)) (Z : RO t L m i s σ) (f : frO m σ0 σ) (k : ∀ τ, RO t L m (i + 2) (rdN t L (rdS t L 45 (rdN t L s))) τ → frO m σ0 τ → Fi t L m i1 s1 σ0 (F τ)) : Fi t L m i1 s1 σ0 (bnd (f_X10_cells a σ) F) := by
  obtain ⟨τ, t1, t2, t3⟩ := o_cells hL ht hm hi ha Z
  rw [t1]
  exact k τ t2 (f.trans t3)
end
theorem a4 (m i : Nat) : I (4 * m) + I (i + 1) = I (4 * m + 1 + i) := by rw [I_add]; congr 1; omega
theorem r_dirOf {t : Nat → Nat} {L p : Nat} (ht : ∀ j, j < L → t j < 65536) (σ : Mm) : f_X10_directionOf (hv t L p) σ = some (match (if p < L then dirN (t p) else none) with | some d => I d | none => -1) := by
  unfold f_X10_directionOf hv
  by_cases q : p < L
  · have := ht p q
    have ne : ∀ {d : Nat}, d < 65536 → t p ≠ d → ¬ I (t p) = I d := fun hd h => I_beq (by omega) (by omega) h
    rw [if_pos q, if_pos q]
    unfold dirN
    by_cases e : t p = 110
    · rw [e]; rfl
    rw [if_neg (show ¬ I (t p) = 110 from ne (d := 110) (by omega) e), if_neg e]
    by_cases e : t p = 101
    · rw [e]; rfl
    rw [if_neg (show ¬ I (t p) = 101 from ne (d := 101) (by omega) e), if_neg e]
    by_cases e : t p = 115
    · rw [e]; rfl
    rw [if_neg (show ¬ I (t p) = 115 from ne (d := 115) (by omega) e), if_neg e]
    by_cases e : t p = 119
    · rw [e]; rfl
    rw [if_neg (show ¬ I (t p) = 119 from ne (d := 119) (by omega) e), if_neg e]
  · rw [if_neg q, if_neg q]; rfl
theorem dir_lt {c d : Nat} (h : dirN c = some d) : d < 4 := by
  unfold dirN at h
  repeat' split at h
  all_goals (cases h <;> omega)
/-- the direction: laid, then looked at -/
theorem fi_dir {t : Nat → Nat} {L m : Nat} {s : Rd} {σ σ0 : Mm} {a : Int32} (hL : L ≤ 60) (ht : ∀ j, j < L → t j < 65536) (hm : m < 60) (ha : a = I (4 * m + 1 + 1)) (Z : RO t L m 1 s σ) (f : frO m σ0 σ) :
    Fi t L m 2 (rdW t L s) σ0 (bnd (f_X10_here σ) fun q114 => bnd (f_X10_directionOf q114 σ) fun q115 => gd a 244 (lt (up σ 205 a.toNatClampNeg q115) fun σ116 => gd a 244 (if (σ116 205 a.toNatClampNeg) = (-1) then (bnd (f_X10_expects 0 σ116) fun σ119 => some σ119) else (bnd (f_X10_expects 1 σ116) fun σ121 => some σ121)))) := by
  obtain ⟨p, w, k, V⟩ := s
  obtain ⟨Z1, Z2⟩ := Z
  dsimp only at Z1 Z2
  subst ha
  rw [r_here hL Z1, bnd_d, r_dirOf ht, bnd_d, gd_I (by omega) (by omega), I_clamp (by omega), lt_d, gd_I (by omega) (by omega), up_e, upd_e]
  have Zx : ∀ x, RZ t L p w (up σ 205 (4 * m + 1 + 1) x) := fun x => by
    obtain ⟨g1, g2, g3, g4, g5⟩ := Z1
    exact ⟨by rw [up_n _ _ _ (by omega)]; exact g1, by rw [up_n _ _ _ (by omega)]; exact g2, by rw [up_n _ _ _ (by omega)]; exact g3, g4, fun j hj => by rw [up_n _ _ _ (by omega)]; exact g5 j hj⟩
  have fx : ∀ x, frO m σ0 (up σ 205 (4 * m + 1 + 1) x) := fun x => f.trans ⟨fun a z1 z2 => up_n _ _ _ z2, fun k z1 z2 => by rw [up_n _ _ _ (by omega)], fun j hj => by rw [up_e, upd_n _ _ (by omega)]⟩
  unfold rdW
  dsimp only
  cases e : (if p < L then dirN (t p) else none) with
  | none =>
    dsimp only
    rw [if_pos rfl]
    obtain ⟨τ, t1, t2, t3⟩ := r_not (Zx (-1))
    rw [t1, bnd_d]
    refine ⟨τ, rfl, ?_, (fx _).trans (t3.O m)⟩
    cases w with
    | true => rw [if_pos rfl]; exact ⟨t2, fun z => (by cases z)⟩
    | false => rw [if_neg ff]; exact ⟨t2, fun z => (by cases z)⟩
  | some d =>
    have pL : p < L := by
      by_cases q : p < L
      · exact q
      · rw [if_neg q] at e; cases e
    rw [if_pos pL] at e
    dsimp only
    rw [if_neg (nm1 (by have := dir_lt e; omega))]
    obtain ⟨τ, t1, t2, t3⟩ := r_yes (Zx (I d)) (by omega)
    rw [t1, bnd_d]
    refine ⟨τ, rfl, ?_, (fx _).trans (t3.O m)⟩
    cases w with
    | true => rw [if_pos rfl]; exact ⟨t2, fun z => (by cases z)⟩
    | false =>
      rw [if_neg ff]
      obtain ⟨z1, z2⟩ := Z2 rfl
      subst z1
      refine ⟨t2, fun _ => ⟨rfl, fun j hj => ?_⟩⟩
      dsimp only
      rw [t3.1 205 (by omega), up_e]
      by_cases e : j = 1
      · subst e; rw [upd_e, upd_e]
      · rw [upd_n _ _ (by omega), upd_n _ _ e]; exact z2 j (by omega)
/-- "m": a cell, or none -/
theorem fi_mino {t : Nat → Nat} {L m p : Nat} {σ σ0 : Mm} {a : Int32} (hL : L ≤ 60) (ht : ∀ j, j < L → t j < 65536) (hm : m < 60) (ha : a = I (4 * m + 1 + 0)) (Z : RO t L m 0 (p, false, 0, V0) σ) (f : frO m σ0 σ) :
    Fi t L m 1 (rdX t L (p, false, 0, V0)) σ0 (bnd (f_X10_here σ) fun q69 => if q69 = 120 then (lt (up σ 198 16 ((σ 198 16) + 1)) fun σ74 => gd a 244 (lt (up σ74 205 a.toNatClampNeg (-1)) fun σ75 => some σ75)) else (bnm (f_X10_number σ) fun q71 σ72 => gd a 244 (lt (up σ72 205 a.toNatClampNeg q71) fun σ73 => some σ73))) := by
  have Z1 : RZ t L p false σ := Z.1
  rw [r_here hL Z1, bnd_d]
  unfold rdX
  dsimp only
  rw [if_neg ff]
  by_cases q : p < L ∧ t p = 120
  · have eh : hv t L p = 120 := by unfold hv; rw [if_pos q.1, q.2]; rfl
    obtain ⟨g1, g2, g3, g4, g5⟩ := id Z1
    subst ha
    rw [if_pos q, if_pos eh, g2, I_a1, lt_d, gd_I (by omega) (by omega), I_clamp (by omega), lt_d]
    have fr : frR σ (up σ 198 16 (I (p + 1))) := ⟨fun a z => up_n _ _ _ z, fun k z1 _ => by rw [up_e, upd_n _ _ z1]⟩
    have h1 : RZ t L (p + 1) false (up σ 198 16 (I (p + 1))) := ⟨by rw [up_e, upd_n _ _ (by omega)]; exact g1, by rw [up_e, upd_e], by rw [up_e, upd_n _ _ (by omega)]; exact g3, by omega, fun j hj => by rw [up_n _ _ _ (by omega)]; exact g5 j hj⟩
    obtain ⟨u1, u2⟩ := Z.put (s1 := (p + 1, false, 0 + 1, upd V0 0 (-1))) (x := -1) fr h1 (fun _ => ⟨rfl, rfl, rfl⟩)
    exact ⟨_, rfl, u1, f.trans u2⟩
  · have eh : ¬ hv t L p = 120 := by
      unfold hv
      by_cases z : p < L
      · rw [if_pos z]; exact (show ¬ I (t p) = 120 from I_beq (b := 120) (by have := ht p z; omega) (by omega) (fun y => q ⟨z, y⟩))
      · rw [if_neg z]; decide
    rw [if_neg q, if_neg eh]
    exact fi_number hL ht hm (by omega) ha Z f (fun τ z1 z2 => ⟨τ, rfl, z1, z2⟩)
theorem r_order {t : Nat → Nat} {L m p : Nat} {σ : Mm} (hL : L ≤ 60) (ht : ∀ j, j < L → t j < 65536) (hm : m < 60) (Z : RZ t L p false σ) (h15 : σ 198 15 = I m) :
    ∃ τ, f_X10_readOrder σ = some τ ∧ RZ t L (rdC t L p).1 (rdC t L p).2.1 τ ∧ τ 198 15 = I (m + 1) ∧ ((rdC t L p).2.1 = false → τ 205 (4 * m) = I (t p) ∧ ∀ j, j < (rdC t L p).2.2.1 → τ 205 (4 * m + 1 + j) = (rdC t L p).2.2.2 j) ∧ (∀ a, a ≠ 198 → a ≠ 205 → τ a = σ a) ∧ (∀ k, k ≠ 15 → k ≠ 16 → k ≠ 18 → τ 198 k = σ 198 k) ∧ ∀ j, j < 4 * m → τ 205 j = σ 205 j := by
  have bad : noF (hv t L p) → rdC t L p = (p, true, 0, V0) → ∃ τ, f_X10_readOrder σ = some τ ∧ RZ t L (rdC t L p).1 (rdC t L p).2.1 τ ∧ τ 198 15 = I (m + 1) ∧ ((rdC t L p).2.1 = false → τ 205 (4 * m) = I (t p) ∧ ∀ j, j < (rdC t L p).2.2.1 → τ 205 (4 * m + 1 + j) = (rdC t L p).2.2.2 j) ∧ (∀ a, a ≠ 198 → a ≠ 205 → τ a = σ a) ∧ (∀ k, k ≠ 15 → k ≠ 16 → k ≠ 18 → τ 198 k = σ 198 k) ∧ ∀ j, j < 4 * m → τ 205 j = σ 205 j := by
    intro hn he
    obtain ⟨σ6, t1, t2, t3⟩ := r_not Z
    unfold f_X10_readOrder
    rw [h15, show (4 : Int32) * I m = I (4 * m) from I_mul 4 m, lt_d, r_here hL Z, bnd_d, kinds_no _ _ hn, t1, bnd_d, gd_I (by omega) (by omega), I_clamp (by omega), lt_d, up_n _ _ _ (show 198 ≠ 205 by omega), t3.2 15 (by omega) (by omega), h15, I_a1, lt_d]
    obtain ⟨h1, h2, h3, h4, h5, h6, h7, h8, h9⟩ := hn
    rw [if_neg h1, if_neg h2, if_neg h3, if_neg h4, if_neg h5, if_neg h7, if_neg h8, if_neg h9, he]
    obtain ⟨g1, g2, g3, g4, g5⟩ := t2
    refine ⟨_, rfl, ⟨by rw [up_e, upd_n _ _ (by omega), up_n _ _ _ (by omega)]; exact g1, by rw [up_e, upd_n _ _ (by omega), up_n _ _ _ (by omega)]; exact g2, by rw [up_e, upd_n _ _ (by omega), up_n _ _ _ (by omega)]; exact g3, g4, fun j hj => by rw [up_n _ _ _ (by omega), up_n _ _ _ (by omega)]; exact g5 j hj⟩, by rw [up_e, upd_e], fun z => (by cases z), fun a z1 z2 => by rw [up_n _ _ _ z1, up_n _ _ _ z2, t3.1 a z1], fun k z1 z2 z3 => by rw [up_e, upd_n _ _ z1, up_n _ _ _ (by omega), t3.2 k z2 z3], fun j hj => by rw [up_n _ _ _ (by omega), up_e, upd_n _ _ (by omega), t3.1 205 (by omega)]⟩
  by_cases pL : ¬ p < L
  · have e : hv t L p = -1 := by unfold hv; rw [if_neg pL]
    exact bad (by rw [e]; unfold noF; decide) (by unfold rdC; rw [if_neg pL])
  have pL : p < L := Decidable.not_not.mp pL
  rcases form_cases (t p) with ⟨hN, n1, n2, n3, n4, n5, n6, n7, n8, n9⟩ | hc
  · have e : hv t L p = I (t p) := by unfold hv; rw [if_pos pL]
    have ne : ∀ {d : Nat}, d < 65536 → t p ≠ d → ¬ I (t p) = I d := fun hd h => I_beq (by have := ht p pL; omega) (by omega) h
    refine bad ?_ (by unfold rdC; rw [if_pos pL, hN])
    rw [e]
    exact ⟨ne (d := 98) (by omega) n1, ne (d := 103) (by omega) n2, ne (d := 104) (by omega) n3, ne (d := 109) (by omega) n4, ne (d := 114) (by omega) n5, ne (d := 115) (by omega) n6, ne (d := 116) (by omega) n7, ne (d := 118) (by omega) n8, ne (d := 119) (by omega) n9⟩
  · obtain ⟨σ6, t1, t2, t3⟩ := r_yes Z (by omega)
    rw [if_neg ff] at t2
    obtain ⟨g1, g2, g3, g4, g5⟩ := t2
    obtain ⟨σ8, h8⟩ : ∃ s, s = up (up σ6 205 (4 * m) (I (t p))) 198 15 (I (m + 1)) := ⟨_, rfl⟩
    have Z8 : RO t L m 0 (p + 1, false, 0, V0) σ8 := ⟨⟨by rw [h8, up_e, upd_n _ _ (by omega), up_n _ _ _ (by omega)]; exact g1, by rw [h8, up_e, upd_n _ _ (by omega), up_n _ _ _ (by omega)]; exact g2, by rw [h8, up_e, upd_n _ _ (by omega), up_n _ _ _ (by omega)]; exact g3, g4, fun j hj => by rw [h8, up_n _ _ _ (by omega), up_n _ _ _ (by omega)]; exact g5 j hj⟩, fun _ => ⟨rfl, fun j hj => absurd hj (Nat.not_lt_zero _)⟩⟩
    have done : ∀ (l : List Nat) (j : Nat), formN (t p) = some (j, l) → Fi t L m (numL l) (rdF t L l (p + 1, false, 0, V0)) σ8 (f_X10_readOrder σ) → ∃ τ, f_X10_readOrder σ = some τ ∧ RZ t L (rdC t L p).1 (rdC t L p).2.1 τ ∧ τ 198 15 = I (m + 1) ∧ ((rdC t L p).2.1 = false → τ 205 (4 * m) = I (t p) ∧ ∀ j, j < (rdC t L p).2.2.1 → τ 205 (4 * m + 1 + j) = (rdC t L p).2.2.2 j) ∧ (∀ a, a ≠ 198 → a ≠ 205 → τ a = σ a) ∧ (∀ k, k ≠ 15 → k ≠ 16 → k ≠ 18 → τ 198 k = σ 198 k) ∧ ∀ j, j < 4 * m → τ 205 j = σ 205 j := by
      intro l j hl hF
      obtain ⟨τ, u1, ⟨u2, u3⟩, u4, u5, u6⟩ := hF
      have e : rdC t L p = rdF t L l (p + 1, false, 0, V0) := by unfold rdC; rw [if_pos pL, hl]
      rw [e]
      refine ⟨τ, u1, u2, by rw [u5 15 (by omega) (by omega), h8, up_e, upd_e], fun z => ⟨by rw [u6 _ (by omega), h8, up_n _ _ _ (by omega), up_e, upd_e], fun j hj => ?_⟩, fun a z1 z2 => by rw [u4 a z1 z2, h8, up_n _ _ _ z1, up_n _ _ _ z2, t3.1 a z1], fun k z1 z2 z3 => by rw [u5 k z2 z3, h8, up_e, upd_n _ _ z1, up_n _ _ _ (by omega), t3.2 k z2 z3], fun j hj => by rw [u6 j (by omega), h8, up_n _ _ _ (by omega), up_e, upd_n _ _ (by omega), t3.1 205 (by omega)]⟩
      obtain ⟨v1, v2⟩ := u3 z
      exact v2 j (by omega)
    have eh : hv t L p = I (t p) := by unfold hv; rw [if_pos pL]
    have hq : I (t p) = 98 ∨ I (t p) = 103 ∨ I (t p) = 104 ∨ I (t p) = 109 ∨ I (t p) = 114 ∨ I (t p) = 115 ∨ I (t p) = 116 ∨ I (t p) = 118 ∨ I (t p) = 119 := by
      rcases hc with e | e | e | e | e | e | e | e | e <;> rw [e] <;> decide
    have f0 := frO.refl m σ8
    have b1 : I (4 * m) + 1 = I (4 * m + 1 + 0) := a4 m 0
    have b2 : I (4 * m) + 2 = I (4 * m + 1 + 1) := a4 m 1
    have b3 : I (4 * m) + 3 = I (4 * m + 1 + 2) := a4 m 2
    rcases hc with e | e | e | e | e | e | e | e | e
    all_goals (
      refine done _ _ (by rw [e]; rfl) ?_
      unfold f_X10_readOrder
      rw [h15, show (4 : Int32) * I m = I (4 * m) from I_mul 4 m, lt_d, r_here hL Z, bnd_d, eh, kinds_ok _ _ hq, t1, bnd_d, gd_I (by omega) (by omega), I_clamp (by omega), lt_d, up_n _ _ _ (show 198 ≠ 205 by omega), t3.2 15 (by omega) (by omega), h15, I_a1, lt_d, ← h8, e])
    · rw [if_pos (by decide)]
      refine fi_digit hL ht hm (by omega) b1 Z8 f0 (fun σ1 z1 f1 => ?_)
      refine fi_sign hL ht 62 (by omega) rfl z1 f1 (fun σ2 z2 f2 => ?_)
      refine fi_digit hL ht hm (by omega) b2 z2 f2 (fun σ3 z3 f3 => ?_)
      refine fi_sign hL ht 42 (by omega) rfl z3 f3 (fun σ4 z4 f4 => ?_)
      refine fi_digit hL ht hm (by omega) b3 z4 f4 (fun σ5 z5 f5 => ?_)
      exact ⟨σ5, rfl, z5, f5⟩
    · rw [if_neg (by decide), if_pos (by decide)]
      refine fi_number hL ht hm (by omega) b1 Z8 f0 (fun σ1 z1 f1 => ?_)
      exact ⟨σ1, rfl, z1, f1⟩
    · rw [if_neg (by decide), if_neg (by decide), if_pos (by decide)]
      refine fi_cells hL ht hm (by omega) b1 Z8 f0 (fun σ1 z1 f1 => ?_)
      refine fi_sign hL ht 61 (by omega) rfl z1 f1 (fun σ2 z2 f2 => ?_)
      refine fi_digit hL ht hm (by omega) b3 z2 f2 (fun σ3 z3 f3 => ?_)
      exact ⟨σ3, rfl, z3, f3⟩
    · rw [if_neg (by decide), if_neg (by decide), if_neg (by decide), if_pos (by decide)]
      exact fi_mino hL ht hm b1 Z8 f0
    · rw [if_neg (by decide), if_neg (by decide), if_neg (by decide), if_neg (by decide), if_pos (by decide)]
      refine fi_digit hL ht hm (by omega) b1 Z8 f0 (fun σ1 z1 f1 => ?_)
      refine fi_sign hL ht 43 (by omega) rfl z1 f1 (fun σ2 z2 f2 => ?_)
      refine fi_digit hL ht hm (by omega) b2 z2 f2 (fun σ3 z3 f3 => ?_)
      exact ⟨σ3, rfl, z3, f3⟩
    · rw [if_neg (by decide), if_neg (by decide), if_neg (by decide), if_neg (by decide), if_neg (by decide), if_neg (by decide), if_neg (by decide), if_neg (by decide)]
      exact ⟨σ8, rfl, Z8, f0⟩
    · rw [if_neg (by decide), if_neg (by decide), if_neg (by decide), if_neg (by decide), if_neg (by decide), if_pos (by decide)]
      refine fi_digit hL ht hm (by omega) b1 Z8 f0 (fun σ1 z1 f1 => ?_)
      refine fi_sign hL ht 58 (by omega) rfl z1 f1 (fun σ2 z2 f2 => ?_)
      refine fi_cells hL ht hm (by omega) b2 z2 f2 (fun σ3 z3 f3 => ?_)
      exact ⟨σ3, rfl, z3, f3⟩
    · rw [if_neg (by decide), if_neg (by decide), if_neg (by decide), if_neg (by decide), if_neg (by decide), if_neg (by decide), if_pos (by decide)]
      refine fi_number hL ht hm (by omega) b1 Z8 f0 (fun σ1 z1 f1 => ?_)
      exact ⟨σ1, rfl, z1, f1⟩
    · rw [if_neg (by decide), if_neg (by decide), if_neg (by decide), if_neg (by decide), if_neg (by decide), if_neg (by decide), if_neg (by decide), if_pos (by decide)]
      refine fi_digit hL ht hm (by omega) b1 Z8 f0 (fun σ1 z1 f1 => ?_)
      exact fi_dir hL ht hm b2 z1 f1
end
section
/-! TEXTS: the reference reads all; both carry out -/
def RM (n : Nat) (C : Cs) (σ : Mm) : Prop := ∀ i, i < n → σ 205 (4 * i) = I (C i).1 ∧ ∀ j, j < (C i).2.1 → σ 205 (4 * i + 1 + j) = (C i).2.2 j
def GC (n : Nat) (C : Cs) : Prop := ∀ i, i < n → ∃ x, formN (C i).1 = some x ∧ (C i).2.1 = numL x.2
theorem GC.le {n : Nat} {C : Cs} (h : GC n C) {i : Nat} (hi : i < n) : (C i).2.1 ≤ 3 := by
  obtain ⟨x, h1, h2⟩ := h i hi
  rw [h2]; exact (form_ok h1).2.2.2.2.1
theorem GC.add {n : Nat} {C : Cs} {x : Nat × Nat × (Nat → Int32)} (h : GC n C) (hx : ∃ y, formN x.1 = some y ∧ x.2.1 = numL y.2) : GC (n + 1) (sn C n x) := by
  intro i hi
  unfold sn
  by_cases e : i = n
  · rw [if_pos e]; exact hx
  · rw [if_neg e]; exact h i (by omega)
theorem RM.add {n : Nat} {C : Cs} {σ τ : Mm} {x : Nat × Nat × (Nat → Int32)} (g : GC n C) (h : RM n C σ) (e1 : ∀ j, j < 4 * n → τ 205 j = σ 205 j) (e3 : τ 205 (4 * n) = I x.1) (e4 : ∀ j, j < x.2.1 → τ 205 (4 * n + 1 + j) = x.2.2 j) : RM (n + 1) (sn C n x) τ := by
  intro i hi
  unfold sn
  by_cases e : i = n
  · subst e; rw [if_pos rfl]; exact ⟨e3, e4⟩
  · rw [if_neg e, e1 _ (by omega)]
    have := g.le (i := i) (by omega)
    exact ⟨(h i (by omega)).1, fun j hj => by rw [e1 _ (by omega)]; exact (h i (by omega)).2 j hj⟩
def rdR (t : Nat → Nat) (L m p n : Nat) (C : Cs) : Nat × Bool × Nat × Cs := if (rdC t L p).2.1 = true then ((rdC t L p).1, true, n, C) else rdT t L m (rdC t L p).1 (n + 1) (sn C n (t p, (rdC t L p).2.2))
theorem rdT_R (t : Nat → Nat) (L m p n : Nat) (C : Cs) : rdT t L (m + 1) p n C = if p < L then (if t p = 59 then rdR t L m (p + 1) n C else (p, true, n, C)) else (p, false, n, C) := by
  rw [rdT]; rfl
theorem rdT_GC {t : Nat → Nat} {L : Nat} : ∀ (m p n : Nat) (C : Cs), GC n C → (rdT t L m p n C).2.1 = false → GC (rdT t L m p n C).2.2.1 (rdT t L m p n C).2.2.2 ∧ (2 * n ≤ p + 1 → p ≤ L → 2 * (rdT t L m p n C).2.2.1 ≤ L + 1) := by
  intro m
  induction m with
  | zero => intro p n C _ h; cases h
  | succ m ih =>
    intro p n C hC h
    rw [rdT] at h ⊢
    by_cases q : p < L
    · rw [if_pos q] at h ⊢
      by_cases q2 : t p = 59
      · rw [if_pos q2] at h ⊢
        by_cases w : (rdC t L (p + 1)).2.1 = true
        · rw [if_pos w] at h; cases h
        · rw [if_neg w] at h ⊢
          have w' : (rdC t L (p + 1)).2.1 = false := by cases z : (rdC t L (p + 1)).2.1 with | false => rfl | true => exact absurd z w
          obtain ⟨y1, y2, y3⟩ := rdC_t w'
          have k := ih (rdC t L (p + 1)).1 (n + 1) _ (hC.add (x := (t (p + 1), (rdC t L (p + 1)).2.2)) y3) h
          exact ⟨k.1, fun z1 z2 => k.2 (by omega) (rdC_le (by omega))⟩
      · rw [if_neg q2] at h; cases h
    · rw [if_neg q] at h ⊢
      exact ⟨hC, fun z1 z2 => by show 2 * n ≤ L + 1; omega⟩
theorem rdA_R (t : Nat → Nat) (L : Nat) : rdA t L = rdR t L 62 0 0 C0 := rfl
theorem rdA_GC {t : Nat → Nat} {L : Nat} (h : (rdA t L).2.1 = false) : GC (rdA t L).2.2.1 (rdA t L).2.2.2 ∧ 2 * (rdA t L).2.2.1 ≤ L + 1 := by
  unfold rdA at h ⊢
  by_cases w : (rdC t L 0).2.1 = true
  · rw [if_pos w] at h; cases h
  · rw [if_neg w] at h ⊢
    have w' : (rdC t L 0).2.1 = false := by cases z : (rdC t L 0).2.1 with | false => rfl | true => exact absurd z w
    obtain ⟨y1, y2, y3⟩ := rdC_t w'
    have k := rdT_GC _ _ _ _ (GC.add (n := 0) (C := C0) (x := (t 0, (rdC t L 0).2.2)) (fun i hi => absurd hi (Nat.not_lt_zero _)) y3) h
    exact ⟨k.1, k.2 (by omega) (rdC_le (by omega))⟩
theorem r_rest' {t : Nat → Nat} {L : Nat} {K : Int32 → Mm → Option (Int32 × Mm)} (hL : L ≤ 60) (ht : ∀ j, j < L → t j < 65536) : ∀ (m p n F : Nat) (C : Cs) (σ : Mm), 2 * n ≤ p → p ≤ L → L + 1 ≤ p + 2 * m → m + 2 ≤ F → RZ t L p false σ → σ 198 15 = I n → GC n C → RM n C σ →
    ∃ τ, f_X10_commands_l34 K F 1 σ = K 0 τ ∧ RZ t L (rdR t L m p n C).1 (rdR t L m p n C).2.1 τ ∧ ((rdR t L m p n C).2.1 = false → τ 198 15 = I (rdR t L m p n C).2.2.1 ∧ RM (rdR t L m p n C).2.2.1 (rdR t L m p n C).2.2.2 τ) ∧ (∀ a, a ≠ 198 → a ≠ 205 → τ a = σ a) ∧ ∀ k, k ≠ 15 → k ≠ 16 → k ≠ 18 → τ 198 k = σ 198 k := by
  intro m
  induction m with
  | zero => intro p n F C σ h1 h2 h3; omega
  | succ m ih =>
    intro p n F C σ h1 h2 hm hF Z h15 hG hC
    obtain ⟨F, rfl⟩ : ∃ k, F = k + 2 := ⟨F - 2, by omega⟩
    have stop : ∀ (τ : Mm), f_X10_commands_l34 K (F + 1) 0 τ = K 0 τ := fun τ => by
      rw [f_X10_commands_l34, if_pos rfl]
    obtain ⟨τ, t1, t2, t3, t4, t5, t6, t7⟩ := r_order hL ht (by omega) Z h15
    rw [f_X10_commands_l34, if_neg one_ne, t1, bnd_d]
    by_cases w : (rdC t L p).2.1 = true
    · have e0 : rdR t L (m + 1) p n C = ((rdC t L p).1, true, n, C) := by unfold rdR; rw [if_pos w]
      have e18 : τ 198 18 = 1 := by rw [t2.2.2.1, if_pos w]
      rw [e18, if_neg one_ne, stop, e0]
      rw [w] at t2
      exact ⟨τ, rfl, t2, fun z => (by cases z), t5, t6⟩
    · have w' : (rdC t L p).2.1 = false := by cases z : (rdC t L p).2.1 with | false => rfl | true => exact absurd z w
      obtain ⟨y1, y2, y3⟩ := rdC_t w'
      have e0 : rdR t L (m + 1) p n C = rdT t L (m + 1) (rdC t L p).1 (n + 1) (sn C n (t p, (rdC t L p).2.2)) := by unfold rdR; rw [if_neg w]
      have e18 : τ 198 18 = 0 := by rw [t2.2.2.1, if_neg w]
      obtain ⟨t4a, t4b⟩ := t4 w'
      have hG2 := hG.add (x := (t p, (rdC t L p).2.2)) y3
      have hC2 : RM (n + 1) (sn C n (t p, (rdC t L p).2.2)) τ := RM.add hG hC t7 t4a t4b
      have hle := rdC_le (t := t) h2
      rw [w'] at t2
      rw [e18, if_pos rfl, t2.1, t2.2.1, e0, rdT_R]
      by_cases q : (rdC t L p).1 < L
      · rw [if_neg (nle q (by omega)), r_here hL t2, bnd_d, if_pos q]
        have eh : hv t L (rdC t L p).1 = I (t (rdC t L p).1) := by unfold hv; rw [if_pos q]
        rw [eh]
        by_cases q2 : t (rdC t L p).1 = 59
        · obtain ⟨τ2, u1, u2, u3⟩ := r_yes t2 (by omega)
          rw [if_neg ff] at u2
          rw [if_pos (by rw [q2]; rfl), u1, bnd_d, u2.2.2.1, if_neg ff, if_pos rfl, if_pos q2]
          obtain ⟨ρ, v1, v2, v3, v4, v5⟩ := ih ((rdC t L p).1 + 1) (n + 1) (F + 1) _ τ2 (by omega) (by omega) (by omega) (by omega) u2 (by rw [u3.2 15 (by omega) (by omega)]; exact t3) hG2 (fun i hi => by rw [u3.1 205 (by omega)]; exact hC2 i hi)
          exact ⟨ρ, v1, v2, v3, fun a z1 z2 => by rw [v4 a z1 z2, u3.1 a z1, t5 a z1 z2], fun k z1 z2 z3 => by rw [v5 k z1 z2 z3, u3.2 k z2 z3, t6 k z1 z2 z3]⟩
        · obtain ⟨τ2, u1, u2, u3⟩ := r_not t2
          rw [if_neg (show ¬ I (t (rdC t L p).1) = 59 from I_beq (b := 59) (by have := ht _ q; omega) (by omega) q2), u1, bnd_d, u2.2.2.1, if_pos rfl, if_neg one_ne, stop, if_neg q2]
          exact ⟨τ2, rfl, u2, fun z => (by cases z), fun a z1 z2 => by rw [u3.1 a z1, t5 a z1 z2], fun k z1 z2 z3 => by rw [u3.2 k z2 z3, t6 k z1 z2 z3]⟩
      · rw [if_pos ((I_le (by omega) (by omega)).mpr (by omega)), stop, if_neg q]
        exact ⟨τ, rfl, t2, fun _ => ⟨t3, hC2⟩, t5, t6⟩
/-- one command, in numbers -/
noncomputable def cmdS (x : Nat × Nat × (Nat → Int32)) (f : Fm) : Rs := if x.1 = 98 then S_bond (x.2.2 0) (x.2.2 1) (x.2.2 2) f else if x.1 = 103 then S_gard (x.2.2 0) f else if x.1 = 104 then S_hedge (x.2.2 0) (x.2.2 1) (x.2.2 2) f else if x.1 = 109 then S_mino (x.2.2 0) f else if x.1 = 115 then S_summer f else if x.1 = 116 then S_trim (x.2.2 0) (x.2.2 1) (x.2.2 2) f else if x.1 = 118 then S_visi (x.2.2 0) f else if x.1 = 119 then S_walk (x.2.2 0) (x.2.2 1) f else S_rest (x.2.2 0) (x.2.2 1) f
theorem ok_cmd {B : Nat} (hB : B + 9 ≤ 1000000) {x : Nat × Nat × (Nat → Int32)} {f g : Fm} {r : Int32} (ho : ok B f) (h : cmdS x f = .inl (r, g)) : ok (B + 9) g := by
  unfold cmdS at h
  by_cases q : x.1 = 98
  · rw [if_pos q] at h; exact ok_bond ho h
  rw [if_neg q] at h
  by_cases q : x.1 = 103
  · rw [if_pos q] at h; exact ok_gard ho h
  rw [if_neg q] at h
  by_cases q : x.1 = 104
  · rw [if_pos q] at h; exact ok_hedge ho h
  rw [if_neg q] at h
  by_cases q : x.1 = 109
  · rw [if_pos q] at h; exact ok_mino ho h
  rw [if_neg q] at h
  by_cases q : x.1 = 115
  · rw [if_pos q] at h; exact ok_summer ho h
  rw [if_neg q] at h
  by_cases q : x.1 = 116
  · rw [if_pos q] at h; exact ok_trim ho h
  rw [if_neg q] at h
  by_cases q : x.1 = 118
  · rw [if_pos q] at h; exact ok_visi ho h
  rw [if_neg q] at h
  by_cases q : x.1 = 119
  · rw [if_pos q] at h; exact ok_walk hB ho h
  rw [if_neg q] at h
  exact ok_rest ho h
theorem bnm_eta {α : Type} (a : Option (α × Mm)) : (bnm a fun q τ => some (q, τ)) = a := by
  cases a with
  | none => rfl
  | some x => rfl
theorem num_at {i n j : Nat} {σ : Mm} (hi : i < n) (hn : n ≤ 30) (hj : j < 3) (h5 : σ 162 5 = I n) : f_X0_numberOf (I i) (I j) σ = some (σ (166 + i) j) := by
  unfold f_X0_numberOf
  rw [if_neg (I_n0 (by omega)), h5, if_neg (nle hi (by omega)), if_neg (I_n0 (by omega)), if_neg (show ¬ (3 : Int32) ≤ I j from nle (N := 3) hj (by omega)), gd_I (by omega) (by omega), gd_I hj (by omega), I_clamp (by omega), I_clamp (by omega)]
theorem c_carry {σ : Mm} {f : Fm} {B i n : Nat} {C : Cs} (hB : B + 9 ≤ 1000000) (hi : i < n) (hn : n ≤ 30) (h5 : σ 162 5 = I n) (hG : GC n C) (hC : CM n C σ) (h : rep 0 σ f) (ho : ok B f) : cOk σ (f_X3_carryOut (I i) σ) (cmdS (C i) f) := by
  obtain ⟨c1, c2⟩ := hC i hi
  obtain ⟨x, x1, x2⟩ := hG i hi
  have n0 : f_X0_numberOf (I i) 0 σ = some (σ (166 + i) 0) := num_at (j := 0) hi hn (by omega) h5
  have n1 : f_X0_numberOf (I i) 1 σ = some (σ (166 + i) 1) := num_at (j := 1) hi hn (by omega) h5
  have n2 : f_X0_numberOf (I i) 2 σ = some (σ (166 + i) 2) := num_at (j := 2) hi hn (by omega) h5
  have kd : f_X0_kindOf (I i) σ = some (I (C i).1) := by
    unfold f_X0_kindOf
    rw [if_neg (I_n0 (by omega)), h5, if_neg (nle hi (by omega)), gd_I (by omega) (by omega), I_clamp (by omega), c1, cz_I (by have := (form_ok x1).2.2.2.2.2; omega)]
  unfold f_X3_carryOut cmdS
  rw [n0, bnd_d, n1, bnd_d, n2, bnd_d, kd, bnd_d]
  generalize C i = y at *
  obtain ⟨c, k, V⟩ := y
  dsimp only at *
  rcases form_cases c with ⟨hN, -⟩ | e | e | e | e | e | e | e | e | e
  · rw [hN] at x1; cases x1
  all_goals subst e; cases x1
  · rw [if_pos rfl, if_pos (by decide), bnm_eta, c2 0 (by rw [x2]; decide), c2 1 (by rw [x2]; decide), c2 2 (by rw [x2]; decide)]
    exact c_bond _ _ _ h ho
  · rw [if_neg (by decide), if_pos (by decide), if_neg (by decide), if_pos (by decide), bnm_eta, c2 0 (by rw [x2]; decide)]
    exact c_gard _ h ho
  · rw [if_neg (by decide), if_neg (by decide), if_pos (by decide), if_neg (by decide), if_neg (by decide), if_pos (by decide), bnm_eta, c2 0 (by rw [x2]; decide), c2 1 (by rw [x2]; decide), c2 2 (by rw [x2]; decide)]
    exact c_hedge _ _ _ h ho
  · rw [if_neg (by decide), if_neg (by decide), if_neg (by decide), if_pos (by decide), if_neg (by decide), if_neg (by decide), if_neg (by decide), if_pos (by decide), bnm_eta, c2 0 (by rw [x2]; decide)]
    exact c_mino _ h ho
  · rw [if_neg (by decide), if_neg (by decide), if_neg (by decide), if_neg (by decide), if_neg (by decide), if_neg (by decide), if_neg (by decide), if_neg (by decide), if_neg (by decide), if_neg (by decide), if_neg (by decide), if_neg (by decide), if_neg (by decide), if_neg (by decide), if_neg (by decide), if_neg (by decide), bnm_eta, c2 0 (by rw [x2]; decide), c2 1 (by rw [x2]; decide)]
    exact c_rest (by omega) _ _ h ho
  · rw [if_neg (by decide), if_neg (by decide), if_neg (by decide), if_neg (by decide), if_pos (by decide), if_neg (by decide), if_neg (by decide), if_neg (by decide), if_neg (by decide), if_pos (by decide), bnm_eta]
    exact c_summer h ho
  · rw [if_neg (by decide), if_neg (by decide), if_neg (by decide), if_neg (by decide), if_neg (by decide), if_pos (by decide), if_neg (by decide), if_neg (by decide), if_neg (by decide), if_neg (by decide), if_neg (by decide), if_pos (by decide), bnm_eta, c2 0 (by rw [x2]; decide), c2 1 (by rw [x2]; decide), c2 2 (by rw [x2]; decide)]
    exact c_trim _ _ _ h ho
  · rw [if_neg (by decide), if_neg (by decide), if_neg (by decide), if_neg (by decide), if_neg (by decide), if_neg (by decide), if_pos (by decide), if_neg (by decide), if_neg (by decide), if_neg (by decide), if_neg (by decide), if_neg (by decide), if_neg (by decide), if_pos (by decide), bnm_eta, c2 0 (by rw [x2]; decide)]
    exact c_visi _ h ho
  · rw [if_neg (by decide), if_neg (by decide), if_neg (by decide), if_neg (by decide), if_neg (by decide), if_neg (by decide), if_neg (by decide), if_pos (by decide), if_neg (by decide), if_neg (by decide), if_neg (by decide), if_neg (by decide), if_neg (by decide), if_neg (by decide), if_neg (by decide), if_pos (by decide), bnm_eta, c2 0 (by rw [x2]; decide), c2 1 (by rw [x2]; decide)]
    exact c_walk hB _ _ h ho
theorem rOk.some {σ : Mm} {o : Option (Int32 × Mm)} {r : Rs} (h : rOk σ o r) : ∃ x τ, o = some (x, τ) ∧ rOk σ (some (x, τ)) r := by
  cases r with
  | inl p => obtain ⟨τ, h1, h2⟩ := h; exact ⟨p.1, τ, h1, τ, rfl, h2⟩
  | inr p => obtain ⟨τ, h1, h2⟩ := h; exact ⟨-1, τ, h1, τ, rfl, h2⟩
theorem r_does {σ : Mm} {B i n : Nat} {C : Cs} (hB : B + 9 ≤ 1000000) (hi : i < n) (hn : n ≤ 30) (hG : GC n C) (hC : RM n C σ) (ho : ok B (σ 199)) : ∃ x τ, f_X10_does (I (4 * i)) σ = some τ ∧ rOk σ (some (x, τ)) (cmdS (C i) (σ 199)) := by
  obtain ⟨c1, c2⟩ := hC i hi
  obtain ⟨x, x1, x2⟩ := hG i hi
  have fin : ∀ (o : Option (Int32 × Mm)) (r : Rs), rOk σ o r → ∃ x τ, (bnm o fun q τ => some τ) = some τ ∧ rOk σ (some (x, τ)) r := fun o r h => by
    obtain ⟨x, τ, h1, h2⟩ := h.some
    exact ⟨x, τ, by rw [h1, bnm_d], h2⟩
  unfold f_X10_does cmdS
  rw [show I (4 * i) + 1 = I (4 * i + 1 + 0) from a4 i 0, show I (4 * i) + 2 = I (4 * i + 1 + 1) from a4 i 1, show I (4 * i) + 3 = I (4 * i + 1 + 2) from a4 i 2, gd_I (by omega) (by omega), I_clamp (by omega), lt_d, gd_I (by omega) (by omega), I_clamp (by omega), lt_d, gd_I (by omega) (by omega), I_clamp (by omega), lt_d, gd_I (by omega) (by omega), I_clamp (by omega), c1]
  generalize C i = y at *
  obtain ⟨c, k, V⟩ := y
  dsimp only at *
  rcases form_cases c with ⟨hN, -⟩ | e | e | e | e | e | e | e | e | e
  · rw [hN] at x1; cases x1
  all_goals subst e; cases x1
  · rw [if_pos rfl, if_pos (by decide), c2 0 (by rw [x2]; decide), c2 1 (by rw [x2]; decide), c2 2 (by rw [x2]; decide)]
    exact fin _ _ (r_bond _ _ _ ho)
  · rw [if_neg (by decide), if_pos (by decide), if_neg (by decide), if_pos (by decide), c2 0 (by rw [x2]; decide)]
    exact fin _ _ (r_gard _ ho)
  · rw [if_neg (by decide), if_neg (by decide), if_pos (by decide), if_neg (by decide), if_neg (by decide), if_pos (by decide), c2 0 (by rw [x2]; decide), c2 1 (by rw [x2]; decide), c2 2 (by rw [x2]; decide)]
    exact fin _ _ (r_hedge _ _ _)
  · rw [if_neg (by decide), if_neg (by decide), if_neg (by decide), if_pos (by decide), if_neg (by decide), if_neg (by decide), if_neg (by decide), if_pos (by decide), c2 0 (by rw [x2]; decide)]
    exact fin _ _ (r_mino _ ho)
  · rw [if_neg (by decide), if_neg (by decide), if_neg (by decide), if_neg (by decide), if_neg (by decide), if_neg (by decide), if_neg (by decide), if_neg (by decide), if_neg (by decide), if_neg (by decide), if_neg (by decide), if_neg (by decide), if_neg (by decide), if_neg (by decide), if_neg (by decide), if_neg (by decide), c2 0 (by rw [x2]; decide), c2 1 (by rw [x2]; decide)]
    exact fin _ _ (r_rest _ _ ho)
  · rw [if_neg (by decide), if_neg (by decide), if_neg (by decide), if_neg (by decide), if_pos (by decide), if_neg (by decide), if_neg (by decide), if_neg (by decide), if_neg (by decide), if_pos (by decide)]
    exact fin _ _ r_summer
  · rw [if_neg (by decide), if_neg (by decide), if_neg (by decide), if_neg (by decide), if_neg (by decide), if_pos (by decide), if_neg (by decide), if_neg (by decide), if_neg (by decide), if_neg (by decide), if_neg (by decide), if_pos (by decide), c2 0 (by rw [x2]; decide), c2 1 (by rw [x2]; decide), c2 2 (by rw [x2]; decide)]
    exact fin _ _ (r_trim _ _ _ ho)
  · rw [if_neg (by decide), if_neg (by decide), if_neg (by decide), if_neg (by decide), if_neg (by decide), if_neg (by decide), if_pos (by decide), if_neg (by decide), if_neg (by decide), if_neg (by decide), if_neg (by decide), if_neg (by decide), if_neg (by decide), if_pos (by decide), c2 0 (by rw [x2]; decide)]
    exact fin _ _ (r_visi _ ho)
  · rw [if_neg (by decide), if_neg (by decide), if_neg (by decide), if_neg (by decide), if_neg (by decide), if_neg (by decide), if_neg (by decide), if_pos (by decide), if_neg (by decide), if_neg (by decide), if_neg (by decide), if_neg (by decide), if_neg (by decide), if_neg (by decide), if_neg (by decide), if_pos (by decide), c2 0 (by rw [x2]; decide), c2 1 (by rw [x2]; decide)]
    exact fin _ _ (r_walk hB _ _ ho)
noncomputable def runS (C : Cs) : Nat → Nat → Fm → Fm ⊕ (Nat × Int32 × Int32)
  | 0, _, f => .inl f
  | d + 1, i, f => match cmdS (C i) f with
    | .inl (_, g) => runS C d (i + 1) g
    | .inr (a, b) => .inr (i, a, b)
def cRun (n : Nat) (σ : Mm) (o : Option ((Int32 ⊕ Nat) × Mm)) (r : Fm ⊕ (Nat × Int32 × Int32)) : Prop := match r with
  | .inl g => ∃ τ, o = (xb (f_X9_settled (I n) τ) fun q τ => some (Sum.inl q, τ)) ∧ rep 0 τ g ∧ ∀ a, 14 ≤ a → a ≠ 159 → a ≠ 160 → τ a = σ a
  | .inr (k, a, b) => k < n ∧ ∃ τ, o = (lt (up τ 157 2 (I k)) fun σ18 => bnd (f_X6_copyFrom 0 14 σ18) fun σ20 => some (Sum.inr 0, σ20)) ∧ (τ 157 0 = a ∧ τ 157 1 = b) ∧ ∀ c, 14 ≤ c → c ≠ 157 → c ≠ 159 → c ≠ 160 → τ c = σ c
def rRun (n : Nat) (σ : Mm) (K : Int32 → Mm → Option (Int32 × Mm)) (o : Option (Int32 × Mm)) (r : Fm ⊕ (Nat × Int32 × Int32)) : Prop := match r with
  | .inl g => ∃ τ, o = (bnm (f_X10_changed (I n) τ) fun q τ => some (q, τ)) ∧ τ 199 = g ∧ ∀ a, a ≠ 199 → a ≠ 204 → τ a = σ a
  | .inr (k, a, b) => k < n ∧ ∃ τ, o = K (I k) τ ∧ (τ 198 6 = a ∧ τ 198 7 = b) ∧ (∀ j, j < 6 ∨ 8 < j → j ≠ 12 → τ 198 j = σ 198 j) ∧ ∀ a, a ≠ 198 → a ≠ 199 → a ≠ 204 → τ a = σ a
theorem ok_run {C : Cs} {B : Nat} (hB : B + 300 ≤ 1000000) : ∀ (d i : Nat) (f g : Fm), i + d ≤ 30 → ok (B + 9 * i) f → runS C d i f = .inl g → ok (B + 300) g := by
  intro d
  induction d with
  | zero => intro i f g hi ho h; cases h; exact ho.mono (by omega)
  | succ d ih =>
    intro i f g hi ho h
    rw [runS] at h
    cases e : cmdS (C i) f with
    | inl p =>
      rw [e] at h
      exact ih (i + 1) p.2 g (by omega) ((ok_cmd (by omega) ho e).mono (by omega)) h
    | inr p => rw [e] at h; cases h
theorem c_run {C : Cs} {B n : Nat} (hB : B + 300 ≤ 1000000) (hn : n ≤ 30) (hG : GC n C) : ∀ (d i F : Nat) (σ : Mm) (f : Fm), i + d = n → d < F → σ 162 5 = I n → CM n C σ → rep 0 σ f → ok (B + 9 * i) f → cRun n σ (f_X9_commands_l34 F (I i) σ) (runS C d i f) := by
  intro d
  induction d with
  | zero =>
    intro i F σ f hi hF h5 hC h ho
    obtain ⟨F, rfl⟩ : ∃ k, F = k + 1 := ⟨F - 1, by omega⟩
    have : i = n := by omega
    subst this
    exact ⟨σ, by rw [f_X9_commands_l34, h5, if_pos (Int32.le_refl _)], h, fun _ _ _ _ => rfl⟩
  | succ d ih =>
    intro i F σ f hi hF h5 hC h ho
    obtain ⟨F, rfl⟩ : ∃ k, F = k + 1 := ⟨F - 1, by omega⟩
    have k := c_carry (B := B + 9 * i) (by omega) (show i < n by omega) hn h5 hG hC h ho
    rw [f_X9_commands_l34, h5, if_neg (nle (show i < n by omega) (by omega)), runS]
    cases e : cmdS (C i) f with
    | inl p =>
      obtain ⟨r, g⟩ := p
      rw [e] at k
      obtain ⟨τ, k1, k2, k3, k4⟩ := k
      dsimp only
      rw [k1, bnm_d, if_neg k2, I_a1, lt_d]
      have z := ih (i + 1) F τ g (by omega) (by omega) (by rw [k4 162 (by omega) (by omega) (by omega)]; exact h5) (fun j hj => by rw [k4 164 (by omega) (by omega) (by omega), k4 (166 + j) (by omega) (by omega) (by omega)]; exact hC j hj) k3 ((ok_cmd (by omega) ho e).mono (by omega))
      unfold cRun at z ⊢
      revert z
      cases runS C d (i + 1) g with
      | inl g1 => exact fun ⟨ρ, z1, z2, z3⟩ => ⟨ρ, z1, z2, fun a y1 y2 y3 => by rw [z3 a y1 y2 y3, k4 a y1 y2 y3]⟩
      | inr q => exact fun ⟨z0, ρ, z1, z2, z3⟩ => ⟨z0, ρ, z1, z2, fun a y1 y2 y3 y4 => by rw [z3 a y1 y2 y3 y4, k4 a y1 y3 y4]⟩
    | inr p =>
      obtain ⟨a, b⟩ := p
      rw [e] at k
      obtain ⟨τ, k1, k2, k3⟩ := k
      dsimp only
      rw [k1, bnm_d, if_pos rfl]
      exact ⟨by omega, τ, rfl, ⟨k2.1, k2.2.1⟩, fun c _ y1 y2 y3 => k3 c y1 y2 y3⟩
theorem r_run {C : Cs} {B n : Nat} {K : Int32 → Mm → Option (Int32 × Mm)} (hB : B + 300 ≤ 1000000) (hn : n ≤ 30) (hG : GC n C) {L : Int32 → Nat → Int32 → Mm → Option (Int32 × Mm)} {v8 : Int32} (hL : ∀ m v σ, L v8 (m + 1) v σ = if (σ 198 15) ≤ v then (bnm (f_X10_changed (σ 198 15) σ) fun q31 σ32 => some (q31, σ32)) else (bnd (f_X10_does (4 * v) σ) fun σ34 => if (σ34 198 12) ≤ 0 then (lt (v + 1) fun x36 => L v8 m x36 σ34) else (K v σ34))) :
    ∀ (d i F : Nat) (σ : Mm), i + d = n → d < F → σ 198 15 = I n → σ 198 12 = 0 → RM n C σ → ok (B + 9 * i) (σ 199) → rRun n σ K (L v8 F (I i) σ) (runS C d i (σ 199)) := by
  intro d
  induction d with
  | zero =>
    intro i F σ hi hF h5 h12 hC ho
    obtain ⟨F, rfl⟩ : ∃ k, F = k + 1 := ⟨F - 1, by omega⟩
    have : i = n := by omega
    subst this
    exact ⟨σ, by rw [hL, h5, if_pos (Int32.le_refl _)], rfl, fun _ _ _ => rfl⟩
  | succ d ih =>
    intro i F σ hi hF h5 h12 hC ho
    obtain ⟨F, rfl⟩ : ∃ k, F = k + 1 := ⟨F - 1, by omega⟩
    obtain ⟨x, τ, k0, k⟩ := r_does (B := B + 9 * i) (by omega) (show i < n by omega) hn hG hC ho
    rw [hL, h5, if_neg (nle (show i < n by omega) (by omega)), show (4 : Int32) * I i = I (4 * i) from I_mul 4 i, k0, bnd_d, runS]
    cases e : cmdS (C i) (σ 199) with
    | inl p =>
      obtain ⟨r, g⟩ := p
      rw [e] at k
      obtain ⟨τ', k1, k2, k3⟩ := k
      cases k1
      have e12 : τ 198 12 = 0 := by rw [k3 198 (by omega) (by omega)]; exact h12
      dsimp only
      rw [e12, if_pos (Int32.le_refl _), I_a1, lt_d]
      have z := ih (i + 1) F τ (by omega) (by omega) (by rw [k3 198 (by omega) (by omega)]; exact h5) e12 (fun j hj => by rw [k3 205 (by omega) (by omega)]; exact hC j hj) (by rw [k2]; exact (ok_cmd (by omega) ho e).mono (by omega))
      rw [k2] at z
      unfold rRun at z ⊢
      revert z
      cases runS C d (i + 1) g with
      | inl g1 => exact fun ⟨ρ, z1, z2, z3⟩ => ⟨ρ, z1, z2, fun a y1 y2 => by rw [z3 a y1 y2, k3 a y1 y2]⟩
      | inr q => exact fun ⟨z0, ρ, z1, z2, z3, z4⟩ => ⟨z0, ρ, z1, z2, fun j y1 y2 => by rw [z3 j y1 y2, k3 198 (by omega) (by omega)], fun a y1 y2 y3 => by rw [z4 a y1 y2 y3, k3 a y2 y3]⟩
    | inr p =>
      obtain ⟨a, b⟩ := p
      rw [e] at k
      obtain ⟨τ', k1, ⟨k2, k3, k4, k5⟩, k6, k7⟩ := k
      cases k1
      dsimp only
      rw [k5, if_neg (by decide)]
      exact ⟨by omega, τ, rfl, ⟨k2, k3⟩, k6, fun a y1 y2 y3 => k7 a y1 y3⟩
end
section
/-! COMMANDS -/
theorem r_all {t : Nat → Nat} {L : Nat} {K : Int32 → Mm → Option (Int32 × Mm)} {σ : Mm} (P : Option (Int32 × Mm) → Prop) (hL : L ≤ 60) (ht : ∀ j, j < L → t j < 65536) (Z : RZ t L 0 false σ) (h15 : σ 198 15 = I 0)
    (h : ∀ τ, RZ t L (rdA t L).1 (rdA t L).2.1 τ → ((rdA t L).2.1 = false → τ 198 15 = I (rdA t L).2.2.1 ∧ RM (rdA t L).2.2.1 (rdA t L).2.2.2 τ) → (∀ a, a ≠ 198 → a ≠ 205 → τ a = σ a) → (∀ k, k ≠ 15 → k ≠ 16 → k ≠ 18 → τ 198 k = σ 198 k) → P (K 0 τ)) : P (f_X10_commands_l34 K 90 1 σ) := by
  obtain ⟨τ, e, h1, h2, h3, h4⟩ := r_rest' (K := K) hL ht 62 0 0 90 C0 σ (by omega) (by omega) (by omega) (by omega) Z h15 (fun i hi => absurd hi (Nat.not_lt_zero _)) (fun i hi => absurd hi (Nat.not_lt_zero _))
  rw [e]
  exact h τ h1 h2 h3 h4
/-- the reference's commands up to the end of its reading -/
theorem r_begin {t : Nat → Nat} {L : Nat} {τ : Mm} (P : Option (Int32 × Mm) → Prop) (hL : L ≤ 60) (ht : ∀ j, j < L → t j < 65536) (h11 : τ 198 11 = I L) (hs : ∀ j, j < L → τ 203 j = I (t j))
    (h : ∀ σ9, RZ t L (rdA t L).1 (rdA t L).2.1 σ9 → ((rdA t L).2.1 = false → σ9 198 15 = I (rdA t L).2.2.1 ∧ RM (rdA t L).2.2.1 (rdA t L).2.2.2 σ9) → (∀ a, a ≠ 198 → a ≠ 200 → a ≠ 205 → σ9 a = τ a) → (∀ k, k < 86 → σ9 200 k = τ 199 k) → σ9 198 11 = 0 → σ9 198 12 = 0 → (∀ k, k ≠ 11 → k ≠ 12 → k ≠ 15 → k ≠ 16 → k ≠ 17 → k ≠ 18 → σ9 198 k = τ 198 k) →
      P (if (σ9 198 18) = 0 then (lt (up σ9 198 9 (-1)) fun σ12 => if (σ12 198 18) = 0 then (lt (fun v14 σ15 => f_X10_commands_l162 v14 0 90 0 σ15) fun K => f_X10_commands_l138 K 0 90 0 σ12) else (bnm (f_X10_throwing 1 σ12) fun q37 σ38 => some (q37, σ38))) else (lt (up σ9 198 9 (σ9 198 16)) fun σ39 => if (σ39 198 18) = 0 then (lt (fun v41 σ42 => f_X10_commands_l162b v41 0 90 0 σ42) fun K => f_X10_commands_l138b K 0 90 0 σ39) else (bnm (f_X10_throwing 1 σ39) fun q64 σ65 => some (q64, σ65))))) : P (f_X10_commands τ) := by
  unfold f_X10_commands
  obtain ⟨τ1, s1, s2, s3, s4, s5⟩ := r_starts (σ := τ)
  obtain ⟨τ2, h2⟩ : ∃ s, s = up (up (up (up (up τ1 198 17 (τ1 198 11)) 198 11 0) 198 16 0) 198 15 0) 198 18 0 := ⟨_, rfl⟩
  rw [s1, bnd_d, lt_d, lt_d, lt_d, lt_d, lt_d, lt_d, ← h2]
  have e198 : ∀ k, k ≠ 11 → k ≠ 12 → k ≠ 15 → k ≠ 16 → k ≠ 17 → k ≠ 18 → τ2 198 k = τ 198 k := fun k z1 z2 z3 z4 z5 z6 => by rw [h2, up_e, upd_n _ _ z6, up_e, upd_n _ _ z3, up_e, upd_n _ _ z4, up_e, upd_n _ _ z1, up_e, upd_n _ _ z5, s3 k z2]
  have eo : ∀ a, a ≠ 198 → τ2 a = τ1 a := fun a z => by rw [h2, up_n _ _ _ z, up_n _ _ _ z, up_n _ _ _ z, up_n _ _ _ z, up_n _ _ _ z]
  have e17 : τ2 198 17 = I L := by rw [h2, up_e, upd_n _ _ (by omega), up_e, upd_n _ _ (by omega), up_e, upd_n _ _ (by omega), up_e, upd_n _ _ (by omega), up_e, upd_e, s3 11 (by omega), h11]
  have e16 : τ2 198 16 = I 0 := by rw [h2, up_e, upd_n _ _ (by omega), up_e, upd_n _ _ (by omega), up_e, upd_e]; rfl
  have e15 : τ2 198 15 = I 0 := by rw [h2, up_e, upd_n _ _ (by omega), up_e, upd_e]; rfl
  have e18 : τ2 198 18 = 0 := by rw [h2, up_e, upd_e]
  have e11 : τ2 198 11 = 0 := by rw [h2, up_e, upd_n _ _ (by omega), up_e, upd_n _ _ (by omega), up_e, upd_n _ _ (by omega), up_e, upd_e]
  have e12 : τ2 198 12 = 0 := by rw [h2, up_e, upd_n _ _ (by omega), up_e, upd_n _ _ (by omega), up_e, upd_n _ _ (by omega), up_e, upd_n _ _ (by omega), up_e, upd_n _ _ (by omega), s2]
  refine r_all P hL ht ⟨e17, e16, e18, by omega, fun j hj => by rw [eo 203 (by omega), s5 203 (by omega) (by omega)]; exact hs j hj⟩ e15 ?_
  intro σ9 z1 z2 z3 z4
  exact h σ9 z1 z2 (fun a y1 y2 y3 => by rw [z3 a y1 y3, eo a y1, s5 a y1 y2]) (fun k hk => by rw [z3 200 (by omega) (by omega), eo 200 (by omega), s4 k hk]) (by rw [z4 11 (by omega) (by omega) (by omega)]; exact e11) (by rw [z4 12 (by omega) (by omega) (by omega)]; exact e12) (fun k y1 y2 y3 y4 y5 y6 => by rw [z4 k y3 y4 y6, e198 k y1 y2 y3 y4 y5 y6])
theorem q_commands {σ : Mm} {B : Nat} (hB : B + 300 ≤ 1000000) (R : RR B σ) : ∃ out τ, f_X9_commands σ = some (out, τ) ∧ ∃ r ρ, f_X10_commands τ = some (r, ρ) ∧ RR (B + 300) ρ ∧ same2 out 3 0 r (ρ 198 12) := by
  obtain ⟨r1, r2, r3, r4, r5, ⟨L, t1, t2, t3, t4, t5⟩, r7⟩ := R
  obtain ⟨f, hf⟩ : ∃ f, f = σ 199 := ⟨_, rfl⟩
  rw [← hf] at r1 r2
  obtain ⟨t, htd⟩ : ∃ t : Nat → Nat, t = fun j => (σ 203 j).toNatClampNeg := ⟨_, rfl⟩
  have tc : ∀ j, j < L → t j < 65536 ∧ σ 203 j = I (t j) := fun j hj => by
    obtain ⟨-, c, c1, c2⟩ := t4 j hj
    have : t j = c := by rw [htd]; dsimp only; rw [c2, I_clamp (by omega)]
    rw [this]; exact ⟨c1, c2⟩
  have ht : ∀ j, j < L → t j < 65536 := fun j hj => (tc j hj).1
  obtain ⟨σa, a1, a2, a3, a4, a5⟩ := z_all (σ := σ) t1 ht t2 (fun j hj => by rw [(t4 j hj).1]; exact (tc j hj).2)
  unfold f_X9_commands
  rw [a1, bnm_d]
  by_cases w : (rdA t L).2.1 = true
  · rw [if_pos w, if_pos rfl]
    rw [if_pos w] at a3
    refine ⟨_, _, rfl, ?_⟩
    refine r_begin (t := t) (L := L) (τ := σa) (fun o => ∃ r ρ, o = some (r, ρ) ∧ RR (B + 300) ρ ∧ same2 (Sum.inr 3) 3 0 r (ρ 198 12)) t1 ht (by rw [a5 198 (by omega) (by omega) (by omega)]; exact t3) (fun j hj => by rw [a5 203 (by omega) (by omega) (by omega)]; exact (tc j hj).2) ?_
    intro σ9 z1 z2 z3 z4 z5 z6 z7
    rw [w] at z1
    have e18 : σ9 198 18 = 1 := z1.2.2.1
    have e16 : σ9 198 16 = I (rdA t L).1 := z1.2.1
    rw [e18, if_neg one_ne, lt_d, up_e, upd_n _ _ (show 18 ≠ 9 by omega), e18, if_neg one_ne, r_thr, bnm_d, e16]
    obtain ⟨ρ, hρ⟩ : ∃ ρ, ρ = up (up σ9 198 9 (I (rdA t L).1)) 198 12 1 := ⟨_, rfl⟩
    rw [← hρ]
    have z : ∀ a, a ≠ 162 → a ≠ 164 → a < 166 ∨ 196 ≤ a → a ≠ 198 → a ≠ 200 → a ≠ 205 → ρ a = σ a := fun a h1 h2 h3 h4 h5 h6 => by rw [hρ, up_n _ _ _ h4, up_n _ _ _ h4, z3 a h4 h5 h6, a5 a h1 h2 h3]
    have z198 : ∀ k, k ≠ 9 → k ≠ 11 → k ≠ 12 → k ≠ 15 → k ≠ 16 → k ≠ 17 → k ≠ 18 → ρ 198 k = σ 198 k := fun k h1 h2 h3 h4 h5 h6 h7 => by rw [hρ, up_e, upd_n _ _ h3, up_e, upd_n _ _ h1, z7 k h2 h3 h4 h5 h6 h7, a5 198 (by omega) (by omega) (by omega)]
    have z162 : ρ 162 = σa 162 := by rw [hρ, up_n _ _ _ (by omega), up_n _ _ _ (by omega), z3 162 (by omega) (by omega) (by omega)]
    have z199 : ρ 199 = f := by rw [z 199 (by omega) (by omega) (by omega) (by omega) (by omega) (by omega), hf]
    refine ⟨_, ρ, rfl, ⟨?_, ?_, ?_, ?_, ?_, ?_, ?_⟩, Or.inl ⟨rfl, by rw [hρ, up_e, upd_e]⟩⟩
    · rw [z199]; exact r1.move (fun a _ h => z a (by omega) (by omega) (by omega) (by omega) (by omega) (by omega))
    · rw [z199]; exact r2.mono (by omega)
    · exact (r3.mono (by omega)).move (fun a h1 h2 => z a (by omega) (by omega) (by omega) (by omega) (by omega) (by omega)) (z 155 (by omega) (by omega) (by omega) (by omega) (by omega) (by omega)) (z198 5 (by omega) (by omega) (by omega) (by omega) (by omega) (by omega) (by omega)) (z 202 (by omega) (by omega) (by omega) (by omega) (by omega) (by omega))
    · exact (r4.mono (by omega)).move (fun a h1 h2 => z a (by omega) (by omega) (by omega) (by omega) (by omega) (by omega)) (z 154 (by omega) (by omega) (by omega) (by omega) (by omega) (by omega)) (z198 3 (by omega) (by omega) (by omega) (by omega) (by omega) (by omega) (by omega)) (z 201 (by omega) (by omega) (by omega) (by omega) (by omega) (by omega))
    · unfold refu
      rw [z 157 (by omega) (by omega) (by omega) (by omega) (by omega) (by omega), z198 6 (by omega) (by omega) (by omega) (by omega) (by omega) (by omega) (by omega), z198 7 (by omega) (by omega) (by omega) (by omega) (by omega) (by omega) (by omega), z198 8 (by omega) (by omega) (by omega) (by omega) (by omega) (by omega) (by omega)]
      exact r5
    · refine ⟨0, by omega, by rw [z162]; exact a2, by rw [hρ, up_e, upd_n _ _ (by omega), up_e, upd_n _ _ (by omega)]; exact z5, fun j hj => absurd hj (Nat.not_lt_zero _), ?_⟩
      rw [z162, a3, hρ, up_e, upd_n _ _ (by omega), up_e, upd_e]
    · exact r7.move (z 196 (by omega) (by omega) (by omega) (by omega) (by omega) (by omega)) (z 197 (by omega) (by omega) (by omega) (by omega) (by omega) (by omega)) (z 206 (by omega) (by omega) (by omega) (by omega) (by omega) (by omega)) (z198 20 (by omega) (by omega) (by omega) (by omega) (by omega) (by omega) (by omega))
  · have w' : (rdA t L).2.1 = false := by cases z : (rdA t L).2.1 with | false => rfl | true => exact absurd z w
    obtain ⟨hG, hn0⟩ := rdA_GC w'
    obtain ⟨c5, cC⟩ := a4 w'
    obtain ⟨n, hn⟩ : ∃ n, n = (rdA t L).2.2.1 := ⟨_, rfl⟩
    obtain ⟨C, hC⟩ : ∃ C, C = (rdA t L).2.2.2 := ⟨_, rfl⟩
    rw [← hn] at hG hn0 c5 cC
    rw [← hC] at hG cC
    rw [if_neg w] at a3
    rw [if_neg w, if_neg one_ne]
    obtain ⟨σb, b1, b2, b3⟩ := c_copy (σ := σa) (i := 14) (o := 0) (by omega) (r1.move (fun a _ h => a5 a (by omega) (by omega) (by omega))) r2
    rw [b1, bnd_d]
    have cr := c_run (C := C) (B := B) (n := n) hB (by omega) hG n 0 40 σb f (by omega) (by omega) (by rw [b3 162 (by omega)]; exact c5) (fun i hi => by rw [b3 164 (by omega), b3 (166 + i) (by omega)]; exact cC i hi) (r1.move (fun a _ h => by rw [b3 a (by omega), a5 a (by omega) (by omega) (by omega)])) r2
    have rr : ∀ {K : Int32 → Mm → Option (Int32 × Mm)} {σ12 : Mm}, σ12 198 15 = I n → σ12 198 12 = 0 → RM n C σ12 → σ12 199 = f → rRun n σ12 K (f_X10_commands_l138 K 0 90 (I 0) σ12) (runS C n 0 f) := fun {K σ12} h1 h2 h3 h4 => by
      have := r_run (C := C) (B := B) (n := n) (K := K) (L := f_X10_commands_l138 K) (v8 := 0) hB (by omega) hG (fun m v σ => by rw [f_X10_commands_l138]) n 0 90 σ12 (by omega) (by omega) h1 h2 h3 (by rw [h4]; exact r2)
      rw [h4] at this
      exact this
    have okr : ∀ g, runS C n 0 f = .inl g → ok (B + 300) g := fun g h => ok_run hB n 0 f g (by omega) r2 h
    have cr' : cRun n σb (f_X9_commands_l34 40 0 σb) (runS C n 0 f) := cr
    -- what a reference that has read all does
    have rd : ∀ (τ : Mm) (P : Option (Int32 × Mm) → Prop), τ 198 = σ 198 → τ 203 = σ 203 →
        (∀ σ12, RM n C σ12 → σ12 198 15 = I n → σ12 198 12 = 0 → σ12 198 11 = 0 → σ12 198 9 = -1 → (∀ a, a ≠ 198 → a ≠ 200 → a ≠ 205 → σ12 a = τ a) → (∀ k, k < 86 → σ12 200 k = τ 199 k) → (∀ k, k ≠ 9 → k ≠ 11 → k ≠ 12 → k ≠ 15 → k ≠ 16 → k ≠ 17 → k ≠ 18 → σ12 198 k = σ 198 k) → P (f_X10_commands_l138 (fun v14 σ15 => f_X10_commands_l162 v14 0 90 0 σ15) 0 90 0 σ12)) → P (f_X10_commands τ) := by
      intro τ P h1 h2 h3
      refine r_begin (t := t) (L := L) (τ := τ) P t1 ht (by rw [h1]; exact t3) (fun j hj => by rw [h2]; exact (tc j hj).2) ?_
      intro σ9 z1 z2 z3 z4 z5 z6 z7
      rw [w'] at z1
      have e18 : σ9 198 18 = 0 := z1.2.2.1
      rw [e18, if_pos rfl, lt_d, up_e, upd_n _ _ (show 18 ≠ 9 by omega), e18, if_pos rfl, lt_d]
      obtain ⟨z2a, z2b⟩ := z2 w'
      rw [← hn] at z2a z2b
      rw [← hC] at z2b
      refine h3 _ (fun i hi => by rw [up_n _ _ _ (by omega)]; exact z2b i hi) (by rw [up_e, upd_n _ _ (by omega)]; exact z2a) (by rw [up_e, upd_n _ _ (by omega)]; exact z6) (by rw [up_e, upd_n _ _ (by omega)]; exact z5) (by rw [up_e, upd_e]) (fun a y1 y2 y3 => by rw [up_n _ _ _ y1, z3 a y1 y2 y3]) (fun k hk => by rw [up_n _ _ _ (by omega), z4 k hk]) (fun k y1 y2 y3 y4 y5 y6 y7 => by rw [up_e, upd_n _ _ y1, z7 k y2 y3 y4 y5 y6 y7, h1])
    revert cr' rr okr
    cases runS C n 0 f with
    | inl g =>
      intro rr okr cr'
      obtain ⟨σc, c1, c2, c3⟩ := cr'
      rw [c1]
      unfold f_X9_settled
      rw [if_neg (nm1 (show n < 2147483648 by omega))]
      obtain ⟨m, l, n1, n2, n3, n4, n5, n6⟩ := r3
      have k155 : σc 155 = σ 155 := by rw [c3 155 (by omega) (by omega) (by omega), b3 155 (by omega), a5 155 (by omega) (by omega) (by omega)]
      obtain ⟨σd, k1, k2, k3, k4, k5⟩ := m_keep (σ := σc) (f := f) (l := l) n1 n2 (by rw [k155]; exact n3) (by rw [k155]; exact n4) (b2.move (fun a h1 h2 => c3 a h1 (by omega) (by omega))) r2
      rw [k1, bnd_d, xb_d]
      refine ⟨.inl (I n), σd, rfl, ?_⟩
      have q : ∀ a, 28 ≤ a → a ≠ 155 → a ≠ 159 → a ≠ 160 → a ≠ 162 → a ≠ 164 → a < 166 ∨ 196 ≤ a → a < 42 ∨ 154 ≤ a → σd a = σ a := fun a h1 h2 h3 h4 h5 h6 h7 h8 => by rw [k5 a h2 (by omega), c3 a (by omega) h3 h4, b3 a (by omega), a5 a h5 h6 h7]
      have q162 : σd 162 = σa 162 := by rw [k5 162 (by omega) (by omega), c3 162 (by omega) (by omega) (by omega), b3 162 (by omega)]
      have e199 : σd 199 = f := by rw [q 199 (by omega) (by omega) (by omega) (by omega) (by omega) (by omega) (by omega) (by omega), hf]
      refine rd σd (fun o => ∃ r ρ, o = some (r, ρ) ∧ RR (B + 300) ρ ∧ same2 (Sum.inl (I n)) 3 0 r (ρ 198 12)) (q 198 (by omega) (by omega) (by omega) (by omega) (by omega) (by omega) (by omega) (by omega)) (q 203 (by omega) (by omega) (by omega) (by omega) (by omega) (by omega) (by omega) (by omega)) ?_
      intro σ12 y1 y2 y3 y4 y5 y6 y7 y8
      obtain ⟨τ5, d1, d2, d3⟩ := rr (K := fun v14 σ15 => f_X10_commands_l162 v14 0 90 0 σ15) y2 y3 y1 (by rw [y6 199 (by omega) (by omega) (by omega)]; exact e199)
      rw [show f_X10_commands_l138 (fun v14 σ15 => f_X10_commands_l162 v14 0 90 0 σ15) 0 90 0 σ12 = _ from d1]
      obtain ⟨ρ, p1, p2, p3, p4, p5, p6⟩ := r_changed (σ := τ5) (I n) n1 (by rw [d3 198 (by omega) (by omega), y8 5 (by omega) (by omega) (by omega) (by omega) (by omega) (by omega) (by omega)]; exact n5) (by rw [d3 198 (by omega) (by omega)]; exact y3)
      rw [p1, bnm_d]
      refine ⟨_, ρ, rfl, ?_, by rw [p3 12 (by omega), d3 198 (by omega) (by omega)]; exact y3, rfl⟩
      have z : ∀ a, a ≠ 198 → a ≠ 199 → a ≠ 200 → a ≠ 202 → a ≠ 204 → a ≠ 205 → ρ a = σd a := fun a h1 h2 h3 h4 h5 h6 => by rw [p6 a h1 h4, d3 a h2 h5, y6 a h1 h3 h6]
      have z198 : ∀ k, k ≠ 5 → k ≠ 9 → k ≠ 11 → k ≠ 12 → k ≠ 15 → k ≠ 16 → k ≠ 17 → k ≠ 18 → ρ 198 k = σ 198 k := fun k h1 h2 h3 h4 h5 h6 h7 h8 => by rw [p3 k h1, d3 198 (by omega) (by omega), y8 k h2 h3 h4 h5 h6 h7 h8]
      have z199 : ρ 199 = g := by rw [p6 199 (by omega) (by omega), d2]
      have e200 : ∀ k, k < 86 → τ5 200 k = f k := fun k hk => by rw [d3 200 (by omega) (by omega), y7 k hk, e199]
      have e202 : τ5 202 = σ 202 := by rw [d3 202 (by omega) (by omega), y6 202 (by omega) (by omega) (by omega), q 202 (by omega) (by omega) (by omega) (by omega) (by omega) (by omega) (by omega) (by omega)]
      refine ⟨?_, ?_, ?_, ?_, ?_, ?_, ?_⟩
      · rw [z199]
        exact c2.move (fun a _ h => by rw [z a (by omega) (by omega) (by omega) (by omega) (by omega) (by omega), k5 a (by omega) (by omega)])
      · rw [z199]; exact okr g rfl
      · have hb : (l + 1) % 8 < 8 := Nat.mod_lt _ (by omega)
        refine ⟨min 8 (m + 1), (l + 1) % 8, by omega, hb, by rw [z 155 (by omega) (by omega) (by omega) (by omega) (by omega) (by omega)]; exact k2, by rw [z 155 (by omega) (by omega) (by omega) (by omega) (by omega) (by omega)]; exact k3, p2, fun k hk => ?_⟩
        cases k with
        | zero =>
          refine ⟨f, r2.mono (by omega), ?_, fun j hj => ?_⟩
          · rw [show ((l + 1) % 8 + 8 - 0) % 8 = (l + 1) % 8 by omega]
            exact k4.move (fun a h1 h2 => z a (by omega) (by omega) (by omega) (by omega) (by omega) (by omega))
          · rw [Nat.sub_zero, p4 j hj, e200 j hj]
        | succ k =>
          obtain ⟨h, h1, h2, h3⟩ := n6 k (by omega)
          refine ⟨h, h1.mono (by omega), ?_, fun j hj => ?_⟩
          · have e : ((l + 1) % 8 + 8 - (k + 1)) % 8 = (l + 8 - k) % 8 := by omega
            have ne : (l + 8 - k) % 8 ≠ (l + 1) % 8 := by omega
            rw [e]
            exact h2.move (fun a g1 g2 => by rw [z a (by omega) (by omega) (by omega) (by omega) (by omega) (by omega), k5 a (by omega) (by omega), c3 a (by omega) (by omega) (by omega), b3 a (by omega), a5 a (by omega) (by omega) (by omega)])
          · rw [p5 k j hk hj, e202]; exact h3 j hj
      · exact (r4.mono (by omega)).move (fun a h1 h2 => by rw [z a (by omega) (by omega) (by omega) (by omega) (by omega) (by omega), q a (by omega) (by omega) (by omega) (by omega) (by omega) (by omega) (by omega) (by omega)]) (by rw [z 154 (by omega) (by omega) (by omega) (by omega) (by omega) (by omega), q 154 (by omega) (by omega) (by omega) (by omega) (by omega) (by omega) (by omega) (by omega)]) (z198 3 (by omega) (by omega) (by omega) (by omega) (by omega) (by omega) (by omega) (by omega)) (by rw [z 201 (by omega) (by omega) (by omega) (by omega) (by omega) (by omega), q 201 (by omega) (by omega) (by omega) (by omega) (by omega) (by omega) (by omega) (by omega)])
      · unfold refu
        rw [z198 6 (by omega) (by omega) (by omega) (by omega) (by omega) (by omega) (by omega) (by omega), z198 7 (by omega) (by omega) (by omega) (by omega) (by omega) (by omega) (by omega) (by omega), z198 8 (by omega) (by omega) (by omega) (by omega) (by omega) (by omega) (by omega) (by omega), z 157 (by omega) (by omega) (by omega) (by omega) (by omega) (by omega), q 157 (by omega) (by omega) (by omega) (by omega) (by omega) (by omega) (by omega) (by omega)]
        exact r5
      · refine ⟨0, by omega, by rw [z 162 (by omega) (by omega) (by omega) (by omega) (by omega) (by omega), q162]; exact a2, by rw [p3 11 (by omega), d3 198 (by omega) (by omega)]; exact y4, fun j hj => absurd hj (Nat.not_lt_zero _), ?_⟩
        rw [z 162 (by omega) (by omega) (by omega) (by omega) (by omega) (by omega), q162, a3, p3 9 (by omega), d3 198 (by omega) (by omega), y5]
      · have z2 : ∀ a, 196 ≤ a → a ≠ 198 → a ≠ 199 → a ≠ 200 → a ≠ 202 → a ≠ 204 → a ≠ 205 → ρ a = σ a := fun a h1 h2 h3 h4 h5 h6 h7 => by rw [z a h2 h3 h4 h5 h6 h7, q a (by omega) (by omega) (by omega) (by omega) (by omega) (by omega) (by omega) (by omega)]
        exact r7.move (z2 196 (by omega) (by omega) (by omega) (by omega) (by omega) (by omega) (by omega)) (z2 197 (by omega) (by omega) (by omega) (by omega) (by omega) (by omega) (by omega)) (z2 206 (by omega) (by omega) (by omega) (by omega) (by omega) (by omega) (by omega)) (z198 20 (by omega) (by omega) (by omega) (by omega) (by omega) (by omega) (by omega) (by omega))
    | inr p =>
      obtain ⟨k, x, y⟩ := p
      intro rr okr cr'
      obtain ⟨hk, σc, c1, c2, c3⟩ := cr'
      rw [c1, lt_d]
      obtain ⟨σd, k1, k2, k3⟩ := c_copy (σ := up σc 157 2 (I k)) (f := f) (i := 0) (o := 14) (by omega) (b2.move (fun a h1 h2 => by rw [up_n _ _ _ (by omega), c3 a h1 (by omega) (by omega) (by omega)])) r2
      rw [k1, bnd_d]
      refine ⟨.inr 0, σd, rfl, ?_⟩
      have q : ∀ a, 28 ≤ a → a ≠ 157 → a ≠ 159 → a ≠ 160 → a ≠ 162 → a ≠ 164 → a < 166 ∨ 196 ≤ a → σd a = σ a := fun a h1 h2 h3 h4 h5 h6 h7 => by rw [k3 a (by omega), up_n _ _ _ h2, c3 a (by omega) h2 h3 h4, b3 a (by omega), a5 a h5 h6 h7]
      have q162 : σd 162 = σa 162 := by rw [k3 162 (by omega), up_n _ _ _ (by omega), c3 162 (by omega) (by omega) (by omega) (by omega), b3 162 (by omega)]
      have e199 : σd 199 = f := by rw [q 199 (by omega) (by omega) (by omega) (by omega) (by omega) (by omega) (by omega), hf]
      refine rd σd (fun o => ∃ r ρ, o = some (r, ρ) ∧ RR (B + 300) ρ ∧ same2 (Sum.inr 0) 3 0 r (ρ 198 12)) (q 198 (by omega) (by omega) (by omega) (by omega) (by omega) (by omega) (by omega)) (q 203 (by omega) (by omega) (by omega) (by omega) (by omega) (by omega) (by omega)) ?_
      intro σ12 y1 y2 y3 y4 y5 y6 y7 y8
      obtain ⟨-, τ5, d1, ⟨d2a, d2b⟩, d3, d4⟩ := rr (K := fun v14 σ15 => f_X10_commands_l162 v14 0 90 0 σ15) y2 y3 y1 (by rw [y6 199 (by omega) (by omega) (by omega)]; exact e199)
      rw [show f_X10_commands_l138 (fun v14 σ15 => f_X10_commands_l162 v14 0 90 0 σ15) 0 90 0 σ12 = _ from d1]
      obtain ⟨σ2, g1, g2, g3⟩ := r_copy (σ0 := τ5) (F := f_X10_commands_l162 (I k) 0) (K := fun σ21 => lt (up σ21 198 8 (I k)) fun σ23 => bnm (f_X10_throwing 2 σ23) fun q24 σ25 => some (q24, σ25)) (p := 199) (q := 200) (o := 0) (by omega) (fun n v g _ => by
        rw [f_X10_commands_l162]
        by_cases q : (86 : Int32) ≤ v
        · rw [if_pos q, if_pos q]
        · rw [if_neg q, if_neg q, Nat.zero_add]
          unfold gd
          by_cases w : v < 0 ∨ 86 ≤ v.toNatClampNeg
          · rw [if_pos w, if_pos w]
          · rw [if_neg w, if_neg w])
      dsimp only
      rw [g1, lt_d, r_thr, bnm_d]
      obtain ⟨ρ, hρ⟩ : ∃ ρ, ρ = up (up σ2 198 8 (I k)) 198 12 2 := ⟨_, rfl⟩
      rw [← hρ]
      have z : ∀ a, 28 ≤ a → a ≠ 157 → a ≠ 159 → a ≠ 160 → a ≠ 162 → a ≠ 164 → a < 166 ∨ 196 ≤ a → a ≠ 198 → a ≠ 199 → a ≠ 200 → a ≠ 204 → a ≠ 205 → ρ a = σ a := fun a h0 h1 h2 h3 h4 h5 h6 h7 h8 h9 h10 h11 => by rw [hρ, up_n _ _ _ h7, up_n _ _ _ h7, g3 a h8, d4 a h7 h8 h10, y6 a h7 h9 h11, q a h0 h1 h2 h3 h4 h5 h6]
      have zd : ∀ a, a ≠ 198 → a ≠ 199 → a ≠ 200 → a ≠ 204 → a ≠ 205 → ρ a = σd a := fun a h7 h8 h9 h10 h11 => by rw [hρ, up_n _ _ _ h7, up_n _ _ _ h7, g3 a h8, d4 a h7 h8 h10, y6 a h7 h9 h11]
      have e2 : σ2 198 = τ5 198 := g3 198 (by omega)
      have z198 : ∀ j, j < 6 ∨ 8 < j → j ≠ 9 → j ≠ 11 → j ≠ 12 → j ≠ 15 → j ≠ 16 → j ≠ 17 → j ≠ 18 → ρ 198 j = σ 198 j := fun j h1 h2 h3 h4 h5 h6 h7 h8 => by rw [hρ, up_e, upd_n _ _ h4, up_e, upd_n _ _ (by omega), e2, d3 j h1 h4, y8 j h2 h3 h4 h5 h6 h7 h8]
      have z199 : ∀ j, j < 86 → ρ 199 j = f j := fun j hj => by rw [hρ, up_n _ _ _ (by omega), up_n _ _ _ (by omega), g2 j hj, Nat.zero_add, d4 200 (by omega) (by omega) (by omega), y7 j hj, e199]
      refine ⟨_, ρ, rfl, ⟨?_, ?_, ?_, ?_, ?_, ?_, ?_⟩, Or.inr ⟨rfl, by rw [hρ, up_e, upd_e]⟩⟩
      · exact (k2.move (fun a _ h => zd a (by omega) (by omega) (by omega) (by omega) (by omega))).ext (fun j hj => (z199 j hj).symm)
      · exact (r2.mono (by omega)).ext (fun j hj => (z199 j hj).symm)
      · exact (r3.mono (by omega)).move (fun a h1 h2 => z a (by omega) (by omega) (by omega) (by omega) (by omega) (by omega) (by omega) (by omega) (by omega) (by omega) (by omega) (by omega)) (z 155 (by omega) (by omega) (by omega) (by omega) (by omega) (by omega) (by omega) (by omega) (by omega) (by omega) (by omega) (by omega)) (z198 5 (by omega) (by omega) (by omega) (by omega) (by omega) (by omega) (by omega) (by omega)) (z 202 (by omega) (by omega) (by omega) (by omega) (by omega) (by omega) (by omega) (by omega) (by omega) (by omega) (by omega) (by omega))
      · exact (r4.mono (by omega)).move (fun a h1 h2 => z a (by omega) (by omega) (by omega) (by omega) (by omega) (by omega) (by omega) (by omega) (by omega) (by omega) (by omega) (by omega)) (z 154 (by omega) (by omega) (by omega) (by omega) (by omega) (by omega) (by omega) (by omega) (by omega) (by omega) (by omega) (by omega)) (z198 3 (by omega) (by omega) (by omega) (by omega) (by omega) (by omega) (by omega) (by omega)) (z 201 (by omega) (by omega) (by omega) (by omega) (by omega) (by omega) (by omega) (by omega) (by omega) (by omega) (by omega) (by omega))
      · have e157 : ρ 157 = (up σc 157 2 (I k)) 157 := by rw [zd 157 (by omega) (by omega) (by omega) (by omega) (by omega), k3 157 (by omega)]
        unfold refu
        rw [e157, up_e, upd_n _ _ (by omega), upd_n _ _ (by omega), upd_e, c2.1, c2.2, hρ, up_e, upd_n _ _ (by omega), upd_n _ _ (by omega), upd_n _ _ (by omega), up_e, upd_n _ _ (by omega), upd_n _ _ (by omega), upd_e, e2, d2a, d2b]
        exact ⟨rfl, rfl, rfl⟩
      · refine ⟨0, by omega, by rw [zd 162 (by omega) (by omega) (by omega) (by omega) (by omega), q162]; exact a2, by rw [hρ, up_e, upd_n _ _ (by omega), up_e, upd_n _ _ (by omega), e2, d3 11 (by omega) (by omega)]; exact y4, fun j hj => absurd hj (Nat.not_lt_zero _), ?_⟩
        rw [zd 162 (by omega) (by omega) (by omega) (by omega) (by omega), q162, a3, hρ, up_e, upd_n _ _ (by omega), up_e, upd_n _ _ (by omega), e2, d3 9 (by omega) (by omega), y5]
      · exact r7.move (z 196 (by omega) (by omega) (by omega) (by omega) (by omega) (by omega) (by omega) (by omega) (by omega) (by omega) (by omega) (by omega)) (z 197 (by omega) (by omega) (by omega) (by omega) (by omega) (by omega) (by omega) (by omega) (by omega) (by omega) (by omega) (by omega)) (z 206 (by omega) (by omega) (by omega) (by omega) (by omega) (by omega) (by omega) (by omega) (by omega) (by omega) (by omega) (by omega)) (z198 20 (by omega) (by omega) (by omega) (by omega) (by omega) (by omega) (by omega) (by omega))
end
section
/-! WHAT A BOND WOULD PAY, ORDERS, ACCOUNTS -/
theorem n_paysL {σ : Mm} {B n v : Nat} (hn : n ≤ 4) (hv : v < 5) (h : okV B n (σ 199) v) (l : Int32) : f_X10_pays (I v) l σ = some (if σ 199 (46 + 8 * v + 4) = -1 then 0 else if σ 199 (46 + 8 * v + 6) = 1 then 0 else if σ 199 (30 + 4 * (σ 199 (46 + 8 * v + 4)).toNatClampNeg) < σ 199 (46 + 8 * v + 5) * l then σ 199 (30 + 4 * (σ 199 (46 + 8 * v + 4)).toNatClampNeg) else σ 199 (46 + 8 * v + 5) * l) := by
  unfold f_X10_pays
  rw [n_vAt, bnd_d]
  simp only [I_a4, I_a5, I_a6, gd_I (show 46 + 8 * v + 4 < 86 by omega) (show 86 < 2147483648 by omega), gd_I (show 46 + 8 * v + 5 < 86 by omega) (show 86 < 2147483648 by omega), gd_I (show 46 + 8 * v + 6 < 86 by omega) (show 86 < 2147483648 by omega), I_clamp (show 46 + 8 * v + 4 < 2147483648 by omega), I_clamp (show 46 + 8 * v + 5 < 2147483648 by omega), I_clamp (show 46 + 8 * v + 6 < 2147483648 by omega)]
  rcases h.2.2.2 with ⟨a, -⟩ | ⟨⟨g, g1, g2⟩, -⟩
  · rw [if_pos a, if_pos a]
  · have ne : ¬ σ 199 (46 + 8 * v + 4) = -1 := by rw [g2]; exact nm1 (by omega)
    rw [if_neg ne, if_neg ne]
    by_cases w : σ 199 (46 + 8 * v + 6) = 1
    · rw [if_pos w, if_pos w]
    · rw [if_neg w, if_neg w, g2, n_gAt, bnd_d, gd_I (by omega) (by omega), I_clamp (by omega), I_clamp (by omega)]
theorem ix_m1 (n : Nat) : ix (-1) n = none := if_pos (Or.inl (by decide))
theorem q_wouldPay {σ : Mm} {B : Nat} (R : RR B σ) (a : Int32) : ∃ out τ, f_X9_wouldPay a σ = some (out, τ) ∧ ∃ r ρ, f_X10_wouldPay a τ = some (r, ρ) ∧ RR B ρ ∧ same2 out 1 2 r (ρ 198 12) := by
  obtain ⟨f, hf⟩ : ∃ f, f = σ 199 := ⟨_, rfl⟩
  have h : rep 0 σ f := by rw [hf]; exact R.1
  obtain ⟨n, m, ho⟩ : ok B f := by rw [hf]; exact R.2.1
  have hn := ho.1.1
  have hm := ho.2.1.1
  unfold f_X9_wouldPay f_X10_wouldPay
  rw [c_vask h ho]
  cases e : ix a m with
  | none =>
    dsimp only
    rw [xb_n]
    refine ⟨_, _, rfl, ?_⟩
    rw [lt_d, n_isV hm (by rw [thr199, ← hf]; exact ho.2.1.2), e, bnd_d]
    dsimp only
    rw [if_pos rfl, r_thr, bnm_d]
    exact ⟨_, _, rfl, (R.thr 0).thr 1, Or.inl ⟨rfl, thr12 _ _⟩⟩
  | some v =>
    obtain ⟨v1, rfl⟩ := ix_lt (by omega) e
    have ov := ho.2.2.2.2.1 v v1
    have hfv := hfI ho.2.1.2 hm v1
    obtain ⟨c, c1, c2⟩ := ov.1
    have G := fun k (hk : k < 8) => h.getV (v := v) (k := k) (by omega) hk hfv
    dsimp only
    rw [xb_d, oc_e, G 4 (by omega)]
    -- the reference, up to its search
    have ref : ∀ (τ : Mm) (P : Option (Int32 × Mm) → Prop), (∀ a, a ≠ 159 → a ≠ 160 → τ a = σ a) →
        (∀ ρ, RR B ρ → ρ 199 = f → ρ 198 12 = 0 → P (if (if f (46 + 8 * v + 4) = -1 then (0 : Int32) else 1) = 0 then (bnm (f_X10_throwing 2 ρ) fun q9 σ10 => some (q9, σ10)) else (if (if dX f c 15 < 1000 then I (dX f c 15) else -1) = (-1) then (bnm (f_X10_throwing 2 ρ) fun q13 σ14 => some (q13, σ14)) else (bnd (f_X10_pays (I v) (if 0 < ((f (46 + 8 * v + 2) + (if dX f c 15 < 1000 then I (dX f c 15) else -1)) - f (46 + 8 * v + 3)) then ((f (46 + 8 * v + 2) + (if dX f c 15 < 1000 then I (dX f c 15) else -1)) - f (46 + 8 * v + 3)) else 0) ρ) fun q12 => some (q12, ρ))))) →
        P (lt (up τ 198 12 0) fun σ1 => bnd (f_X10_isVisitor (I v) σ1) fun q2 => if q2 = 0 then (bnm (f_X10_throwing 1 σ1) fun q15 σ16 => some (q15, σ16)) else (bnd (f_X10_visitorAt (I v) σ1) fun q4 => gd (q4 + 1) 86 (bnm (f_X10_hoursOf (σ1 199 (q4 + 1).toNatClampNeg) 15 σ1) fun q5 σ6 => bnd (f_X10_lasts (I v) σ6) fun q7 => if q7 = 0 then (bnm (f_X10_throwing 2 σ6) fun q9 σ10 => some (q9, σ10)) else (if q5 = (-1) then (bnm (f_X10_throwing 2 σ6) fun q13 σ14 => some (q13, σ14)) else (gd (q4 + 2) 86 (gd (q4 + 3) 86 (bnd (f_X10_pays (I v) (if 0 < (((σ6 199 (q4 + 2).toNatClampNeg) + q5) - (σ6 199 (q4 + 3).toNatClampNeg)) then (((σ6 199 (q4 + 2).toNatClampNeg) + q5) - (σ6 199 (q4 + 3).toNatClampNeg)) else 0) σ6) fun q12 => some (q12, σ6)))))))) := by
      intro τ P ht k
      have e199 : (up τ 198 12 0) 199 = f := by rw [thr199, ht 199 (by omega) (by omega), hf]
      obtain ⟨τ1, t1, t2⟩ := r_hours (σ := up τ 198 12 0) (s := c) (v := 15) c1 (by omega)
      have t1 : f_X10_hoursOf (I c) 15 (up τ 198 12 0) = _ := t1
      rw [e199] at t1
      have z199 : τ1 199 = f := by rw [t2 199 (by omega), e199]
      have Rτ : RR B τ1 := R.same (fun a h1 h2 h3 h4 => by rw [t2 a h4, up_n _ _ _ h3, ht a h1 h2]) (fun k hk => by rw [t2 198 (by omega), up_e, upd_n _ _ hk, ht 198 (by omega) (by omega)])
      have z12 : τ1 198 12 = 0 := by rw [t2 198 (by omega), up_e, upd_e]
      rw [lt_d, n_isV hm (by rw [e199]; exact ho.2.1.2), e, bnd_d]
      dsimp only
      rw [if_neg one_ne, n_vAt, bnd_d, I_a1, I_a2, I_a3, gd_I (show 46 + 8 * v + 1 < 86 by omega) (by omega), I_clamp (show 46 + 8 * v + 1 < 2147483648 by omega), e199, c2, t1, bnm_d, n_lasts (σ := τ1) hn (by omega) (by rw [z199]; exact ov), bnd_d, gd_I (show 46 + 8 * v + 2 < 86 by omega) (by omega), gd_I (show 46 + 8 * v + 3 < 86 by omega) (by omega), I_clamp (show 46 + 8 * v + 2 < 2147483648 by omega), I_clamp (show 46 + 8 * v + 3 < 2147483648 by omega), z199]
      exact k τ1 Rτ z199 z12
    rcases ov.2.2.2 with ⟨b1, -⟩ | ⟨⟨g, g1, g2⟩, ⟨r, -, -, r3⟩, v01, w0⟩
    · rw [b1, m_findG h hn ho.1.2, ix_m1, bnd_d]
      dsimp only
      rw [oc_d, show ∀ x : Option ((Int32 ⊕ Nat) × Mm), (if σ (9 + v) 7 = 0 then x else x) = x from fun x => by by_cases q : σ (9 + v) 7 = 0 <;> simp [q]]
      refine ⟨_, _, rfl, ?_⟩
      refine ref σ (fun o => ∃ r ρ, o = some (r, ρ) ∧ RR B ρ ∧ same2 (Sum.inr 2) 1 2 r (ρ 198 12)) (fun _ _ _ => rfl) (fun ρ k1 k2 k3 => ?_)
      rw [if_pos b1, if_pos rfl, r_thr, bnm_d]
      exact ⟨_, _, rfl, k1.thr 2, Or.inr ⟨rfl, thr12 _ _⟩⟩
    · have nb1 : ¬ f (46 + 8 * v + 4) = -1 := by rw [g2]; exact nm1 (by omega)
      rw [g2, m_findG h hn ho.1.2, ix_I g1 (by omega), bnd_d]
      dsimp only
      rw [oc_e, G 7 (by omega), if_pos w0, G 1 (by omega), c2]
      obtain ⟨τ, t1, t2⟩ := c_hours h c1 (v := 15) (by omega)
      have t1 : f_X8_hoursByDistance (I c) 15 σ = _ := t1
      have hτ : rep 0 τ f := h.move (fun a _ z => t2 a (by omega) (by omega))
      rw [t1, bnm_d]
      unfold f_X9_demandWay
      rcases dX_lt f (s := c) (v := 15) c1 with q | q
      · rw [if_pos (show I (dX f c 15) < 1000 from (I_lt (b := 1000) (by omega) (by omega)).mpr (by omega)), xb_d]
        have due : f_X7_dueAfter (9 + v) (I (dX f c 15)) τ = some (if f (46 + 8 * v + 6) = 0 then f (46 + 8 * v + 5) * (if 0 < f (46 + 8 * v + 2) + I (dX f c 15) - f (46 + 8 * v + 3) then f (46 + 8 * v + 2) + I (dX f c 15) - f (46 + 8 * v + 3) else 0) else 0) := by
          unfold f_X7_dueAfter f_X7_lostAfter
          rw [hτ.getV (by omega) (by omega) hfv, hτ.getV (by omega) (by omega) hfv, hτ.getV (by omega) (by omega) hfv, hτ.getV (by omega) (by omega) hfv]
          by_cases z : f (46 + 8 * v + 6) = 0
          · rw [if_pos z, if_pos z, bnd_d]
          · rw [if_neg z, if_neg z]
        rw [due, bnd_d, show τ (4 + g) 0 = f (30 + 4 * g) from hτ.getG (k := 0) (by omega) (by omega)]
        refine ⟨_, _, rfl, ?_⟩
        refine ref τ (fun o => ∃ r ρ, o = some (r, ρ) ∧ RR B ρ ∧ same2 (Sum.inl _) 1 2 r (ρ 198 12)) t2 (fun ρ k1 k2 k3 => ?_)
        rw [if_neg nb1, if_neg one_ne, if_pos (show dX f c 15 < 1000 by omega), if_neg (nm1 (by omega)), n_paysL hn (by omega) (by rw [k2]; exact ov), bnd_d]
        refine ⟨_, ρ, rfl, k1, k3, ?_⟩
        rw [k2, if_neg nb1, g2, I_clamp (by omega)]
        obtain ⟨cc, dd, m1, m2, m3⟩ := ho.2.2.2.2.2.2.2
        rcases v01 with z | z
        · rw [z, if_neg zero_ne, if_pos rfl]
        · rw [z, if_pos rfl, if_neg one_ne, m1 g (by omega), if_neg (I_n0 (by have := S4_le (c := cc) (g := g) (by omega); omega))]
      · rw [q, if_neg (show ¬ I 1000 < 1000 by decide), xb_n]
        refine ⟨_, _, rfl, ?_⟩
        refine ref τ (fun o => ∃ r ρ, o = some (r, ρ) ∧ RR B ρ ∧ same2 (Sum.inr 2) 1 2 r (ρ 198 12)) t2 (fun ρ k1 k2 k3 => ?_)
        rw [if_neg nb1, if_neg one_ne, if_neg (show ¬ dX f c 15 < 1000 by omega), if_pos rfl, r_thr, bnm_d]
        exact ⟨_, _, rfl, k1.thr 2, Or.inr ⟨rfl, thr12 _ _⟩⟩
/-! orders -/
def aheadB (x : Int32) (v r : Nat) : Int32 := if 0 < x then 1 else if x = 0 then (if I v ≤ I r then 0 else 1) else 0
def findP (h : Nat → Int32) (x : Int32) : Nat → Nat → Option Nat
  | 0, _ => none
  | d + 1, i => if h i = x then some i else findP h x d (i + 1)
theorem m_ahead {σ : Mm} {f : Fm} {B n m v : Nat} (h : rep 0 σ f) (ho : okC B n m f) (hv : v < m) (w : Int32) : f_X6_visitorsAhead (I v) w σ = some (sm (fun r => aheadB (numV r w f - numV v w f) v r) m) := by
  have hm := ho.2.1.1
  have h4 : σ 0 4 = I m := (h.get0 (k := 1) (by omega)).trans ho.2.1.2
  unfold f_X6_visitorsAhead
  rw [m_findV h hm ho.2.1.2, ix_I hv (by omega), bnd_d]
  dsimp only
  rw [oc_e]
  have k := loopS (F := f_X6_visitorsAhead_l12b (9 + v) (I v) w σ) (K := fun x => some x) m hm (fun r => aheadB (numV r w f - numV v w f) v r) 0 (fun n x => by
      rw [f_X6_visitorsAhead_l12b, h4, if_pos ((I_le (by omega) (by omega)).mpr (Nat.le_refl _))]) (fun n r x hr => by
      rw [f_X6_visitorsAhead_l12b, h4, if_neg (nle hr (by omega)), gd_I (by omega) (by omega), I_clamp (by omega), show 8 + 1 + r = 9 + r by omega, m_num h ho hr, bnd_d, m_num h ho hv, bnd_d, lt_d, I_a1]
      unfold aheadB
      by_cases q : 0 < numV r w f - numV v w f
      · rw [if_pos q, if_pos q]; rfl
      · rw [if_neg q, if_neg q]
        by_cases q2 : numV r w f - numV v w f = 0
        · rw [if_pos q2, if_pos q2]
          by_cases q3 : I v ≤ I r
          · rw [if_pos q3, if_pos q3, Int32.add_zero]; rfl
          · rw [if_neg q3, if_neg q3]; rfl
        · rw [if_neg q2, if_neg q2, Int32.add_zero]; rfl)
  rw [k, Int32.zero_add]
theorem c_placed {σ : Mm} {f : Fm} {B n m : Nat} (h : rep 0 σ f) (ho : okC B n m f) (w x : Int32) : f_X9_visitorPlaced w x σ = some (match findP (fun v => sm (fun r => aheadB (numV r w f - numV v w f) v r) m) x m 0 with | none => .inr 2 | some k => .inl (I k), σ) := by
  have hm := ho.2.1.1
  have h4 : σ 0 4 = I m := (h.get0 (k := 1) (by omega)).trans ho.2.1.2
  unfold f_X9_visitorPlaced
  have main : ∀ d i F, i + d = m → d < F → f_X9_visitorPlaced_l2 w x σ F (I i) = some (match findP (fun v => sm (fun r => aheadB (numV r w f - numV v w f) v r) m) x d i with | none => .inr 2 | some k => .inl (I k), σ) := by
    intro d
    induction d with
    | zero =>
      intro i F hi hF
      obtain ⟨F, rfl⟩ : ∃ k, F = k + 1 := ⟨F - 1, by omega⟩
      rw [f_X9_visitorPlaced_l2, h4, if_pos ((I_le (by omega) (by omega)).mpr (by omega))]
      rfl
    | succ d ih =>
      intro i F hi hF
      obtain ⟨F, rfl⟩ : ∃ k, F = k + 1 := ⟨F - 1, by omega⟩
      rw [f_X9_visitorPlaced_l2, h4, if_neg (nle (by omega) (by omega)), m_ahead h ho (by omega), bnd_d, findP]
      by_cases q : sm (fun r => aheadB (numV r w f - numV i w f) i r) m = x
      · rw [if_pos q, if_pos q]
      · rw [if_neg q, if_neg q, I_a1, lt_d]
        exact ih (i + 1) F (by omega) (by omega)
  exact main m 0 8 (by omega) (by omega)
theorem n_meas {σ : Mm} {v : Nat} (hv : v < 5) {a w : Int32} (hw : (a = 0 ∧ w = 0) ∨ (a = 1 ∧ w = 2) ∨ (a = 2 ∧ w = 4) ∨ (a = 3 ∧ w = 6)) : f_X10_measured a (I v) σ = some (numV v w (σ 199)) := by
  unfold f_X10_measured
  rw [n_vAt, bnd_d, I_a2, I_a5, gd_I (show 46 + 8 * v < 86 by omega) (by omega), gd_I (show 46 + 8 * v + 2 < 86 by omega) (by omega), gd_I (show 46 + 8 * v + 5 < 86 by omega) (by omega), I_clamp (show 46 + 8 * v < 2147483648 by omega), I_clamp (show 46 + 8 * v + 2 < 2147483648 by omega), I_clamp (show 46 + 8 * v + 5 < 2147483648 by omega), n_lost hv, bnd_d]
  unfold numV
  rcases hw with ⟨rfl, rfl⟩ | ⟨rfl, rfl⟩ | ⟨rfl, rfl⟩ | ⟨rfl, rfl⟩ <;> rfl
theorem r_placed {σ : Mm} {B n m : Nat} (ho : okC B n m (σ 199)) {a w : Int32} (hw : (a = 0 ∧ w = 0) ∨ (a = 1 ∧ w = 2) ∨ (a = 2 ∧ w = 4) ∨ (a = 3 ∧ w = 6)) (x : Int32) : f_X10_ranked_l25 a x σ 8 0 = (match findP (fun v => sm (fun r => aheadB (numV r w (σ 199) - numV v w (σ 199)) v r) m) x m 0 with | none => some (-1, up σ 198 12 2) | some k => some (I k, σ)) := by
  have hm := ho.2.1.1
  have h1 := ho.2.1.2
  have inn : ∀ (K : Int32 → Int32 → Option (Int32 × Mm)) (i : Nat), i < m → f_X10_ranked_l41 K (I i) a x σ 8 0 0 = K (I m) (sm (fun r => aheadB (numV r w (σ 199) - numV i w (σ 199)) i r) m) := by
    intro K i hi
    have k := loopS (F := f_X10_ranked_l41 K (I i) a x σ) (K := fun y => K (I m) y) m hm (fun r => aheadB (numV r w (σ 199) - numV i w (σ 199)) i r) 0 (fun n y => by
      rw [f_X10_ranked_l41, h1, if_pos ((I_le (by omega) (by omega)).mpr (Nat.le_refl _))]) (fun n r y hr => by
      rw [f_X10_ranked_l41, h1, if_neg (nle hr (by omega)), n_meas (by omega) hw, bnd_d, n_meas (by omega) hw, bnd_d, lt_d, I_a1]
      unfold aheadB
      by_cases q : 0 < numV r w (σ 199) - numV i w (σ 199)
      · rw [if_pos q, if_pos q]; rfl
      · rw [if_neg q, if_neg q]
        by_cases q2 : numV r w (σ 199) - numV i w (σ 199) = 0
        · rw [if_pos q2, if_pos q2]
          by_cases q3 : I i ≤ I r
          · rw [if_pos q3, if_pos q3]; rfl
          · rw [if_neg q3, if_neg q3]; rfl
        · rw [if_neg q2, if_neg q2]; rfl)
    rw [k, Int32.zero_add]
  have main : ∀ d i F, i + d = m → d < F → f_X10_ranked_l25 a x σ F (I i) = (match findP (fun v => sm (fun r => aheadB (numV r w (σ 199) - numV v w (σ 199)) v r) m) x d i with | none => some (-1, up σ 198 12 2) | some k => some (I k, σ)) := by
    intro d
    induction d with
    | zero =>
      intro i F hi hF
      obtain ⟨F, rfl⟩ : ∃ k, F = k + 1 := ⟨F - 1, by omega⟩
      rw [f_X10_ranked_l25, h1, if_pos ((I_le (by omega) (by omega)).mpr (by omega))]
      rfl
    | succ d ih =>
      intro i F hi hF
      obtain ⟨F, rfl⟩ : ∃ k, F = k + 1 := ⟨F - 1, by omega⟩
      rw [f_X10_ranked_l25, h1, if_neg (nle (by omega) (by omega)), lt_d, inn _ i (by omega), findP]
      by_cases q : sm (fun r => aheadB (numV r w (σ 199) - numV i w (σ 199)) i r) m = x
      · rw [if_pos q, if_pos q]
      · rw [if_neg q, if_neg q, I_a1, lt_d]
        exact ih (i + 1) F (by omega) (by omega)
  exact main m 0 8 (by omega) (by omega)
theorem q_ranked {σ : Mm} {B : Nat} (R : RR B σ) (a x : Int32) : ∃ out τ, f_X9_ranked a x σ = some (out, τ) ∧ ∃ r ρ, f_X10_ranked a x τ = some (r, ρ) ∧ RR B ρ ∧ same2 out 3 2 r (ρ 198 12) := by
  obtain ⟨n, m, ho⟩ := R.2.1
  have hin : f_X10_in a.toInt64 0 3 (up σ 198 12 0) = some (match ix a 4 with | none => 0 | some _ => 1) := n_inN (by omega) (by omega) (show (3 : Int64).toInt = ((4 : Nat) : Int) - 1 by decide)
  have e199 : (up σ 198 12 0) 199 = σ 199 := thr199 _ _
  unfold f_X9_ranked f_X10_ranked
  have go : ∀ w, ((a = 0 ∧ w = 0) ∨ (a = 1 ∧ w = 2) ∨ (a = 2 ∧ w = 4) ∨ (a = 3 ∧ w = 6)) → ix a 4 ≠ none → ∃ out τ, (xb (f_X9_visitorPlaced w x σ) fun q2 σ3 => some (Sum.inl q2, σ3)) = some (out, τ) ∧ ∃ r ρ, (lt (up τ 198 12 0) fun σ1 => bnd (f_X10_in a.toInt64 0 3 σ1) fun q2 => if q2 = 0 then (bnm (f_X10_throwing 1 σ1) fun q32 σ33 => some (q32, σ33)) else (f_X10_ranked_l25 a x σ1 8 0)) = some (r, ρ) ∧ RR B ρ ∧ same2 out 3 2 r (ρ 198 12) := by
    intro w hw hi
    rw [c_placed R.1 ho]
    have hr := r_placed (σ := up σ 198 12 0) (m := m) (n := n) (B := B) (by rw [e199]; exact ho) hw x
    rw [e199] at hr
    cases e4 : ix a 4 with
    | none => exact absurd e4 hi
    | some z =>
      rw [e4] at hin
      cases e : findP (fun v => sm (fun r => aheadB (numV r w (σ 199) - numV v w (σ 199)) v r) m) x m 0 with
      | none =>
        rw [e] at hr
        refine ⟨_, _, rfl, ?_⟩
        rw [lt_d, hin, bnd_d]
        dsimp only
        rw [if_neg one_ne, hr]
        exact ⟨_, _, rfl, (R.thr 0).thr 2, Or.inr ⟨rfl, thr12 _ _⟩⟩
      | some k =>
        rw [e] at hr
        refine ⟨_, _, rfl, ?_⟩
        rw [lt_d, hin, bnd_d]
        dsimp only
        rw [if_neg one_ne, hr]
        exact ⟨_, _, rfl, R.thr 0, thr12 _ _, rfl⟩
  by_cases y0 : a = 0
  · rw [if_pos y0]; exact go 0 (Or.inl ⟨y0, rfl⟩) (by rw [y0]; decide)
  rw [if_neg y0]
  by_cases y1 : a = 1
  · rw [if_pos y1]; exact go 2 (Or.inr (Or.inl ⟨y1, rfl⟩)) (by rw [y1]; decide)
  rw [if_neg y1]
  by_cases y2 : a = 2
  · rw [if_pos y2]; exact go 4 (Or.inr (Or.inr (Or.inl ⟨y2, rfl⟩))) (by rw [y2]; decide)
  rw [if_neg y2]
  by_cases y3 : a = 3
  · rw [if_pos y3]; exact go 6 (Or.inr (Or.inr (Or.inr ⟨y3, rfl⟩))) (by rw [y3]; decide)
  rw [if_neg y3]
  refine ⟨_, _, rfl, ?_⟩
  have e4 : ix a 4 = none := by
    rcases ix_cases a (N := 4) (by omega) with ⟨k, k1, rfl, -⟩ | ⟨-, k⟩
    · rcases (show k = 0 ∨ k = 1 ∨ k = 2 ∨ k = 3 by omega) with rfl | rfl | rfl | rfl
      · exact absurd rfl y0
      · exact absurd rfl y1
      · exact absurd rfl y2
      · exact absurd rfl y3
    · exact k
  rw [lt_d, hin, e4, bnd_d]
  dsimp only
  rw [if_pos rfl, r_thr, bnm_d]
  exact ⟨_, _, rfl, (R.thr 0).thr 1, Or.inl ⟨rfl, thr12 _ _⟩⟩
end
section
/-! THE RICHEST, ACCOUNTS -/
def aheadG (f : Fm) (m g r : Nat) : Int32 := if f (30 + 4 * r) = f (30 + 4 * g) then aheadB (sm (debF (I g) f) m - sm (debF (I r) f) m) g r else if f (30 + 4 * r) ≤ f (30 + 4 * g) then 0 else 1
theorem m_richer {σ : Mm} {f : Fm} {B n m g r : Nat} (h : rep 0 σ f) (ho : okC B n m f) (hg : g < n) (hr : r < n) : f_X6_isRicher (I r) (I g) σ = some (aheadG f m g r) := by
  have hn := ho.1.1
  unfold f_X6_isRicher aheadG aheadB
  rw [m_findG h hn ho.1.2, ix_I hr (by omega), bnd_d]
  dsimp only
  rw [oc_e, m_findG h hn ho.1.2, ix_I hg (by omega), bnd_d]
  dsimp only
  rw [oc_e, m_debt h ho, m_debt h ho, bnd_d, bnd_d, lt_d, show σ (4 + r) 0 = f (30 + 4 * r) from h.getG (k := 0) (by omega) (by omega), show σ (4 + g) 0 = f (30 + 4 * g) from h.getG (k := 0) (by omega) (by omega)]
  by_cases q : f (30 + 4 * r) = f (30 + 4 * g)
  · rw [if_pos q, if_pos q]
    by_cases q1 : 0 < sm (debF (I g) f) m - sm (debF (I r) f) m
    · rw [if_pos q1, if_pos q1]
    · rw [if_neg q1, if_neg q1]
      by_cases q2 : sm (debF (I g) f) m - sm (debF (I r) f) m = 0
      · rw [if_pos q2, if_pos q2]
        by_cases q3 : I g ≤ I r
        · rw [if_pos q3, if_pos q3]
        · rw [if_neg q3, if_neg q3]
      · rw [if_neg q2, if_neg q2]
  · rw [if_neg q, if_neg q]
    by_cases q1 : f (30 + 4 * r) ≤ f (30 + 4 * g)
    · rw [if_pos q1, if_pos q1]
    · rw [if_neg q1, if_neg q1]
theorem aheadG01 (f : Fm) (m g r : Nat) : aheadG f m g r = 0 ∨ aheadG f m g r = 1 := by
  unfold aheadG aheadB
  repeat' split
  all_goals first | exact Or.inl rfl | exact Or.inr rfl
theorem m_gahead {σ : Mm} {f : Fm} {B n m g : Nat} (h : rep 0 σ f) (ho : okC B n m f) (hg : g < n) : f_X6_gardenersAhead (I g) σ = some (sm (aheadG f m g) n) := by
  have hn := ho.1.1
  have h3 : σ 0 3 = I n := (h.get0 (k := 0) (by omega)).trans ho.1.2
  unfold f_X6_gardenersAhead
  have k := loopS (F := f_X6_gardenersAhead_l4 (I g) σ) (K := fun x => some x) n (by omega) (aheadG f m g) 0 (fun n x => by
      rw [f_X6_gardenersAhead_l4, h3, if_pos ((I_le (by omega) (by omega)).mpr (Nat.le_refl _))]) (fun j r x hr => by
      rw [f_X6_gardenersAhead_l4, h3, if_neg (nle hr (by omega)), m_richer h ho hg hr, bnd_d, I_a1]
      rcases aheadG01 f m g r with q | q
      · rw [q, if_pos rfl, Int32.add_zero]; rfl
      · rw [q, if_neg one_ne]; rfl)
  rw [k, Int32.zero_add]
theorem c_rplaced {σ : Mm} {f : Fm} {B n m : Nat} (h : rep 0 σ f) (ho : okC B n m f) (x : Int32) : f_X9_richest x σ = some (match findP (fun g => sm (aheadG f m g) n) x n 0 with | none => .inr 2 | some k => .inl (I k), σ) := by
  have hn := ho.1.1
  have h3 : σ 0 3 = I n := (h.get0 (k := 0) (by omega)).trans ho.1.2
  unfold f_X9_richest
  have main : ∀ d i F, i + d = n → d < F → f_X9_richest_l2 x σ F (I i) = some (match findP (fun g => sm (aheadG f m g) n) x d i with | none => .inr 2 | some k => .inl (I k), σ) := by
    intro d
    induction d with
    | zero =>
      intro i F hi hF
      obtain ⟨F, rfl⟩ : ∃ k, F = k + 1 := ⟨F - 1, by omega⟩
      rw [f_X9_richest_l2, h3, if_pos ((I_le (by omega) (by omega)).mpr (by omega))]
      rfl
    | succ d ih =>
      intro i F hi hF
      obtain ⟨F, rfl⟩ : ∃ k, F = k + 1 := ⟨F - 1, by omega⟩
      rw [f_X9_richest_l2, h3, if_neg (nle (by omega) (by omega)), m_gahead h ho (by omega), bnd_d, findP]
      by_cases q : sm (aheadG f m i) n = x
      · rw [if_pos q, if_pos q]
      · rw [if_neg q, if_neg q, I_a1, lt_d]
        exact ih (i + 1) F (by omega) (by omega)
  exact main n 0 8 (by omega) (by omega)
theorem sub0 {a b : Nat} (ha : a < 1000000) (hb : b < 1000000) : (I a - I b = 0 ↔ a = b) ∧ (0 < I a - I b ↔ b < a) := by
  by_cases q : b ≤ a
  · rw [I_sub q]
    refine ⟨⟨fun z => ?_, fun z => ?_⟩, ?_⟩
    · have := (I_eq (a := a - b) (b := 0) (by omega) (by omega)).mp z; omega
    · rw [z, Nat.sub_self]; rfl
    · rw [I_pos (by omega)]; omega
  · refine ⟨⟨fun z => ?_, fun z => by omega⟩, ⟨fun z => absurd z (I_sub_neg (by omega) (by omega)), fun z => by omega⟩⟩
    exfalso
    have e : I a = I b := by
      have h : I a - I b + I b = 0 + I b := by rw [z]
      rw [Int32.zero_add] at h
      rw [← h]
      apply Int32.toBitVec_inj.mp
      show (I a).toBitVec = (I a).toBitVec - (I b).toBitVec + (I b).toBitVec
      exact (BitVec.sub_add_cancel _ _).symm
    have := (I_eq (by omega) (by omega)).mp e
    omega
theorem r_rplaced {σ : Mm} {B n m : Nat} (ho : okC B n m (σ 199)) (x : Int32) : f_X10_richest_l7 x σ 8 0 = (match findP (fun g => sm (aheadG (σ 199) m g) n) x n 0 with | none => some (-1, up σ 198 12 1) | some k => some (I k, σ)) := by
  have hn := ho.1.1
  have h1 := ho.1.2
  obtain ⟨cc, dd, m1, m2, m3⟩ := ho.2.2.2.2.2.2.2
  have mm := ho.2.1.1
  have cl : ∀ g, g < 4 → cc g < 1000000 := fun g hg => by have := S4_le (c := cc) hg; omega
  have inn : ∀ (K : Int32 → Int32 → Option (Int32 × Mm)) (i : Nat), i < n → f_X10_richest_l22 K (I i) x σ 8 0 0 = K (I n) (sm (aheadG (σ 199) m i) n) := by
    intro K i hi
    have k := loopS (F := f_X10_richest_l22 K (I i) x σ) (K := fun y => K (I n) y) n (by omega) (aheadG (σ 199) m i) 0 (fun n y => by
      rw [f_X10_richest_l22, h1, if_pos ((I_le (by omega) (by omega)).mpr (Nat.le_refl _))]) (fun j r y hr => by
      obtain ⟨s1, s2⟩ := sub0 (cl r (by omega)) (cl i (by omega))
      rw [f_X10_richest_l22, h1, if_neg (nle hr (by omega)), n_gAt, bnd_d, gd_I (show 30 + 4 * r < 86 by omega) (by omega), n_gAt, bnd_d, gd_I (show 30 + 4 * i < 86 by omega) (by omega), I_clamp (by omega), I_clamp (by omega), lt_d, r_owed ho (g := i) (by omega), r_owed ho (g := r) (by omega), bnd_d, bnd_d, lt_d, m1 r (by omega), m1 i (by omega), I_a1]
      unfold aheadG
      rw [m1 r (by omega), m1 i (by omega)]
      by_cases q : cc r = cc i
      · rw [if_pos (s1.mpr q), if_pos (show I (cc r) = I (cc i) by rw [q])]
        unfold aheadB
        by_cases q1 : 0 < sm (debF (I i) (σ 199)) m - sm (debF (I r) (σ 199)) m
        · rw [if_pos q1, if_pos q1]; rfl
        · rw [if_neg q1, if_neg q1]
          by_cases q2 : sm (debF (I i) (σ 199)) m - sm (debF (I r) (σ 199)) m = 0
          · rw [if_pos q2, if_pos q2]
            by_cases q3 : I i ≤ I r
            · rw [if_pos q3, if_pos q3]; rfl
            · rw [if_neg q3, if_neg q3]; rfl
          · rw [if_neg q2, if_neg q2]; rfl
      · rw [if_neg (fun z => q (s1.mp z)), if_neg (I_beq (by have := cl r (by omega); omega) (by have := cl i (by omega); omega) q)]
        by_cases q1 : cc i < cc r
        · rw [if_pos (s2.mpr q1), if_neg (fun z => by have := (I_le (by have := cl r (by omega); omega) (by have := cl i (by omega); omega)).mp z; omega)]; rfl
        · rw [if_neg (fun z => q1 (s2.mp z)), if_neg (fun z => q (s1.mp z)), if_pos ((I_le (by have := cl r (by omega); omega) (by have := cl i (by omega); omega)).mpr (by omega))]; rfl)
    rw [k, Int32.zero_add]
  have main : ∀ d i F, i + d = n → d < F → f_X10_richest_l7 x σ F (I i) = (match findP (fun g => sm (aheadG (σ 199) m g) n) x d i with | none => some (-1, up σ 198 12 1) | some k => some (I k, σ)) := by
    intro d
    induction d with
    | zero =>
      intro i F hi hF
      obtain ⟨F, rfl⟩ : ∃ k, F = k + 1 := ⟨F - 1, by omega⟩
      rw [f_X10_richest_l7, h1, if_pos ((I_le (by omega) (by omega)).mpr (by omega))]
      rfl
    | succ d ih =>
      intro i F hi hF
      obtain ⟨F, rfl⟩ : ∃ k, F = k + 1 := ⟨F - 1, by omega⟩
      rw [f_X10_richest_l7, h1, if_neg (nle (by omega) (by omega)), lt_d, inn _ i (by omega), findP]
      by_cases q : sm (aheadG (σ 199) m i) n = x
      · rw [if_pos q, if_pos q]
      · rw [if_neg q, if_neg q, I_a1, lt_d]
        exact ih (i + 1) F (by omega) (by omega)
  exact main n 0 8 (by omega) (by omega)
theorem q_richest {σ : Mm} {B : Nat} (e2 : Nat) (R : RR B σ) (x : Int32) : ∃ out τ, f_X9_richest x σ = some (out, τ) ∧ ∃ r ρ, f_X10_richest x τ = some (r, ρ) ∧ RR B ρ ∧ same2 out 2 e2 r (ρ 198 12) := by
  obtain ⟨n, m, ho⟩ := R.2.1
  have e199 : (up σ 198 12 0) 199 = σ 199 := thr199 _ _
  unfold f_X10_richest
  rw [c_rplaced R.1 ho]
  have hr := r_rplaced (σ := up σ 198 12 0) (m := m) (n := n) (B := B) (by rw [e199]; exact ho) x
  rw [e199] at hr
  cases e : findP (fun g => sm (aheadG (σ 199) m g) n) x n 0 with
  | none =>
    rw [e] at hr
    refine ⟨_, _, rfl, ?_⟩
    rw [lt_d, hr]
    exact ⟨_, _, rfl, (R.thr 0).thr 1, Or.inl ⟨rfl, thr12 _ _⟩⟩
  | some k =>
    rw [e] at hr
    refine ⟨_, _, rfl, ?_⟩
    rw [lt_d, hr]
    exact ⟨_, _, rfl, R.thr 0, thr12 _ _, rfl⟩
theorem sm_neg {f : Fm} (B n : Nat) : ∀ m, (∀ v, v < m → okV B n f v) → I m - sm (bonF (-1) f) m = sm (fun v => if f (46 + 8 * v + 4) = -1 then 0 else if (-1 : Int32) = -1 then 1 else bonF (-1) f v) m := by
  intro m
  induction m with
  | zero => intro _; show (I 0 - 0 : Int32) = 0; decide
  | succ m ih =>
    intro h
    rw [sm_S, sm_S, ← ih (fun v hv => h v (by omega)), ← I_a1]
    unfold bonF
    have ac : ∀ a b c d : Int32, a + b - (c + d) = a - c + (b - d) := fun a b c d => by
      apply Int32.toBitVec_inj.mp
      show a.toBitVec + b.toBitVec - (c.toBitVec + d.toBitVec) = a.toBitVec - c.toBitVec + (b.toBitVec - d.toBitVec)
      rw [BitVec.sub_eq_add_neg, BitVec.sub_eq_add_neg, BitVec.sub_eq_add_neg, BitVec.neg_add, BitVec.sub_eq_add_neg]
      ac_rfl
    rw [ac]
    by_cases q : f (46 + 8 * m + 4) = -1
    · rw [if_pos q, if_pos q]; rfl
    · rw [if_neg q, if_neg q, if_pos rfl]; rfl
theorem r_outs {σ : Mm} {B n m : Nat} (ho : okC B n m (σ 199)) : f_X10_outs σ = some (sm (fun v => σ 199 (46 + 8 * v + 7)) m) := by
  have hm := ho.2.1.1
  have h1 := ho.2.1.2
  unfold f_X10_outs
  have k := loopS (F := f_X10_outs_l4 σ) (K := fun x => some x) m hm (fun v => σ 199 (46 + 8 * v + 7)) 0 (fun n x => by
      rw [f_X10_outs_l4, h1, if_pos ((I_le (by omega) (by omega)).mpr (Nat.le_refl _))]) (fun n' v x hv => by
      rw [f_X10_outs_l4, h1, if_neg (nle hv (by omega)), n_vAt, bnd_d, I_a7, gd_I (show 46 + 8 * v + 7 < 86 by omega) (by omega), I_clamp (by omega), lt_d, lt_d, I_a1])
  rw [k, Int32.zero_add]
theorem r_voids {σ : Mm} {B n m : Nat} (ho : okC B n m (σ 199)) : f_X10_voids σ = some (sm (fun v => σ 199 (46 + 8 * v + 6)) m) := by
  have hm := ho.2.1.1
  have h1 := ho.2.1.2
  unfold f_X10_voids
  have k := loopS (F := f_X10_voids_l4 σ) (K := fun x => some x) m hm (fun v => σ 199 (46 + 8 * v + 6)) 0 (fun n x => by
      rw [f_X10_voids_l4, h1, if_pos ((I_le (by omega) (by omega)).mpr (Nat.le_refl _))]) (fun n' v x hv => by
      have ov := ho.2.2.2.2.1 v hv
      rw [f_X10_voids_l4, h1, if_neg (nle hv (by omega)), n_lasts ho.1.1 (by omega) ov, bnd_d, n_vAt, bnd_d, I_a6, gd_I (show 46 + 8 * v + 6 < 86 by omega) (by omega), I_clamp (by omega), lt_d, lt_d, lt_d, I_a1, lt_d]
      by_cases q : σ 199 (46 + 8 * v + 4) = -1
      · rw [if_pos q, if_pos rfl, (ov.void ho.1.1 q).2]
      · rw [if_neg q, if_neg one_ne])
  rw [k, Int32.zero_add]
theorem r_coins {σ : Mm} {B n m : Nat} (ho : okC B n m (σ 199)) : f_X10_coins σ = some (sm (fun g => σ 199 (30 + 4 * g)) n + sm (fun v => σ 199 (46 + 8 * v)) m) := by
  have hm := ho.2.1.1
  have h1 := ho.2.1.2
  have hn := ho.1.1
  have h0 := ho.1.2
  unfold f_X10_coins
  rw [lt_d]
  have k := loopS (F := f_X10_coins_l4 (fun v1 v2 => f_X10_coins_l34 σ 8 0 v2) σ) (K := fun x => f_X10_coins_l34 σ 8 0 x) n (by omega) (fun g => σ 199 (30 + 4 * g)) 0 (fun n x => by
      rw [f_X10_coins_l4, h0, if_pos ((I_le (by omega) (by omega)).mpr (Nat.le_refl _))]) (fun n' v x hv => by
      rw [f_X10_coins_l4, h0, if_neg (nle hv (by omega)), n_gAt, bnd_d, gd_I (show 30 + 4 * v < 86 by omega) (by omega), I_clamp (by omega), lt_d, lt_d, I_a1])
  rw [k, Int32.zero_add]
  exact loopS (F := f_X10_coins_l34 σ) (K := fun x => some x) m hm (fun v => σ 199 (46 + 8 * v)) _ (fun n x => by
      rw [f_X10_coins_l34, h1, if_pos ((I_le (by omega) (by omega)).mpr (Nat.le_refl _))]) (fun n' v x hv => by
      rw [f_X10_coins_l34, h1, if_neg (nle hv (by omega)), n_vAt, bnd_d, gd_I (show 46 + 8 * v < 86 by omega) (by omega), I_clamp (by omega), lt_d, lt_d, I_a1])
theorem m_coins {σ : Mm} {f : Fm} {B n m : Nat} (h : rep 0 σ f) (ho : okC B n m f) : f_X6_coinsOfAll σ = some (sm (fun v => f (46 + 8 * v)) m + sm (fun g => f (30 + 4 * g)) n) := by
  have hn := ho.1.1
  have h3 : σ 0 3 = I n := (h.get0 (k := 0) (by omega)).trans ho.1.2
  unfold f_X6_coinsOfAll
  rw [m_total h ho, bnd_d]
  exact loopS (F := f_X6_coinsOfAll_l8 σ) (K := fun x => some x) n (by omega) (fun g => f (30 + 4 * g)) _ (fun n x => by
      rw [f_X6_coinsOfAll_l8, h3, if_pos ((I_le (by omega) (by omega)).mpr (Nat.le_refl _))]) (fun n' v x hv => by
      rw [f_X6_coinsOfAll_l8, h3, if_neg (nle hv (by omega)), gd_I (show v < 4 by omega) (by omega), I_clamp (by omega), show 3 + 1 + v = 4 + v by omega, show σ (4 + v) 0 = f (30 + 4 * v) from h.getG (k := 0) (by omega) (by omega), lt_d, lt_d, I_a1])
theorem q_account {σ : Mm} {B : Nat} (e2 : Nat) (R : RR B σ) (w : Int32) : ∃ out τ, f_X9_account w σ = some (out, τ) ∧ ∃ r ρ, f_X10_account w τ = some (r, ρ) ∧ RR B ρ ∧ same2 out 3 e2 r (ρ 198 12) := by
  obtain ⟨n, m, ho⟩ := R.2.1
  obtain ⟨hn, f0⟩ := ho.1
  obtain ⟨hm, f1⟩ := ho.2.1
  have h := R.1
  have e199 : (up σ 198 12 0) 199 = σ 199 := thr199 _ _
  have e198 : ∀ k, k ≠ 12 → (up σ 198 12 0) 198 k = σ 198 k := fun k hk => by rw [up_e, upd_n _ _ hk]
  have ho2 : okC B n m ((up σ 198 12 0) 199) := by rw [e199]; exact ho
  have ro := r_outs ho2
  have rv := r_voids ho2
  have rl := r_lasting ho2 (-1)
  have rg := r_gaps (σ := up σ 198 12 0)
  have rc := r_coins ho2
  rw [e199] at ro rv rl rg rc
  unfold f_X9_account f_X10_account
  have g0 : ∀ k, k < 6 → σ 0 (3 + k) = σ 199 k := fun k hk => h.get0 hk
  have fin : ∀ x : Int32, ∃ r ρ, (some (x, up σ 198 12 0) : Option (Int32 × Mm)) = some (r, ρ) ∧ RR B ρ ∧ same2 (Sum.inl x) 3 e2 r (ρ 198 12) := fun x => ⟨_, _, rfl, R.thr 0, thr12 _ _, rfl⟩
  by_cases y : w = 0
  · rw [if_pos y, show σ 0 3 = σ 199 0 from g0 0 (by omega)]
    refine ⟨_, _, rfl, ?_⟩
    rw [lt_d, if_pos y, y, show ∀ x : Option (Int32 × Mm), gd 0 86 x = x from fun x => gd_I (n := 0) (by omega) (by omega), e199, show Int32.toNatClampNeg 0 = 0 from rfl]
    exact fin _
  rw [if_neg y]
  by_cases y1 : w = 1
  · rw [if_pos y1, show σ 0 4 = σ 199 1 from g0 1 (by omega)]
    refine ⟨_, _, rfl, ?_⟩
    rw [lt_d, if_neg y, if_pos y1, y1, show ∀ x : Option (Int32 × Mm), gd 1 86 x = x from fun x => gd_I (n := 1) (by omega) (by omega), e199, show Int32.toNatClampNeg 1 = 1 from rfl]
    exact fin _
  rw [if_neg y1]
  by_cases y2 : w = 2
  · rw [if_pos y2, m_total h ho, bnd_d]
    refine ⟨_, _, rfl, ?_⟩
    rw [lt_d, if_neg y, if_neg y1, if_pos y2, ro, bnd_d]
    exact fin _
  rw [if_neg y2]
  by_cases y3 : w = 3
  · unfold f_X6_bonds
    rw [if_pos y3, m_bonds h ho, bnd_d, bnd_d, show σ 0 4 = I m from (g0 1 (by omega)).trans f1, sm_neg B n m (fun v hv => ho.2.2.2.2.1 v hv)]
    refine ⟨_, _, rfl, ?_⟩
    rw [lt_d, if_neg y, if_neg y1, if_neg y2, if_pos y3, rl, bnd_d]
    exact fin _
  rw [if_neg y3]
  by_cases y4 : w = 4
  · rw [if_pos y4, m_total h ho, bnd_d]
    refine ⟨_, _, rfl, ?_⟩
    rw [lt_d, if_neg y, if_neg y1, if_neg y2, if_neg y3, if_pos y4, rv, bnd_d]
    exact fin _
  rw [if_neg y4]
  by_cases y5 : w = 5
  · rw [if_pos y5, c_gaps h, bnd_d]
    refine ⟨_, _, rfl, ?_⟩
    rw [lt_d, if_neg y, if_neg y1, if_neg y2, if_neg y3, if_neg y4, if_pos y5, rg, bnd_d]
    exact fin _
  rw [if_neg y5]
  by_cases y6 : w = 6
  · rw [if_pos y6, show σ 0 6 = σ 199 3 from g0 3 (by omega)]
    refine ⟨_, _, rfl, ?_⟩
    rw [lt_d, if_neg y, if_neg y1, if_neg y2, if_neg y3, if_neg y4, if_neg y5, if_pos y6, y6, show ((3 : Int32) + 6) - 6 = I 3 by decide, gd_I (by omega) (by omega), I_clamp (by omega), e199]
    exact fin _
  rw [if_neg y6]
  by_cases y7 : w = 7
  · rw [if_pos y7, show σ 0 7 = σ 199 4 from g0 4 (by omega)]
    refine ⟨_, _, rfl, ?_⟩
    rw [lt_d, if_neg y, if_neg y1, if_neg y2, if_neg y3, if_neg y4, if_neg y5, if_neg y6, if_pos y7, y7, show ((3 : Int32) + 7) - 6 = I 4 by decide, gd_I (by omega) (by omega), I_clamp (by omega), e199]
    exact fin _
  rw [if_neg y7]
  by_cases y8 : w = 8
  · rw [if_pos y8, show σ 0 8 = σ 199 5 from g0 5 (by omega)]
    refine ⟨_, _, rfl, ?_⟩
    rw [lt_d, if_neg y, if_neg y1, if_neg y2, if_neg y3, if_neg y4, if_neg y5, if_neg y6, if_neg y7, if_pos y8, y8, show ((3 : Int32) + 8) - 6 = I 5 by decide, gd_I (by omega) (by omega), I_clamp (by omega), e199]
    exact fin _
  rw [if_neg y8]
  by_cases y9 : w = 9
  · rw [if_pos y9, m_coins h ho, bnd_d]
    refine ⟨_, _, rfl, ?_⟩
    rw [lt_d, if_neg y, if_neg y1, if_neg y2, if_neg y3, if_neg y4, if_neg y5, if_neg y6, if_neg y7, if_neg y8, if_pos y9, rc, bnd_d, Int32.add_comm]
    exact fin _
  rw [if_neg y9]
  by_cases y10 : w = 10
  · obtain ⟨a, b, -, -, -, c1, c2, -⟩ := R.2.2.1
    rw [if_pos y10, c1]
    refine ⟨_, _, rfl, ?_⟩
    rw [lt_d, if_neg y, if_neg y1, if_neg y2, if_neg y3, if_neg y4, if_neg y5, if_neg y6, if_neg y7, if_neg y8, if_neg y9, if_pos y10, e198 5 (by omega), c2]
    exact fin _
  rw [if_neg y10]
  by_cases y11 : w = 11
  · obtain ⟨L, -, c1, c2, -⟩ := R.2.2.2.2.2.1
    rw [if_pos y11, c1]
    refine ⟨_, _, rfl, ?_⟩
    rw [lt_d, if_neg y, if_neg y1, if_neg y2, if_neg y3, if_neg y4, if_neg y5, if_neg y6, if_neg y7, if_neg y8, if_neg y9, if_neg y10, if_pos y11, e198 11 (by omega), c2]
    exact fin _
  rw [if_neg y11]
  refine ⟨_, _, rfl, ?_⟩
  rw [lt_d, if_neg y, if_neg y1, if_neg y2, if_neg y3, if_neg y4, if_neg y5, if_neg y6, if_neg y7, if_neg y8, if_neg y9, if_neg y10, if_neg y11, r_thr, bnm_d]
  exact ⟨_, _, rfl, (R.thr 0).thr 1, Or.inl ⟨rfl, thr12 _ _⟩⟩
end
section
/-! LINES: a text that grows, on both sides -/
abbrev Tx : Type := Nat × (Nat → Nat)
def nd (x : Nat) : Nat := if x < 10 then 1 else if x < 100 then 2 else if x < 1000 then 3 else if x < 10000 then 4 else if x < 100000 then 5 else 6
def tc (c : Nat) (p : Tx) : Tx := (p.1 + 1, fun j => if j = p.1 then c else p.2 j)
/-- i + 1 digits of x -/
def wrI (x i : Nat) (p : Tx) : Tx := (p.1 + i + 1, fun j => if p.1 ≤ j ∧ j < p.1 + i + 1 then 48 + x / 10 ^ (p.1 + i - j) % 10 else p.2 j)
def tn (x : Nat) (p : Tx) : Tx := wrI x (nd x - 1) p
theorem nd_le (x : Nat) : 1 ≤ nd x ∧ nd x ≤ 6 := by
  unfold nd
  repeat' split
  all_goals omega
theorem tn_1 (x : Nat) (p : Tx) : (tn x p).1 = p.1 + nd x := by
  have := nd_le x
  show p.1 + (nd x - 1) + 1 = p.1 + nd x
  omega
theorem tn_small {x : Nat} (h : x < 10) (p : Tx) : tn x p = tc (48 + x) p := by
  have e : nd x = 1 := by unfold nd; rw [if_pos h]
  unfold tn wrI tc
  rw [e]
  refine Prod.ext rfl (funext fun j => ?_)
  dsimp only
  by_cases q : j = p.1
  · subst q
    rw [if_pos (by omega), if_pos rfl, show p.1 + (1 - 1) - p.1 = 0 by omega, Nat.pow_zero, Nat.div_one, Nat.mod_eq_of_lt h]
  · rw [if_neg (by omega), if_neg q]
def BL (σ0 : Mm) (p : Tx) (σ : Mm) : Prop := σ 196 1 = 0 ∧ σ 196 3 = I p.1 ∧ p.1 ≤ 16 ∧ (∀ j, j < p.1 → p.2 j < 128 ∧ σ 197 j = I (p.2 j)) ∧ ∀ a, a ≠ 196 → a ≠ 197 → σ a = σ0 a
def RL (σ0 : Mm) (p : Tx) (σ : Mm) : Prop := σ 198 20 = I p.1 ∧ p.1 ≤ 30 ∧ (∀ j, j < p.1 → σ 206 j = I (p.2 j)) ∧ (∀ a, a ≠ 198 → a ≠ 206 → σ a = σ0 a) ∧ ∀ k, k ≠ 20 → σ 198 k = σ0 198 k
theorem cap_ok {σ : Mm} {k : Nat} (h : σ 196 1 = 0) (hk : k ≤ 16) : f_J5_ensureCapacityInternal_d00df (I k) σ = some () := by
  unfold f_J5_ensureCapacityInternal_d00df
  rw [h, lt_d, if_pos ((by decide +kernel : ∀ k, k < 17 → I k - ((16 : Int32) >>> ((0 : Int32) &&& 31)) ≤ 0) k (by omega))]
theorem lat_ok {σ : Mm} (h : σ 196 1 = 0) : f_J5_isLatin1_aae02 σ = some 1 := by
  unfold f_J5_isLatin1_aae02
  rw [if_pos h]
theorem nar_b {c : Nat} (h : c < 128) : vp_nar .byte (I c) = I c := (by decide +kernel : ∀ c, c < 128 → vp_nar .byte (I c) = I c) c h
theorem nar_b8 {c : Nat} (h : c < 128) : vp_nar .byte (I c).toInt8.toInt32 = I c := (by decide +kernel : ∀ c, c < 128 → vp_nar .byte (I c).toInt8.toInt32 = I c) c h
theorem c_chr {σ0 σ : Mm} {p : Tx} {c : Nat} (h : BL σ0 p σ) (hp : p.1 < 16) (hc : c < 128) : ∃ τ, f_J4_append_cf468 (I c) σ = some τ ∧ BL σ0 (tc c p) τ := by
  obtain ⟨h1, h3, hk, hs, hf⟩ := h
  unfold f_J4_append_cf468 f_J5_append_3fe6f f_J1_canEncode_fc78d
  rw [h3, I_a1, cap_ok h1 (by omega), bnd_d, lat_ok h1, bnd_d, if_neg one_ne, if_neg (show ¬ (255 : Int32) < I c from fun z => by have := (I_lt (a := 255) (by omega) (by omega)).mp z; omega), bnd_d, if_neg one_ne, lt_d, gd_I hp (by omega), I_clamp (by omega), nar_b8 hc, lt_d, bnd_d]
  refine ⟨_, rfl, by rw [up_n _ _ _ (by omega), up_e, upd_n _ _ (by omega)]; exact h1, by rw [up_n _ _ _ (by omega), up_e, upd_e]; rfl, by show p.1 + 1 ≤ 16; omega, fun j hj => ?_, fun a z1 z2 => by rw [up_n _ _ _ z2, up_n _ _ _ z1]; exact hf a z1 z2⟩
  have hj : j < p.1 + 1 := hj
  unfold tc
  dsimp only
  rw [up_e, up_n _ _ _ (show 197 ≠ 196 by omega)]
  by_cases e : j = p.1
  · subst e; rw [upd_e, if_pos rfl]; exact ⟨hc, rfl⟩
  · rw [upd_n _ _ e, if_neg e]; exact hs j (by omega)
theorem r_sgn {σ0 σ : Mm} {p : Tx} {c : Nat} (h : RL σ0 p σ) (hp : p.1 < 30) : ∃ τ, f_X10_sign (I c) σ = some τ ∧ RL σ0 (tc c p) τ := by
  obtain ⟨h3, hk, hs, hf, hg⟩ := h
  unfold f_X10_sign
  rw [h3, gd_I hp (by omega), I_clamp (by omega), lt_d, up_n _ _ _ (show 198 ≠ 206 by omega), h3, I_a1, lt_d]
  refine ⟨_, rfl, by rw [up_e, upd_e]; rfl, by show p.1 + 1 ≤ 30; omega, fun j hj => ?_, fun a z1 z2 => by rw [up_n _ _ _ z1, up_n _ _ _ z2]; exact hf a z1 z2, fun k hk => by rw [up_e, upd_n _ _ hk, up_n _ _ _ (by omega)]; exact hg k hk⟩
  have hj : j < p.1 + 1 := hj
  unfold tc
  dsimp only
  rw [up_n _ _ _ (show 206 ≠ 198 by omega), up_e]
  by_cases e : j = p.1
  · subst e; rw [upd_e, if_pos rfl]
  · rw [upd_n _ _ e, if_neg e]; exact hs j (by omega)
/-! numbers -/
theorem I_div {a b : Nat} (ha : a < 2147483648) (hb : b < 2147483648) (h0 : 0 < b) : I a / I b = I (a / b) := by
  have hq : a / b ≤ a := Nat.div_le_self a b
  rw [← Int32.toInt_inj, Int32.toInt_div, I_toInt ha, I_toInt hb, I_toInt (by omega), ← Int.ofNat_tdiv, Int.bmod_def]
  generalize a / b = q at hq
  omega
theorem neg_le {a b : Nat} (ha : a < 2147483648) (hb : b < 2147483648) : -I a ≤ -I b ↔ b ≤ a := by
  have e : ∀ {a : Nat}, a < 2147483648 → (-I a).toInt = -(a : Int) := fun {a} h => by
    rw [Int32.toInt_neg, I_toInt h, Int.bmod_def]
    omega
  rw [Int32.le_iff_toInt_le, e ha, e hb]
  omega
theorem neg_div {a b : Nat} (ha : a < 2147483648) (hb : b < 2147483648) (h0 : 0 < b) : (-I a) / I b = -I (a / b) := by
  have e : ∀ {a : Nat}, a < 2147483648 → (-I a).toInt = -(a : Int) := fun {a} h => by
    rw [Int32.toInt_neg, I_toInt h, Int.bmod_def]
    omega
  have hq : a / b ≤ a := Nat.div_le_self a b
  rw [← Int32.toInt_inj, Int32.toInt_div, e ha, I_toInt hb, e (by omega), Int.neg_tdiv, ← Int.ofNat_tdiv, Int.bmod_def]
  generalize a / b = q at hq
  omega
theorem neg_rest {a b : Nat} (h : a * 100 ≤ b) : (-I a) * 100 - (-I b) = I (b - a * 100) := by
  have e : (-I a) * 100 = -(I (a * 100)) := by
    rw [Int32.neg_mul, show I a * 100 = I (a * 100) from I_mul a 100]
  rw [e, Int32.sub_eq_add_neg, Int32.neg_neg, Int32.add_comm, ← Int32.sub_eq_add_neg, I_sub h]
theorem dec1 {e : Nat} (h : 1 ≤ e) : I e + (-1) = I (e - 1) := by
  rw [← Int32.sub_eq_add_neg]; exact I_sub (b := 1) h
theorem size_ok {x : Nat} (h : x < 1000000) (σ : Mm) : f_J6_stringSize_0f7a4 (I x) σ = some (I (nd x)) := by
  unfold f_J6_stringSize_0f7a4
  rw [if_neg (I_n0 (by omega)), lt_d]
  have l1 : (-10 : Int32) = -I 10 := rfl
  have l2 : (10 : Int32) * -I 10 = -I 100 := by decide
  have l3 : (10 : Int32) * -I 100 = -I 1000 := by decide
  have l4 : (10 : Int32) * -I 1000 = -I 10000 := by decide
  have l5 : (10 : Int32) * -I 10000 = -I 100000 := by decide
  have l6 : (10 : Int32) * -I 100000 = -I 1000000 := by decide
  have P : ∀ y, y < 2147483648 → y ≤ x → -I x ≤ -I y := fun y h1 h2 => (neg_le (by omega) h1).mpr h2
  have N : ∀ y, y < 2147483648 → x < y → ¬ -I x ≤ -I y := fun y h1 h2 z => by have := (neg_le (by omega) h1).mp z; omega
  unfold nd
  rw [l1, f_J6_stringSize_0f7a4_l16b, if_neg (show ¬ (10 : Int32) ≤ 1 by decide)]
  by_cases q1 : x < 10
  · rw [if_neg (N 10 (by omega) q1), if_pos q1]; rfl
  rw [if_pos (P 10 (by omega) (by omega)), if_neg q1, l2, lt_d, lt_d, f_J6_stringSize_0f7a4_l16b, if_neg (show ¬ (10 : Int32) ≤ 1 + 1 by decide)]
  by_cases q2 : x < 100
  · rw [if_neg (N 100 (by omega) q2), if_pos q2]; rfl
  rw [if_pos (P 100 (by omega) (by omega)), if_neg q2, l3, lt_d, lt_d, f_J6_stringSize_0f7a4_l16b, if_neg (show ¬ (10 : Int32) ≤ 1 + 1 + 1 by decide)]
  by_cases q3 : x < 1000
  · rw [if_neg (N 1000 (by omega) q3), if_pos q3]; rfl
  rw [if_pos (P 1000 (by omega) (by omega)), if_neg q3, l4, lt_d, lt_d, f_J6_stringSize_0f7a4_l16b, if_neg (show ¬ (10 : Int32) ≤ 1 + 1 + 1 + 1 by decide)]
  by_cases q4 : x < 10000
  · rw [if_neg (N 10000 (by omega) q4), if_pos q4]; rfl
  rw [if_pos (P 10000 (by omega) (by omega)), if_neg q4, l5, lt_d, lt_d, f_J6_stringSize_0f7a4_l16b, if_neg (show ¬ (10 : Int32) ≤ 1 + 1 + 1 + 1 + 1 by decide)]
  by_cases q5 : x < 100000
  · rw [if_neg (N 100000 (by omega) q5), if_pos q5]; rfl
  rw [if_pos (P 100000 (by omega) (by omega)), if_neg q5, l6, lt_d, lt_d, f_J6_stringSize_0f7a4_l16b, if_neg (show ¬ (10 : Int32) ≤ 1 + 1 + 1 + 1 + 1 + 1 by decide), if_neg (N 1000000 (by omega) h)]
  rfl
theorem tab_o {r : Nat} (h : r < 100) : vp_nar .byte (digO r) = I (48 + r % 10) := nar_b (c := 48 + r % 10) (by omega)
theorem tab_t {r : Nat} (h : r < 100) : vp_nar .byte (digT r) = I (48 + r / 10) := nar_b (c := 48 + r / 10) (by omega)
theorem chars_step {K : Int32 → Int32 → Mm → Option (Int32 × Mm)} {a1 : Int32} {n y e : Nat} {σ : Mm} (h1 : 100 ≤ y) (h2 : y < 1000000) (e1 : 2 ≤ e) (e2 : e ≤ 16) : f_J6_getChars_ba4f3_l22 K a1 (n + 1) (-I y) (I e) σ = f_J6_getChars_ba4f3_l22 K a1 n (-I (y / 100)) (I (e - 2)) (up (up σ 197 (e - 1) (I (48 + y % 100 % 10))) 197 (e - 2) (I (48 + y % 100 / 10))) := by
  have hx : (-I y) / 100 = -I (y / 100) := neg_div (b := 100) (by omega) (by omega) (by omega)
  have hr : (-I (y / 100)) * 100 - (-I y) = I (y % 100) := by
    rw [neg_rest (by omega)]; congr 1; omega
  rw [f_J6_getChars_ba4f3_l22, if_neg (show ¬ (-100 : Int32) < -I y from fun z => Int32.not_lt.mpr ((neg_le (b := 100) (by omega) (by omega)).mpr h1) z), hx, lt_d, hr, lt_d, dec1 (by omega), lt_d, gd_I (show y % 100 < 100 by omega) (by omega), gd_I (show e - 1 < 16 by omega) (by omega), I_clamp (show e - 1 < 2147483648 by omega), I_clamp (show y % 100 < 2147483648 by omega), lt_d, dec1 (by omega), lt_d, gd_I (show y % 100 < 100 by omega) (by omega), gd_I (show e - 1 - 1 < 16 by omega) (by omega), I_clamp (by omega), lt_d, tab_o (by omega), tab_t (by omega), show e - 1 - 1 = e - 2 by omega]
theorem chars_stop {K : Int32 → Int32 → Mm → Option (Int32 × Mm)} {a1 : Int32} {n y e : Nat} {σ : Mm} (h1 : y < 100) : f_J6_getChars_ba4f3_l22 K a1 (n + 1) (-I y) (I e) σ = K (-I y) (I e) σ := by
  rw [f_J6_getChars_ba4f3_l22, if_pos]
  exact Int32.not_le.mp (fun z => by have := (neg_le (b := 100) (by omega) (by omega)).mp z; omega)
/-- the last one or two digits -/
def lastD (y e : Nat) (σ : Mm) : Mm := if y < 10 then up σ 197 (e - 1) (I (48 + y % 10)) else up (up σ 197 (e - 1) (I (48 + y % 10))) 197 (e - 2) (I (48 + y / 10))
theorem chars_ok {x e : Nat} {σ : Mm} (hx : x < 1000000) (he : nd x ≤ e) (he2 : e ≤ 16) : ∃ z τ, f_J6_getChars_ba4f3 (I x) (I e) σ = some (z, τ) ∧ (∀ a, a ≠ 197 → τ a = σ a) ∧ ∀ j, τ 197 j = if e - nd x ≤ j ∧ j < e then I (48 + x / 10 ^ (e - 1 - j) % 10) else σ 197 j := by
  unfold f_J6_getChars_ba4f3
  rw [if_pos (Int32.not_lt.mp (I_n0 (by omega))), lt_d, lt_d]
  obtain ⟨K, hK⟩ : ∃ K : Int32 → Int32 → Mm → Option (Int32 × Mm), K = (fun v3 v4 σ5 => lt (v4 + (-1)) fun x7 => gd (-v3) 100 (gd x7 16 (lt (up σ5 197 x7.toNatClampNeg (vp_nar .byte (digO (-v3).toNatClampNeg))) fun σ8 => if (-9) ≤ v3 then (some (x7, σ8)) else (lt (x7 + (-1)) fun x10 => gd (-v3) 100 (gd x10 16 (lt (up σ8 197 x10.toNatClampNeg (vp_nar .byte (digT (-v3).toNatClampNeg))) fun σ11 => some (x10, σ11))))))) := ⟨_, rfl⟩
  rw [← hK]
  have kf : ∀ (y e : Nat) (σ : Mm), y < 100 → (if y < 10 then 1 else 2) ≤ e → e ≤ 16 → ∃ z, K (-I y) (I e) σ = some (z, lastD y e σ) := by
    intro y e σ h1 h2 h3
    have h4 : 1 ≤ e := by split at h2 <;> omega
    rw [hK]
    dsimp only
    rw [dec1 h4, lt_d, Int32.neg_neg, gd_I h1 (by omega), gd_I (show e - 1 < 16 by omega) (by omega), I_clamp (by omega), I_clamp (by omega), lt_d, tab_o h1]
    unfold lastD
    by_cases q : y < 10
    · rw [if_pos (show (-9 : Int32) ≤ -I y from (neg_le (a := 9) (by omega) (by omega)).mpr (by omega)), if_pos q]
      exact ⟨_, rfl⟩
    · rw [if_neg q] at h2
      rw [if_neg (show ¬ (-9 : Int32) ≤ -I y from fun z => by have := (neg_le (a := 9) (by omega) (by omega)).mp z; omega), if_neg q, dec1 (by omega), lt_d, gd_I h1 (by omega), gd_I (show e - 1 - 1 < 16 by omega) (by omega), I_clamp (by omega), lt_d, tab_t h1, show e - 1 - 1 = e - 2 by omega]
      exact ⟨_, rfl⟩
  by_cases c1 : x < 100
  · obtain ⟨z, hz⟩ := kf x e σ c1 (by unfold nd at he; split <;> (split at he <;> omega)) he2
    rw [chars_stop c1, hz]
    refine ⟨z, _, rfl, fun a ha => by unfold lastD; split <;> simp only [up_n _ _ _ ha], fun j => ?_⟩
    unfold lastD
    by_cases q : x < 10
    · have en : nd x = 1 := by unfold nd; rw [if_pos q]
      rw [if_pos q, up_e, en]
      by_cases w : j = e - 1
      · subst w; rw [upd_e, if_pos (by omega), show e - 1 - (e - 1) = 0 by omega, Nat.pow_zero, Nat.div_one]
      · rw [upd_n _ _ w, if_neg (by omega)]
    · have en : nd x = 2 := by unfold nd; rw [if_neg q, if_pos c1]
      rw [en] at he
      rw [if_neg q, up_e, up_e, en]
      by_cases w2 : j = e - 2
      · subst w2; rw [upd_e, if_pos (by omega), show e - 1 - (e - 2) = 1 by omega, Nat.pow_one]; congr 2; omega
      · rw [upd_n _ _ w2]
        by_cases w : j = e - 1
        · subst w; rw [upd_e, if_pos (by omega), show e - 1 - (e - 1) = 0 by omega, Nat.pow_zero, Nat.div_one]
        · rw [upd_n _ _ w, if_neg (by omega)]
  by_cases c2 : x < 10000
  · have e3 : (if x / 100 < 10 then 1 else 2) ≤ e - 2 := by
      unfold nd at he
      rw [if_neg (by omega), if_neg c1] at he
      split <;> (split at he <;> omega)
    have e2 : 3 ≤ e := by split at e3 <;> omega
    obtain ⟨z, hz⟩ := kf (x / 100) (e - 2) (up (up σ 197 (e - 1) (I (48 + x % 100 % 10))) 197 (e - 2) (I (48 + x % 100 / 10))) (by omega) e3 (by omega)
    rw [chars_step (by omega) hx (by omega) he2, chars_stop (by omega), hz]
    refine ⟨z, _, rfl, fun a ha => by unfold lastD; split <;> simp only [up_n _ _ _ ha], fun j => ?_⟩
    unfold lastD
    by_cases q : x / 100 < 10
    · have en : nd x = 3 := by unfold nd; rw [if_neg (by omega), if_neg c1, if_pos (by omega)]
      rw [if_pos q, up_e, up_e, up_e, en]
      by_cases w3 : j = e - 2 - 1
      · subst w3; rw [upd_e, if_pos (by omega), show e - 1 - (e - 2 - 1) = 2 by omega]
      · rw [upd_n _ _ w3]
        by_cases w2 : j = e - 2
        · subst w2; rw [upd_e, if_pos (by omega), show e - 1 - (e - 2) = 1 by omega, Nat.pow_one]; congr 2; omega
        · rw [upd_n _ _ w2]
          by_cases w : j = e - 1
          · subst w; rw [upd_e, if_pos (by omega), show e - 1 - (e - 1) = 0 by omega, Nat.pow_zero, Nat.div_one]; congr 2; omega
          · rw [upd_n _ _ w, if_neg (by omega)]
    · have en : nd x = 4 := by unfold nd; rw [if_neg (by omega), if_neg c1, if_neg (by omega), if_pos c2]
      rw [en] at he
      rw [if_neg q, up_e, up_e, up_e, up_e, en]
      by_cases w4 : j = e - 2 - 2
      · subst w4; rw [upd_e, if_pos (by omega), show e - 1 - (e - 2 - 2) = 3 by omega]; congr 2; show x / 100 / 10 = x / 1000 % 10; omega
      · rw [upd_n _ _ w4]
        by_cases w3 : j = e - 2 - 1
        · subst w3; rw [upd_e, if_pos (by omega), show e - 1 - (e - 2 - 1) = 2 by omega]
        · rw [upd_n _ _ w3]
          by_cases w2 : j = e - 2
          · subst w2; rw [upd_e, if_pos (by omega), show e - 1 - (e - 2) = 1 by omega, Nat.pow_one]; congr 2; omega
          · rw [upd_n _ _ w2]
            by_cases w : j = e - 1
            · subst w; rw [upd_e, if_pos (by omega), show e - 1 - (e - 1) = 0 by omega, Nat.pow_zero, Nat.div_one]; congr 2; omega
            · rw [upd_n _ _ w, if_neg (by omega)]
  · have e3 : (if x / 100 / 100 < 10 then 1 else 2) ≤ e - 2 - 2 := by
      unfold nd at he
      rw [if_neg (by omega), if_neg c1, if_neg (by omega), if_neg c2] at he
      split <;> (split at he <;> omega)
    have e2 : 5 ≤ e := by split at e3 <;> omega
    obtain ⟨z, hz⟩ := kf (x / 100 / 100) (e - 2 - 2) (up (up (up (up σ 197 (e - 1) (I (48 + x % 100 % 10))) 197 (e - 2) (I (48 + x % 100 / 10))) 197 (e - 2 - 1) (I (48 + x / 100 % 100 % 10))) 197 (e - 2 - 2) (I (48 + x / 100 % 100 / 10))) (by omega) e3 (by omega)
    rw [chars_step (by omega) hx (by omega) he2, chars_step (by omega) (by omega) (by omega) (by omega), chars_stop (by omega), hz]
    refine ⟨z, _, rfl, fun a ha => by unfold lastD; split <;> simp only [up_n _ _ _ ha], fun j => ?_⟩
    unfold lastD
    have low : ∀ g : Nat → Int32, (∀ j, g j = σ 197 j) → ∀ N, 4 ≤ N → N ≤ e → (j = e - 2 - 2 ∨ j = e - 2 - 1 ∨ j = e - 2 ∨ j = e - 1 ∨ e ≤ j ∨ j < e - N) → upd (upd (upd (upd g (e - 1) (I (48 + x % 100 % 10))) (e - 2) (I (48 + x % 100 / 10))) (e - 2 - 1) (I (48 + x / 100 % 100 % 10))) (e - 2 - 2) (I (48 + x / 100 % 100 / 10)) j = if e - N ≤ j ∧ j < e then I (48 + x / 10 ^ (e - 1 - j) % 10) else σ 197 j := by
      intro g hg N hN hN2 hj
      by_cases w4 : j = e - 2 - 2
      · subst w4; rw [upd_e, if_pos (by omega), show e - 1 - (e - 2 - 2) = 3 by omega]; congr 2; show x / 100 % 100 / 10 = x / 1000 % 10; omega
      · rw [upd_n _ _ w4]
        by_cases w3 : j = e - 2 - 1
        · subst w3; rw [upd_e, if_pos (by omega), show e - 1 - (e - 2 - 1) = 2 by omega]; congr 2; show x / 100 % 100 % 10 = x / 100 % 10; omega
        · rw [upd_n _ _ w3]
          by_cases w2 : j = e - 2
          · subst w2; rw [upd_e, if_pos (by omega), show e - 1 - (e - 2) = 1 by omega, Nat.pow_one]; congr 2; omega
          · rw [upd_n _ _ w2]
            by_cases w : j = e - 1
            · subst w; rw [upd_e, if_pos (by omega), show e - 1 - (e - 1) = 0 by omega, Nat.pow_zero, Nat.div_one]; congr 2; omega
            · rw [upd_n _ _ w, if_neg (by omega), hg]
    by_cases q : x / 100 / 100 < 10
    · have en : nd x = 5 := by unfold nd; rw [if_neg (by omega), if_neg c1, if_neg (by omega), if_neg c2, if_pos (by omega)]
      rw [if_pos q, up_e, up_e, up_e, up_e, up_e, en]
      by_cases w5 : j = e - 2 - 2 - 1
      · subst w5; rw [upd_e, if_pos (by omega), show e - 1 - (e - 2 - 2 - 1) = 4 by omega]; congr 2; show x / 100 / 100 % 10 = x / 10000 % 10; omega
      · rw [upd_n _ _ w5]
        exact low (σ 197) (fun _ => rfl) 5 (by omega) (by omega) (by omega)
    · have en : nd x = 6 := by unfold nd; rw [if_neg (by omega), if_neg c1, if_neg (by omega), if_neg c2, if_neg (by omega)]
      rw [en] at he
      rw [if_neg q, up_e, up_e, up_e, up_e, up_e, up_e, en]
      by_cases w6 : j = e - 2 - 2 - 2
      · subst w6; rw [upd_e, if_pos (by omega), show e - 1 - (e - 2 - 2 - 2) = 5 by omega]; congr 2; show x / 100 / 100 / 10 = x / 100000 % 10; omega
      · rw [upd_n _ _ w6]
        by_cases w5 : j = e - 2 - 2 - 1
        · subst w5; rw [upd_e, if_pos (by omega), show e - 1 - (e - 2 - 2 - 1) = 4 by omega]; congr 2; show x / 100 / 100 % 10 = x / 10000 % 10; omega
        · rw [upd_n _ _ w5]
          exact low (σ 197) (fun _ => rfl) 6 (by omega) (by omega) (by omega)
theorem c_num {σ0 σ : Mm} {p : Tx} {x : Nat} (h : BL σ0 p σ) (hp : p.1 + nd x ≤ 16) (hx : x < 1000000) : ∃ τ, f_J4_append_bf812 (I x) σ = some τ ∧ BL σ0 (tn x p) τ := by
  obtain ⟨h1, h3, hk, hs, hf⟩ := h
  have hd := nd_le x
  unfold f_J4_append_bf812 f_J5_append_c97b9
  obtain ⟨z, τ, t1, t2, t3⟩ := chars_ok (σ := σ) hx (show nd x ≤ p.1 + nd x by omega) hp
  rw [h3, lt_d, size_ok hx, bnd_d, I_add, lt_d, cap_ok h1 hp, bnd_d, lat_ok h1, bnd_d, if_neg one_ne, t1, bnm_d, lt_d, bnd_d]
  refine ⟨_, rfl, by rw [up_e, upd_n _ _ (by omega), t2 196 (by omega)]; exact h1, by rw [up_e, upd_e, tn_1], by rw [tn_1]; exact hp, fun j hj => ?_, fun a z1 z2 => by rw [up_n _ _ _ z1, t2 a z2]; exact hf a z1 z2⟩
  rw [tn_1] at hj
  rw [up_n _ _ _ (show 197 ≠ 196 by omega), t3 j]
  unfold tn wrI
  dsimp only
  rw [show p.1 + nd x - nd x = p.1 by omega, show p.1 + (nd x - 1) + 1 = p.1 + nd x by omega, show p.1 + nd x - 1 - j = p.1 + (nd x - 1) - j by omega]
  by_cases q : p.1 ≤ j ∧ j < p.1 + nd x
  · rw [if_pos q, if_pos q]
    refine ⟨?_, rfl⟩
    have := Nat.mod_lt (x / 10 ^ (p.1 + (nd x - 1) - j)) (show 0 < 10 by omega)
    omega
  · rw [if_neg q, if_neg q]; exact hs j (by omega)
theorem pw {i : Nat} (h : i ≤ 5) : 10 ^ i ≤ 100000 ∧ 0 < 10 ^ i := by
  rcases (show i = 0 ∨ i = 1 ∨ i = 2 ∨ i = 3 ∨ i = 4 ∨ i = 5 by omega) with rfl | rfl | rfl | rfl | rfl | rfl <;> decide
theorem r_digs {σ0 : Mm} {x : Nat} (hx : x < 1000000) (v1 : Int32) : ∀ (i n : Nat) (p : Tx) (σ : Mm), i ≤ 5 → i + 1 < n → RL σ0 p σ → p.1 + i < 30 → ∃ τ, f_X10_writesNumber_l20 v1 (I x) n (I (10 ^ i)) σ = some τ ∧ RL σ0 (wrI x i p) τ := by
  intro i
  induction i with
  | zero =>
    intro n p σ hi hn h hp
    obtain ⟨n, rfl⟩ : ∃ m, n = m + 2 := ⟨n - 2, by omega⟩
    have hv : I x / I 1 = I x := by rw [I_div (by omega) (by omega) (by omega), Nat.div_one]
    have hm : I x - I x / 10 * 10 = I (x % 10) := by
      rw [show I x / 10 = I (x / 10) from I_div (b := 10) (by omega) (by omega) (by omega), show I (x / 10) * 10 = I (x / 10 * 10) from I_mul _ 10, I_sub (by omega)]
      congr 1; omega
    obtain ⟨τ, t1, t2⟩ := r_sgn (c := 48 + x % 10) h (by omega)
    refine ⟨τ, ?_, ?_⟩
    · rw [show (10 : Nat) ^ 0 = 1 from rfl, f_X10_writesNumber_l20, if_neg (show ¬ I 1 ≤ 0 by decide)]
      unfold nz
      rw [if_neg (show ¬ I 1 = 0 by decide), hv, hm, show (48 : Int32) + I (x % 10) = I (48 + x % 10) from I_add 48 _, t1, bnd_d, show I 1 / 10 = (0 : Int32) by decide, lt_d, f_X10_writesNumber_l20, if_pos (by decide)]
    · have e : wrI x 0 p = tc (48 + x % 10) p := by
        unfold wrI tc
        refine Prod.ext rfl (funext fun j => ?_)
        dsimp only
        by_cases q : j = p.1
        · subst q; rw [if_pos (by omega), if_pos rfl, show p.1 + 0 - p.1 = 0 by omega, Nat.pow_zero, Nat.div_one]
        · rw [if_neg (by omega), if_neg q]
      rw [e]; exact t2
  | succ i ih =>
    intro n p σ hi hn h hp
    obtain ⟨n, rfl⟩ : ∃ m, n = m + 1 := ⟨n - 1, by omega⟩
    obtain ⟨w1, w2⟩ := pw hi
    have hv : I x / I (10 ^ (i + 1)) = I (x / 10 ^ (i + 1)) := I_div (by omega) (by omega) w2
    have hq : x / 10 ^ (i + 1) ≤ x := Nat.div_le_self _ _
    have hm : I (x / 10 ^ (i + 1)) - I (x / 10 ^ (i + 1)) / 10 * 10 = I (x / 10 ^ (i + 1) % 10) := by
      rw [show I (x / 10 ^ (i + 1)) / 10 = I (x / 10 ^ (i + 1) / 10) from I_div (b := 10) (by omega) (by omega) (by omega), show I (x / 10 ^ (i + 1) / 10) * 10 = I (x / 10 ^ (i + 1) / 10 * 10) from I_mul _ 10, I_sub (by omega)]
      congr 1; omega
    obtain ⟨τ1, t1, t2⟩ := r_sgn (c := 48 + x / 10 ^ (i + 1) % 10) h (by omega)
    obtain ⟨τ, u1, u2⟩ := ih n (tc (48 + x / 10 ^ (i + 1) % 10) p) τ1 (by omega) (by omega) t2 (by show p.1 + 1 + i < 30; omega)
    refine ⟨τ, ?_, ?_⟩
    · rw [f_X10_writesNumber_l20, if_neg (fun z => by have := (I_le (b := 0) (by omega) (by omega)).mp z; omega)]
      unfold nz
      rw [if_neg (show ¬ I (10 ^ (i + 1)) = 0 from I_beq (b := 0) (by omega) (by omega) (by omega)), hv, hm, show (48 : Int32) + I (x / 10 ^ (i + 1) % 10) = I (48 + x / 10 ^ (i + 1) % 10) from I_add 48 _, t1, bnd_d, show I (10 ^ (i + 1)) / 10 = I (10 ^ i) from (I_div (b := 10) (by omega) (by omega) (by omega)).trans (by rw [Nat.pow_succ, Nat.mul_div_cancel _ (by omega)]), lt_d]
      exact u1
    · have e : wrI x (i + 1) p = wrI x i (tc (48 + x / 10 ^ (i + 1) % 10) p) := by
        unfold wrI tc
        refine Prod.ext (by dsimp only; omega) (funext fun j => ?_)
        dsimp only
        by_cases q : p.1 + 1 ≤ j ∧ j < p.1 + 1 + i + 1
        · rw [if_pos q, if_pos (by omega), show p.1 + 1 + i - j = p.1 + (i + 1) - j by omega]
        · rw [if_neg q]
          by_cases q2 : j = p.1
          · subst q2; rw [if_pos (by omega), if_pos rfl, show p.1 + (i + 1) - p.1 = i + 1 by omega]
          · rw [if_neg (by omega), if_neg q2]
      rw [e]; exact u2
theorem r_num {σ0 σ : Mm} {p : Tx} {x : Nat} (h : RL σ0 p σ) (hp : p.1 + nd x ≤ 30) (hx : x < 1000000) : ∃ τ, f_X10_writesNumber (I x) σ = some τ ∧ RL σ0 (tn x p) τ := by
  have hd := nd_le x
  unfold f_X10_writesNumber tn
  rw [lt_d]
  obtain ⟨K, hK⟩ : ∃ K : Int32 → Option Mm, K = (fun v1 => f_X10_writesNumber_l20 v1 (I x) 12 v1 σ) := ⟨_, rfl⟩
  rw [← hK]
  have step : ∀ (i n : Nat), i ≤ 4 → 9 < x / 10 ^ i → f_X10_writesNumber_l2 K (I x) σ (n + 1) (I (10 ^ i)) = f_X10_writesNumber_l2 K (I x) σ n (I (10 ^ (i + 1))) := fun i n hi hq => by
    obtain ⟨w1, w2⟩ := pw (show i ≤ 5 by omega)
    have : x / 10 ^ i ≤ x := Nat.div_le_self _ _
    rw [f_X10_writesNumber_l2]
    unfold nz
    rw [if_neg (show ¬ I (10 ^ i) = 0 from I_beq (b := 0) (by omega) (by omega) (by omega)), I_div (by omega) (by omega) w2, if_neg (show ¬ I (x / 10 ^ i) ≤ 9 from fun z => by have := (I_le (b := 9) (by omega) (by omega)).mp z; omega), show I (10 ^ i) * 10 = I (10 ^ i * 10) from I_mul _ 10, lt_d, Nat.pow_succ]
  have stop : ∀ (i n : Nat), i ≤ 5 → x / 10 ^ i ≤ 9 → f_X10_writesNumber_l2 K (I x) σ (n + 1) (I (10 ^ i)) = K (I (10 ^ i)) := fun i n hi hq => by
    obtain ⟨w1, w2⟩ := pw hi
    rw [f_X10_writesNumber_l2]
    unfold nz
    rw [if_neg (show ¬ I (10 ^ i) = 0 from I_beq (b := 0) (by omega) (by omega) (by omega)), I_div (by omega) (by omega) w2, if_pos (show I (x / 10 ^ i) ≤ 9 from (I_le (b := 9) (by omega) (by omega)).mpr hq)]
  have main : f_X10_writesNumber_l2 K (I x) σ 12 1 = K (I (10 ^ (nd x - 1))) := by
    show f_X10_writesNumber_l2 K (I x) σ 12 (I (10 ^ 0)) = K (I (10 ^ (nd x - 1)))
    unfold nd
    by_cases q1 : x < 10
    · rw [stop 0 11 (by omega) (by show x / 1 ≤ 9; omega), if_pos q1]
    rw [step 0 11 (by omega) (by show 9 < x / 1; omega), if_neg q1]
    by_cases q2 : x < 100
    · rw [stop 1 10 (by omega) (by show x / 10 ≤ 9; omega), if_pos q2]
    rw [step 1 10 (by omega) (by show 9 < x / 10; omega), if_neg q2]
    by_cases q3 : x < 1000
    · rw [stop 2 9 (by omega) (by show x / 100 ≤ 9; omega), if_pos q3]
    rw [step 2 9 (by omega) (by show 9 < x / 100; omega), if_neg q3]
    by_cases q4 : x < 10000
    · rw [stop 3 8 (by omega) (by show x / 1000 ≤ 9; omega), if_pos q4]
    rw [step 3 8 (by omega) (by show 9 < x / 1000; omega), if_neg q4]
    by_cases q5 : x < 100000
    · rw [stop 4 7 (by omega) (by show x / 10000 ≤ 9; omega), if_pos q5]
    rw [step 4 7 (by omega) (by show 9 < x / 10000; omega), if_neg q5, stop 5 6 (by omega) (by show x / 100000 ≤ 9; omega)]
  rw [main, hK]
  exact r_digs hx _ (nd x - 1) 12 p σ (by omega) (by omega) h (by omega)
end
section
/-! LINE, ROW, CHARACTER -/
theorem c_clear {σ : Mm} (h : lin σ) : ∃ τ, f_J4_setLength_d00df 0 σ = some τ ∧ BL σ (0, fun _ => 0) τ := by
  obtain ⟨h1, K, k1, k2, -, -⟩ := h
  unfold f_J4_setLength_d00df f_J5_setLength_d00df
  rw [if_pos (Int32.le_refl _), show f_J5_ensureCapacityInternal_d00df 0 σ = some () from cap_ok (k := 0) h1 (by omega), bnd_d, k2, if_pos (Int32.not_lt.mp (I_n0 (by omega)))]
  by_cases q : K = 0
  · subst q
    rw [if_pos (show I 0 ≤ 0 by decide), lt_d, bnd_d]
    exact ⟨_, rfl, by rw [up_e, upd_n _ _ (by omega)]; exact h1, by rw [up_e, upd_e]; rfl, by show 0 ≤ 16; omega, fun j hj => absurd hj (Nat.not_lt_zero _), fun a z1 _ => up_n _ _ _ z1⟩
  · rw [if_neg (show ¬ I K ≤ 0 from fun z => by have := (I_le (b := 0) (by omega) (by omega)).mp z; omega), lt_d, lt_d, bnd_d]
    exact ⟨_, rfl, by rw [up_e, upd_n _ _ (by omega), up_e, upd_n _ _ (by omega)]; exact h1, by rw [up_e, upd_e]; rfl, by show 0 ≤ 16; omega, fun j hj => absurd hj (Nat.not_lt_zero _), fun a z1 _ => by rw [up_n _ _ _ z1, up_n _ _ _ z1]⟩
theorem c_len {σ0 σ : Mm} {p : Tx} (h : BL σ0 p σ) : f_J4_length_8abf5 σ = some (I p.1) := by
  unfold f_J4_length_8abf5 f_J5_length_8abf5
  rw [h.2.1, bnd_d]
/-- "out" -/
theorem c_out {σ0 σ : Mm} {s : Nat → Nat} (h : BL σ0 (0, s) σ) : ∃ τ, f_J4_append_15ec4 σ = some τ ∧ BL σ0 (tc 116 (tc 117 (tc 111 (0, s)))) τ := by
  obtain ⟨h1, h3, hk, hs, hf⟩ := h
  have h3 : σ 196 3 = 0 := h3
  have en : txN 425 = 3 := by decide +kernel
  have e3 : f_J0_length_8abf5 425 σ = some 3 := by rw [tx_len 425 (by rw [en]; omega), en]; rfl
  have e0 : txC 425 0 = I 111 := by decide +kernel
  have e1 : txC 425 1 = I 117 := by decide +kernel
  have e2 : txC 425 2 = I 116 := by decide +kernel
  unfold f_J4_append_15ec4 f_J5_append_cf1ce f_J5_putStringAt_47b60 f_J5_inflateIfNeededFor_a7421 f_J0_getBytes_840e7 f_J0_coder_7d493
  rw [e3, bnd_d, h3, show f_J5_ensureCapacityInternal_d00df (0 + 3) σ = some () from cap_ok (k := 3) h1 (by omega), bnd_d, bnd_d, h1, if_pos rfl, bnd_d, bnd_d, if_pos rfl, show ((0 : Int32) <<< ((0 : Int32) &&& 31)) = 0 by decide]
  unfold cg
  rw [if_neg (by decide), show Int32.toNatClampNeg 0 = 0 from rfl, lt_d, bnd_d, bnd_d]
  obtain ⟨τ, hτ⟩ : ∃ τ, τ = cpt σ 425 197 0 3 := ⟨_, rfl⟩
  have f1 : ∀ a, a ≠ 197 → τ a = σ a := fun a z => by rw [hτ]; unfold cpt; rw [if_neg z]
  have f2 : ∀ j, τ 197 j = if j < 3 then txC 425 j else σ 197 j := fun j => by
    rw [hτ]; unfold cpt; rw [if_pos rfl]; unfold va_cpy
    by_cases q : j < 3
    · rw [if_pos q, if_pos ⟨Nat.zero_le _, by omega⟩, Nat.zero_add, Nat.sub_zero]
    · rw [if_neg q, if_neg (by omega)]
  rw [← hτ, f1 196 (by omega), h3, lt_d, bnd_d]
  refine ⟨_, rfl, by rw [up_e, upd_n _ _ (by omega), f1 196 (by omega)]; exact h1, by rw [up_e, upd_e]; rfl, by show 3 ≤ 16; omega, fun j hj => ?_, fun a z1 z2 => by rw [up_n _ _ _ z1, f1 a z2]; exact hf a z1 z2⟩
  have hj : j < 3 := hj
  rw [up_n _ _ _ (show 197 ≠ 196 by omega), f2, if_pos hj]
  rcases (show j = 0 ∨ j = 1 ∨ j = 2 by omega) with rfl | rfl | rfl
  · exact ⟨by show 111 < 128; omega, e0⟩
  · exact ⟨by show 117 < 128; omega, e1⟩
  · exact ⟨by show 116 < 128; omega, e2⟩
/-- a line, behind its place -/
def lineP (h : Nat) (b : Option (Nat × Nat × Bool)) (p : Tx) : Tx := match b with
  | none => tn h (tc 43 p)
  | some (g, r, w) => if w = true then tc 33 (tn r (tc 42 (tn g (tc 35 (tn h (tc 43 p)))))) else tn r (tc 42 (tn g (tc 35 (tn h (tc 43 p)))))
theorem tc_1 (c : Nat) (p : Tx) : (tc c p).1 = p.1 + 1 := rfl
theorem nd_1 {x : Nat} (h : x < 10) : nd x = 1 := by unfold nd; rw [if_pos h]
theorem lineP_le {h : Nat} {b : Option (Nat × Nat × Bool)} {p : Tx} (hp : p.1 ≤ 3) (hb : ∀ g r w, b = some (g, r, w) → g < 10 ∧ r < 10) : (lineP h b p).1 ≤ 16 := by
  have := nd_le h
  unfold lineP
  cases b with
  | none => dsimp only; rw [tn_1, tc_1]; omega
  | some q =>
    obtain ⟨g, r, w⟩ := q
    obtain ⟨h1, h2⟩ := hb g r w rfl
    have e1 := nd_1 h1
    have e2 := nd_1 h2
    dsimp only
    split
    · rw [tc_1, tn_1, tc_1, tn_1, tc_1, tn_1, tc_1]; omega
    · rw [tn_1, tc_1, tn_1, tc_1, tn_1, tc_1]; omega
/-- what a visitor's numbers say of the bond -/
def bondV (v : Nat) (f : Fm) : Option (Nat × Nat × Bool) := if f (46 + 8 * v + 4) = -1 then none else some ((f (46 + 8 * v + 4)).toNatClampNeg, (f (46 + 8 * v + 5)).toNatClampNeg, decide (f (46 + 8 * v + 6) = 1))
theorem c_tail {σ0 σ : Mm} {f : Fm} {B n m v h : Nat} {p : Tx} (hp : p.1 ≤ 3) (r : rep 0 σ0 f) (ho : okC B n m f) (hv : v < m) (hh : f (46 + 8 * v + 2) = I h) (h6 : h < 1000000) (Z : BL σ0 p σ) :
    ∃ τ, (bnd (f_J4_append_cf468 43 σ) fun σ10 => bnd (f_J4_append_bf812 (σ10 (9 + v) 2) σ10) fun σ12 => bnd (f_X7_hasBond (9 + v) σ12) fun q13 => if q13 = 0 then (bnd (f_J4_length_8abf5 σ12) fun q15 => some ((Sum.inl q15 : Int32 ⊕ Nat), σ12)) else (bnd (f_J4_append_cf468 35 σ12) fun σ17 => bnd (f_J4_append_bf812 (σ17 (9 + v) 4) σ17) fun σ19 => bnd (f_J4_append_cf468 42 σ19) fun σ21 => bnd (f_J4_append_bf812 (σ21 (9 + v) 5) σ21) fun σ23 => if (σ23 (9 + v) 6) = 0 then (bnd (f_J4_length_8abf5 σ23) fun q25 => some (Sum.inl q25, σ23)) else (bnd (f_J4_append_cf468 33 σ23) fun σ27 => bnd (f_J4_length_8abf5 σ27) fun q28 => some (Sum.inl q28, σ27)))) = some (Sum.inl (I (lineP h (bondV v f) p).1), τ) ∧ BL σ0 (lineP h (bondV v f) p) τ := by
  have ov := ho.2.2.2.2.1 v hv
  have hfv := hfI ho.2.1.2 ho.2.1.1 hv
  have hm := ho.2.1.1
  have hd := nd_le h
  have G : ∀ {q : Tx} {ρ : Mm} {k : Nat}, BL σ0 q ρ → k < 8 → ρ (9 + v) k = f (46 + 8 * v + k) := fun {q ρ k} z hk => by
    rw [z.2.2.2.2 (9 + v) (by omega) (by omega)]; exact r.getV (by omega) hk hfv
  obtain ⟨σ1, a1, A1⟩ := c_chr (c := 43) Z (by omega) (by omega)
  obtain ⟨σ2, a2, A2⟩ := c_num (x := h) A1 (by rw [tc_1]; omega) h6
  rw [show f_J4_append_cf468 43 σ = some σ1 from a1, bnd_d, G A1 (by omega), hh, a2, bnd_d]
  unfold f_X7_hasBond
  rw [G A2 (by omega)]
  rcases ov.2.2.2 with ⟨b1, -⟩ | ⟨⟨g, g1, g2⟩, ⟨rr, r1, r2, r3⟩, v01, w0⟩
  · have e : bondV v f = none := by unfold bondV; rw [if_pos b1]
    rw [if_pos b1, bnd_d, if_pos rfl, c_len A2, bnd_d, e]
    exact ⟨σ2, rfl, A2⟩
  · have hn := ho.1.1
    have nb1 : ¬ f (46 + 8 * v + 4) = -1 := by rw [g2]; exact nm1 (by omega)
    have dg := nd_1 (x := g) (by omega)
    have dr := nd_1 (x := rr) (by omega)
    obtain ⟨σ3, a3, A3⟩ := c_chr (c := 35) A2 (by rw [tn_1, tc_1]; omega) (by omega)
    obtain ⟨σ4, a4, A4⟩ := c_num (x := g) A3 (by rw [tc_1, tn_1, tc_1]; omega) (by omega)
    obtain ⟨σ5, a5, A5⟩ := c_chr (c := 42) A4 (by rw [tn_1, tc_1, tn_1, tc_1]; omega) (by omega)
    obtain ⟨σ6, a6, A6⟩ := c_num (x := rr) A5 (by rw [tc_1, tn_1, tc_1, tn_1, tc_1]; omega) (by omega)
    rw [if_neg nb1, bnd_d, if_neg one_ne, show f_J4_append_cf468 35 σ2 = some σ3 from a3, bnd_d, G A3 (by omega), g2, a4, bnd_d, show f_J4_append_cf468 42 σ4 = some σ5 from a5, bnd_d, G A5 (by omega), r3, a6, bnd_d, G A6 (by omega)]
    rcases v01 with z | z
    · have e : bondV v f = some (g, rr, false) := by
        unfold bondV; rw [if_neg nb1, g2, r3, z, I_clamp (by omega), I_clamp (by omega)]; rfl
      rw [z, if_pos rfl, c_len A6, bnd_d, e]
      exact ⟨σ6, rfl, A6⟩
    · have e : bondV v f = some (g, rr, true) := by
        unfold bondV; rw [if_neg nb1, g2, r3, z, I_clamp (by omega), I_clamp (by omega)]; rfl
      obtain ⟨σ7, a7, A7⟩ := c_chr (c := 33) A6 (by rw [tn_1, tc_1, tn_1, tc_1, tn_1, tc_1]; omega) (by omega)
      rw [z, if_neg one_ne, show f_J4_append_cf468 33 σ6 = some σ7 from a7, bnd_d, c_len A7, bnd_d, e]
      exact ⟨σ7, rfl, A7⟩
theorem r_tail {σ0 σ : Mm} {f : Fm} {B n m v h : Nat} {p : Tx} (hp : p.1 ≤ 3) (r : σ0 199 = f) (ho : okC B n m f) (hv : v < m) (hh : f (46 + 8 * v + 2) = I h) (h6 : h < 1000000) (Z : RL σ0 p σ) :
    ∃ τ, (bnd (f_X10_sign 43 σ) fun σ32 => gd (I (46 + 8 * v) + 2) 86 (bnd (f_X10_writesNumber (σ32 199 (I (46 + 8 * v) + 2).toNatClampNeg) σ32) fun σ34 => gd (I (46 + 8 * v) + 4) 86 (if (σ34 199 (I (46 + 8 * v) + 4).toNatClampNeg) = (-1) then (some ((σ34 198 20), σ34)) else (bnd (f_X10_sign 35 σ34) fun σ37 => gd (I (46 + 8 * v) + 4) 86 (bnd (f_X10_writesNumber (σ37 199 (I (46 + 8 * v) + 4).toNatClampNeg) σ37) fun σ39 => bnd (f_X10_sign 42 σ39) fun σ41 => gd (I (46 + 8 * v) + 5) 86 (bnd (f_X10_writesNumber (σ41 199 (I (46 + 8 * v) + 5).toNatClampNeg) σ41) fun σ43 => gd (I (46 + 8 * v) + 6) 86 (if (σ43 199 (I (46 + 8 * v) + 6).toNatClampNeg) = 1 then (bnd (f_X10_sign 33 σ43) fun σ46 => some ((σ46 198 20), σ46)) else (some ((σ43 198 20), σ43))))))))) = some (I (lineP h (bondV v f) p).1, τ) ∧ RL σ0 (lineP h (bondV v f) p) τ := by
  have ov := ho.2.2.2.2.1 v hv
  have hm := ho.2.1.1
  have hd := nd_le h
  have G : ∀ {q : Tx} {ρ : Mm}, RL σ0 q ρ → ρ 199 = f := fun {q ρ} z => by
    rw [z.2.2.2.1 199 (by omega) (by omega)]; exact r
  obtain ⟨σ1, a1, A1⟩ := r_sgn (c := 43) Z (by omega)
  obtain ⟨σ2, a2, A2⟩ := r_num (x := h) A1 (by rw [tc_1]; omega) h6
  rw [I_a2, I_a4, I_a5, I_a6, I_clamp (show 46 + 8 * v + 2 < 2147483648 by omega), I_clamp (show 46 + 8 * v + 4 < 2147483648 by omega), I_clamp (show 46 + 8 * v + 5 < 2147483648 by omega), I_clamp (show 46 + 8 * v + 6 < 2147483648 by omega), show f_X10_sign 43 σ = some σ1 from a1, bnd_d, G A1, hh, gd_I (show 46 + 8 * v + 2 < 86 by omega) (by omega), a2, bnd_d, gd_I (show 46 + 8 * v + 4 < 86 by omega) (by omega), G A2]
  rcases ov.2.2.2 with ⟨b1, -⟩ | ⟨⟨g, g1, g2⟩, ⟨rr, r1, r2, r3⟩, v01, w0⟩
  · have e : bondV v f = none := by unfold bondV; rw [if_pos b1]
    rw [if_pos b1, A2.1, e]
    exact ⟨σ2, rfl, A2⟩
  · have hn := ho.1.1
    have nb1 : ¬ f (46 + 8 * v + 4) = -1 := by rw [g2]; exact nm1 (by omega)
    have dg := nd_1 (x := g) (by omega)
    have dr := nd_1 (x := rr) (by omega)
    obtain ⟨σ3, a3, A3⟩ := r_sgn (c := 35) A2 (by rw [tn_1, tc_1]; omega)
    obtain ⟨σ4, a4, A4⟩ := r_num (x := g) A3 (by rw [tc_1, tn_1, tc_1]; omega) (by omega)
    obtain ⟨σ5, a5, A5⟩ := r_sgn (c := 42) A4 (by rw [tn_1, tc_1, tn_1, tc_1]; omega)
    obtain ⟨σ6, a6, A6⟩ := r_num (x := rr) A5 (by rw [tc_1, tn_1, tc_1, tn_1, tc_1]; omega) (by omega)
    rw [if_neg nb1, show f_X10_sign 35 σ2 = some σ3 from a3, bnd_d, gd_I (show 46 + 8 * v + 4 < 86 by omega) (by omega), G A3, g2, a4, bnd_d, show f_X10_sign 42 σ4 = some σ5 from a5, bnd_d, gd_I (show 46 + 8 * v + 5 < 86 by omega) (by omega), G A5, r3, a6, bnd_d, gd_I (show 46 + 8 * v + 6 < 86 by omega) (by omega), G A6]
    rcases v01 with z | z
    · have e : bondV v f = some (g, rr, false) := by
        unfold bondV; rw [if_neg nb1, g2, r3, z, I_clamp (by omega), I_clamp (by omega)]; rfl
      rw [z, if_neg zero_ne, A6.1, e]
      exact ⟨σ6, rfl, A6⟩
    · have e : bondV v f = some (g, rr, true) := by
        unfold bondV; rw [if_neg nb1, g2, r3, z, I_clamp (by omega), I_clamp (by omega)]; rfl
      obtain ⟨σ7, a7, A7⟩ := r_sgn (c := 33) A6 (by rw [tn_1, tc_1, tn_1, tc_1, tn_1, tc_1]; omega)
      rw [z, if_pos rfl, show f_X10_sign 33 σ6 = some σ7 from a7, bnd_d, A7.1, e]
      exact ⟨σ7, rfl, A7⟩
/-- a line on both sides: all holds again -/
theorem RR.line {B : Nat} {σ τ ρ : Mm} {p : Tx} (R : RR B σ) (h1 : BL σ p τ) (h2 : RL (up (up τ 198 12 0) 198 20 0) p ρ) : RR B ρ ∧ ρ 198 12 = 0 := by
  obtain ⟨r1, r2, r3, r4, r5, r6, r7⟩ := R
  obtain ⟨b1, b2, b3, b4, b5⟩ := h1
  obtain ⟨c1, c2, c3, c4, c5⟩ := h2
  have z : ∀ a, a ≠ 196 → a ≠ 197 → a ≠ 198 → a ≠ 206 → ρ a = σ a := fun a h1 h2 h3 h4 => by rw [c4 a h3 h4, up_n _ _ _ h3, up_n _ _ _ h3, b5 a h1 h2]
  have z198 : ∀ k, k ≠ 12 → k ≠ 20 → ρ 198 k = σ 198 k := fun k h1 h2 => by rw [c5 k h2, up_e, upd_n _ _ h2, up_e, upd_n _ _ h1, b5 198 (by omega) (by omega)]
  have z199 : ρ 199 = σ 199 := z 199 (by omega) (by omega) (by omega) (by omega)
  have zt : ∀ a, a ≠ 198 → a ≠ 206 → ρ a = τ a := fun a h3 h4 => by rw [c4 a h3 h4, up_n _ _ _ h3, up_n _ _ _ h3]
  refine ⟨⟨?_, ?_, ?_, ?_, ?_, ?_, ?_⟩, by rw [c5 12 (by omega), up_e, upd_n _ _ (by omega), up_e, upd_e]⟩
  · rw [z199]; exact r1.move (fun a _ h => z a (by omega) (by omega) (by omega) (by omega))
  · rw [z199]; exact r2
  · exact r3.move (fun a h1 h2 => z a (by omega) (by omega) (by omega) (by omega)) (z 155 (by omega) (by omega) (by omega) (by omega)) (z198 5 (by omega) (by omega)) (z 202 (by omega) (by omega) (by omega) (by omega))
  · exact r4.move (fun a h1 h2 => z a (by omega) (by omega) (by omega) (by omega)) (z 154 (by omega) (by omega) (by omega) (by omega)) (z198 3 (by omega) (by omega)) (z 201 (by omega) (by omega) (by omega) (by omega))
  · unfold refu
    rw [z 157 (by omega) (by omega) (by omega) (by omega), z198 6 (by omega) (by omega), z198 7 (by omega) (by omega), z198 8 (by omega) (by omega)]
    exact r5
  · exact r6.move (by rw [z 162 (by omega) (by omega) (by omega) (by omega)]) (by rw [z 162 (by omega) (by omega) (by omega) (by omega)]) (z 163 (by omega) (by omega) (by omega) (by omega)) (z 203 (by omega) (by omega) (by omega) (by omega)) (z198 11 (by omega) (by omega)) (z198 9 (by omega) (by omega))
  · exact ⟨by rw [zt 196 (by omega) (by omega)]; exact b1, p.1, b3, by rw [zt 196 (by omega) (by omega)]; exact b2, c1, fun j hj => ⟨p.2 j, (b4 j hj).1, by rw [zt 197 (by omega) (by omega)]; exact (b4 j hj).2, c3 j hj⟩⟩
theorem RL.start (σ : Mm) (s : Nat → Nat) : RL (up σ 198 20 0) (0, s) (up σ 198 20 0) := ⟨by rw [up_e, upd_e]; rfl, by show 0 ≤ 30; omega, fun j hj => absurd hj (Nat.not_lt_zero _), fun _ _ _ => rfl, fun _ _ => rfl⟩
theorem q_line {σ : Mm} {B : Nat} (e2 : Nat) (hB : B < 1000000) (R : RR B σ) (a : Int32) : ∃ out τ, f_X9_line a σ = some (out, τ) ∧ ∃ r ρ, f_X10_line a τ = some (r, ρ) ∧ RR B ρ ∧ same2 out 1 e2 r (ρ 198 12) := by
  obtain ⟨f, hf⟩ : ∃ f, f = σ 199 := ⟨_, rfl⟩
  have h : rep 0 σ f := by rw [hf]; exact R.1
  obtain ⟨n, m, ho⟩ : ok B f := by rw [hf]; exact R.2.1
  have hm := ho.2.1.1
  unfold f_X9_line f_X10_line
  rw [c_vask h ho]
  cases e : ix a m with
  | none =>
    dsimp only
    rw [xb_n]
    refine ⟨_, _, rfl, ?_⟩
    rw [lt_d, n_isV hm (by rw [thr199, ← hf]; exact ho.2.1.2), e, bnd_d]
    dsimp only
    rw [if_pos rfl, r_thr, bnm_d]
    exact ⟨_, _, rfl, (R.thr 0).thr 1, Or.inl ⟨rfl, thr12 _ _⟩⟩
  | some v =>
    obtain ⟨v1, rfl⟩ := ix_lt (by omega) e
    have ov := ho.2.2.2.2.1 v v1
    have hfv := hfI ho.2.1.2 hm v1
    obtain ⟨c, c1, c2⟩ := ov.1
    obtain ⟨hh, h6, hhe⟩ := ov.2.1
    dsimp only
    rw [xb_d, oc_e]
    obtain ⟨σ1, s1, S1⟩ := c_clear R.2.2.2.2.2.2
    rw [s1, bnd_d, S1.2.2.2.2 (9 + v) (by omega) (by omega), h.getV (v := v) (k := 7) (by omega) (by omega) hfv, h.getV (v := v) (k := 1) (by omega) (by omega) hfv, c2]
    -- the reference
    have ref : ∀ (τ : Mm) (p : Tx) (P : Option (Int32 × Mm) → Prop), (∀ a, a ≠ 196 → a ≠ 197 → τ a = σ a) →
        (∀ {σ5 : Mm}, σ5 199 = f → P (if f (46 + 8 * v + 7) = 1 then (bnd (f_X10_sign 111 (up (up τ 198 12 0) 198 20 0)) fun σ26 => bnd (f_X10_sign 117 σ26) fun σ28 => bnd (f_X10_sign 116 σ28) fun σ30 => bnd (f_X10_sign 43 σ30) fun σ32 => gd (I (46 + 8 * v) + 2) 86 (bnd (f_X10_writesNumber (σ32 199 (I (46 + 8 * v) + 2).toNatClampNeg) σ32) fun σ34 => gd (I (46 + 8 * v) + 4) 86 (if (σ34 199 (I (46 + 8 * v) + 4).toNatClampNeg) = (-1) then (some ((σ34 198 20), σ34)) else (bnd (f_X10_sign 35 σ34) fun σ37 => gd (I (46 + 8 * v) + 4) 86 (bnd (f_X10_writesNumber (σ37 199 (I (46 + 8 * v) + 4).toNatClampNeg) σ37) fun σ39 => bnd (f_X10_sign 42 σ39) fun σ41 => gd (I (46 + 8 * v) + 5) 86 (bnd (f_X10_writesNumber (σ41 199 (I (46 + 8 * v) + 5).toNatClampNeg) σ41) fun σ43 => gd (I (46 + 8 * v) + 6) 86 (if (σ43 199 (I (46 + 8 * v) + 6).toNatClampNeg) = 1 then (bnd (f_X10_sign 33 σ43) fun σ46 => some ((σ46 198 20), σ46)) else (some ((σ43 198 20), σ43))))))))) else (bnd (f_X10_writesNumber (I c) (up (up τ 198 12 0) 198 20 0)) fun σ8 => bnd (f_X10_sign 43 σ8) fun σ10 => gd (I (46 + 8 * v) + 2) 86 (bnd (f_X10_writesNumber (σ10 199 (I (46 + 8 * v) + 2).toNatClampNeg) σ10) fun σ12 => gd (I (46 + 8 * v) + 4) 86 (if (σ12 199 (I (46 + 8 * v) + 4).toNatClampNeg) = (-1) then (some ((σ12 198 20), σ12)) else (bnd (f_X10_sign 35 σ12) fun σ15 => gd (I (46 + 8 * v) + 4) 86 (bnd (f_X10_writesNumber (σ15 199 (I (46 + 8 * v) + 4).toNatClampNeg) σ15) fun σ17 => bnd (f_X10_sign 42 σ17) fun σ19 => gd (I (46 + 8 * v) + 5) 86 (bnd (f_X10_writesNumber (σ19 199 (I (46 + 8 * v) + 5).toNatClampNeg) σ19) fun σ21 => gd (I (46 + 8 * v) + 6) 86 (if (σ21 199 (I (46 + 8 * v) + 6).toNatClampNeg) = 1 then (bnd (f_X10_sign 33 σ21) fun σ24 => some ((σ24 198 20), σ24)) else (some ((σ21 198 20), σ21))))))))))) →
        P (lt (up τ 198 12 0) fun σ1 => bnd (f_X10_isVisitor (I v) σ1) fun q2 => if q2 = 0 then (bnm (f_X10_throwing 1 σ1) fun q47 σ48 => some (q47, σ48)) else (bnd (f_X10_visitorAt (I v) σ1) fun q4 => lt (up σ1 198 20 0) fun σ5 => gd (q4 + 7) 86 (if (σ5 199 (q4 + 7).toNatClampNeg) = 1 then (bnd (f_X10_sign 111 σ5) fun σ26 => bnd (f_X10_sign 117 σ26) fun σ28 => bnd (f_X10_sign 116 σ28) fun σ30 => bnd (f_X10_sign 43 σ30) fun σ32 => gd (q4 + 2) 86 (bnd (f_X10_writesNumber (σ32 199 (q4 + 2).toNatClampNeg) σ32) fun σ34 => gd (q4 + 4) 86 (if (σ34 199 (q4 + 4).toNatClampNeg) = (-1) then (some ((σ34 198 20), σ34)) else (bnd (f_X10_sign 35 σ34) fun σ37 => gd (q4 + 4) 86 (bnd (f_X10_writesNumber (σ37 199 (q4 + 4).toNatClampNeg) σ37) fun σ39 => bnd (f_X10_sign 42 σ39) fun σ41 => gd (q4 + 5) 86 (bnd (f_X10_writesNumber (σ41 199 (q4 + 5).toNatClampNeg) σ41) fun σ43 => gd (q4 + 6) 86 (if (σ43 199 (q4 + 6).toNatClampNeg) = 1 then (bnd (f_X10_sign 33 σ43) fun σ46 => some ((σ46 198 20), σ46)) else (some ((σ43 198 20), σ43))))))))) else (gd (q4 + 1) 86 (bnd (f_X10_writesNumber (σ5 199 (q4 + 1).toNatClampNeg) σ5) fun σ8 => bnd (f_X10_sign 43 σ8) fun σ10 => gd (q4 + 2) 86 (bnd (f_X10_writesNumber (σ10 199 (q4 + 2).toNatClampNeg) σ10) fun σ12 => gd (q4 + 4) 86 (if (σ12 199 (q4 + 4).toNatClampNeg) = (-1) then (some ((σ12 198 20), σ12)) else (bnd (f_X10_sign 35 σ12) fun σ15 => gd (q4 + 4) 86 (bnd (f_X10_writesNumber (σ15 199 (q4 + 4).toNatClampNeg) σ15) fun σ17 => bnd (f_X10_sign 42 σ17) fun σ19 => gd (q4 + 5) 86 (bnd (f_X10_writesNumber (σ19 199 (q4 + 5).toNatClampNeg) σ19) fun σ21 => gd (q4 + 6) 86 (if (σ21 199 (q4 + 6).toNatClampNeg) = 1 then (bnd (f_X10_sign 33 σ21) fun σ24 => some ((σ24 198 20), σ24)) else (some ((σ21 198 20), σ21))))))))))))) := by
      intro τ p P ht k
      have e199 : (up τ 198 12 0) 199 = f := by rw [thr199, ht 199 (by omega) (by omega), hf]
      rw [lt_d, n_isV hm (by rw [e199]; exact ho.2.1.2), e, bnd_d]
      dsimp only
      rw [if_neg one_ne, n_vAt, bnd_d, lt_d, show I (46 + 8 * v) + 7 = I (46 + 8 * v + 7) from I_a7 _, show I (46 + 8 * v) + 1 = I (46 + 8 * v + 1) from I_a1 _, gd_I (show 46 + 8 * v + 7 < 86 by omega) (by omega), gd_I (show 46 + 8 * v + 1 < 86 by omega) (by omega), I_clamp (show 46 + 8 * v + 7 < 2147483648 by omega), I_clamp (show 46 + 8 * v + 1 < 2147483648 by omega), up_n (up τ 198 12 0) 20 0 (show 199 ≠ 198 by omega), e199, c2]
      exact k e199
    by_cases q : f (46 + 8 * v + 7) = 0
    · have q1 : ¬ f (46 + 8 * v + 7) = 1 := by rw [q]; exact zero_ne
      have dc : nd c ≤ 2 := by unfold nd; rw [show ∀ x y : Nat, (if c < 100 then x else y) = x from fun x y => if_pos (by omega)]; split <;> omega
      obtain ⟨σ2, s2, S2⟩ := c_num (x := c) S1 (by show 0 + nd c ≤ 16; omega) (by omega)
      obtain ⟨τ, t1, t2⟩ := c_tail (h := hh) (by rw [tn_1]; show 0 + nd c ≤ 3; omega) h ho v1 hhe (by omega) S2
      rw [if_pos q, s2, bnd_d, t1]
      refine ⟨_, τ, rfl, ?_⟩
      refine ref τ (lineP hh (bondV v f) (tn c (0, fun _ => 0))) (fun o => ∃ r ρ, o = some (r, ρ) ∧ RR B ρ ∧ same2 (Sum.inl (I (lineP hh (bondV v f) (tn c (0, fun _ => 0))).1)) 1 e2 r (ρ 198 12)) t2.2.2.2.2 (fun {σ5} _ => ?_)
      obtain ⟨ρ2, w2, W2⟩ := r_num (x := c) (RL.start (up τ 198 12 0) (fun _ => 0)) (by show 0 + nd c ≤ 30; omega) (by omega)
      obtain ⟨ρ, w3, W3⟩ := r_tail (f := f) (h := hh) (by rw [tn_1]; show 0 + nd c ≤ 3; omega) (by rw [up_n _ _ _ (by omega), up_n _ _ _ (by omega), t2.2.2.2.2 199 (by omega) (by omega), hf]) ho v1 hhe (by omega) W2
      obtain ⟨x1, x2⟩ := R.line t2 W3
      rw [if_neg q1, w2, bnd_d, w3]
      exact ⟨_, ρ, rfl, x1, x2, rfl⟩
    · have q1 : f (46 + 8 * v + 7) = 1 := (okV.out ov).resolve_left q
      obtain ⟨σ2, s2, S2⟩ := c_out S1
      obtain ⟨τ, t1, t2⟩ := c_tail (h := hh) (by show 3 ≤ 3; omega) h ho v1 hhe (by omega) S2
      rw [if_neg q, s2, bnd_d, t1]
      refine ⟨_, τ, rfl, ?_⟩
      refine ref τ (lineP hh (bondV v f) (tc 116 (tc 117 (tc 111 (0, fun _ => 0))))) (fun o => ∃ r ρ, o = some (r, ρ) ∧ RR B ρ ∧ same2 (Sum.inl (I (lineP hh (bondV v f) (tc 116 (tc 117 (tc 111 (0, fun _ => 0))))).1)) 1 e2 r (ρ 198 12)) t2.2.2.2.2 (fun {σ5} _ => ?_)
      obtain ⟨ρ1, y1, Y1⟩ := r_sgn (c := 111) (RL.start (up τ 198 12 0) (fun _ => 0)) (by show 0 < 30; omega)
      obtain ⟨ρ2, y2, Y2⟩ := r_sgn (c := 117) Y1 (by show 1 < 30; omega)
      obtain ⟨ρ3, y3, Y3⟩ := r_sgn (c := 116) Y2 (by show 2 < 30; omega)
      obtain ⟨ρ, w3, W3⟩ := r_tail (f := f) (h := hh) (by show 3 ≤ 3; omega) (by rw [up_n _ _ _ (by omega), up_n _ _ _ (by omega), t2.2.2.2.2 199 (by omega) (by omega), hf]) ho v1 hhe (by omega) Y3
      obtain ⟨x1, x2⟩ := R.line t2 W3
      rw [if_pos q1, show f_X10_sign 111 _ = some ρ1 from y1, bnd_d, show f_X10_sign 117 ρ1 = some ρ2 from y2, bnd_d, show f_X10_sign 116 ρ2 = some ρ3 from y3, bnd_d, w3]
      exact ⟨_, ρ, rfl, x1, x2, rfl⟩
end
section
/-! ROW, CHARACTER -/
def chC (f : Fm) (m c : Nat) : Nat := if f 2 = I c then 77 else 48 + cN f (I c) m
def spC (f : Fm) (c : Nat) : Nat := if opB f (hN c (c + 1)) = 0 then 124 else 32
theorem cN_sm (f : Fm) (c : Int32) (m : Nat) : sm (fun v => if f (46 + 8 * v + 7) = 0 ∧ f (46 + 8 * v + 1) = c then (1 : Int32) else 0) m = I (cN f c m) := by
  induction m with
  | zero => rfl
  | succ m ih =>
    rw [sm_S, ih, cN_S]
    by_cases q : f (46 + 8 * m + 7) = 0 ∧ f (46 + 8 * m + 1) = c
    · rw [if_pos q, if_pos q, I_a1]
    · rw [if_neg q, if_neg q, I_a0]
theorem r_visIn {σ : Mm} {B n m : Nat} (ho : okC B n m (σ 199)) (c : Int32) : f_X10_visitorsIn c σ = some (I (cN (σ 199) c m)) := by
  have hm := ho.2.1.1
  have h1 := ho.2.1.2
  unfold f_X10_visitorsIn
  have k := loopS (F := f_X10_visitorsIn_l4 c σ) (K := fun x => some x) m hm (fun v => if σ 199 (46 + 8 * v + 7) = 0 ∧ σ 199 (46 + 8 * v + 1) = c then (1 : Int32) else 0) 0 (fun n x => by
      rw [f_X10_visitorsIn_l4, h1, if_pos ((I_le (by omega) (by omega)).mpr (Nat.le_refl _))]) (fun n' v x hv => by
      rw [f_X10_visitorsIn_l4, h1, if_neg (nle hv (by omega)), n_vAt, bnd_d, bnd_d, show I (46 + 8 * v) + 7 = I (46 + 8 * v + 7) from I_a7 _, show I (46 + 8 * v) + 1 = I (46 + 8 * v + 1) from I_a1 _, gd_I (show 46 + 8 * v + 7 < 86 by omega) (by omega), gd_I (show 46 + 8 * v + 1 < 86 by omega) (by omega), I_clamp (show 46 + 8 * v + 7 < 2147483648 by omega), I_clamp (show 46 + 8 * v + 1 < 2147483648 by omega), I_a1]
      by_cases q : σ 199 (46 + 8 * v + 7) = 0
      · rw [if_pos q]
        by_cases q2 : σ 199 (46 + 8 * v + 1) = c
        · rw [if_pos q2, if_pos ⟨q, q2⟩]; rfl
        · rw [if_neg q2, if_neg (fun z => q2 z.2)]; rfl
      · rw [if_neg q, if_neg (fun z => q z.1)]; rfl)
  rw [k, Int32.zero_add, cN_sm]
theorem opB01 (f : Fm) (o : Option Nat) : opB f o = 0 ∨ opB f o = 1 := by
  unfold opB
  cases o with
  | none => exact Or.inl rfl
  | some g => dsimp only; split; exact Or.inr rfl; exact Or.inl rfl
section
variable {σ0 σ : Mm} {f : Fm} {B n m c X : Nat} {p : Tx} {a : Int32}
/-- the class's one cell -/
theorem c_cell (r : rep 0 σ0 f) (ho : okC B n m f) (hc : c + 1 < 16) (hX : X < 16) (hcX : c < X) (hp : p.1 + 2 ≤ 16) (Z : BL σ0 p σ) (k : Nat) : ∃ τ, f_X9_row_l40 (I X) a (k + 1) (I c) σ = f_X9_row_l40 (I X) a k (I (c + 1)) τ ∧ BL σ0 (tc (spC f c) (tc (chC f m c) p)) τ := by
  have hm := ho.2.1.1
  have rr : ∀ {q : Tx} {ρ : Mm}, BL σ0 q ρ → rep 0 ρ f := fun z => r.move (fun a _ h => z.2.2.2.2 a (by omega) (by omega))
  have hx : ∀ x, hN c (c + 1) = some x → x < 24 := fun x q => (hN_ed q).1
  have e5 : ∀ {q : Tx} {ρ : Mm}, BL σ0 q ρ → ρ 0 5 = f 2 := fun z => (rr z).get0 (k := 2) (by omega)
  -- the space behind it
  have sp : ∀ {q : Tx} {ρ : Mm}, BL σ0 q ρ → q.1 < 16 → ∃ τ, (if I X ≤ I c then (lt (I c + 1) fun x19 => f_X9_row_l40 (I X) a k x19 ρ) else (bnd (f_X4_hedgeBetween (I c) (I c + 1) ρ) fun q20 => bnd (f_X4_isOpen q20 ρ) fun q21 => if q21 = 0 then (bnd (f_J4_append_cf468 124 ρ) fun σ24 => lt (I c + 1) fun x25 => f_X9_row_l40 (I X) a k x25 σ24) else (bnd (f_J4_append_cf468 32 ρ) fun σ27 => lt (I c + 1) fun x28 => f_X9_row_l40 (I X) a k x28 σ27))) = f_X9_row_l40 (I X) a k (I (c + 1)) τ ∧ BL σ0 (tc (spC f c) q) τ := by
    intro q ρ z hq
    rw [if_neg (nle hcX (by omega)), I_a1, m_between (by omega) (by omega), bnd_d, c_openx (rr z) hx, bnd_d]
    unfold spC
    rcases opB01 f (hN c (c + 1)) with w | w
    · obtain ⟨τ, t1, t2⟩ := c_chr (c := 124) z hq (by omega)
      rw [w, if_pos rfl, if_pos rfl, show f_J4_append_cf468 124 ρ = some τ from t1, bnd_d, lt_d]
      exact ⟨τ, rfl, t2⟩
    · obtain ⟨τ, t1, t2⟩ := c_chr (c := 32) z hq (by omega)
      rw [w, if_neg one_ne, if_neg one_ne, show f_J4_append_cf468 32 ρ = some τ from t1, bnd_d, lt_d]
      exact ⟨τ, rfl, t2⟩
  rw [f_X9_row_l40, if_neg (fun z => by have := (I_lt (by omega) (by omega)).mp z; omega), e5 Z]
  unfold chC
  by_cases q : f 2 = I c
  · obtain ⟨τ1, t1, t2⟩ := c_chr (c := 77) Z (by omega) (by omega)
    rw [if_pos q.symm, if_pos q, show f_J4_append_cf468 77 σ = some τ1 from t1, bnd_d]
    exact sp t2 (by show p.1 + 1 < 16; omega)
  · have := cN_le f (I c) m
    obtain ⟨τ1, t1, t2⟩ := c_num (x := cN f (I c) m) Z (by rw [nd_1 (by omega)]; omega) (by omega)
    rw [tn_small (by omega)] at t2
    rw [if_neg (fun z => q z.symm), if_neg q, c_in (rr Z) hm ho.2.1.2, bnd_d, t1, bnd_d]
    exact sp t2 (by show p.1 + 1 < 16; omega)
theorem c_last (r : rep 0 σ0 f) (ho : okC B n m f) (hc : c < 16) (hp : p.1 + 1 ≤ 16) (Z : BL σ0 p σ) (k : Nat) : ∃ τ, f_X9_row_l40 (I c) a (k + 2) (I c) σ = some (Sum.inl (I (tc (chC f m c) p).1), τ) ∧ BL σ0 (tc (chC f m c) p) τ := by
  have hm := ho.2.1.1
  have rr : ∀ {q : Tx} {ρ : Mm}, BL σ0 q ρ → rep 0 ρ f := fun z => r.move (fun a _ h => z.2.2.2.2 a (by omega) (by omega))
  have e5 : ∀ {q : Tx} {ρ : Mm}, BL σ0 q ρ → ρ 0 5 = f 2 := fun z => (rr z).get0 (k := 2) (by omega)
  have fin : ∀ {q : Tx} {ρ : Mm}, BL σ0 q ρ → (f_X9_row_l40 (I c) a (k + 1) (I (c + 1)) ρ) = some (Sum.inl (I q.1), ρ) := fun {q ρ} z => by
    rw [f_X9_row_l40, if_pos ((I_lt (by omega) (by omega)).mpr (by omega)), c_len z, bnd_d]
  rw [f_X9_row_l40, if_neg (fun z => by have := (I_lt (by omega) (by omega)).mp z; omega), e5 Z]
  unfold chC
  by_cases q : f 2 = I c
  · obtain ⟨τ1, t1, t2⟩ := c_chr (c := 77) Z (by omega) (by omega)
    rw [if_pos q.symm, if_pos q, show f_J4_append_cf468 77 σ = some τ1 from t1, bnd_d, if_pos (Int32.le_refl _), I_a1, lt_d, fin t2]
    exact ⟨τ1, rfl, t2⟩
  · have := cN_le f (I c) m
    obtain ⟨τ1, t1, t2⟩ := c_num (x := cN f (I c) m) Z (by rw [nd_1 (by omega)]; omega) (by omega)
    rw [tn_small (by omega)] at t2
    rw [if_neg (fun z => q z.symm), if_neg q, c_in (rr Z) hm ho.2.1.2, bnd_d, t1, bnd_d, if_pos (Int32.le_refl _), I_a1, lt_d, fin t2]
    exact ⟨τ1, rfl, t2⟩
/-- the reference's one cell -/
theorem r_here' (r : σ0 199 = f) (ho : okC B n m f) {v9 : Int32} (h9 : v9 = I c) (hp : p.1 < 30) (Z : RL σ0 p σ) (k : Nat) : ∃ τ, (if (σ 199 2) = v9 then (bnd (f_X10_sign 77 σ) fun σ19 => lt (v9 + 1) fun x20 => f_X10_row_l32 a k x20 σ19) else (bnd (f_X10_visitorsIn v9 σ) fun q14 => bnd (f_X10_sign (48 + q14) σ) fun σ16 => lt (v9 + 1) fun x17 => f_X10_row_l32 a k x17 σ16)) = f_X10_row_l32 a k (I (c + 1)) τ ∧ RL σ0 (tc (chC f m c) p) τ := by
  subst h9
  have e : σ 199 = f := by rw [Z.2.2.2.1 199 (by omega) (by omega)]; exact r
  rw [I_a1, e]
  unfold chC
  by_cases q : f 2 = I c
  · obtain ⟨τ1, t1, t2⟩ := r_sgn (c := 77) Z hp
    rw [if_pos q, if_pos q, show f_X10_sign 77 σ = some τ1 from t1, bnd_d, lt_d]
    exact ⟨τ1, rfl, t2⟩
  · obtain ⟨τ1, t1, t2⟩ := r_sgn (c := 48 + cN f (I c) m) Z hp
    rw [if_neg q, if_neg q, r_visIn (by rw [e]; exact ho), bnd_d, e, show (48 : Int32) + I (cN f (I c) m) = I (48 + cN f (I c) m) from I_add 48 _, t1, bnd_d, lt_d]
    exact ⟨τ1, rfl, t2⟩
theorem r_first {r0 : Nat} (r : σ0 199 = f) (ho : okC B n m f) (hr : r0 < 4) (hp : p.1 < 30) (Z : RL σ0 p σ) (k : Nat) : ∃ τ, f_X10_row_l32 (I r0) (k + 1) (I (4 * r0)) σ = f_X10_row_l32 (I r0) k (I (4 * r0 + 1)) τ ∧ RL σ0 (tc (chC f m (4 * r0)) p) τ := by
  rw [f_X10_row_l32, show (4 : Int32) * I r0 = I (4 * r0) from I_mul 4 r0, I_a4, if_neg (nle (by omega) (by omega)), if_pos (Int32.le_refl _)]
  exact r_here' r ho rfl hp Z k
theorem r_next' {r0 : Nat} (r : σ0 199 = f) (ho : okC B n m f) (hr : r0 < 4) (h1 : 4 * r0 < c + 1) (h2 : c + 1 < 4 * r0 + 4) (hp : p.1 + 1 < 30) (Z : RL σ0 p σ) (k : Nat) : ∃ τ, f_X10_row_l32 (I r0) (k + 1) (I (c + 1)) σ = f_X10_row_l32 (I r0) k (I (c + 1 + 1)) τ ∧ RL σ0 (tc (chC f m (c + 1)) (tc (spC f c) p)) τ := by
  have hx : ∀ x, hN c (c + 1) = some x → x < 24 := fun x q => (hN_ed q).1
  have e : σ 199 = f := by rw [Z.2.2.2.1 199 (by omega) (by omega)]; exact r
  rw [f_X10_row_l32, show (4 : Int32) * I r0 = I (4 * r0) from I_mul 4 r0, I_a4, if_neg (nle h2 (by omega)), if_neg (nle h1 (by omega)), show I (c + 1) - 1 = I c from I_sub (b := 1) (by omega), n_hedge (by omega) (by omega), bnd_d, r_openx hx, bnd_d, e]
  unfold spC
  rcases opB01 f (hN c (c + 1)) with w | w
  · obtain ⟨τ1, t1, t2⟩ := r_sgn (c := 124) Z (by omega)
    rw [w, if_pos rfl, if_pos rfl, show f_X10_sign 124 σ = some τ1 from t1, bnd_d]
    exact r_here' r ho rfl (by show p.1 + 1 < 30; omega) t2 k
  · obtain ⟨τ1, t1, t2⟩ := r_sgn (c := 32) Z (by omega)
    rw [w, if_neg one_ne, if_neg one_ne, show f_X10_sign 32 σ = some τ1 from t1, bnd_d]
    exact r_here' r ho rfl (by show p.1 + 1 < 30; omega) t2 k
end
theorem q_row {σ : Mm} {B : Nat} (e2 : Nat) (R : RR B σ) (a : Int32) : ∃ out τ, f_X9_row a σ = some (out, τ) ∧ ∃ r ρ, f_X10_row a τ = some (r, ρ) ∧ RR B ρ ∧ same2 out 3 e2 r (ρ 198 12) := by
  obtain ⟨f, hf⟩ : ∃ f, f = σ 199 := ⟨_, rfl⟩
  have h : rep 0 σ f := by rw [hf]; exact R.1
  obtain ⟨n, m, ho⟩ : ok B f := by rw [hf]; exact R.2.1
  unfold f_X9_row f_X10_row
  rcases ix_cases a (N := 4) (by omega) with ⟨r, r1, rfl, r3⟩ | ⟨r1, r3⟩
  · rw [if_neg (I_n0 (by omega)), if_pos (show I r < 4 from (I_lt (b := 4) (by omega) (by omega)).mpr r1)]
    obtain ⟨σ1, s1, S1⟩ := c_clear R.2.2.2.2.2.2
    have e1 : I r * 4 = I (4 * r) := by rw [show I r * 4 = I (r * 4) from I_mul r 4, Nat.mul_comm]
    have e2 : I (4 * r) + 4 - 1 = I (4 * r + 3) := by rw [I_a4]; exact I_sub (b := 1) (by omega)
    rw [s1, bnd_d, e1, e2, lt_d, lt_d]
    obtain ⟨σ2, s2, S2⟩ := c_cell (a := I r) (X := 4 * r + 3) (c := 4 * r) h ho (by omega) (by omega) (by omega) (by show 0 + 2 ≤ 16; omega) S1 7
    obtain ⟨σ3, s3, S3⟩ := c_cell (a := I r) (X := 4 * r + 3) (c := 4 * r + 1) h ho (by omega) (by omega) (by omega) (by show 2 + 2 ≤ 16; omega) S2 6
    obtain ⟨σ4, s4, S4⟩ := c_cell (a := I r) (X := 4 * r + 3) (c := 4 * r + 2) h ho (by omega) (by omega) (by omega) (by show 4 + 2 ≤ 16; omega) S3 5
    obtain ⟨τ, s5, S5⟩ := c_last (a := I r) (c := 4 * r + 3) h ho (by omega) (by show 6 + 1 ≤ 16; omega) S4 3
    rw [s2, s3, s4, s5]
    refine ⟨_, τ, rfl, ?_⟩
    have hin : f_X10_in (I r).toInt64 0 3 (up τ 198 12 0) = some (match ix (I r) 4 with | none => 0 | some _ => 1) := n_inN (by omega) (by omega) (show (3 : Int64).toInt = ((4 : Nat) : Int) - 1 by decide)
    rw [r3] at hin
    dsimp only at hin
    have e199 : (up (up τ 198 12 0) 198 20 0) 199 = f := by rw [up_n _ _ _ (by omega), up_n _ _ _ (by omega), S5.2.2.2.2 199 (by omega) (by omega), hf]
    rw [lt_d, hin, bnd_d, if_neg one_ne, lt_d, show (4 : Int32) * I r = I (4 * r) from I_mul 4 r, lt_d]
    obtain ⟨ρ1, t1, T1⟩ := r_first (r0 := r) e199 ho r1 (by show 0 < 30; omega) (RL.start (up τ 198 12 0) (fun _ => 0)) 7
    obtain ⟨ρ2, t2, T2⟩ := r_next' (r0 := r) (c := 4 * r) e199 ho r1 (by omega) (by omega) (by show 1 + 1 < 30; omega) T1 6
    obtain ⟨ρ3, t3, T3⟩ := r_next' (r0 := r) (c := 4 * r + 1) e199 ho r1 (by omega) (by omega) (by show 3 + 1 < 30; omega) T2 5
    obtain ⟨ρ, t4, T4⟩ := r_next' (r0 := r) (c := 4 * r + 2) e199 ho r1 (by omega) (by omega) (by show 5 + 1 < 30; omega) T3 4
    rw [t1, t2, t3, t4, f_X10_row_l32, show (4 : Int32) * I r = I (4 * r) from I_mul 4 r, I_a4, if_pos (Int32.le_refl _)]
    obtain ⟨x1, x2⟩ := R.line S5 T4
    exact ⟨_, ρ, rfl, x1, x2, T4.1⟩
  · have hc : ∀ x : Option ((Int32 ⊕ Nat) × Mm), (if a < 0 then (some (Sum.inr 3, σ) : Option ((Int32 ⊕ Nat) × Mm)) else if a < 4 then x else some (Sum.inr 3, σ)) = some (Sum.inr 3, σ) := fun x => by
      rcases r1 with r1 | r1
      · rw [if_pos r1]
      · by_cases q : a < 0
        · rw [if_pos q]
        · rw [if_neg q, if_neg (show ¬ a < 4 from fun z => absurd r1 (Int32.not_le.mpr z))]
    rw [hc]
    refine ⟨_, _, rfl, ?_⟩
    have hin : f_X10_in a.toInt64 0 3 (up σ 198 12 0) = some (match ix a 4 with | none => 0 | some _ => 1) := n_inN (by omega) (by omega) (show (3 : Int64).toInt = ((4 : Nat) : Int) - 1 by decide)
    rw [r3] at hin
    dsimp only at hin
    rw [lt_d, hin, bnd_d, if_pos rfl, r_thr, bnm_d]
    exact ⟨_, _, rfl, (R.thr 0).thr 1, Or.inl ⟨rfl, thr12 _ _⟩⟩
theorem n_in1' {a : Int32} {n : Nat} {σ : Mm} (hn : n < 2147483648) : f_X10_in a.toInt64 0 ((I n - 1).toInt64) σ = some (match ix a n with | none => 0 | some _ => 1) := by
  have h := n_in1 (a := a) (σ := σ) (Nat.le_refl n) hn
  obtain ⟨x, hx⟩ : ∃ x, f_X10_in a.toInt64 0 ((I n - 1).toInt64) σ = some x := by
    cases e : f_X10_in a.toInt64 0 ((I n - 1).toInt64) σ with
    | none => rw [e] at h; cases h
    | some x => exact ⟨x, rfl⟩
  rw [hx, bnd_d] at h
  rw [hx]
  unfold bz at h
  by_cases q : x &&& 1 = x
  · rw [if_pos q] at h; exact h
  · rw [if_neg q] at h; cases h
theorem q_character {σ : Mm} {B : Nat} (e2 : Nat) (R : RR B σ) (a : Int32) : ∃ out τ, f_X9_character a σ = some (out, τ) ∧ ∃ r ρ, f_X10_character a τ = some (r, ρ) ∧ RR B ρ ∧ same2 out 1 e2 r (ρ 198 12) := by
  obtain ⟨h1, K, k1, k2, k3, k4⟩ := R.2.2.2.2.2.2
  unfold f_X9_character f_X10_character f_J4_length_8abf5 f_J5_length_8abf5
  rw [k2, bnd_d, bnd_d]
  have e20 : (up σ 198 12 0) 198 20 = I K := by rw [up_e, upd_n _ _ (by omega)]; exact k3
  have hin := n_in1' (a := a) (n := K) (σ := up σ 198 12 0) (by omega)
  rcases ix_cases a (N := K) (by omega) with ⟨j, j1, rfl, j3⟩ | ⟨j1, j3⟩
  · obtain ⟨c, c1, c2, c3⟩ := k4 j j1
    rw [j3] at hin
    dsimp only at hin
    rw [if_neg (I_n0 (by omega)), if_pos ((I_lt (by omega) (by omega)).mpr j1)]
    unfold f_J4_charAt_5068e f_J5_charAt_5068e f_J0_checkIndex_df160 f_J3_checkIndex_8e157
    have ec : ((((I c) &&& 255).toUInt32 % 65536).toInt32) = I c := (by decide +kernel : ∀ c, c < 128 → ((((I c) &&& 255).toUInt32 % 65536).toInt32) = I c) c c1
    have ed : (((I c).toUInt32 % 65536).toInt32) = I c := (by decide +kernel : ∀ c, c < 128 → (((I c).toUInt32 % 65536).toInt32) = I c) c c1
    have e16 : (16 : Int32) >>> ((0 : Int32) &&& 31) = I 16 := by decide
    have mn : (if I 16 < I K then I 16 else I K) = I K := if_neg (fun z => by have := (I_lt (by omega) (by omega)).mp z; omega)
    rw [h1, lt_d, k2, e16, mn, lt_d, if_neg (I_n0 (by omega)), if_pos ((I_lt (by omega) (by omega)).mpr j1), bnd_d, bnd_d, if_pos rfl, gd_I (show j < 16 by omega) (by omega), I_clamp (by omega), c2, ec, cz_I (by omega), bnd_d, cz_I (by omega), bnd_d, cz_I (by omega)]
    refine ⟨_, _, rfl, ?_⟩
    rw [lt_d, e20, hin, bnd_d, if_neg one_ne, gd_I (show j < 30 by omega) (by omega), up_n _ _ _ (show 206 ≠ 198 by omega), c3, ed, cz_I (by omega)]
    exact ⟨_, _, rfl, R.thr 0, thr12 _ _, rfl⟩
  · rw [j3] at hin
    dsimp only at hin
    have hc : ∀ x : Option ((Int32 ⊕ Nat) × Mm), (if a < 0 then (some (Sum.inr 1, σ) : Option ((Int32 ⊕ Nat) × Mm)) else if a < I K then x else some (Sum.inr 1, σ)) = some (Sum.inr 1, σ) := fun x => by
      rcases j1 with j1 | j1
      · rw [if_pos j1]
      · by_cases q : a < 0
        · rw [if_pos q]
        · rw [if_neg q, if_neg (fun z => absurd j1 (Int32.not_le.mpr z))]
    rw [hc]
    refine ⟨_, _, rfl, ?_⟩
    rw [lt_d, e20, hin, bnd_d, if_pos rfl, r_thr, bnm_d]
    unfold cz
    rw [if_pos (by decide)]
    exact ⟨_, _, rfl, (R.thr 0).thr 1, Or.inl ⟨rfl, thr12 _ _⟩⟩
/-- with one exception only -/
theorem one_of {f : Option ((Int32 ⊕ Nat) × Mm)} {g : Mm → Option (Int32 × Mm)} {B e : Nat} (h : ∀ e2, ∃ out τ, f = some (out, τ) ∧ ∃ r ρ, g τ = some (r, ρ) ∧ RR B ρ ∧ same2 out e e2 r (ρ 198 12)) : ∃ out τ, f = some (out, τ) ∧ ∃ r ρ, g τ = some (r, ρ) ∧ RR B ρ ∧ same1 out e r (ρ 198 12) := by
  obtain ⟨out, τ, h1, r, ρ, h2, h3, h4⟩ := h 100
  obtain ⟨out', τ', g1, r', ρ', g2, g3, g4⟩ := h 101
  rw [h1] at g1
  cases g1
  rw [h2] at g2
  cases g2
  refine ⟨out, τ, h1, r, ρ, h2, h3, ?_⟩
  match out, h4, g4 with
  | .inl a, h4, _ => exact h4
  | .inr k, h4, g4 =>
    rcases h4 with h4 | h4
    · exact h4
    · rcases g4 with g4 | g4
      · exact g4
      · exact absurd (h4.1.symm.trans g4.1) (by decide)
end
section
theorem zz_end : True := trivial
end
