abbrev vwCl : List vw_C := [(RJ0, TJ0, 4), (RJ4, TJ4, 4), (RJx00060, TJx00060, 6), (RJx7c733, TJx7c733, 6), (RX0, TX0, 8), (RX1, TX1, 4), (RX2, TX2, 3), (RX3, TX3, 3), (RX4, TX4, 1), (RX5, TX5, 3), (RX6, TX6, 9), (RX7, TX7, 8), (RX8, TX8, 3), (RX9, TX9, 10), (RX10, TX10, 21)]
/-! THE WORLD: all cells of the class's object and of the reference's object, by number; what they hold is a memory of whole numbers. -/
abbrev Mm : Type := Nat → Nat → Int32
def up (σ : Mm) (i k : Nat) (v : Int32) : Mm := fun a => if a = i then upd (σ i) k v else σ a
/-- classes, array classes, addresses (from 300 on: statics' arrays and texts; 700, 701: what the out cells hold) -/
abbrev Gd : Type := va_G × (Nat → ClassId) × (Nat → Nat)
abbrev NN : Nat := 209
def kdS (o : Nat) : Nat := if o = 0 then 0 else if o = 1 then 1 else if o = 2 then 2 else if o = 3 then 3 else if o < 8 then 4 else if o = 8 then 5 else 6
def kdR (o : Nat) : Nat := [7, 8, 9, 10, 11, 12, 12, 13, 14, 15, 16, 17].getD o (if o < 42 then 18 else [19, 20, 21, 22, 22, 22, 23, 24, 12, 25, 26, 27, 28].getD (o - 42) 99)
/-- the kind of a cell -/
def kd (i : Nat) : Nat := if i < 154 then kdS (i % 14) else kdR (i - 154)
def iArr (G : Gd) (n : Nat) (f : Nat → Int32) : va_E := .inl (G.2.1 0, n, .inl f)
def rArr (G : Gd) (t n : Nat) (g : Nat → Nat) : va_E := .inl (G.2.1 t, n, .inr (.inr (.inr (.inr (fun j => if j < n then some (G.2.2 (g j)) else none)))))
/-- what a cell of a kind holds -/
def cellK (k : Nat) (G : Gd) (i : Nat) (f : Nat → Int32) : va_E := match k with
  | 0 => .inr (10, [.ref (G.2.2 (i + 1)), .ref (G.2.2 (i + 3)), .ref (G.2.2 (i + 8)), .int (f 3), .int (f 4), .int (f 5), .int (f 6), .int (f 7), .int (f 8)])
  | 1 => .inr (8, [.ref (G.2.2 (i + 1))])
  | 2 => iArr G 24 f
  | 3 => rArr G 3 4 (fun j => i + 1 + j)
  | 4 => .inr (5, [.int (f 0), .int (f 1), .int (f 2), .int (f 3)])
  | 5 => rArr G 4 5 (fun j => i + 1 + j)
  | 6 => .inr (11, [.int (f 0), .int (f 1), .int (f 2), .int (f 3), .int (f 4), .int (f 5), .int (f 6), .int (f 7)])
  | 7 => .inr (13, [.ref (G.2.2 0), .ref (G.2.2 14), .ref (G.2.2 28), .int (f 3), .ref (G.2.2 155), .ref (G.2.2 157), .ref (G.2.2 158), .ref (G.2.2 161), .ref (G.2.2 162), .ref (G.2.2 196)])
  | 8 => .inr (6, [.ref (G.2.2 156), .int (f 1), .int (f 2)])
  | 9 => rArr G 5 8 (fun j => 42 + 14 * j)
  | 10 => .inr (9, [.int (f 0), .int (f 1), .int (f 2)])
  | 11 => .inr (12, [.ref (G.2.2 1), .ref (G.2.2 159), .ref (G.2.2 160)])
  | 12 => iArr G 16 f
  | 13 => .inr (7, [.ref (G.2.2 0), .ref (G.2.2 158), .ref (G.2.2 157)])
  | 14 => .inr (4, [.ref (G.2.2 163), .ref (G.2.2 164), .ref (G.2.2 165), .int (f 3), .int (f 4), .int (f 5), .int (f 6), .int (f 7)])
  | 15 => .inl (G.2.1 1, 60, .inl f)
  | 16 => .inl (G.2.1 1, 30, .inl f)
  | 17 => rArr G 6 30 (fun j => 166 + j)
  | 18 => iArr G 3 f
  | 19 => .inr (1, [.ref (G.2.2 197), .int (f 1), .int (f 2), .int (f 3)])
  | 20 => .inl (G.2.1 2, 16, .inl f)
  | 21 => .inr (14, [.ref (G.2.2 199), .ref (G.2.2 200), .ref (G.2.2 201), .int (f 3), .ref (G.2.2 202), .int (f 5), .int (f 6), .int (f 7), .int (f 8), .int (f 9), .ref (G.2.2 203), .int (f 11), .int (f 12), .ref (G.2.2 204), .ref (G.2.2 205), .int (f 15), .int (f 16), .int (f 17), .int (f 18), .ref (G.2.2 206), .int (f 20)])
  | 22 => iArr G 86 f
  | 23 => iArr G 688 f
  | 24 => iArr G 60 f
  | 25 => iArr G 244 f
  | 27 => .inl (G.2.1 7, 1, .inr (.inl (fun _ => Int64.ofNat (G.2.2 700))))
  | 28 => .inl (G.2.1 8, 1, .inr (.inr (.inr (.inl (fun _ => UInt64.ofNat (G.2.2 701))))))
  | _ => iArr G 30 f
def tyl (G : Gd) : List (ClassId × FieldType) := [(G.2.1 0, .int), (G.2.1 1, .char), (G.2.1 2, .byte), (G.2.1 3, .object RX1), (G.2.1 4, .object RX7), (G.2.1 5, .object RX6), (G.2.1 6, .array .int), (G.2.1 7, .long), (G.2.1 8, .double)]
def wd (G : Gd) (σ : Mm) : va_W := (List.range NN).map (fun i => (G.2.2 i, cellK (kd i) G i (σ i)))
def AA (G : Gd) (sz : Nat) : Nat → Prop := fun q => (∃ i, i < NN ∧ q = G.2.2 i) ∨ sz ≤ q
def IJ (G : Gd) : Prop := ∀ i j, i < NN → j < NN → G.2.2 i = G.2.2 j → i = j
def lowC (j : Nat) : Int32 := ([0, 1, 2, 4, 5, 6, 8, 9, 10, 12, 13, 14, 0, 1, 2, 3, 4, 5, 6, 7, 8, 9, 10, 11] : List Int32).getD j 0
def uppC (j : Nat) : Int32 := ([1, 2, 3, 5, 6, 7, 9, 10, 11, 13, 14, 15, 4, 5, 6, 7, 8, 9, 10, 11, 12, 13, 14, 15] : List Int32).getD j 0
def digT (j : Nat) : Int32 := Int32.ofNat (48 + j / 10)
def digO (j : Nat) : Int32 := Int32.ofNat (48 + j % 10)
/-- the words on private members of nest mates -/
def nwF : List (String × Nat × String × String × String) := [("MazeBonds", 42, "MazeBonds$State", "maze", "LMazeBonds$Maze;"), ("MazeBonds", 194, "MazeBonds$Gardener", "coins", "I"), ("MazeBonds", 203, "MazeBonds$Gardener", "premiums", "I"), ("MazeBonds", 206, "MazeBonds$Gardener", "paid", "I"), ("MazeBonds", 209, "MazeBonds$Gardener", "trimmed", "I"), ("MazeBonds", 228, "MazeBonds$Visitor", "giver", "I"), ("MazeBonds", 234, "MazeBonds$Visitor", "isOut", "Z"), ("MazeBonds", 239, "MazeBonds$Visitor", "cell", "I"), ("MazeBonds", 263, "MazeBonds$State", "visitorCount", "I"), ("MazeBonds", 271, "MazeBonds$State", "gardenerCount", "I"), ("MazeBonds", 277, "MazeBonds$CommandText", "length", "I"), ("MazeBonds", 295, "MazeBonds$CommandText", "count", "I"), ("MazeBonds", 302, "MazeBonds$Refusal", "command", "I"), ("MazeBonds", 307, "MazeBonds$CommandText", "fault", "I"), ("MazeBonds", 312, "MazeBonds$Refusal", "number", "I"), ("MazeBonds", 317, "MazeBonds$Refusal", "detail", "I"), ("MazeBonds", 336, "MazeBonds$Visitor", "spent", "I"), ("MazeBonds", 342, "MazeBonds$Visitor", "rate", "I"), ("MazeBonds", 345, "MazeBonds$Visitor", "isVoid", "Z"), ("MazeBonds", 352, "MazeBonds$State", "minotaur", "I"), ("MazeBonds", 379, "MazeBonds$State", "summers", "I"), ("MazeBonds", 382, "MazeBonds$State", "brought", "I"), ("MazeBonds", 385, "MazeBonds$State", "spentOnTrimming", "I"), ("MazeBonds", 391, "MazeBonds$History", "count", "I"), ("MazeBonds$Keeper", 71, "MazeBonds$State", "maze", "LMazeBonds$Maze;"), ("MazeBonds$Keeper", 104, "MazeBonds$State", "summers", "I"), ("MazeBonds$Keeper", 112, "MazeBonds$State", "gardenerCount", "I"), ("MazeBonds$Keeper", 115, "MazeBonds$Gardener", "coins", "I"), ("MazeBonds$Keeper", 120, "MazeBonds$Gardener", "trimmed", "I"), ("MazeBonds$Keeper", 123, "MazeBonds$State", "spentOnTrimming", "I"), ("MazeBonds$Keeper", 126, "MazeBonds$State", "minotaur", "I"), ("MazeBonds$Keeper", 129, "MazeBonds$State", "visitorCount", "I"), ("MazeBonds$Keeper", 132, "MazeBonds$State", "visitors", "[LMazeBonds$Visitor;"), ("MazeBonds$Keeper", 151, "MazeBonds$State", "gardeners", "[LMazeBonds$Gardener;"), ("MazeBonds$Keeper", 159, "MazeBonds$State", "brought", "I"), ("MazeBonds$Keeper", 181, "MazeBonds$Visitor", "isOut", "Z"), ("MazeBonds$Keeper", 185, "MazeBonds$Visitor", "spent", "I"), ("MazeBonds$Keeper", 192, "MazeBonds$Visitor", "giver", "I"), ("MazeBonds$Keeper", 195, "MazeBonds$Visitor", "coins", "I"), ("MazeBonds$Keeper", 199, "MazeBonds$Gardener", "premiums", "I"), ("MazeBonds$Keeper", 202, "MazeBonds$Visitor", "cell", "I"), ("MazeBonds$Keeper", 220, "MazeBonds$Gardener", "paid", "I"), ("MazeBonds$State", 61, "MazeBonds$Visitor", "giver", "I"), ("MazeBonds$State", 81, "MazeBonds$Gardener", "coins", "I"), ("MazeBonds$Ways", 56, "MazeBonds$Maze", "UPPER_CELL", "[I"), ("MazeBonds$Ways", 59, "MazeBonds$Maze", "LOWER_CELL", "[I")]
def nwM : List (String × Nat × MethodName) := [("MazeBonds", 35, ⟨"MazeBonds$Refusal", "<init>", "()V"⟩), ("MazeBonds$State", 28, ⟨"MazeBonds$Gardener", "<init>", "()V"⟩)]
/-- the texts of the class: owner, place, text -/
def txs : List (String × Nat × String) := [("MazeBonds", 116, "the call is refused"), ("MazeBonds", 183, "there is no such cell"), ("MazeBonds", 186, "the cells are no neighbours"), ("MazeBonds", 188, "there is no way"), ("MazeBonds", 157, "there is no way, or it is the exit"), ("MazeBonds", 251, "there is no such gardener"), ("MazeBonds", 214, "what is not from 0 to 4"), ("MazeBonds", 256, "there is no such visitor"), ("MazeBonds", 221, "what is not from 0 to 8"), ("MazeBonds", 237, "the visitor is out or has no bond"), ("MazeBonds", 269, "there is no such place"), ("MazeBonds", 261, "there is no such measure"), ("MazeBonds", 282, "the buffer is full"), ("MazeBonds$CommandText", 63, "N-N=D"), ("MazeBonds$CommandText", 65, ""), ("MazeBonds$CommandText", 67, "D:N-N"), ("MazeBonds$CommandText", 69, "X"), ("MazeBonds$CommandText", 71, "N"), ("MazeBonds$CommandText", 73, "D>D*D"), ("MazeBonds$CommandText", 75, "DW"), ("MazeBonds$CommandText", 77, "D+D"), ("MazeBonds", 293, "the text has a fault"), ("MazeBonds", 305, "a command is refused"), ("MazeBonds", 310, "what is not from 0 to 2"), ("MazeBonds", 315, "nothing was refused"), ("MazeBonds", 324, "out"), ("MazeBonds", 350, "there is no such row"), ("MazeBonds", 358, "there is no such index"), ("MazeBonds", 366, "there are no visitors"), ("MazeBonds", 392, "what is not from 0 to 11"), ("MazeBonds", 394, "there is nothing to undo"), ("MazeBonds", 399, "there is no snapshot")]
def txB (k : Nat) : List Int32 := ((txs.getD k ("", 0, "")).2.2.toList.map (fun c => Int32.ofNat c.toNat))
/-- the classes whose exceptions are thrown, and their texts' constructors -/
def exC : List String := ["java/lang/UnsupportedOperationException", "java/lang/IndexOutOfBoundsException", "java/util/NoSuchElementException", "java/lang/IllegalArgumentException", "java/lang/IllegalStateException", "java/lang/ArithmeticException"]
def exn (n : Nat) : String := exC.getD n ""
def exP : List (String × String) := [("java/util/NoSuchElementException", "java/lang/IndexOutOfBoundsException"), ("java/lang/IllegalArgumentException", "java/lang/IndexOutOfBoundsException"), ("java/util/NoSuchElementException", "java/lang/IllegalArgumentException"), ("java/lang/UnsupportedOperationException", "java/lang/IllegalArgumentException")]
def exD : List String := ["java/lang/RuntimeException", "java/lang/Exception", "java/lang/Throwable"]
/-- what the world stands on: words, statics, texts; none of it is ever written -/
def EV (G : Gd) (A : Nat → Prop) (U : State) (H : Heap) : Prop :=
  (∀ q ∈ nwF, va_Nw (.fieldLinkNest q.1 q.2.1 q.2.2.1 q.2.2.2.1 q.2.2.2.2 "MazeBonds") U) ∧ (∀ q ∈ nwM, va_Nw (.methodLinkNest q.1 q.2.1 q.2.2 "MazeBonds") U) ∧
  ((∀ q ∈ exC, va_Nw (.castable q q) U) ∧ (∀ q ∈ exD, va_Nw (.declares ⟨q, "<init>", "(Ljava/lang/String;)V"⟩) U) ∧ (∀ q ∈ exP, va_Nc q.1 q.2 U)) ∧
  (vx_Zq Bundle.tN "UNASSIGNED_STACK" Bundle.steD A U H ∧ vx_Zq Bundle.tN "SUPPRESSED_SENTINEL" Bundle.listD A U H) ∧
  (va_Z "MazeBonds$Maze" "LOWER_CELL" "[I" (.ref (G.2.2 300)) A U H ∧ va_T .int (G.2.2 300) 24 (fun j => .int (lowC j)) A U H) ∧
  (va_Z "MazeBonds$Maze" "UPPER_CELL" "[I" (.ref (G.2.2 301)) A U H ∧ va_T .int (G.2.2 301) 24 (fun j => .int (uppC j)) A U H) ∧
  (va_Z "java/lang/Integer" "DigitTens" "[B" (.ref (G.2.2 302)) A U H ∧ va_T .byte (G.2.2 302) 100 (fun j => .int (digT j)) A U H) ∧
  (va_Z "java/lang/Integer" "DigitOnes" "[B" (.ref (G.2.2 303)) A U H ∧ va_T .byte (G.2.2 303) 100 (fun j => .int (digO j)) A U H) ∧
  (va_Z "java/lang/String" "COMPACT_STRINGS" "Z" (.int 1) A U H ∧ va_Zq "jdk/internal/util/Preconditions" "SIOOBE_FORMATTER" "Ljava/util/function/BiFunction;" A U H) ∧
  ∀ k, k < txs.length → vk_R (txs.getD k ("", 0, "")).1 (txs.getD k ("", 0, "")).2.1 (txs.getD k ("", 0, "")).2.2 (G.2.2 (400 + k)) U ∧ va_O "java/lang/String" (G.2.2 (400 + k)) A U H ∧ va_OF "java/lang/String" "coder" "B" (.int 0) (G.2.2 (400 + k)) A U H ∧ va_OF "java/lang/String" "value" "[B" (.ref (G.2.2 (500 + k))) (G.2.2 (400 + k)) A U H ∧ va_T .byte (G.2.2 (500 + k)) (txB k).length (fun j => .int ((txB k).getD j 0)) A U H
theorem Nw_warmC {q : String} {s U : State} (hW : s.WarmedH U.vm) (h : va_Nw (.castable q q) s) : va_Nw (.castable q q) U := va_tabs rfl (rfl : (s.setVm U.vm).vm = U.vm) (by rw [Cond.castable_setVm hW.alike]; exact h)
theorem EV.kept {G : Gd} {A : Nat → Prop} {U : State} {H H1 : Heap} (h : EV G A U H) (hq : ∀ a : Nat, a < H.size → ¬ A a → H1[a]? = H[a]?) : EV G A U H1 := by
  obtain ⟨h1, h2, ⟨h15, h16, h18⟩, ⟨h3, h4⟩, ⟨h5, h6⟩, ⟨h7, h8⟩, ⟨h9, h10⟩, ⟨h11, h12⟩, ⟨h13, h17⟩, h14⟩ := h
  exact ⟨h1, h2, ⟨h15, h16, h18⟩, ⟨h3.kept hq, h4.kept hq⟩, ⟨h5.kept hq, h6.kept hq⟩, ⟨h7.kept hq, h8.kept hq⟩, ⟨h9.kept hq, h10.kept hq⟩, ⟨h11.kept hq, h12.kept hq⟩, ⟨h13.kept hq, va_Zq.kept h17 hq⟩,
    fun k hk => ⟨(h14 k hk).1, (h14 k hk).2.1.kept hq, (h14 k hk).2.2.1.kept hq, (h14 k hk).2.2.2.1.kept hq, (h14 k hk).2.2.2.2.kept hq⟩⟩
theorem EV.narrow {G : Gd} {A B : Nat → Prop} {U : State} {H : Heap} (h : EV G A U H) (hAB : ∀ q, B q → A q) : EV G B U H := by
  obtain ⟨h1, h2, ⟨h15, h16, h18⟩, ⟨h3, h4⟩, ⟨h5, h6⟩, ⟨h7, h8⟩, ⟨h9, h10⟩, ⟨h11, h12⟩, ⟨h13, h17⟩, h14⟩ := h
  exact ⟨h1, h2, ⟨h15, h16, h18⟩, ⟨h3.narrow hAB, h4.narrow hAB⟩, ⟨h5.narrow hAB, h6.narrow hAB⟩, ⟨h7.narrow hAB, h8.narrow hAB⟩, ⟨h9.narrow hAB, h10.narrow hAB⟩, ⟨h11.narrow hAB, h12.narrow hAB⟩, ⟨h13.narrow hAB, va_Zq.narrow h17 hAB⟩,
    fun k hk => ⟨(h14 k hk).1, (h14 k hk).2.1.narrow hAB, (h14 k hk).2.2.1.narrow hAB, (h14 k hk).2.2.2.1.narrow hAB, (h14 k hk).2.2.2.2.narrow hAB⟩⟩
theorem EV.warm {G : Gd} {A : Nat → Prop} {s U : State} {H : Heap} (hW : s.WarmedH U.vm) (h : EV G A s H) : EV G A U H := by
  obtain ⟨h1, h2, ⟨h15, h16, h18⟩, ⟨h3, h4⟩, ⟨h5, h6⟩, ⟨h7, h8⟩, ⟨h9, h10⟩, ⟨h11, h12⟩, ⟨h13, h17⟩, h14⟩ := h
  have a := hW.alike
  exact ⟨fun q hq => va_Nw.warmF hW (h1 q hq), fun q hq => va_Nw.warmM hW (h2 q hq), ⟨fun q hq => Nw_warmC hW (h15 q hq), fun q hq => va_Nw.warmD hW (h16 q hq), fun q hq => va_Nc.moved a (h18 q hq)⟩, ⟨h3.moved a, h4.moved a⟩, ⟨h5.moved a, h6.moved a⟩, ⟨h7.moved a, h8.moved a⟩, ⟨h9.moved a, h10.moved a⟩, ⟨h11.moved a, h12.moved a⟩, ⟨h13.moved a, va_Zq.moved a h17⟩,
    fun k hk => ⟨vk_R.warm hW (h14 k hk).1, (h14 k hk).2.1.moved a, (h14 k hk).2.2.1.moved a, (h14 k hk).2.2.2.1.moved a, (h14 k hk).2.2.2.2.moved a⟩⟩
theorem EV.same {G : Gd} {A : Nat → Prop} {u U : State} {H : Heap} (hv : U.vm = u.vm) (h : EV G A u H) : EV G A U H := by
  obtain ⟨h1, h2, ⟨h15, h16, h18⟩, ⟨h3, h4⟩, ⟨h5, h6⟩, ⟨h7, h8⟩, ⟨h9, h10⟩, ⟨h11, h12⟩, ⟨h13, h17⟩, h14⟩ := h
  have a : u.vm.Alike U.vm := by rw [hv]; exact Vm.Alike.refl _
  exact ⟨fun q hq => va_Nw.same rfl hv.symm (h1 q hq), fun q hq => va_Nw.same rfl hv.symm (h2 q hq), ⟨fun q hq => va_Nw.same rfl hv.symm (h15 q hq), fun q hq => va_Nw.same rfl hv.symm (h16 q hq), fun q hq => va_Nc.moved a (h18 q hq)⟩, ⟨h3.moved a, h4.moved a⟩, ⟨h5.moved a, h6.moved a⟩, ⟨h7.moved a, h8.moved a⟩, ⟨h9.moved a, h10.moved a⟩, ⟨h11.moved a, h12.moved a⟩, ⟨h13.moved a, va_Zq.moved a h17⟩,
    fun k hk => ⟨vk_R.same hv (h14 k hk).1, (h14 k hk).2.1.moved a, (h14 k hk).2.2.1.moved a, (h14 k hk).2.2.2.1.moved a, (h14 k hk).2.2.2.2.moved a⟩⟩
theorem wd_get {G : Gd} {σ : Mm} {i : Nat} (hi : i < NN) : (wd G σ)[i]? = some (G.2.2 i, cellK (kd i) G i (σ i)) := by
  unfold wd
  rw [List.getElem?_map, List.getElem?_range hi]
  rfl
theorem wd_set {G : Gd} {σ : Mm} {i : Nat} (hi : i < NN) {e : va_E} {f : Nat → Int32} (he : e = cellK (kd i) G i f) : (wd G σ).set i (G.2.2 i, e) = wd G (fun a => if a = i then f else σ a) := by
  apply List.ext_getElem?
  intro j
  rw [List.getElem?_set]
  by_cases hj : j < NN
  · rw [wd_get hj, wd_get hj]
    by_cases h : i = j
    · subst h
      rw [if_pos rfl, if_pos (by unfold wd; simpa using hi), if_pos rfl, he]
    · rw [if_neg h, if_neg (fun q => h q.symm)]
  · have e1 : ∀ τ : Mm, (wd G τ)[j]? = none := fun τ => by
      rw [List.getElem?_eq_none_iff]; unfold wd; simpa using Nat.not_lt.mp hj
    rw [e1, e1, if_neg (fun q : i = j => hj (q ▸ hi))]
theorem wd_D {G : Gd} (J : IJ G) (sz : Nat) (σ : Mm) : va_D (AA G sz) (wd G σ) := by
  have key : ∀ (i : Nat) (p : Nat × va_E), (wd G σ)[i]? = some p → i < NN ∧ p.1 = G.2.2 i := by
    intro i p h
    have hi : i < NN := by
      have := (List.getElem?_eq_some_iff.mp h).1
      unfold wd at this
      simpa using this
    rw [wd_get hi] at h
    exact ⟨hi, by rw [← Option.some.inj h]⟩
  refine ⟨fun i j p q hp hq e => ?_, fun k q hq => ?_⟩
  · obtain ⟨a1, a2⟩ := key i p hp
    obtain ⟨b1, b2⟩ := key j q hq
    exact J i j a1 b1 (by rw [← a2, ← b2, e])
  · obtain ⟨a1, a2⟩ := key k q hq
    exact Or.inl ⟨k, a1, a2⟩
/-- the memory σ lies in the heap H -/
def HW (G : Gd) (σ : Mm) (H : Heap) : Prop := va_P G.1 vwCl (wd G σ) H
/-- a method's start -/
def PW (G : Gd) (σ : Mm) (sz : Nat) (U : State) : Prop := U.heap.size = sz ∧ HW G σ U.heap ∧ va_K G.1 vwCl (tyl G) U ∧ IJ G ∧ EV G (AA G sz) U U.heap
theorem PW.blind {G : Gd} {σ : Mm} {sz : Nat} {As : List Value} : FrameBlind (va_Pc As (PW G σ sz)) := by
  intro a U g mk h
  obtain ⟨h0, h1, h2, h3, h4, h5⟩ := h
  exact ⟨h0, h1, h2, va_K.moved (u := U) (U := U.calling g mk a) (Vm.Alike.refl U.vm) h3, h4, EV.same (u := U) (U := U.calling g mk a) rfl h5⟩
/-- what holds of a method's start all along -/
def Fx (G : Gd) (s : State) : Prop := va_K G.1 vwCl (tyl G) s ∧ IJ G ∧ EV G (AA G s.heap.size) s s.heap
/-- where a walk stands -/
def Bd (G : Gd) (σ : Mm) (s : State) (H : Heap) (locs : List Loc) : Prop := HW G σ H ∧ va_S (AA G s.heap.size) s.heap H locs
theorem AA_sub {G : Gd} {a b : Nat} (h : a ≤ b) : ∀ q, AA G b q → AA G a q := fun q h1 => h1.elim Or.inl (fun h2 => Or.inr (Nat.le_trans h h2))
theorem PW.to {G : Gd} {σ : Mm} {s : State} (h : PW G σ s.heap.size s) : Fx G s ∧ Bd G σ s s.heap [] := ⟨⟨h.2.2.1, h.2.2.2.1, h.2.2.2.2⟩, h.2.1, va_S.rf⟩
/-- a callee's start, seen from its caller -/
theorem PW.call {G : Gd} {σ : Mm} {s : State} {H : Heap} {locs : List Loc} (F : Fx G s) (B : Bd G σ s H locs) (U : State) (hU : U.heap = H) (hW : s.WarmedH U.vm) : PW G σ H.size U := by
  refine ⟨by rw [hU], by rw [hU]; exact B.1, va_K.moved hW.alike F.1, F.2.1, ?_⟩
  rw [hU]
  exact EV.warm hW ((F.2.2.kept B.2.2.1).narrow (AA_sub B.2.1))
theorem AA_free {G : Gd} {σ : Mm} {s : State} {H : Heap} {locs : List Loc} (B : Bd G σ s H locs) : ∀ q, AA G H.size q → AA G s.heap.size q := AA_sub B.2.1

theorem Fx.nf {G : Gd} {s : State} (F : Fx G s) : ∀ q ∈ nwF, va_Nw (.fieldLinkNest q.1 q.2.1 q.2.2.1 q.2.2.2.1 q.2.2.2.2 "MazeBonds") s := F.2.2.1
theorem Fx.nm {G : Gd} {s : State} (F : Fx G s) : ∀ q ∈ nwM, va_Nw (.methodLinkNest q.1 q.2.1 q.2.2 "MazeBonds") s := F.2.2.2.1
theorem Fx.cst {G : Gd} {s : State} (F : Fx G s) : ∀ q ∈ exC, va_Nw (.castable q q) s := F.2.2.2.2.1.1
theorem Fx.dcl {G : Gd} {s : State} (F : Fx G s) : ∀ q ∈ exD, va_Nw (.declares ⟨q, "<init>", "(Ljava/lang/String;)V"⟩) s := F.2.2.2.2.1.2.1
theorem Fx.ncs {G : Gd} {s : State} (F : Fx G s) : ∀ q ∈ exP, va_Nc q.1 q.2 s := F.2.2.2.2.1.2.2
theorem Fx.una {G : Gd} {s : State} (F : Fx G s) : vx_Zq Bundle.tN "UNASSIGNED_STACK" Bundle.steD (AA G s.heap.size) s s.heap := F.2.2.2.2.2.1.1
theorem Fx.sup {G : Gd} {s : State} (F : Fx G s) : vx_Zq Bundle.tN "SUPPRESSED_SENTINEL" Bundle.listD (AA G s.heap.size) s s.heap := F.2.2.2.2.2.1.2
theorem Fx.low {G : Gd} {s : State} (F : Fx G s) : va_Z "MazeBonds$Maze" "LOWER_CELL" "[I" (.ref (G.2.2 300)) (AA G s.heap.size) s s.heap ∧ va_T .int (G.2.2 300) 24 (fun j => .int (lowC j)) (AA G s.heap.size) s s.heap := F.2.2.2.2.2.2.1
theorem Fx.upp {G : Gd} {s : State} (F : Fx G s) : va_Z "MazeBonds$Maze" "UPPER_CELL" "[I" (.ref (G.2.2 301)) (AA G s.heap.size) s s.heap ∧ va_T .int (G.2.2 301) 24 (fun j => .int (uppC j)) (AA G s.heap.size) s s.heap := F.2.2.2.2.2.2.2.1
theorem Fx.ten {G : Gd} {s : State} (F : Fx G s) : va_Z "java/lang/Integer" "DigitTens" "[B" (.ref (G.2.2 302)) (AA G s.heap.size) s s.heap ∧ va_T .byte (G.2.2 302) 100 (fun j => .int (digT j)) (AA G s.heap.size) s s.heap := F.2.2.2.2.2.2.2.2.1
theorem Fx.one {G : Gd} {s : State} (F : Fx G s) : va_Z "java/lang/Integer" "DigitOnes" "[B" (.ref (G.2.2 303)) (AA G s.heap.size) s s.heap ∧ va_T .byte (G.2.2 303) 100 (fun j => .int (digO j)) (AA G s.heap.size) s s.heap := F.2.2.2.2.2.2.2.2.2.1
theorem Fx.cmp {G : Gd} {s : State} (F : Fx G s) : va_Z "java/lang/String" "COMPACT_STRINGS" "Z" (.int 1) (AA G s.heap.size) s s.heap := F.2.2.2.2.2.2.2.2.2.2.1.1
theorem Fx.sio {G : Gd} {s : State} (F : Fx G s) : va_Zq "jdk/internal/util/Preconditions" "SIOOBE_FORMATTER" "Ljava/util/function/BiFunction;" (AA G s.heap.size) s s.heap := F.2.2.2.2.2.2.2.2.2.2.1.2
theorem Fx.txt {G : Gd} {s : State} (F : Fx G s) : ∀ k, k < txs.length → vk_R (txs.getD k ("", 0, "")).1 (txs.getD k ("", 0, "")).2.1 (txs.getD k ("", 0, "")).2.2 (G.2.2 (400 + k)) s ∧ va_O "java/lang/String" (G.2.2 (400 + k)) (AA G s.heap.size) s s.heap ∧ va_OF "java/lang/String" "coder" "B" (.int 0) (G.2.2 (400 + k)) (AA G s.heap.size) s s.heap ∧ va_OF "java/lang/String" "value" "[B" (.ref (G.2.2 (500 + k))) (G.2.2 (400 + k)) (AA G s.heap.size) s s.heap ∧ va_T .byte (G.2.2 (500 + k)) (txB k).length (fun j => .int ((txB k).getD j 0)) (AA G s.heap.size) s s.heap := F.2.2.2.2.2.2.2.2.2.2.2
/-! kinds of cells -/
theorem kq {i kc : Nat} (h : (kd i == kc && decide (i < NN)) = true) : kd i = kc ∧ i < NN := by
  rw [Bool.and_eq_true] at h
  exact ⟨eq_of_beq h.1, of_decide_eq_true h.2⟩
theorem kgG {x : Int32} (h : vp_in x 4) : kd (3 + 1 + x.toNatClampNeg) = 4 ∧ 3 + 1 + x.toNatClampNeg < NN := by
  have h := Nat.not_le.mp fun q => h (Or.inr q)
  generalize x.toNatClampNeg = j at h
  exact (by decide : ∀ j, j < 4 → kd (3 + 1 + j) = 4 ∧ 3 + 1 + j < NN) j h
theorem kgV {x : Int32} (h : vp_in x 5) : kd (8 + 1 + x.toNatClampNeg) = 6 ∧ 8 + 1 + x.toNatClampNeg < NN := by
  have h := Nat.not_le.mp fun q => h (Or.inr q)
  generalize x.toNatClampNeg = j at h
  exact (by decide : ∀ j, j < 5 → kd (8 + 1 + j) = 6 ∧ 8 + 1 + j < NN) j h
theorem kgN {x : Int32} (h : vp_in x 30) : kd (166 + x.toNatClampNeg) = 18 ∧ 166 + x.toNatClampNeg < NN := by
  have h := Nat.not_le.mp fun q => h (Or.inr q)
  generalize x.toNatClampNeg = j at h
  exact (by decide : ∀ j, j < 30 → kd (166 + j) = 18 ∧ 166 + j < NN) j h
/-- a State stands at i -/
def isS (i : Nat) : Prop := ∃ j, j < 11 ∧ i = 14 * j
theorem isS.all {i : Nat} (h : isS i) {P : Nat → Prop} (hP : ∀ j, j < 11 → P (14 * j)) : P i := by
  obtain ⟨j, hj, rfl⟩ := h
  exact hP j hj
theorem isS.k0 {i : Nat} (h : isS i) : kd i = 0 ∧ i < NN := h.all (P := fun i => kd i = 0 ∧ i < NN) (by decide)
theorem isS.t1 {i : Nat} (h : isS i) : kd (i + 1) = 1 ∧ i + 1 < NN := h.all (P := fun i => kd (i + 1) = 1 ∧ i + 1 < NN) (by decide)
theorem isS.t2 {i : Nat} (h : isS i) : kd (i + 1 + 1) = 2 ∧ i + 1 + 1 < NN := h.all (P := fun i => kd (i + 1 + 1) = 2 ∧ i + 1 + 1 < NN) (by decide)
theorem isS.t3 {i : Nat} (h : isS i) : kd (i + 3) = 3 ∧ i + 3 < NN := h.all (P := fun i => kd (i + 3) = 3 ∧ i + 3 < NN) (by decide)
theorem isS.t5 {i : Nat} (h : isS i) : kd (i + 8) = 5 ∧ i + 8 < NN := h.all (P := fun i => kd (i + 8) = 5 ∧ i + 8 < NN) (by decide)
theorem isS.e4 {i : Nat} (h : isS i) {x : Int32} (hx : vp_in x 4) : kd (i + 3 + 1 + x.toNatClampNeg) = 4 ∧ i + 3 + 1 + x.toNatClampNeg < NN := by
  have hx := Nat.not_le.mp fun q => hx (Or.inr q)
  generalize x.toNatClampNeg = j at hx
  exact h.all (P := fun i => ∀ j, j < 4 → kd (i + 3 + 1 + j) = 4 ∧ i + 3 + 1 + j < NN) (by decide) j hx
theorem isS.e6 {i : Nat} (h : isS i) {x : Int32} (hx : vp_in x 5) : kd (i + 8 + 1 + x.toNatClampNeg) = 6 ∧ i + 8 + 1 + x.toNatClampNeg < NN := by
  have hx := Nat.not_le.mp fun q => hx (Or.inr q)
  generalize x.toNatClampNeg = j at hx
  exact h.all (P := fun i => ∀ j, j < 5 → kd (i + 8 + 1 + j) = 6 ∧ i + 8 + 1 + j < NN) (by decide) j hx
theorem kgS {x : Int32} (h : vp_in x 8) : isS (42 + 14 * x.toNatClampNeg) := by
  have h := Nat.not_le.mp fun q => h (Or.inr q)
  exact ⟨3 + x.toNatClampNeg, by omega, by omega⟩
theorem isS0 : isS 0 := ⟨0, by decide, rfl⟩
theorem isS14 : isS 14 := ⟨1, by decide, rfl⟩
theorem isS28 : isS 28 := ⟨2, by decide, rfl⟩
/-! the words that the functions of the memory are written in -/
def lt {α β : Type} (a : α) (f : α → β) : β := f a
theorem lt_ {α β : Type} {a : α} {f : α → Option β} {o : β} (h : lt a f = some o) : ∃ x, x = a ∧ f x = some o := ⟨a, rfl, h⟩
def gd {α : Type} (x : Int32) (n : Nat) (a : Option α) : Option α := if x < 0 ∨ n ≤ x.toNatClampNeg then none else a
theorem gd_ {α : Type} {x : Int32} {n : Nat} {a : Option α} {o : α} (h : gd x n a = some o) : vp_in x n ∧ a = some o := by
  unfold gd at h
  by_cases c : x < 0 ∨ n ≤ x.toNatClampNeg
  · rw [if_pos c] at h; cases h
  · rw [if_neg c] at h; exact ⟨c, h⟩
def bz {α : Type} (x : Int32) (a : Option α) : Option α := if x &&& 1 = x then a else none
theorem bz_ {α : Type} {x : Int32} {a : Option α} {o : α} (h : bz x a = some o) : narrow .boolean (.int x) = .int x ∧ a = some o := by
  unfold bz at h
  by_cases c : x &&& 1 = x
  · rw [if_pos c] at h; exact ⟨by simp [narrow, c], h⟩
  · rw [if_neg c] at h; cases h
def nz {α : Type} (x : Int32) (a : Option α) : Option α := if x = 0 then none else a
theorem nz_ {α : Type} {x : Int32} {a : Option α} {o : α} (h : nz x a = some o) : ¬ x = 0 ∧ a = some o := by
  unfold nz at h
  by_cases c : x = 0
  · rw [if_pos c] at h; cases h
  · rw [if_neg c] at h; exact ⟨c, h⟩
def bnd {α β : Type} (a : Option α) (f : α → Option β) : Option β := match a with
  | none => none
  | some x => f x
theorem bnd_ {α β : Type} {a : Option α} {f : α → Option β} {o : β} (h : bnd a f = some o) : ∃ x, a = some x ∧ f x = some o := by
  cases a with
  | none => cases h
  | some x => exact ⟨x, rfl, h⟩
def bnm {α β : Type} (a : Option (α × Mm)) (f : α → Mm → Option β) : Option β := match a with
  | none => none
  | some (x, τ) => f x τ
theorem bnm_ {α β : Type} {a : Option (α × Mm)} {f : α → Mm → Option β} {o : β} (h : bnm a f = some o) : ∃ x τ, a = some (x, τ) ∧ f x τ = some o := by
  cases a with
  | none => cases h
  | some x => exact ⟨x.1, x.2, rfl, h⟩
def xb {α β : Type} (a : Option ((α ⊕ Nat) × Mm)) (f : α → Mm → Option ((β ⊕ Nat) × Mm)) : Option ((β ⊕ Nat) × Mm) := match a with
  | none => none
  | some (.inl r, τ) => f r τ
  | some (.inr n, τ) => some (.inr n, τ)
theorem xb_ {α β : Type} {a : Option ((α ⊕ Nat) × Mm)} {f : α → Mm → Option ((β ⊕ Nat) × Mm)} {o : (β ⊕ Nat) × Mm} (h : xb a f = some o) : (∃ r τ, a = some (.inl r, τ) ∧ f r τ = some o) ∨ ∃ n τ, a = some (.inr n, τ) ∧ o = (.inr n, τ) := by
  match a, h with
  | some (.inl r, τ), h => exact Or.inl ⟨r, τ, rfl, h⟩
  | some (.inr n, τ), h => exact Or.inr ⟨n, τ, rfl, (Option.some.inj h).symm⟩
theorem ip_ {α : Type} {c : Prop} {i : Decidable c} {a b : α} {o : α} (h : c) (k : (if c then a else b) = o) : a = o := (if_pos h).symm.trans k
theorem in_ {α : Type} {c : Prop} {i : Decidable c} {a b : α} {o : α} (h : ¬ c) (k : (if c then a else b) = o) : b = o := (if_neg h).symm.trans k
def oc {α β : Type} (a : Option α) (n : Option β) (f : α → Option β) : Option β := match a with
  | none => n
  | some x => f x
theorem vpc {x : Int32} {n : Nat} (h : ¬ (x < 0 ∨ n ≤ x.toNatClampNeg)) : vp_in x n := h
theorem nb_ {x : Int32} (h : narrow .boolean (.int x) = .int x) : narrow .boolean (.int x) = .int x := h
theorem oc_n {α β : Type} {n : Option β} {f : α → Option β} {o : β} (h : oc none n f = some o) : n = some o := h
theorem oc_s {α β : Type} {x : α} {n : Option β} {f : α → Option β} {o : β} (h : oc (some x) n f = some o) : f x = some o := h
theorem fz_ {x : Int32} (h : narrow .boolean (.int x) = .int x) : fits .boolean (.int x) = true := by
  have h1 : x &&& 1 = x := by simpa [narrow] using h
  have h2 : x.toBitVec &&& 1#32 = x.toBitVec := by
    have := congrArg Int32.toBitVec h1
    simpa using this
  rw [BitVec.and_one_eq_setWidth_ofBool_getLsbD] at h2
  have h3 : x.toBitVec = 0#32 ∨ x.toBitVec = 1#32 := by
    rw [← h2]
    cases x.toBitVec.getLsbD 0
    · exact Or.inl (by decide)
    · exact Or.inr (by decide)
  rcases h3 with h3 | h3
  · have : x = 0 := Int32.toBitVec_inj.mp h3
    subst this; rfl
  · have : x = 1 := Int32.toBitVec_inj.mp h3
    subst this; rfl
