/-! WHAT THE WORLD STANDS ON, at the law's start: out of the Statement's words -/
def FL : List Cond := flatC (Jvm.Cond.and given_1 narrow_1)
theorem FL_in {i n : Nat} {L : List Cond} (h : (FL.drop i).take n = L) : ∀ c ∈ L, c ∈ FL := fun c hc => by
  rw [← h] at hc
  exact List.mem_of_mem_drop (List.mem_of_mem_take hc)
def stC (tm : Term) (ty : FieldType) (n : Nat) (f : Nat → Int32) : List Cond := [.arrayOf tm ty, .eq (.length tm) (.int (Int32.ofNat n))] ++ (List.range n).map (fun j => .eq (.elem tm (.int (Int32.ofNat j))) (.int (f j)))
def vlT (own : String) (k : Nat) : Term := .field (.string own k) "java/lang/String" "value" "[B"
def stX (own : String) (k : Nat) (b : List Int32) : List Cond := [.exactly (.string own k) "java/lang/String", .eq (.field (.string own k) "java/lang/String" "coder" "B") (.int 0)] ++ stC (vlT own k) .byte b.length (fun j => b.getD j 0)
def txP : List Nat := [452, 475, 500, 531, 550, 588, 617, 644, 672, 699, 736, 762, 790, 812, 821, 825, 834, 839, 844, 853, 859, 866, 890, 914, 941, 1067, 1074, 1098, 1124, 1149, 1177, 1205]
set_option maxRecDepth 100000 in
theorem stX_ok : ∀ k, k < 32 → (FL.drop (txP.getD k 0)).take (4 + (txB k).length) = stX (txs.getD k ("", 0, "")).1 (txs.getD k ("", 0, "")).2.1 (txB k) := by decide +kernel
theorem txR_ok : ∀ k, k < 32 → Cond.stringRef (txs.getD k ("", 0, "")).1 (txs.getD k ("", 0, "")).2.1 (txs.getD k ("", 0, "")).2.2 ∈ lw_tbl := by decide +kernel
theorem stl_ok : (FL.drop 8).take 26 = stC (.static "MazeBonds$Maze" "LOWER_CELL" "[I") .int 24 lowC := by decide +kernel
theorem stu_ok : (FL.drop 35).take 26 = stC (.static "MazeBonds$Maze" "UPPER_CELL" "[I") .int 24 uppC := by decide +kernel
theorem sto_ok : (FL.drop 66).take 102 = stC (.static "java/lang/Integer" "DigitOnes" "[B") .byte 100 digO := by decide +kernel
theorem stt_ok : (FL.drop 169).take 102 = stC (.static "java/lang/Integer" "DigitTens" "[B") .byte 100 digT := by decide +kernel
theorem nwF_ok : ∀ q ∈ nwF, Cond.fieldLinkNest q.1 q.2.1 q.2.2.1 q.2.2.2.1 q.2.2.2.2 "MazeBonds" ∈ lw_tbl := by decide +kernel
theorem nwM_ok : ∀ q ∈ nwM, Cond.methodLinkNest q.1 q.2.1 q.2.2 "MazeBonds" ∈ lw_tbl := by decide +kernel
theorem exC_ok : ∀ q ∈ exC, Cond.castable q q ∈ lw_tbl := by decide +kernel
theorem exD_ok : ∀ q ∈ exD, Cond.declares ⟨q, "<init>", "(Ljava/lang/String;)V"⟩ ∈ lw_tbl := by decide +kernel
theorem exP_ok : ∀ q ∈ exP, Cond.not (.castable q.1 q.2) ∈ FL := by decide +kernel
section ST
variable {s : State} {args : Array Value} {A : Nat → Prop}
theorem st_arr {tm : Term} {ty : FieldType} {n : Nat} {f : Nat → Int32} (hn : n < 2 ^ 31) (hq : ∀ c ∈ stC tm ty n f, c.before args s = true) (hA : ∀ a : Nat, a < s.heap.size → ¬ A a) : ∃ t : Nat, tm.eval args s none [] s = some (.ref t) ∧ va_T ty t n (fun j => .int (f j)) A s s.heap :=
  va_Tof hn (hq _ List.mem_cons_self) (va_eqt (hq _ (List.mem_cons_of_mem _ List.mem_cons_self))) (fun j hj => va_eqt (hq _ (List.mem_append_right _ (List.mem_map.mpr ⟨j, List.mem_range.mpr hj, rfl⟩)))) hA
theorem st_tx {own tx : String} {k : Nat} {b : List Int32} (hn : b.length < 2 ^ 31) (h1 : (Cond.stringRef own k tx).before args s = true) (hq : ∀ c ∈ stX own k b, c.before args s = true) (hA : ∀ a : Nat, a < s.heap.size → ¬ A a) : ∃ a v : Nat, vk_R own k tx a s ∧ va_O "java/lang/String" a A s s.heap ∧ va_OF "java/lang/String" "coder" "B" (.int 0) a A s s.heap ∧ va_OF "java/lang/String" "value" "[B" (.ref v) a A s s.heap ∧ va_T .byte v b.length (fun j => .int (b.getD j 0)) A s s.heap := by
  have hex := hq _ (List.mem_append_left _ List.mem_cons_self)
  obtain ⟨a, c, cA, kA, q1, -⟩ := Cond.exactly_spec (args := args) (first := s) (o := none) (s := s) (idx := []) hex
  obtain ⟨v, q2, q3⟩ := st_arr (tm := vlT own k) hn (fun c hc => hq c (List.mem_append_right _ hc)) hA
  exact ⟨a, v, vk_R.of h1 q1, va_Oof hex q1 hA, vk_OFof q1 (va_eqt (hq _ (List.mem_append_left _ (List.mem_cons_of_mem _ List.mem_cons_self)))) hA, vk_OFof q1 q2 hA, q3⟩
theorem start_EV (hts : ∀ w ∈ lw_tbl, w.before args s = true) (hq : ∀ c ∈ FL, c.before args s = true) : ∃ z : Nat → Nat, ∀ G : Gd, (∀ i, 300 ≤ i → i < 600 → G.2.2 i = z i) → EV G (fun q => s.heap.size ≤ q) s s.heap := by
  have hA : ∀ a : Nat, a < s.heap.size → ¬ (fun q : Nat => s.heap.size ≤ q) a := fun a h => Nat.not_le.mpr h
  obtain ⟨t0, e0, f0⟩ := st_arr (A := fun q : Nat => s.heap.size ≤ q) (by decide) (fun c hc => hq c (FL_in stl_ok c hc)) hA
  obtain ⟨t1, e1, f1⟩ := st_arr (A := fun q : Nat => s.heap.size ≤ q) (by decide) (fun c hc => hq c (FL_in stu_ok c hc)) hA
  obtain ⟨t2, e2, f2⟩ := st_arr (A := fun q : Nat => s.heap.size ≤ q) (by decide) (fun c hc => hq c (FL_in stt_ok c hc)) hA
  obtain ⟨t3, e3, f3⟩ := st_arr (A := fun q : Nat => s.heap.size ≤ q) (by decide) (fun c hc => hq c (FL_in sto_ok c hc)) hA
  have hlen : ∀ k, k < 32 → (txB k).length < 2 ^ 31 := by decide +kernel
  have tx : ∀ k : Nat, ∃ p : Nat × Nat, k < 32 → vk_R (txs.getD k ("", 0, "")).1 (txs.getD k ("", 0, "")).2.1 (txs.getD k ("", 0, "")).2.2 p.1 s ∧ va_O "java/lang/String" p.1 (fun q : Nat => s.heap.size ≤ q) s s.heap ∧ va_OF "java/lang/String" "coder" "B" (.int 0) p.1 (fun q : Nat => s.heap.size ≤ q) s s.heap ∧ va_OF "java/lang/String" "value" "[B" (.ref p.2) p.1 (fun q : Nat => s.heap.size ≤ q) s s.heap ∧ va_T .byte p.2 (txB k).length (fun j => .int ((txB k).getD j 0)) (fun q : Nat => s.heap.size ≤ q) s s.heap := fun k => by
    by_cases h : k < 32
    · obtain ⟨a, v, h9⟩ := st_tx (A := fun q : Nat => s.heap.size ≤ q) (hlen k h) (hts _ (txR_ok k h)) (fun c hc => hq c (FL_in (stX_ok k h) c hc)) hA
      exact ⟨(a, v), fun _ => h9⟩
    · exact ⟨(0, 0), fun h9 => absurd h9 h⟩
  obtain ⟨g, hg⟩ := Classical.axiomOfChoice tx
  refine ⟨fun i => if i = 300 then t0 else if i = 301 then t1 else if i = 302 then t2 else if i = 303 then t3 else if i < 500 then (g (i - 400)).1 else (g (i - 500)).2, fun G hG => ?_⟩
  have z0 : G.2.2 300 = t0 := hG 300 (by decide) (by decide)
  have z1 : G.2.2 301 = t1 := hG 301 (by decide) (by decide)
  have z2 : G.2.2 302 = t2 := hG 302 (by decide) (by decide)
  have z3 : G.2.2 303 = t3 := hG 303 (by decide) (by decide)
  refine ⟨fun q hq9 => va_Nw.of rfl (hts _ (nwF_ok q hq9)), fun q hq9 => va_Nw.of rfl (hts _ (nwM_ok q hq9)), ⟨fun q hq9 => va_Nw.of rfl (hts _ (exC_ok q hq9)), fun q hq9 => va_Nw.of rfl (hts _ (exD_ok q hq9)), fun q hq9 => va_Nc.of (hq _ (exP_ok q hq9))⟩,
    ⟨vx_Zqof (hts _ (by decide +kernel)) (hts _ (by decide +kernel)) (hq _ (by decide +kernel)) hA, vx_Zqof (hts _ (by decide +kernel)) (hts _ (by decide +kernel)) (hq _ (by decide +kernel)) hA⟩,
    ⟨by rw [z0]; exact va_Zof (hts _ (by decide +kernel)) (hts _ (by decide +kernel)) e0 hA, by rw [z0]; exact f0⟩,
    ⟨by rw [z1]; exact va_Zof (hts _ (by decide +kernel)) (hts _ (by decide +kernel)) e1 hA, by rw [z1]; exact f1⟩,
    ⟨by rw [z2]; exact va_Zof (hts _ (by decide +kernel)) (hts _ (by decide +kernel)) e2 hA, by rw [z2]; exact f2⟩,
    ⟨by rw [z3]; exact va_Zof (hts _ (by decide +kernel)) (hts _ (by decide +kernel)) e3 hA, by rw [z3]; exact f3⟩,
    ⟨va_Zof (hts _ (by decide +kernel)) (hts _ (by decide +kernel)) (va_eqt (hq _ (by decide +kernel))) hA, va_Zqof (hts _ (by decide +kernel)) (hts _ (by decide +kernel)) (hq _ (by decide +kernel)) hA⟩, fun k hk => ?_⟩
  have hk2 : k < 32 := hk
  have y1 : G.2.2 (400 + k) = (g k).1 := by
    rw [hG _ (by omega) (by omega)]
    show (if 400 + k = 300 then t0 else if 400 + k = 301 then t1 else if 400 + k = 302 then t2 else if 400 + k = 303 then t3 else if 400 + k < 500 then (g (400 + k - 400)).1 else (g (400 + k - 500)).2) = _
    rw [if_neg (by omega), if_neg (by omega), if_neg (by omega), if_neg (by omega), if_pos (by omega), Nat.add_sub_cancel_left]
  have y2 : G.2.2 (500 + k) = (g k).2 := by
    rw [hG _ (by omega) (by omega)]
    show (if 500 + k = 300 then t0 else if 500 + k = 301 then t1 else if 500 + k = 302 then t2 else if 500 + k = 303 then t3 else if 500 + k < 500 then (g (500 + k - 400)).1 else (g (500 + k - 500)).2) = _
    rw [if_neg (by omega), if_neg (by omega), if_neg (by omega), if_neg (by omega), if_neg (by omega), Nat.add_sub_cancel_left]
  rw [y1, y2]
  exact hg k hk2
end ST
