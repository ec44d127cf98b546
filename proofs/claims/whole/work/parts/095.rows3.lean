/-! rows: inherited and super calls, texts -/
/-- a text of the class stands at i -/
def isT (i : Nat) : Prop := ∃ k, k < txs.length ∧ i = 400 + k
def txN (i : Nat) : Nat := (txB (i - 400)).length
def txC (i : Nat) (j : Nat) : Int32 := (txB (i - 400)).getD j 0
theorem isT_d {i : Nat} (h : (decide (400 ≤ i) && decide (i - 400 < txs.length)) = true) : isT i := by
  rw [Bool.and_eq_true] at h
  have h1 := of_decide_eq_true h.1
  exact ⟨i - 400, of_decide_eq_true h.2, by omega⟩
theorem isT.f {G : Gd} {s : State} {i : Nat} (F : Fx G s) (h : isT i) : va_O "java/lang/String" (G.2.2 i) (AA G s.heap.size) s s.heap ∧ va_OF "java/lang/String" "coder" "B" (.int 0) (G.2.2 i) (AA G s.heap.size) s s.heap ∧ va_OF "java/lang/String" "value" "[B" (.ref (G.2.2 (i + 100))) (G.2.2 i) (AA G s.heap.size) s s.heap ∧ va_T .byte (G.2.2 (i + 100)) (txN i) (fun j => .int (txC i j)) (AA G s.heap.size) s s.heap := by
  obtain ⟨k, hk, rfl⟩ := h
  have e1 : 400 + k - 400 = k := by omega
  have e2 : 400 + k + 100 = 500 + k := by omega
  have h := (F.txt k hk).2
  unfold txN txC
  rw [e1, e2]
  exact h
def cz {α : Type} (x : Int32) (a : Option α) : Option α := if x.toUInt32.toUInt16.toUInt32.toInt32 = x then a else none
theorem cz_ {α : Type} {x : Int32} {a : Option α} {o : α} (h : cz x a = some o) : narrow .char (.int x) = .int x ∧ a = some o := by
  unfold cz at h
  by_cases c : x.toUInt32.toUInt16.toUInt32.toInt32 = x
  · rw [if_pos c] at h; exact ⟨congrArg Value.int c, h⟩
  · rw [if_neg c] at h; cases h
def yz {α : Type} (x : Int32) (a : Option α) : Option α := if x.toInt8.toInt32 = x then a else none
theorem yz_ {α : Type} {x : Int32} {a : Option α} {o : α} (h : yz x a = some o) : narrow .byte (.int x) = .int x ∧ a = some o := by
  unfold yz at h
  by_cases c : x.toInt8.toInt32 = x
  · rw [if_pos c] at h; exact ⟨congrArg Value.int c, h⟩
  · rw [if_neg c] at h; cases h
def ush (x y : Int32) : Int32 := (x.toUInt32 >>> (y.toUInt32 &&& Int32.toUInt32 31)).toInt32
def cpt (σ : Mm) (i j d n : Nat) : Mm := fun a => if a = j then va_cpy (txC i) (σ j) 0 d n else σ a
def cg {α : Type} (d : Int32) (n N : Nat) (a : Option α) : Option α := if d < 0 ∨ N < d.toNatClampNeg + n then none else a
theorem cg_ {α : Type} {d : Int32} {n N : Nat} {a : Option α} {o : α} (h : cg d n N a = some o) : (¬ d < 0 ∧ d.toNatClampNeg + n ≤ N) ∧ a = some o := by
  unfold cg at h
  by_cases c : d < 0 ∨ N < d.toNatClampNeg + n
  · rw [if_pos c] at h; cases h
  · rw [if_neg c] at h; exact ⟨⟨fun q => c (Or.inl q), Nat.not_lt.mp fun q => c (Or.inr q)⟩, h⟩
section RW3
variable {p : Program} {l : Launch} {e : Env} {R : Room} {s : State} {m : MethodId} {args : Array Value} {below : List Frame} {meth : Method} {c : Code} {H : Heap} {locs : List Loc} {cells slots : Nat} {Q : State → Prop}
variable {cc : ByteArray} {nL pc index : Nat} {ls : Array Slot} {rest : List Value} {G : Gd} {σ : Mm} {own : String} {Ts : List Cond}
variable {x y : MethodName} {bytes : ByteArray} {maxL n i kc ci N : Nat} {ret : Option FieldType} {ws : List Cond} {rm : Room} {C owner : String} {T : u_T} {fs : List Value} {As st : List Value} {τ : Mm}
theorem k_iU (S : CallFix p m c cc nL s args Ts own) (F : Fx G s) (B : Bd G σ s H locs) {v : Int32} (hM : Met l y ws rm (va_Pc (.ref (G.2.2 i) :: As) (PW G σ H.size)) (Qi G H.size v τ) 0 0 (AA G H.size)) (hk : kd i = kc ∧ i < NN) (he : cellK kc G i (σ i) = .inr (ci, fs)) (hc : vwCl[ci]? = some (C, T, N))
    (cw : va_CU R s args own C owner index x y bytes maxL ret ws rm 0 0 n) (hn : As.length = n) (hsize : ls.size = nL) (hst : st = As.reverse ++ .ref (G.2.2 i) :: rest) (hroom : (rest.map fun v => v.category).sum ≤ 8) (hdg : decode cc pc = .ok (.invokevirtual index, 3)) (hf : cells ≤ R.cells ∧ slots ≤ R.slots)
    (kk : ∀ (H1 : Heap) (locs1 : List Loc), Bd G τ s H1 locs1 → W p l e R s m args below meth c H1 locs1 cells slots Q (F0 m (pc + 3) ls (.int v :: rest))) : W p l e R s m args below meth c H locs cells slots Q (F0 m pc ls st) := by
  refine va_calli (va_runU S hM cw ⟨PW.blind, r_recv F B hk he hc, fun U hU hW => ⟨rfl, PW.call F B U hU hW⟩⟩ rfl hn hsize hst (lv_room hroom) hdg hf) B.2 (fun q _ h => AA_free B q h) (AA_free B) (fun r u t H1 locs1 ht hvm hp hb h1 h2 hS => ?_)
  subst hp
  exact kk H1 locs1 ⟨by rw [← ht]; exact hb, hS⟩
theorem k_vU (S : CallFix p m c cc nL s args Ts own) (F : Fx G s) (B : Bd G σ s H locs) (hM : Met l y ws rm (va_Pc (.ref (G.2.2 i) :: As) (PW G σ H.size)) (Qv G H.size τ) 0 0 (AA G H.size)) (hk : kd i = kc ∧ i < NN) (he : cellK kc G i (σ i) = .inr (ci, fs)) (hc : vwCl[ci]? = some (C, T, N))
    (cw : va_CU R s args own C owner index x y bytes maxL ret ws rm 0 0 n) (hn : As.length = n) (hsize : ls.size = nL) (hst : st = As.reverse ++ .ref (G.2.2 i) :: rest) (hroom : (rest.map fun v => v.category).sum ≤ 8) (hdg : decode cc pc = .ok (.invokevirtual index, 3)) (hf : cells ≤ R.cells ∧ slots ≤ R.slots)
    (kk : ∀ (H1 : Heap) (locs1 : List Loc), Bd G τ s H1 locs1 → W p l e R s m args below meth c H1 locs1 cells slots Q (F0 m (pc + 3) ls rest)) : W p l e R s m args below meth c H locs cells slots Q (F0 m pc ls st) := by
  refine va_callv (va_runU S hM cw ⟨PW.blind, r_recv F B hk he hc, fun U hU hW => ⟨rfl, PW.call F B U hU hW⟩⟩ rfl hn hsize hst (lv_room hroom) hdg hf) B.2 (fun q _ h => AA_free B q h) (AA_free B) (fun u t H1 locs1 ht hvm hp hb h1 h2 hS => ?_)
  exact kk H1 locs1 ⟨by rw [← ht]; exact hb, hS⟩
theorem k_iP (S : CallFix p m c cc nL s args Ts own) (F : Fx G s) (B : Bd G σ s H locs) {v : Int32} (hM : Met l y ws rm (va_Pc (.ref (G.2.2 i) :: As) (PW G σ H.size)) (Qi G H.size v τ) 0 0 (AA G H.size)) (hk : kd i = kc ∧ i < NN) (he : cellK kc G i (σ i) = .inr (ci, fs)) (hc : vwCl[ci]? = some (C, T, N))
    (cw : va_CS R s args own index y bytes maxL ret ws rm 0 0 n) (hn : As.length = n) (hsize : ls.size = nL) (hst : st = As.reverse ++ .ref (G.2.2 i) :: rest) (hroom : (rest.map fun v => v.category).sum ≤ 8) (hdg : decode cc pc = .ok (.invokespecial index, 3)) (hf : cells ≤ R.cells ∧ slots ≤ R.slots)
    (kk : ∀ (H1 : Heap) (locs1 : List Loc), Bd G τ s H1 locs1 → W p l e R s m args below meth c H1 locs1 cells slots Q (F0 m (pc + 3) ls (.int v :: rest))) : W p l e R s m args below meth c H locs cells slots Q (F0 m pc ls st) := by
  refine va_calli (va_runSU (F.1.1 ci _ hc).2 S hM cw ⟨PW.blind, r_recv F B hk he hc, fun U hU hW => ⟨rfl, PW.call F B U hU hW⟩⟩ rfl hn hsize hst (lv_room hroom) hdg hf) B.2 (fun q _ h => AA_free B q h) (AA_free B) (fun r u t H1 locs1 ht hvm hp hb h1 h2 hS => ?_)
  subst hp
  exact kk H1 locs1 ⟨by rw [← ht]; exact hb, hS⟩
theorem k_vP (S : CallFix p m c cc nL s args Ts own) (F : Fx G s) (B : Bd G σ s H locs) (hM : Met l y ws rm (va_Pc (.ref (G.2.2 i) :: As) (PW G σ H.size)) (Qv G H.size τ) 0 0 (AA G H.size)) (hk : kd i = kc ∧ i < NN) (he : cellK kc G i (σ i) = .inr (ci, fs)) (hc : vwCl[ci]? = some (C, T, N))
    (cw : va_CS R s args own index y bytes maxL ret ws rm 0 0 n) (hn : As.length = n) (hsize : ls.size = nL) (hst : st = As.reverse ++ .ref (G.2.2 i) :: rest) (hroom : (rest.map fun v => v.category).sum ≤ 8) (hdg : decode cc pc = .ok (.invokespecial index, 3)) (hf : cells ≤ R.cells ∧ slots ≤ R.slots)
    (kk : ∀ (H1 : Heap) (locs1 : List Loc), Bd G τ s H1 locs1 → W p l e R s m args below meth c H1 locs1 cells slots Q (F0 m (pc + 3) ls rest)) : W p l e R s m args below meth c H locs cells slots Q (F0 m pc ls st) := by
  refine va_callv (va_runSU (F.1.1 ci _ hc).2 S hM cw ⟨PW.blind, r_recv F B hk he hc, fun U hU hW => ⟨rfl, PW.call F B U hU hW⟩⟩ rfl hn hsize hst (lv_room hroom) hdg hf) B.2 (fun q _ h => AA_free B q h) (AA_free B) (fun u t H1 locs1 ht hvm hp hb h1 h2 hS => ?_)
  exact kk H1 locs1 ⟨by rw [← ht]; exact hb, hS⟩
theorem k_qP (S : CallFix p m c cc nL s args Ts own) (F : Fx G s) (B : Bd G σ s H locs) {v : Option Nat} (hM : Met l y ws rm (va_Pc (.ref (G.2.2 i) :: As) (PW G σ H.size)) (Qq G H.size v τ) 0 0 (AA G H.size)) (hk : kd i = kc ∧ i < NN) (he : cellK kc G i (σ i) = .inr (ci, fs)) (hc : vwCl[ci]? = some (C, T, N))
    (cw : va_CS R s args own index y bytes maxL ret ws rm 0 0 n) (hn : As.length = n) (hsize : ls.size = nL) (hst : st = As.reverse ++ .ref (G.2.2 i) :: rest) (hroom : (rest.map fun v => v.category).sum ≤ 8) (hdg : decode cc pc = .ok (.invokespecial index, 3)) (hf : cells ≤ R.cells ∧ slots ≤ R.slots)
    (kk : ∀ (H1 : Heap) (locs1 : List Loc), Bd G τ s H1 locs1 → W p l e R s m args below meth c H1 locs1 cells slots Q (F0 m (pc + 3) ls (va_re G.2.2 v :: rest))) : W p l e R s m args below meth c H locs cells slots Q (F0 m pc ls st) := by
  refine va_callq (va_runSU (F.1.1 ci _ hc).2 S hM cw ⟨PW.blind, r_recv F B hk he hc, fun U hU hW => ⟨rfl, PW.call F B U hU hW⟩⟩ rfl hn hsize hst (lv_room hroom) hdg hf) B.2 (fun q _ h => AA_free B q h) (AA_free B) (fun r u t H1 locs1 ht hvm hp hb h1 h2 hS => ?_)
  subst hp
  exact kk H1 locs1 ⟨by rw [← ht]; exact hb, hS⟩
/-! a text's own methods -/
theorem k_iT (S : CallFix p m c cc nL s args Ts own) (F : Fx G s) (B : Bd G σ s H locs) {v : Int32} (hM : Met l y ws rm (va_Pc (.ref (G.2.2 i) :: As) (PW G σ H.size)) (Qi G H.size v τ) 0 0 (AA G H.size)) (hi : isT i)
    (cw : CallW R s args own "java/lang/String" index y bytes maxL ret ws rm 0 0 n) (hn : As.length = n) (hsize : ls.size = nL) (hst : st = As.reverse ++ .ref (G.2.2 i) :: rest) (hroom : (rest.map fun v => v.category).sum ≤ 8) (hdg : decode cc pc = .ok (.invokevirtual index, 3)) (hf : cells ≤ R.cells ∧ slots ≤ R.slots)
    (kk : ∀ (H1 : Heap) (locs1 : List Loc), Bd G τ s H1 locs1 → W p l e R s m args below meth c H1 locs1 cells slots Q (F0 m (pc + 3) ls (.int v :: rest))) : W p l e R s m args below meth c H locs cells slots Q (F0 m pc ls st) := by
  refine va_calli (va_runV S hM cw ⟨PW.blind, va_Orecv (hi.f F).1 B.2, fun U hU hW => ⟨rfl, PW.call F B U hU hW⟩⟩ rfl hn hsize hst (lv_room hroom) hdg hf) B.2 (fun q _ h => AA_free B q h) (AA_free B) (fun r u t H1 locs1 ht hvm hp hb h1 h2 hS => ?_)
  subst hp
  exact kk H1 locs1 ⟨by rw [← ht]; exact hb, hS⟩
theorem k_vT (S : CallFix p m c cc nL s args Ts own) (F : Fx G s) (B : Bd G σ s H locs) (hM : Met l y ws rm (va_Pc (.ref (G.2.2 i) :: As) (PW G σ H.size)) (Qv G H.size τ) 0 0 (AA G H.size)) (hi : isT i)
    (cw : CallW R s args own "java/lang/String" index y bytes maxL ret ws rm 0 0 n) (hn : As.length = n) (hsize : ls.size = nL) (hst : st = As.reverse ++ .ref (G.2.2 i) :: rest) (hroom : (rest.map fun v => v.category).sum ≤ 8) (hdg : decode cc pc = .ok (.invokevirtual index, 3)) (hf : cells ≤ R.cells ∧ slots ≤ R.slots)
    (kk : ∀ (H1 : Heap) (locs1 : List Loc), Bd G τ s H1 locs1 → W p l e R s m args below meth c H1 locs1 cells slots Q (F0 m (pc + 3) ls rest)) : W p l e R s m args below meth c H locs cells slots Q (F0 m pc ls st) := by
  refine va_callv (va_runV S hM cw ⟨PW.blind, va_Orecv (hi.f F).1 B.2, fun U hU hW => ⟨rfl, PW.call F B U hU hW⟩⟩ rfl hn hsize hst (lv_room hroom) hdg hf) B.2 (fun q _ h => AA_free B q h) (AA_free B) (fun u t H1 locs1 ht hvm hp hb h1 h2 hS => ?_)
  exact kk H1 locs1 ⟨by rw [← ht]; exact hb, hS⟩
theorem r_ldcS (S : CallFix p m c cc nL s args Ts own) (F : Fx G s) (k : Nat) {t : Nat} (ht : 400 + k = t) (hk : k < txs.length) (hown : own = (txs.getD k ("", 0, "")).1) (his : index = (txs.getD k ("", 0, "")).2.1) (hdg : decode cc pc = .ok (.ldc index, 2))
    (kk : W p l e R s m args below meth c H locs cells slots Q (F0 m (pc + 2) ls (.ref (G.2.2 t) :: rest))) : W p l e R s m args below meth c H locs cells slots Q (F0 m pc ls rest) := by
  subst his
  subst ht
  have h := (F.txt k hk).1
  rw [← hown] at h
  exact va_ldcS S.1 S.2.1 S.2.2.2.1 h hdg kk
theorem r_ldcSW (S : CallFix p m c cc nL s args Ts own) (F : Fx G s) (k : Nat) {t : Nat} (ht : 400 + k = t) (hk : k < txs.length) (hown : own = (txs.getD k ("", 0, "")).1) (his : index = (txs.getD k ("", 0, "")).2.1) (hdg : decode cc pc = .ok (.ldc_w index, 3))
    (kk : W p l e R s m args below meth c H locs cells slots Q (F0 m (pc + 3) ls (.ref (G.2.2 t) :: rest))) : W p l e R s m args below meth c H locs cells slots Q (F0 m pc ls rest) := by
  subst his
  subst ht
  have h := (F.txt k hk).1
  rw [← hown] at h
  intro T9 hT X
  obtain ⟨t9, a1, b1⟩ := kk T9 hT X
  exact ⟨t9, X.ldcStringW S.1 S.2.2.2.1 h.1 h.2 (g := F0 m pc ls rest) rfl (by rw [S.2.1]; exact hdg) t9 a1, b1⟩
theorem r_tval (S : CallFix p m c cc nL s args Ts own) (F : Fx G s) (B : Bd G σ s H locs) (hi : isT i) (hlink : Cond.fieldLink own index "java/lang/String" "value" "[B" ∈ Ts) (hdg : decode cc pc = .ok (.getfield index, 3))
    (kk : W p l e R s m args below meth c H locs cells slots Q (F0 m (pc + 3) ls (.ref (G.2.2 (i + 100)) :: rest))) : W p l e R s m args below meth c H locs cells slots Q (F0 m pc ls (.ref (G.2.2 i) :: rest)) :=
  vk_getf S.1 S.2.1 (hi.f F).2.2.1 B.2 S.2.2.2.1 (S.2.2.2.2 _ hlink) (fun _ h => h) hdg kk
theorem r_tcod (S : CallFix p m c cc nL s args Ts own) (F : Fx G s) (B : Bd G σ s H locs) (hi : isT i) (hlink : Cond.fieldLink own index "java/lang/String" "coder" "B" ∈ Ts) (hdg : decode cc pc = .ok (.getfield index, 3))
    (kk : W p l e R s m args below meth c H locs cells slots Q (F0 m (pc + 3) ls (.int 0 :: rest))) : W p l e R s m args below meth c H locs cells slots Q (F0 m pc ls (.ref (G.2.2 i) :: rest)) :=
  vk_getf S.1 S.2.1 (hi.f F).2.1 B.2 S.2.2.2.1 (S.2.2.2.2 _ hlink) (fun _ h => h) hdg kk
theorem r_tlen (S : CallFix p m c cc nL s args Ts own) (F : Fx G s) (B : Bd G σ s H locs) (hi : isT i) (hdg : decode cc pc = .ok (.arraylength, 1))
    (kk : W p l e R s m args below meth c H locs cells slots Q (F0 m (pc + 1) ls (.int (Int32.ofNat (txN i)) :: rest))) : W p l e R s m args below meth c H locs cells slots Q (F0 m pc ls (.ref (G.2.2 (i + 100)) :: rest)) :=
  va_tlen S.1 S.2.1 (hi.f F).2.2.2 B.2 rfl hdg kk
theorem r_tby (S : CallFix p m c cc nL s args Ts own) (F : Fx G s) (B : Bd G σ s H locs) (hi : isT i) {z : Int32} (hin : vp_in z (txN i)) (hdg : decode cc pc = .ok (.baload, 1))
    (kk : W p l e R s m args below meth c H locs cells slots Q (F0 m (pc + 1) ls (.int (txC i z.toNatClampNeg) :: rest))) : W p l e R s m args below meth c H locs cells slots Q (F0 m pc ls (.int z :: .ref (G.2.2 (i + 100)) :: rest)) :=
  va_tb S.1 S.2.1 (hi.f F).2.2.2 B.2 hin rfl hdg kk
theorem r_copyt (S : CallFix p m c cc nL s args Ts own) (F : Fx G s) (B : Bd G σ s H locs) {j kj nj : Nat} {sp dp n9 : Int32} (hi : isT i) (hj : kd j = kj ∧ j < NN) (hej : ∀ f, cellK kj G j f = .inl (G.2.1 2, nj, .inl f))
    (hsp : sp = 0) {N9 : Nat} (hN : n9.toNatClampNeg = N9) (hn0 : ¬ n9 < 0) (hn1 : N9 ≤ txN i) (hdp : ¬ dp < 0 ∧ dp.toNatClampNeg + N9 ≤ nj) (hfit : ∀ k, k < N9 → fits .byte (.int (txC i k)) = true) (hml : c.maxLocals = ls.size) (h1 : Cond.methodLink own index arraycopyName ∈ Ts) (h2 : Cond.native arraycopyName ∈ Ts) (h3 : Cond.static arraycopyName ∈ Ts) (h4 : Cond.initialized "java/lang/System" ∈ Ts)
    (hframes : 1 ≤ R.frames) (hlocals : (rest.map fun v => v.category).sum + (nativeFrameWords "java/lang/System" "arraycopy" 5 + 11) ≤ R.locals) (hdg : decode cc pc = .ok (.invokestatic index, 3))
    (kk : ∀ (H1 : Heap) (locs1 : List Loc), Bd G (cpt σ i j dp.toNatClampNeg N9) s H1 locs1 → W p l e R s m args below meth c H1 locs1 cells slots Q (F0 m (pc + 3) ls rest)) : W p l e R s m args below meth c H locs cells slots Q (F0 m pc ls (.int n9 :: .int dp :: .ref (G.2.2 j) :: .int sp :: .ref (G.2.2 (i + 100)) :: rest)) := by
  subst hsp
  subst hN
  obtain ⟨hx, hb, -, hown, hts⟩ := S
  refine vk_copyt hx hb hml hown (hts _ h1) (hts _ h2) (hts _ h3) (hts _ h4) F.1 B.1 (wd_D F.2.1 _ σ) B.2 (hi.f F).2.2.2 j 2 (by rw [wd_get hj.2, hj.1, hej]) rfl (by decide) hdp.1 hn0 (by show 0 + _ ≤ _; omega) hdp.2 (fun k hk => by rw [show (0 : Int32).toNatClampNeg + k = k from Nat.zero_add k]; exact hfit k hk) hframes hlocals hdg (fun H1 locs1 q1 _ q3 => kk H1 locs1 ⟨?_, q3⟩)
  rw [wd_set hj.2 (f := va_cpy (txC i) (σ j) 0 dp.toNatClampNeg n9.toNatClampNeg) (by rw [hj.1, hej]; rfl)] at q1
  exact q1
end RW3
