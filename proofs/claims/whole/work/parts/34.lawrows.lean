/-! THE LAW'S OWN METHODS: rows for a call inside a 'try', and for the law's two rows -/
theorem Met.ofWH {l : Launch} {y : MethodName} {ws ws' : List Cond} {rm : Room} {Pc : Array Value → State → Prop} {Qc : Array Value → State → Outcome → State → Prop} {mc ms : Nat} {free : Addr → Prop} {cc : ByteArray} {maxL : Nat} {ret : Option FieldType} {hh : List (Nat × Nat × Nat × Nat)}
    (hy : plainName y.cls = true) (hw : ws = Cond.codeWith y cc maxL ret hh :: ws')
    (body : ∀ p e s m args below meth c s₁, BodyLoose p l y (headSpec ws rm) cc maxL ret e s m args below meth c s₁ → c.maxLocals = maxL → Pc args s →
      W p l e (headSpec ws rm).room s m args below meth c s.heap [] 0 0 (MQ below Qc args s mc ms free) (entryFrame m args maxL)) : Met l y ws rm Pc Qc mc ms free := by
  refine MetFree.of_bodyS (code := cc) (maxLocals := maxL) (ret := ret) hy ?_ ?_
  · intro args s m h hn
    obtain ⟨m9, meth, c, hn9, h1, h2, h3, h4, -, h5, h6, -⟩ := Cond.codeWith_spec (atoms_spec (ws := ws) h _ (by rw [hw]; exact List.mem_cons_self))
    cases hn.symm.trans hn9
    exact ⟨meth, c, h1, h2, h3, h4, h5, h6⟩
  · intro p e s m args below meth c s₁ B hml hP _
    have hh0 : s₁.heap = s.heap := by rw [B.state]; rfl
    obtain ⟨t, a1, o, b1, b2, b3⟩ := body p e s m args below meth c s₁ B hml hP s₁ hh0 (Stand.of_body B)
    exact ⟨t, o, a1, b1, b2, ⟨b3.1, b3.2⟩⟩
/-! WHAT THE OUT CELLS HOLD is no part of the memory: it stands beside the addresses -/
def gO (G : Gd) (j v : Nat) : Gd := (G.1, G.2.1, fun i => if i = j then v else G.2.2 i)
def gL (G : Gd) (x : Int64) : Gd := gO G 700 x.toUInt64.toNat
def gD (G : Gd) (x : UInt64) : Gd := gO G 701 x.toNat
theorem gL_ok (x : Int64) : Int64.ofNat x.toUInt64.toNat = x := by
  apply Int64.toBitVec_inj.mp
  show BitVec.ofNat 64 x.toBitVec.toNat = x.toBitVec
  simp
theorem gD_ok (x : UInt64) : UInt64.ofNat x.toNat = x := by simp
theorem arr1 {cA : ClassId} (f g : Nat → Value) (h : f 0 = g 0) : arrV cA 1 f = arrV cA 1 g := by
  unfold arrV
  have : (Array.ofFn (n := 1) fun j => f j.val) = Array.ofFn (n := 1) fun j => g j.val := by
    apply Array.ext
    · simp
    · intro j h1 h2
      have : j = 0 := by simp at h1; omega
      subst this
      simpa using h
  rw [this]
section GO
variable {G : Gd} {j v : Nat}
theorem gO_at {a : Nat} (h : a ≠ j) : (gO G j v).2.2 a = G.2.2 a := if_neg h
theorem rArr_gO {t n : Nat} {g : Nat → Nat} (h : ∀ q, q < n → g q ≠ j) : rArr (gO G j v) t n g = rArr G t n g := by
  unfold rArr
  have : (fun q => if q < n then some ((gO G j v).2.2 (g q)) else none) = fun q => if q < n then some (G.2.2 (g q)) else none := by
    funext q
    by_cases c : q < n
    · rw [if_pos c, if_pos c, gO_at (h q c)]
    · rw [if_neg c, if_neg c]
  rw [this]; rfl
theorem cellK_gO (hj : j = 700 ∨ j = 701) {i k : Nat} {f : Nat → Int32} (hi : i < 209) (h1 : k = 27 → j ≠ 700) (h2 : k = 28 → j ≠ 701) : cellK k (gO G j v) i f = cellK k G i f := by
  by_cases c0 : k = 0
  · subst c0
    show (Sum.inr (10, [.ref ((gO G j v).2.2 (i + 1)), .ref ((gO G j v).2.2 (i + 3)), .ref ((gO G j v).2.2 (i + 8)), .int (f 3), .int (f 4), .int (f 5), .int (f 6), .int (f 7), .int (f 8)]) : va_E) = _
    rw [gO_at (by omega), gO_at (by omega), gO_at (by omega)]; rfl
  by_cases c1 : k = 1
  · subst c1
    show (Sum.inr (8, [.ref ((gO G j v).2.2 (i + 1))]) : va_E) = _
    rw [gO_at (by omega)]; rfl
  by_cases c3 : k = 3
  · subst c3
    show rArr (gO G j v) 3 4 (fun j => i + 1 + j) = _
    rw [rArr_gO (fun q hq => by omega)]; rfl
  by_cases c5 : k = 5
  · subst c5
    show rArr (gO G j v) 4 5 (fun j => i + 1 + j) = _
    rw [rArr_gO (fun q hq => by omega)]; rfl
  by_cases c9 : k = 9
  · subst c9
    show rArr (gO G j v) 5 8 (fun j => 42 + 14 * j) = _
    rw [rArr_gO (fun q hq => by omega)]; rfl
  by_cases c17 : k = 17
  · subst c17
    show rArr (gO G j v) 6 30 (fun j => 166 + j) = _
    rw [rArr_gO (fun q hq => by omega)]; rfl
  by_cases c27 : k = 27
  · subst c27
    rcases hj with rfl | rfl
    · exact absurd rfl (h1 rfl)
    · rfl
  by_cases c28 : k = 28
  · subst c28
    rcases hj with rfl | rfl
    · rfl
    · exact absurd rfl (h2 rfl)
  rcases hj with rfl | rfl <;> (unfold cellK; split <;> first | rfl | (exfalso; first | exact c0 rfl | exact c1 rfl | exact c3 rfl | exact c5 rfl | exact c9 rfl | exact c17 rfl | exact c27 rfl | exact c28 rfl))
theorem AA_gO (hj : j = 700 ∨ j = 701) {sz : Nat} : AA (gO G j v) sz = AA G sz := by
  funext q
  apply propext
  constructor
  · rintro (⟨i, hi, e⟩ | h)
    · have hi : i < 209 := hi
      exact Or.inl ⟨i, hi, by rw [e, gO_at (by omega)]⟩
    · exact Or.inr h
  · rintro (⟨i, hi, e⟩ | h)
    · have hi : i < 209 := hi
      exact Or.inl ⟨i, hi, by rw [e, gO_at (by omega)]⟩
    · exact Or.inr h
theorem IJ_gO (hj : j = 700 ∨ j = 701) (h : IJ G) : IJ (gO G j v) := fun a b ha hb e => by
  have ha' : a < 209 := ha
  have hb' : b < 209 := hb
  rw [gO_at (by omega), gO_at (by omega)] at e
  exact h a b ha hb e
theorem EV_gO (hj : j = 700 ∨ j = 701) {A : Nat → Prop} {U : State} {H : Heap} (h : EV G A U H) : EV (gO G j v) A U H := by
  obtain ⟨h1, h2, h3, h4, h5, h6, h7, h8, h9, h10⟩ := h
  refine ⟨h1, h2, h3, h4, ?_, ?_, ?_, ?_, h9, fun k hk => ?_⟩
  · rw [gO_at (by omega)]; exact h5
  · rw [gO_at (by omega)]; exact h6
  · rw [gO_at (by omega)]; exact h7
  · rw [gO_at (by omega)]; exact h8
  · have hk' : k < 32 := hk
    rw [gO_at (by omega), gO_at (by omega)]; exact h10 k hk
theorem Fx_gO (hj : j = 700 ∨ j = 701) {s : State} (F : Fx G s) : Fx (gO G j v) s := ⟨F.1, IJ_gO hj F.2.1, by rw [AA_gO hj]; exact EV_gO hj F.2.2⟩
theorem kd_gO : ∀ k, k < 209 → (kd k = 27 → k = 207) ∧ (kd k = 28 → k = 208) := by decide +kernel
theorem HW_gO {σ : Mm} {H : Heap} {kx : Nat} {x : Nat × va_E} (hj : j = 700 ∧ kx = 207 ∨ j = 701 ∧ kx = 208) (h1 : va_P G.1 vwCl ((wd G σ).set kx x) H) (h2 : va_at G.1 vwCl (G.2.2 kx, cellK (kd kx) (gO G j v) kx (σ kx)) H) : HW (gO G j v) σ H := by
  have hj' : j = 700 ∨ j = 701 := hj.elim (fun z => Or.inl z.1) (fun z => Or.inr z.1)
  intro k q hq
  by_cases hk : k < NN
  · have hk' : k < 209 := hk
    rw [wd_get hk] at hq
    cases hq
    show va_at G.1 vwCl _ H
    rw [gO_at (by omega)]
    by_cases c : k = kx
    · subst c; exact h2
    · rw [cellK_gO hj' hk' (fun e => by have := (kd_gO k hk').1 e; omega) (fun e => by have := (kd_gO k hk').2 e; omega)]
      refine h1 k _ ?_
      rw [List.getElem?_set, if_neg (fun z => c z.symm), wd_get hk]
  · rw [List.getElem?_eq_none_iff.mpr (by unfold wd; simpa using Nat.not_lt.mp hk)] at hq; cases hq
end GO
section LR
variable {p : Program} {l : Launch} {e : Env} {R : Room} {s : State} {m : MethodId} {args : Array Value} {below : List Frame} {meth : Method} {c : Code} {H : Heap} {locs : List Loc} {cells slots : Nat} {Q : State → Prop}
variable {cc : ByteArray} {nL pc index : Nat} {ls : Array Slot} {rest : List Value} {G : Gd} {σ τ : Mm} {own : String} {Ts : List Cond}
variable {y : MethodName} {bytes : ByteArray} {maxL n i kc ci N mc ms : Nat} {ret : Option FieldType} {ws : List Cond} {rm : Room} {C : String} {T : u_T} {fs : List Value} {As st : List Value}
/-- a call that may throw, in a 'try' -/
theorem h_call {out : (Int32 ⊕ Nat) × Mm} (S : CallFix p m c cc nL s args Ts own) (F : Fx G s) (B : Bd G σ s H locs) (hM : vx_Met l y ws rm (va_Pc (.ref (G.2.2 i) :: As) (PW G σ H.size)) (Xi G H.size out) (XX G H.size out) mc ms (AA G H.size)) (hk : kd i = kc ∧ i < NN) (he : cellK kc G i (σ i) = .inr (ci, fs)) (hc : vwCl[ci]? = some (C, T, N))
    (cw : CallW R s args own C index y bytes maxL ret ws rm mc ms n) (hn : As.length = n) (hsize : ls.size = nL) (hst : st = As.reverse ++ .ref (G.2.2 i) :: rest) (hroom : (rest.map fun v => v.category).sum ≤ 8) (hdg : decode cc pc = .ok (.invokevirtual index, 3)) (hf : cells + mc ≤ R.cells ∧ slots + ms ≤ R.slots)
    (kx : ∀ (k : Nat) (q9 : Nat) (ce : Cell) (H1 : Heap) (locs1 : List Loc), out.1 = .inr k → Bd G out.2 s H1 locs1 → H1[q9]? = some ce → ce.vm = .none → s.vm.findClass (exn k) = some ce.cls → vx_W p l e R s m args below meth c H1 locs1 (cells + mc) (slots + ms) Q (F0 m pc ls rest) q9)
    (kk : ∀ (v : Int32) (H1 : Heap) (locs1 : List Loc), out.1 = .inl v → Bd G out.2 s H1 locs1 → W p l e R s m args below meth c H1 locs1 (cells + mc) (slots + ms) Q (F0 m (pc + 3) ls (.int v :: rest))) : W p l e R s m args below meth c H locs cells slots Q (F0 m pc ls st) := by
  refine vx_calli (vx_runV S hM cw ⟨PW.blind, r_recv F B hk he hc, fun U hU hW => ⟨rfl, PW.call F B U hU hW⟩⟩ rfl hn hsize hst (lv_room hroom) hdg hf) B.2 (fun q _ h => AA_free B q h) (AA_free B) (fun q _ h => AA_free B q h) (fun E ce q9 u t H1 locs1 ht hvm hp hb h1 h2 hS hce hcv hcl => ?_) (fun r u t H1 locs1 ht hvm hp hb h1 h2 hS => ?_)
  · obtain ⟨k, hk, rfl, hw⟩ := hb
    exact kx k q9 ce H1 locs1 hk ⟨by rw [← ht]; exact hw, hS⟩ hce hcv hcl
  · exact kk r H1 locs1 hp ⟨by rw [← ht]; exact hb, hS⟩
/-- caught by a row of the table -/
theorem h_catch (S : CallFix p m c cc nL s args Ts own) (F : Fx G s) {k hp : Nat} {q9 : Nat} {ce : Cell} (pre : List ExceptionTableEntry) (x : ExceptionTableEntry) (suf : List ExceptionTableEntry) (hsplit : c.exceptionTable.toList = pre ++ x :: suf)
    (hpass : ∀ z ∈ pre, covers z pc = false ∨ (z.catchType ≠ 0 ∧ ∃ nm : String, (Cond.classLink own z.catchType nm).before args s = true ∧ va_Nc (exn k) nm s)) (hx : covers x pc = true) (h0 : x.catchType ≠ 0) (hpc : x.handlerPc = hp)
    (hlink : Cond.classLink own x.catchType (exn k) ∈ Ts) (hk : exn k ∈ exC) (hcell : H[q9]? = some ce) (hv : ce.vm = .none) (hcl : s.vm.findClass (exn k) = some ce.cls)
    (kk : W p l e R s m args below meth c H locs cells slots Q (F0 m hp ls [.ref q9])) : vx_W p l e R s m args below meth c H locs cells slots Q (F0 m pc ls rest) q9 := by
  subst hpc
  exact vx_catch S.2.2.2.1 pre x suf hsplit hpass hx h0 (S.2.2.2.2 _ hlink) (va_Nw.use rfl (F.cst _ hk)) hcell hv hcl kk
theorem r_last (S : CallFix p m c cc nL s args Ts own) (F : Fx G s) (B : Bd G σ s H locs) {x : Int64} (hdg : decode cc pc = .ok (.lastore, 1))
    (kk : ∀ (H1 : Heap) (locs1 : List Loc), Bd (gL G x) σ s H1 locs1 → W p l e R s m args below meth c H1 locs1 cells slots Q (F0 m (pc + 1) ls rest)) : W p l e R s m args below meth c H locs cells slots Q (F0 m pc ls (.long x :: .int 0 :: .ref (G.2.2 207) :: rest)) := by
  refine va_last S.1 S.2.1 F.1 B.1 (wd_D F.2.1 _ σ) B.2 207 7 (by rw [wd_get (by decide)]; rfl) rfl (vpc (by decide)) hdg (fun H1 locs1 h1 _ h3 => kk H1 locs1 ⟨?_, ?_⟩)
  · refine HW_gO (kx := 207) (Or.inl ⟨rfl, rfl⟩) h1 ?_
    have h2 := h1 207 (G.2.2 207, .inl (G.2.1 7, 1, .inr (.inl (vp_updL (fun _ => Int64.ofNat (G.2.2 700)) (Int32.toNatClampNeg 0) x)))) (by rw [List.getElem?_set]; simp [wd, NN])
    have h3 : H1[G.2.2 207]? = some (vp_cell (G.2.1 7) (1, .inr (.inl (vp_updL (fun _ => Int64.ofNat (G.2.2 700)) (Int32.toNatClampNeg 0) x)))) := h2
    show H1[G.2.2 207]? = some (vp_cell (G.2.1 7) (1, .inr (.inl (fun _ => Int64.ofNat x.toUInt64.toNat))))
    rw [h3, gL_ok]
    rw [vp_cell_l, vp_cell_l]; exact congrArg some (arr1 _ _ rfl)
  · unfold gL; rw [AA_gO (Or.inl rfl)]; exact h3
theorem r_lald (S : CallFix p m c cc nL s args Ts own) (F : Fx G s) (B : Bd G σ s H locs) (hdg : decode cc pc = .ok (.laload, 1))
    (kk : W p l e R s m args below meth c H locs cells slots Q (F0 m (pc + 1) ls (.long (Int64.ofNat (G.2.2 700)) :: rest))) : W p l e R s m args below meth c H locs cells slots Q (F0 m pc ls (.int 0 :: .ref (G.2.2 207) :: rest)) :=
  va_lald S.1 S.2.1 F.1 B.1 207 7 (by rw [wd_get (by decide)]; rfl) rfl (vpc (by decide)) hdg kk
/-- an answer, when what the out cells hold has changed -/
abbrev Ql (G : Gd) (sz : Nat) (G1 : Gd) (v : Int32) (τ : Mm) : Array Value → State → Outcome → State → Prop := va_Qi (fun r (_ : Unit) => r = v) (fun _ t => HW G1 τ t.heap) (AA G sz)
theorem e_l {G1 : Gd} (B : Bd G1 τ s H locs) (hA : ∀ z, AA G1 z = AA G z) (hx : p.tables.exec = Jvm.exec) (hb : c.code = cc) (hr : meth.sig.returnType = some .int) (hlocks : meth.locks = false) {v w : Int32} (hv : w = v) (hdg : decode cc pc = .ok (.ireturn, 1)) : W p l e R s m args below meth c H locs cells slots (MQ below (Ql G s.heap.size G1 v τ) args s cells slots (AA G s.heap.size)) (F0 m pc ls [.int w]) := by
  have B2 : va_S (AA G s.heap.size) s.heap H locs := by rw [← hA]; exact B.2
  exact W.iret hx hb hr (fun t ht _ => ⟨⟨w, (), rfl, hv, by show HW G1 τ t.heap; rw [ht]; exact B.1⟩, B2.F ht⟩) B2.2.2 hdg hlocks
/-- a static call of a method with a table -/
theorem k_iSW {G1 : Gd} {hh : List (Nat × Nat × Nat × Nat)} (S : CallFix p m c cc nL s args Ts own) (F : Fx G s) (B : Bd G σ s H locs) {v : Int32} (hM : Met l y ws rm (va_Pc As (PW G σ H.size)) (Ql G H.size G1 v τ) mc ms (AA G H.size)) (hA : ∀ z, AA G1 z = AA G z)
    (cw : vx_CSW R s args own index y bytes maxL ret hh ws rm mc ms n) (hn : As.length = n) (hsize : ls.size = nL) (hst : st = As.reverse ++ rest) (hroom : (rest.map fun v => v.category).sum ≤ 8) (hdg : decode cc pc = .ok (.invokestatic index, 3)) (hf : cells + mc ≤ R.cells ∧ slots + ms ≤ R.slots)
    (kk : ∀ (H1 : Heap) (locs1 : List Loc), Bd G1 τ s H1 locs1 → W p l e R s m args below meth c H1 locs1 (cells + mc) (slots + ms) Q (F0 m (pc + 3) ls (.int v :: rest))) : W p l e R s m args below meth c H locs cells slots Q (F0 m pc ls st) := by
  refine va_calli (vx_runSW S hM cw ⟨PW.blind, fun U hU hW => ⟨rfl, PW.call F B U hU hW⟩⟩ rfl hn hsize hst (lv_room hroom) hdg hf) B.2 (fun q _ h => AA_free B q h) (AA_free B) (fun r u t H1 locs1 ht hvm hp hb h1 h2 hS => ?_)
  subst hp
  exact kk H1 locs1 ⟨by rw [← ht]; exact hb, by rw [hA]; exact hS⟩
end LR
/-- what a law's method makes of an answer, or of an exception -/
def hp {α : Type} (pl : Nat → Int32) (out : (α ⊕ Nat) × Mm) : Int32 := match out.1 with
  | .inl _ => 0
  | .inr n => pl n
def hgL (out : (Int32 ⊕ Nat) × Mm) (G : Gd) : Gd := match out.1 with
  | .inl v => gL G v.toInt64
  | .inr _ => G
def hgB (out : (Int32 ⊕ Nat) × Mm) (G : Gd) : Gd := match out.1 with
  | .inl v => gL G (if v = 0 then 0 else 1)
  | .inr _ => G
def hgD (out : (UInt64 ⊕ Nat) × Mm) (G : Gd) : Gd := match out.1 with
  | .inl v => gD G v
  | .inr _ => G
theorem hp_l {α : Type} (pl : Nat → Int32) {out : (α ⊕ Nat) × Mm} {v : α} (h : out.1 = .inl v) : hp pl out = 0 := by unfold hp; rw [h]
theorem hp_r {α : Type} (pl : Nat → Int32) {out : (α ⊕ Nat) × Mm} {n : Nat} (h : out.1 = .inr n) : hp pl out = pl n := by unfold hp; rw [h]
theorem hgL_l {G : Gd} {out : (Int32 ⊕ Nat) × Mm} {v : Int32} (h : out.1 = .inl v) : hgL out G = gL G v.toInt64 := by unfold hgL; rw [h]
theorem hgL_r {G : Gd} {out : (Int32 ⊕ Nat) × Mm} {n : Nat} (h : out.1 = .inr n) : hgL out G = G := by unfold hgL; rw [h]
theorem hgB_l {G : Gd} {out : (Int32 ⊕ Nat) × Mm} {v : Int32} (h : out.1 = .inl v) : hgB out G = gL G (if v = 0 then 0 else 1) := by unfold hgB; rw [h]
theorem hgB_r {G : Gd} {out : (Int32 ⊕ Nat) × Mm} {n : Nat} (h : out.1 = .inr n) : hgB out G = G := by unfold hgB; rw [h]
theorem hgD_l {G : Gd} {out : (UInt64 ⊕ Nat) × Mm} {v : UInt64} (h : out.1 = .inl v) : hgD out G = gD G v := by unfold hgD; rw [h]
theorem hgD_r {G : Gd} {out : (UInt64 ⊕ Nat) × Mm} {n : Nat} (h : out.1 = .inr n) : hgD out G = G := by unfold hgD; rw [h]
theorem gL_AA {G : Gd} {x : Int64} (z : Nat) : AA (gL G x) z = AA G z := AA_gO (Or.inl rfl)
theorem gD_AA {G : Gd} {x : UInt64} (z : Nat) : AA (gD G x) z = AA G z := AA_gO (Or.inr rfl)
