/-! THE LAW'S OWN METHODS: rows for a call inside a 'try', and for the law's two rows -/
theorem Met.ofWH {l : Launch} {y : MethodName} {ws ws' : List Cond} {rm : Room} {Pc : Array Value → State → Prop} {Qc : Array Value → State → Outcome → State → Prop} {mc ms : Nat} {free : Addr → Prop} {cc : ByteArray} {maxL : Nat} {ret : Option FieldType} {hh : List (Nat × Nat × Nat × Nat)}
    (hy : plainName y.cls = true) (hw : ws = Cond.codeWith y cc maxL ret hh :: ws')
    (body : ∀ p e s m args below meth c s₁, BodyLoose p l y (headSpec ws rm) cc maxL ret e s m args below meth c s₁ → c.maxLocals = maxL → Pc args s →
      W p l e (headSpec ws rm).room s m args below meth c s.heap [] 0 0 (MQ below Qc args s mc ms free) (entryFrame m args maxL)) : Met l y ws rm Pc Qc mc ms free := by
  refine MetFree.of_bodyS (code := cc) (maxLocals := maxL) (ret := ret) hy ?_ ?_
  · intro args s m h hn
    obtain ⟨m9, meth, c, hn9, h1, h2, h3, h4, -, h5, h6, -⟩ := Cond.codeWith_spec (atoms_spec (ws := ws) h _ (by rw [hw]; exact List.mem_cons_self))
    cases hn.symm.trans hn9
    exact ⟨meth, c, h1, h2, h3, h4, h5, h6⟩
  · intro p e s m args below meth c s₁ B hml hP _
    have hh0 : s₁.heap = s.heap := by rw [B.state]; rfl
    obtain ⟨t, a1, o, b1, b2, b3⟩ := body p e s m args below meth c s₁ B hml hP s₁ hh0 (Stand.of_body B)
    exact ⟨t, o, a1, b1, b2, ⟨b3.1, b3.2⟩⟩
section LR
variable {p : Program} {l : Launch} {e : Env} {R : Room} {s : State} {m : MethodId} {args : Array Value} {below : List Frame} {meth : Method} {c : Code} {H : Heap} {locs : List Loc} {cells slots : Nat} {Q : State → Prop}
variable {cc : ByteArray} {nL pc index : Nat} {ls : Array Slot} {rest : List Value} {G : Gd} {σ τ : Mm} {own : String} {Ts : List Cond}
variable {y : MethodName} {bytes : ByteArray} {maxL n i kc ci N mc ms : Nat} {ret : Option FieldType} {ws : List Cond} {rm : Room} {C : String} {T : u_T} {fs : List Value} {As st : List Value}
/-- a call that may throw, in a 'try' -/
theorem h_call {out : (Int32 ⊕ Nat) × Mm} (S : CallFix p m c cc nL s args Ts own) (F : Fx G s) (B : Bd G σ s H locs) (hM : vx_Met l y ws rm (va_Pc (.ref (G.2.2 i) :: As) (PW G σ H.size)) (Xi G H.size out) (XX G H.size out) mc ms (AA G H.size)) (hk : kd i = kc ∧ i < NN) (he : cellK kc G i (σ i) = .inr (ci, fs)) (hc : vwCl[ci]? = some (C, T, N))
    (cw : CallW R s args own C index y bytes maxL ret ws rm mc ms n) (hn : As.length = n) (hsize : ls.size = nL) (hst : st = As.reverse ++ .ref (G.2.2 i) :: rest) (hroom : (rest.map fun v => v.category).sum ≤ 8) (hdg : decode cc pc = .ok (.invokevirtual index, 3)) (hf : cells + mc ≤ R.cells ∧ slots + ms ≤ R.slots)
    (kx : ∀ (k : Nat) (q9 : Nat) (ce : Cell) (H1 : Heap) (locs1 : List Loc), out.1 = .inr k → Bd G out.2 s H1 locs1 → H1[q9]? = some ce → ce.vm = .none → s.vm.findClass (exn k) = some ce.cls → vx_W p l e R s m args below meth c H1 locs1 (cells + mc) (slots + ms) Q (F0 m pc ls rest) q9)
    (kk : ∀ (v : Int32) (H1 : Heap) (locs1 : List Loc), out.1 = .inl v → Bd G out.2 s H1 locs1 → W p l e R s m args below meth c H1 locs1 (cells + mc) (slots + ms) Q (F0 m (pc + 3) ls (.int v :: rest))) : W p l e R s m args below meth c H locs cells slots Q (F0 m pc ls st) := by
  refine vx_calli (vx_runV S hM cw ⟨PW.blind, r_recv F B hk he hc, fun U hU hW => ⟨rfl, PW.call F B U hU hW⟩⟩ rfl hn hsize hst (lv_room hroom) hdg hf) B.2 (fun q _ h => AA_free B q h) (AA_free B) (fun q _ h => AA_free B q h) (fun E ce q9 u t H1 locs1 ht hvm hp hb h1 h2 hS hce hcv hcl => ?_) (fun r u t H1 locs1 ht hvm hp hb h1 h2 hS => ?_)
  · obtain ⟨k, hk, rfl, hw⟩ := hb
    exact kx k q9 ce H1 locs1 hk ⟨by rw [← ht]; exact hw, hS⟩ hce hcv hcl
  · exact kk r H1 locs1 hp ⟨by rw [← ht]; exact hb, hS⟩
/-- caught by a row of the table -/
theorem h_catch (S : CallFix p m c cc nL s args Ts own) (F : Fx G s) {k hp : Nat} {q9 : Nat} {ce : Cell} (pre : List ExceptionTableEntry) (x : ExceptionTableEntry) (suf : List ExceptionTableEntry) (hsplit : c.exceptionTable.toList = pre ++ x :: suf)
    (hpass : ∀ z ∈ pre, covers z pc = false ∨ (z.catchType ≠ 0 ∧ ∃ nm : String, (Cond.classLink own z.catchType nm).before args s = true ∧ va_Nc (exn k) nm s)) (hx : covers x pc = true) (h0 : x.catchType ≠ 0) (hpc : x.handlerPc = hp)
    (hlink : Cond.classLink own x.catchType (exn k) ∈ Ts) (hk : exn k ∈ exC) (hcell : H[q9]? = some ce) (hv : ce.vm = .none) (hcl : s.vm.findClass (exn k) = some ce.cls)
    (kk : W p l e R s m args below meth c H locs cells slots Q (F0 m hp ls [.ref q9])) : vx_W p l e R s m args below meth c H locs cells slots Q (F0 m pc ls rest) q9 := by
  subst hpc
  exact vx_catch S.2.2.2.1 pre x suf hsplit hpass hx h0 (S.2.2.2.2 _ hlink) (va_Nw.use rfl (F.cst _ hk)) hcell hv hcl kk
theorem r_last (S : CallFix p m c cc nL s args Ts own) (F : Fx G s) (B : Bd G σ s H locs) {v : Int32} {x : Int64} (hv : v.toInt64 = x) (hdg : decode cc pc = .ok (.lastore, 1))
    (kk : ∀ (H1 : Heap) (locs1 : List Loc), Bd G (up σ 207 0 v) s H1 locs1 → W p l e R s m args below meth c H1 locs1 cells slots Q (F0 m (pc + 1) ls rest)) : W p l e R s m args below meth c H locs cells slots Q (F0 m pc ls (.long x :: .int 0 :: .ref (G.2.2 207) :: rest)) := by
  subst hv
  refine va_last S.1 S.2.1 F.1 B.1 (wd_D F.2.1 _ σ) B.2 207 7 (by rw [wd_get (by decide)]; rfl) rfl (vpc (by decide)) hdg (fun H1 locs1 h1 _ h3 => kk H1 locs1 ⟨?_, h3⟩)
  have e : (Sum.inl (G.2.1 7, 1, .inr (.inl (vp_updL (fun j => (σ 207 j).toInt64) (Int32.toNatClampNeg 0) v.toInt64))) : va_E) = cellK (kd 207) G 207 (upd (σ 207) 0 v) := by
    have e2 : vp_updL (fun j => (σ 207 j).toInt64) (Int32.toNatClampNeg 0) v.toInt64 = fun j => (upd (σ 207) 0 v j).toInt64 := by
      funext j
      show vp_updL _ 0 _ j = _
      unfold vp_updL upd
      by_cases h : j = 0
      · simp [h]
      · simp [h]
    rw [e2]; rfl
  rw [e, wd_set (by decide) rfl] at h1
  exact h1
theorem r_lald (S : CallFix p m c cc nL s args Ts own) (F : Fx G s) (B : Bd G σ s H locs) (hdg : decode cc pc = .ok (.laload, 1))
    (kk : W p l e R s m args below meth c H locs cells slots Q (F0 m (pc + 1) ls (.long (σ 207 0).toInt64 :: rest))) : W p l e R s m args below meth c H locs cells slots Q (F0 m pc ls (.int 0 :: .ref (G.2.2 207) :: rest)) :=
  va_lald S.1 S.2.1 F.1 B.1 207 7 (by rw [wd_get (by decide)]; rfl) rfl (vpc (by decide)) hdg kk
/-- a static call of a method with a table -/
theorem k_iSW {hh : List (Nat × Nat × Nat × Nat)} (S : CallFix p m c cc nL s args Ts own) (F : Fx G s) (B : Bd G σ s H locs) {v : Int32} (hM : Met l y ws rm (va_Pc As (PW G σ H.size)) (Qi G H.size v τ) mc ms (AA G H.size))
    (cw : vx_CSW R s args own index y bytes maxL ret hh ws rm mc ms n) (hn : As.length = n) (hsize : ls.size = nL) (hst : st = As.reverse ++ rest) (hroom : (rest.map fun v => v.category).sum ≤ 8) (hdg : decode cc pc = .ok (.invokestatic index, 3)) (hf : cells + mc ≤ R.cells ∧ slots + ms ≤ R.slots)
    (kk : ∀ (H1 : Heap) (locs1 : List Loc), Bd G τ s H1 locs1 → W p l e R s m args below meth c H1 locs1 (cells + mc) (slots + ms) Q (F0 m (pc + 3) ls (.int v :: rest))) : W p l e R s m args below meth c H locs cells slots Q (F0 m pc ls st) := by
  refine va_calli (vx_runSW S hM cw ⟨PW.blind, fun U hU hW => ⟨rfl, PW.call F B U hU hW⟩⟩ rfl hn hsize hst (lv_room hroom) hdg hf) B.2 (fun q _ h => AA_free B q h) (AA_free B) (fun r u t H1 locs1 ht hvm hp hb h1 h2 hS => ?_)
  subst hp
  exact kk H1 locs1 ⟨by rw [← ht]; exact hb, hS⟩
end LR
/-- what a law's method makes of an answer, or of an exception -/
def hp (pl : Nat → Int32) (out : (Int32 ⊕ Nat) × Mm) : Int32 × Mm := match out.1 with
  | .inl v => (0, up out.2 207 0 v)
  | .inr n => (pl n, out.2)
def hpB (pl : Nat → Int32) (out : (Int32 ⊕ Nat) × Mm) : Int32 × Mm := match out.1 with
  | .inl v => (0, up out.2 207 0 (if v = 0 then 0 else 1))
  | .inr n => (pl n, out.2)
theorem hp_l (pl : Nat → Int32) {out : (Int32 ⊕ Nat) × Mm} {v : Int32} (h : out.1 = .inl v) : hp pl out = (0, up out.2 207 0 v) := by unfold hp; rw [h]
theorem hp_r (pl : Nat → Int32) {out : (Int32 ⊕ Nat) × Mm} {n : Nat} (h : out.1 = .inr n) : hp pl out = (pl n, out.2) := by unfold hp; rw [h]
theorem hpB_l (pl : Nat → Int32) {out : (Int32 ⊕ Nat) × Mm} {v : Int32} (h : out.1 = .inl v) : hpB pl out = (0, up out.2 207 0 (if v = 0 then 0 else 1)) := by unfold hpB; rw [h]
theorem hpB_r (pl : Nat → Int32) {out : (Int32 ⊕ Nat) × Mm} {n : Nat} (h : out.1 = .inr n) : hpB pl out = (pl n, out.2) := by unfold hpB; rw [h]
