/-! rows: a copied row of numbers, tables, calls that may throw -/
/-- the first n numbers of the cell j, laid over those of the cell i -/
def cpm (σ : Mm) (i j n : Nat) : Mm := fun a => if a = i then va_cpy (σ j) (σ i) 0 0 n else σ a
section RW2
variable {p : Program} {l : Launch} {e : Env} {R : Room} {s : State} {m : MethodId} {args : Array Value} {below : List Frame} {meth : Method} {c : Code} {H : Heap} {locs : List Loc} {cells slots : Nat} {Q : State → Prop}
variable {cc : ByteArray} {nL pc index : Nat} {ls : Array Slot} {rest : List Value} {G : Gd} {σ : Mm} {own : String} {Ts : List Cond}
theorem r_copyi (S : CallFix p m c cc nL s args Ts own) (F : Fx G s) (B : Bd G σ s H locs) {i j ki kj ni nj : Nat} {sp dp n : Int32} (hj : kd j = kj ∧ j < NN) (hi : kd i = ki ∧ i < NN) (hej : ∀ f, cellK kj G j f = .inl (G.2.1 0, nj, .inl f)) (hei : ∀ f, cellK ki G i f = .inl (G.2.1 0, ni, .inl f))
    (hz : sp = 0 ∧ dp = 0 ∧ ¬ n < 0 ∧ n.toNatClampNeg ≤ nj ∧ n.toNatClampNeg ≤ ni) (hml : c.maxLocals = ls.size) (h1 : Cond.methodLink own index arraycopyName ∈ Ts) (h2 : Cond.native arraycopyName ∈ Ts) (h3 : Cond.static arraycopyName ∈ Ts) (h4 : Cond.initialized "java/lang/System" ∈ Ts)
    (hframes : 1 ≤ R.frames) (hlocals : (rest.map fun v => v.category).sum + (nativeFrameWords "java/lang/System" "arraycopy" 5 + 11) ≤ R.locals) {N : Nat} (hN : n.toNatClampNeg = N) (hdg : decode cc pc = .ok (.invokestatic index, 3))
    (kk : ∀ (H1 : Heap) (locs1 : List Loc), Bd G (cpm σ i j N) s H1 locs1 → W p l e R s m args below meth c H1 locs1 cells slots Q (F0 m (pc + 3) ls rest)) : W p l e R s m args below meth c H locs cells slots Q (F0 m pc ls (.int n :: .int dp :: .ref (G.2.2 i) :: .int sp :: .ref (G.2.2 j) :: rest)) := by
  obtain ⟨rfl, rfl, hn, hnj, hni⟩ := hz
  subst hN
  obtain ⟨hx, hb, -, hown, hts⟩ := S
  refine va_copyi hx hb hml hown (hts _ h1) (hts _ h2) (hts _ h3) (hts _ h4) F.1 B.1 (wd_D F.2.1 _ σ) B.2 j i 0 0 (by rw [wd_get hj.2, hj.1, hej]) (by rw [wd_get hi.2, hi.1, hei]) rfl rfl rfl (by decide) (by decide) hn (by show 0 + _ ≤ _; omega) (by show 0 + _ ≤ _; omega) (fun _ _ => rfl) hframes hlocals hdg (fun H1 locs1 q1 _ q3 => kk H1 locs1 ⟨?_, q3⟩)
  rw [wd_set hi.2 (f := va_cpy (σ j) (σ i) 0 0 n.toNatClampNeg) (by rw [hi.1, hei]; rfl)] at q1
  exact q1
theorem t_tableD (hexec : p.tables.exec = Jvm.exec) (hb : c.code = cc) {dflt lo hi : Int} {offs : Array Int} {len : Nat} {x : Int32} {tgt : Nat} (hdg : decode cc pc = .ok (.tableswitch dflt lo hi offs, len)) (hs : offs.size = (hi - lo + 1).toNat) (hj : ∀ j : Nat, j < offs.size → offs[j]? = some dflt ∨ ¬ x.toInt = lo + (j : Int)) (ht : (pc : Int) + dflt = (tgt : Int))
    (k : W p l e R s m args below meth c H locs cells slots Q (F0 m tgt ls rest)) : W p l e R s m args below meth c H locs cells slots Q (F0 m pc ls (.int x :: rest)) := by
  by_cases h1 : x.toInt < lo
  · exact lv_tableOut hexec hb hdg (Or.inl h1) ht k
  · by_cases h2 : hi < x.toInt
    · exact lv_tableOut hexec hb hdg (Or.inr h2) ht k
    · have hlt : (x.toInt - lo).toNat < offs.size := by rw [hs]; omega
      rcases hj _ hlt with h | h
      · exact lv_tableIn hexec hb hdg h1 h2 h ht k
      · exact absurd (by omega) h
/-! contracts of methods that may throw: out is the answer, or the number of the exception's class -/
abbrev Xi (G : Gd) (sz : Nat) (out : (Int32 ⊕ Nat) × Mm) : Array Value → State → Outcome → State → Prop := va_Qi (fun r (_ : Unit) => out.1 = .inl r) (fun _ t => HW G out.2 t.heap) (AA G sz)
abbrev Xv (G : Gd) (sz : Nat) (out : (Unit ⊕ Nat) × Mm) : Array Value → State → Outcome → State → Prop := va_Qv (fun u : Unit => out.1 = .inl u) (fun _ t => HW G out.2 t.heap) (AA G sz)
abbrev Xq (G : Gd) (sz : Nat) (out : (Option Nat ⊕ Nat) × Mm) : Array Value → State → Outcome → State → Prop := va_Qq (fun r (u : Option Nat) => out.1 = .inl u ∧ r = u.map G.2.2) (fun _ t => HW G out.2 t.heap) (AA G sz)
abbrev XX {α : Type} (G : Gd) (sz : Nat) (out : (α ⊕ Nat) × Mm) : String → State → State → Prop := vx_X (fun _ : Unit => True) (fun E _ t => ∃ n, out.1 = .inr n ∧ E = exn n ∧ HW G out.2 t.heap) (AA G sz)
variable {y : MethodName} {bytes : ByteArray} {maxL n i kc ci N mc ms mc9 ms9 : Nat} {ret : Option FieldType} {ws : List Cond} {rm : Room} {C : String} {T : u_T} {fs : List Value} {As st : List Value} {τ : Mm}
theorem xe_i {out : (Int32 ⊕ Nat) × Mm} {free : Addr → Prop} {XC : String → State → State → Prop} (B : Bd G τ s H locs) (hx : p.tables.exec = Jvm.exec) (hb : c.code = cc) {ty : FieldType} (hr : meth.sig.returnType = some ty) (hlocks : meth.locks = false) {w : Int32} (hn : narrow ty (.int w) = .int w) (hv : out = (.inl w, τ)) (hf : free = AA G s.heap.size) (hdg : decode cc pc = .ok (.ireturn, 1)) : W p l e R s m args below meth c H locs cells slots (vx_MQ below (Xi G s.heap.size out) XC args s cells slots free) (F0 m pc ls [.int w]) := by
  subst hv; subst hf
  exact vx_ret (W.zret hx hb hr hn (fun t ht _ => ⟨⟨w, (), rfl, rfl, by show HW G τ t.heap; rw [ht]; exact B.1⟩, B.2.F ht⟩) B.2.2.2 hdg hlocks)
theorem xe_v {out : (Unit ⊕ Nat) × Mm} {free : Addr → Prop} {XC : String → State → State → Prop} (B : Bd G τ s H locs) (hx : p.tables.exec = Jvm.exec) (hb : c.code = cc) (hr : meth.sig.returnType = none) (hlocks : meth.locks = false) (hv : out = (.inl (), τ)) (hf : free = AA G s.heap.size) (hdg : decode cc pc = .ok (.return_, 1)) : W p l e R s m args below meth c H locs cells slots (vx_MQ below (Xv G s.heap.size out) XC args s cells slots free) (F0 m pc ls []) := by
  subst hv; subst hf
  exact vx_ret (W.vret hx hb hr (fun t ht _ => ⟨⟨(), rfl, rfl, by show HW G τ t.heap; rw [ht]; exact B.1⟩, B.2.F ht⟩) B.2.2.2 hdg hlocks)
theorem xe_q {out : (Option Nat ⊕ Nat) × Mm} {free : Addr → Prop} {XC : String → State → State → Prop} (B : Bd G τ s H locs) (hx : p.tables.exec = Jvm.exec) (hb : c.code = cc) {rt : FieldType} (hr : meth.sig.returnType = some rt) (hrt : (∃ n, rt = .object n) ∨ ∃ t, rt = .array t) (hlocks : meth.locks = false) {w : Option Nat} (hv : out = (.inl w, τ)) (hf : free = AA G s.heap.size) (hdg : decode cc pc = .ok (.areturn, 1)) : W p l e R s m args below meth c H locs cells slots (vx_MQ below (Xq G s.heap.size out) XC args s cells slots free) (F0 m pc ls [va_re G.2.2 w]) := by
  subst hv; subst hf
  exact vx_ret (W.aret hx hb hr hrt (by cases w; exact Or.inl rfl; exact Or.inr ⟨_, rfl⟩) (fun t ht _ => ⟨⟨w.map G.2.2, w, rfl, ⟨rfl, rfl⟩, by show HW G τ t.heap; rw [ht]; exact B.1⟩, B.2.F ht⟩) B.2.2.2 hdg hlocks)
/-- the exception goes on to the caller -/
theorem x_on {α β : Type} {n : Nat} {q9 : Addr} {ce : Cell} {E : String} {H1 : Heap} {locs1 : List Loc} {Qc : Array Value → State → Outcome → State → Prop} {st0 : List Value} {t : State} (ht : t.heap = H1) (hb : ∃ k, ((.inr n : α ⊕ Nat), τ).1 = .inr k ∧ E = exn k ∧ HW G τ t.heap) (hS : va_S (AA G s.heap.size) s.heap H1 locs1) (hce : H1[q9]? = some ce) (hcv : ce.vm = .none) (hcl : s.vm.findClass E = some ce.cls) (hlocks : meth.locks = false) (ht9 : ∀ x ∈ c.exceptionTable.toList, False) (hc : cells ≤ mc9) (hs : slots ≤ ms9) :
    vx_W p l e R s m args below meth c H1 locs1 cells slots (vx_MQ below Qc (XX G s.heap.size ((.inr n : β ⊕ Nat), τ)) args s mc9 ms9 (AA G s.heap.size)) (F0 m pc ls st0) q9 := by
  obtain ⟨k, hk, hE, hw⟩ := hb
  have hk : (Sum.inr n : α ⊕ Nat) = Sum.inr k := hk
  cases hk
  refine vx_out (fun x hx => (ht9 x hx).elim) hlocks hce hcv hcl (fun t' ht' _ => ?_) hS.2.2 hc hs
  exact ⟨(), trivial, ⟨n, rfl, hE, by rw [ht', ← ht]; exact hw⟩, hS.F ht'⟩
section VV
variable (S : CallFix p m c cc nL s args Ts own) (F : Fx G s) (B : Bd G σ s H locs) 
theorem xk_iV {v : Int32} (S : CallFix p m c cc nL s args Ts own) (F : Fx G s) (B : Bd G σ s H locs) (hM : vx_Met l y ws rm (va_Pc (.ref (G.2.2 i) :: As) (PW G σ H.size)) (Xi G H.size (.inl v, τ)) (XX G H.size ((.inl v : Int32 ⊕ Nat), τ)) mc ms (AA G H.size)) (hk : kd i = kc ∧ i < NN) (he : cellK kc G i (σ i) = .inr (ci, fs)) (hc : vwCl[ci]? = some (C, T, N))
    (cw : CallW R s args own C index y bytes maxL ret ws rm mc ms n) (hn : As.length = n) (hsize : ls.size = nL) (hst : st = As.reverse ++ .ref (G.2.2 i) :: rest) (hroom : (rest.map fun v => v.category).sum ≤ 8) (hdg : decode cc pc = .ok (.invokevirtual index, 3)) (hf : cells + mc ≤ R.cells ∧ slots + ms ≤ R.slots)
    (kk : ∀ (H1 : Heap) (locs1 : List Loc), Bd G τ s H1 locs1 → W p l e R s m args below meth c H1 locs1 (cells + mc) (slots + ms) Q (F0 m (pc + 3) ls (.int v :: rest))) : W p l e R s m args below meth c H locs cells slots Q (F0 m pc ls st) := by
  refine vx_calli (vx_runV S hM cw ⟨PW.blind, r_recv F B hk he hc, fun U hU hW => ⟨rfl, PW.call F B U hU hW⟩⟩ rfl hn hsize hst (lv_room hroom) hdg hf) B.2 (fun q _ h => AA_free B q h) (AA_free B) (fun q _ h => AA_free B q h) (fun E ce q9 u t H1 locs1 ht hvm hp hb h1 h2 hS hce hcv hcl => ?_) (fun r u t H1 locs1 ht hvm hp hb h1 h2 hS => ?_)
  · obtain ⟨k, hk, -⟩ := hb
    cases hk
  · have hp : (Sum.inl v : Int32 ⊕ Nat) = Sum.inl r := hp
    cases hp
    exact kk H1 locs1 ⟨by rw [← ht]; exact hb, hS⟩
theorem xk_eV {α β : Type} {Qa Qc : Array Value → State → Outcome → State → Prop} {k : Nat} (hQ : ∀ (a : Array Value) (U t : State) (o : Outcome), Qa a U o t → False) (S : CallFix p m c cc nL s args Ts own) (F : Fx G s) (B : Bd G σ s H locs) (hM : vx_Met l y ws rm (va_Pc (.ref (G.2.2 i) :: As) (PW G σ H.size)) Qa (XX G H.size ((.inr k : α ⊕ Nat), τ)) mc ms (AA G H.size)) (hk : kd i = kc ∧ i < NN) (he : cellK kc G i (σ i) = .inr (ci, fs)) (hc : vwCl[ci]? = some (C, T, N))
    (cw : CallW R s args own C index y bytes maxL ret ws rm mc ms n) (hn : As.length = n) (hsize : ls.size = nL) (hst : st = As.reverse ++ .ref (G.2.2 i) :: rest) (hroom : (rest.map fun v => v.category).sum ≤ 8) (hdg : decode cc pc = .ok (.invokevirtual index, 3)) (hlocks : meth.locks = false) (ht9 : ∀ x ∈ c.exceptionTable.toList, False) (h8 : cells + mc ≤ mc9) (h9 : slots + ms ≤ ms9) (hf : cells + mc ≤ R.cells ∧ slots + ms ≤ R.slots) :
    W p l e R s m args below meth c H locs cells slots (vx_MQ below Qc (XX G s.heap.size ((.inr k : β ⊕ Nat), τ)) args s mc9 ms9 (AA G s.heap.size)) (F0 m pc ls st) := by
  have hr := vx_runV S hM cw ⟨PW.blind, r_recv F B hk he hc, fun U hU hW => ⟨rfl, PW.call F B U hU hW⟩⟩ (e := e) (below := below) (meth := meth) (locs := locs) (cells := cells) (slots := slots) (g := F0 m pc ls st) rfl hn hsize hst (lv_room hroom) hdg hf
  intro T0 hT X
  rcases hr T0 hT X with ⟨v, st₀, t, T', L, h0, X', hL, e1, e2, h, st1⟩ | ⟨q, st₀, t, T', L, E, ce, h0, X', hL, e1, e2, ⟨u, hp, hb, hF⟩, hce, hcv, hcl, st1⟩
  · exact (hQ _ _ _ _ h).elim
  · obtain ⟨k1, k2, k3⟩ := vx_keep h0 e1 B.2 (fun q _ h => AA_free B q h) (AA_free B) hL hF
    obtain ⟨t2, a1, b1⟩ := x_on (p := p) (l := l) (e := e) (R := R) (args := args) (below := below) (Qc := Qc) (α := α) (β := β) (pc := pc) (ls := ls) (st0 := rest) e1.symm hb k3 (by rw [e1]; exact hce) hcv hcl hlocks ht9 h8 h9 T' rfl X'
    exact ⟨t2, st1.trans a1, b1⟩
theorem xk_qV {v : Option Nat} (S : CallFix p m c cc nL s args Ts own) (F : Fx G s) (B : Bd G σ s H locs) (hM : vx_Met l y ws rm (va_Pc (.ref (G.2.2 i) :: As) (PW G σ H.size)) (Xq G H.size (.inl v, τ)) (XX G H.size ((.inl v : Option Nat ⊕ Nat), τ)) mc ms (AA G H.size)) (hk : kd i = kc ∧ i < NN) (he : cellK kc G i (σ i) = .inr (ci, fs)) (hc : vwCl[ci]? = some (C, T, N))
    (cw : CallW R s args own C index y bytes maxL ret ws rm mc ms n) (hn : As.length = n) (hsize : ls.size = nL) (hst : st = As.reverse ++ .ref (G.2.2 i) :: rest) (hroom : (rest.map fun v => v.category).sum ≤ 8) (hdg : decode cc pc = .ok (.invokevirtual index, 3)) (hf : cells + mc ≤ R.cells ∧ slots + ms ≤ R.slots)
    (kk : ∀ (H1 : Heap) (locs1 : List Loc), Bd G τ s H1 locs1 → W p l e R s m args below meth c H1 locs1 (cells + mc) (slots + ms) Q (F0 m (pc + 3) ls (va_re G.2.2 v :: rest))) : W p l e R s m args below meth c H locs cells slots Q (F0 m pc ls st) := by
  have hr := vx_runV S hM cw ⟨PW.blind, r_recv F B hk he hc, fun U hU hW => ⟨rfl, PW.call F B U hU hW⟩⟩ (e := e) (below := below) (meth := meth) (locs := locs) (cells := cells) (slots := slots) (g := F0 m pc ls st) rfl hn hsize hst (lv_room hroom) hdg hf
  intro T0 hT X
  rcases hr T0 hT X with ⟨v9, st₀, t, T', L, h0, X', hL, e1, e2, ⟨⟨r, u, hv, ⟨hp, hp2⟩, hb⟩, hF⟩, st1⟩ | ⟨q, st₀, t, T', L, E, ce, h0, X', hL, e1, e2, ⟨u, hp, hb, hF⟩, hce, hcv, hcl, st1⟩
  · cases hv
    obtain ⟨k1, k2, k3⟩ := vx_keep h0 e1 B.2 (fun q _ h => AA_free B q h) (AA_free B) hL hF
    have hp : (Sum.inl v : Option Nat ⊕ Nat) = Sum.inl u := hp
    cases hp
    subst hp2
    obtain ⟨t2, a1, b1⟩ := kk T'.heap (locs ++ L) ⟨by rw [e1]; exact hb, k3⟩ T' rfl X'
    exact ⟨t2, st1 t2 a1, b1⟩
  · obtain ⟨k, hk, -⟩ := hb
    cases hk
theorem xk_iS {v : Int32} (S : CallFix p m c cc nL s args Ts own) (F : Fx G s) (B : Bd G σ s H locs) (hM : vx_Met l y ws rm (va_Pc As (PW G σ H.size)) (Xi G H.size (.inl v, τ)) (XX G H.size ((.inl v : Int32 ⊕ Nat), τ)) mc ms (AA G H.size))
    (cw : CallB R s args own index y bytes maxL ret ws rm mc ms n ∧ (Cond.static y).before args s = true) (hn : As.length = n) (hsize : ls.size = nL) (hst : st = As.reverse ++ rest) (hroom : (rest.map fun v => v.category).sum ≤ 8) (hdg : decode cc pc = .ok (.invokestatic index, 3)) (hf : cells + mc ≤ R.cells ∧ slots + ms ≤ R.slots)
    (kk : ∀ (H1 : Heap) (locs1 : List Loc), Bd G τ s H1 locs1 → W p l e R s m args below meth c H1 locs1 (cells + mc) (slots + ms) Q (F0 m (pc + 3) ls (.int v :: rest))) : W p l e R s m args below meth c H locs cells slots Q (F0 m pc ls st) := by
  refine vx_calli (vx_runS S hM cw ⟨PW.blind, fun U hU hW => ⟨rfl, PW.call F B U hU hW⟩⟩ rfl hn hsize hst (lv_room hroom) hdg hf) B.2 (fun q _ h => AA_free B q h) (AA_free B) (fun q _ h => AA_free B q h) (fun E ce q9 u t H1 locs1 ht hvm hp hb h1 h2 hS hce hcv hcl => ?_) (fun r u t H1 locs1 ht hvm hp hb h1 h2 hS => ?_)
  · obtain ⟨k, hk, -⟩ := hb
    cases hk
  · have hp : (Sum.inl v : Int32 ⊕ Nat) = Sum.inl r := hp
    cases hp
    exact kk H1 locs1 ⟨by rw [← ht]; exact hb, hS⟩
theorem xk_vS {v : Unit} (S : CallFix p m c cc nL s args Ts own) (F : Fx G s) (B : Bd G σ s H locs) (hM : vx_Met l y ws rm (va_Pc As (PW G σ H.size)) (Xv G H.size (.inl v, τ)) (XX G H.size ((.inl v : Unit ⊕ Nat), τ)) mc ms (AA G H.size))
    (cw : CallB R s args own index y bytes maxL ret ws rm mc ms n ∧ (Cond.static y).before args s = true) (hn : As.length = n) (hsize : ls.size = nL) (hst : st = As.reverse ++ rest) (hroom : (rest.map fun v => v.category).sum ≤ 8) (hdg : decode cc pc = .ok (.invokestatic index, 3)) (hf : cells + mc ≤ R.cells ∧ slots + ms ≤ R.slots)
    (kk : ∀ (H1 : Heap) (locs1 : List Loc), Bd G τ s H1 locs1 → W p l e R s m args below meth c H1 locs1 (cells + mc) (slots + ms) Q (F0 m (pc + 3) ls rest)) : W p l e R s m args below meth c H locs cells slots Q (F0 m pc ls st) := by
  have hr := vx_runS S hM cw ⟨PW.blind, fun U hU hW => ⟨rfl, PW.call F B U hU hW⟩⟩ (e := e) (below := below) (meth := meth) (locs := locs) (cells := cells) (slots := slots) (g := F0 m pc ls st) rfl hn hsize hst (lv_room hroom) hdg hf
  intro T0 hT X
  rcases hr T0 hT X with ⟨v9, st₀, t, T', L, h0, X', hL, e1, e2, ⟨⟨u, hv, hp, hb⟩, hF⟩, st1⟩ | ⟨q, st₀, t, T', L, E, ce, h0, X', hL, e1, e2, ⟨u, hp, hb, hF⟩, hce, hcv, hcl, st1⟩
  · cases hv
    obtain ⟨k1, k2, k3⟩ := vx_keep h0 e1 B.2 (fun q _ h => AA_free B q h) (AA_free B) hL hF
    obtain ⟨t2, a1, b1⟩ := kk T'.heap (locs ++ L) ⟨by rw [e1]; exact hb, k3⟩ T' rfl X'
    exact ⟨t2, st1 t2 a1, b1⟩
  · obtain ⟨k, hk, -⟩ := hb
    cases hk
theorem xk_eS {α β : Type} {Qa Qc : Array Value → State → Outcome → State → Prop} {k : Nat} (hQ : ∀ (a : Array Value) (U t : State) (o : Outcome), Qa a U o t → False) (S : CallFix p m c cc nL s args Ts own) (F : Fx G s) (B : Bd G σ s H locs) (hM : vx_Met l y ws rm (va_Pc As (PW G σ H.size)) Qa (XX G H.size ((.inr k : α ⊕ Nat), τ)) mc ms (AA G H.size))
    (cw : CallB R s args own index y bytes maxL ret ws rm mc ms n ∧ (Cond.static y).before args s = true) (hn : As.length = n) (hsize : ls.size = nL) (hst : st = As.reverse ++ rest) (hroom : (rest.map fun v => v.category).sum ≤ 8) (hdg : decode cc pc = .ok (.invokestatic index, 3)) (hlocks : meth.locks = false) (ht9 : ∀ x ∈ c.exceptionTable.toList, False) (h8 : cells + mc ≤ mc9) (h9 : slots + ms ≤ ms9) (hf : cells + mc ≤ R.cells ∧ slots + ms ≤ R.slots) :
    W p l e R s m args below meth c H locs cells slots (vx_MQ below Qc (XX G s.heap.size ((.inr k : β ⊕ Nat), τ)) args s mc9 ms9 (AA G s.heap.size)) (F0 m pc ls st) := by
  have hr := vx_runS S hM cw ⟨PW.blind, fun U hU hW => ⟨rfl, PW.call F B U hU hW⟩⟩ (e := e) (below := below) (meth := meth) (locs := locs) (cells := cells) (slots := slots) (g := F0 m pc ls st) rfl hn hsize hst (lv_room hroom) hdg hf
  intro T0 hT X
  rcases hr T0 hT X with ⟨v, st₀, t, T', L, h0, X', hL, e1, e2, h, st1⟩ | ⟨q, st₀, t, T', L, E, ce, h0, X', hL, e1, e2, ⟨u, hp, hb, hF⟩, hce, hcv, hcl, st1⟩
  · exact (hQ _ _ _ _ h).elim
  · obtain ⟨k1, k2, k3⟩ := vx_keep h0 e1 B.2 (fun q _ h => AA_free B q h) (AA_free B) hL hF
    obtain ⟨t2, a1, b1⟩ := x_on (p := p) (l := l) (e := e) (R := R) (args := args) (below := below) (Qc := Qc) (α := α) (β := β) (pc := pc) (ls := ls) (st0 := rest) e1.symm hb k3 (by rw [e1]; exact hce) hcv hcl hlocks ht9 h8 h9 T' rfl X'
    exact ⟨t2, st1.trans a1, b1⟩
end VV
theorem no_Xi {sz k : Nat} (a : Array Value) (U t : State) (o : Outcome) (h : Xi G sz (.inr k, τ) a U o t) : False := by
  obtain ⟨⟨r, u, -, hp, -⟩, -⟩ := h
  cases hp
theorem no_Xv {sz k : Nat} (a : Array Value) (U t : State) (o : Outcome) (h : Xv G sz (.inr k, τ) a U o t) : False := by
  obtain ⟨⟨u, -, hp, -⟩, -⟩ := h
  cases hp
theorem no_Xq {sz k : Nat} (a : Array Value) (U t : State) (o : Outcome) (h : Xq G sz (.inr k, τ) a U o t) : False := by
  obtain ⟨⟨r, u, -, ⟨hp, -⟩, -⟩, -⟩ := h
  cases hp
end RW2
