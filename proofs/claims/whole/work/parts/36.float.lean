/-! floats and doubles -/
def dnz {α : Type} (r : UInt64) (a : Option α) : Option α := if r &&& 0x7fffffffffffffff ≤ 0x7ff0000000000000 then a else none
theorem dnz_ {α : Type} {r : UInt64} {a : Option α} {o : α} (h : dnz r a = some o) : vf_n64 r ∧ a = some o := by
  unfold dnz at h
  by_cases c : r &&& 0x7fffffffffffffff ≤ 0x7ff0000000000000
  · rw [if_pos c] at h; exact ⟨c, h⟩
  · rw [if_neg c] at h; cases h
def fnz {α : Type} (r : UInt32) (a : Option α) : Option α := if r &&& 0x7fffffff ≤ 0x7f800000 then a else none
theorem fnz_ {α : Type} {r : UInt32} {a : Option α} {o : α} (h : fnz r a = some o) : vf_n32 r ∧ a = some o := by
  unfold fnz at h
  by_cases c : r &&& 0x7fffffff ≤ 0x7f800000
  · rw [if_pos c] at h; exact ⟨c, h⟩
  · rw [if_neg c] at h; cases h
section FL
variable {p : Program} {l : Launch} {e : Env} {R : Room} {s : State} {m : MethodId} {args : Array Value} {below : List Frame} {meth : Method} {c : Code} {H : Heap} {locs : List Loc} {cells slots : Nat} {Q : State → Prop}
variable {cc : ByteArray} {nL pc index : Nat} {ls : Array Slot} {rest : List Value} {G : Gd} {σ τ : Mm} {own : String} {Ts : List Cond}
abbrev Qd (G : Gd) (sz : Nat) (v : UInt64) (τ : Mm) : Array Value → State → Outcome → State → Prop := va_Qd (fun r (_ : Unit) => r = v) (fun _ t => HW G τ t.heap) (AA G sz)
abbrev Qf (G : Gd) (sz : Nat) (v : UInt32) (τ : Mm) : Array Value → State → Outcome → State → Prop := va_Qf (fun r (_ : Unit) => r = v) (fun _ t => HW G τ t.heap) (AA G sz)
abbrev Xd (G : Gd) (sz : Nat) (out : (UInt64 ⊕ Nat) × Mm) : Array Value → State → Outcome → State → Prop := va_Qd (fun r (_ : Unit) => out.1 = .inl r) (fun _ t => HW G out.2 t.heap) (AA G sz)
theorem e_d (B : Bd G τ s H locs) (hx : p.tables.exec = Jvm.exec) (hb : c.code = cc) (hr : meth.sig.returnType = some .double) (hlocks : meth.locks = false) {v w : UInt64} (hv : w = v) (hdg : decode cc pc = .ok (.dreturn, 1)) : W p l e R s m args below meth c H locs cells slots (MQ below (Qd G s.heap.size v τ) args s cells slots (AA G s.heap.size)) (F0 m pc ls [.double w]) :=
  W.dret hx hb hr (fun t ht _ => ⟨⟨w, (), rfl, hv, by show HW G τ t.heap; rw [ht]; exact B.1⟩, B.2.F ht⟩) B.2.2.2 hdg hlocks
theorem e_f (B : Bd G τ s H locs) (hx : p.tables.exec = Jvm.exec) (hb : c.code = cc) (hr : meth.sig.returnType = some .float) (hlocks : meth.locks = false) {v w : UInt32} (hv : w = v) (hdg : decode cc pc = .ok (.freturn, 1)) : W p l e R s m args below meth c H locs cells slots (MQ below (Qf G s.heap.size v τ) args s cells slots (AA G s.heap.size)) (F0 m pc ls [.float w]) :=
  W.fret hx hb hr (fun t ht _ => ⟨⟨w, (), rfl, hv, by show HW G τ t.heap; rw [ht]; exact B.1⟩, B.2.F ht⟩) B.2.2.2 hdg hlocks
theorem xe_d {out : (UInt64 ⊕ Nat) × Mm} {free : Addr → Prop} {XC : String → State → State → Prop} (B : Bd G τ s H locs) (hx : p.tables.exec = Jvm.exec) (hb : c.code = cc) (hr : meth.sig.returnType = some .double) (hlocks : meth.locks = false) {w : UInt64} (hv : out = (.inl w, τ)) (hf : free = AA G s.heap.size) (hdg : decode cc pc = .ok (.dreturn, 1)) : W p l e R s m args below meth c H locs cells slots (vx_MQ below (Xd G s.heap.size out) XC args s cells slots free) (F0 m pc ls [.double w]) := by
  subst hv; subst hf
  exact vx_ret (W.dret hx hb hr (fun t ht _ => ⟨⟨w, (), rfl, rfl, by show HW G τ t.heap; rw [ht]; exact B.1⟩, B.2.F ht⟩) B.2.2.2 hdg hlocks)
theorem va_ldcwF {T : State} (X : Stand p l e R s m args below meth c T locs cells slots) (hexec : p.tables.exec = Jvm.exec) {own : String} {index : Nat} {v : UInt32} (hown : s.vm.findClass own = some m.cls)
    (hconst : (Cond.constantFloat own index v).before args s = true) {g : JFrame} (hg : g.method = m) (hdg : decode c.code g.pc = .ok (.ldc_w index, 3)) :
    ∀ target, Steps p.tables e below (T.setTop { g with pc := g.pc + 3, stack := .float v :: g.stack }) target → Steps p.tables e below (T.setTop g) target := by
  obtain ⟨k, cf, hk, hcf, hcp⟩ := Cond.constantFloat_spec hown hconst
  obtain ⟨k', hk', he⟩ := X.warmed.alike.2.2 _ _ hk
  intro target hrest
  subst hg
  jvm_step X.here [hexec, hdg, ldc_w.wp_float (s := T) (f := g) X.here.top hk' (by rw [he]; exact hcf) hcp]
  exact hrest
theorem lv_ldcwf (hexec : p.tables.exec = Jvm.exec) (hb : c.code = cc) {own : String} {index : Nat} {v : UInt32} (hown : s.vm.findClass own = some m.cls) (hconst : (Jvm.Cond.constantFloat own index v).before args s = true) (hdg : decode cc pc = .ok (.ldc_w index, 3)) (k : W p l e R s m args below meth c H locs cells slots Q (F0 m (pc + 3) ls (.float v :: rest))) : W p l e R s m args below meth c H locs cells slots Q (F0 m pc ls rest) := by
  intro T hT X
  obtain ⟨t, a, b⟩ := k T hT X
  exact ⟨t, va_ldcwF X hexec hown hconst (g := F0 m pc ls rest) rfl (by rw [hb]; exact hdg) t a, b⟩
variable {y : MethodName} {bytes : ByteArray} {maxL n i kc ci N mc ms : Nat} {ret : Option FieldType} {ws : List Cond} {rm : Room} {C : String} {T : u_T} {fs : List Value} {As st : List Value}
theorem h_callD {out : (UInt64 ⊕ Nat) × Mm} (S : CallFix p m c cc nL s args Ts own) (F : Fx G s) (B : Bd G σ s H locs) (hM : vx_Met l y ws rm (va_Pc (.ref (G.2.2 i) :: As) (PW G σ H.size)) (Xd G H.size out) (XX G H.size out) mc ms (AA G H.size)) (hk : kd i = kc ∧ i < NN) (he : cellK kc G i (σ i) = .inr (ci, fs)) (hc : vwCl[ci]? = some (C, T, N))
    (cw : CallW R s args own C index y bytes maxL ret ws rm mc ms n) (hn : As.length = n) (hsize : ls.size = nL) (hst : st = As.reverse ++ .ref (G.2.2 i) :: rest) (hroom : (rest.map fun v => v.category).sum ≤ 8) (hdg : decode cc pc = .ok (.invokevirtual index, 3)) (hf : cells + mc ≤ R.cells ∧ slots + ms ≤ R.slots)
    (kx : ∀ (k : Nat) (q9 : Nat) (ce : Cell) (H1 : Heap) (locs1 : List Loc), out.1 = .inr k → Bd G out.2 s H1 locs1 → H1[q9]? = some ce → ce.vm = .none → s.vm.findClass (exn k) = some ce.cls → vx_W p l e R s m args below meth c H1 locs1 (cells + mc) (slots + ms) Q (F0 m pc ls rest) q9)
    (kk : ∀ (v : UInt64) (H1 : Heap) (locs1 : List Loc), out.1 = .inl v → Bd G out.2 s H1 locs1 → W p l e R s m args below meth c H1 locs1 (cells + mc) (slots + ms) Q (F0 m (pc + 3) ls (.double v :: rest))) : W p l e R s m args below meth c H locs cells slots Q (F0 m pc ls st) := by
  refine vx_calld (vx_runV S hM cw ⟨PW.blind, r_recv F B hk he hc, fun U hU hW => ⟨rfl, PW.call F B U hU hW⟩⟩ rfl hn hsize hst (lv_room hroom) hdg hf) B.2 (fun q _ h => AA_free B q h) (AA_free B) (fun q _ h => AA_free B q h) (fun E ce q9 u t H1 locs1 ht hvm hp hb h1 h2 hS hce hcv hcl => ?_) (fun r u t H1 locs1 ht hvm hp hb h1 h2 hS => ?_)
  · obtain ⟨k, hk, rfl, hw⟩ := hb
    exact kx k q9 ce H1 locs1 hk ⟨by rw [← ht]; exact hw, hS⟩ hce hcv hcl
  · exact kk r H1 locs1 hp ⟨by rw [← ht]; exact hb, hS⟩
theorem k_dV (S : CallFix p m c cc nL s args Ts own) (F : Fx G s) (B : Bd G σ s H locs) {v : UInt64} (hM : Met l y ws rm (va_Pc (.ref (G.2.2 i) :: As) (PW G σ H.size)) (Qd G H.size v τ) 0 0 (AA G H.size)) (hk : kd i = kc ∧ i < NN) (he : cellK kc G i (σ i) = .inr (ci, fs)) (hc : vwCl[ci]? = some (C, T, N))
    (cw : CallW R s args own C index y bytes maxL ret ws rm 0 0 n) (hn : As.length = n) (hsize : ls.size = nL) (hst : st = As.reverse ++ .ref (G.2.2 i) :: rest) (hroom : (rest.map fun v => v.category).sum ≤ 8) (hdg : decode cc pc = .ok (.invokevirtual index, 3)) (hf : cells ≤ R.cells ∧ slots ≤ R.slots)
    (kk : ∀ (H1 : Heap) (locs1 : List Loc), Bd G τ s H1 locs1 → W p l e R s m args below meth c H1 locs1 cells slots Q (F0 m (pc + 3) ls (.double v :: rest))) : W p l e R s m args below meth c H locs cells slots Q (F0 m pc ls st) := by
  refine va_calld (va_runV S hM cw ⟨PW.blind, r_recv F B hk he hc, fun U hU hW => ⟨rfl, PW.call F B U hU hW⟩⟩ rfl hn hsize hst (lv_room hroom) hdg hf) B.2 (fun q _ h => AA_free B q h) (AA_free B) (fun r u t H1 locs1 ht hvm hp hb h1 h2 hS => ?_)
  subst hp
  exact kk H1 locs1 ⟨by rw [← ht]; exact hb, hS⟩
theorem k_fV (S : CallFix p m c cc nL s args Ts own) (F : Fx G s) (B : Bd G σ s H locs) {v : UInt32} (hM : Met l y ws rm (va_Pc (.ref (G.2.2 i) :: As) (PW G σ H.size)) (Qf G H.size v τ) 0 0 (AA G H.size)) (hk : kd i = kc ∧ i < NN) (he : cellK kc G i (σ i) = .inr (ci, fs)) (hc : vwCl[ci]? = some (C, T, N))
    (cw : CallW R s args own C index y bytes maxL ret ws rm 0 0 n) (hn : As.length = n) (hsize : ls.size = nL) (hst : st = As.reverse ++ .ref (G.2.2 i) :: rest) (hroom : (rest.map fun v => v.category).sum ≤ 8) (hdg : decode cc pc = .ok (.invokevirtual index, 3)) (hf : cells ≤ R.cells ∧ slots ≤ R.slots)
    (kk : ∀ (H1 : Heap) (locs1 : List Loc), Bd G τ s H1 locs1 → W p l e R s m args below meth c H1 locs1 cells slots Q (F0 m (pc + 3) ls (.float v :: rest))) : W p l e R s m args below meth c H locs cells slots Q (F0 m pc ls st) := by
  refine va_callf (va_runV S hM cw ⟨PW.blind, r_recv F B hk he hc, fun U hU hW => ⟨rfl, PW.call F B U hU hW⟩⟩ rfl hn hsize hst (lv_room hroom) hdg hf) B.2 (fun q _ h => AA_free B q h) (AA_free B) (fun r u t H1 locs1 ht hvm hp hb h1 h2 hS => ?_)
  subst hp
  exact kk H1 locs1 ⟨by rw [← ht]; exact hb, hS⟩
theorem r_dast (S : CallFix p m c cc nL s args Ts own) (F : Fx G s) (B : Bd G σ s H locs) {x : UInt64} (hdg : decode cc pc = .ok (.dastore, 1))
    (kk : ∀ (H1 : Heap) (locs1 : List Loc), Bd (gD G x) σ s H1 locs1 → W p l e R s m args below meth c H1 locs1 cells slots Q (F0 m (pc + 1) ls rest)) : W p l e R s m args below meth c H locs cells slots Q (F0 m pc ls (.double x :: .int 0 :: .ref (G.2.2 208) :: rest)) := by
  refine va_dast S.1 S.2.1 F.1 B.1 (wd_D F.2.1 _ σ) B.2 208 8 (by rw [wd_get (by decide)]; rfl) rfl (vpc (by decide)) hdg (fun H1 locs1 h1 _ h3 => kk H1 locs1 ⟨?_, ?_⟩)
  · refine HW_gO (kx := 208) (Or.inr ⟨rfl, rfl⟩) h1 ?_
    have h2 := h1 208 (G.2.2 208, .inl (G.2.1 8, 1, .inr (.inr (.inr (.inl (vf_upd (fun _ => UInt64.ofNat (G.2.2 701)) (Int32.toNatClampNeg 0) x)))))) (by rw [List.getElem?_set]; simp [wd, NN])
    have h3 : H1[G.2.2 208]? = some (vp_cell (G.2.1 8) (1, .inr (.inr (.inr (.inl (vf_upd (fun _ => UInt64.ofNat (G.2.2 701)) (Int32.toNatClampNeg 0) x)))))) := h2
    show H1[G.2.2 208]? = some (vp_cell (G.2.1 8) (1, .inr (.inr (.inr (.inl (fun _ => UInt64.ofNat x.toNat))))))
    rw [h3, gD_ok]
    rw [vp_cell_d, vp_cell_d]; exact congrArg some (arr1 _ _ rfl)
  · unfold gD; rw [AA_gO (Or.inr rfl)]; exact h3
theorem r_dald (S : CallFix p m c cc nL s args Ts own) (F : Fx G s) (B : Bd G σ s H locs) (hdg : decode cc pc = .ok (.daload, 1))
    (kk : W p l e R s m args below meth c H locs cells slots Q (F0 m (pc + 1) ls (.double (UInt64.ofNat (G.2.2 701)) :: rest))) : W p l e R s m args below meth c H locs cells slots Q (F0 m pc ls (.int 0 :: .ref (G.2.2 208) :: rest)) :=
  va_dald S.1 S.2.1 F.1 B.1 208 8 (by rw [wd_get (by decide)]; rfl) rfl (vpc (by decide)) hdg kk
end FL
