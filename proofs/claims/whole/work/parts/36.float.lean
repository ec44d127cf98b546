/-! floats and doubles -/
def dnz {α : Type} (r : UInt64) (a : Option α) : Option α := if r &&& 0x7fffffffffffffff ≤ 0x7ff0000000000000 then a else none
theorem dnz_ {α : Type} {r : UInt64} {a : Option α} {o : α} (h : dnz r a = some o) : vf_n64 r ∧ a = some o := by
  unfold dnz at h
  by_cases c : r &&& 0x7fffffffffffffff ≤ 0x7ff0000000000000
  · rw [if_pos c] at h; exact ⟨c, h⟩
  · rw [if_neg c] at h; cases h
def fnz {α : Type} (r : UInt32) (a : Option α) : Option α := if r &&& 0x7fffffff ≤ 0x7f800000 then a else none
theorem fnz_ {α : Type} {r : UInt32} {a : Option α} {o : α} (h : fnz r a = some o) : vf_n32 r ∧ a = some o := by
  unfold fnz at h
  by_cases c : r &&& 0x7fffffff ≤ 0x7f800000
  · rw [if_pos c] at h; exact ⟨c, h⟩
  · rw [if_neg c] at h; cases h
section FL
variable {p : Program} {l : Launch} {e : Env} {R : Room} {s : State} {m : MethodId} {args : Array Value} {below : List Frame} {meth : Method} {c : Code} {H : Heap} {locs : List Loc} {cells slots : Nat} {Q : State → Prop}
variable {cc : ByteArray} {nL pc index : Nat} {ls : Array Slot} {rest : List Value} {G : Gd} {σ τ : Mm} {own : String} {Ts : List Cond}
abbrev Qd (G : Gd) (sz : Nat) (v : UInt64) (τ : Mm) : Array Value → State → Outcome → State → Prop := va_Qd (fun r (_ : Unit) => r = v) (fun _ t => HW G τ t.heap) (AA G sz)
abbrev Qf (G : Gd) (sz : Nat) (v : UInt32) (τ : Mm) : Array Value → State → Outcome → State → Prop := va_Qf (fun r (_ : Unit) => r = v) (fun _ t => HW G τ t.heap) (AA G sz)
abbrev Xd (G : Gd) (sz : Nat) (out : (UInt64 ⊕ Nat) × Mm) : Array Value → State → Outcome → State → Prop := va_Qd (fun r (_ : Unit) => out.1 = .inl r) (fun _ t => HW G out.2 t.heap) (AA G sz)
theorem e_d (B : Bd G τ s H locs) (hx : p.tables.exec = Jvm.exec) (hb : c.code = cc) (hr : meth.sig.returnType = some .double) (hlocks : meth.locks = false) {v w : UInt64} (hv : w = v) (hdg : decode cc pc = .ok (.dreturn, 1)) : W p l e R s m args below meth c H locs cells slots (MQ below (Qd G s.heap.size v τ) args s cells slots (AA G s.heap.size)) (F0 m pc ls [.double w]) :=
  W.dret hx hb hr (fun t ht _ => ⟨⟨w, (), rfl, hv, by show HW G τ t.heap; rw [ht]; exact B.1⟩, B.2.F ht⟩) B.2.2.2 hdg hlocks
theorem e_f (B : Bd G τ s H locs) (hx : p.tables.exec = Jvm.exec) (hb : c.code = cc) (hr : meth.sig.returnType = some .float) (hlocks : meth.locks = false) {v w : UInt32} (hv : w = v) (hdg : decode cc pc = .ok (.freturn, 1)) : W p l e R s m args below meth c H locs cells slots (MQ below (Qf G s.heap.size v τ) args s cells slots (AA G s.heap.size)) (F0 m pc ls [.float w]) :=
  W.fret hx hb hr (fun t ht _ => ⟨⟨w, (), rfl, hv, by show HW G τ t.heap; rw [ht]; exact B.1⟩, B.2.F ht⟩) B.2.2.2 hdg hlocks
theorem xe_d {out : (UInt64 ⊕ Nat) × Mm} {free : Addr → Prop} {XC : String → State → State → Prop} (B : Bd G τ s H locs) (hx : p.tables.exec = Jvm.exec) (hb : c.code = cc) (hr : meth.sig.returnType = some .double) (hlocks : meth.locks = false) {w : UInt64} (hv : out = (.inl w, τ)) (hf : free = AA G s.heap.size) (hdg : decode cc pc = .ok (.dreturn, 1)) : W p l e R s m args below meth c H locs cells slots (vx_MQ below (Xd G s.heap.size out) XC args s cells slots free) (F0 m pc ls [.double w]) := by
  subst hv; subst hf
  exact vx_ret (W.dret hx hb hr (fun t ht _ => ⟨⟨w, (), rfl, rfl, by show HW G τ t.heap; rw [ht]; exact B.1⟩, B.2.F ht⟩) B.2.2.2 hdg hlocks)
theorem va_ldcwF {T : State} (X : Stand p l e R s m args below meth c T locs cells slots) (hexec : p.tables.exec = Jvm.exec) {own : String} {index : Nat} {v : UInt32} (hown : s.vm.findClass own = some m.cls)
    (hconst : (Cond.constantFloat own index v).before args s = true) {g : JFrame} (hg : g.method = m) (hdg : decode c.code g.pc = .ok (.ldc_w index, 3)) :
    ∀ target, Steps p.tables e below (T.setTop { g with pc := g.pc + 3, stack := .float v :: g.stack }) target → Steps p.tables e below (T.setTop g) target := by
  obtain ⟨k, cf, hk, hcf, hcp⟩ := Cond.constantFloat_spec hown hconst
  obtain ⟨k', hk', he⟩ := X.warmed.alike.2.2 _ _ hk
  intro target hrest
  subst hg
  jvm_step X.here [hexec, hdg, ldc_w.wp_float (s := T) (f := g) X.here.top hk' (by rw [he]; exact hcf) hcp]
  exact hrest
theorem lv_ldcwf (hexec : p.tables.exec = Jvm.exec) (hb : c.code = cc) {own : String} {index : Nat} {v : UInt32} (hown : s.vm.findClass own = some m.cls) (hconst : (Jvm.Cond.constantFloat own index v).before args s = true) (hdg : decode cc pc = .ok (.ldc_w index, 3)) (k : W p l e R s m args below meth c H locs cells slots Q (F0 m (pc + 3) ls (.float v :: rest))) : W p l e R s m args below meth c H locs cells slots Q (F0 m pc ls rest) := by
  intro T hT X
  obtain ⟨t, a, b⟩ := k T hT X
  exact ⟨t, va_ldcwF X hexec hown hconst (g := F0 m pc ls rest) rfl (by rw [hb]; exact hdg) t a, b⟩
variable {y : MethodName} {bytes : ByteArray} {maxL n i kc ci N mc ms : Nat} {ret : Option FieldType} {ws : List Cond} {rm : Room} {C : String} {T : u_T} {fs : List Value} {As st : List Value}
theorem h_callD {out : (UInt64 ⊕ Nat) × Mm} (S : CallFix p m c cc nL s args Ts own) (F : Fx G s) (B : Bd G σ s H locs) (hM : vx_Met l y ws rm (va_Pc (.ref (G.2.2 i) :: As) (PW G σ H.size)) (Xd G H.size out) (XX G H.size out) mc ms (AA G H.size)) (hk : kd i = kc ∧ i < NN) (he : cellK kc G i (σ i) = .inr (ci, fs)) (hc : vwCl[ci]? = some (C, T, N))
    (cw : CallW R s args own C index y bytes maxL ret ws rm mc ms n) (hn : As.length = n) (hsize : ls.size = nL) (hst : st = As.reverse ++ .ref (G.2.2 i) :: rest) (hroom : (rest.map fun v => v.category).sum ≤ 8) (hdg : decode cc pc = .ok (.invokevirtual index, 3)) (hf : cells + mc ≤ R.cells ∧ slots + ms ≤ R.slots)
    (kx : ∀ (k : Nat) (q9 : Nat) (ce : Cell) (H1 : Heap) (locs1 : List Loc), out.1 = .inr k → Bd G out.2 s H1 locs1 → H1[q9]? = some ce → ce.vm = .none → s.vm.findClass (exn k) = some ce.cls → vx_W p l e R s m args below meth c H1 locs1 (cells + mc) (slots + ms) Q (F0 m pc ls rest) q9)
    (kk : ∀ (v : UInt64) (H1 : Heap) (locs1 : List Loc), out.1 = .inl v → Bd G out.2 s H1 locs1 → W p l e R s m args below meth c H1 locs1 (cells + mc) (slots + ms) Q (F0 m (pc + 3) ls (.double v :: rest))) : W p l e R s m args below meth c H locs cells slots Q (F0 m pc ls st) := by
  refine vx_calld (vx_runV S hM cw ⟨PW.blind, r_recv F B hk he hc, fun U hU hW => ⟨rfl, PW.call F B U hU hW⟩⟩ rfl hn hsize hst (lv_room hroom) hdg hf) B.2 (fun q _ h => AA_free B q h) (AA_free B) (fun q _ h => AA_free B q h) (fun E ce q9 u t H1 locs1 ht hvm hp hb h1 h2 hS hce hcv hcl => ?_) (fun r u t H1 locs1 ht hvm hp hb h1 h2 hS => ?_)
  · obtain ⟨k, hk, rfl, hw⟩ := hb
    exact kx k q9 ce H1 locs1 hk ⟨by rw [← ht]; exact hw, hS⟩ hce hcv hcl
  · exact kk r H1 locs1 hp ⟨by rw [← ht]; exact hb, hS⟩
theorem k_dV (S : CallFix p m c cc nL s args Ts own) (F : Fx G s) (B : Bd G σ s H locs) {v : UInt64} (hM : Met l y ws rm (va_Pc (.ref (G.2.2 i) :: As) (PW G σ H.size)) (Qd G H.size v τ) 0 0 (AA G H.size)) (hk : kd i = kc ∧ i < NN) (he : cellK kc G i (σ i) = .inr (ci, fs)) (hc : vwCl[ci]? = some (C, T, N))
    (cw : CallW R s args own C index y bytes maxL ret ws rm 0 0 n) (hn : As.length = n) (hsize : ls.size = nL) (hst : st = As.reverse ++ .ref (G.2.2 i) :: rest) (hroom : (rest.map fun v => v.category).sum ≤ 8) (hdg : decode cc pc = .ok (.invokevirtual index, 3)) (hf : cells ≤ R.cells ∧ slots ≤ R.slots)
    (kk : ∀ (H1 : Heap) (locs1 : List Loc), Bd G τ s H1 locs1 → W p l e R s m args below meth c H1 locs1 cells slots Q (F0 m (pc + 3) ls (.double v :: rest))) : W p l e R s m args below meth c H locs cells slots Q (F0 m pc ls st) := by
  refine va_calld (va_runV S hM cw ⟨PW.blind, r_recv F B hk he hc, fun U hU hW => ⟨rfl, PW.call F B U hU hW⟩⟩ rfl hn hsize hst (lv_room hroom) hdg hf) B.2 (fun q _ h => AA_free B q h) (AA_free B) (fun r u t H1 locs1 ht hvm hp hb h1 h2 hS => ?_)
  subst hp
  exact kk H1 locs1 ⟨by rw [← ht]; exact hb, hS⟩
theorem k_fV (S : CallFix p m c cc nL s args Ts own) (F : Fx G s) (B : Bd G σ s H locs) {v : UInt32} (hM : Met l y ws rm (va_Pc (.ref (G.2.2 i) :: As) (PW G σ H.size)) (Qf G H.size v τ) 0 0 (AA G H.size)) (hk : kd i = kc ∧ i < NN) (he : cellK kc G i (σ i) = .inr (ci, fs)) (hc : vwCl[ci]? = some (C, T, N))
    (cw : CallW R s args own C index y bytes maxL ret ws rm 0 0 n) (hn : As.length = n) (hsize : ls.size = nL) (hst : st = As.reverse ++ .ref (G.2.2 i) :: rest) (hroom : (rest.map fun v => v.category).sum ≤ 8) (hdg : decode cc pc = .ok (.invokevirtual index, 3)) (hf : cells ≤ R.cells ∧ slots ≤ R.slots)
    (kk : ∀ (H1 : Heap) (locs1 : List Loc), Bd G τ s H1 locs1 → W p l e R s m args below meth c H1 locs1 cells slots Q (F0 m (pc + 3) ls (.float v :: rest))) : W p l e R s m args below meth c H locs cells slots Q (F0 m pc ls st) := by
  refine va_callf (va_runV S hM cw ⟨PW.blind, r_recv F B hk he hc, fun U hU hW => ⟨rfl, PW.call F B U hU hW⟩⟩ rfl hn hsize hst (lv_room hroom) hdg hf) B.2 (fun q _ h => AA_free B q h) (AA_free B) (fun r u t H1 locs1 ht hvm hp hb h1 h2 hS => ?_)
  subst hp
  exact kk H1 locs1 ⟨by rw [← ht]; exact hb, hS⟩
/-- a double laid in two numbers -/
def loD (v : UInt64) : Int32 := v.toUInt32.toInt32
def hiD (v : UInt64) : Int32 := (v >>> 32).toUInt32.toInt32
theorem dbl_ok (v : UInt64) : dbl (loD v) (hiD v) = v := by
  unfold dbl loD hiD
  apply UInt64.toNat.inj
  have h1 : (v.toUInt32.toInt32.toUInt32).toNat = v.toNat % 4294967296 := rfl
  have h2 : ((v >>> 32).toUInt32.toInt32.toUInt32).toNat = v.toNat / 4294967296 := by
    show ((v >>> 32).toUInt32).toNat = _
    have h3 : (v >>> 32).toNat = v.toNat / 4294967296 := by
      rw [UInt64.toNat_shiftRight]
      show v.toNat >>> 32 = _
      rw [Nat.shiftRight_eq_div_pow]
    rw [UInt64.toNat_toUInt32, h3]
    have := v.toNat_lt
    omega
  rw [h1, h2, UInt64.toNat_ofNat']
  have := v.toNat_lt
  omega
def upD (σ : Mm) (v : UInt64) : Mm := up (up σ 208 0 (loD v)) 208 1 (hiD v)
theorem r_dast (S : CallFix p m c cc nL s args Ts own) (F : Fx G s) (B : Bd G σ s H locs) {x : UInt64} (hdg : decode cc pc = .ok (.dastore, 1))
    (kk : ∀ (H1 : Heap) (locs1 : List Loc), Bd G (upD σ x) s H1 locs1 → W p l e R s m args below meth c H1 locs1 cells slots Q (F0 m (pc + 1) ls rest)) : W p l e R s m args below meth c H locs cells slots Q (F0 m pc ls (.double x :: .int 0 :: .ref (G.2.2 208) :: rest)) := by
  refine va_dast S.1 S.2.1 F.1 B.1 (wd_D F.2.1 _ σ) B.2 208 8 (by rw [wd_get (by decide)]; rfl) rfl (vpc (by decide)) hdg (fun H1 locs1 h1 _ h3 => kk H1 locs1 ⟨?_, h3⟩)
  have e0 : cellK (kd 208) G 208 ((upD σ x) 208) = .inl (G.2.1 8, 1, .inr (.inr (.inr (.inl (fun _ => x))))) := by
    show (Sum.inl (G.2.1 8, 1, .inr (.inr (.inr (.inl (fun _ => dbl ((upD σ x) 208 0) ((upD σ x) 208 1)))))) : va_E) = _
    have d0 : (upD σ x) 208 0 = loD x := by unfold upD up; simp [upd]
    have d1 : (upD σ x) 208 1 = hiD x := by unfold upD up; simp [upd]
    rw [d0, d1, dbl_ok]
  intro k q hq
  by_cases hk : k = 208
  · subst hk
    have h2 := h1 208 (G.2.2 208, .inl (G.2.1 8, 1, .inr (.inr (.inr (.inl (vf_upd (fun _ => dbl (σ 208 0) (σ 208 1)) (Int32.toNatClampNeg 0) x)))))) (by rw [List.getElem?_set]; simp [wd])
    rw [wd_get (by decide), e0] at hq
    cases hq
    have h3 : H1[G.2.2 208]? = some (vp_cell (G.2.1 8) (1, .inr (.inr (.inr (.inl (vf_upd (fun _ => dbl (σ 208 0) (σ 208 1)) (Int32.toNatClampNeg 0) x)))))) := h2
    show H1[G.2.2 208]? = some (vp_cell (G.2.1 8) (1, .inr (.inr (.inr (.inl (fun _ => x))))))
    rw [h3]
    have e4 : ∀ f g : Nat → Value, f 0 = g 0 → arrV (G.2.1 8) 1 f = arrV (G.2.1 8) 1 g := fun f g h => by
      unfold arrV
      have : (Array.ofFn (n := 1) fun j => f j.val) = Array.ofFn (n := 1) fun j => g j.val := by
        apply Array.ext
        · simp
        · intro j h1 h2
          have : j = 0 := by simp at h1; omega
          subst this
          simpa using h
      rw [this]
    rw [vp_cell_d, vp_cell_d, e4 _ _ rfl]
  · have h2 := h1 k q (by
      rw [List.getElem?_set]
      rw [if_neg (fun z => hk z.symm)]
      by_cases hlt : k < NN
      · rw [wd_get hlt] at hq ⊢
        have : (upD σ x) k = σ k := by unfold upD up; rw [if_neg hk, if_neg hk]
        rw [this] at hq; exact hq
      · rw [List.getElem?_eq_none_iff.mpr (by unfold wd; simpa using Nat.not_lt.mp hlt)] at hq; cases hq)
    exact h2
theorem r_dald (S : CallFix p m c cc nL s args Ts own) (F : Fx G s) (B : Bd G σ s H locs) (hdg : decode cc pc = .ok (.daload, 1))
    (kk : W p l e R s m args below meth c H locs cells slots Q (F0 m (pc + 1) ls (.double (dbl (σ 208 0) (σ 208 1)) :: rest))) : W p l e R s m args below meth c H locs cells slots Q (F0 m pc ls (.int 0 :: .ref (G.2.2 208) :: rest)) :=
  va_dald S.1 S.2.1 F.1 B.1 208 8 (by rw [wd_get (by decide)]; rfl) rfl (vpc (by decide)) hdg kk
end FL
def hpD (pl : Nat → Int32) (out : (UInt64 ⊕ Nat) × Mm) : Int32 × Mm := match out.1 with
  | .inl v => (0, upD out.2 v)
  | .inr n => (pl n, out.2)
theorem hpD_l (pl : Nat → Int32) {out : (UInt64 ⊕ Nat) × Mm} {v : UInt64} (h : out.1 = .inl v) : hpD pl out = (0, upD out.2 v) := by unfold hpD; rw [h]
theorem hpD_r (pl : Nat → Int32) {out : (UInt64 ⊕ Nat) × Mm} {n : Nat} (h : out.1 = .inr n) : hpD pl out = (pl n, out.2) := by unfold hpD; rw [h]
