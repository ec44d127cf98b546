/-! MAKING THE WORLD: a constructor's contract speaks of a list of cells; the lists are put together at the end -/
def EC (A : Nat → Prop) (U : State) (H : Heap) : Prop := (∀ q ∈ nwF, va_Nw (.fieldLinkNest q.1 q.2.1 q.2.2.1 q.2.2.2.1 q.2.2.2.2 "MazeBonds") U) ∧ (∀ q ∈ nwM, va_Nw (.methodLinkNest q.1 q.2.1 q.2.2 "MazeBonds") U) ∧ (va_AO RX1 U ∧ va_AO RX6 U ∧ va_AO RX7 U ∧ va_AOA .int U) ∧ va_Z "java/lang/String" "COMPACT_STRINGS" "Z" (.int 1) A U H
theorem bs_i {α β : Type} {o : Option α} {f : α → Option β} {b : β} (h : o.bind f = some b) : ∃ a, o = some a ∧ f a = some b := by
  cases o with
  | none => cases h
  | some a => exact ⟨a, rfl, h⟩
theorem bs_m {α β : Type} {o : Option α} {f : α → Option β} {a : α} {b : β} (h1 : o = some a) (h2 : f a = some b) : o.bind f = some b := by rw [h1]; exact h2
theorem mp_i {α β : Type} {o : Option α} {f : α → β} {b : β} (h : o.map f = some b) : ∃ a, o = some a ∧ f a = b := by
  cases o with
  | none => cases h
  | some a => exact ⟨a, rfl, Option.some.inj h⟩
theorem mp_m {α β : Type} {o : Option α} {f : α → β} {a : α} {b : β} (h1 : o = some a) (h2 : f a = b) : o.map f = some b := by rw [h1]; exact congrArg some h2
theorem AOA_moved {t : FieldType} {u U : State} (hvm : u.vm.Alike U.vm) (h : va_AOA t u) : va_AOA t U := by
  unfold va_AOA Cond.before Cond.holds at h ⊢
  simp only [Cond.value] at h ⊢
  have hf : ∀ n : String, U.vm.findClass n = u.vm.findClass n := fun n => hvm.findClass n none
  have hb : U.vm.bare = u.vm.bare := by first | exact hvm.bare_eq | exact hvm.bare_eq.symm
  have hi : ∀ comp : ClassId, (U.vm.classes.findIdx? fun (x : Class) => match x.kind with | .array component _ => component == comp | _ => false) = (u.vm.classes.findIdx? fun (x : Class) => match x.kind with | .array component _ => component == comp | _ => false) := fun comp =>
    (va_idx_bare U.vm comp).symm.trans ((congrArg (fun v : Vm => v.classes.findIdx? fun (x : Class) => match x.kind with | .array component _ => component == comp | _ => false) hb).trans (va_idx_bare u.vm comp))
  obtain ⟨comp, g1, g2⟩ := bs_i (eq_of_beq h)
  obtain ⟨c, g3, g4⟩ := bs_i g2
  obtain ⟨k, g5, g6⟩ := mp_i g4
  obtain ⟨k2, e2, e3⟩ := hvm.2.2 _ _ g5
  refine beq_iff_eq.mpr (bs_m ((hf _).trans g1) (bs_m ((hi comp).trans g3) (mp_m e2 ?_)))
  rw [show k2.kind = k.kind by rw [e3]]
  rw [hf ("[" ++ (FieldType.array t).toString)]
  exact g6
theorem EC.kept {A : Nat → Prop} {U : State} {H H1 : Heap} (h : EC A U H) (hq : ∀ a : Nat, a < H.size → ¬ A a → H1[a]? = H[a]?) : EC A U H1 := ⟨h.1, h.2.1, h.2.2.1, h.2.2.2.kept hq⟩
theorem EC.narrow {A B : Nat → Prop} {U : State} {H : Heap} (h : EC A U H) (hAB : ∀ q, B q → A q) : EC B U H := ⟨h.1, h.2.1, h.2.2.1, h.2.2.2.narrow hAB⟩
theorem EC.warm {A : Nat → Prop} {s U : State} {H : Heap} (hW : s.WarmedH U.vm) (h : EC A s H) : EC A U H :=
  ⟨fun q hq => va_Nw.warmF hW (h.1 q hq), fun q hq => va_Nw.warmM hW (h.2.1 q hq), ⟨h.2.2.1.1.moved hW.alike, h.2.2.1.2.1.moved hW.alike, h.2.2.1.2.2.1.moved hW.alike, AOA_moved hW.alike h.2.2.1.2.2.2⟩, h.2.2.2.moved hW.alike⟩
theorem EC.same {A : Nat → Prop} {u U : State} {H : Heap} (hv : U.vm = u.vm) (h : EC A u H) : EC A U H := by
  have a : u.vm.Alike U.vm := by rw [hv]; exact Vm.Alike.refl _
  exact ⟨fun q hq => va_Nw.same rfl hv.symm (h.1 q hq), fun q hq => va_Nw.same rfl hv.symm (h.2.1 q hq), ⟨h.2.2.1.1.moved a, h.2.2.1.2.1.moved a, h.2.2.1.2.2.1.moved a, AOA_moved a h.2.2.1.2.2.2⟩, h.2.2.2.moved a⟩
/-- what holds all along -/
def Fk (D : va_G) (C : Nat → ClassId) (A : Nat → Prop) (s : State) : Prop := va_K D vwCl (tyl (D, C, fun _ => 0)) s ∧ EC A s s.heap ∧ ∀ q, s.heap.size ≤ q → A q
/-- where it stands -/
def Bk (D : va_G) (A : Nat → Prop) (w : va_W) (s : State) (H : Heap) (locs : List Loc) : Prop := va_P D vwCl w H ∧ va_D A w ∧ va_S A s.heap H locs
/-- a constructor's start -/
def PK (D : va_G) (C : Nat → ClassId) (sz : Nat) (w : va_W) (U : State) : Prop := U.heap.size = sz ∧ va_P D vwCl w U.heap ∧ va_K D vwCl (tyl (D, C, fun _ => 0)) U ∧ va_D (fun _ => True) w ∧ EC (va_A w sz) U U.heap
abbrev QK {Sx : Type} (D : va_G) (sz : Nat) (w : va_W) (post : Sx → Prop) (W : Sx → va_W) : Array Value → State → Outcome → State → Prop := va_Qv (fun a : Sx => post a) (fun a t => va_P D vwCl (W a) t.heap ∧ va_D (va_A w sz) (W a)) (va_A w sz)
theorem PK.blind {D : va_G} {C : Nat → ClassId} {sz : Nat} {w : va_W} {As : List Value} : FrameBlind (va_Pc As (PK D C sz w)) := by
  intro a U g mk h
  obtain ⟨h0, h1, h2, h3, h4, h5⟩ := h
  exact ⟨h0, h1, h2, va_K.moved (u := U) (U := U.calling g mk a) (Vm.Alike.refl U.vm) h3, h4, EC.same (u := U) (U := U.calling g mk a) rfl h5⟩
theorem PK.to {D : va_G} {C : Nat → ClassId} {w : va_W} {s : State} (h : PK D C s.heap.size w s) : Fk D C (va_A w s.heap.size) s ∧ Bk D (va_A w s.heap.size) w s s.heap [] := ⟨⟨h.2.2.1, h.2.2.2.2, fun _ h => Or.inr h⟩, h.2.1, h.2.2.2.1.self, va_S.rf⟩
theorem va_P.left {D : va_G} {cl : List vw_C} {a b : va_W} {H : Heap} (h : va_P D cl (a ++ b) H) : va_P D cl a H := fun k q hk => h k q (by rw [List.getElem?_append_left (List.getElem?_eq_some_iff.mp hk).1]; exact hk)
theorem va_P.right {D : va_G} {cl : List vw_C} {a b : va_W} {H : Heap} (h : va_P D cl (a ++ b) H) : va_P D cl b H := fun k q hk => h (a.length + k) q (by rw [List.getElem?_append_right (Nat.le_add_right _ _), Nat.add_sub_cancel_left]; exact hk)
theorem va_D.left {A : Nat → Prop} {a b : va_W} (h : va_D A (a ++ b)) : va_D A a := by
  have e : ∀ (k : Nat) (q : Nat × va_E), a[k]? = some q → (a ++ b)[k]? = some q := fun k q hk => by rw [List.getElem?_append_left (List.getElem?_eq_some_iff.mp hk).1]; exact hk
  exact ⟨fun i j p q hi hj z => h.1 i j p q (e i p hi) (e j q hj) z, fun k q hk => h.2 k q (e k q hk)⟩
theorem va_D.right {A : Nat → Prop} {a b : va_W} (h : va_D A (a ++ b)) : va_D A b := by
  have e : ∀ (k : Nat) (q : Nat × va_E), b[k]? = some q → (a ++ b)[a.length + k]? = some q := fun k q hk => by rw [List.getElem?_append_right (Nat.le_add_right _ _), Nat.add_sub_cancel_left]; exact hk
  exact ⟨fun i j p q hi hj z => by have := h.1 _ _ p q (e i p hi) (e j q hj) z; omega, fun k q hk => h.2 _ q (e k q hk)⟩
theorem va_A_of {A : Nat → Prop} {w : va_W} {n : Nat} (hD : va_D A w) (hA : ∀ q, n ≤ q → A q) : ∀ q, va_A w n q → A q := fun q h => by
  rcases h with ⟨k, e, h⟩ | h
  · exact hD.2 k (q, e) h
  · exact hA q h
/-- a callee's cells are the last; the others stay -/
theorem va_jn {A : Nat → Prop} {D : va_G} {cl : List vw_C} {wr wc w1 : va_W} {H H1 : Heap} (hP : va_P D cl (wr ++ wc) H) (hD : va_D A (wr ++ wc)) (hk : ∀ q : Nat, q < H.size → ¬ va_A wc H.size q → H1[q]? = H[q]?) (hF : ∀ q, va_A wc H.size q → A q) (hP1 : va_P D cl w1 H1) (hD1 : va_D (va_A wc H.size) w1) : va_P D cl (wr ++ w1) H1 ∧ va_D A (wr ++ w1) := by
  have no : ∀ (k : Nat) (q : Nat × va_E), wr[k]? = some q → ¬ va_A wc H.size q.1 := by
    intro k q hq z
    rcases z with ⟨j, e, hj⟩ | z
    · have hl := (List.getElem?_eq_some_iff.mp hq).1
      have e1 : (wr ++ wc)[k]? = some q := by rw [List.getElem?_append_left hl]; exact hq
      have e2 : (wr ++ wc)[wr.length + j]? = some (q.1, e) := by rw [List.getElem?_append_right (Nat.le_add_right _ _), Nat.add_sub_cancel_left]; exact hj
      have := hD.1 _ _ _ _ e1 e2 rfl
      omega
    · exact absurd (hP.left k q hq).lt (Nat.not_lt.mpr z)
  refine ⟨(hP.left.kept fun k q hq => hk q.1 (hP.left k q hq).lt (no k q hq)).app hP1, hD.left.app ⟨hD1.1, fun k q hq => hF _ (hD1.2 k q hq)⟩ fun i j p q hi hj z => no i p hi ?_⟩
  rw [z]
  exact hD1.2 j q hj
theorem PK.call {D : va_G} {C : Nat → ClassId} {A : Nat → Prop} {wr wc : va_W} {s : State} {H : Heap} {locs : List Loc} (F : Fk D C A s) (B : Bk D A (wr ++ wc) s H locs) (U : State) (hU : U.heap = H) (hW : s.WarmedH U.vm) : PK D C H.size wc U := by
  have hF : ∀ q, va_A wc H.size q → A q := va_A_of B.2.1.right (fun q h => F.2.2 q (Nat.le_trans B.2.2.1 h))
  refine ⟨by rw [hU], by rw [hU]; exact B.1.right, va_K.moved hW.alike F.1, B.2.1.right.weaken (fun _ _ _ _ => trivial), ?_⟩
  rw [hU]
  exact EC.warm hW ((F.2.1.kept B.2.2.2.1).narrow hF)
theorem ra_eq {U : State} {a b : ClassId} {ty : FieldType} (h1 : va_RA U a ty) (h2 : va_RA U b ty) : a = b := by
  cases ty with
  | object C =>
    obtain ⟨_, _, _, _, _, e1⟩ := h1
    obtain ⟨_, _, _, _, _, e2⟩ := h2
    exact Option.some.inj (e1.symm.trans e2)
  | _ => exact Option.some.inj (Eq.trans (Eq.symm (show U.vm.findClass _ = some a from h1)) (show U.vm.findClass _ = some b from h2))
section NR
variable {p : Program} {l : Launch} {e : Env} {R : Room} {s : State} {m : MethodId} {args : Array Value} {below : List Frame} {meth : Method} {c : Code} {H : Heap} {locs : List Loc} {cells slots : Nat} {Q : State → Prop}
variable {cc : ByteArray} {nL pc index : Nat} {ls : Array Slot} {rest : List Value} {D : va_G} {C : Nat → ClassId} {A : Nat → Prop} {w wr : va_W} {own : String} {Ts : List Cond}
theorem n_obj (S : CallFix p m c cc nL s args Ts own) (F : Fk D C A s) (B : Bk D A w s H locs) {K : String} {T : u_T} {N ci : Nat} (hin : ∀ w ∈ u_ws K T N, w ∈ Ts) (ty : Nat → FieldType) (hty : ∀ k, k < N → parseFieldDescriptor (T k).2.2.1 = some (ty k)) (hcl : Cond.classLink own index K ∈ Ts) (hinst : Cond.instantiable K N ∈ Ts) (hini : Cond.initialized K ∈ Ts) (hc : vwCl[ci]? = some (K, T, N)) {fs : List Value} (hfs : ∀ j, j < N → defaultValue (ty j) = vp_V fs j) (hf : cells + 1 ≤ R.cells ∧ slots + N ≤ R.slots) (hdg : decode cc pc = .ok (.new index, 3))
    (kk : ∀ (q : Nat) (H1 : Heap), Bk D A (w ++ [(q, .inr (ci, fs))]) s H1 locs → W p l e R s m args below meth c H1 locs (cells + 1) (slots + N) Q (F0 m (pc + 3) ls (.ref q :: rest))) : W p l e R s m args below meth c H locs cells slots Q (F0 m pc ls rest) :=
  va_new S.1 S.2.1 S.2.2.2.2 hin ty hty S.2.2.2.1 (S.2.2.2.2 _ hcl) (S.2.2.2.2 _ hinst) (S.2.2.2.2 _ hini) F.1 B.1 B.2.1 B.2.2 F.2.2 hc hfs hf.1 hf.2 hdg (fun q H1 h1 h2 h3 => kk q H1 ⟨h1, h2, h3⟩)
theorem n_arr (S : CallFix p m c cc nL s args Ts own) (F : Fk D C A s) (B : Bk D A w s H locs) {atype : ArrayType} {ty : FieldType} {t : Nat} {c0 : ClassId} (harr : Cond.arrayClass (newarray.typeOf atype) ∈ Ts) (hty : newarray.typeOf atype = ty) (ht : (tyl (D, C, fun _ => 0))[t]? = some (c0, ty)) {n : Int32} {N' : Nat} {a0 : vp_A} (ha : ∀ cA : ClassId, vp_cell cA a0 = arrV cA N' (fun _ => defaultValue ty)) (hn : ¬ n < 0) (hN : n.toNatClampNeg = N') (hbytes : N' * componentBytes ty ≤ 536870912) (hf : cells + 1 ≤ R.cells ∧ slots + N' ≤ R.slots) (hdg : decode cc pc = .ok (.newarray atype, 2))
    (kk : ∀ (q : Nat) (H1 : Heap), Bk D A (w ++ [(q, .inl (c0, a0))]) s H1 locs → W p l e R s m args below meth c H1 locs (cells + 1) (slots + N') Q (F0 m (pc + 2) ls (.ref q :: rest))) : W p l e R s m args below meth c H locs cells slots Q (F0 m pc ls (.int n :: rest)) := by
  refine va_newa S.1 S.2.1 (S.2.2.2.2 _ harr) hty F.1 B.1 B.2.1 B.2.2 F.2.2 ha hn hN hbytes hf.1 hf.2 hdg (fun q cA H1 hK h1 h2 h3 => ?_)
  have e : cA = c0 := ra_eq (hK.2 9 (cA, ty) rfl).2 (F.1.2 t _ ht).2
  subst e
  exact kk q H1 ⟨h1, h2, h3⟩
theorem n_arrR (S : CallFix p m c cc nL s args Ts own) (F : Fk D C A s) (B : Bk D A w s H locs) {K : String} {t : Nat} {c0 : ClassId} (hcl : Cond.classLink own index K ∈ Ts) (hov : va_AO K s) (ht : (tyl (D, C, fun _ => 0))[t]? = some (c0, .object K)) {n : Int32} {N' : Nat} (hn : ¬ n < 0) (hN : n.toNatClampNeg = N') (hbytes : N' * 4 ≤ 536870912) (hf : cells + 1 ≤ R.cells ∧ slots + N' ≤ R.slots) (hdg : decode cc pc = .ok (.anewarray index, 3))
    (kk : ∀ (q : Nat) (H1 : Heap), Bk D A (w ++ [(q, .inl (c0, N', .inr (.inr (.inr (.inr (fun _ => none))))))]) s H1 locs → W p l e R s m args below meth c H1 locs (cells + 1) (slots + N') Q (F0 m (pc + 3) ls (.ref q :: rest))) : W p l e R s m args below meth c H locs cells slots Q (F0 m pc ls (.int n :: rest)) := by
  refine va_newq S.1 S.2.1 S.2.2.2.1 (S.2.2.2.2 _ hcl) hov F.1 B.1 B.2.1 B.2.2 F.2.2 hn hN hbytes hf.1 hf.2 hdg (fun q cA H1 hK h1 h2 h3 => ?_)
  have e : cA = c0 := ra_eq (hK.2 9 (cA, .object K) rfl).2 (F.1.2 t _ ht).2
  subst e
  exact kk q H1 ⟨h1, h2, h3⟩
theorem n_put (S : CallFix p m c cc nL s args Ts own) (F : Fk D C A s) (B : Bk D A w s H locs) {K : String} {T : u_T} {N ci a : Nat} (hin : ∀ w ∈ u_ws K T N, w ∈ Ts) (ty0 : Nat → FieldType) (hty : ∀ k, k < N → parseFieldDescriptor (T k).2.2.1 = some (ty0 k)) (hnm : ∀ a, a < N → ∀ b, b < N → a ≠ b → (T a).2.1 ≠ (T b).2.1) (q0 : Nat) {fs : List Value} (he : w[q0]? = some (a, .inr (ci, fs))) (hc : vwCl[ci]? = some (K, T, N)) (k : Nat) (hk : k < N) (hlink : Cond.fieldLink own index (T k).1 (T k).2.1 (T k).2.2.1 ∈ Ts) (hfin : (T k).2.2.2 = false) {ty : FieldType} {v : Value} (hd : parseFieldDescriptor (T k).2.2.1 = some ty) (hn : narrow ty v = v) (hfit : fits ty v = true) (hl : k < fs.length) (hdg : decode cc pc = .ok (.putfield index, 3))
    (kk : ∀ (H1 : Heap) (locs1 : List Loc), Bk D A (w.set q0 (a, .inr (ci, fs.set k v))) s H1 locs1 → W p l e R s m args below meth c H1 locs1 cells slots Q (F0 m (pc + 3) ls rest)) : W p l e R s m args below meth c H locs cells slots Q (F0 m pc ls (v :: .ref a :: rest)) :=
  va_put S.1 S.2.1 S.2.2.2.2 hin ty0 hty hnm S.2.2.2.1 F.1 B.1 B.2.1 B.2.2 q0 he hc k hk (S.2.2.2.2 _ hlink) (fun _ h => h) hfin hd hn hfit hl hdg (fun H1 locs1 h1 h2 h3 => kk H1 locs1 ⟨h1, h2, h3⟩)
theorem n_putF (S : CallFix p m c cc nL s args Ts own) (F : Fk D C A s) (B : Bk D A w s H locs) (hin2 : meth.name = "<init>") {K : String} {T : u_T} {N ci a : Nat} (hin : ∀ w ∈ u_ws K T N, w ∈ Ts) (ty0 : Nat → FieldType) (hty : ∀ k, k < N → parseFieldDescriptor (T k).2.2.1 = some (ty0 k)) (hnm : ∀ a, a < N → ∀ b, b < N → a ≠ b → (T a).2.1 ≠ (T b).2.1) (q0 : Nat) {fs : List Value} (he : w[q0]? = some (a, .inr (ci, fs))) (hc : vwCl[ci]? = some (K, T, N)) (k : Nat) (hk : k < N) (hlink : Cond.fieldLink own index (T k).1 (T k).2.1 (T k).2.2.1 ∈ Ts) (hfin : (T k).2.2.2 = true) (hdecl : (T k).1 = own) {ty : FieldType} {v : Value} (hd : parseFieldDescriptor (T k).2.2.1 = some ty) (hn : narrow ty v = v) (hfit : fits ty v = true) (hl : k < fs.length) (hdg : decode cc pc = .ok (.putfield index, 3))
    (kk : ∀ (H1 : Heap) (locs1 : List Loc), Bk D A (w.set q0 (a, .inr (ci, fs.set k v))) s H1 locs1 → W p l e R s m args below meth c H1 locs1 cells slots Q (F0 m (pc + 3) ls rest)) : W p l e R s m args below meth c H locs cells slots Q (F0 m pc ls (v :: .ref a :: rest)) :=
  va_putF S.1 S.2.1 S.2.2.2.2 hin ty0 hty hnm S.2.2.2.1 F.1 B.1 B.2.1 B.2.2 q0 he hc k hk (S.2.2.2.2 _ hlink) (fun _ h => h) hfin hin2 hdecl hd hn hfit hl hdg (fun H1 locs1 h1 h2 h3 => kk H1 locs1 ⟨h1, h2, h3⟩)
theorem n_get (S : CallFix p m c cc nL s args Ts own) (F : Fk D C A s) (B : Bk D A w s H locs) {K : String} {T : u_T} {N ci a : Nat} (hin : ∀ w ∈ u_ws K T N, w ∈ Ts) (q0 : Nat) {fs : List Value} (he : w[q0]? = some (a, .inr (ci, fs))) (hc : vwCl[ci]? = some (K, T, N)) (k : Nat) (hk : k < N) (hlink : Cond.fieldLink own index (T k).1 (T k).2.1 (T k).2.2.1 ∈ Ts) {v : Value} (hv : fs[k]? = some v) (hdg : decode cc pc = .ok (.getfield index, 3))
    (kk : W p l e R s m args below meth c H locs cells slots Q (F0 m (pc + 3) ls (v :: rest))) : W p l e R s m args below meth c H locs cells slots Q (F0 m pc ls (.ref a :: rest)) :=
  va_get S.1 S.2.1 S.2.2.2.2 hin S.2.2.2.1 F.1 B.1 q0 he hc k hk (S.2.2.2.2 _ hlink) (fun _ h => h) hv hdg kk
theorem n_getN (S : CallFix p m c cc nL s args Ts own) (F : Fk D C A s) (B : Bk D A w s H locs) {K : String} {T : u_T} {N ci a : Nat} (hin : ∀ w ∈ u_ws K T N, w ∈ Ts) (q0 : Nat) {fs : List Value} (he : w[q0]? = some (a, .inr (ci, fs))) (hc : vwCl[ci]? = some (K, T, N)) (k : Nat) (hk : k < N) (hlink : (own, index, (T k).1, (T k).2.1, (T k).2.2.1) ∈ nwF) {v : Value} (hv : fs[k]? = some v) (hdg : decode cc pc = .ok (.getfield index, 3))
    (kk : W p l e R s m args below meth c H locs cells slots Q (F0 m (pc + 3) ls (v :: rest))) : W p l e R s m args below meth c H locs cells slots Q (F0 m pc ls (.ref a :: rest)) :=
  va_getN S.1 S.2.1 S.2.2.2.2 hin S.2.2.2.1 F.1 B.1 q0 he hc k hk (va_Nw.use rfl (F.2.1.1 _ hlink)) (fun _ h => h) hv hdg kk
theorem n_aast (S : CallFix p m c cc nL s args Ts own) (F : Fk D C A s) (B : Bk D A w s H locs) (q0 t qk ci : Nat) {c0 : ClassId} {r : vw_C} {a n v : Nat} {vs : List Value} {f : Nat → Option Nat} (ha : w[q0]? = some (a, .inl (c0, n, .inr (.inr (.inr (.inr f)))))) (ht : (tyl (D, C, fun _ => 0))[t]? = some (c0, .object r.1)) (hv : w[qk]? = some (v, .inr (ci, vs))) (hc : vwCl[ci]? = some r) {i : Int32} (hin : vp_in i n) (hdg : decode cc pc = .ok (.aastore, 1))
    (kk : ∀ (H1 : Heap) (locs1 : List Loc), Bk D A (w.set q0 (a, .inl (c0, n, .inr (.inr (.inr (.inr (va_up f i.toNatClampNeg (some v)))))))) s H1 locs1 → W p l e R s m args below meth c H1 locs1 cells slots Q (F0 m (pc + 1) ls rest)) : W p l e R s m args below meth c H locs cells slots Q (F0 m pc ls (.ref v :: .int i :: .ref a :: rest)) :=
  va_astq S.1 S.2.1 F.1 B.1 B.2.1 B.2.2 q0 t qk ci ha ht hv hc hin hdg (fun H1 locs1 h1 h2 h3 => kk H1 locs1 ⟨h1, h2, h3⟩)
theorem n_iast (S : CallFix p m c cc nL s args Ts own) (F : Fk D C A s) (B : Bk D A w s H locs) (q0 : Nat) {a n : Nat} {f : Nat → Int32} (ha : w[q0]? = some (a, .inl (C 0, n, .inl f))) {i x : Int32} (hin : vp_in i n) (hdg : decode cc pc = .ok (.iastore, 1))
    (kk : ∀ (H1 : Heap) (locs1 : List Loc), Bk D A (w.set q0 (a, .inl (C 0, n, .inl (upd f i.toNatClampNeg x)))) s H1 locs1 → W p l e R s m args below meth c H1 locs1 cells slots Q (F0 m (pc + 1) ls rest)) : W p l e R s m args below meth c H locs cells slots Q (F0 m pc ls (.int x :: .int i :: .ref a :: rest)) :=
  va_iast S.1 S.2.1 F.1 B.1 B.2.1 B.2.2 q0 0 ha rfl hin hdg (fun H1 locs1 h1 h2 h3 => kk H1 locs1 ⟨h1, h2, h3⟩)
theorem n_oinit (S : CallFix p m c cc nL s args Ts own) (hlink : Cond.methodLink own index objectInit ∈ Ts) (hinst : Cond.instanceMethod objectInit ∈ Ts) (hcode : Cond.code objectInit ⟨#[0xb1]⟩ 1 none ∈ Ts) (hsize : ls.size = nL) {a : Addr} (hd : decode cc pc = .ok (.invokespecial index, 3)) (hframes : 1 ≤ R.frames) (hlocals : (rest.map fun v => v.category).sum + 12 ≤ R.locals)
    (kk : W p l e R s m args below meth c H locs cells slots Q (F0 m (pc + 3) ls rest)) : W p l e R s m args below meth c H locs cells slots Q (F0 m pc ls (.ref a :: rest)) :=
  W.objInit S.1 S.2.1 S.2.2.2.1 (S.2.2.2.2 _ hlink) (S.2.2.2.2 _ hinst) (S.2.2.2.2 _ hcode) rfl (by rw [S.2.2.1]; exact hsize) rfl hd hframes (by show 2 * 0 + _ + 12 ≤ _; omega) kk
variable {y : MethodName} {bytes : ByteArray} {maxL n q mc ms : Nat} {ws : List Cond} {rm : Room} {As st : List Value} {e0 : va_E} {Sx : Type} {post : Sx → Prop} {Wk : Sx → va_W} {host : String}
theorem n_call (S : CallFix p m c cc nL s args Ts own) (F : Fk D C A s) (B : Bk D A (wr ++ [(q, e0)]) s H locs) (hM : Met l y ws rm (va_Pc (.ref q :: As) (PK D C H.size [(q, e0)])) (QK D H.size [(q, e0)] post Wk) mc ms (va_A [(q, e0)] H.size)) (cw : CallB R s args own index y bytes maxL none ws rm mc ms n ∧ y.name = "<init>" ∧ (Cond.instanceMethod y).before args s = true) (hn : As.length = n) (hsize : ls.size = nL) (hst : st = As.reverse ++ .ref q :: rest) (hroom : (rest.map fun v => v.category).sum ≤ 8) (hdg : decode cc pc = .ok (.invokespecial index, 3)) (hf : cells + mc ≤ R.cells ∧ slots + ms ≤ R.slots)
    (kk : ∀ (a : Sx) (H1 : Heap) (locs1 : List Loc), post a → Bk D A (wr ++ Wk a) s H1 locs1 → W p l e R s m args below meth c H1 locs1 (cells + mc) (slots + ms) Q (F0 m (pc + 3) ls rest)) : W p l e R s m args below meth c H locs cells slots Q (F0 m pc ls st) := by
  have hF : ∀ x, va_A [(q, e0)] H.size x → A x := va_A_of B.2.1.right (fun x h => F.2.2 x (Nat.le_trans B.2.2.1 h))
  refine va_callv (va_runI S hM cw ⟨PK.blind, fun U hU hW => ⟨rfl, PK.call F B U hU hW⟩⟩ rfl hn hsize hst (lv_room hroom) hdg hf) B.2.2 (fun x _ h => hF x h) hF (fun u t H1 locs1 ht hvm hp hb hz hk hS => ?_)
  obtain ⟨h1, h2⟩ := va_jn B.1 B.2.1 hk hF (by rw [← ht]; exact hb.1) hb.2
  exact kk u H1 locs1 hp ⟨h1, h2, hS⟩
theorem n_callN (S : CallFix p m c cc nL s args Ts own) (F : Fk D C A s) (B : Bk D A (wr ++ [(q, e0)]) s H locs) (hM : Met l y ws rm (va_Pc (.ref q :: As) (PK D C H.size [(q, e0)])) (QK D H.size [(q, e0)] post Wk) mc ms (va_A [(q, e0)] H.size)) (cw : va_CN R s args own index y host bytes maxL none ws rm mc ms n ∧ y.name = "<init>" ∧ (Cond.instanceMethod y).before args s = true) (hn : As.length = n) (hsize : ls.size = nL) (hst : st = As.reverse ++ .ref q :: rest) (hroom : (rest.map fun v => v.category).sum ≤ 8) (hdg : decode cc pc = .ok (.invokespecial index, 3)) (hf : cells + mc ≤ R.cells ∧ slots + ms ≤ R.slots)
    (kk : ∀ (a : Sx) (H1 : Heap) (locs1 : List Loc), post a → Bk D A (wr ++ Wk a) s H1 locs1 → W p l e R s m args below meth c H1 locs1 (cells + mc) (slots + ms) Q (F0 m (pc + 3) ls rest)) : W p l e R s m args below meth c H locs cells slots Q (F0 m pc ls st) := by
  have hF : ∀ x, va_A [(q, e0)] H.size x → A x := va_A_of B.2.1.right (fun x h => F.2.2 x (Nat.le_trans B.2.2.1 h))
  refine va_callv (va_runIN S hM cw ⟨PK.blind, fun U hU hW => ⟨rfl, PK.call F B U hU hW⟩⟩ rfl hn hsize hst (lv_room hroom) hdg hf) B.2.2 (fun x _ h => hF x h) hF (fun u t H1 locs1 ht hvm hp hb hz hk hS => ?_)
  obtain ⟨h1, h2⟩ := va_jn B.1 B.2.1 hk hF (by rw [← ht]; exact hb.1) hb.2
  exact kk u H1 locs1 hp ⟨h1, h2, hS⟩
theorem n_ret {w0 : va_W} {a : Sx} (F : Fk D C (va_A w0 s.heap.size) s) (B : Bk D (va_A w0 s.heap.size) w s H locs) (hx : p.tables.exec = Jvm.exec) (hb : c.code = cc) (hr : meth.sig.returnType = none) (hlocks : meth.locks = false) (hp : post a) (hw : w = Wk a) (hdg : decode cc pc = .ok (.return_, 1)) : W p l e R s m args below meth c H locs cells slots (MQ below (QK D s.heap.size w0 post Wk) args s cells slots (va_A w0 s.heap.size)) (F0 m pc ls []) := by
  subst hw
  exact W.vret hx hb hr (fun t ht hW => ⟨⟨a, rfl, hp, by rw [ht]; exact B.1, B.2.1⟩, B.2.2.F ht⟩) B.2.2.2.2 hdg hlocks
end NR
/-! the cells at the start -/
/-- what the cells hold at the start -/
def σ0 : Mm := fun i k => if kd i = 0 ∧ k = 5 then -1 else if kd i = 6 ∧ k = 4 then -1 else if i = 162 ∧ k = 7 then -1 else if i = 198 ∧ k = 9 then -1 else if i = 199 ∧ k = 2 then -1 else 0
def ent (G : Gd) (i : Nat) : Nat × va_E := (G.2.2 i, cellK (kd i) G i (σ0 i))
def blk (G : Gd) (is : List Nat) : va_W := is.map (ent G)
theorem up_l {f : Nat → Option Nat} {g : Nat → Option Nat} (n : Nat) (h1 : ∀ j, j < n → f j = g j) (h2 : ∀ j, n ≤ j → f j = g j) : f = g := funext fun j => if h : j < n then h1 j h else h2 j (Nat.not_lt.mp h)
theorem up4 (g : Nat → Nat) : va_up (va_up (va_up (va_up (fun _ => none) (Int32.toNatClampNeg 0) (some (g 0))) (Int32.toNatClampNeg 1) (some (g 1))) (Int32.toNatClampNeg 2) (some (g 2))) (Int32.toNatClampNeg 3) (some (g 3)) = fun j => if j < 4 then some (g j) else none := by
  rw [show Int32.toNatClampNeg 0 = 0 from rfl, show Int32.toNatClampNeg 1 = 1 from rfl, show Int32.toNatClampNeg 2 = 2 from rfl, show Int32.toNatClampNeg 3 = 3 from rfl]
  refine up_l 4 (fun j hj => ?_) (fun j hj => ?_)
  · rcases (show j = 0 ∨ j = 1 ∨ j = 2 ∨ j = 3 by omega) with rfl | rfl | rfl | rfl <;> rfl
  · unfold va_up
    rw [if_neg (by omega), if_neg (by omega), if_neg (by omega), if_neg (by omega), if_neg (by omega)]
theorem up5 (g : Nat → Nat) : va_up (va_up (va_up (va_up (va_up (fun _ => none) (Int32.toNatClampNeg 0) (some (g 0))) (Int32.toNatClampNeg 1) (some (g 1))) (Int32.toNatClampNeg 2) (some (g 2))) (Int32.toNatClampNeg 3) (some (g 3))) (Int32.toNatClampNeg 4) (some (g 4)) = fun j => if j < 5 then some (g j) else none := by
  rw [show Int32.toNatClampNeg 0 = 0 from rfl, show Int32.toNatClampNeg 1 = 1 from rfl, show Int32.toNatClampNeg 2 = 2 from rfl, show Int32.toNatClampNeg 3 = 3 from rfl, show Int32.toNatClampNeg 4 = 4 from rfl]
  refine up_l 5 (fun j hj => ?_) (fun j hj => ?_)
  · rcases (show j = 0 ∨ j = 1 ∨ j = 2 ∨ j = 3 ∨ j = 4 by omega) with rfl | rfl | rfl | rfl | rfl <;> rfl
  · unfold va_up
    rw [if_neg (by omega), if_neg (by omega), if_neg (by omega), if_neg (by omega), if_neg (by omega), if_neg (by omega)]
theorem up8 (g : Nat → Nat) : va_up (va_up (va_up (va_up (va_up (va_up (va_up (va_up (fun _ => none) (Int32.toNatClampNeg 0) (some (g 0))) (Int32.toNatClampNeg 1) (some (g 1))) (Int32.toNatClampNeg 2) (some (g 2))) (Int32.toNatClampNeg 3) (some (g 3))) (Int32.toNatClampNeg 4) (some (g 4))) (Int32.toNatClampNeg 5) (some (g 5))) (Int32.toNatClampNeg 6) (some (g 6))) (Int32.toNatClampNeg 7) (some (g 7)) = fun j => if j < 8 then some (g j) else none := by
  rw [show Int32.toNatClampNeg 0 = 0 from rfl, show Int32.toNatClampNeg 1 = 1 from rfl, show Int32.toNatClampNeg 2 = 2 from rfl, show Int32.toNatClampNeg 3 = 3 from rfl, show Int32.toNatClampNeg 4 = 4 from rfl, show Int32.toNatClampNeg 5 = 5 from rfl, show Int32.toNatClampNeg 6 = 6 from rfl, show Int32.toNatClampNeg 7 = 7 from rfl]
  refine up_l 8 (fun j hj => ?_) (fun j hj => ?_)
  · rcases (show j = 0 ∨ j = 1 ∨ j = 2 ∨ j = 3 ∨ j = 4 ∨ j = 5 ∨ j = 6 ∨ j = 7 by omega) with rfl | rfl | rfl | rfl | rfl | rfl | rfl | rfl <;> rfl
  · unfold va_up
    rw [if_neg (by omega), if_neg (by omega), if_neg (by omega), if_neg (by omega), if_neg (by omega), if_neg (by omega), if_neg (by omega), if_neg (by omega), if_neg (by omega)]
