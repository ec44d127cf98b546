/-! rows over the world, an instruction each -/
theorem vp_lt {x : Int32} {n : Nat} (h : vp_in x n) : x.toNatClampNeg < n := Nat.not_le.mp fun q => h (Or.inr q)
section RW
variable {p : Program} {l : Launch} {e : Env} {R : Room} {s : State} {m : MethodId} {args : Array Value} {below : List Frame} {meth : Method} {c : Code} {H : Heap} {locs : List Loc} {cells slots : Nat} {Q : State → Prop}
variable {cc : ByteArray} {nL pc index : Nat} {ls : Array Slot} {rest : List Value} {G : Gd} {σ : Mm} {own : String} {Ts : List Cond}
theorem r_get (S : CallFix p m c cc nL s args Ts own) (F : Fx G s) (B : Bd G σ s H locs) {i kc ci N : Nat} {C : String} {T : u_T} {fs : List Value} {v : Value} (hk : kd i = kc ∧ i < NN) (he : cellK kc G i (σ i) = .inr (ci, fs)) (hc : vwCl[ci]? = some (C, T, N)) (hin : ∀ w ∈ u_ws C T N, w ∈ Ts) (k : Nat) (hkN : k < N) (hlink : Cond.fieldLink own index (T k).1 (T k).2.1 (T k).2.2.1 ∈ Ts) (hv : fs[k]? = some v) (hdg : decode cc pc = .ok (.getfield index, 3))
    (kk : W p l e R s m args below meth c H locs cells slots Q (F0 m (pc + 3) ls (v :: rest))) : W p l e R s m args below meth c H locs cells slots Q (F0 m pc ls (.ref (G.2.2 i) :: rest)) := by
  obtain ⟨hx, hb, hml, hown, hts⟩ := S
  exact va_get hx hb hts hin hown F.1 B.1 i (by rw [wd_get hk.2, hk.1, he]) hc k hkN (hts _ hlink) (fun _ h => h) hv hdg kk
theorem r_getN (S : CallFix p m c cc nL s args Ts own) (F : Fx G s) (B : Bd G σ s H locs) {i kc ci N : Nat} {C : String} {T : u_T} {fs : List Value} {v : Value} (hk : kd i = kc ∧ i < NN) (he : cellK kc G i (σ i) = .inr (ci, fs)) (hc : vwCl[ci]? = some (C, T, N)) (hin : ∀ w ∈ u_ws C T N, w ∈ Ts) (k : Nat) (hkN : k < N) (hlink : (own, index, (T k).1, (T k).2.1, (T k).2.2.1) ∈ nwF) (hv : fs[k]? = some v) (hdg : decode cc pc = .ok (.getfield index, 3))
    (kk : W p l e R s m args below meth c H locs cells slots Q (F0 m (pc + 3) ls (v :: rest))) : W p l e R s m args below meth c H locs cells slots Q (F0 m pc ls (.ref (G.2.2 i) :: rest)) := by
  obtain ⟨hx, hb, hml, hown, hts⟩ := S
  exact va_getN hx hb hts hin hown F.1 B.1 i (by rw [wd_get hk.2, hk.1, he]) hc k hkN (va_Nw.use rfl (F.nf _ hlink)) (fun _ h => h) hv hdg kk
theorem Bd.set (B : Bd G σ s H locs) {i kc : Nat} (hk : kd i = kc ∧ i < NN) {H1 : Heap} {locs1 : List Loc} {e : va_E} {k : Nat} {x : Int32} (hp : va_P G.1 vwCl ((wd G σ).set i (G.2.2 i, e)) H1) (hS : va_S (AA G s.heap.size) s.heap H1 locs1) (he : e = cellK kc G i (upd (σ i) k x)) : Bd G (up σ i k x) s H1 locs1 := by
  refine ⟨?_, hS⟩
  rw [wd_set hk.2 (f := upd (σ i) k x) (by rw [hk.1]; exact he)] at hp
  exact hp
theorem r_put (S : CallFix p m c cc nL s args Ts own) (F : Fx G s) (B : Bd G σ s H locs) {i kc ci N : Nat} {C : String} {T : u_T} {fs : (Nat → Int32) → List Value} {x : Int32} {ty : FieldType} (ty0 : Nat → FieldType) (hty : ∀ k, k < N → parseFieldDescriptor (T k).2.2.1 = some (ty0 k)) (hnm : ∀ a, a < N → ∀ b, b < N → a ≠ b → (T a).2.1 ≠ (T b).2.1) (hk : kd i = kc ∧ i < NN) (he : ∀ f, cellK kc G i f = .inr (ci, fs f)) (hc : vwCl[ci]? = some (C, T, N)) (hin : ∀ w ∈ u_ws C T N, w ∈ Ts) (k : Nat) (hkN : k < N) (hlink : Cond.fieldLink own index (T k).1 (T k).2.1 (T k).2.2.1 ∈ Ts)
    (hfin : (T k).2.2.2 = false) (hd : parseFieldDescriptor (T k).2.2.1 = some ty) (hn : narrow ty (.int x) = .int x) (hfit : fits ty (.int x) = true) (hl : ∀ f, k < (fs f).length) (hset : ∀ f, (fs f).set k (.int x) = fs (upd f k x)) (hdg : decode cc pc = .ok (.putfield index, 3))
    (kk : ∀ (H1 : Heap) (locs1 : List Loc), Bd G (up σ i k x) s H1 locs1 → W p l e R s m args below meth c H1 locs1 cells slots Q (F0 m (pc + 3) ls rest)) : W p l e R s m args below meth c H locs cells slots Q (F0 m pc ls (.int x :: .ref (G.2.2 i) :: rest)) := by
  obtain ⟨hx, hb, hml, hown, hts⟩ := S
  refine va_put hx hb hts hin ty0 hty hnm hown F.1 B.1 (wd_D F.2.1 _ σ) B.2 i (by rw [wd_get hk.2, hk.1, he]) hc k hkN (hts _ hlink) (fun _ h => h) hfin hd hn hfit (hl _) hdg (fun H1 locs1 h1 _ h3 => kk H1 locs1 (B.set hk h1 h3 ?_))
  rw [he, hset]
theorem r_putN (S : CallFix p m c cc nL s args Ts own) (F : Fx G s) (B : Bd G σ s H locs) {i kc ci N : Nat} {C : String} {T : u_T} {fs : (Nat → Int32) → List Value} {x : Int32} {ty : FieldType} (ty0 : Nat → FieldType) (hty : ∀ k, k < N → parseFieldDescriptor (T k).2.2.1 = some (ty0 k)) (hnm : ∀ a, a < N → ∀ b, b < N → a ≠ b → (T a).2.1 ≠ (T b).2.1) (hk : kd i = kc ∧ i < NN) (he : ∀ f, cellK kc G i f = .inr (ci, fs f)) (hc : vwCl[ci]? = some (C, T, N)) (hin : ∀ w ∈ u_ws C T N, w ∈ Ts) (k : Nat) (hkN : k < N) (hlink : (own, index, (T k).1, (T k).2.1, (T k).2.2.1) ∈ nwF)
    (hfin : (T k).2.2.2 = false) (hd : parseFieldDescriptor (T k).2.2.1 = some ty) (hn : narrow ty (.int x) = .int x) (hfit : fits ty (.int x) = true) (hl : ∀ f, k < (fs f).length) (hset : ∀ f, (fs f).set k (.int x) = fs (upd f k x)) (hdg : decode cc pc = .ok (.putfield index, 3))
    (kk : ∀ (H1 : Heap) (locs1 : List Loc), Bd G (up σ i k x) s H1 locs1 → W p l e R s m args below meth c H1 locs1 cells slots Q (F0 m (pc + 3) ls rest)) : W p l e R s m args below meth c H locs cells slots Q (F0 m pc ls (.int x :: .ref (G.2.2 i) :: rest)) := by
  obtain ⟨hx, hb, hml, hown, hts⟩ := S
  refine va_putN hx hb hts hin ty0 hty hnm hown F.1 B.1 (wd_D F.2.1 _ σ) B.2 i (by rw [wd_get hk.2, hk.1, he]) hc k hkN (va_Nw.use rfl (F.nf _ hlink)) (fun _ h => h) hfin hd hn hfit (hl _) hdg (fun H1 locs1 h1 _ h3 => kk H1 locs1 (B.set hk h1 h3 ?_))
  rw [he, hset]
theorem r_iald (S : CallFix p m c cc nL s args Ts own) (F : Fx G s) (B : Bd G σ s H locs) {i kc n : Nat} {x : Int32} (hk : kd i = kc ∧ i < NN) (he : cellK kc G i (σ i) = .inl (G.2.1 0, n, .inl (σ i))) (hin : vp_in x n) (hdg : decode cc pc = .ok (.iaload, 1))
    (kk : W p l e R s m args below meth c H locs cells slots Q (F0 m (pc + 1) ls (.int (σ i x.toNatClampNeg) :: rest))) : W p l e R s m args below meth c H locs cells slots Q (F0 m pc ls (.int x :: .ref (G.2.2 i) :: rest)) :=
  va_iald S.1 S.2.1 F.1 B.1 i 0 (by rw [wd_get hk.2, hk.1, he]) rfl hin hdg kk
theorem r_cald (S : CallFix p m c cc nL s args Ts own) (F : Fx G s) (B : Bd G σ s H locs) {i kc n : Nat} {x : Int32} (hk : kd i = kc ∧ i < NN) (he : cellK kc G i (σ i) = .inl (G.2.1 1, n, .inl (σ i))) (hin : vp_in x n) (hdg : decode cc pc = .ok (.caload, 1))
    (kk : W p l e R s m args below meth c H locs cells slots Q (F0 m (pc + 1) ls (.int (σ i x.toNatClampNeg) :: rest))) : W p l e R s m args below meth c H locs cells slots Q (F0 m pc ls (.int x :: .ref (G.2.2 i) :: rest)) :=
  va_cald S.1 S.2.1 F.1 B.1 i 1 (by rw [wd_get hk.2, hk.1, he]) rfl hin hdg kk
theorem r_bald (S : CallFix p m c cc nL s args Ts own) (F : Fx G s) (B : Bd G σ s H locs) {i kc n : Nat} {x : Int32} (hk : kd i = kc ∧ i < NN) (he : cellK kc G i (σ i) = .inl (G.2.1 2, n, .inl (σ i))) (hin : vp_in x n) (hdg : decode cc pc = .ok (.baload, 1))
    (kk : W p l e R s m args below meth c H locs cells slots Q (F0 m (pc + 1) ls (.int (σ i x.toNatClampNeg) :: rest))) : W p l e R s m args below meth c H locs cells slots Q (F0 m pc ls (.int x :: .ref (G.2.2 i) :: rest)) :=
  va_bald S.1 S.2.1 F.1 B.1 i 2 (by rw [wd_get hk.2, hk.1, he]) rfl hin hdg kk
theorem r_iast (S : CallFix p m c cc nL s args Ts own) (F : Fx G s) (B : Bd G σ s H locs) {i kc n : Nat} {x y : Int32} (hk : kd i = kc ∧ i < NN) (he : ∀ f, cellK kc G i f = .inl (G.2.1 0, n, .inl f)) (hin : vp_in x n) (hdg : decode cc pc = .ok (.iastore, 1))
    (kk : ∀ (H1 : Heap) (locs1 : List Loc), Bd G (up σ i x.toNatClampNeg y) s H1 locs1 → W p l e R s m args below meth c H1 locs1 cells slots Q (F0 m (pc + 1) ls rest)) : W p l e R s m args below meth c H locs cells slots Q (F0 m pc ls (.int y :: .int x :: .ref (G.2.2 i) :: rest)) :=
  va_iast S.1 S.2.1 F.1 B.1 (wd_D F.2.1 _ σ) B.2 i 0 (by rw [wd_get hk.2, hk.1, he]) rfl hin hdg (fun H1 locs1 h1 _ h3 => kk H1 locs1 (B.set hk h1 h3 (he _).symm))
theorem r_cast (S : CallFix p m c cc nL s args Ts own) (F : Fx G s) (B : Bd G σ s H locs) {i kc n : Nat} {x y : Int32} (hk : kd i = kc ∧ i < NN) (he : ∀ f, cellK kc G i f = .inl (G.2.1 1, n, .inl f)) (hin : vp_in x n) (hdg : decode cc pc = .ok (.castore, 1))
    (kk : ∀ (H1 : Heap) (locs1 : List Loc), Bd G (up σ i x.toNatClampNeg (vp_nar .char y)) s H1 locs1 → W p l e R s m args below meth c H1 locs1 cells slots Q (F0 m (pc + 1) ls rest)) : W p l e R s m args below meth c H locs cells slots Q (F0 m pc ls (.int y :: .int x :: .ref (G.2.2 i) :: rest)) :=
  va_cast S.1 S.2.1 F.1 B.1 (wd_D F.2.1 _ σ) B.2 i 1 (by rw [wd_get hk.2, hk.1, he]) rfl hin hdg (fun H1 locs1 h1 _ h3 => kk H1 locs1 (B.set hk h1 h3 (he _).symm))
theorem r_bast (S : CallFix p m c cc nL s args Ts own) (F : Fx G s) (B : Bd G σ s H locs) {i kc n : Nat} {x y : Int32} (hk : kd i = kc ∧ i < NN) (he : ∀ f, cellK kc G i f = .inl (G.2.1 2, n, .inl f)) (hin : vp_in x n) (hdg : decode cc pc = .ok (.bastore, 1))
    (kk : ∀ (H1 : Heap) (locs1 : List Loc), Bd G (up σ i x.toNatClampNeg (vp_nar .byte y)) s H1 locs1 → W p l e R s m args below meth c H1 locs1 cells slots Q (F0 m (pc + 1) ls rest)) : W p l e R s m args below meth c H locs cells slots Q (F0 m pc ls (.int y :: .int x :: .ref (G.2.2 i) :: rest)) :=
  va_bast S.1 S.2.1 F.1 B.1 (wd_D F.2.1 _ σ) B.2 i 2 (by rw [wd_get hk.2, hk.1, he]) rfl hin hdg (fun H1 locs1 h1 _ h3 => kk H1 locs1 (B.set hk h1 h3 (he _).symm))
theorem r_aald (S : CallFix p m c cc nL s args Ts own) (F : Fx G s) (B : Bd G σ s H locs) {i kc t n : Nat} {C : String} {g : Nat → Nat} {x : Int32} (hk : kd i = kc ∧ i < NN) (he : cellK kc G i (σ i) = rArr G t n g) (ht : (tyl G)[t]? = some (G.2.1 t, .object C)) (hin : vp_in x n) (hdg : decode cc pc = .ok (.aaload, 1))
    (kk : W p l e R s m args below meth c H locs cells slots Q (F0 m (pc + 1) ls (.ref (G.2.2 (g x.toNatClampNeg)) :: rest))) : W p l e R s m args below meth c H locs cells slots Q (F0 m pc ls (.int x :: .ref (G.2.2 i) :: rest)) := by
  refine va_aldq S.1 S.2.1 F.1 B.1 i t (by rw [wd_get hk.2, hk.1, he]; rfl) ht hin hdg ?_
  rw [if_pos (vp_lt hin)]
  exact kk
theorem r_aaldA (S : CallFix p m c cc nL s args Ts own) (F : Fx G s) (B : Bd G σ s H locs) {i kc t n : Nat} {ty : FieldType} {g : Nat → Nat} {x : Int32} (hk : kd i = kc ∧ i < NN) (he : cellK kc G i (σ i) = rArr G t n g) (ht : (tyl G)[t]? = some (G.2.1 t, .array ty)) (hin : vp_in x n) (hdg : decode cc pc = .ok (.aaload, 1))
    (kk : W p l e R s m args below meth c H locs cells slots Q (F0 m (pc + 1) ls (.ref (G.2.2 (g x.toNatClampNeg)) :: rest))) : W p l e R s m args below meth c H locs cells slots Q (F0 m pc ls (.int x :: .ref (G.2.2 i) :: rest)) := by
  have ha : (wd G σ)[i]? = some (G.2.2 i, .inl (G.2.1 t, n, .inr (.inr (.inr (.inr (fun j => if j < n then some (G.2.2 (g j)) else none)))))) := by rw [wd_get hk.2, hk.1, he]; rfl
  have hlt := vp_lt hin
  refine W.aald (v := va_rf (some (G.2.2 (g x.toNatClampNeg)))) (ty := .array ty) S.1 S.2.1 (B.1 i _ ha) ((F.1.2 t _ ht).1 n (fun j => va_rf (if j < n then some (G.2.2 (g j)) else none))) rfl (fun q => by cases q) (by show ¬ (x < 0 ∨ (arrV _ _ _).slots.size ≤ _); rw [arrV_size]; exact hin) ?_ rfl rfl hdg kk
  show (arrV _ _ _).slots[_]? = _
  rw [arrV_read _ _ hlt]
  show some (va_rf (if x.toNatClampNeg < n then some (G.2.2 (g x.toNatClampNeg)) else none)) = _
  rw [if_pos hlt]
theorem r_alen (S : CallFix p m c cc nL s args Ts own) (F : Fx G s) (B : Bd G σ s H locs) {i kc t : Nat} {a : vp_A} {ty : FieldType} {v : Int32} (hk : kd i = kc ∧ i < NN) (he : cellK kc G i (σ i) = .inl (G.2.1 t, a)) (ht : (tyl G)[t]? = some (G.2.1 t, ty)) (hv : Int32.ofNat a.1 = v) (hdg : decode cc pc = .ok (.arraylength, 1))
    (kk : W p l e R s m args below meth c H locs cells slots Q (F0 m (pc + 1) ls (.int v :: rest))) : W p l e R s m args below meth c H locs cells slots Q (F0 m pc ls (.ref (G.2.2 i) :: rest)) :=
  va_alen S.1 S.2.1 F.1 B.1 i t (by rw [wd_get hk.2, hk.1, he]) ht hv hdg kk
theorem lv_nm {x y : Int32} (h : y = x) (k : W p l e R s m args below meth c H locs cells slots Q (F0 m pc ls (.int y :: rest))) : W p l e R s m args below meth c H locs cells slots Q (F0 m pc ls (.int x :: rest)) := h ▸ k
theorem r_ialdc (S : CallFix p m c cc nL s args Ts own) (F : Fx G s) (B : Bd G σ s H locs) {i kc n j : Nat} {x : Int32} (hk : kd i = kc ∧ i < NN) (he : cellK kc G i (σ i) = .inl (G.2.1 0, n, .inl (σ i))) (hin : vp_in x n) (hj : x.toNatClampNeg = j) (hdg : decode cc pc = .ok (.iaload, 1))
    (kk : W p l e R s m args below meth c H locs cells slots Q (F0 m (pc + 1) ls (.int (σ i j) :: rest))) : W p l e R s m args below meth c H locs cells slots Q (F0 m pc ls (.int x :: .ref (G.2.2 i) :: rest)) := by
  subst hj
  exact va_iald S.1 S.2.1 F.1 B.1 i 0 (by rw [wd_get hk.2, hk.1, he]) rfl hin hdg kk
theorem r_caldc (S : CallFix p m c cc nL s args Ts own) (F : Fx G s) (B : Bd G σ s H locs) {i kc n j : Nat} {x : Int32} (hk : kd i = kc ∧ i < NN) (he : cellK kc G i (σ i) = .inl (G.2.1 1, n, .inl (σ i))) (hin : vp_in x n) (hj : x.toNatClampNeg = j) (hdg : decode cc pc = .ok (.caload, 1))
    (kk : W p l e R s m args below meth c H locs cells slots Q (F0 m (pc + 1) ls (.int (σ i j) :: rest))) : W p l e R s m args below meth c H locs cells slots Q (F0 m pc ls (.int x :: .ref (G.2.2 i) :: rest)) := by
  subst hj
  exact va_cald S.1 S.2.1 F.1 B.1 i 1 (by rw [wd_get hk.2, hk.1, he]) rfl hin hdg kk
theorem r_baldc (S : CallFix p m c cc nL s args Ts own) (F : Fx G s) (B : Bd G σ s H locs) {i kc n j : Nat} {x : Int32} (hk : kd i = kc ∧ i < NN) (he : cellK kc G i (σ i) = .inl (G.2.1 2, n, .inl (σ i))) (hin : vp_in x n) (hj : x.toNatClampNeg = j) (hdg : decode cc pc = .ok (.baload, 1))
    (kk : W p l e R s m args below meth c H locs cells slots Q (F0 m (pc + 1) ls (.int (σ i j) :: rest))) : W p l e R s m args below meth c H locs cells slots Q (F0 m pc ls (.int x :: .ref (G.2.2 i) :: rest)) := by
  subst hj
  exact va_bald S.1 S.2.1 F.1 B.1 i 2 (by rw [wd_get hk.2, hk.1, he]) rfl hin hdg kk
theorem r_iastc (S : CallFix p m c cc nL s args Ts own) (F : Fx G s) (B : Bd G σ s H locs) {i kc n j : Nat} {x y : Int32} (hk : kd i = kc ∧ i < NN) (he : ∀ f, cellK kc G i f = .inl (G.2.1 0, n, .inl f)) (hin : vp_in x n) (hj : x.toNatClampNeg = j) (hdg : decode cc pc = .ok (.iastore, 1))
    (kk : ∀ (H1 : Heap) (locs1 : List Loc), Bd G (up σ i j y) s H1 locs1 → W p l e R s m args below meth c H1 locs1 cells slots Q (F0 m (pc + 1) ls rest)) : W p l e R s m args below meth c H locs cells slots Q (F0 m pc ls (.int y :: .int x :: .ref (G.2.2 i) :: rest)) := by
  subst hj
  exact va_iast S.1 S.2.1 F.1 B.1 (wd_D F.2.1 _ σ) B.2 i 0 (by rw [wd_get hk.2, hk.1, he]) rfl hin hdg (fun H1 locs1 h1 _ h3 => kk H1 locs1 (B.set hk h1 h3 (he _).symm))
theorem r_castc (S : CallFix p m c cc nL s args Ts own) (F : Fx G s) (B : Bd G σ s H locs) {i kc n j : Nat} {x y : Int32} (hk : kd i = kc ∧ i < NN) (he : ∀ f, cellK kc G i f = .inl (G.2.1 1, n, .inl f)) (hin : vp_in x n) (hj : x.toNatClampNeg = j) (hdg : decode cc pc = .ok (.castore, 1))
    (kk : ∀ (H1 : Heap) (locs1 : List Loc), Bd G (up σ i j (vp_nar .char y)) s H1 locs1 → W p l e R s m args below meth c H1 locs1 cells slots Q (F0 m (pc + 1) ls rest)) : W p l e R s m args below meth c H locs cells slots Q (F0 m pc ls (.int y :: .int x :: .ref (G.2.2 i) :: rest)) := by
  subst hj
  exact va_cast S.1 S.2.1 F.1 B.1 (wd_D F.2.1 _ σ) B.2 i 1 (by rw [wd_get hk.2, hk.1, he]) rfl hin hdg (fun H1 locs1 h1 _ h3 => kk H1 locs1 (B.set hk h1 h3 (he _).symm))
theorem r_bastc (S : CallFix p m c cc nL s args Ts own) (F : Fx G s) (B : Bd G σ s H locs) {i kc n j : Nat} {x y : Int32} (hk : kd i = kc ∧ i < NN) (he : ∀ f, cellK kc G i f = .inl (G.2.1 2, n, .inl f)) (hin : vp_in x n) (hj : x.toNatClampNeg = j) (hdg : decode cc pc = .ok (.bastore, 1))
    (kk : ∀ (H1 : Heap) (locs1 : List Loc), Bd G (up σ i j (vp_nar .byte y)) s H1 locs1 → W p l e R s m args below meth c H1 locs1 cells slots Q (F0 m (pc + 1) ls rest)) : W p l e R s m args below meth c H locs cells slots Q (F0 m pc ls (.int y :: .int x :: .ref (G.2.2 i) :: rest)) := by
  subst hj
  exact va_bast S.1 S.2.1 F.1 B.1 (wd_D F.2.1 _ σ) B.2 i 2 (by rw [wd_get hk.2, hk.1, he]) rfl hin hdg (fun H1 locs1 h1 _ h3 => kk H1 locs1 (B.set hk h1 h3 (he _).symm))
/-- statics: the two rows of cells -/
theorem W_getsN (S : CallFix p m c cc nL s args Ts own) {ref name desc host : String} (hlink : (Cond.fieldLinkNest own index ref name desc host).before args s = true)
    {cf i : Nat} {k : Class} {f : Field} (hi : s.fieldFound? ref name desc = some (cf, k, i, f)) (hst : f.isStatic = true) (hinit : k.init = .initialized)
    {a₁ : Addr} {cell₁ : Cell} {v : Value} (hstatics : k.statics = some a₁) (hcell : H[a₁]? = some cell₁) (hknown : cell₁.vm ≠ .unknown) (hslot : cell₁.slots[f.slot]? = some v)
    (hdg : decode cc pc = .ok (.getstatic index, 3)) (kk : W p l e R s m args below meth c H locs cells slots Q (F0 m (pc + 3) ls (v :: rest))) : W p l e R s m args below meth c H locs cells slots Q (F0 m pc ls rest) := by
  intro T hT X
  obtain ⟨vm', X', st⟩ := X.getstaticNest S.1 S.2.2.2.1 hlink hi hst hinit hstatics (by rw [hT]; exact hcell) hknown hslot (g := F0 m pc ls rest) rfl (by rw [S.2.1]; exact hdg)
  obtain ⟨t, a1, b1⟩ := kk (T.setVm vm') hT X'
  exact ⟨t, st t a1, b1⟩
theorem r_gets (S : CallFix p m c cc nL s args Ts own) (B : Bd G σ s H locs) {C n d : String} {v : Value} (hZ : va_Z C n d v (AA G s.heap.size) s s.heap) (hlink : Cond.fieldLink own index C n d ∈ Ts) (hdg : decode cc pc = .ok (.getstatic index, 3))
    (kk : W p l e R s m args below meth c H locs cells slots Q (F0 m (pc + 3) ls (v :: rest))) : W p l e R s m args below meth c H locs cells slots Q (F0 m pc ls rest) :=
  va_gets S.1 S.2.1 hZ B.2 S.2.2.2.1 (S.2.2.2.2 _ hlink) (fun _ h => h) hdg kk
theorem r_getsN (S : CallFix p m c cc nL s args Ts own) (F : Fx G s) (B : Bd G σ s H locs) {C n d : String} {v : Value} (hZ : va_Z C n d v (AA G s.heap.size) s s.heap) (hlink : (own, index, C, n, d) ∈ nwF) (hdg : decode cc pc = .ok (.getstatic index, 3))
    (kk : W p l e R s m args below meth c H locs cells slots Q (F0 m (pc + 3) ls (v :: rest))) : W p l e R s m args below meth c H locs cells slots Q (F0 m pc ls rest) := by
  obtain ⟨cf, kf, fi, f, a, cell, h1, h2, h3, h4, h5, h6, h7, h8⟩ := hZ
  exact W_getsN S (va_Nw.use rfl (F.nf _ hlink)) h1 h2 h3 h4 (by rw [B.2.2.1 a (Array.getElem?_eq_some_iff.mp h5).1 h8]; exact h5) (fun e => by rw [e] at h6; cases h6) h7 hdg kk
theorem r_ti (S : CallFix p m c cc nL s args Ts own) (B : Bd G σ s H locs) {t N : Nat} {f : Nat → Int32} {x : Int32} (hT : va_T .int t N (fun j => .int (f j)) (AA G s.heap.size) s s.heap) (hin : vp_in x N) (hdg : decode cc pc = .ok (.iaload, 1))
    (kk : W p l e R s m args below meth c H locs cells slots Q (F0 m (pc + 1) ls (.int (f x.toNatClampNeg) :: rest))) : W p l e R s m args below meth c H locs cells slots Q (F0 m pc ls (.int x :: .ref t :: rest)) :=
  va_ti S.1 S.2.1 hT B.2 hin rfl hdg kk
theorem r_tb (S : CallFix p m c cc nL s args Ts own) (B : Bd G σ s H locs) {t N : Nat} {f : Nat → Int32} {x : Int32} (hT : va_T .byte t N (fun j => .int (f j)) (AA G s.heap.size) s s.heap) (hin : vp_in x N) (hdg : decode cc pc = .ok (.baload, 1))
    (kk : W p l e R s m args below meth c H locs cells slots Q (F0 m (pc + 1) ls (.int (f x.toNatClampNeg) :: rest))) : W p l e R s m args below meth c H locs cells slots Q (F0 m pc ls (.int x :: .ref t :: rest)) :=
  va_tb S.1 S.2.1 hT B.2 hin rfl hdg kk
/-! calls that don't throw -/
variable {y : MethodName} {bytes : ByteArray} {maxL n i kc ci N : Nat} {ret : Option FieldType} {ws : List Cond} {rm : Room} {C : String} {T : u_T} {fs : List Value} {As st : List Value} {τ : Mm}
abbrev Qi (G : Gd) (sz : Nat) (v : Int32) (τ : Mm) : Array Value → State → Outcome → State → Prop := va_Qi (fun r (_ : Unit) => r = v) (fun _ t => HW G τ t.heap) (AA G sz)
abbrev Qv (G : Gd) (sz : Nat) (τ : Mm) : Array Value → State → Outcome → State → Prop := va_Qv (fun (_ : Unit) => True) (fun _ t => HW G τ t.heap) (AA G sz)
abbrev Qq (G : Gd) (sz : Nat) (v : Option Nat) (τ : Mm) : Array Value → State → Outcome → State → Prop := va_Qq (fun r (_ : Unit) => r = v.map G.2.2) (fun _ t => HW G τ t.heap) (AA G sz)
theorem r_recv (F : Fx G s) (B : Bd G σ s H locs) (hk : kd i = kc ∧ i < NN) (he : cellK kc G i (σ i) = .inr (ci, fs)) (hc : vwCl[ci]? = some (C, T, N)) : ∃ cell : Cell, H[G.2.2 i]? = some cell ∧ cell.vm.isStatics = false ∧ s.vm.findClass C = some cell.cls :=
  va_recv F.1 B.1 hc (by rw [wd_get hk.2, hk.1, he])
theorem k_iV (S : CallFix p m c cc nL s args Ts own) (F : Fx G s) (B : Bd G σ s H locs) {v : Int32} (hM : Met l y ws rm (va_Pc (.ref (G.2.2 i) :: As) (PW G σ H.size)) (Qi G H.size v τ) 0 0 (AA G H.size)) (hk : kd i = kc ∧ i < NN) (he : cellK kc G i (σ i) = .inr (ci, fs)) (hc : vwCl[ci]? = some (C, T, N))
    (cw : CallW R s args own C index y bytes maxL ret ws rm 0 0 n) (hn : As.length = n) (hsize : ls.size = nL) (hst : st = As.reverse ++ .ref (G.2.2 i) :: rest) (hroom : (rest.map fun v => v.category).sum ≤ 8) (hdg : decode cc pc = .ok (.invokevirtual index, 3)) (hf : cells ≤ R.cells ∧ slots ≤ R.slots)
    (kk : ∀ (H1 : Heap) (locs1 : List Loc), Bd G τ s H1 locs1 → W p l e R s m args below meth c H1 locs1 cells slots Q (F0 m (pc + 3) ls (.int v :: rest))) : W p l e R s m args below meth c H locs cells slots Q (F0 m pc ls st) := by
  refine va_calli (va_runV S hM cw ⟨PW.blind, r_recv F B hk he hc, fun U hU hW => ⟨rfl, PW.call F B U hU hW⟩⟩ rfl hn hsize hst (lv_room hroom) hdg hf) B.2 (fun q _ h => AA_free B q h) (AA_free B) (fun r u t H1 locs1 ht hvm hp hb h1 h2 hS => ?_)
  subst hp
  exact kk H1 locs1 ⟨by rw [← ht]; exact hb, hS⟩
theorem k_vV (S : CallFix p m c cc nL s args Ts own) (F : Fx G s) (B : Bd G σ s H locs) (hM : Met l y ws rm (va_Pc (.ref (G.2.2 i) :: As) (PW G σ H.size)) (Qv G H.size τ) 0 0 (AA G H.size)) (hk : kd i = kc ∧ i < NN) (he : cellK kc G i (σ i) = .inr (ci, fs)) (hc : vwCl[ci]? = some (C, T, N))
    (cw : CallW R s args own C index y bytes maxL ret ws rm 0 0 n) (hn : As.length = n) (hsize : ls.size = nL) (hst : st = As.reverse ++ .ref (G.2.2 i) :: rest) (hroom : (rest.map fun v => v.category).sum ≤ 8) (hdg : decode cc pc = .ok (.invokevirtual index, 3)) (hf : cells ≤ R.cells ∧ slots ≤ R.slots)
    (kk : ∀ (H1 : Heap) (locs1 : List Loc), Bd G τ s H1 locs1 → W p l e R s m args below meth c H1 locs1 cells slots Q (F0 m (pc + 3) ls rest)) : W p l e R s m args below meth c H locs cells slots Q (F0 m pc ls st) := by
  refine va_callv (va_runV S hM cw ⟨PW.blind, r_recv F B hk he hc, fun U hU hW => ⟨rfl, PW.call F B U hU hW⟩⟩ rfl hn hsize hst (lv_room hroom) hdg hf) B.2 (fun q _ h => AA_free B q h) (AA_free B) (fun u t H1 locs1 ht hvm hp hb h1 h2 hS => ?_)
  exact kk H1 locs1 ⟨by rw [← ht]; exact hb, hS⟩
theorem k_qV (S : CallFix p m c cc nL s args Ts own) (F : Fx G s) (B : Bd G σ s H locs) {v : Option Nat} (hM : Met l y ws rm (va_Pc (.ref (G.2.2 i) :: As) (PW G σ H.size)) (Qq G H.size v τ) 0 0 (AA G H.size)) (hk : kd i = kc ∧ i < NN) (he : cellK kc G i (σ i) = .inr (ci, fs)) (hc : vwCl[ci]? = some (C, T, N))
    (cw : CallW R s args own C index y bytes maxL ret ws rm 0 0 n) (hn : As.length = n) (hsize : ls.size = nL) (hst : st = As.reverse ++ .ref (G.2.2 i) :: rest) (hroom : (rest.map fun v => v.category).sum ≤ 8) (hdg : decode cc pc = .ok (.invokevirtual index, 3)) (hf : cells ≤ R.cells ∧ slots ≤ R.slots)
    (kk : ∀ (H1 : Heap) (locs1 : List Loc), Bd G τ s H1 locs1 → W p l e R s m args below meth c H1 locs1 cells slots Q (F0 m (pc + 3) ls (va_re G.2.2 v :: rest))) : W p l e R s m args below meth c H locs cells slots Q (F0 m pc ls st) := by
  refine va_callq (va_runV S hM cw ⟨PW.blind, r_recv F B hk he hc, fun U hU hW => ⟨rfl, PW.call F B U hU hW⟩⟩ rfl hn hsize hst (lv_room hroom) hdg hf) B.2 (fun q _ h => AA_free B q h) (AA_free B) (fun r u t H1 locs1 ht hvm hp hb h1 h2 hS => ?_)
  subst hp
  exact kk H1 locs1 ⟨by rw [← ht]; exact hb, hS⟩
theorem k_iS (S : CallFix p m c cc nL s args Ts own) (F : Fx G s) (B : Bd G σ s H locs) {v : Int32} (hM : Met l y ws rm (va_Pc As (PW G σ H.size)) (Qi G H.size v τ) 0 0 (AA G H.size))
    (cw : CallB R s args own index y bytes maxL ret ws rm 0 0 n ∧ (Cond.static y).before args s = true) (hn : As.length = n) (hsize : ls.size = nL) (hst : st = As.reverse ++ rest) (hroom : (rest.map fun v => v.category).sum ≤ 8) (hdg : decode cc pc = .ok (.invokestatic index, 3)) (hf : cells ≤ R.cells ∧ slots ≤ R.slots)
    (kk : ∀ (H1 : Heap) (locs1 : List Loc), Bd G τ s H1 locs1 → W p l e R s m args below meth c H1 locs1 cells slots Q (F0 m (pc + 3) ls (.int v :: rest))) : W p l e R s m args below meth c H locs cells slots Q (F0 m pc ls st) := by
  refine va_calli (va_runS S hM cw ⟨PW.blind, fun U hU hW => ⟨rfl, PW.call F B U hU hW⟩⟩ rfl hn hsize hst (lv_room hroom) hdg hf) B.2 (fun q _ h => AA_free B q h) (AA_free B) (fun r u t H1 locs1 ht hvm hp hb h1 h2 hS => ?_)
  subst hp
  exact kk H1 locs1 ⟨by rw [← ht]; exact hb, hS⟩
theorem k_vS (S : CallFix p m c cc nL s args Ts own) (F : Fx G s) (B : Bd G σ s H locs) (hM : Met l y ws rm (va_Pc As (PW G σ H.size)) (Qv G H.size τ) 0 0 (AA G H.size))
    (cw : CallB R s args own index y bytes maxL ret ws rm 0 0 n ∧ (Cond.static y).before args s = true) (hn : As.length = n) (hsize : ls.size = nL) (hst : st = As.reverse ++ rest) (hroom : (rest.map fun v => v.category).sum ≤ 8) (hdg : decode cc pc = .ok (.invokestatic index, 3)) (hf : cells ≤ R.cells ∧ slots ≤ R.slots)
    (kk : ∀ (H1 : Heap) (locs1 : List Loc), Bd G τ s H1 locs1 → W p l e R s m args below meth c H1 locs1 cells slots Q (F0 m (pc + 3) ls rest)) : W p l e R s m args below meth c H locs cells slots Q (F0 m pc ls st) := by
  refine va_callv (va_runS S hM cw ⟨PW.blind, fun U hU hW => ⟨rfl, PW.call F B U hU hW⟩⟩ rfl hn hsize hst (lv_room hroom) hdg hf) B.2 (fun q _ h => AA_free B q h) (AA_free B) (fun u t H1 locs1 ht hvm hp hb h1 h2 hS => ?_)
  exact kk H1 locs1 ⟨by rw [← ht]; exact hb, hS⟩
theorem k_qS (S : CallFix p m c cc nL s args Ts own) (F : Fx G s) (B : Bd G σ s H locs) {v : Option Nat} (hM : Met l y ws rm (va_Pc As (PW G σ H.size)) (Qq G H.size v τ) 0 0 (AA G H.size))
    (cw : CallB R s args own index y bytes maxL ret ws rm 0 0 n ∧ (Cond.static y).before args s = true) (hn : As.length = n) (hsize : ls.size = nL) (hst : st = As.reverse ++ rest) (hroom : (rest.map fun v => v.category).sum ≤ 8) (hdg : decode cc pc = .ok (.invokestatic index, 3)) (hf : cells ≤ R.cells ∧ slots ≤ R.slots)
    (kk : ∀ (H1 : Heap) (locs1 : List Loc), Bd G τ s H1 locs1 → W p l e R s m args below meth c H1 locs1 cells slots Q (F0 m (pc + 3) ls (va_re G.2.2 v :: rest))) : W p l e R s m args below meth c H locs cells slots Q (F0 m pc ls st) := by
  refine va_callq (va_runS S hM cw ⟨PW.blind, fun U hU hW => ⟨rfl, PW.call F B U hU hW⟩⟩ rfl hn hsize hst (lv_room hroom) hdg hf) B.2 (fun q _ h => AA_free B q h) (AA_free B) (fun r u t H1 locs1 ht hvm hp hb h1 h2 hS => ?_)
  subst hp
  exact kk H1 locs1 ⟨by rw [← ht]; exact hb, hS⟩
/-! ends -/
theorem e_i (B : Bd G τ s H locs) (hx : p.tables.exec = Jvm.exec) (hb : c.code = cc) {ty : FieldType} (hr : meth.sig.returnType = some ty) (hlocks : meth.locks = false) {v w : Int32} (hn : narrow ty (.int w) = .int w) (hv : w = v) (hdg : decode cc pc = .ok (.ireturn, 1)) : W p l e R s m args below meth c H locs cells slots (MQ below (Qi G s.heap.size v τ) args s cells slots (AA G s.heap.size)) (F0 m pc ls [.int w]) :=
  W.zret hx hb hr hn (fun t ht _ => ⟨⟨w, (), rfl, hv, by show HW G τ t.heap; rw [ht]; exact B.1⟩, B.2.F ht⟩) B.2.2.2 hdg hlocks
theorem e_v (B : Bd G τ s H locs) (hx : p.tables.exec = Jvm.exec) (hb : c.code = cc) (hr : meth.sig.returnType = none) (hlocks : meth.locks = false) (hdg : decode cc pc = .ok (.return_, 1)) : W p l e R s m args below meth c H locs cells slots (MQ below (Qv G s.heap.size τ) args s cells slots (AA G s.heap.size)) (F0 m pc ls []) :=
  W.vret hx hb hr (fun t ht _ => ⟨⟨(), rfl, trivial, by show HW G τ t.heap; rw [ht]; exact B.1⟩, B.2.F ht⟩) B.2.2.2 hdg hlocks
theorem e_q (B : Bd G τ s H locs) (hx : p.tables.exec = Jvm.exec) (hb : c.code = cc) {rt : FieldType} (hr : meth.sig.returnType = some rt) (hrt : (∃ n, rt = .object n) ∨ ∃ t, rt = .array t) (hlocks : meth.locks = false) {v w : Option Nat} (hv : w = v) (hdg : decode cc pc = .ok (.areturn, 1)) : W p l e R s m args below meth c H locs cells slots (MQ below (Qq G s.heap.size v τ) args s cells slots (AA G s.heap.size)) (F0 m pc ls [va_re G.2.2 w]) :=
  W.aret hx hb hr hrt (by cases w; exact Or.inl rfl; exact Or.inr ⟨_, rfl⟩) (fun t ht _ => ⟨⟨w.map G.2.2, (), rfl, by rw [hv], by show HW G τ t.heap; rw [ht]; exact B.1⟩, B.2.F ht⟩) B.2.2.2 hdg hlocks
end RW
