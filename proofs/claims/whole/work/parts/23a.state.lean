set_option maxHeartbeats 4000000 in
set_option maxRecDepth 100000 in
theorem c_X6_findGardener (l : Launch) (G : Gd) (σ : Mm) (sz : Nat) (a0 : Int32) {out : Option Nat} (ho : f_X6_findGardener a0 σ = some out) : Met l yX6_findGardener wsX6_findGardener { frames := 0, cells := 0, slots := 0, locals := 0 } (va_Pc [.ref (G.2.2 0), .int a0] (PW G σ sz)) (Qq G sz out σ) 0 0 (AA G sz) := by
  refine Met.ofW (cc := cX6_findGardener) (maxL := 2) (ret := (some (.object "MazeBonds$Gardener"))) (by decide) rfl ?_
  intro p e s m args below meth c s₁ B0 hml hv
  obtain ⟨rfl, hpw⟩ := hv
  have hsz := hpw.1
  subst hsz
  obtain ⟨F, B⟩ := hpw.to
  have hx := B0.exec
  have hb := B0.bytes
  have hr := B0.returns
  have hts := atoms_spec (ws := wsX6_findGardener) B0.pre
  have hown : s.vm.findClass RX6 = some m.cls := findClass_of_methodNamed B0.named
  have hlocks := B0.notSynchronized
  have S : CallFix p m c cX6_findGardener 2 s _ wsX6_findGardener RX6 := ⟨hx, hb, hml, hown, hts⟩
  have hiX6 : ∀ w ∈ u_ws RX6 TX6 9, w ∈ wsX6_findGardener := by decide +kernel
  have hl := lv_entry [.ref (G.2.2 0), .int a0] (n := 2) (Nat.le_of_ble_eq_true rfl)
  rw [lg_entry_eq]
  generalize (lg_sl [.ref (G.2.2 0), .int a0] ++ List.replicate (2 - (lg_sl [.ref (G.2.2 0), .int a0]).length) Slot.unset).toArray = ls at hl ⊢
  have hl : lv_has ls 2 [(0, .ref (G.2.2 0)), (1, .int a0)] := hl
  unfold f_X6_findGardener at ho
  refine lv_iload_n hx hb dX6_findGardener_0 rfl (lv_at hl 1 rfl) ?_
  refine lv_if_lt (tgt := 21) hx hb dX6_findGardener_1 (by decide) (fun c1 => ?_) (fun c1 => ?_)
  · have ho := ip_ c1 ho
    refine lv_null hx hb dX6_findGardener_21 ?_
    cases ho
    exact e_q (w := none) B hx hb hr (Or.inl ⟨_, rfl⟩) hlocks rfl dX6_findGardener_22
  · have ho := in_ c1 ho
    refine lv_iload_n hx hb dX6_findGardener_4 rfl (lv_at hl 1 rfl) ?_
    refine lv_aload_n hx hb dX6_findGardener_5 rfl (lv_at hl 0 rfl) ?_
    refine r_get (ci := 10) (C := RX6) (T := TX6) (N := 9) S F B (kq (by decide) : kd 0 = 0 ∧ 0 < NN) rfl rfl hiX6 3 (by decide) (by decide +kernel) rfl dX6_findGardener_6 ?_
    refine lv_icmp_ge (tgt := 21) hx hb dX6_findGardener_9 (by decide) (fun c2 => ?_) (fun c2 => ?_)
    · have ho := ip_ c2 ho
      refine lv_null hx hb dX6_findGardener_21 ?_
      cases ho
      exact e_q (w := none) B hx hb hr (Or.inl ⟨_, rfl⟩) hlocks rfl dX6_findGardener_22
    · have ho := in_ c2 ho
      refine lv_aload_n hx hb dX6_findGardener_12 rfl (lv_at hl 0 rfl) ?_
      refine r_get (ci := 10) (C := RX6) (T := TX6) (N := 9) S F B (kq (by decide) : kd 0 = 0 ∧ 0 < NN) rfl rfl hiX6 1 (by decide) (by decide +kernel) rfl dX6_findGardener_13 ?_
      refine lv_iload_n hx hb dX6_findGardener_16 rfl (lv_at hl 1 rfl) ?_
      obtain ⟨i3, ho⟩ := gd_ ho
      refine r_aald (t := 3) S F B (kq (by decide) : kd 3 = 3 ∧ 3 < NN) rfl rfl i3 dX6_findGardener_17 ?_
      refine lv_goto (tgt := 22) hx hb dX6_findGardener_18 (by decide) ?_
      cases ho
      exact e_q (w := (some (3 + 1 + a0.toNatClampNeg))) B hx hb hr (Or.inl ⟨_, rfl⟩) hlocks rfl dX6_findGardener_22

set_option maxHeartbeats 4000000 in
set_option maxRecDepth 100000 in
theorem c_X6_findVisitor (l : Launch) (G : Gd) (σ : Mm) (sz : Nat) (a0 : Int32) {out : Option Nat} (ho : f_X6_findVisitor a0 σ = some out) : Met l yX6_findVisitor wsX6_findVisitor { frames := 0, cells := 0, slots := 0, locals := 0 } (va_Pc [.ref (G.2.2 0), .int a0] (PW G σ sz)) (Qq G sz out σ) 0 0 (AA G sz) := by
  refine Met.ofW (cc := cX6_findVisitor) (maxL := 2) (ret := (some (.object "MazeBonds$Visitor"))) (by decide) rfl ?_
  intro p e s m args below meth c s₁ B0 hml hv
  obtain ⟨rfl, hpw⟩ := hv
  have hsz := hpw.1
  subst hsz
  obtain ⟨F, B⟩ := hpw.to
  have hx := B0.exec
  have hb := B0.bytes
  have hr := B0.returns
  have hts := atoms_spec (ws := wsX6_findVisitor) B0.pre
  have hown : s.vm.findClass RX6 = some m.cls := findClass_of_methodNamed B0.named
  have hlocks := B0.notSynchronized
  have S : CallFix p m c cX6_findVisitor 2 s _ wsX6_findVisitor RX6 := ⟨hx, hb, hml, hown, hts⟩
  have hiX6 : ∀ w ∈ u_ws RX6 TX6 9, w ∈ wsX6_findVisitor := by decide +kernel
  have hl := lv_entry [.ref (G.2.2 0), .int a0] (n := 2) (Nat.le_of_ble_eq_true rfl)
  rw [lg_entry_eq]
  generalize (lg_sl [.ref (G.2.2 0), .int a0] ++ List.replicate (2 - (lg_sl [.ref (G.2.2 0), .int a0]).length) Slot.unset).toArray = ls at hl ⊢
  have hl : lv_has ls 2 [(0, .ref (G.2.2 0)), (1, .int a0)] := hl
  unfold f_X6_findVisitor at ho
  refine lv_iload_n hx hb dX6_findVisitor_0 rfl (lv_at hl 1 rfl) ?_
  refine lv_if_lt (tgt := 21) hx hb dX6_findVisitor_1 (by decide) (fun c1 => ?_) (fun c1 => ?_)
  · have ho := ip_ c1 ho
    refine lv_null hx hb dX6_findVisitor_21 ?_
    cases ho
    exact e_q (w := none) B hx hb hr (Or.inl ⟨_, rfl⟩) hlocks rfl dX6_findVisitor_22
  · have ho := in_ c1 ho
    refine lv_iload_n hx hb dX6_findVisitor_4 rfl (lv_at hl 1 rfl) ?_
    refine lv_aload_n hx hb dX6_findVisitor_5 rfl (lv_at hl 0 rfl) ?_
    refine r_get (ci := 10) (C := RX6) (T := TX6) (N := 9) S F B (kq (by decide) : kd 0 = 0 ∧ 0 < NN) rfl rfl hiX6 4 (by decide) (by decide +kernel) rfl dX6_findVisitor_6 ?_
    refine lv_icmp_ge (tgt := 21) hx hb dX6_findVisitor_9 (by decide) (fun c2 => ?_) (fun c2 => ?_)
    · have ho := ip_ c2 ho
      refine lv_null hx hb dX6_findVisitor_21 ?_
      cases ho
      exact e_q (w := none) B hx hb hr (Or.inl ⟨_, rfl⟩) hlocks rfl dX6_findVisitor_22
    · have ho := in_ c2 ho
      refine lv_aload_n hx hb dX6_findVisitor_12 rfl (lv_at hl 0 rfl) ?_
      refine r_get (ci := 10) (C := RX6) (T := TX6) (N := 9) S F B (kq (by decide) : kd 0 = 0 ∧ 0 < NN) rfl rfl hiX6 2 (by decide) (by decide +kernel) rfl dX6_findVisitor_13 ?_
      refine lv_iload_n hx hb dX6_findVisitor_16 rfl (lv_at hl 1 rfl) ?_
      obtain ⟨i3, ho⟩ := gd_ ho
      refine r_aald (t := 4) S F B (kq (by decide) : kd 8 = 5 ∧ 8 < NN) rfl rfl i3 dX6_findVisitor_17 ?_
      refine lv_goto (tgt := 22) hx hb dX6_findVisitor_18 (by decide) ?_
      cases ho
      exact e_q (w := (some (8 + 1 + a0.toNatClampNeg))) B hx hb hr (Or.inl ⟨_, rfl⟩) hlocks rfl dX6_findVisitor_22

set_option maxHeartbeats 4000000 in
set_option maxRecDepth 100000 in
theorem c_X6_bondsOf (l : Launch) (G : Gd) (σ : Mm) (sz : Nat) (a0 : Int32) {out : Int32} (ho : f_X6_bondsOf a0 σ = some out) : Met l yX6_bondsOf wsX6_bondsOf { frames := 0, cells := 0, slots := 0, locals := 0 } (va_Pc [.ref (G.2.2 0), .int a0] (PW G σ sz)) (Qi G sz out σ) 0 0 (AA G sz) := by
  refine Met.ofW (cc := cX6_bondsOf) (maxL := 4) (ret := (some .int)) (by decide) rfl ?_
  intro p e s m args below meth c s₁ B0 hml hv
  obtain ⟨rfl, hpw⟩ := hv
  have hsz := hpw.1
  subst hsz
  obtain ⟨F, B⟩ := hpw.to
  have hx := B0.exec
  have hb := B0.bytes
  have hr := B0.returns
  have hts := atoms_spec (ws := wsX6_bondsOf) B0.pre
  have hown : s.vm.findClass RX6 = some m.cls := findClass_of_methodNamed B0.named
  have hlocks := B0.notSynchronized
  have S : CallFix p m c cX6_bondsOf 4 s _ wsX6_bondsOf RX6 := ⟨hx, hb, hml, hown, hts⟩
  have hiX6 : ∀ w ∈ u_ws RX6 TX6 9, w ∈ wsX6_bondsOf := by decide +kernel
  have hiX7 : ∀ w ∈ u_ws RX7 TX7 8, w ∈ wsX6_bondsOf := by decide +kernel
  have hl := lv_entry [.ref (G.2.2 0), .int a0] (n := 4) (Nat.le_of_ble_eq_true rfl)
  rw [lg_entry_eq]
  generalize (lg_sl [.ref (G.2.2 0), .int a0] ++ List.replicate (4 - (lg_sl [.ref (G.2.2 0), .int a0]).length) Slot.unset).toArray = ls at hl ⊢
  have hl : lv_has ls 4 [(0, .ref (G.2.2 0)), (1, .int a0)] := hl
  unfold f_X6_bondsOf at ho
  skip
  refine lv_iconst (v := 0) hx hb dX6_bondsOf_0 (by decide) ?_
  refine lv_istore_n (lv' := [(2, .int 0), (0, .ref (G.2.2 0)), (1, .int a0)]) hx hb dX6_bondsOf_1 rfl hl (by decide) rfl (fun ls hl => ?_)
  refine lv_iconst (v := 0) hx hb dX6_bondsOf_2 (by decide) ?_
  refine lv_istore_n (lv' := [(3, .int 0), (2, .int 0), (0, .ref (G.2.2 0)), (1, .int a0)]) hx hb dX6_bondsOf_3 rfl hl (by decide) rfl (fun ls hl => ?_)
  have hloop4 : ∀ (n : Nat) (v4 : Int32) (v5 : Int32) (H : Heap) (locs : List Loc) (ls : Array Slot), f_X6_bondsOf_l4  a0 σ n v4 v5 = some out → Bd G σ s H locs → lv_has ls 4 [(3, .int v4), (2, .int v5), (0, .ref (G.2.2 0)), (1, .int a0)] → W p l e (headSpec wsX6_bondsOf { frames := 0, cells := 0, slots := 0, locals := 0 }).room s m #[.ref (G.2.2 0), .int a0] below meth c H locs 0 0 (MQ below (Qi G s.heap.size out σ) #[.ref (G.2.2 0), .int a0] s 0 0 (AA G s.heap.size)) (F0 m 4 ls []) := by
    intro n
    induction n with
    | zero => intro v4 v5 H locs ls ho B hl; cases ho
    | succ n ih =>
      intro v4 v5 H locs ls ho B hl
      refine lv_iload_n hx hb dX6_bondsOf_4 rfl (lv_at hl 0 rfl) ?_
      refine lv_aload_n hx hb dX6_bondsOf_5 rfl (lv_at hl 2 rfl) ?_
      refine r_get (ci := 10) (C := RX6) (T := TX6) (N := 9) S F B (kq (by decide) : kd 0 = 0 ∧ 0 < NN) rfl rfl hiX6 4 (by decide) (by decide +kernel) rfl dX6_bondsOf_6 ?_
      refine lv_icmp_ge (tgt := 34) hx hb dX6_bondsOf_9 (by decide) (fun c6 => ?_) (fun c6 => ?_)
      · have ho := ip_ c6 ho
        refine lv_iload_n hx hb dX6_bondsOf_34 rfl (lv_at hl 1 rfl) ?_
        cases ho
        exact e_i B hx hb hr hlocks rfl rfl dX6_bondsOf_35
      · have ho := in_ c6 ho
        refine lv_aload_n hx hb dX6_bondsOf_12 rfl (lv_at hl 2 rfl) ?_
        refine r_get (ci := 10) (C := RX6) (T := TX6) (N := 9) S F B (kq (by decide) : kd 0 = 0 ∧ 0 < NN) rfl rfl hiX6 2 (by decide) (by decide +kernel) rfl dX6_bondsOf_13 ?_
        refine lv_iload_n hx hb dX6_bondsOf_16 rfl (lv_at hl 0 rfl) ?_
        obtain ⟨i7, ho⟩ := gd_ ho
        refine r_aald (t := 4) S F B (kq (by decide) : kd 8 = 5 ∧ 8 < NN) rfl rfl i7 dX6_bondsOf_17 ?_
        refine r_getN (ci := 11) (C := RX7) (T := TX7) (N := 8) S F B (kgV i7 : kd (8 + 1 + v4.toNatClampNeg) = 6 ∧ (8 + 1 + v4.toNatClampNeg) < NN) rfl rfl hiX7 4 (by decide) (by decide) rfl dX6_bondsOf_18 ?_
        refine lv_iload_n hx hb dX6_bondsOf_21 rfl (lv_at hl 3 rfl) ?_
        refine lv_icmp_ne (tgt := 28) hx hb dX6_bondsOf_22 (by decide) (fun c8 => ?_) (fun c8 => ?_)
        · have ho := in_ c8 ho
          obtain ⟨x9, ex9, ho⟩ := lt_ ho
          refine lv_iinc (v := x9) (lv' := [(3, .int x9), (2, .int v5), (0, .ref (G.2.2 0)), (1, .int a0)]) hx hb dX6_bondsOf_28 hl (k := 0) rfl (by rw [ex9]; rfl) (by decide) rfl (fun ls hl => ?_)
          refine lv_goto (tgt := 4) hx hb dX6_bondsOf_31 (by decide) ?_
          exact ih _ _  _ _ _ ho B (lv_sub hl [0, 1, 2, 3] rfl)
        · have ho := ip_ c8 ho
          obtain ⟨x10, ex10, ho⟩ := lt_ ho
          refine lv_iinc (v := x10) (lv' := [(2, .int x10), (3, .int v4), (0, .ref (G.2.2 0)), (1, .int a0)]) hx hb dX6_bondsOf_25 hl (k := 1) rfl (by rw [ex10]; rfl) (by decide) rfl (fun ls hl => ?_)
          obtain ⟨x11, ex11, ho⟩ := lt_ ho
          refine lv_iinc (v := x11) (lv' := [(3, .int x11), (2, .int x10), (0, .ref (G.2.2 0)), (1, .int a0)]) hx hb dX6_bondsOf_28 hl (k := 1) rfl (by rw [ex11]; rfl) (by decide) rfl (fun ls hl => ?_)
          refine lv_goto (tgt := 4) hx hb dX6_bondsOf_31 (by decide) ?_
          exact ih _ _  _ _ _ ho B (lv_sub hl [0, 1, 2, 3] rfl)
  exact hloop4 8 _ _  _ _ _ ho B hl

set_option maxHeartbeats 4000000 in
set_option maxRecDepth 100000 in
theorem c_X6_bonds (l : Launch) (G : Gd) (σ : Mm) (sz : Nat) {out : Int32} (ho : f_X6_bonds σ = some out) : Met l yX6_bonds wsX6_bonds { frames := 1, cells := 0, slots := 0, locals := 23 } (va_Pc [.ref (G.2.2 0)] (PW G σ sz)) (Qi G sz out σ) 0 0 (AA G sz) := by
  refine Met.ofW (cc := cX6_bonds) (maxL := 1) (ret := (some .int)) (by decide) rfl ?_
  intro p e s m args below meth c s₁ B0 hml hv
  obtain ⟨rfl, hpw⟩ := hv
  have hsz := hpw.1
  subst hsz
  obtain ⟨F, B⟩ := hpw.to
  have hx := B0.exec
  have hb := B0.bytes
  have hr := B0.returns
  have hts := atoms_spec (ws := wsX6_bonds) B0.pre
  have hown : s.vm.findClass RX6 = some m.cls := findClass_of_methodNamed B0.named
  have hlocks := B0.notSynchronized
  have S : CallFix p m c cX6_bonds 1 s _ wsX6_bonds RX6 := ⟨hx, hb, hml, hown, hts⟩
  have hiX6 : ∀ w ∈ u_ws RX6 TX6 9, w ∈ wsX6_bonds := by decide +kernel
  have hl := lv_entry [.ref (G.2.2 0)] (n := 1) (Nat.le_of_ble_eq_true rfl)
  rw [lg_entry_eq]
  generalize (lg_sl [.ref (G.2.2 0)] ++ List.replicate (1 - (lg_sl [.ref (G.2.2 0)]).length) Slot.unset).toArray = ls at hl ⊢
  have hl : lv_has ls 1 [(0, .ref (G.2.2 0))] := hl
  unfold f_X6_bonds at ho
  refine lv_aload_n hx hb dX6_bonds_0 rfl (lv_at hl 0 rfl) ?_
  refine r_get (ci := 10) (C := RX6) (T := TX6) (N := 9) S F B (kq (by decide) : kd 0 = 0 ∧ 0 < NN) rfl rfl hiX6 4 (by decide) (by decide +kernel) rfl dX6_bonds_1 ?_
  refine lv_aload_n hx hb dX6_bonds_4 rfl (lv_at hl 0 rfl) ?_
  refine lv_iconst (v := (-1)) hx hb dX6_bonds_5 (by decide) ?_
  obtain ⟨q1, hq1, ho⟩ := bnd_ ho
  refine k_iV (As := [.int (-1)]) (rest := [.int (σ 0 4)]) S F B (c_X6_bondsOf l G σ _ (-1) hq1) (kq (by decide) : kd 0 = 0 ∧ 0 < NN) rfl rfl (cwV 1 hts gX6_bonds_X6_bondsOf rfl rfl rfl (by decide +kernel) ⟨Nat.le_of_ble_eq_true rfl, Nat.le_of_ble_eq_true rfl⟩) rfl hl.1 rfl (Nat.le_of_ble_eq_true rfl) dX6_bonds_6 ⟨Nat.le_of_ble_eq_true rfl, Nat.le_of_ble_eq_true rfl⟩ (fun H locs B => ?_)
  refine lv_isub hx hb dX6_bonds_9 ?_
  cases ho
  exact e_i B hx hb hr hlocks rfl rfl dX6_bonds_10

set_option maxHeartbeats 4000000 in
set_option maxRecDepth 100000 in
theorem c_X6_debtOf (l : Launch) (G : Gd) (σ : Mm) (sz : Nat) (a0 : Int32) {out : Int32} (ho : f_X6_debtOf a0 σ = some out) : Met l yX6_debtOf wsX6_debtOf { frames := 3, cells := 0, slots := 0, locals := 74 } (va_Pc [.ref (G.2.2 0), .int a0] (PW G σ sz)) (Qi G sz out σ) 0 0 (AA G sz) := by
  refine Met.ofW (cc := cX6_debtOf) (maxL := 4) (ret := (some .int)) (by decide) rfl ?_
  intro p e s m args below meth c s₁ B0 hml hv
  obtain ⟨rfl, hpw⟩ := hv
  have hsz := hpw.1
  subst hsz
  obtain ⟨F, B⟩ := hpw.to
  have hx := B0.exec
  have hb := B0.bytes
  have hr := B0.returns
  have hts := atoms_spec (ws := wsX6_debtOf) B0.pre
  have hown : s.vm.findClass RX6 = some m.cls := findClass_of_methodNamed B0.named
  have hlocks := B0.notSynchronized
  have S : CallFix p m c cX6_debtOf 4 s _ wsX6_debtOf RX6 := ⟨hx, hb, hml, hown, hts⟩
  have hiX6 : ∀ w ∈ u_ws RX6 TX6 9, w ∈ wsX6_debtOf := by decide +kernel
  have hiX7 : ∀ w ∈ u_ws RX7 TX7 8, w ∈ wsX6_debtOf := by decide +kernel
  have hl := lv_entry [.ref (G.2.2 0), .int a0] (n := 4) (Nat.le_of_ble_eq_true rfl)
  rw [lg_entry_eq]
  generalize (lg_sl [.ref (G.2.2 0), .int a0] ++ List.replicate (4 - (lg_sl [.ref (G.2.2 0), .int a0]).length) Slot.unset).toArray = ls at hl ⊢
  have hl : lv_has ls 4 [(0, .ref (G.2.2 0)), (1, .int a0)] := hl
  unfold f_X6_debtOf at ho
  skip
  refine lv_iconst (v := 0) hx hb dX6_debtOf_0 (by decide) ?_
  refine lv_istore_n (lv' := [(2, .int 0), (0, .ref (G.2.2 0)), (1, .int a0)]) hx hb dX6_debtOf_1 rfl hl (by decide) rfl (fun ls hl => ?_)
  refine lv_iconst (v := 0) hx hb dX6_debtOf_2 (by decide) ?_
  refine lv_istore_n (lv' := [(3, .int 0), (2, .int 0), (0, .ref (G.2.2 0)), (1, .int a0)]) hx hb dX6_debtOf_3 rfl hl (by decide) rfl (fun ls hl => ?_)
  have hloop4 : ∀ (n : Nat) (v4 : Int32) (v5 : Int32) (H : Heap) (locs : List Loc) (ls : Array Slot), f_X6_debtOf_l4  a0 σ n v4 v5 = some out → Bd G σ s H locs → lv_has ls 4 [(3, .int v4), (2, .int v5), (0, .ref (G.2.2 0)), (1, .int a0)] → W p l e (headSpec wsX6_debtOf { frames := 3, cells := 0, slots := 0, locals := 74 }).room s m #[.ref (G.2.2 0), .int a0] below meth c H locs 0 0 (MQ below (Qi G s.heap.size out σ) #[.ref (G.2.2 0), .int a0] s 0 0 (AA G s.heap.size)) (F0 m 4 ls []) := by
    intro n
    induction n with
    | zero => intro v4 v5 H locs ls ho B hl; cases ho
    | succ n ih =>
      intro v4 v5 H locs ls ho B hl
      refine lv_iload_n hx hb dX6_debtOf_4 rfl (lv_at hl 0 rfl) ?_
      refine lv_aload_n hx hb dX6_debtOf_5 rfl (lv_at hl 2 rfl) ?_
      refine r_get (ci := 10) (C := RX6) (T := TX6) (N := 9) S F B (kq (by decide) : kd 0 = 0 ∧ 0 < NN) rfl rfl hiX6 4 (by decide) (by decide +kernel) rfl dX6_debtOf_6 ?_
      refine lv_icmp_ge (tgt := 44) hx hb dX6_debtOf_9 (by decide) (fun c6 => ?_) (fun c6 => ?_)
      · have ho := ip_ c6 ho
        refine lv_iload_n hx hb dX6_debtOf_44 rfl (lv_at hl 1 rfl) ?_
        cases ho
        exact e_i B hx hb hr hlocks rfl rfl dX6_debtOf_45
      · have ho := in_ c6 ho
        refine lv_aload_n hx hb dX6_debtOf_12 rfl (lv_at hl 2 rfl) ?_
        refine r_get (ci := 10) (C := RX6) (T := TX6) (N := 9) S F B (kq (by decide) : kd 0 = 0 ∧ 0 < NN) rfl rfl hiX6 2 (by decide) (by decide +kernel) rfl dX6_debtOf_13 ?_
        refine lv_iload_n hx hb dX6_debtOf_16 rfl (lv_at hl 0 rfl) ?_
        obtain ⟨i7, ho⟩ := gd_ ho
        refine r_aald (t := 4) S F B (kq (by decide) : kd 8 = 5 ∧ 8 < NN) rfl rfl i7 dX6_debtOf_17 ?_
        refine r_getN (ci := 11) (C := RX7) (T := TX7) (N := 8) S F B (kgV i7 : kd (8 + 1 + v4.toNatClampNeg) = 6 ∧ (8 + 1 + v4.toNatClampNeg) < NN) rfl rfl hiX7 4 (by decide) (by decide) rfl dX6_debtOf_18 ?_
        refine lv_iload_n hx hb dX6_debtOf_21 rfl (lv_at hl 3 rfl) ?_
        refine lv_icmp_ne (tgt := 38) hx hb dX6_debtOf_22 (by decide) (fun c8 => ?_) (fun c8 => ?_)
        · have ho := in_ c8 ho
          obtain ⟨x9, ex9, ho⟩ := lt_ ho
          refine lv_iinc (v := x9) (lv' := [(3, .int x9), (2, .int v5), (0, .ref (G.2.2 0)), (1, .int a0)]) hx hb dX6_debtOf_38 hl (k := 0) rfl (by rw [ex9]; rfl) (by decide) rfl (fun ls hl => ?_)
          refine lv_goto (tgt := 4) hx hb dX6_debtOf_41 (by decide) ?_
          exact ih _ _  _ _ _ ho B (lv_sub hl [0, 1, 2, 3] rfl)
        · have ho := ip_ c8 ho
          refine lv_iload_n hx hb dX6_debtOf_25 rfl (lv_at hl 1 rfl) ?_
          refine lv_aload_n hx hb dX6_debtOf_26 rfl (lv_at hl 2 rfl) ?_
          refine r_get (ci := 10) (C := RX6) (T := TX6) (N := 9) S F B (kq (by decide) : kd 0 = 0 ∧ 0 < NN) rfl rfl hiX6 2 (by decide) (by decide +kernel) rfl dX6_debtOf_27 ?_
          refine lv_iload_n hx hb dX6_debtOf_30 rfl (lv_at hl 0 rfl) ?_
          obtain ⟨i10, ho⟩ := gd_ ho
          refine r_aald (t := 4) S F B (kq (by decide) : kd 8 = 5 ∧ 8 < NN) rfl rfl i10 dX6_debtOf_31 ?_
          refine lv_iconst (v := 0) hx hb dX6_debtOf_32 (by decide) ?_
          obtain ⟨q11, hq11, ho⟩ := bnd_ ho
          refine k_iV (As := [.int 0]) (rest := [.int v5]) S F B (c_X7_dueAfter l G σ _ (8 + 1 + v4.toNatClampNeg) 0 (kgV i10 : kd (8 + 1 + v4.toNatClampNeg) = 6 ∧ (8 + 1 + v4.toNatClampNeg) < NN) hq11) (kgV i10 : kd (8 + 1 + v4.toNatClampNeg) = 6 ∧ (8 + 1 + v4.toNatClampNeg) < NN) rfl rfl (cwV 1 hts gX6_debtOf_X7_dueAfter rfl rfl rfl (by decide +kernel) ⟨Nat.le_of_ble_eq_true rfl, Nat.le_of_ble_eq_true rfl⟩) rfl hl.1 rfl (Nat.le_of_ble_eq_true rfl) dX6_debtOf_33 ⟨Nat.le_of_ble_eq_true rfl, Nat.le_of_ble_eq_true rfl⟩ (fun H locs B => ?_)
          refine lv_iadd hx hb dX6_debtOf_36 ?_
          obtain ⟨x12, ex12, ho⟩ := lt_ ho
          refine lv_nm ex12 ?_
          refine lv_istore_n (lv' := [(2, .int x12), (3, .int v4), (0, .ref (G.2.2 0)), (1, .int a0)]) hx hb dX6_debtOf_37 rfl hl (by decide) rfl (fun ls hl => ?_)
          obtain ⟨x13, ex13, ho⟩ := lt_ ho
          refine lv_iinc (v := x13) (lv' := [(3, .int x13), (2, .int x12), (0, .ref (G.2.2 0)), (1, .int a0)]) hx hb dX6_debtOf_38 hl (k := 1) rfl (by rw [ex13]; rfl) (by decide) rfl (fun ls hl => ?_)
          refine lv_goto (tgt := 4) hx hb dX6_debtOf_41 (by decide) ?_
          exact ih _ _  _ _ _ ho B (lv_sub hl [0, 1, 2, 3] rfl)
  exact hloop4 8 _ _  _ _ _ ho B hl

set_option maxHeartbeats 4000000 in
set_option maxRecDepth 100000 in
theorem c_X6_visitorsIn (l : Launch) (G : Gd) (σ : Mm) (sz : Nat) (a0 : Int32) {out : Int32} (ho : f_X6_visitorsIn a0 σ = some out) : Met l yX6_visitorsIn wsX6_visitorsIn { frames := 1, cells := 0, slots := 0, locals := 21 } (va_Pc [.ref (G.2.2 0), .int a0] (PW G σ sz)) (Qi G sz out σ) 0 0 (AA G sz) := by
  refine Met.ofW (cc := cX6_visitorsIn) (maxL := 4) (ret := (some .int)) (by decide) rfl ?_
  intro p e s m args below meth c s₁ B0 hml hv
  obtain ⟨rfl, hpw⟩ := hv
  have hsz := hpw.1
  subst hsz
  obtain ⟨F, B⟩ := hpw.to
  have hx := B0.exec
  have hb := B0.bytes
  have hr := B0.returns
  have hts := atoms_spec (ws := wsX6_visitorsIn) B0.pre
  have hown : s.vm.findClass RX6 = some m.cls := findClass_of_methodNamed B0.named
  have hlocks := B0.notSynchronized
  have S : CallFix p m c cX6_visitorsIn 4 s _ wsX6_visitorsIn RX6 := ⟨hx, hb, hml, hown, hts⟩
  have hiX6 : ∀ w ∈ u_ws RX6 TX6 9, w ∈ wsX6_visitorsIn := by decide +kernel
  have hl := lv_entry [.ref (G.2.2 0), .int a0] (n := 4) (Nat.le_of_ble_eq_true rfl)
  rw [lg_entry_eq]
  generalize (lg_sl [.ref (G.2.2 0), .int a0] ++ List.replicate (4 - (lg_sl [.ref (G.2.2 0), .int a0]).length) Slot.unset).toArray = ls at hl ⊢
  have hl : lv_has ls 4 [(0, .ref (G.2.2 0)), (1, .int a0)] := hl
  unfold f_X6_visitorsIn at ho
  skip
  refine lv_iconst (v := 0) hx hb dX6_visitorsIn_0 (by decide) ?_
  refine lv_istore_n (lv' := [(2, .int 0), (0, .ref (G.2.2 0)), (1, .int a0)]) hx hb dX6_visitorsIn_1 rfl hl (by decide) rfl (fun ls hl => ?_)
  refine lv_iconst (v := 0) hx hb dX6_visitorsIn_2 (by decide) ?_
  refine lv_istore_n (lv' := [(3, .int 0), (2, .int 0), (0, .ref (G.2.2 0)), (1, .int a0)]) hx hb dX6_visitorsIn_3 rfl hl (by decide) rfl (fun ls hl => ?_)
  have hloop4 : ∀ (n : Nat) (v4 : Int32) (v5 : Int32) (H : Heap) (locs : List Loc) (ls : Array Slot), f_X6_visitorsIn_l4  a0 σ n v4 v5 = some out → Bd G σ s H locs → lv_has ls 4 [(3, .int v4), (2, .int v5), (0, .ref (G.2.2 0)), (1, .int a0)] → W p l e (headSpec wsX6_visitorsIn { frames := 1, cells := 0, slots := 0, locals := 21 }).room s m #[.ref (G.2.2 0), .int a0] below meth c H locs 0 0 (MQ below (Qi G s.heap.size out σ) #[.ref (G.2.2 0), .int a0] s 0 0 (AA G s.heap.size)) (F0 m 4 ls []) := by
    intro n
    induction n with
    | zero => intro v4 v5 H locs ls ho B hl; cases ho
    | succ n ih =>
      intro v4 v5 H locs ls ho B hl
      refine lv_iload_n hx hb dX6_visitorsIn_4 rfl (lv_at hl 0 rfl) ?_
      refine lv_aload_n hx hb dX6_visitorsIn_5 rfl (lv_at hl 2 rfl) ?_
      refine r_get (ci := 10) (C := RX6) (T := TX6) (N := 9) S F B (kq (by decide) : kd 0 = 0 ∧ 0 < NN) rfl rfl hiX6 4 (by decide) (by decide +kernel) rfl dX6_visitorsIn_6 ?_
      refine lv_icmp_ge (tgt := 34) hx hb dX6_visitorsIn_9 (by decide) (fun c6 => ?_) (fun c6 => ?_)
      · have ho := ip_ c6 ho
        refine lv_iload_n hx hb dX6_visitorsIn_34 rfl (lv_at hl 1 rfl) ?_
        cases ho
        exact e_i B hx hb hr hlocks rfl rfl dX6_visitorsIn_35
      · have ho := in_ c6 ho
        refine lv_aload_n hx hb dX6_visitorsIn_12 rfl (lv_at hl 2 rfl) ?_
        refine r_get (ci := 10) (C := RX6) (T := TX6) (N := 9) S F B (kq (by decide) : kd 0 = 0 ∧ 0 < NN) rfl rfl hiX6 2 (by decide) (by decide +kernel) rfl dX6_visitorsIn_13 ?_
        refine lv_iload_n hx hb dX6_visitorsIn_16 rfl (lv_at hl 0 rfl) ?_
        obtain ⟨i7, ho⟩ := gd_ ho
        refine r_aald (t := 4) S F B (kq (by decide) : kd 8 = 5 ∧ 8 < NN) rfl rfl i7 dX6_visitorsIn_17 ?_
        refine lv_iload_n hx hb dX6_visitorsIn_18 rfl (lv_at hl 3 rfl) ?_
        obtain ⟨q8, hq8, ho⟩ := bnd_ ho
        refine k_iV (As := [.int a0]) (rest := []) S F B (c_X7_isIn l G σ _ (8 + 1 + v4.toNatClampNeg) a0 (kgV i7 : kd (8 + 1 + v4.toNatClampNeg) = 6 ∧ (8 + 1 + v4.toNatClampNeg) < NN) hq8) (kgV i7 : kd (8 + 1 + v4.toNatClampNeg) = 6 ∧ (8 + 1 + v4.toNatClampNeg) < NN) rfl rfl (cwV 1 hts gX6_visitorsIn_X7_isIn rfl rfl rfl (by decide +kernel) ⟨Nat.le_of_ble_eq_true rfl, Nat.le_of_ble_eq_true rfl⟩) rfl hl.1 rfl (Nat.le_of_ble_eq_true rfl) dX6_visitorsIn_19 ⟨Nat.le_of_ble_eq_true rfl, Nat.le_of_ble_eq_true rfl⟩ (fun H locs B => ?_)
        refine lv_if_eq (tgt := 28) hx hb dX6_visitorsIn_22 (by decide) (fun c9 => ?_) (fun c9 => ?_)
        · have ho := ip_ c9 ho
          obtain ⟨x10, ex10, ho⟩ := lt_ ho
          refine lv_iinc (v := x10) (lv' := [(3, .int x10), (2, .int v5), (0, .ref (G.2.2 0)), (1, .int a0)]) hx hb dX6_visitorsIn_28 hl (k := 0) rfl (by rw [ex10]; rfl) (by decide) rfl (fun ls hl => ?_)
          refine lv_goto (tgt := 4) hx hb dX6_visitorsIn_31 (by decide) ?_
          exact ih _ _  _ _ _ ho B (lv_sub hl [0, 1, 2, 3] rfl)
        · have ho := in_ c9 ho
          obtain ⟨x11, ex11, ho⟩ := lt_ ho
          refine lv_iinc (v := x11) (lv' := [(2, .int x11), (3, .int v4), (0, .ref (G.2.2 0)), (1, .int a0)]) hx hb dX6_visitorsIn_25 hl (k := 1) rfl (by rw [ex11]; rfl) (by decide) rfl (fun ls hl => ?_)
          obtain ⟨x12, ex12, ho⟩ := lt_ ho
          refine lv_iinc (v := x12) (lv' := [(3, .int x12), (2, .int x11), (0, .ref (G.2.2 0)), (1, .int a0)]) hx hb dX6_visitorsIn_28 hl (k := 1) rfl (by rw [ex12]; rfl) (by decide) rfl (fun ls hl => ?_)
          refine lv_goto (tgt := 4) hx hb dX6_visitorsIn_31 (by decide) ?_
          exact ih _ _  _ _ _ ho B (lv_sub hl [0, 1, 2, 3] rfl)
  exact hloop4 8 _ _  _ _ _ ho B hl

set_option maxHeartbeats 4000000 in
set_option maxRecDepth 100000 in
theorem c_X6_totalOf (l : Launch) (G : Gd) (σ : Mm) (sz : Nat) (a0 : Int32) {out : Int32} (ho : f_X6_totalOf a0 σ = some out) : Met l yX6_totalOf wsX6_totalOf { frames := 3, cells := 0, slots := 0, locals := 74 } (va_Pc [.ref (G.2.2 0), .int a0] (PW G σ sz)) (Qi G sz out σ) 0 0 (AA G sz) := by
  refine Met.ofW (cc := cX6_totalOf) (maxL := 4) (ret := (some .int)) (by decide) rfl ?_
  intro p e s m args below meth c s₁ B0 hml hv
  obtain ⟨rfl, hpw⟩ := hv
  have hsz := hpw.1
  subst hsz
  obtain ⟨F, B⟩ := hpw.to
  have hx := B0.exec
  have hb := B0.bytes
  have hr := B0.returns
  have hts := atoms_spec (ws := wsX6_totalOf) B0.pre
  have hown : s.vm.findClass RX6 = some m.cls := findClass_of_methodNamed B0.named
  have hlocks := B0.notSynchronized
  have S : CallFix p m c cX6_totalOf 4 s _ wsX6_totalOf RX6 := ⟨hx, hb, hml, hown, hts⟩
  have hiX6 : ∀ w ∈ u_ws RX6 TX6 9, w ∈ wsX6_totalOf := by decide +kernel
  have hl := lv_entry [.ref (G.2.2 0), .int a0] (n := 4) (Nat.le_of_ble_eq_true rfl)
  rw [lg_entry_eq]
  generalize (lg_sl [.ref (G.2.2 0), .int a0] ++ List.replicate (4 - (lg_sl [.ref (G.2.2 0), .int a0]).length) Slot.unset).toArray = ls at hl ⊢
  have hl : lv_has ls 4 [(0, .ref (G.2.2 0)), (1, .int a0)] := hl
  unfold f_X6_totalOf at ho
  skip
  refine lv_iconst (v := 0) hx hb dX6_totalOf_0 (by decide) ?_
  refine lv_istore_n (lv' := [(2, .int 0), (0, .ref (G.2.2 0)), (1, .int a0)]) hx hb dX6_totalOf_1 rfl hl (by decide) rfl (fun ls hl => ?_)
  refine lv_iconst (v := 0) hx hb dX6_totalOf_2 (by decide) ?_
  refine lv_istore_n (lv' := [(3, .int 0), (2, .int 0), (0, .ref (G.2.2 0)), (1, .int a0)]) hx hb dX6_totalOf_3 rfl hl (by decide) rfl (fun ls hl => ?_)
  have hloop4 : ∀ (n : Nat) (v4 : Int32) (v5 : Int32) (H : Heap) (locs : List Loc) (ls : Array Slot), f_X6_totalOf_l4  a0 σ n v4 v5 = some out → Bd G σ s H locs → lv_has ls 4 [(3, .int v4), (2, .int v5), (0, .ref (G.2.2 0)), (1, .int a0)] → W p l e (headSpec wsX6_totalOf { frames := 3, cells := 0, slots := 0, locals := 74 }).room s m #[.ref (G.2.2 0), .int a0] below meth c H locs 0 0 (MQ below (Qi G s.heap.size out σ) #[.ref (G.2.2 0), .int a0] s 0 0 (AA G s.heap.size)) (F0 m 4 ls []) := by
    intro n
    induction n with
    | zero => intro v4 v5 H locs ls ho B hl; cases ho
    | succ n ih =>
      intro v4 v5 H locs ls ho B hl
      refine lv_iload_n hx hb dX6_totalOf_4 rfl (lv_at hl 0 rfl) ?_
      refine lv_aload_n hx hb dX6_totalOf_5 rfl (lv_at hl 2 rfl) ?_
      refine r_get (ci := 10) (C := RX6) (T := TX6) (N := 9) S F B (kq (by decide) : kd 0 = 0 ∧ 0 < NN) rfl rfl hiX6 4 (by decide) (by decide +kernel) rfl dX6_totalOf_6 ?_
      refine lv_icmp_ge (tgt := 31) hx hb dX6_totalOf_9 (by decide) (fun c6 => ?_) (fun c6 => ?_)
      · have ho := ip_ c6 ho
        refine lv_iload_n hx hb dX6_totalOf_31 rfl (lv_at hl 1 rfl) ?_
        cases ho
        exact e_i B hx hb hr hlocks rfl rfl dX6_totalOf_32
      · have ho := in_ c6 ho
        refine lv_iload_n hx hb dX6_totalOf_12 rfl (lv_at hl 1 rfl) ?_
        refine lv_aload_n hx hb dX6_totalOf_13 rfl (lv_at hl 2 rfl) ?_
        refine r_get (ci := 10) (C := RX6) (T := TX6) (N := 9) S F B (kq (by decide) : kd 0 = 0 ∧ 0 < NN) rfl rfl hiX6 2 (by decide) (by decide +kernel) rfl dX6_totalOf_14 ?_
        refine lv_iload_n hx hb dX6_totalOf_17 rfl (lv_at hl 0 rfl) ?_
        obtain ⟨i7, ho⟩ := gd_ ho
        refine r_aald (t := 4) S F B (kq (by decide) : kd 8 = 5 ∧ 8 < NN) rfl rfl i7 dX6_totalOf_18 ?_
        refine lv_iload_n hx hb dX6_totalOf_19 rfl (lv_at hl 3 rfl) ?_
        obtain ⟨q8, hq8, ho⟩ := bnd_ ho
        refine k_iV (As := [.int a0]) (rest := [.int v5]) S F B (c_X7_numberFor l G σ _ (8 + 1 + v4.toNatClampNeg) a0 (kgV i7 : kd (8 + 1 + v4.toNatClampNeg) = 6 ∧ (8 + 1 + v4.toNatClampNeg) < NN) hq8) (kgV i7 : kd (8 + 1 + v4.toNatClampNeg) = 6 ∧ (8 + 1 + v4.toNatClampNeg) < NN) rfl rfl (cwV 1 hts gX6_totalOf_X7_numberFor rfl rfl rfl (by decide +kernel) ⟨Nat.le_of_ble_eq_true rfl, Nat.le_of_ble_eq_true rfl⟩) rfl hl.1 rfl (Nat.le_of_ble_eq_true rfl) dX6_totalOf_20 ⟨Nat.le_of_ble_eq_true rfl, Nat.le_of_ble_eq_true rfl⟩ (fun H locs B => ?_)
        refine lv_iadd hx hb dX6_totalOf_23 ?_
        obtain ⟨x9, ex9, ho⟩ := lt_ ho
        refine lv_nm ex9 ?_
        refine lv_istore_n (lv' := [(2, .int x9), (3, .int v4), (0, .ref (G.2.2 0)), (1, .int a0)]) hx hb dX6_totalOf_24 rfl hl (by decide) rfl (fun ls hl => ?_)
        obtain ⟨x10, ex10, ho⟩ := lt_ ho
        refine lv_iinc (v := x10) (lv' := [(3, .int x10), (2, .int x9), (0, .ref (G.2.2 0)), (1, .int a0)]) hx hb dX6_totalOf_25 hl (k := 1) rfl (by rw [ex10]; rfl) (by decide) rfl (fun ls hl => ?_)
        refine lv_goto (tgt := 4) hx hb dX6_totalOf_28 (by decide) ?_
        exact ih _ _  _ _ _ ho B (lv_sub hl [0, 1, 2, 3] rfl)
  exact hloop4 8 _ _  _ _ _ ho B hl

set_option maxHeartbeats 4000000 in
set_option maxRecDepth 100000 in
theorem c_X6_coinsOfAll (l : Launch) (G : Gd) (σ : Mm) (sz : Nat) {out : Int32} (ho : f_X6_coinsOfAll σ = some out) : Met l yX6_coinsOfAll wsX6_coinsOfAll { frames := 4, cells := 0, slots := 0, locals := 97 } (va_Pc [.ref (G.2.2 0)] (PW G σ sz)) (Qi G sz out σ) 0 0 (AA G sz) := by
  refine Met.ofW (cc := cX6_coinsOfAll) (maxL := 3) (ret := (some .int)) (by decide) rfl ?_
  intro p e s m args below meth c s₁ B0 hml hv
  obtain ⟨rfl, hpw⟩ := hv
  have hsz := hpw.1
  subst hsz
  obtain ⟨F, B⟩ := hpw.to
  have hx := B0.exec
  have hb := B0.bytes
  have hr := B0.returns
  have hts := atoms_spec (ws := wsX6_coinsOfAll) B0.pre
  have hown : s.vm.findClass RX6 = some m.cls := findClass_of_methodNamed B0.named
  have hlocks := B0.notSynchronized
  have S : CallFix p m c cX6_coinsOfAll 3 s _ wsX6_coinsOfAll RX6 := ⟨hx, hb, hml, hown, hts⟩
  have hiX1 : ∀ w ∈ u_ws RX1 TX1 4, w ∈ wsX6_coinsOfAll := by decide +kernel
  have hiX6 : ∀ w ∈ u_ws RX6 TX6 9, w ∈ wsX6_coinsOfAll := by decide +kernel
  have hl := lv_entry [.ref (G.2.2 0)] (n := 3) (Nat.le_of_ble_eq_true rfl)
  rw [lg_entry_eq]
  generalize (lg_sl [.ref (G.2.2 0)] ++ List.replicate (3 - (lg_sl [.ref (G.2.2 0)]).length) Slot.unset).toArray = ls at hl ⊢
  have hl : lv_has ls 3 [(0, .ref (G.2.2 0))] := hl
  unfold f_X6_coinsOfAll at ho
  skip
  refine lv_aload_n hx hb dX6_coinsOfAll_0 rfl (lv_at hl 0 rfl) ?_
  refine lv_iconst (v := 0) hx hb dX6_coinsOfAll_1 (by decide) ?_
  obtain ⟨q1, hq1, ho⟩ := bnd_ ho
  refine k_iV (As := [.int 0]) (rest := []) S F B (c_X6_totalOf l G σ _ 0 hq1) (kq (by decide) : kd 0 = 0 ∧ 0 < NN) rfl rfl (cwV 1 hts gX6_coinsOfAll_X6_totalOf rfl rfl rfl (by decide +kernel) ⟨Nat.le_of_ble_eq_true rfl, Nat.le_of_ble_eq_true rfl⟩) rfl hl.1 rfl (Nat.le_of_ble_eq_true rfl) dX6_coinsOfAll_2 ⟨Nat.le_of_ble_eq_true rfl, Nat.le_of_ble_eq_true rfl⟩ (fun H locs B => ?_)
  refine lv_istore_n (lv' := [(1, .int q1), (0, .ref (G.2.2 0))]) hx hb dX6_coinsOfAll_5 rfl hl (by decide) rfl (fun ls hl => ?_)
  refine lv_iconst (v := 0) hx hb dX6_coinsOfAll_6 (by decide) ?_
  refine lv_istore_n (lv' := [(2, .int 0), (1, .int q1), (0, .ref (G.2.2 0))]) hx hb dX6_coinsOfAll_7 rfl hl (by decide) rfl (fun ls hl => ?_)
  have hloop8 : ∀ (n : Nat) (v5 : Int32) (v6 : Int32) (H : Heap) (locs : List Loc) (ls : Array Slot), f_X6_coinsOfAll_l8  σ n v5 v6 = some out → Bd G σ s H locs → lv_has ls 3 [(2, .int v5), (1, .int v6), (0, .ref (G.2.2 0))] → W p l e (headSpec wsX6_coinsOfAll { frames := 4, cells := 0, slots := 0, locals := 97 }).room s m #[.ref (G.2.2 0)] below meth c H locs 0 0 (MQ below (Qi G s.heap.size out σ) #[.ref (G.2.2 0)] s 0 0 (AA G s.heap.size)) (F0 m 8 ls []) := by
    intro n
    induction n with
    | zero => intro v5 v6 H locs ls ho B hl; cases ho
    | succ n ih =>
      intro v5 v6 H locs ls ho B hl
      refine lv_iload_n hx hb dX6_coinsOfAll_8 rfl (lv_at hl 0 rfl) ?_
      refine lv_aload_n hx hb dX6_coinsOfAll_9 rfl (lv_at hl 2 rfl) ?_
      refine r_get (ci := 10) (C := RX6) (T := TX6) (N := 9) S F B (kq (by decide) : kd 0 = 0 ∧ 0 < NN) rfl rfl hiX6 3 (by decide) (by decide +kernel) rfl dX6_coinsOfAll_10 ?_
      refine lv_icmp_ge (tgt := 34) hx hb dX6_coinsOfAll_13 (by decide) (fun c7 => ?_) (fun c7 => ?_)
      · have ho := ip_ c7 ho
        refine lv_iload_n hx hb dX6_coinsOfAll_34 rfl (lv_at hl 1 rfl) ?_
        cases ho
        exact e_i B hx hb hr hlocks rfl rfl dX6_coinsOfAll_35
      · have ho := in_ c7 ho
        refine lv_iload_n hx hb dX6_coinsOfAll_16 rfl (lv_at hl 1 rfl) ?_
        refine lv_aload_n hx hb dX6_coinsOfAll_17 rfl (lv_at hl 2 rfl) ?_
        refine r_get (ci := 10) (C := RX6) (T := TX6) (N := 9) S F B (kq (by decide) : kd 0 = 0 ∧ 0 < NN) rfl rfl hiX6 1 (by decide) (by decide +kernel) rfl dX6_coinsOfAll_18 ?_
        refine lv_iload_n hx hb dX6_coinsOfAll_21 rfl (lv_at hl 0 rfl) ?_
        obtain ⟨i8, ho⟩ := gd_ ho
        refine r_aald (t := 3) S F B (kq (by decide) : kd 3 = 3 ∧ 3 < NN) rfl rfl i8 dX6_coinsOfAll_22 ?_
        refine r_getN (ci := 5) (C := RX1) (T := TX1) (N := 4) S F B (kgG i8 : kd (3 + 1 + v5.toNatClampNeg) = 4 ∧ (3 + 1 + v5.toNatClampNeg) < NN) rfl rfl hiX1 0 (by decide) (by decide) rfl dX6_coinsOfAll_23 ?_
        refine lv_iadd hx hb dX6_coinsOfAll_26 ?_
        obtain ⟨x9, ex9, ho⟩ := lt_ ho
        refine lv_nm ex9 ?_
        refine lv_istore_n (lv' := [(1, .int x9), (2, .int v5), (0, .ref (G.2.2 0))]) hx hb dX6_coinsOfAll_27 rfl hl (by decide) rfl (fun ls hl => ?_)
        obtain ⟨x10, ex10, ho⟩ := lt_ ho
        refine lv_iinc (v := x10) (lv' := [(2, .int x10), (1, .int x9), (0, .ref (G.2.2 0))]) hx hb dX6_coinsOfAll_28 hl (k := 1) rfl (by rw [ex10]; rfl) (by decide) rfl (fun ls hl => ?_)
        refine lv_goto (tgt := 8) hx hb dX6_coinsOfAll_31 (by decide) ?_
        exact ih _ _  _ _ _ ho B (lv_sub hl [0, 1, 2] rfl)
  exact hloop8 8 _ _  _ _ _ ho B hl

set_option maxHeartbeats 4000000 in
set_option maxRecDepth 100000 in
theorem c_X6_visitorsAhead (l : Launch) (G : Gd) (σ : Mm) (sz : Nat) (a0 : Int32) (a1 : Int32) {out : Int32} (ho : f_X6_visitorsAhead a0 a1 σ = some out) : Met l yX6_visitorsAhead wsX6_visitorsAhead { frames := 3, cells := 0, slots := 0, locals := 74 } (va_Pc [.ref (G.2.2 0), .int a0, .int a1] (PW G σ sz)) (Qi G sz out σ) 0 0 (AA G sz) := by
  refine Met.ofW (cc := cX6_visitorsAhead) (maxL := 7) (ret := (some .int)) (by decide) rfl ?_
  intro p e s m args below meth c s₁ B0 hml hv
  obtain ⟨rfl, hpw⟩ := hv
  have hsz := hpw.1
  subst hsz
  obtain ⟨F, B⟩ := hpw.to
  have hx := B0.exec
  have hb := B0.bytes
  have hr := B0.returns
  have hts := atoms_spec (ws := wsX6_visitorsAhead) B0.pre
  have hown : s.vm.findClass RX6 = some m.cls := findClass_of_methodNamed B0.named
  have hlocks := B0.notSynchronized
  have S : CallFix p m c cX6_visitorsAhead 7 s _ wsX6_visitorsAhead RX6 := ⟨hx, hb, hml, hown, hts⟩
  have hiX6 : ∀ w ∈ u_ws RX6 TX6 9, w ∈ wsX6_visitorsAhead := by decide +kernel
  have hl := lv_entry [.ref (G.2.2 0), .int a0, .int a1] (n := 7) (Nat.le_of_ble_eq_true rfl)
  rw [lg_entry_eq]
  generalize (lg_sl [.ref (G.2.2 0), .int a0, .int a1] ++ List.replicate (7 - (lg_sl [.ref (G.2.2 0), .int a0, .int a1]).length) Slot.unset).toArray = ls at hl ⊢
  have hl : lv_has ls 7 [(0, .ref (G.2.2 0)), (1, .int a0), (2, .int a1)] := hl
  unfold f_X6_visitorsAhead at ho
  skip
  refine lv_aload_n hx hb dX6_visitorsAhead_0 rfl (lv_at hl 0 rfl) ?_
  refine lv_iload_n hx hb dX6_visitorsAhead_1 rfl (lv_at hl 1 rfl) ?_
  obtain ⟨q1, hq1, ho⟩ := bnd_ ho
  refine k_qV (As := [.int a0]) (rest := []) S F B (c_X6_findVisitor l G σ _ a0 hq1) (kq (by decide) : kd 0 = 0 ∧ 0 < NN) rfl rfl (cwV 1 hts gX6_visitorsAhead_X6_findVisitor rfl rfl rfl (by decide +kernel) ⟨Nat.le_of_ble_eq_true rfl, Nat.le_of_ble_eq_true rfl⟩) rfl hl.1 rfl (Nat.le_of_ble_eq_true rfl) dX6_visitorsAhead_2 ⟨Nat.le_of_ble_eq_true rfl, Nat.le_of_ble_eq_true rfl⟩ (fun H locs B => ?_)
  cases q1 with
  | none =>
    have ho := oc_n ho
    refine lv_astore_nN (lv' := [(3, .null), (0, .ref (G.2.2 0)), (1, .int a0), (2, .int a1)]) hx hb dX6_visitorsAhead_5 rfl hl (by decide) rfl (fun ls hl => ?_)
    refine lv_iconst (v := 0) hx hb dX6_visitorsAhead_6 (by decide) ?_
    refine lv_istore (lv' := [(4, .int 0), (3, .null), (0, .ref (G.2.2 0)), (1, .int a0), (2, .int a1)]) hx hb dX6_visitorsAhead_7 hl (by decide) rfl (fun ls hl => ?_)
    refine lv_iconst (v := 0) hx hb dX6_visitorsAhead_9 (by decide) ?_
    refine lv_istore (lv' := [(5, .int 0), (4, .int 0), (3, .null), (0, .ref (G.2.2 0)), (1, .int a0), (2, .int a1)]) hx hb dX6_visitorsAhead_10 hl (by decide) rfl (fun ls hl => ?_)
    have hloop12 : ∀ (n : Nat) (v6 : Int32) (v7 : Int32) (H : Heap) (locs : List Loc) (ls : Array Slot), f_X6_visitorsAhead_l12  a0 a1 σ n v6 v7 = some out → Bd G σ s H locs → lv_has ls 7 [(5, .int v6), (4, .int v7), (3, .null), (0, .ref (G.2.2 0)), (1, .int a0), (2, .int a1)] → W p l e (headSpec wsX6_visitorsAhead { frames := 3, cells := 0, slots := 0, locals := 74 }).room s m #[.ref (G.2.2 0), .int a0, .int a1] below meth c H locs 0 0 (MQ below (Qi G s.heap.size out σ) #[.ref (G.2.2 0), .int a0, .int a1] s 0 0 (AA G s.heap.size)) (F0 m 12 ls []) := by
      intro n
      induction n with
      | zero => intro v6 v7 H locs ls ho B hl; cases ho
      | succ n ih =>
        intro v6 v7 H locs ls ho B hl
        refine lv_aload_nN hx hb dX6_visitorsAhead_12 rfl (lv_at hl 2 rfl) ?_
        refine lv_ifnullN (tgt := 69) hx hb dX6_visitorsAhead_13 (by decide) ?_
        refine lv_iload hx hb dX6_visitorsAhead_69 (lv_at hl 1 rfl) ?_
        cases ho
        exact e_i B hx hb hr hlocks rfl rfl dX6_visitorsAhead_71
    exact hloop12 8 _ _  _ _ _ ho B hl
  | some j2 =>
    have ho := oc_s ho
    have hj2 : kd j2 = 6 ∧ j2 < NN := kf_vis hq1
    refine lv_astore_n (lv' := [(3, .ref (G.2.2 j2)), (0, .ref (G.2.2 0)), (1, .int a0), (2, .int a1)]) hx hb dX6_visitorsAhead_5 rfl hl (by decide) rfl (fun ls hl => ?_)
    refine lv_iconst (v := 0) hx hb dX6_visitorsAhead_6 (by decide) ?_
    refine lv_istore (lv' := [(4, .int 0), (3, .ref (G.2.2 j2)), (0, .ref (G.2.2 0)), (1, .int a0), (2, .int a1)]) hx hb dX6_visitorsAhead_7 hl (by decide) rfl (fun ls hl => ?_)
    refine lv_iconst (v := 0) hx hb dX6_visitorsAhead_9 (by decide) ?_
    refine lv_istore (lv' := [(5, .int 0), (4, .int 0), (3, .ref (G.2.2 j2)), (0, .ref (G.2.2 0)), (1, .int a0), (2, .int a1)]) hx hb dX6_visitorsAhead_10 hl (by decide) rfl (fun ls hl => ?_)
    have hloop12 : ∀ (n : Nat) (v11 : Int32) (v12 : Int32) (H : Heap) (locs : List Loc) (ls : Array Slot), f_X6_visitorsAhead_l12b  j2 a0 a1 σ n v11 v12 = some out → Bd G σ s H locs → lv_has ls 7 [(5, .int v11), (4, .int v12), (3, .ref (G.2.2 j2)), (0, .ref (G.2.2 0)), (1, .int a0), (2, .int a1)] → W p l e (headSpec wsX6_visitorsAhead { frames := 3, cells := 0, slots := 0, locals := 74 }).room s m #[.ref (G.2.2 0), .int a0, .int a1] below meth c H locs 0 0 (MQ below (Qi G s.heap.size out σ) #[.ref (G.2.2 0), .int a0, .int a1] s 0 0 (AA G s.heap.size)) (F0 m 12 ls []) := by
      intro n
      induction n with
      | zero => intro v11 v12 H locs ls ho B hl; cases ho
      | succ n ih =>
        intro v11 v12 H locs ls ho B hl
        refine lv_aload_n hx hb dX6_visitorsAhead_12 rfl (lv_at hl 2 rfl) ?_
        refine lv_ifnull hx hb dX6_visitorsAhead_13 ?_
        refine lv_iload hx hb dX6_visitorsAhead_16 (lv_at hl 0 rfl) ?_
        refine lv_aload_n hx hb dX6_visitorsAhead_18 rfl (lv_at hl 3 rfl) ?_
        refine r_get (ci := 10) (C := RX6) (T := TX6) (N := 9) S F B (kq (by decide) : kd 0 = 0 ∧ 0 < NN) rfl rfl hiX6 4 (by decide) (by decide +kernel) rfl dX6_visitorsAhead_19 ?_
        refine lv_icmp_ge (tgt := 69) hx hb dX6_visitorsAhead_22 (by decide) (fun c13 => ?_) (fun c13 => ?_)
        · have ho := ip_ c13 ho
          refine lv_iload hx hb dX6_visitorsAhead_69 (lv_at hl 1 rfl) ?_
          cases ho
          exact e_i B hx hb hr hlocks rfl rfl dX6_visitorsAhead_71
        · have ho := in_ c13 ho
          refine lv_aload_n hx hb dX6_visitorsAhead_25 rfl (lv_at hl 3 rfl) ?_
          refine r_get (ci := 10) (C := RX6) (T := TX6) (N := 9) S F B (kq (by decide) : kd 0 = 0 ∧ 0 < NN) rfl rfl hiX6 2 (by decide) (by decide +kernel) rfl dX6_visitorsAhead_26 ?_
          refine lv_iload hx hb dX6_visitorsAhead_29 (lv_at hl 0 rfl) ?_
          obtain ⟨i14, ho⟩ := gd_ ho
          refine r_aald (t := 4) S F B (kq (by decide) : kd 8 = 5 ∧ 8 < NN) rfl rfl i14 dX6_visitorsAhead_31 ?_
          refine lv_iload_n hx hb dX6_visitorsAhead_32 rfl (lv_at hl 5 rfl) ?_
          obtain ⟨q15, hq15, ho⟩ := bnd_ ho
          refine k_iV (As := [.int a1]) (rest := []) S F B (c_X7_numberFor l G σ _ (8 + 1 + v11.toNatClampNeg) a1 (kgV i14 : kd (8 + 1 + v11.toNatClampNeg) = 6 ∧ (8 + 1 + v11.toNatClampNeg) < NN) hq15) (kgV i14 : kd (8 + 1 + v11.toNatClampNeg) = 6 ∧ (8 + 1 + v11.toNatClampNeg) < NN) rfl rfl (cwV 1 hts gX6_visitorsAhead_X7_numberFor rfl rfl rfl (by decide +kernel) ⟨Nat.le_of_ble_eq_true rfl, Nat.le_of_ble_eq_true rfl⟩) rfl hl.1 rfl (Nat.le_of_ble_eq_true rfl) dX6_visitorsAhead_33 ⟨Nat.le_of_ble_eq_true rfl, Nat.le_of_ble_eq_true rfl⟩ (fun H locs B => ?_)
          refine lv_aload_n hx hb dX6_visitorsAhead_36 rfl (lv_at hl 2 rfl) ?_
          refine lv_iload_n hx hb dX6_visitorsAhead_37 rfl (lv_at hl 5 rfl) ?_
          obtain ⟨q16, hq16, ho⟩ := bnd_ ho
          refine k_iV (As := [.int a1]) (rest := [.int q15]) S F B (c_X7_numberFor l G σ _ j2 a1 hj2 hq16) hj2 rfl rfl (cwV 1 hts gX6_visitorsAhead_X7_numberFor rfl rfl rfl (by decide +kernel) ⟨Nat.le_of_ble_eq_true rfl, Nat.le_of_ble_eq_true rfl⟩) rfl hl.1 rfl (Nat.le_of_ble_eq_true rfl) dX6_visitorsAhead_38 ⟨Nat.le_of_ble_eq_true rfl, Nat.le_of_ble_eq_true rfl⟩ (fun H locs B => ?_)
          refine lv_isub hx hb dX6_visitorsAhead_41 ?_
          obtain ⟨x17, ex17, ho⟩ := lt_ ho
          refine lv_nm ex17 ?_
          refine lv_istore (lv' := [(6, .int x17), (5, .int v11), (4, .int v12), (3, .ref (G.2.2 j2)), (0, .ref (G.2.2 0)), (1, .int a0), (2, .int a1)]) hx hb dX6_visitorsAhead_42 hl (by decide) rfl (fun ls hl => ?_)
          refine lv_iload hx hb dX6_visitorsAhead_44 (lv_at hl 0 rfl) ?_
          refine lv_if_gt (tgt := 60) hx hb dX6_visitorsAhead_46 (by decide) (fun c18 => ?_) (fun c18 => ?_)
          · have ho := ip_ c18 ho
            obtain ⟨x19, ex19, ho⟩ := lt_ ho
            refine lv_iinc (v := x19) (lv' := [(4, .int x19), (6, .int x17), (5, .int v11), (3, .ref (G.2.2 j2)), (0, .ref (G.2.2 0)), (1, .int a0), (2, .int a1)]) hx hb dX6_visitorsAhead_60 hl (k := 2) rfl (by rw [ex19]; rfl) (by decide) rfl (fun ls hl => ?_)
            obtain ⟨x20, ex20, ho⟩ := lt_ ho
            refine lv_iinc (v := x20) (lv' := [(5, .int x20), (4, .int x19), (6, .int x17), (3, .ref (G.2.2 j2)), (0, .ref (G.2.2 0)), (1, .int a0), (2, .int a1)]) hx hb dX6_visitorsAhead_63 hl (k := 2) rfl (by rw [ex20]; rfl) (by decide) rfl (fun ls hl => ?_)
            refine lv_goto (tgt := 12) hx hb dX6_visitorsAhead_66 (by decide) ?_
            exact ih _ _  _ _ _ ho B (lv_sub hl [0, 1, 3, 4, 5, 6] rfl)
          · have ho := in_ c18 ho
            refine lv_iload hx hb dX6_visitorsAhead_49 (lv_at hl 0 rfl) ?_
            refine lv_if_ne (tgt := 63) hx hb dX6_visitorsAhead_51 (by decide) (fun c21 => ?_) (fun c21 => ?_)
            · have ho := in_ c21 ho
              obtain ⟨x22, ex22, ho⟩ := lt_ ho
              refine lv_iinc (v := x22) (lv' := [(5, .int x22), (6, .int x17), (4, .int v12), (3, .ref (G.2.2 j2)), (0, .ref (G.2.2 0)), (1, .int a0), (2, .int a1)]) hx hb dX6_visitorsAhead_63 hl (k := 1) rfl (by rw [ex22]; rfl) (by decide) rfl (fun ls hl => ?_)
              refine lv_goto (tgt := 12) hx hb dX6_visitorsAhead_66 (by decide) ?_
              exact ih _ _  _ _ _ ho B (lv_sub hl [0, 2, 3, 4, 5, 6] rfl)
            · have ho := ip_ c21 ho
              refine lv_iload hx hb dX6_visitorsAhead_54 (lv_at hl 1 rfl) ?_
              refine lv_iload_n hx hb dX6_visitorsAhead_56 rfl (lv_at hl 5 rfl) ?_
              refine lv_icmp_ge (tgt := 63) hx hb dX6_visitorsAhead_57 (by decide) (fun c23 => ?_) (fun c23 => ?_)
              · have ho := ip_ c23 ho
                obtain ⟨x24, ex24, ho⟩ := lt_ ho
                refine lv_iinc (v := x24) (lv' := [(5, .int x24), (6, .int x17), (4, .int v12), (3, .ref (G.2.2 j2)), (0, .ref (G.2.2 0)), (1, .int a0), (2, .int a1)]) hx hb dX6_visitorsAhead_63 hl (k := 1) rfl (by rw [ex24]; rfl) (by decide) rfl (fun ls hl => ?_)
                refine lv_goto (tgt := 12) hx hb dX6_visitorsAhead_66 (by decide) ?_
                exact ih _ _  _ _ _ ho B (lv_sub hl [0, 2, 3, 4, 5, 6] rfl)
              · have ho := in_ c23 ho
                obtain ⟨x25, ex25, ho⟩ := lt_ ho
                refine lv_iinc (v := x25) (lv' := [(4, .int x25), (6, .int x17), (5, .int v11), (3, .ref (G.2.2 j2)), (0, .ref (G.2.2 0)), (1, .int a0), (2, .int a1)]) hx hb dX6_visitorsAhead_60 hl (k := 2) rfl (by rw [ex25]; rfl) (by decide) rfl (fun ls hl => ?_)
                obtain ⟨x26, ex26, ho⟩ := lt_ ho
                refine lv_iinc (v := x26) (lv' := [(5, .int x26), (4, .int x25), (6, .int x17), (3, .ref (G.2.2 j2)), (0, .ref (G.2.2 0)), (1, .int a0), (2, .int a1)]) hx hb dX6_visitorsAhead_63 hl (k := 2) rfl (by rw [ex26]; rfl) (by decide) rfl (fun ls hl => ?_)
                refine lv_goto (tgt := 12) hx hb dX6_visitorsAhead_66 (by decide) ?_
                exact ih _ _  _ _ _ ho B (lv_sub hl [0, 1, 3, 4, 5, 6] rfl)
    exact hloop12 8 _ _  _ _ _ ho B hl

set_option maxHeartbeats 4000000 in
set_option maxRecDepth 100000 in
theorem c_X6_isRicher (l : Launch) (G : Gd) (σ : Mm) (sz : Nat) (a0 : Int32) (a1 : Int32) {out : Int32} (ho : f_X6_isRicher a0 a1 σ = some out) : Met l yX6_isRicher wsX6_isRicher { frames := 4, cells := 0, slots := 0, locals := 97 } (va_Pc [.ref (G.2.2 0), .int a0, .int a1] (PW G σ sz)) (Qi G sz out σ) 0 0 (AA G sz) := by
  refine Met.ofW (cc := cX6_isRicher) (maxL := 6) (ret := (some .boolean)) (by decide) rfl ?_
  intro p e s m args below meth c s₁ B0 hml hv
  obtain ⟨rfl, hpw⟩ := hv
  have hsz := hpw.1
  subst hsz
  obtain ⟨F, B⟩ := hpw.to
  have hx := B0.exec
  have hb := B0.bytes
  have hr := B0.returns
  have hts := atoms_spec (ws := wsX6_isRicher) B0.pre
  have hown : s.vm.findClass RX6 = some m.cls := findClass_of_methodNamed B0.named
  have hlocks := B0.notSynchronized
  have S : CallFix p m c cX6_isRicher 6 s _ wsX6_isRicher RX6 := ⟨hx, hb, hml, hown, hts⟩
  have hiX1 : ∀ w ∈ u_ws RX1 TX1 4, w ∈ wsX6_isRicher := by decide +kernel
  have hl := lv_entry [.ref (G.2.2 0), .int a0, .int a1] (n := 6) (Nat.le_of_ble_eq_true rfl)
  rw [lg_entry_eq]
  generalize (lg_sl [.ref (G.2.2 0), .int a0, .int a1] ++ List.replicate (6 - (lg_sl [.ref (G.2.2 0), .int a0, .int a1]).length) Slot.unset).toArray = ls at hl ⊢
  have hl : lv_has ls 6 [(0, .ref (G.2.2 0)), (1, .int a0), (2, .int a1)] := hl
  unfold f_X6_isRicher at ho
  refine lv_aload_n hx hb dX6_isRicher_0 rfl (lv_at hl 0 rfl) ?_
  refine lv_iload_n hx hb dX6_isRicher_1 rfl (lv_at hl 1 rfl) ?_
  obtain ⟨q1, hq1, ho⟩ := bnd_ ho
  refine k_qV (As := [.int a0]) (rest := []) S F B (c_X6_findGardener l G σ _ a0 hq1) (kq (by decide) : kd 0 = 0 ∧ 0 < NN) rfl rfl (cwV 1 hts gX6_isRicher_X6_findGardener rfl rfl rfl (by decide +kernel) ⟨Nat.le_of_ble_eq_true rfl, Nat.le_of_ble_eq_true rfl⟩) rfl hl.1 rfl (Nat.le_of_ble_eq_true rfl) dX6_isRicher_2 ⟨Nat.le_of_ble_eq_true rfl, Nat.le_of_ble_eq_true rfl⟩ (fun H locs B => ?_)
  cases q1 with
  | none =>
    have ho := oc_n ho
    refine lv_astore_nN (lv' := [(3, .null), (0, .ref (G.2.2 0)), (1, .int a0), (2, .int a1)]) hx hb dX6_isRicher_5 rfl hl (by decide) rfl (fun ls hl => ?_)
    refine lv_aload_n hx hb dX6_isRicher_6 rfl (lv_at hl 1 rfl) ?_
    refine lv_iload_n hx hb dX6_isRicher_7 rfl (lv_at hl 3 rfl) ?_
    obtain ⟨q3, hq3, ho⟩ := bnd_ ho
    refine k_qV (As := [.int a1]) (rest := []) S F B (c_X6_findGardener l G σ _ a1 hq3) (kq (by decide) : kd 0 = 0 ∧ 0 < NN) rfl rfl (cwV 1 hts gX6_isRicher_X6_findGardener rfl rfl rfl (by decide +kernel) ⟨Nat.le_of_ble_eq_true rfl, Nat.le_of_ble_eq_true rfl⟩) rfl hl.1 rfl (Nat.le_of_ble_eq_true rfl) dX6_isRicher_8 ⟨Nat.le_of_ble_eq_true rfl, Nat.le_of_ble_eq_true rfl⟩ (fun H locs B => ?_)
    cases q3 with
    | none =>
      have ho := oc_n ho
      refine lv_astoreN (lv' := [(4, .null), (3, .null), (0, .ref (G.2.2 0)), (1, .int a0), (2, .int a1)]) hx hb dX6_isRicher_11 hl (by decide) rfl (fun ls hl => ?_)
      refine lv_aload_nN hx hb dX6_isRicher_13 rfl (lv_at hl 1 rfl) ?_
      refine lv_ifnullN (tgt := 22) hx hb dX6_isRicher_14 (by decide) ?_
      refine lv_iconst (v := 0) hx hb dX6_isRicher_22 (by decide) ?_
      cases ho
      exact e_i B hx hb hr hlocks rfl rfl dX6_isRicher_23
    | some j4 =>
      have ho := oc_s ho
      have hj4 : kd j4 = 4 ∧ j4 < NN := kf_gard hq3
      refine lv_astore (lv' := [(4, .ref (G.2.2 j4)), (3, .null), (0, .ref (G.2.2 0)), (1, .int a0), (2, .int a1)]) hx hb dX6_isRicher_11 hl (by decide) rfl (fun ls hl => ?_)
      refine lv_aload_nN hx hb dX6_isRicher_13 rfl (lv_at hl 1 rfl) ?_
      refine lv_ifnullN (tgt := 22) hx hb dX6_isRicher_14 (by decide) ?_
      refine lv_iconst (v := 0) hx hb dX6_isRicher_22 (by decide) ?_
      cases ho
      exact e_i B hx hb hr hlocks rfl rfl dX6_isRicher_23
  | some j2 =>
    have ho := oc_s ho
    have hj2 : kd j2 = 4 ∧ j2 < NN := kf_gard hq1
    refine lv_astore_n (lv' := [(3, .ref (G.2.2 j2)), (0, .ref (G.2.2 0)), (1, .int a0), (2, .int a1)]) hx hb dX6_isRicher_5 rfl hl (by decide) rfl (fun ls hl => ?_)
    refine lv_aload_n hx hb dX6_isRicher_6 rfl (lv_at hl 1 rfl) ?_
    refine lv_iload_n hx hb dX6_isRicher_7 rfl (lv_at hl 3 rfl) ?_
    obtain ⟨q5, hq5, ho⟩ := bnd_ ho
    refine k_qV (As := [.int a1]) (rest := []) S F B (c_X6_findGardener l G σ _ a1 hq5) (kq (by decide) : kd 0 = 0 ∧ 0 < NN) rfl rfl (cwV 1 hts gX6_isRicher_X6_findGardener rfl rfl rfl (by decide +kernel) ⟨Nat.le_of_ble_eq_true rfl, Nat.le_of_ble_eq_true rfl⟩) rfl hl.1 rfl (Nat.le_of_ble_eq_true rfl) dX6_isRicher_8 ⟨Nat.le_of_ble_eq_true rfl, Nat.le_of_ble_eq_true rfl⟩ (fun H locs B => ?_)
    cases q5 with
    | none =>
      have ho := oc_n ho
      refine lv_astoreN (lv' := [(4, .null), (3, .ref (G.2.2 j2)), (0, .ref (G.2.2 0)), (1, .int a0), (2, .int a1)]) hx hb dX6_isRicher_11 hl (by decide) rfl (fun ls hl => ?_)
      refine lv_aload_n hx hb dX6_isRicher_13 rfl (lv_at hl 1 rfl) ?_
      refine lv_ifnull hx hb dX6_isRicher_14 ?_
      refine lv_aloadN hx hb dX6_isRicher_17 (lv_at hl 0 rfl) ?_
      refine lv_ifnonnullN hx hb dX6_isRicher_19 ?_
      refine lv_iconst (v := 0) hx hb dX6_isRicher_22 (by decide) ?_
      cases ho
      exact e_i B hx hb hr hlocks rfl rfl dX6_isRicher_23
    | some j6 =>
      have ho := oc_s ho
      have hj6 : kd j6 = 4 ∧ j6 < NN := kf_gard hq5
      refine lv_astore (lv' := [(4, .ref (G.2.2 j6)), (3, .ref (G.2.2 j2)), (0, .ref (G.2.2 0)), (1, .int a0), (2, .int a1)]) hx hb dX6_isRicher_11 hl (by decide) rfl (fun ls hl => ?_)
      refine lv_aload_n hx hb dX6_isRicher_13 rfl (lv_at hl 1 rfl) ?_
      refine lv_ifnull hx hb dX6_isRicher_14 ?_
      refine lv_aload hx hb dX6_isRicher_17 (lv_at hl 0 rfl) ?_
      refine lv_ifnonnull (tgt := 24) hx hb dX6_isRicher_19 (by decide) ?_
      refine lv_aload_n hx hb dX6_isRicher_24 rfl (lv_at hl 1 rfl) ?_
      refine r_getN (ci := 5) (C := RX1) (T := TX1) (N := 4) S F B hj2 rfl rfl hiX1 0 (by decide) (by decide) rfl dX6_isRicher_25 ?_
      refine lv_aload hx hb dX6_isRicher_28 (lv_at hl 0 rfl) ?_
      refine r_getN (ci := 5) (C := RX1) (T := TX1) (N := 4) S F B hj6 rfl rfl hiX1 0 (by decide) (by decide) rfl dX6_isRicher_30 ?_
      refine lv_icmp_eq (tgt := 54) hx hb dX6_isRicher_33 (by decide) (fun c7 => ?_) (fun c7 => ?_)
      · have ho := ip_ c7 ho
        refine lv_aload_n hx hb dX6_isRicher_54 rfl (lv_at hl 2 rfl) ?_
        refine lv_iload_n hx hb dX6_isRicher_55 rfl (lv_at hl 4 rfl) ?_
        obtain ⟨q8, hq8, ho⟩ := bnd_ ho
        refine k_iV (As := [.int a1]) (rest := []) S F B (c_X6_debtOf l G σ _ a1 hq8) (kq (by decide) : kd 0 = 0 ∧ 0 < NN) rfl rfl (cwV 1 hts gX6_isRicher_X6_debtOf rfl rfl rfl (by decide +kernel) ⟨Nat.le_of_ble_eq_true rfl, Nat.le_of_ble_eq_true rfl⟩) rfl hl.1 rfl (Nat.le_of_ble_eq_true rfl) dX6_isRicher_56 ⟨Nat.le_of_ble_eq_true rfl, Nat.le_of_ble_eq_true rfl⟩ (fun H locs B => ?_)
        refine lv_aload_n hx hb dX6_isRicher_59 rfl (lv_at hl 2 rfl) ?_
        refine lv_iload_n hx hb dX6_isRicher_60 rfl (lv_at hl 3 rfl) ?_
        obtain ⟨q9, hq9, ho⟩ := bnd_ ho
        refine k_iV (As := [.int a0]) (rest := [.int q8]) S F B (c_X6_debtOf l G σ _ a0 hq9) (kq (by decide) : kd 0 = 0 ∧ 0 < NN) rfl rfl (cwV 1 hts gX6_isRicher_X6_debtOf rfl rfl rfl (by decide +kernel) ⟨Nat.le_of_ble_eq_true rfl, Nat.le_of_ble_eq_true rfl⟩) rfl hl.1 rfl (Nat.le_of_ble_eq_true rfl) dX6_isRicher_61 ⟨Nat.le_of_ble_eq_true rfl, Nat.le_of_ble_eq_true rfl⟩ (fun H locs B => ?_)
        refine lv_isub hx hb dX6_isRicher_64 ?_
        obtain ⟨x10, ex10, ho⟩ := lt_ ho
        refine lv_nm ex10 ?_
        refine lv_istore (lv' := [(5, .int x10), (4, .ref (G.2.2 j6)), (3, .ref (G.2.2 j2)), (0, .ref (G.2.2 0)), (1, .int a0), (2, .int a1)]) hx hb dX6_isRicher_65 hl (by decide) rfl (fun ls hl => ?_)
        refine lv_iload hx hb dX6_isRicher_67 (lv_at hl 0 rfl) ?_
        refine lv_if_gt (tgt := 82) hx hb dX6_isRicher_69 (by decide) (fun c11 => ?_) (fun c11 => ?_)
        · have ho := ip_ c11 ho
          refine lv_iconst (v := 1) hx hb dX6_isRicher_82 (by decide) ?_
          refine lv_goto (tgt := 87) hx hb dX6_isRicher_83 (by decide) ?_
          cases ho
          exact e_i B hx hb hr hlocks rfl rfl dX6_isRicher_87
        · have ho := in_ c11 ho
          refine lv_iload hx hb dX6_isRicher_72 (lv_at hl 0 rfl) ?_
          refine lv_if_ne (tgt := 86) hx hb dX6_isRicher_74 (by decide) (fun c12 => ?_) (fun c12 => ?_)
          · have ho := in_ c12 ho
            refine lv_iconst (v := 0) hx hb dX6_isRicher_86 (by decide) ?_
            cases ho
            exact e_i B hx hb hr hlocks rfl rfl dX6_isRicher_87
          · have ho := ip_ c12 ho
            refine lv_iload_n hx hb dX6_isRicher_77 rfl (lv_at hl 4 rfl) ?_
            refine lv_iload_n hx hb dX6_isRicher_78 rfl (lv_at hl 5 rfl) ?_
            refine lv_icmp_ge (tgt := 86) hx hb dX6_isRicher_79 (by decide) (fun c13 => ?_) (fun c13 => ?_)
            · have ho := ip_ c13 ho
              refine lv_iconst (v := 0) hx hb dX6_isRicher_86 (by decide) ?_
              cases ho
              exact e_i B hx hb hr hlocks rfl rfl dX6_isRicher_87
            · have ho := in_ c13 ho
              refine lv_iconst (v := 1) hx hb dX6_isRicher_82 (by decide) ?_
              refine lv_goto (tgt := 87) hx hb dX6_isRicher_83 (by decide) ?_
              cases ho
              exact e_i B hx hb hr hlocks rfl rfl dX6_isRicher_87
      · have ho := in_ c7 ho
        refine lv_aload_n hx hb dX6_isRicher_36 rfl (lv_at hl 1 rfl) ?_
        refine r_getN (ci := 5) (C := RX1) (T := TX1) (N := 4) S F B hj2 rfl rfl hiX1 0 (by decide) (by decide) rfl dX6_isRicher_37 ?_
        refine lv_aload hx hb dX6_isRicher_40 (lv_at hl 0 rfl) ?_
        refine r_getN (ci := 5) (C := RX1) (T := TX1) (N := 4) S F B hj6 rfl rfl hiX1 0 (by decide) (by decide) rfl dX6_isRicher_42 ?_
        refine lv_icmp_le (tgt := 52) hx hb dX6_isRicher_45 (by decide) (fun c14 => ?_) (fun c14 => ?_)
        · have ho := ip_ c14 ho
          refine lv_iconst (v := 0) hx hb dX6_isRicher_52 (by decide) ?_
          cases ho
          exact e_i B hx hb hr hlocks rfl rfl dX6_isRicher_53
        · have ho := in_ c14 ho
          refine lv_iconst (v := 1) hx hb dX6_isRicher_48 (by decide) ?_
          refine lv_goto (tgt := 53) hx hb dX6_isRicher_49 (by decide) ?_
          cases ho
          exact e_i B hx hb hr hlocks rfl rfl dX6_isRicher_53

