set_option maxHeartbeats 4000000 in
set_option maxRecDepth 100000 in
theorem c_X4_leavesOf (l : Launch) (G : Gd) (σ : Mm) (sz : Nat) (a0 : Int32) {out : Int32} (ho : f_X4_leavesOf a0 σ = some out) : Met l yX4_leavesOf wsX4_leavesOf { frames := 0, cells := 0, slots := 0, locals := 0 } (va_Pc [.ref (G.2.2 1), .int a0] (PW G σ sz)) (Qi G sz out σ) 0 0 (AA G sz) := by
  refine Met.ofW (cc := cX4_leavesOf) (maxL := 2) (ret := (some .int)) (by decide) rfl ?_
  intro p e s m args below meth c s₁ B0 hml hv
  obtain ⟨rfl, hpw⟩ := hv
  have hsz := hpw.1
  subst hsz
  obtain ⟨F, B⟩ := hpw.to
  have hx := B0.exec
  have hb := B0.bytes
  have hr := B0.returns
  have hts := atoms_spec (ws := wsX4_leavesOf) B0.pre
  have hown : s.vm.findClass RX4 = some m.cls := findClass_of_methodNamed B0.named
  have hlocks := B0.notSynchronized
  have S : CallFix p m c cX4_leavesOf 2 s _ wsX4_leavesOf RX4 := ⟨hx, hb, hml, hown, hts⟩
  have hiX4 : ∀ w ∈ u_ws RX4 TX4 1, w ∈ wsX4_leavesOf := by decide +kernel
  have hl := lv_entry [.ref (G.2.2 1), .int a0] (n := 2) (Nat.le_of_ble_eq_true rfl)
  rw [lg_entry_eq]
  generalize (lg_sl [.ref (G.2.2 1), .int a0] ++ List.replicate (2 - (lg_sl [.ref (G.2.2 1), .int a0]).length) Slot.unset).toArray = ls at hl ⊢
  have hl : lv_has ls 2 [(0, .ref (G.2.2 1)), (1, .int a0)] := hl
  unfold f_X4_leavesOf at ho
  refine lv_iload_n hx hb dX4_leavesOf_0 rfl (lv_at hl 1 rfl) ?_
  refine lv_if_lt (tgt := 19) hx hb dX4_leavesOf_1 (by decide) (fun c1 => ?_) (fun c1 => ?_)
  · have ho := ip_ c1 ho
    refine lv_bipush (v := 9) hx hb dX4_leavesOf_19 (by decide) ?_
    cases ho
    exact e_i B hx hb hr hlocks rfl rfl dX4_leavesOf_21
  · have ho := in_ c1 ho
    refine lv_iload_n hx hb dX4_leavesOf_4 rfl (lv_at hl 1 rfl) ?_
    refine lv_bipush (v := 24) hx hb dX4_leavesOf_5 (by decide) ?_
    refine lv_icmp_ge (tgt := 19) hx hb dX4_leavesOf_7 (by decide) (fun c2 => ?_) (fun c2 => ?_)
    · have ho := ip_ c2 ho
      refine lv_bipush (v := 9) hx hb dX4_leavesOf_19 (by decide) ?_
      cases ho
      exact e_i B hx hb hr hlocks rfl rfl dX4_leavesOf_21
    · have ho := in_ c2 ho
      refine lv_aload_n hx hb dX4_leavesOf_10 rfl (lv_at hl 0 rfl) ?_
      refine r_get (ci := 8) (C := RX4) (T := TX4) (N := 1) S F B (kq (by decide) : kd 1 = 1 ∧ 1 < NN) rfl rfl hiX4 0 (by decide) (by decide +kernel) rfl dX4_leavesOf_11 ?_
      refine lv_iload_n hx hb dX4_leavesOf_14 rfl (lv_at hl 1 rfl) ?_
      obtain ⟨hi, ho⟩ := gd_ ho
      refine r_iald S F B (kq (by decide) : kd 2 = 2 ∧ 2 < NN) rfl hi dX4_leavesOf_15 ?_
      refine lv_goto (tgt := 21) hx hb dX4_leavesOf_16 (by decide) ?_
      cases ho
      exact e_i B hx hb hr hlocks rfl rfl dX4_leavesOf_21

set_option maxHeartbeats 4000000 in
set_option maxRecDepth 100000 in
theorem c_X4_isOpen (l : Launch) (G : Gd) (σ : Mm) (sz : Nat) (a0 : Int32) {out : Int32} (ho : f_X4_isOpen a0 σ = some out) : Met l yX4_isOpen wsX4_isOpen { frames := 1, cells := 0, slots := 0, locals := 21 } (va_Pc [.ref (G.2.2 1), .int a0] (PW G σ sz)) (Qi G sz out σ) 0 0 (AA G sz) := by
  refine Met.ofW (cc := cX4_isOpen) (maxL := 2) (ret := (some .boolean)) (by decide) rfl ?_
  intro p e s m args below meth c s₁ B0 hml hv
  obtain ⟨rfl, hpw⟩ := hv
  have hsz := hpw.1
  subst hsz
  obtain ⟨F, B⟩ := hpw.to
  have hx := B0.exec
  have hb := B0.bytes
  have hr := B0.returns
  have hts := atoms_spec (ws := wsX4_isOpen) B0.pre
  have hown : s.vm.findClass RX4 = some m.cls := findClass_of_methodNamed B0.named
  have hlocks := B0.notSynchronized
  have S : CallFix p m c cX4_isOpen 2 s _ wsX4_isOpen RX4 := ⟨hx, hb, hml, hown, hts⟩
  have hl := lv_entry [.ref (G.2.2 1), .int a0] (n := 2) (Nat.le_of_ble_eq_true rfl)
  rw [lg_entry_eq]
  generalize (lg_sl [.ref (G.2.2 1), .int a0] ++ List.replicate (2 - (lg_sl [.ref (G.2.2 1), .int a0]).length) Slot.unset).toArray = ls at hl ⊢
  have hl : lv_has ls 2 [(0, .ref (G.2.2 1)), (1, .int a0)] := hl
  unfold f_X4_isOpen at ho
  refine lv_aload_n hx hb dX4_isOpen_0 rfl (lv_at hl 0 rfl) ?_
  refine lv_iload_n hx hb dX4_isOpen_1 rfl (lv_at hl 1 rfl) ?_
  obtain ⟨q1, hq1, ho⟩ := bnd_ ho
  refine k_iV (As := [.int a0]) (rest := []) S F B (c_X4_leavesOf l G σ _ a0 hq1) (kq (by decide) : kd 1 = 1 ∧ 1 < NN) rfl rfl (cwV 1 hts gX4_isOpen_X4_leavesOf rfl rfl rfl (by decide +kernel) ⟨Nat.le_of_ble_eq_true rfl, Nat.le_of_ble_eq_true rfl⟩) rfl hl.1 rfl (Nat.le_of_ble_eq_true rfl) dX4_isOpen_2 ⟨Nat.le_of_ble_eq_true rfl, Nat.le_of_ble_eq_true rfl⟩ (fun H locs B => ?_)
  refine lv_iconst (v := 5) hx hb dX4_isOpen_5 (by decide) ?_
  refine lv_icmp_ge (tgt := 13) hx hb dX4_isOpen_6 (by decide) (fun c2 => ?_) (fun c2 => ?_)
  · have ho := ip_ c2 ho
    refine lv_iconst (v := 0) hx hb dX4_isOpen_13 (by decide) ?_
    cases ho
    exact e_i B hx hb hr hlocks rfl rfl dX4_isOpen_14
  · have ho := in_ c2 ho
    refine lv_iconst (v := 1) hx hb dX4_isOpen_9 (by decide) ?_
    refine lv_goto (tgt := 14) hx hb dX4_isOpen_10 (by decide) ?_
    cases ho
    exact e_i B hx hb hr hlocks rfl rfl dX4_isOpen_14

set_option maxHeartbeats 4000000 in
set_option maxRecDepth 100000 in
theorem c_X4_isCell (l : Launch) (G : Gd) (σ : Mm) (sz : Nat) (a0 : Int32) {out : Int32} (ho : f_X4_isCell a0 σ = some out) : Met l yX4_isCell wsX4_isCell { frames := 0, cells := 0, slots := 0, locals := 0 } (va_Pc [.int a0] (PW G σ sz)) (Qi G sz out σ) 0 0 (AA G sz) := by
  refine Met.ofW (cc := cX4_isCell) (maxL := 1) (ret := (some .boolean)) (by decide) rfl ?_
  intro p e s m args below meth c s₁ B0 hml hv
  obtain ⟨rfl, hpw⟩ := hv
  have hsz := hpw.1
  subst hsz
  obtain ⟨F, B⟩ := hpw.to
  have hx := B0.exec
  have hb := B0.bytes
  have hr := B0.returns
  have hts := atoms_spec (ws := wsX4_isCell) B0.pre
  have hown : s.vm.findClass RX4 = some m.cls := findClass_of_methodNamed B0.named
  have hlocks := B0.notSynchronized
  have S : CallFix p m c cX4_isCell 1 s _ wsX4_isCell RX4 := ⟨hx, hb, hml, hown, hts⟩
  have hl := lv_entry [.int a0] (n := 1) (Nat.le_of_ble_eq_true rfl)
  rw [lg_entry_eq]
  generalize (lg_sl [.int a0] ++ List.replicate (1 - (lg_sl [.int a0]).length) Slot.unset).toArray = ls at hl ⊢
  have hl : lv_has ls 1 [(0, .int a0)] := hl
  unfold f_X4_isCell at ho
  refine lv_iload_n hx hb dX4_isCell_0 rfl (lv_at hl 0 rfl) ?_
  refine lv_if_lt (tgt := 14) hx hb dX4_isCell_1 (by decide) (fun c1 => ?_) (fun c1 => ?_)
  · have ho := ip_ c1 ho
    refine lv_iconst (v := 0) hx hb dX4_isCell_14 (by decide) ?_
    cases ho
    exact e_i B hx hb hr hlocks rfl rfl dX4_isCell_15
  · have ho := in_ c1 ho
    refine lv_iload_n hx hb dX4_isCell_4 rfl (lv_at hl 0 rfl) ?_
    refine lv_bipush (v := 16) hx hb dX4_isCell_5 (by decide) ?_
    refine lv_icmp_ge (tgt := 14) hx hb dX4_isCell_7 (by decide) (fun c2 => ?_) (fun c2 => ?_)
    · have ho := ip_ c2 ho
      refine lv_iconst (v := 0) hx hb dX4_isCell_14 (by decide) ?_
      cases ho
      exact e_i B hx hb hr hlocks rfl rfl dX4_isCell_15
    · have ho := in_ c2 ho
      refine lv_iconst (v := 1) hx hb dX4_isCell_10 (by decide) ?_
      refine lv_goto (tgt := 15) hx hb dX4_isCell_11 (by decide) ?_
      cases ho
      exact e_i B hx hb hr hlocks rfl rfl dX4_isCell_15

set_option maxHeartbeats 4000000 in
set_option maxRecDepth 100000 in
theorem c_X4_hedgeBetween (l : Launch) (G : Gd) (σ : Mm) (sz : Nat) (a0 : Int32) (a1 : Int32) {out : Int32} (ho : f_X4_hedgeBetween a0 a1 σ = some out) : Met l yX4_hedgeBetween wsX4_hedgeBetween { frames := 1, cells := 0, slots := 0, locals := 32 } (va_Pc [.int a0, .int a1] (PW G σ sz)) (Qi G sz out σ) 0 0 (AA G sz) := by
  refine Met.ofW (cc := cX4_hedgeBetween) (maxL := 5) (ret := (some .int)) (by decide) rfl ?_
  intro p e s m args below meth c s₁ B0 hml hv
  obtain ⟨rfl, hpw⟩ := hv
  have hsz := hpw.1
  subst hsz
  obtain ⟨F, B⟩ := hpw.to
  have hx := B0.exec
  have hb := B0.bytes
  have hr := B0.returns
  have hts := atoms_spec (ws := wsX4_hedgeBetween) B0.pre
  have hown : s.vm.findClass RX4 = some m.cls := findClass_of_methodNamed B0.named
  have hlocks := B0.notSynchronized
  have S : CallFix p m c cX4_hedgeBetween 5 s _ wsX4_hedgeBetween RX4 := ⟨hx, hb, hml, hown, hts⟩
  have hl := lv_entry [.int a0, .int a1] (n := 5) (Nat.le_of_ble_eq_true rfl)
  rw [lg_entry_eq]
  generalize (lg_sl [.int a0, .int a1] ++ List.replicate (5 - (lg_sl [.int a0, .int a1]).length) Slot.unset).toArray = ls at hl ⊢
  have hl : lv_has ls 5 [(0, .int a0), (1, .int a1)] := hl
  unfold f_X4_hedgeBetween at ho
  skip
  refine lv_iload_n hx hb dX4_hedgeBetween_0 rfl (lv_at hl 0 rfl) ?_
  refine lv_iload_n hx hb dX4_hedgeBetween_1 rfl (lv_at hl 1 rfl) ?_
  refine va_mmin hx hb (hml.trans hl.1.symm) hown (hts _ (by decide +kernel)) (hts _ (by decide +kernel)) (hts _ (by decide +kernel)) (hts _ (by decide +kernel)) (Nat.le_of_ble_eq_true rfl) (Nat.le_of_ble_eq_true rfl) (Nat.le_of_ble_eq_true rfl) (Nat.le_of_ble_eq_true rfl) dX4_hedgeBetween_2 ?_
  obtain ⟨x1, ex1, ho⟩ := lt_ ho
  refine lv_nm ex1 ?_
  refine lv_istore_n (lv' := [(2, .int x1), (0, .int a0), (1, .int a1)]) hx hb dX4_hedgeBetween_5 rfl hl (by decide) rfl (fun ls hl => ?_)
  refine lv_iload_n hx hb dX4_hedgeBetween_6 rfl (lv_at hl 1 rfl) ?_
  refine lv_iload_n hx hb dX4_hedgeBetween_7 rfl (lv_at hl 2 rfl) ?_
  refine va_mmax hx hb (hml.trans hl.1.symm) hown (hts _ (by decide +kernel)) (hts _ (by decide +kernel)) (hts _ (by decide +kernel)) (hts _ (by decide +kernel)) (Nat.le_of_ble_eq_true rfl) (Nat.le_of_ble_eq_true rfl) (Nat.le_of_ble_eq_true rfl) (Nat.le_of_ble_eq_true rfl) dX4_hedgeBetween_8 ?_
  obtain ⟨x2, ex2, ho⟩ := lt_ ho
  refine lv_nm ex2 ?_
  refine lv_istore_n (lv' := [(3, .int x2), (2, .int x1), (0, .int a0), (1, .int a1)]) hx hb dX4_hedgeBetween_11 rfl hl (by decide) rfl (fun ls hl => ?_)
  refine lv_iconst (v := 0) hx hb dX4_hedgeBetween_12 (by decide) ?_
  refine lv_istore (lv' := [(4, .int 0), (3, .int x2), (2, .int x1), (0, .int a0), (1, .int a1)]) hx hb dX4_hedgeBetween_13 hl (by decide) rfl (fun ls hl => ?_)
  have hloop15 : ∀ (n : Nat) (v5 : Int32) (H : Heap) (locs : List Loc) (ls : Array Slot), f_X4_hedgeBetween_l15  x2 x1 a0 a1 σ n v5 = some out → Bd G σ s H locs → lv_has ls 5 [(4, .int v5), (3, .int x2), (2, .int x1), (0, .int a0), (1, .int a1)] → W p l e (headSpec wsX4_hedgeBetween { frames := 1, cells := 0, slots := 0, locals := 32 }).room s m #[.int a0, .int a1] below meth c H locs 0 0 (MQ below (Qi G s.heap.size out σ) #[.int a0, .int a1] s 0 0 (AA G s.heap.size)) (F0 m 15 ls []) := by
    intro n
    induction n with
    | zero => intro v5 H locs ls ho B hl; cases ho
    | succ n ih =>
      intro v5 H locs ls ho B hl
      refine lv_iload hx hb dX4_hedgeBetween_15 (lv_at hl 0 rfl) ?_
      refine lv_bipush (v := 24) hx hb dX4_hedgeBetween_17 (by decide) ?_
      refine lv_icmp_ge (tgt := 51) hx hb dX4_hedgeBetween_19 (by decide) (fun c6 => ?_) (fun c6 => ?_)
      · have ho := ip_ c6 ho
        refine lv_iconst (v := (-1)) hx hb dX4_hedgeBetween_51 (by decide) ?_
        cases ho
        exact e_i B hx hb hr hlocks rfl rfl dX4_hedgeBetween_52
      · have ho := in_ c6 ho
        refine r_gets S B F.low.1 (by decide +kernel) dX4_hedgeBetween_22 ?_
        refine lv_iload hx hb dX4_hedgeBetween_25 (lv_at hl 0 rfl) ?_
        obtain ⟨hi, ho⟩ := gd_ ho
        refine r_ti S B F.low.2 hi dX4_hedgeBetween_27 ?_
        refine lv_iload_n hx hb dX4_hedgeBetween_28 rfl (lv_at hl 2 rfl) ?_
        refine lv_icmp_ne (tgt := 45) hx hb dX4_hedgeBetween_29 (by decide) (fun c7 => ?_) (fun c7 => ?_)
        · have ho := in_ c7 ho
          obtain ⟨x8, ex8, ho⟩ := lt_ ho
          refine lv_iinc (v := x8) (lv' := [(4, .int x8), (3, .int x2), (2, .int x1), (0, .int a0), (1, .int a1)]) hx hb dX4_hedgeBetween_45 hl (k := 0) rfl (by rw [ex8]; rfl) (by decide) rfl (fun ls hl => ?_)
          refine lv_goto (tgt := 15) hx hb dX4_hedgeBetween_48 (by decide) ?_
          exact ih _  _ _ _ ho B (lv_sub hl [0, 1, 2, 3, 4] rfl)
        · have ho := ip_ c7 ho
          refine r_gets S B F.upp.1 (by decide +kernel) dX4_hedgeBetween_32 ?_
          refine lv_iload hx hb dX4_hedgeBetween_35 (lv_at hl 0 rfl) ?_
          obtain ⟨hi, ho⟩ := gd_ ho
          refine r_ti S B F.upp.2 hi dX4_hedgeBetween_37 ?_
          refine lv_iload_n hx hb dX4_hedgeBetween_38 rfl (lv_at hl 1 rfl) ?_
          refine lv_icmp_ne (tgt := 45) hx hb dX4_hedgeBetween_39 (by decide) (fun c9 => ?_) (fun c9 => ?_)
          · have ho := in_ c9 ho
            obtain ⟨x10, ex10, ho⟩ := lt_ ho
            refine lv_iinc (v := x10) (lv' := [(4, .int x10), (3, .int x2), (2, .int x1), (0, .int a0), (1, .int a1)]) hx hb dX4_hedgeBetween_45 hl (k := 0) rfl (by rw [ex10]; rfl) (by decide) rfl (fun ls hl => ?_)
            refine lv_goto (tgt := 15) hx hb dX4_hedgeBetween_48 (by decide) ?_
            exact ih _  _ _ _ ho B (lv_sub hl [0, 1, 2, 3, 4] rfl)
          · have ho := ip_ c9 ho
            refine lv_iload hx hb dX4_hedgeBetween_42 (lv_at hl 0 rfl) ?_
            cases ho
            exact e_i B hx hb hr hlocks rfl rfl dX4_hedgeBetween_44
  exact hloop15 30 _  _ _ _ ho B hl

set_option maxHeartbeats 4000000 in
set_option maxRecDepth 100000 in
theorem c_X4_cellAcross (l : Launch) (G : Gd) (σ : Mm) (sz : Nat) (a0 : Int32) (a1 : Int32) {out : Int32} (ho : f_X4_cellAcross a0 a1 σ = some out) : Met l yX4_cellAcross wsX4_cellAcross { frames := 0, cells := 0, slots := 0, locals := 0 } (va_Pc [.int a0, .int a1] (PW G σ sz)) (Qi G sz out σ) 0 0 (AA G sz) := by
  refine Met.ofW (cc := cX4_cellAcross) (maxL := 2) (ret := (some .int)) (by decide) rfl ?_
  intro p e s m args below meth c s₁ B0 hml hv
  obtain ⟨rfl, hpw⟩ := hv
  have hsz := hpw.1
  subst hsz
  obtain ⟨F, B⟩ := hpw.to
  have hx := B0.exec
  have hb := B0.bytes
  have hr := B0.returns
  have hts := atoms_spec (ws := wsX4_cellAcross) B0.pre
  have hown : s.vm.findClass RX4 = some m.cls := findClass_of_methodNamed B0.named
  have hlocks := B0.notSynchronized
  have S : CallFix p m c cX4_cellAcross 2 s _ wsX4_cellAcross RX4 := ⟨hx, hb, hml, hown, hts⟩
  have hl := lv_entry [.int a0, .int a1] (n := 2) (Nat.le_of_ble_eq_true rfl)
  rw [lg_entry_eq]
  generalize (lg_sl [.int a0, .int a1] ++ List.replicate (2 - (lg_sl [.int a0, .int a1]).length) Slot.unset).toArray = ls at hl ⊢
  have hl : lv_has ls 2 [(0, .int a0), (1, .int a1)] := hl
  unfold f_X4_cellAcross at ho
  refine lv_iload_n hx hb dX4_cellAcross_0 rfl (lv_at hl 0 rfl) ?_
  refine lv_if_lt (tgt := 10) hx hb dX4_cellAcross_1 (by decide) (fun c1 => ?_) (fun c1 => ?_)
  · have ho := ip_ c1 ho
    refine lv_iconst (v := (-1)) hx hb dX4_cellAcross_10 (by decide) ?_
    cases ho
    exact e_i B hx hb hr hlocks rfl rfl dX4_cellAcross_11
  · have ho := in_ c1 ho
    refine lv_iload_n hx hb dX4_cellAcross_4 rfl (lv_at hl 0 rfl) ?_
    refine lv_bipush (v := 24) hx hb dX4_cellAcross_5 (by decide) ?_
    refine lv_icmp_lt (tgt := 12) hx hb dX4_cellAcross_7 (by decide) (fun c2 => ?_) (fun c2 => ?_)
    · have ho := ip_ c2 ho
      refine r_gets S B F.low.1 (by decide +kernel) dX4_cellAcross_12 ?_
      refine lv_iload_n hx hb dX4_cellAcross_15 rfl (lv_at hl 0 rfl) ?_
      obtain ⟨hi, ho⟩ := gd_ ho
      refine r_ti S B F.low.2 hi dX4_cellAcross_16 ?_
      refine lv_iload_n hx hb dX4_cellAcross_17 rfl (lv_at hl 1 rfl) ?_
      refine lv_icmp_ne (tgt := 27) hx hb dX4_cellAcross_18 (by decide) (fun c3 => ?_) (fun c3 => ?_)
      · have ho := in_ c3 ho
        refine r_gets S B F.upp.1 (by decide +kernel) dX4_cellAcross_27 ?_
        refine lv_iload_n hx hb dX4_cellAcross_30 rfl (lv_at hl 0 rfl) ?_
        obtain ⟨hi, ho⟩ := gd_ ho
        refine r_ti S B F.upp.2 hi dX4_cellAcross_31 ?_
        refine lv_iload_n hx hb dX4_cellAcross_32 rfl (lv_at hl 1 rfl) ?_
        refine lv_icmp_ne (tgt := 44) hx hb dX4_cellAcross_33 (by decide) (fun c4 => ?_) (fun c4 => ?_)
        · have ho := in_ c4 ho
          refine lv_iconst (v := (-1)) hx hb dX4_cellAcross_44 (by decide) ?_
          cases ho
          exact e_i B hx hb hr hlocks rfl rfl dX4_cellAcross_45
        · have ho := ip_ c4 ho
          refine r_gets S B F.low.1 (by decide +kernel) dX4_cellAcross_36 ?_
          refine lv_iload_n hx hb dX4_cellAcross_39 rfl (lv_at hl 0 rfl) ?_
          obtain ⟨hi, ho⟩ := gd_ ho
          refine r_ti S B F.low.2 hi dX4_cellAcross_40 ?_
          refine lv_goto (tgt := 45) hx hb dX4_cellAcross_41 (by decide) ?_
          cases ho
          exact e_i B hx hb hr hlocks rfl rfl dX4_cellAcross_45
      · have ho := ip_ c3 ho
        refine r_gets S B F.upp.1 (by decide +kernel) dX4_cellAcross_21 ?_
        refine lv_iload_n hx hb dX4_cellAcross_24 rfl (lv_at hl 0 rfl) ?_
        obtain ⟨hi, ho⟩ := gd_ ho
        refine r_ti S B F.upp.2 hi dX4_cellAcross_25 ?_
        cases ho
        exact e_i B hx hb hr hlocks rfl rfl dX4_cellAcross_26
    · have ho := in_ c2 ho
      refine lv_iconst (v := (-1)) hx hb dX4_cellAcross_10 (by decide) ?_
      cases ho
      exact e_i B hx hb hr hlocks rfl rfl dX4_cellAcross_11

set_option maxHeartbeats 4000000 in
set_option maxRecDepth 100000 in
theorem c_X4_cellTowards (l : Launch) (G : Gd) (σ : Mm) (sz : Nat) (a0 : Int32) (a1 : Int32) {out : Int32} (ho : f_X4_cellTowards a0 a1 σ = some out) : Met l yX4_cellTowards wsX4_cellTowards { frames := 0, cells := 0, slots := 0, locals := 0 } (va_Pc [.int a0, .int a1] (PW G σ sz)) (Qi G sz out σ) 0 0 (AA G sz) := by
  refine Met.ofW (cc := cX4_cellTowards) (maxL := 2) (ret := (some .int)) (by decide) rfl ?_
  intro p e s m args below meth c s₁ B0 hml hv
  obtain ⟨rfl, hpw⟩ := hv
  have hsz := hpw.1
  subst hsz
  obtain ⟨F, B⟩ := hpw.to
  have hx := B0.exec
  have hb := B0.bytes
  have hr := B0.returns
  have hts := atoms_spec (ws := wsX4_cellTowards) B0.pre
  have hown : s.vm.findClass RX4 = some m.cls := findClass_of_methodNamed B0.named
  have hlocks := B0.notSynchronized
  have S : CallFix p m c cX4_cellTowards 2 s _ wsX4_cellTowards RX4 := ⟨hx, hb, hml, hown, hts⟩
  have hl := lv_entry [.int a0, .int a1] (n := 2) (Nat.le_of_ble_eq_true rfl)
  rw [lg_entry_eq]
  generalize (lg_sl [.int a0, .int a1] ++ List.replicate (2 - (lg_sl [.int a0, .int a1]).length) Slot.unset).toArray = ls at hl ⊢
  have hl : lv_has ls 2 [(0, .int a0), (1, .int a1)] := hl
  unfold f_X4_cellTowards at ho
  refine lv_iload_n hx hb dX4_cellTowards_0 rfl (lv_at hl 1 rfl) ?_
  by_cases c1 : a1 = 0
  · have ho := ip_ c1 ho
    refine lv_tableIn (off := 31) (tgt := 32) hx hb dX4_cellTowards_1 (by rw [c1]; decide) (by rw [c1]; decide) (by rw [c1]; rfl) (by decide) ?_
    refine lv_iload_n hx hb dX4_cellTowards_32 rfl (lv_at hl 0 rfl) ?_
    refine lv_iconst (v := 4) hx hb dX4_cellTowards_33 (by decide) ?_
    refine lv_icmp_lt (tgt := 43) hx hb dX4_cellTowards_34 (by decide) (fun c2 => ?_) (fun c2 => ?_)
    · have ho := ip_ c2 ho
      refine lv_iconst (v := (-1)) hx hb dX4_cellTowards_43 (by decide) ?_
      cases ho
      exact e_i B hx hb hr hlocks rfl rfl dX4_cellTowards_44
    · have ho := in_ c2 ho
      refine lv_iload_n hx hb dX4_cellTowards_37 rfl (lv_at hl 0 rfl) ?_
      refine lv_iconst (v := 4) hx hb dX4_cellTowards_38 (by decide) ?_
      refine lv_isub hx hb dX4_cellTowards_39 ?_
      refine lv_goto (tgt := 44) hx hb dX4_cellTowards_40 (by decide) ?_
      cases ho
      exact e_i B hx hb hr hlocks rfl rfl dX4_cellTowards_44
  · have ho := in_ c1 ho
    by_cases c3 : a1 = 1
    · have ho := ip_ c3 ho
      refine lv_tableIn (off := 44) (tgt := 45) hx hb dX4_cellTowards_1 (by rw [c3]; decide) (by rw [c3]; decide) (by rw [c3]; rfl) (by decide) ?_
      refine lv_iload_n hx hb dX4_cellTowards_45 rfl (lv_at hl 0 rfl) ?_
      refine lv_iconst (v := 4) hx hb dX4_cellTowards_46 (by decide) ?_
      refine lv_irem hx hb dX4_cellTowards_47 (by decide) ?_
      refine lv_iconst (v := 3) hx hb dX4_cellTowards_48 (by decide) ?_
      refine lv_icmp_ge (tgt := 58) hx hb dX4_cellTowards_49 (by decide) (fun c4 => ?_) (fun c4 => ?_)
      · have ho := ip_ c4 ho
        refine lv_iconst (v := (-1)) hx hb dX4_cellTowards_58 (by decide) ?_
        cases ho
        exact e_i B hx hb hr hlocks rfl rfl dX4_cellTowards_59
      · have ho := in_ c4 ho
        refine lv_iload_n hx hb dX4_cellTowards_52 rfl (lv_at hl 0 rfl) ?_
        refine lv_iconst (v := 1) hx hb dX4_cellTowards_53 (by decide) ?_
        refine lv_iadd hx hb dX4_cellTowards_54 ?_
        refine lv_goto (tgt := 59) hx hb dX4_cellTowards_55 (by decide) ?_
        cases ho
        exact e_i B hx hb hr hlocks rfl rfl dX4_cellTowards_59
    · have ho := in_ c3 ho
      by_cases c5 : a1 = 2
      · have ho := ip_ c5 ho
        refine lv_tableIn (off := 59) (tgt := 60) hx hb dX4_cellTowards_1 (by rw [c5]; decide) (by rw [c5]; decide) (by rw [c5]; rfl) (by decide) ?_
        refine lv_iload_n hx hb dX4_cellTowards_60 rfl (lv_at hl 0 rfl) ?_
        refine lv_bipush (v := 12) hx hb dX4_cellTowards_61 (by decide) ?_
        refine lv_icmp_ge (tgt := 72) hx hb dX4_cellTowards_63 (by decide) (fun c6 => ?_) (fun c6 => ?_)
        · have ho := ip_ c6 ho
          refine lv_iconst (v := (-1)) hx hb dX4_cellTowards_72 (by decide) ?_
          cases ho
          exact e_i B hx hb hr hlocks rfl rfl dX4_cellTowards_73
        · have ho := in_ c6 ho
          refine lv_iload_n hx hb dX4_cellTowards_66 rfl (lv_at hl 0 rfl) ?_
          refine lv_iconst (v := 4) hx hb dX4_cellTowards_67 (by decide) ?_
          refine lv_iadd hx hb dX4_cellTowards_68 ?_
          refine lv_goto (tgt := 73) hx hb dX4_cellTowards_69 (by decide) ?_
          cases ho
          exact e_i B hx hb hr hlocks rfl rfl dX4_cellTowards_73
      · have ho := in_ c5 ho
        by_cases c7 : a1 = 3
        · have ho := ip_ c7 ho
          refine lv_tableIn (off := 73) (tgt := 74) hx hb dX4_cellTowards_1 (by rw [c7]; decide) (by rw [c7]; decide) (by rw [c7]; rfl) (by decide) ?_
          refine lv_iload_n hx hb dX4_cellTowards_74 rfl (lv_at hl 0 rfl) ?_
          refine lv_iconst (v := 4) hx hb dX4_cellTowards_75 (by decide) ?_
          refine lv_irem hx hb dX4_cellTowards_76 (by decide) ?_
          refine lv_if_le (tgt := 86) hx hb dX4_cellTowards_77 (by decide) (fun c8 => ?_) (fun c8 => ?_)
          · have ho := ip_ c8 ho
            refine lv_iconst (v := (-1)) hx hb dX4_cellTowards_86 (by decide) ?_
            cases ho
            exact e_i B hx hb hr hlocks rfl rfl dX4_cellTowards_87
          · have ho := in_ c8 ho
            refine lv_iload_n hx hb dX4_cellTowards_80 rfl (lv_at hl 0 rfl) ?_
            refine lv_iconst (v := 1) hx hb dX4_cellTowards_81 (by decide) ?_
            refine lv_isub hx hb dX4_cellTowards_82 ?_
            refine lv_goto (tgt := 87) hx hb dX4_cellTowards_83 (by decide) ?_
            cases ho
            exact e_i B hx hb hr hlocks rfl rfl dX4_cellTowards_87
        · have ho := in_ c7 ho
          refine t_tableD (tgt := 88) hx hb dX4_cellTowards_1 rfl (fun j hj => ?_) (by decide) ?_
          · have hj : j < 4 := hj
            rcases (show j = 0 ∨ j = 1 ∨ j = 2 ∨ j = 3 by omega) with rfl | rfl | rfl | rfl
            · exact Or.inr (lv_neT c1 (by decide))
            · exact Or.inr (lv_neT c3 (by decide))
            · exact Or.inr (lv_neT c5 (by decide))
            · exact Or.inr (lv_neT c7 (by decide))
          · refine lv_iconst (v := (-1)) hx hb dX4_cellTowards_88 (by decide) ?_
            cases ho
            exact e_i B hx hb hr hlocks rfl rfl dX4_cellTowards_89

set_option maxHeartbeats 4000000 in
set_option maxRecDepth 100000 in
theorem c_X4_putLeaves (l : Launch) (G : Gd) (σ : Mm) (sz : Nat) (a0 : Int32) (a1 : Int32) {out : Mm} (ho : f_X4_putLeaves a0 a1 σ = some out) : Met l yX4_putLeaves wsX4_putLeaves { frames := 0, cells := 0, slots := 0, locals := 0 } (va_Pc [.ref (G.2.2 1), .int a0, .int a1] (PW G σ sz)) (Qv G sz out) 0 0 (AA G sz) := by
  refine Met.ofW (cc := cX4_putLeaves) (maxL := 3) (ret := none) (by decide) rfl ?_
  intro p e s m args below meth c s₁ B0 hml hv
  obtain ⟨rfl, hpw⟩ := hv
  have hsz := hpw.1
  subst hsz
  obtain ⟨F, B⟩ := hpw.to
  have hx := B0.exec
  have hb := B0.bytes
  have hr := B0.returns
  have hts := atoms_spec (ws := wsX4_putLeaves) B0.pre
  have hown : s.vm.findClass RX4 = some m.cls := findClass_of_methodNamed B0.named
  have hlocks := B0.notSynchronized
  have S : CallFix p m c cX4_putLeaves 3 s _ wsX4_putLeaves RX4 := ⟨hx, hb, hml, hown, hts⟩
  have hiX4 : ∀ w ∈ u_ws RX4 TX4 1, w ∈ wsX4_putLeaves := by decide +kernel
  have hl := lv_entry [.ref (G.2.2 1), .int a0, .int a1] (n := 3) (Nat.le_of_ble_eq_true rfl)
  rw [lg_entry_eq]
  generalize (lg_sl [.ref (G.2.2 1), .int a0, .int a1] ++ List.replicate (3 - (lg_sl [.ref (G.2.2 1), .int a0, .int a1]).length) Slot.unset).toArray = ls at hl ⊢
  have hl : lv_has ls 3 [(0, .ref (G.2.2 1)), (1, .int a0), (2, .int a1)] := hl
  unfold f_X4_putLeaves at ho
  refine lv_iload_n hx hb dX4_putLeaves_0 rfl (lv_at hl 1 rfl) ?_
  refine lv_if_lt (tgt := 17) hx hb dX4_putLeaves_1 (by decide) (fun c1 => ?_) (fun c1 => ?_)
  · have ho := ip_ c1 ho
    cases ho
    exact e_v B hx hb hr hlocks dX4_putLeaves_17
  · have ho := in_ c1 ho
    refine lv_iload_n hx hb dX4_putLeaves_4 rfl (lv_at hl 1 rfl) ?_
    refine lv_bipush (v := 24) hx hb dX4_putLeaves_5 (by decide) ?_
    refine lv_icmp_ge (tgt := 17) hx hb dX4_putLeaves_7 (by decide) (fun c2 => ?_) (fun c2 => ?_)
    · have ho := ip_ c2 ho
      cases ho
      exact e_v B hx hb hr hlocks dX4_putLeaves_17
    · have ho := in_ c2 ho
      refine lv_aload_n hx hb dX4_putLeaves_10 rfl (lv_at hl 0 rfl) ?_
      refine r_get (ci := 8) (C := RX4) (T := TX4) (N := 1) S F B (kq (by decide) : kd 1 = 1 ∧ 1 < NN) rfl rfl hiX4 0 (by decide) (by decide +kernel) rfl dX4_putLeaves_11 ?_
      refine lv_iload_n hx hb dX4_putLeaves_14 rfl (lv_at hl 1 rfl) ?_
      refine lv_iload_n hx hb dX4_putLeaves_15 rfl (lv_at hl 2 rfl) ?_
      obtain ⟨hi, ho⟩ := gd_ ho
      refine r_iast S F B (kq (by decide) : kd 2 = 2 ∧ 2 < NN) (fun _ => rfl) hi dX4_putLeaves_16 (fun H locs B => ?_)
      obtain ⟨σ3, eσ3, ho⟩ := lt_ ho
      rw [← eσ3] at B
      cases ho
      exact e_v B hx hb hr hlocks dX4_putLeaves_17

set_option maxHeartbeats 4000000 in
set_option maxRecDepth 100000 in
theorem c_X4_gaps (l : Launch) (G : Gd) (σ : Mm) (sz : Nat) {out : Int32} (ho : f_X4_gaps σ = some out) : Met l yX4_gaps wsX4_gaps { frames := 2, cells := 0, slots := 0, locals := 42 } (va_Pc [.ref (G.2.2 1)] (PW G σ sz)) (Qi G sz out σ) 0 0 (AA G sz) := by
  refine Met.ofW (cc := cX4_gaps) (maxL := 3) (ret := (some .int)) (by decide) rfl ?_
  intro p e s m args below meth c s₁ B0 hml hv
  obtain ⟨rfl, hpw⟩ := hv
  have hsz := hpw.1
  subst hsz
  obtain ⟨F, B⟩ := hpw.to
  have hx := B0.exec
  have hb := B0.bytes
  have hr := B0.returns
  have hts := atoms_spec (ws := wsX4_gaps) B0.pre
  have hown : s.vm.findClass RX4 = some m.cls := findClass_of_methodNamed B0.named
  have hlocks := B0.notSynchronized
  have S : CallFix p m c cX4_gaps 3 s _ wsX4_gaps RX4 := ⟨hx, hb, hml, hown, hts⟩
  have hl := lv_entry [.ref (G.2.2 1)] (n := 3) (Nat.le_of_ble_eq_true rfl)
  rw [lg_entry_eq]
  generalize (lg_sl [.ref (G.2.2 1)] ++ List.replicate (3 - (lg_sl [.ref (G.2.2 1)]).length) Slot.unset).toArray = ls at hl ⊢
  have hl : lv_has ls 3 [(0, .ref (G.2.2 1))] := hl
  unfold f_X4_gaps at ho
  skip
  refine lv_iconst (v := 0) hx hb dX4_gaps_0 (by decide) ?_
  refine lv_istore_n (lv' := [(1, .int 0), (0, .ref (G.2.2 1))]) hx hb dX4_gaps_1 rfl hl (by decide) rfl (fun ls hl => ?_)
  refine lv_iconst (v := 0) hx hb dX4_gaps_2 (by decide) ?_
  refine lv_istore_n (lv' := [(2, .int 0), (1, .int 0), (0, .ref (G.2.2 1))]) hx hb dX4_gaps_3 rfl hl (by decide) rfl (fun ls hl => ?_)
  have hloop4 : ∀ (n : Nat) (v4 : Int32) (v5 : Int32) (H : Heap) (locs : List Loc) (ls : Array Slot), f_X4_gaps_l4  σ n v4 v5 = some out → Bd G σ s H locs → lv_has ls 3 [(2, .int v4), (1, .int v5), (0, .ref (G.2.2 1))] → W p l e (headSpec wsX4_gaps { frames := 2, cells := 0, slots := 0, locals := 42 }).room s m #[.ref (G.2.2 1)] below meth c H locs 0 0 (MQ below (Qi G s.heap.size out σ) #[.ref (G.2.2 1)] s 0 0 (AA G s.heap.size)) (F0 m 4 ls []) := by
    intro n
    induction n with
    | zero => intro v4 v5 H locs ls ho B hl; cases ho
    | succ n ih =>
      intro v4 v5 H locs ls ho B hl
      refine lv_iload_n hx hb dX4_gaps_4 rfl (lv_at hl 0 rfl) ?_
      refine lv_bipush (v := 24) hx hb dX4_gaps_5 (by decide) ?_
      refine lv_icmp_ge (tgt := 27) hx hb dX4_gaps_7 (by decide) (fun c6 => ?_) (fun c6 => ?_)
      · have ho := ip_ c6 ho
        refine lv_iload_n hx hb dX4_gaps_27 rfl (lv_at hl 1 rfl) ?_
        cases ho
        exact e_i B hx hb hr hlocks rfl rfl dX4_gaps_28
      · have ho := in_ c6 ho
        refine lv_aload_n hx hb dX4_gaps_10 rfl (lv_at hl 2 rfl) ?_
        refine lv_iload_n hx hb dX4_gaps_11 rfl (lv_at hl 0 rfl) ?_
        obtain ⟨q7, hq7, ho⟩ := bnd_ ho
        refine k_iV (As := [.int v4]) (rest := []) S F B (c_X4_isOpen l G σ _ v4 hq7) (kq (by decide) : kd 1 = 1 ∧ 1 < NN) rfl rfl (cwV 1 hts gX4_gaps_X4_isOpen rfl rfl rfl (by decide +kernel) ⟨Nat.le_of_ble_eq_true rfl, Nat.le_of_ble_eq_true rfl⟩) rfl hl.1 rfl (Nat.le_of_ble_eq_true rfl) dX4_gaps_12 ⟨Nat.le_of_ble_eq_true rfl, Nat.le_of_ble_eq_true rfl⟩ (fun H locs B => ?_)
        refine lv_if_eq (tgt := 21) hx hb dX4_gaps_15 (by decide) (fun c8 => ?_) (fun c8 => ?_)
        · have ho := ip_ c8 ho
          obtain ⟨x9, ex9, ho⟩ := lt_ ho
          refine lv_iinc (v := x9) (lv' := [(2, .int x9), (1, .int v5), (0, .ref (G.2.2 1))]) hx hb dX4_gaps_21 hl (k := 0) rfl (by rw [ex9]; rfl) (by decide) rfl (fun ls hl => ?_)
          refine lv_goto (tgt := 4) hx hb dX4_gaps_24 (by decide) ?_
          exact ih _ _  _ _ _ ho B (lv_sub hl [0, 1, 2] rfl)
        · have ho := in_ c8 ho
          obtain ⟨x10, ex10, ho⟩ := lt_ ho
          refine lv_iinc (v := x10) (lv' := [(1, .int x10), (2, .int v4), (0, .ref (G.2.2 1))]) hx hb dX4_gaps_18 hl (k := 1) rfl (by rw [ex10]; rfl) (by decide) rfl (fun ls hl => ?_)
          obtain ⟨x11, ex11, ho⟩ := lt_ ho
          refine lv_iinc (v := x11) (lv' := [(2, .int x11), (1, .int x10), (0, .ref (G.2.2 1))]) hx hb dX4_gaps_21 hl (k := 1) rfl (by rw [ex11]; rfl) (by decide) rfl (fun ls hl => ?_)
          refine lv_goto (tgt := 4) hx hb dX4_gaps_24 (by decide) ?_
          exact ih _ _  _ _ _ ho B (lv_sub hl [0, 1, 2] rfl)
  exact hloop4 30 _ _  _ _ _ ho B hl

set_option maxHeartbeats 4000000 in
set_option maxRecDepth 100000 in
theorem c_X4_grow (l : Launch) (G : Gd) (σ : Mm) (sz : Nat) {out : Mm} (ho : f_X4_grow σ = some out) : Met l yX4_grow wsX4_grow { frames := 1, cells := 0, slots := 0, locals := 32 } (va_Pc [.ref (G.2.2 1)] (PW G σ sz)) (Qv G sz out) 0 0 (AA G sz) := by
  refine Met.ofW (cc := cX4_grow) (maxL := 2) (ret := none) (by decide) rfl ?_
  intro p e s m args below meth c s₁ B0 hml hv
  obtain ⟨rfl, hpw⟩ := hv
  have hsz := hpw.1
  subst hsz
  obtain ⟨F, B⟩ := hpw.to
  have hx := B0.exec
  have hb := B0.bytes
  have hr := B0.returns
  have hts := atoms_spec (ws := wsX4_grow) B0.pre
  have hown : s.vm.findClass RX4 = some m.cls := findClass_of_methodNamed B0.named
  have hlocks := B0.notSynchronized
  have S : CallFix p m c cX4_grow 2 s _ wsX4_grow RX4 := ⟨hx, hb, hml, hown, hts⟩
  have hiX4 : ∀ w ∈ u_ws RX4 TX4 1, w ∈ wsX4_grow := by decide +kernel
  have hl := lv_entry [.ref (G.2.2 1)] (n := 2) (Nat.le_of_ble_eq_true rfl)
  rw [lg_entry_eq]
  generalize (lg_sl [.ref (G.2.2 1)] ++ List.replicate (2 - (lg_sl [.ref (G.2.2 1)]).length) Slot.unset).toArray = ls at hl ⊢
  have hl : lv_has ls 2 [(0, .ref (G.2.2 1))] := hl
  unfold f_X4_grow at ho
  skip
  refine lv_iconst (v := 0) hx hb dX4_grow_0 (by decide) ?_
  refine lv_istore_n (lv' := [(1, .int 0), (0, .ref (G.2.2 1))]) hx hb dX4_grow_1 rfl hl (by decide) rfl (fun ls hl => ?_)
  have hloop2 : ∀ (n : Nat) (v4 : Int32) (σ5 : Mm) (H : Heap) (locs : List Loc) (ls : Array Slot), f_X4_grow_l2   n v4 σ5 = some out → Bd G σ5 s H locs → lv_has ls 2 [(1, .int v4), (0, .ref (G.2.2 1))] → W p l e (headSpec wsX4_grow { frames := 1, cells := 0, slots := 0, locals := 32 }).room s m #[.ref (G.2.2 1)] below meth c H locs 0 0 (MQ below (Qv G s.heap.size out) #[.ref (G.2.2 1)] s 0 0 (AA G s.heap.size)) (F0 m 2 ls []) := by
    intro n
    induction n with
    | zero => intro v4 σ5 H locs ls ho B hl; cases ho
    | succ n ih =>
      intro v4 σ5 H locs ls ho B hl
      refine lv_iload_n hx hb dX4_grow_2 rfl (lv_at hl 0 rfl) ?_
      refine lv_bipush (v := 24) hx hb dX4_grow_3 (by decide) ?_
      refine lv_icmp_ge (tgt := 33) hx hb dX4_grow_5 (by decide) (fun c6 => ?_) (fun c6 => ?_)
      · have ho := ip_ c6 ho
        cases ho
        exact e_v B hx hb hr hlocks dX4_grow_33
      · have ho := in_ c6 ho
        refine lv_aload_n hx hb dX4_grow_8 rfl (lv_at hl 1 rfl) ?_
        refine r_get (ci := 8) (C := RX4) (T := TX4) (N := 1) S F B (kq (by decide) : kd 1 = 1 ∧ 1 < NN) rfl rfl hiX4 0 (by decide) (by decide +kernel) rfl dX4_grow_9 ?_
        refine lv_iload_n hx hb dX4_grow_12 rfl (lv_at hl 0 rfl) ?_
        refine lv_bipush (v := 9) hx hb dX4_grow_13 (by decide) ?_
        refine lv_aload_n hx hb dX4_grow_15 rfl (lv_at hl 1 rfl) ?_
        refine r_get (ci := 8) (C := RX4) (T := TX4) (N := 1) S F B (kq (by decide) : kd 1 = 1 ∧ 1 < NN) rfl rfl hiX4 0 (by decide) (by decide +kernel) rfl dX4_grow_16 ?_
        refine lv_iload_n hx hb dX4_grow_19 rfl (lv_at hl 0 rfl) ?_
        obtain ⟨hi, ho⟩ := gd_ ho
        refine r_iald S F B (kq (by decide) : kd 2 = 2 ∧ 2 < NN) rfl hi dX4_grow_20 ?_
        refine lv_iconst (v := 1) hx hb dX4_grow_21 (by decide) ?_
        refine lv_iadd hx hb dX4_grow_22 ?_
        refine va_mmin hx hb (hml.trans hl.1.symm) hown (hts _ (by decide +kernel)) (hts _ (by decide +kernel)) (hts _ (by decide +kernel)) (hts _ (by decide +kernel)) (Nat.le_of_ble_eq_true rfl) (Nat.le_of_ble_eq_true rfl) (Nat.le_of_ble_eq_true rfl) (Nat.le_of_ble_eq_true rfl) dX4_grow_23 ?_
        obtain ⟨hi, ho⟩ := gd_ ho
        refine r_iast S F B (kq (by decide) : kd 2 = 2 ∧ 2 < NN) (fun _ => rfl) hi dX4_grow_26 (fun H locs B => ?_)
        obtain ⟨σ7, eσ7, ho⟩ := lt_ ho
        rw [← eσ7] at B
        obtain ⟨x8, ex8, ho⟩ := lt_ ho
        refine lv_iinc (v := x8) (lv' := [(1, .int x8), (0, .ref (G.2.2 1))]) hx hb dX4_grow_27 hl (k := 0) rfl (by rw [ex8]; rfl) (by decide) rfl (fun ls hl => ?_)
        refine lv_goto (tgt := 2) hx hb dX4_grow_30 (by decide) ?_
        exact ih _ _ _ _ _ ho B (lv_sub hl [0, 1] rfl)
  exact hloop2 30 _ _ _ _ _ ho B hl

set_option maxHeartbeats 4000000 in
set_option maxRecDepth 100000 in
theorem c_X4_copyFrom (l : Launch) (G : Gd) (σ : Mm) (sz : Nat) (i : Nat) (o0 : Nat) (hi9 : isS i) (ho0 : isS o0) {out : Mm} (ho : f_X4_copyFrom i o0 σ = some out) : Met l yX4_copyFrom wsX4_copyFrom { frames := 1, cells := 0, slots := 0, locals := 40 } (va_Pc [.ref (G.2.2 (i + 1)), .ref (G.2.2 (o0 + 1))] (PW G σ sz)) (Qv G sz out) 0 0 (AA G sz) := by
  refine Met.ofW (cc := cX4_copyFrom) (maxL := 2) (ret := none) (by decide) rfl ?_
  intro p e s m args below meth c s₁ B0 hml hv
  obtain ⟨rfl, hpw⟩ := hv
  have hsz := hpw.1
  subst hsz
  obtain ⟨F, B⟩ := hpw.to
  have hx := B0.exec
  have hb := B0.bytes
  have hr := B0.returns
  have hts := atoms_spec (ws := wsX4_copyFrom) B0.pre
  have hown : s.vm.findClass RX4 = some m.cls := findClass_of_methodNamed B0.named
  have hlocks := B0.notSynchronized
  have S : CallFix p m c cX4_copyFrom 2 s _ wsX4_copyFrom RX4 := ⟨hx, hb, hml, hown, hts⟩
  have hiX4 : ∀ w ∈ u_ws RX4 TX4 1, w ∈ wsX4_copyFrom := by decide +kernel
  have hl := lv_entry [.ref (G.2.2 (i + 1)), .ref (G.2.2 (o0 + 1))] (n := 2) (Nat.le_of_ble_eq_true rfl)
  rw [lg_entry_eq]
  generalize (lg_sl [.ref (G.2.2 (i + 1)), .ref (G.2.2 (o0 + 1))] ++ List.replicate (2 - (lg_sl [.ref (G.2.2 (i + 1)), .ref (G.2.2 (o0 + 1))]).length) Slot.unset).toArray = ls at hl ⊢
  have hl : lv_has ls 2 [(0, .ref (G.2.2 (i + 1))), (1, .ref (G.2.2 (o0 + 1)))] := hl
  unfold f_X4_copyFrom at ho
  refine lv_aload_n hx hb dX4_copyFrom_0 rfl (lv_at hl 1 rfl) ?_
  refine r_get (ci := 8) (C := RX4) (T := TX4) (N := 1) S F B ho0.t1 rfl rfl hiX4 0 (by decide) (by decide +kernel) rfl dX4_copyFrom_1 ?_
  refine lv_iconst (v := 0) hx hb dX4_copyFrom_4 (by decide) ?_
  refine lv_aload_n hx hb dX4_copyFrom_5 rfl (lv_at hl 0 rfl) ?_
  refine r_get (ci := 8) (C := RX4) (T := TX4) (N := 1) S F B hi9.t1 rfl rfl hiX4 0 (by decide) (by decide +kernel) rfl dX4_copyFrom_6 ?_
  refine lv_iconst (v := 0) hx hb dX4_copyFrom_9 (by decide) ?_
  refine lv_bipush (v := 24) hx hb dX4_copyFrom_10 (by decide) ?_
  refine r_copyi (N := 24) S F B (ho0.t2) (hi9.t2) (fun _ => rfl) (fun _ => rfl) (by decide) (hml.trans hl.1.symm) (by decide +kernel) (by decide +kernel) (by decide +kernel) (by decide +kernel) (Nat.le_of_ble_eq_true rfl) (Nat.le_of_ble_eq_true rfl) (by decide) dX4_copyFrom_12 (fun H locs B => ?_)
  obtain ⟨σ1, eσ1, ho⟩ := lt_ ho
  rw [← eσ1] at B
  cases ho
  exact e_v B hx hb hr hlocks dX4_copyFrom_15
