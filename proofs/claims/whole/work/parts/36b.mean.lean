def f_X9_meanLost (σ : Mm) : Option ((UInt64 ⊕ Nat) × Mm) := if (σ 0 4) = 0 then (some (Sum.inr 5, σ)) else (bnd (f_X6_totalOf 4 σ) fun q2 => dnz (FP.ddiv (FP.i2d q2) (FP.i2d (σ 0 4))) (some (Sum.inl (FP.ddiv (FP.i2d q2) (FP.i2d (σ 0 4))), σ)))
def f_X9_gapShare (σ : Mm) : Option (UInt32) := bnd (f_X4_gaps σ) fun q1 => fnz (FP.fdiv (FP.i2f q1) (1103101952 : UInt32)) (some (FP.fdiv (FP.i2f q1) (1103101952 : UInt32)))
def f_X10_meanLost_l26 (σ1 : Mm) : Nat → Int32 → Int32 → Option (UInt64 × Mm)
  | 0, _, _ => none
  | n + 1, v6, v7 => if (σ1 199 1) ≤ v6 then (dnz (FP.ddiv (FP.i2d v7) (FP.i2d (σ1 199 1))) (some ((FP.ddiv (FP.i2d v7) (FP.i2d (σ1 199 1))), σ1))) else (bnd (f_X10_lostOf v6 σ1) fun q9 => lt (v7 + q9) fun x10 => lt (v6 + 1) fun x11 => f_X10_meanLost_l26  σ1 n x11 x10)
def f_X10_meanLost (σ : Mm) : Option (UInt64 × Mm) := lt (up σ 198 12 0) fun σ1 => if (σ1 199 1) = 0 then (bnm (f_X10_throwing 1 σ1) fun q12 σ13 => some (FP.dconst0, σ13)) else (f_X10_meanLost_l26  σ1 8 0 0)
def f_X10_gapShare (σ : Mm) : Option (UInt32 × Mm) := lt (up σ 198 12 0) fun σ1 => bnd (f_X10_gaps σ1) fun q2 => fnz (FP.fdiv (FP.i2f q2) (1103101952 : UInt32)) (some ((FP.fdiv (FP.i2f q2) (1103101952 : UInt32)), σ1))
set_option maxHeartbeats 4000000 in
set_option maxRecDepth 100000 in
theorem c_X9_meanLost (l : Launch) (hl9 : l.stackTraces = false) (G : Gd) (σ : Mm) (sz : Nat) {out : (UInt64 ⊕ Nat) × Mm} (ho : f_X9_meanLost σ = some out) : vx_Met l yX9_meanLost wsX9_meanLost { frames := 6, cells := 1, slots := 6, locals := 110 } (va_Pc [.ref (G.2.2 154)] (PW G σ sz)) (Xd G sz out) (XX G sz out) 1 6 (AA G sz) := by
  refine vx_ofW (cc := cX9_meanLost) (maxL := 1) (ret := (some .double)) (by decide) rfl ?_
  intro p e s m args below meth c s₁ B0 hml ht9 hv
  obtain ⟨rfl, hpw⟩ := hv
  have hsz := hpw.1
  subst hsz
  obtain ⟨F, B⟩ := hpw.to
  have hx := B0.exec
  have hb := B0.bytes
  have hr := B0.returns
  have hts := atoms_spec (ws := wsX9_meanLost) B0.pre
  have hown : s.vm.findClass RX9 = some m.cls := findClass_of_methodNamed B0.named
  have hlocks := B0.notSynchronized
  have S : CallFix p m c cX9_meanLost 1 s _ wsX9_meanLost RX9 := ⟨hx, hb, hml, hown, hts⟩
  have hiX9 : ∀ w ∈ u_ws RX9 TX9 10, w ∈ wsX9_meanLost := by decide +kernel
  have hiX6 : ∀ w ∈ u_ws RX6 TX6 9, w ∈ wsX9_meanLost := by decide +kernel
  have hl := lv_entry [.ref (G.2.2 154)] (n := 1) (Nat.le_of_ble_eq_true rfl)
  rw [lg_entry_eq]
  generalize (lg_sl [.ref (G.2.2 154)] ++ List.replicate (1 - (lg_sl [.ref (G.2.2 154)]).length) Slot.unset).toArray = ls at hl ⊢
  have hl : lv_has ls 1 [(0, .ref (G.2.2 154))] := hl
  unfold f_X9_meanLost at ho
  refine lv_aload_n hx hb dX9_meanLost_0 rfl (lv_at hl 0 rfl) ?_
  refine r_get (ci := 13) (C := RX9) (T := TX9) (N := 10) S F B (kq (by decide) : kd 154 = 7 ∧ 154 < NN) rfl rfl hiX9 0 (by decide) (by decide +kernel) rfl dX9_meanLost_1 ?_
  refine r_getN (ci := 10) (C := RX6) (T := TX6) (N := 9) S F B (kq (by decide) : kd 0 = 0 ∧ 0 < NN) rfl rfl hiX6 4 (by decide) (by decide) rfl dX9_meanLost_4 ?_
  refine lv_if_ne (tgt := 21) hx hb dX9_meanLost_7 (by decide) (fun c1 => ?_) (fun c1 => ?_)
  · have ho := in_ c1 ho
    refine lv_aload_n hx hb dX9_meanLost_21 rfl (lv_at hl 0 rfl) ?_
    refine r_get (ci := 13) (C := RX9) (T := TX9) (N := 10) S F B (kq (by decide) : kd 154 = 7 ∧ 154 < NN) rfl rfl hiX9 0 (by decide) (by decide +kernel) rfl dX9_meanLost_22 ?_
    refine lv_iconst (v := 4) hx hb dX9_meanLost_25 (by decide) ?_
    obtain ⟨q2, hq2, ho⟩ := bnd_ ho
    refine k_iV (As := [.int 4]) (rest := []) S F B (c_X6_totalOf l G σ _ 4 hq2) (kq (by decide) : kd 0 = 0 ∧ 0 < NN) rfl rfl (cwV 1 hts gX9_meanLost_X6_totalOf rfl rfl rfl (by decide +kernel) ⟨Nat.le_of_ble_eq_true rfl, Nat.le_of_ble_eq_true rfl⟩) rfl hl.1 rfl (Nat.le_of_ble_eq_true rfl) dX9_meanLost_26 ⟨Nat.le_of_ble_eq_true rfl, Nat.le_of_ble_eq_true rfl⟩ (fun H locs B => ?_)
    refine lv_i2d hx hb dX9_meanLost_29 ?_
    refine lv_aload_n hx hb dX9_meanLost_30 rfl (lv_at hl 0 rfl) ?_
    refine r_get (ci := 13) (C := RX9) (T := TX9) (N := 10) S F B (kq (by decide) : kd 154 = 7 ∧ 154 < NN) rfl rfl hiX9 0 (by decide) (by decide +kernel) rfl dX9_meanLost_31 ?_
    refine r_getN (ci := 10) (C := RX6) (T := TX6) (N := 9) S F B (kq (by decide) : kd 0 = 0 ∧ 0 < NN) rfl rfl hiX6 4 (by decide) (by decide) rfl dX9_meanLost_34 ?_
    refine lv_i2d hx hb dX9_meanLost_37 ?_
    obtain ⟨h0, ho⟩ := dnz_ ho
    refine lv_ddiv hx hb dX9_meanLost_38 h0 ?_
    refine W.widen (k := 1) (n := 6) (by decide) (by decide) ?_
    cases ho
    exact xe_d B hx hb hr hlocks rfl rfl dX9_meanLost_39
  · have ho := ip_ c1 ho
    cases ho
    exact t_throwSW 5 28 (by decide) (by decide) S F B hl9 hlocks ht9 hl.1 rfl rfl (by decide +kernel) (by decide +kernel) (by decide +kernel) (by decide +kernel) (Nat.le_of_ble_eq_true rfl) (Nat.le_of_ble_eq_true rfl) (Nat.le_of_ble_eq_true rfl) (Nat.le_of_ble_eq_true rfl) (Nat.le_of_ble_eq_true rfl) (Nat.le_of_ble_eq_true rfl) dX9_meanLost_10 dX9_meanLost_13 dX9_meanLost_14 dX9_meanLost_17 dX9_meanLost_20

set_option maxHeartbeats 4000000 in
set_option maxRecDepth 100000 in
theorem c_X9_gapShare (l : Launch) (G : Gd) (σ : Mm) (sz : Nat) {out : UInt32} (ho : f_X9_gapShare σ = some out) : Met l yX9_gapShare wsX9_gapShare { frames := 3, cells := 0, slots := 0, locals := 64 } (va_Pc [.ref (G.2.2 154)] (PW G σ sz)) (Qf G sz out σ) 0 0 (AA G sz) := by
  refine Met.ofW (cc := cX9_gapShare) (maxL := 1) (ret := (some .float)) (by decide) rfl ?_
  intro p e s m args below meth c s₁ B0 hml hv
  obtain ⟨rfl, hpw⟩ := hv
  have hsz := hpw.1
  subst hsz
  obtain ⟨F, B⟩ := hpw.to
  have hx := B0.exec
  have hb := B0.bytes
  have hr := B0.returns
  have hts := atoms_spec (ws := wsX9_gapShare) B0.pre
  have hown : s.vm.findClass RX9 = some m.cls := findClass_of_methodNamed B0.named
  have hlocks := B0.notSynchronized
  have S : CallFix p m c cX9_gapShare 1 s _ wsX9_gapShare RX9 := ⟨hx, hb, hml, hown, hts⟩
  have hiX9 : ∀ w ∈ u_ws RX9 TX9 10, w ∈ wsX9_gapShare := by decide +kernel
  have hiX6 : ∀ w ∈ u_ws RX6 TX6 9, w ∈ wsX9_gapShare := by decide +kernel
  have hl := lv_entry [.ref (G.2.2 154)] (n := 1) (Nat.le_of_ble_eq_true rfl)
  rw [lg_entry_eq]
  generalize (lg_sl [.ref (G.2.2 154)] ++ List.replicate (1 - (lg_sl [.ref (G.2.2 154)]).length) Slot.unset).toArray = ls at hl ⊢
  have hl : lv_has ls 1 [(0, .ref (G.2.2 154))] := hl
  unfold f_X9_gapShare at ho
  refine lv_aload_n hx hb dX9_gapShare_0 rfl (lv_at hl 0 rfl) ?_
  refine r_get (ci := 13) (C := RX9) (T := TX9) (N := 10) S F B (kq (by decide) : kd 154 = 7 ∧ 154 < NN) rfl rfl hiX9 0 (by decide) (by decide +kernel) rfl dX9_gapShare_1 ?_
  refine r_getN (ci := 10) (C := RX6) (T := TX6) (N := 9) S F B (kq (by decide) : kd 0 = 0 ∧ 0 < NN) rfl rfl hiX6 0 (by decide) (by decide) rfl dX9_gapShare_4 ?_
  obtain ⟨q1, hq1, ho⟩ := bnd_ ho
  refine k_iV (As := []) (rest := []) S F B (c_X4_gaps l G σ _ hq1) (kq (by decide) : kd 1 = 1 ∧ 1 < NN) rfl rfl (cwV 0 hts gX9_gapShare_X4_gaps rfl rfl rfl (by decide +kernel) ⟨Nat.le_of_ble_eq_true rfl, Nat.le_of_ble_eq_true rfl⟩) rfl hl.1 rfl (Nat.le_of_ble_eq_true rfl) dX9_gapShare_7 ⟨Nat.le_of_ble_eq_true rfl, Nat.le_of_ble_eq_true rfl⟩ (fun H locs B => ?_)
  refine lv_i2f hx hb dX9_gapShare_10 ?_
  refine lv_ldcwf (v := 1103101952) hx hb hown (hts _ (by decide +kernel)) dX9_gapShare_11 ?_
  obtain ⟨h0, ho⟩ := fnz_ ho
  refine lv_fdiv hx hb dX9_gapShare_14 h0 ?_
  cases ho
  exact e_f B hx hb hr hlocks rfl dX9_gapShare_15

set_option maxHeartbeats 4000000 in
set_option maxRecDepth 100000 in
theorem c_X10_meanLost (l : Launch) (G : Gd) (σ : Mm) (sz : Nat) {out : UInt64 × Mm} (ho : f_X10_meanLost σ = some out) : Met l yX10_meanLost wsX10_meanLost { frames := 2, cells := 0, slots := 0, locals := 54 } (va_Pc [.ref (G.2.2 198)] (PW G σ sz)) (Qd G sz out.1 out.2) 0 0 (AA G sz) := by
  refine Met.ofW (cc := cX10_meanLost) (maxL := 3) (ret := (some .double)) (by decide) rfl ?_
  intro p e s m args below meth c s₁ B0 hml hv
  obtain ⟨rfl, hpw⟩ := hv
  have hsz := hpw.1
  subst hsz
  obtain ⟨F, B⟩ := hpw.to
  have hx := B0.exec
  have hb := B0.bytes
  have hr := B0.returns
  have hts := atoms_spec (ws := wsX10_meanLost) B0.pre
  have hown : s.vm.findClass RX10 = some m.cls := findClass_of_methodNamed B0.named
  have hlocks := B0.notSynchronized
  have S : CallFix p m c cX10_meanLost 3 s _ wsX10_meanLost RX10 := ⟨hx, hb, hml, hown, hts⟩
  have hiX10 : ∀ w ∈ u_ws RX10 TX10 21, w ∈ wsX10_meanLost := by decide +kernel
  have hl := lv_entry [.ref (G.2.2 198)] (n := 3) (Nat.le_of_ble_eq_true rfl)
  rw [lg_entry_eq]
  generalize (lg_sl [.ref (G.2.2 198)] ++ List.replicate (3 - (lg_sl [.ref (G.2.2 198)]).length) Slot.unset).toArray = ls at hl ⊢
  have hl : lv_has ls 3 [(0, .ref (G.2.2 198))] := hl
  unfold f_X10_meanLost at ho
  skip
  refine lv_aload_n hx hb dX10_meanLost_0 rfl (lv_at hl 0 rfl) ?_
  refine lv_iconst (v := 0) hx hb dX10_meanLost_1 (by decide) ?_
  refine r_put (ci := 14) (C := RX10) (T := TX10) (N := 21) (ty := .int) S F B tyX10 tyX10_ok nmX10 (kq (by decide) : kd 198 = 21 ∧ 198 < NN) (fun _ => rfl) rfl hiX10 12 (by decide) (by decide +kernel) rfl rfl rfl rfl (fun _ => Nat.le_of_ble_eq_true rfl) (fun _ => rfl) dX10_meanLost_2 (fun H locs B => ?_)
  obtain ⟨σ1, eσ1, ho⟩ := lt_ ho
  rw [← eσ1] at B
  refine lv_aload_n hx hb dX10_meanLost_5 rfl (lv_at hl 0 rfl) ?_
  refine r_get (ci := 14) (C := RX10) (T := TX10) (N := 21) S F B (kq (by decide) : kd 198 = 21 ∧ 198 < NN) rfl rfl hiX10 0 (by decide) (by decide +kernel) rfl dX10_meanLost_6 ?_
  refine lv_iconst (v := 1) hx hb dX10_meanLost_9 (by decide) ?_
  refine r_ialdc (j := 1) S F B (kq (by decide) : kd 199 = 22 ∧ 199 < NN) rfl (vpc (by decide)) (by decide) dX10_meanLost_10 ?_
  refine lv_if_ne (tgt := 22) hx hb dX10_meanLost_11 (by decide) (fun c2 => ?_) (fun c2 => ?_)
  · have ho := in_ c2 ho
    refine lv_iconst (v := 0) hx hb dX10_meanLost_22 (by decide) ?_
    refine lv_istore_n (lv' := [(1, .int 0), (0, .ref (G.2.2 198))]) hx hb dX10_meanLost_23 rfl hl (by decide) rfl (fun ls hl => ?_)
    refine lv_iconst (v := 0) hx hb dX10_meanLost_24 (by decide) ?_
    refine lv_istore_n (lv' := [(2, .int 0), (1, .int 0), (0, .ref (G.2.2 198))]) hx hb dX10_meanLost_25 rfl hl (by decide) rfl (fun ls hl => ?_)
    have hloop26 : ∀ (n : Nat) (v6 : Int32) (v7 : Int32) (H : Heap) (locs : List Loc) (ls : Array Slot), f_X10_meanLost_l26  σ1 n v6 v7 = some out → Bd G σ1 s H locs → lv_has ls 3 [(2, .int v6), (1, .int v7), (0, .ref (G.2.2 198))] → W p l e (headSpec wsX10_meanLost { frames := 2, cells := 0, slots := 0, locals := 54 }).room s m #[.ref (G.2.2 198)] below meth c H locs 0 0 (MQ below (Qd G s.heap.size out.1 out.2) #[.ref (G.2.2 198)] s 0 0 (AA G s.heap.size)) (F0 m 26 ls []) := by
      intro n
      induction n with
      | zero => intro v6 v7 H locs ls ho B hl; cases ho
      | succ n ih =>
        intro v6 v7 H locs ls ho B hl
        refine lv_iload_n hx hb dX10_meanLost_26 rfl (lv_at hl 0 rfl) ?_
        refine lv_aload_n hx hb dX10_meanLost_27 rfl (lv_at hl 2 rfl) ?_
        refine r_get (ci := 14) (C := RX10) (T := TX10) (N := 21) S F B (kq (by decide) : kd 198 = 21 ∧ 198 < NN) rfl rfl hiX10 0 (by decide) (by decide +kernel) rfl dX10_meanLost_28 ?_
        refine lv_iconst (v := 1) hx hb dX10_meanLost_31 (by decide) ?_
        refine r_ialdc (j := 1) S F B (kq (by decide) : kd 199 = 22 ∧ 199 < NN) rfl (vpc (by decide)) (by decide) dX10_meanLost_32 ?_
        refine lv_icmp_ge (tgt := 50) hx hb dX10_meanLost_33 (by decide) (fun c8 => ?_) (fun c8 => ?_)
        · have ho := ip_ c8 ho
          refine lv_iload_n hx hb dX10_meanLost_50 rfl (lv_at hl 1 rfl) ?_
          refine lv_i2d hx hb dX10_meanLost_51 ?_
          refine lv_aload_n hx hb dX10_meanLost_52 rfl (lv_at hl 2 rfl) ?_
          refine r_get (ci := 14) (C := RX10) (T := TX10) (N := 21) S F B (kq (by decide) : kd 198 = 21 ∧ 198 < NN) rfl rfl hiX10 0 (by decide) (by decide +kernel) rfl dX10_meanLost_53 ?_
          refine lv_iconst (v := 1) hx hb dX10_meanLost_56 (by decide) ?_
          refine r_ialdc (j := 1) S F B (kq (by decide) : kd 199 = 22 ∧ 199 < NN) rfl (vpc (by decide)) (by decide) dX10_meanLost_57 ?_
          refine lv_i2d hx hb dX10_meanLost_58 ?_
          obtain ⟨h0, ho⟩ := dnz_ ho
          refine lv_ddiv hx hb dX10_meanLost_59 h0 ?_
          cases ho
          exact e_d B hx hb hr hlocks rfl dX10_meanLost_60
        · have ho := in_ c8 ho
          refine lv_iload_n hx hb dX10_meanLost_36 rfl (lv_at hl 1 rfl) ?_
          refine lv_aload_n hx hb dX10_meanLost_37 rfl (lv_at hl 2 rfl) ?_
          refine lv_iload_n hx hb dX10_meanLost_38 rfl (lv_at hl 0 rfl) ?_
          obtain ⟨q9, hq9, ho⟩ := bnd_ ho
          refine k_iV (As := [.int v6]) (rest := [.int v7]) S F B (c_X10_lostOf l G σ1 _ v6 hq9) (kq (by decide) : kd 198 = 21 ∧ 198 < NN) rfl rfl (cwV 1 hts gX10_meanLost_X10_lostOf rfl rfl rfl (by decide +kernel) ⟨Nat.le_of_ble_eq_true rfl, Nat.le_of_ble_eq_true rfl⟩) rfl hl.1 rfl (Nat.le_of_ble_eq_true rfl) dX10_meanLost_39 ⟨Nat.le_of_ble_eq_true rfl, Nat.le_of_ble_eq_true rfl⟩ (fun H locs B => ?_)
          refine lv_iadd hx hb dX10_meanLost_42 ?_
          obtain ⟨x10, ex10, ho⟩ := lt_ ho
          refine lv_nm ex10 ?_
          refine lv_istore_n (lv' := [(1, .int x10), (2, .int v6), (0, .ref (G.2.2 198))]) hx hb dX10_meanLost_43 rfl hl (by decide) rfl (fun ls hl => ?_)
          obtain ⟨x11, ex11, ho⟩ := lt_ ho
          refine lv_iinc (v := x11) (lv' := [(2, .int x11), (1, .int x10), (0, .ref (G.2.2 198))]) hx hb dX10_meanLost_44 hl (k := 1) rfl (by rw [ex11]; rfl) (by decide) rfl (fun ls hl => ?_)
          refine lv_goto (tgt := 26) hx hb dX10_meanLost_47 (by decide) ?_
          exact ih _ _  _ _ _ ho B (lv_sub hl [0, 1, 2] rfl)
    exact hloop26 8 _ _  _ _ _ ho B hl
  · have ho := ip_ c2 ho
    refine lv_aload_n hx hb dX10_meanLost_14 rfl (lv_at hl 0 rfl) ?_
    refine lv_iconst (v := 1) hx hb dX10_meanLost_15 (by decide) ?_
    obtain ⟨q12, σ13, hq12, ho⟩ := bnm_ ho
    refine k_iV (As := [.int 1]) (rest := []) S F B (c_X10_throwing l G σ1 _ 1 hq12) (kq (by decide) : kd 198 = 21 ∧ 198 < NN) rfl rfl (cwV 1 hts gX10_meanLost_X10_throwing rfl rfl rfl (by decide +kernel) ⟨Nat.le_of_ble_eq_true rfl, Nat.le_of_ble_eq_true rfl⟩) rfl hl.1 rfl (Nat.le_of_ble_eq_true rfl) dX10_meanLost_16 ⟨Nat.le_of_ble_eq_true rfl, Nat.le_of_ble_eq_true rfl⟩ (fun H locs B => ?_)
    refine lv_pop hx hb dX10_meanLost_19 rfl ?_
    refine lv_dconst0 hx hb dX10_meanLost_20 ?_
    cases ho
    exact e_d B hx hb hr hlocks rfl dX10_meanLost_21

set_option maxHeartbeats 4000000 in
set_option maxRecDepth 100000 in
theorem c_X10_gapShare (l : Launch) (G : Gd) (σ : Mm) (sz : Nat) {out : UInt32 × Mm} (ho : f_X10_gapShare σ = some out) : Met l yX10_gapShare wsX10_gapShare { frames := 2, cells := 0, slots := 0, locals := 43 } (va_Pc [.ref (G.2.2 198)] (PW G σ sz)) (Qf G sz out.1 out.2) 0 0 (AA G sz) := by
  refine Met.ofW (cc := cX10_gapShare) (maxL := 1) (ret := (some .float)) (by decide) rfl ?_
  intro p e s m args below meth c s₁ B0 hml hv
  obtain ⟨rfl, hpw⟩ := hv
  have hsz := hpw.1
  subst hsz
  obtain ⟨F, B⟩ := hpw.to
  have hx := B0.exec
  have hb := B0.bytes
  have hr := B0.returns
  have hts := atoms_spec (ws := wsX10_gapShare) B0.pre
  have hown : s.vm.findClass RX10 = some m.cls := findClass_of_methodNamed B0.named
  have hlocks := B0.notSynchronized
  have S : CallFix p m c cX10_gapShare 1 s _ wsX10_gapShare RX10 := ⟨hx, hb, hml, hown, hts⟩
  have hiX10 : ∀ w ∈ u_ws RX10 TX10 21, w ∈ wsX10_gapShare := by decide +kernel
  have hl := lv_entry [.ref (G.2.2 198)] (n := 1) (Nat.le_of_ble_eq_true rfl)
  rw [lg_entry_eq]
  generalize (lg_sl [.ref (G.2.2 198)] ++ List.replicate (1 - (lg_sl [.ref (G.2.2 198)]).length) Slot.unset).toArray = ls at hl ⊢
  have hl : lv_has ls 1 [(0, .ref (G.2.2 198))] := hl
  unfold f_X10_gapShare at ho
  refine lv_aload_n hx hb dX10_gapShare_0 rfl (lv_at hl 0 rfl) ?_
  refine lv_iconst (v := 0) hx hb dX10_gapShare_1 (by decide) ?_
  refine r_put (ci := 14) (C := RX10) (T := TX10) (N := 21) (ty := .int) S F B tyX10 tyX10_ok nmX10 (kq (by decide) : kd 198 = 21 ∧ 198 < NN) (fun _ => rfl) rfl hiX10 12 (by decide) (by decide +kernel) rfl rfl rfl rfl (fun _ => Nat.le_of_ble_eq_true rfl) (fun _ => rfl) dX10_gapShare_2 (fun H locs B => ?_)
  obtain ⟨σ1, eσ1, ho⟩ := lt_ ho
  rw [← eσ1] at B
  refine lv_aload_n hx hb dX10_gapShare_5 rfl (lv_at hl 0 rfl) ?_
  obtain ⟨q2, hq2, ho⟩ := bnd_ ho
  refine k_iV (As := []) (rest := []) S F B (c_X10_gaps l G σ1 _ hq2) (kq (by decide) : kd 198 = 21 ∧ 198 < NN) rfl rfl (cwV 0 hts gX10_gapShare_X10_gaps rfl rfl rfl (by decide +kernel) ⟨Nat.le_of_ble_eq_true rfl, Nat.le_of_ble_eq_true rfl⟩) rfl hl.1 rfl (Nat.le_of_ble_eq_true rfl) dX10_gapShare_6 ⟨Nat.le_of_ble_eq_true rfl, Nat.le_of_ble_eq_true rfl⟩ (fun H locs B => ?_)
  refine lv_i2f hx hb dX10_gapShare_9 ?_
  refine lv_ldcf (v := 1103101952) hx hb hown (hts _ (by decide +kernel)) dX10_gapShare_10 ?_
  obtain ⟨h0, ho⟩ := fnz_ ho
  refine lv_fdiv hx hb dX10_gapShare_12 h0 ?_
  cases ho
  exact e_f B hx hb hr hlocks rfl dX10_gapShare_13
