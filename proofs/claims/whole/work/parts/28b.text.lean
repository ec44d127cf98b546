set_option maxHeartbeats 4000000 in
set_option maxRecDepth 100000 in
theorem c_X0_readCommand (l : Launch) (G : Gd) (σ : Mm) (sz : Nat) {out : Int32 × Mm} (ho : f_X0_readCommand σ = some out) : Met l yX0_readCommand wsX0_readCommand { frames := 4, cells := 0, slots := 0, locals := 85 } (va_Pc [.ref (G.2.2 162)] (PW G σ sz)) (Qi G sz out.1 out.2) 0 0 (AA G sz) := by
  refine Met.ofW (cc := cX0_readCommand) (maxL := 4) (ret := (some .boolean)) (by decide) rfl ?_
  intro p e s m args below meth c s₁ B0 hml hv
  obtain ⟨rfl, hpw⟩ := hv
  have hsz := hpw.1
  subst hsz
  obtain ⟨F, B⟩ := hpw.to
  have hx := B0.exec
  have hb := B0.bytes
  have hr := B0.returns
  have hts := atoms_spec (ws := wsX0_readCommand) B0.pre
  have hown : s.vm.findClass RX0 = some m.cls := findClass_of_methodNamed B0.named
  have hlocks := B0.notSynchronized
  have S : CallFix p m c cX0_readCommand 4 s _ wsX0_readCommand RX0 := ⟨hx, hb, hml, hown, hts⟩
  have hiX0 : ∀ w ∈ u_ws RX0 TX0 8, w ∈ wsX0_readCommand := by decide +kernel
  have hl := lv_entry [.ref (G.2.2 162)] (n := 4) (Nat.le_of_ble_eq_true rfl)
  rw [lg_entry_eq]
  generalize (lg_sl [.ref (G.2.2 162)] ++ List.replicate (4 - (lg_sl [.ref (G.2.2 162)]).length) Slot.unset).toArray = ls at hl ⊢
  have hl : lv_has ls 4 [(0, .ref (G.2.2 162))] := hl
  unfold f_X0_readCommand at ho
  skip
  refine lv_aload_n hx hb dX0_readCommand_0 rfl (lv_at hl 0 rfl) ?_
  refine r_get (ci := 4) (C := RX0) (T := TX0) (N := 8) S F B (kq (by decide) : kd 162 = 14 ∧ 162 < NN) rfl rfl hiX0 4 (by decide) (by decide +kernel) rfl dX0_readCommand_1 ?_
  refine lv_aload_n hx hb dX0_readCommand_4 rfl (lv_at hl 0 rfl) ?_
  refine r_get (ci := 4) (C := RX0) (T := TX0) (N := 8) S F B (kq (by decide) : kd 162 = 14 ∧ 162 < NN) rfl rfl hiX0 3 (by decide) (by decide +kernel) rfl dX0_readCommand_5 ?_
  refine lv_icmp_ge (tgt := 20) hx hb dX0_readCommand_8 (by decide) (fun c1 => ?_) (fun c1 => ?_)
  · have ho := ip_ c1 ho
    refine lv_iconst (v := 0) hx hb dX0_readCommand_20 (by decide) ?_
    cases ho
    exact e_i B hx hb hr hlocks rfl rfl dX0_readCommand_21
  · have ho := in_ c1 ho
    refine lv_aload_n hx hb dX0_readCommand_11 rfl (lv_at hl 0 rfl) ?_
    refine r_get (ci := 4) (C := RX0) (T := TX0) (N := 8) S F B (kq (by decide) : kd 162 = 14 ∧ 162 < NN) rfl rfl hiX0 5 (by decide) (by decide +kernel) rfl dX0_readCommand_12 ?_
    refine lv_bipush (v := 30) hx hb dX0_readCommand_15 (by decide) ?_
    refine lv_icmp_lt (tgt := 22) hx hb dX0_readCommand_17 (by decide) (fun c2 => ?_) (fun c2 => ?_)
    · have ho := ip_ c2 ho
      refine lv_aload_n hx hb dX0_readCommand_22 rfl (lv_at hl 0 rfl) ?_
      refine r_get (ci := 4) (C := RX0) (T := TX0) (N := 8) S F B (kq (by decide) : kd 162 = 14 ∧ 162 < NN) rfl rfl hiX0 0 (by decide) (by decide +kernel) rfl dX0_readCommand_23 ?_
      refine lv_aload_n hx hb dX0_readCommand_26 rfl (lv_at hl 0 rfl) ?_
      refine r_get (ci := 4) (C := RX0) (T := TX0) (N := 8) S F B (kq (by decide) : kd 162 = 14 ∧ 162 < NN) rfl rfl hiX0 4 (by decide) (by decide +kernel) rfl dX0_readCommand_27 ?_
      obtain ⟨hi, ho⟩ := gd_ ho
      refine r_cald S F B (kq (by decide) : kd 163 = 15 ∧ 163 < NN) rfl hi dX0_readCommand_30 ?_
      obtain ⟨x3, ex3, ho⟩ := lt_ ho
      refine lv_nm ex3 ?_
      refine lv_istore_n (lv' := [(1, .int x3), (0, .ref (G.2.2 162))]) hx hb dX0_readCommand_31 rfl hl (by decide) rfl (fun ls hl => ?_)
      refine lv_iload_n hx hb dX0_readCommand_32 rfl (lv_at hl 0 rfl) ?_
      obtain ⟨q4, hq4, ho⟩ := bnd_ ho
      refine k_qS (As := [.int x3]) (rest := []) S F B (c_X0_formOf l G σ _ x3 hq4) (va_cwS 1 hts gX0_readCommand_X0_formOf rfl rfl rfl (by decide +kernel) ⟨Nat.le_of_ble_eq_true rfl, Nat.le_of_ble_eq_true rfl⟩) rfl hl.1 rfl (Nat.le_of_ble_eq_true rfl) dX0_readCommand_33 ⟨Nat.le_of_ble_eq_true rfl, Nat.le_of_ble_eq_true rfl⟩ (fun H locs B => ?_)
      cases q4 with
      | none =>
        have ho := oc_n ho
        refine lv_astore_nN (lv' := [(2, .null), (1, .int x3), (0, .ref (G.2.2 162))]) hx hb dX0_readCommand_36 rfl hl (by decide) rfl (fun ls hl => ?_)
        refine lv_aload_nN hx hb dX0_readCommand_37 rfl (lv_at hl 0 rfl) ?_
        refine lv_ifnonnullN hx hb dX0_readCommand_38 ?_
        refine lv_iconst (v := 0) hx hb dX0_readCommand_41 (by decide) ?_
        cases ho
        exact e_i B hx hb hr hlocks rfl rfl dX0_readCommand_42
      | some j5 =>
        have ho := oc_s ho
        have hj5 : isT j5 := kf_form hq4
        refine lv_astore_n (lv' := [(2, .ref (G.2.2 j5)), (1, .int x3), (0, .ref (G.2.2 162))]) hx hb dX0_readCommand_36 rfl hl (by decide) rfl (fun ls hl => ?_)
        refine lv_aload_n hx hb dX0_readCommand_37 rfl (lv_at hl 0 rfl) ?_
        refine lv_ifnonnull (tgt := 43) hx hb dX0_readCommand_38 (by decide) ?_
        refine lv_aload_n hx hb dX0_readCommand_43 rfl (lv_at hl 2 rfl) ?_
        refine r_get (ci := 4) (C := RX0) (T := TX0) (N := 8) S F B (kq (by decide) : kd 162 = 14 ∧ 162 < NN) rfl rfl hiX0 1 (by decide) (by decide +kernel) rfl dX0_readCommand_44 ?_
        refine lv_aload_n hx hb dX0_readCommand_47 rfl (lv_at hl 2 rfl) ?_
        refine r_get (ci := 4) (C := RX0) (T := TX0) (N := 8) S F B (kq (by decide) : kd 162 = 14 ∧ 162 < NN) rfl rfl hiX0 5 (by decide) (by decide +kernel) rfl dX0_readCommand_48 ?_
        refine lv_iload_n hx hb dX0_readCommand_51 rfl (lv_at hl 1 rfl) ?_
        obtain ⟨hi, ho⟩ := gd_ ho
        refine r_cast S F B (kq (by decide) : kd 164 = 16 ∧ 164 < NN) (fun _ => rfl) hi dX0_readCommand_52 (fun H locs B => ?_)
        obtain ⟨σ6, eσ6, ho⟩ := lt_ ho
        rw [← eσ6] at B
        refine lv_aload_n hx hb dX0_readCommand_53 rfl (lv_at hl 2 rfl) ?_
        refine lv_iconst (v := 0) hx hb dX0_readCommand_54 (by decide) ?_
        refine r_put (ci := 4) (C := RX0) (T := TX0) (N := 8) (ty := .int) S F B tyX0 tyX0_ok nmX0 (kq (by decide) : kd 162 = 14 ∧ 162 < NN) (fun _ => rfl) rfl hiX0 6 (by decide) (by decide +kernel) rfl rfl rfl rfl (fun _ => Nat.le_of_ble_eq_true rfl) (fun _ => rfl) dX0_readCommand_55 (fun H locs B => ?_)
        obtain ⟨σ7, eσ7, ho⟩ := lt_ ho
        rw [← eσ7] at B
        refine lv_aload_n hx hb dX0_readCommand_58 rfl (lv_at hl 2 rfl) ?_
        refine lv_dup hx hb dX0_readCommand_59 rfl ?_
        refine r_get (ci := 4) (C := RX0) (T := TX0) (N := 8) S F B (kq (by decide) : kd 162 = 14 ∧ 162 < NN) rfl rfl hiX0 4 (by decide) (by decide +kernel) rfl dX0_readCommand_60 ?_
        refine lv_iconst (v := 1) hx hb dX0_readCommand_63 (by decide) ?_
        refine lv_iadd hx hb dX0_readCommand_64 ?_
        refine r_put (ci := 4) (C := RX0) (T := TX0) (N := 8) (ty := .int) S F B tyX0 tyX0_ok nmX0 (kq (by decide) : kd 162 = 14 ∧ 162 < NN) (fun _ => rfl) rfl hiX0 4 (by decide) (by decide +kernel) rfl rfl rfl rfl (fun _ => Nat.le_of_ble_eq_true rfl) (fun _ => rfl) dX0_readCommand_65 (fun H locs B => ?_)
        obtain ⟨σ8, eσ8, ho⟩ := lt_ ho
        rw [← eσ8] at B
        refine lv_iconst (v := 0) hx hb dX0_readCommand_68 (by decide) ?_
        refine lv_istore_n (lv' := [(3, .int 0), (2, .ref (G.2.2 j5)), (1, .int x3), (0, .ref (G.2.2 162))]) hx hb dX0_readCommand_69 rfl hl (by decide) rfl (fun ls hl => ?_)
        have hloop70 : ∀ (n : Nat) (v12 : Int32) (σ13 : Mm) (H : Heap) (locs : List Loc) (ls : Array Slot), f_X0_readCommand_l70  j5 x3 n v12 σ13 = some out → Bd G σ13 s H locs → lv_has ls 4 [(3, .int v12), (2, .ref (G.2.2 j5)), (1, .int x3), (0, .ref (G.2.2 162))] → W p l e (headSpec wsX0_readCommand { frames := 4, cells := 0, slots := 0, locals := 85 }).room s m #[.ref (G.2.2 162)] below meth c H locs 0 0 (MQ below (Qi G s.heap.size out.1 out.2) #[.ref (G.2.2 162)] s 0 0 (AA G s.heap.size)) (F0 m 70 ls []) := by
          intro n
          induction n with
          | zero => intro v12 σ13 H locs ls ho B hl; cases ho
          | succ n ih =>
            intro v12 σ13 H locs ls ho B hl
            refine lv_iload_n hx hb dX0_readCommand_70 rfl (lv_at hl 0 rfl) ?_
            refine lv_aload_n hx hb dX0_readCommand_71 rfl (lv_at hl 1 rfl) ?_
            obtain ⟨q14, hq14, ho⟩ := bnd_ ho
            refine k_iT (As := []) (rest := [.int v12]) S F B (c_J0_length_8abf5 l G σ13 _ j5 hj5 hq14) hj5 (cwV 0 hts gX0_readCommand_J0_length_8abf5 rfl rfl rfl (by decide +kernel) ⟨Nat.le_of_ble_eq_true rfl, Nat.le_of_ble_eq_true rfl⟩) rfl hl.1 rfl (Nat.le_of_ble_eq_true rfl) dX0_readCommand_72 ⟨Nat.le_of_ble_eq_true rfl, Nat.le_of_ble_eq_true rfl⟩ (fun H locs B => ?_)
            refine lv_icmp_ge (tgt := 98) hx hb dX0_readCommand_75 (by decide) (fun c15 => ?_) (fun c15 => ?_)
            · have ho := ip_ c15 ho
              refine lv_aload_n hx hb dX0_readCommand_98 rfl (lv_at hl 3 rfl) ?_
              refine lv_dup hx hb dX0_readCommand_99 rfl ?_
              refine r_get (ci := 4) (C := RX0) (T := TX0) (N := 8) S F B (kq (by decide) : kd 162 = 14 ∧ 162 < NN) rfl rfl hiX0 5 (by decide) (by decide +kernel) rfl dX0_readCommand_100 ?_
              refine lv_iconst (v := 1) hx hb dX0_readCommand_103 (by decide) ?_
              refine lv_iadd hx hb dX0_readCommand_104 ?_
              refine r_put (ci := 4) (C := RX0) (T := TX0) (N := 8) (ty := .int) S F B tyX0 tyX0_ok nmX0 (kq (by decide) : kd 162 = 14 ∧ 162 < NN) (fun _ => rfl) rfl hiX0 5 (by decide) (by decide +kernel) rfl rfl rfl rfl (fun _ => Nat.le_of_ble_eq_true rfl) (fun _ => rfl) dX0_readCommand_105 (fun H locs B => ?_)
              obtain ⟨σ16, eσ16, ho⟩ := lt_ ho
              rw [← eσ16] at B
              refine lv_iconst (v := 1) hx hb dX0_readCommand_108 (by decide) ?_
              cases ho
              exact e_i B hx hb hr hlocks rfl rfl dX0_readCommand_109
            · have ho := in_ c15 ho
              refine lv_aload_n hx hb dX0_readCommand_78 rfl (lv_at hl 3 rfl) ?_
              refine lv_aload_n hx hb dX0_readCommand_79 rfl (lv_at hl 1 rfl) ?_
              refine lv_iload_n hx hb dX0_readCommand_80 rfl (lv_at hl 0 rfl) ?_
              obtain ⟨q17, hq17, ho⟩ := bnd_ ho
              refine k_iT (As := [.int v12]) (rest := [.ref (G.2.2 162)]) S F B (c_J0_charAt_5068e l G σ13 _ j5 v12 hj5 hq17) hj5 (cwV 1 hts gX0_readCommand_J0_charAt_5068e rfl rfl rfl (by decide +kernel) ⟨Nat.le_of_ble_eq_true rfl, Nat.le_of_ble_eq_true rfl⟩) rfl hl.1 rfl (Nat.le_of_ble_eq_true rfl) dX0_readCommand_81 ⟨Nat.le_of_ble_eq_true rfl, Nat.le_of_ble_eq_true rfl⟩ (fun H locs B => ?_)
              obtain ⟨q18, σ19, hq18, ho⟩ := bnm_ ho
              refine k_iV (As := [.int q17]) (rest := []) S F B (c_X0_readPart l G σ13 _ q17 hq18) (kq (by decide) : kd 162 = 14 ∧ 162 < NN) rfl rfl (cwV 1 hts gX0_readCommand_X0_readPart rfl rfl rfl (by decide +kernel) ⟨Nat.le_of_ble_eq_true rfl, Nat.le_of_ble_eq_true rfl⟩) rfl hl.1 rfl (Nat.le_of_ble_eq_true rfl) dX0_readCommand_84 ⟨Nat.le_of_ble_eq_true rfl, Nat.le_of_ble_eq_true rfl⟩ (fun H locs B => ?_)
              refine lv_if_ne (tgt := 92) hx hb dX0_readCommand_87 (by decide) (fun c20 => ?_) (fun c20 => ?_)
              · have ho := in_ c20 ho
                obtain ⟨x21, ex21, ho⟩ := lt_ ho
                refine lv_iinc (v := x21) (lv' := [(3, .int x21), (2, .ref (G.2.2 j5)), (1, .int x3), (0, .ref (G.2.2 162))]) hx hb dX0_readCommand_92 hl (k := 0) rfl (by rw [ex21]; rfl) (by decide) rfl (fun ls hl => ?_)
                refine lv_goto (tgt := 70) hx hb dX0_readCommand_95 (by decide) ?_
                exact ih _ _ _ _ _ ho B (lv_sub hl [0, 1, 2, 3] rfl)
              · have ho := ip_ c20 ho
                refine lv_iconst (v := 0) hx hb dX0_readCommand_90 (by decide) ?_
                cases ho
                exact e_i B hx hb hr hlocks rfl rfl dX0_readCommand_91
        exact hloop70 8 _ _ _ _ _ ho B hl
    · have ho := in_ c2 ho
      refine lv_iconst (v := 0) hx hb dX0_readCommand_20 (by decide) ?_
      cases ho
      exact e_i B hx hb hr hlocks rfl rfl dX0_readCommand_21

set_option maxHeartbeats 4000000 in
set_option maxRecDepth 100000 in
theorem c_X0_takeCommands (l : Launch) (G : Gd) (σ : Mm) (sz : Nat) {out : Int32 × Mm} (ho : f_X0_takeCommands σ = some out) : Met l yX0_takeCommands wsX0_takeCommands { frames := 5, cells := 0, slots := 0, locals := 108 } (va_Pc [.ref (G.2.2 162)] (PW G σ sz)) (Qi G sz out.1 out.2) 0 0 (AA G sz) := by
  refine Met.ofW (cc := cX0_takeCommands) (maxL := 3) (ret := (some .boolean)) (by decide) rfl ?_
  intro p e s m args below meth c s₁ B0 hml hv
  obtain ⟨rfl, hpw⟩ := hv
  have hsz := hpw.1
  subst hsz
  obtain ⟨F, B⟩ := hpw.to
  have hx := B0.exec
  have hb := B0.bytes
  have hr := B0.returns
  have hts := atoms_spec (ws := wsX0_takeCommands) B0.pre
  have hown : s.vm.findClass RX0 = some m.cls := findClass_of_methodNamed B0.named
  have hlocks := B0.notSynchronized
  have S : CallFix p m c cX0_takeCommands 3 s _ wsX0_takeCommands RX0 := ⟨hx, hb, hml, hown, hts⟩
  have hiX0 : ∀ w ∈ u_ws RX0 TX0 8, w ∈ wsX0_takeCommands := by decide +kernel
  have hl := lv_entry [.ref (G.2.2 162)] (n := 3) (Nat.le_of_ble_eq_true rfl)
  rw [lg_entry_eq]
  generalize (lg_sl [.ref (G.2.2 162)] ++ List.replicate (3 - (lg_sl [.ref (G.2.2 162)]).length) Slot.unset).toArray = ls at hl ⊢
  have hl : lv_has ls 3 [(0, .ref (G.2.2 162))] := hl
  unfold f_X0_takeCommands at ho
  skip
  refine lv_aload_n hx hb dX0_takeCommands_0 rfl (lv_at hl 0 rfl) ?_
  refine lv_iconst (v := 0) hx hb dX0_takeCommands_1 (by decide) ?_
  refine r_put (ci := 4) (C := RX0) (T := TX0) (N := 8) (ty := .int) S F B tyX0 tyX0_ok nmX0 (kq (by decide) : kd 162 = 14 ∧ 162 < NN) (fun _ => rfl) rfl hiX0 4 (by decide) (by decide +kernel) rfl rfl rfl rfl (fun _ => Nat.le_of_ble_eq_true rfl) (fun _ => rfl) dX0_takeCommands_2 (fun H locs B => ?_)
  obtain ⟨σ1, eσ1, ho⟩ := lt_ ho
  rw [← eσ1] at B
  refine lv_aload_n hx hb dX0_takeCommands_5 rfl (lv_at hl 0 rfl) ?_
  refine lv_iconst (v := 0) hx hb dX0_takeCommands_6 (by decide) ?_
  refine r_put (ci := 4) (C := RX0) (T := TX0) (N := 8) (ty := .int) S F B tyX0 tyX0_ok nmX0 (kq (by decide) : kd 162 = 14 ∧ 162 < NN) (fun _ => rfl) rfl hiX0 5 (by decide) (by decide +kernel) rfl rfl rfl rfl (fun _ => Nat.le_of_ble_eq_true rfl) (fun _ => rfl) dX0_takeCommands_7 (fun H locs B => ?_)
  obtain ⟨σ2, eσ2, ho⟩ := lt_ ho
  rw [← eσ2] at B
  refine lv_aload_n hx hb dX0_takeCommands_10 rfl (lv_at hl 0 rfl) ?_
  obtain ⟨q3, σ4, hq3, ho⟩ := bnm_ ho
  refine k_iV (As := []) (rest := []) S F B (c_X0_readCommand l G σ2 _ hq3) (kq (by decide) : kd 162 = 14 ∧ 162 < NN) rfl rfl (cwV 0 hts gX0_takeCommands_X0_readCommand rfl rfl rfl (by decide +kernel) ⟨Nat.le_of_ble_eq_true rfl, Nat.le_of_ble_eq_true rfl⟩) rfl hl.1 rfl (Nat.le_of_ble_eq_true rfl) dX0_takeCommands_11 ⟨Nat.le_of_ble_eq_true rfl, Nat.le_of_ble_eq_true rfl⟩ (fun H locs B => ?_)
  refine lv_istore_n (lv' := [(1, .int q3), (0, .ref (G.2.2 162))]) hx hb dX0_takeCommands_14 rfl hl (by decide) rfl (fun ls hl => ?_)
  refine lv_iconst (v := 0) hx hb dX0_takeCommands_15 (by decide) ?_
  refine lv_istore_n (lv' := [(2, .int 0), (1, .int q3), (0, .ref (G.2.2 162))]) hx hb dX0_takeCommands_16 rfl hl (by decide) rfl (fun ls hl => ?_)
  obtain ⟨K, hK, ho⟩ := lt_ ho
  have hexit17 : ∀ (v5 : Int32) (v6 : Int32) (σ7 : Mm) (H : Heap) (locs : List Loc) (ls : Array Slot), K v5 v6 σ7 = some out → Bd G σ7 s H locs → lv_has ls 3 [(2, .int v5), (1, .int v6), (0, .ref (G.2.2 162))] → W p l e (headSpec wsX0_takeCommands { frames := 5, cells := 0, slots := 0, locals := 108 }).room s m #[.ref (G.2.2 162)] below meth c H locs 0 0 (MQ below (Qi G s.heap.size out.1 out.2) #[.ref (G.2.2 162)] s 0 0 (AA G s.heap.size)) (F0 m 66 ls []) := by
    intro v5 v6 σ7 H locs ls ho B hl
    subst hK
    refine lv_aload_n hx hb dX0_takeCommands_66 rfl (lv_at hl 2 rfl) ?_
    refine lv_iload_n hx hb dX0_takeCommands_67 rfl (lv_at hl 1 rfl) ?_
    refine lv_if_eq (tgt := 75) hx hb dX0_takeCommands_68 (by decide) (fun c9 => ?_) (fun c9 => ?_)
    · have ho := ip_ c9 ho
      refine lv_aload_n hx hb dX0_takeCommands_75 rfl (lv_at hl 2 rfl) ?_
      refine r_get (ci := 4) (C := RX0) (T := TX0) (N := 8) S F B (kq (by decide) : kd 162 = 14 ∧ 162 < NN) rfl rfl hiX0 4 (by decide) (by decide +kernel) rfl dX0_takeCommands_76 ?_
      refine r_put (ci := 4) (C := RX0) (T := TX0) (N := 8) (ty := .int) S F B tyX0 tyX0_ok nmX0 (kq (by decide) : kd 162 = 14 ∧ 162 < NN) (fun _ => rfl) rfl hiX0 7 (by decide) (by decide +kernel) rfl rfl rfl rfl (fun _ => Nat.le_of_ble_eq_true rfl) (fun _ => rfl) dX0_takeCommands_79 (fun H locs B => ?_)
      obtain ⟨σ10, eσ10, ho⟩ := lt_ ho
      rw [← eσ10] at B
      refine lv_aload_n hx hb dX0_takeCommands_82 rfl (lv_at hl 2 rfl) ?_
      refine lv_iconst (v := 0) hx hb dX0_takeCommands_83 (by decide) ?_
      refine r_put (ci := 4) (C := RX0) (T := TX0) (N := 8) (ty := .int) S F B tyX0 tyX0_ok nmX0 (kq (by decide) : kd 162 = 14 ∧ 162 < NN) (fun _ => rfl) rfl hiX0 3 (by decide) (by decide +kernel) rfl rfl rfl rfl (fun _ => Nat.le_of_ble_eq_true rfl) (fun _ => rfl) dX0_takeCommands_84 (fun H locs B => ?_)
      obtain ⟨σ11, eσ11, ho⟩ := lt_ ho
      rw [← eσ11] at B
      refine lv_iload_n hx hb dX0_takeCommands_87 rfl (lv_at hl 1 rfl) ?_
      obtain ⟨hz, ho⟩ := bz_ ho
      cases ho
      exact e_i B hx hb hr hlocks hz rfl dX0_takeCommands_88
    · have ho := in_ c9 ho
      refine lv_iconst (v := (-1)) hx hb dX0_takeCommands_71 (by decide) ?_
      refine lv_goto (tgt := 79) hx hb dX0_takeCommands_72 (by decide) ?_
      refine r_put (ci := 4) (C := RX0) (T := TX0) (N := 8) (ty := .int) S F B tyX0 tyX0_ok nmX0 (kq (by decide) : kd 162 = 14 ∧ 162 < NN) (fun _ => rfl) rfl hiX0 7 (by decide) (by decide +kernel) rfl rfl rfl rfl (fun _ => Nat.le_of_ble_eq_true rfl) (fun _ => rfl) dX0_takeCommands_79 (fun H locs B => ?_)
      obtain ⟨σ12, eσ12, ho⟩ := lt_ ho
      rw [← eσ12] at B
      refine lv_aload_n hx hb dX0_takeCommands_82 rfl (lv_at hl 2 rfl) ?_
      refine lv_iconst (v := 0) hx hb dX0_takeCommands_83 (by decide) ?_
      refine r_put (ci := 4) (C := RX0) (T := TX0) (N := 8) (ty := .int) S F B tyX0 tyX0_ok nmX0 (kq (by decide) : kd 162 = 14 ∧ 162 < NN) (fun _ => rfl) rfl hiX0 3 (by decide) (by decide +kernel) rfl rfl rfl rfl (fun _ => Nat.le_of_ble_eq_true rfl) (fun _ => rfl) dX0_takeCommands_84 (fun H locs B => ?_)
      obtain ⟨σ13, eσ13, ho⟩ := lt_ ho
      rw [← eσ13] at B
      refine lv_iload_n hx hb dX0_takeCommands_87 rfl (lv_at hl 1 rfl) ?_
      obtain ⟨hz, ho⟩ := bz_ ho
      cases ho
      exact e_i B hx hb hr hlocks hz rfl dX0_takeCommands_88
  have hloop17 : ∀ (n : Nat) (v14 : Int32) (v15 : Int32) (σ16 : Mm) (H : Heap) (locs : List Loc) (ls : Array Slot), f_X0_takeCommands_l17 K  n v14 v15 σ16 = some out → Bd G σ16 s H locs → lv_has ls 3 [(2, .int v14), (1, .int v15), (0, .ref (G.2.2 162))] → W p l e (headSpec wsX0_takeCommands { frames := 5, cells := 0, slots := 0, locals := 108 }).room s m #[.ref (G.2.2 162)] below meth c H locs 0 0 (MQ below (Qi G s.heap.size out.1 out.2) #[.ref (G.2.2 162)] s 0 0 (AA G s.heap.size)) (F0 m 17 ls []) := by
    intro n
    induction n with
    | zero => intro v14 v15 σ16 H locs ls ho B hl; cases ho
    | succ n ih =>
      intro v14 v15 σ16 H locs ls ho B hl
      refine lv_iload_n hx hb dX0_takeCommands_17 rfl (lv_at hl 0 rfl) ?_
      refine lv_bipush (v := 60) hx hb dX0_takeCommands_18 (by decide) ?_
      refine lv_icmp_ge (tgt := 66) hx hb dX0_takeCommands_20 (by decide) (fun c17 => ?_) (fun c17 => ?_)
      · have ho := ip_ c17 ho
        exact hexit17 _ _ _ _ _ _ ho B (lv_sub hl [0, 1, 2] rfl)
      · have ho := in_ c17 ho
        refine lv_iload_n hx hb dX0_takeCommands_23 rfl (lv_at hl 1 rfl) ?_
        refine lv_if_eq (tgt := 66) hx hb dX0_takeCommands_24 (by decide) (fun c18 => ?_) (fun c18 => ?_)
        · have ho := ip_ c18 ho
          exact hexit17 _ _ _ _ _ _ ho B (lv_sub hl [0, 1, 2] rfl)
        · have ho := in_ c18 ho
          refine lv_aload_n hx hb dX0_takeCommands_27 rfl (lv_at hl 2 rfl) ?_
          refine r_get (ci := 4) (C := RX0) (T := TX0) (N := 8) S F B (kq (by decide) : kd 162 = 14 ∧ 162 < NN) rfl rfl hiX0 4 (by decide) (by decide +kernel) rfl dX0_takeCommands_28 ?_
          refine lv_aload_n hx hb dX0_takeCommands_31 rfl (lv_at hl 2 rfl) ?_
          refine r_get (ci := 4) (C := RX0) (T := TX0) (N := 8) S F B (kq (by decide) : kd 162 = 14 ∧ 162 < NN) rfl rfl hiX0 3 (by decide) (by decide +kernel) rfl dX0_takeCommands_32 ?_
          refine lv_icmp_ge (tgt := 66) hx hb dX0_takeCommands_35 (by decide) (fun c19 => ?_) (fun c19 => ?_)
          · have ho := ip_ c19 ho
            exact hexit17 _ _ _ _ _ _ ho B (lv_sub hl [0, 1, 2] rfl)
          · have ho := in_ c19 ho
            refine lv_aload_n hx hb dX0_takeCommands_38 rfl (lv_at hl 2 rfl) ?_
            refine lv_bipush (v := 59) hx hb dX0_takeCommands_39 (by decide) ?_
            obtain ⟨q20, σ21, hq20, ho⟩ := bnm_ ho
            refine k_iV (As := [.int 59]) (rest := []) S F B (c_X0_takeSign l G σ16 _ 59 hq20) (kq (by decide) : kd 162 = 14 ∧ 162 < NN) rfl rfl (cwV 1 hts gX0_takeCommands_X0_takeSign rfl rfl rfl (by decide +kernel) ⟨Nat.le_of_ble_eq_true rfl, Nat.le_of_ble_eq_true rfl⟩) rfl hl.1 rfl (Nat.le_of_ble_eq_true rfl) dX0_takeCommands_41 ⟨Nat.le_of_ble_eq_true rfl, Nat.le_of_ble_eq_true rfl⟩ (fun H locs B => ?_)
            refine lv_if_eq (tgt := 58) hx hb dX0_takeCommands_44 (by decide) (fun c22 => ?_) (fun c22 => ?_)
            · have ho := ip_ c22 ho
              refine lv_iconst (v := 0) hx hb dX0_takeCommands_58 (by decide) ?_
              refine lv_istore_n (lv' := [(1, .int 0), (2, .int v14), (0, .ref (G.2.2 162))]) hx hb dX0_takeCommands_59 rfl hl (by decide) rfl (fun ls hl => ?_)
              obtain ⟨x23, ex23, ho⟩ := lt_ ho
              refine lv_iinc (v := x23) (lv' := [(2, .int x23), (1, .int 0), (0, .ref (G.2.2 162))]) hx hb dX0_takeCommands_60 hl (k := 1) rfl (by rw [ex23]; rfl) (by decide) rfl (fun ls hl => ?_)
              refine lv_goto (tgt := 17) hx hb dX0_takeCommands_63 (by decide) ?_
              exact ih _ _ _ _ _ _ ho B (lv_sub hl [0, 1, 2] rfl)
            · have ho := in_ c22 ho
              refine lv_aload_n hx hb dX0_takeCommands_47 rfl (lv_at hl 2 rfl) ?_
              obtain ⟨q24, σ25, hq24, ho⟩ := bnm_ ho
              refine k_iV (As := []) (rest := []) S F B (c_X0_readCommand l G σ21 _ hq24) (kq (by decide) : kd 162 = 14 ∧ 162 < NN) rfl rfl (cwV 0 hts gX0_takeCommands_X0_readCommand rfl rfl rfl (by decide +kernel) ⟨Nat.le_of_ble_eq_true rfl, Nat.le_of_ble_eq_true rfl⟩) rfl hl.1 rfl (Nat.le_of_ble_eq_true rfl) dX0_takeCommands_48 ⟨Nat.le_of_ble_eq_true rfl, Nat.le_of_ble_eq_true rfl⟩ (fun H locs B => ?_)
              refine lv_if_eq (tgt := 58) hx hb dX0_takeCommands_51 (by decide) (fun c26 => ?_) (fun c26 => ?_)
              · have ho := ip_ c26 ho
                refine lv_iconst (v := 0) hx hb dX0_takeCommands_58 (by decide) ?_
                refine lv_istore_n (lv' := [(1, .int 0), (2, .int v14), (0, .ref (G.2.2 162))]) hx hb dX0_takeCommands_59 rfl hl (by decide) rfl (fun ls hl => ?_)
                obtain ⟨x27, ex27, ho⟩ := lt_ ho
                refine lv_iinc (v := x27) (lv' := [(2, .int x27), (1, .int 0), (0, .ref (G.2.2 162))]) hx hb dX0_takeCommands_60 hl (k := 1) rfl (by rw [ex27]; rfl) (by decide) rfl (fun ls hl => ?_)
                refine lv_goto (tgt := 17) hx hb dX0_takeCommands_63 (by decide) ?_
                exact ih _ _ _ _ _ _ ho B (lv_sub hl [0, 1, 2] rfl)
              · have ho := in_ c26 ho
                refine lv_iconst (v := 1) hx hb dX0_takeCommands_54 (by decide) ?_
                refine lv_goto (tgt := 59) hx hb dX0_takeCommands_55 (by decide) ?_
                refine lv_istore_n (lv' := [(1, .int 1), (2, .int v14), (0, .ref (G.2.2 162))]) hx hb dX0_takeCommands_59 rfl hl (by decide) rfl (fun ls hl => ?_)
                obtain ⟨x28, ex28, ho⟩ := lt_ ho
                refine lv_iinc (v := x28) (lv' := [(2, .int x28), (1, .int 1), (0, .ref (G.2.2 162))]) hx hb dX0_takeCommands_60 hl (k := 1) rfl (by rw [ex28]; rfl) (by decide) rfl (fun ls hl => ?_)
                refine lv_goto (tgt := 17) hx hb dX0_takeCommands_63 (by decide) ?_
                exact ih _ _ _ _ _ _ ho B (lv_sub hl [0, 1, 2] rfl)
  exact hloop17 64 _ _ _ _ _ _ ho B hl

set_option maxHeartbeats 4000000 in
set_option maxRecDepth 100000 in
theorem c_X3_carryOut (l : Launch) (G : Gd) (σ : Mm) (sz : Nat) (a1 : Int32) {out : Int32 × Mm} (ho : f_X3_carryOut a1 σ = some out) : Met l yX3_carryOut wsX3_carryOut { frames := 5, cells := 0, slots := 0, locals := 122 } (va_Pc [.ref (G.2.2 161), .ref (G.2.2 162), .int a1] (PW G σ sz)) (Qi G sz out.1 out.2) 0 0 (AA G sz) := by
  refine Met.ofW (cc := cX3_carryOut) (maxL := 6) (ret := (some .int)) (by decide) rfl ?_
  intro p e s m args below meth c s₁ B0 hml hv
  obtain ⟨rfl, hpw⟩ := hv
  have hsz := hpw.1
  subst hsz
  obtain ⟨F, B⟩ := hpw.to
  have hx := B0.exec
  have hb := B0.bytes
  have hr := B0.returns
  have hts := atoms_spec (ws := wsX3_carryOut) B0.pre
  have hown : s.vm.findClass RX3 = some m.cls := findClass_of_methodNamed B0.named
  have hlocks := B0.notSynchronized
  have S : CallFix p m c cX3_carryOut 6 s _ wsX3_carryOut RX3 := ⟨hx, hb, hml, hown, hts⟩
  have hl := lv_entry [.ref (G.2.2 161), .ref (G.2.2 162), .int a1] (n := 6) (Nat.le_of_ble_eq_true rfl)
  rw [lg_entry_eq]
  generalize (lg_sl [.ref (G.2.2 161), .ref (G.2.2 162), .int a1] ++ List.replicate (6 - (lg_sl [.ref (G.2.2 161), .ref (G.2.2 162), .int a1]).length) Slot.unset).toArray = ls at hl ⊢
  have hl : lv_has ls 6 [(0, .ref (G.2.2 161)), (1, .ref (G.2.2 162)), (2, .int a1)] := hl
  unfold f_X3_carryOut at ho
  refine lv_aload_n hx hb dX3_carryOut_0 rfl (lv_at hl 1 rfl) ?_
  refine lv_iload_n hx hb dX3_carryOut_1 rfl (lv_at hl 2 rfl) ?_
  refine lv_iconst (v := 0) hx hb dX3_carryOut_2 (by decide) ?_
  obtain ⟨q1, hq1, ho⟩ := bnd_ ho
  refine k_iV (As := [.int a1, .int 0]) (rest := []) S F B (c_X0_numberOf l G σ _ a1 0 hq1) (kq (by decide) : kd 162 = 14 ∧ 162 < NN) rfl rfl (cwV 2 hts gX3_carryOut_X0_numberOf rfl rfl rfl (by decide +kernel) ⟨Nat.le_of_ble_eq_true rfl, Nat.le_of_ble_eq_true rfl⟩) rfl hl.1 rfl (Nat.le_of_ble_eq_true rfl) dX3_carryOut_3 ⟨Nat.le_of_ble_eq_true rfl, Nat.le_of_ble_eq_true rfl⟩ (fun H locs B => ?_)
  refine lv_istore_n (lv' := [(3, .int q1), (0, .ref (G.2.2 161)), (1, .ref (G.2.2 162)), (2, .int a1)]) hx hb dX3_carryOut_6 rfl hl (by decide) rfl (fun ls hl => ?_)
  refine lv_aload_n hx hb dX3_carryOut_7 rfl (lv_at hl 2 rfl) ?_
  refine lv_iload_n hx hb dX3_carryOut_8 rfl (lv_at hl 3 rfl) ?_
  refine lv_iconst (v := 1) hx hb dX3_carryOut_9 (by decide) ?_
  obtain ⟨q2, hq2, ho⟩ := bnd_ ho
  refine k_iV (As := [.int a1, .int 1]) (rest := []) S F B (c_X0_numberOf l G σ _ a1 1 hq2) (kq (by decide) : kd 162 = 14 ∧ 162 < NN) rfl rfl (cwV 2 hts gX3_carryOut_X0_numberOf rfl rfl rfl (by decide +kernel) ⟨Nat.le_of_ble_eq_true rfl, Nat.le_of_ble_eq_true rfl⟩) rfl hl.1 rfl (Nat.le_of_ble_eq_true rfl) dX3_carryOut_10 ⟨Nat.le_of_ble_eq_true rfl, Nat.le_of_ble_eq_true rfl⟩ (fun H locs B => ?_)
  refine lv_istore (lv' := [(4, .int q2), (3, .int q1), (0, .ref (G.2.2 161)), (1, .ref (G.2.2 162)), (2, .int a1)]) hx hb dX3_carryOut_13 hl (by decide) rfl (fun ls hl => ?_)
  refine lv_aload_n hx hb dX3_carryOut_15 rfl (lv_at hl 3 rfl) ?_
  refine lv_iload_n hx hb dX3_carryOut_16 rfl (lv_at hl 4 rfl) ?_
  refine lv_iconst (v := 2) hx hb dX3_carryOut_17 (by decide) ?_
  obtain ⟨q3, hq3, ho⟩ := bnd_ ho
  refine k_iV (As := [.int a1, .int 2]) (rest := []) S F B (c_X0_numberOf l G σ _ a1 2 hq3) (kq (by decide) : kd 162 = 14 ∧ 162 < NN) rfl rfl (cwV 2 hts gX3_carryOut_X0_numberOf rfl rfl rfl (by decide +kernel) ⟨Nat.le_of_ble_eq_true rfl, Nat.le_of_ble_eq_true rfl⟩) rfl hl.1 rfl (Nat.le_of_ble_eq_true rfl) dX3_carryOut_18 ⟨Nat.le_of_ble_eq_true rfl, Nat.le_of_ble_eq_true rfl⟩ (fun H locs B => ?_)
  refine lv_istore (lv' := [(5, .int q3), (4, .int q2), (3, .int q1), (0, .ref (G.2.2 161)), (1, .ref (G.2.2 162)), (2, .int a1)]) hx hb dX3_carryOut_21 hl (by decide) rfl (fun ls hl => ?_)
  refine lv_aload_n hx hb dX3_carryOut_23 rfl (lv_at hl 4 rfl) ?_
  refine lv_iload_n hx hb dX3_carryOut_24 rfl (lv_at hl 5 rfl) ?_
  obtain ⟨q4, hq4, ho⟩ := bnd_ ho
  refine k_iV (As := [.int a1]) (rest := []) S F B (c_X0_kindOf l G σ _ a1 hq4) (kq (by decide) : kd 162 = 14 ∧ 162 < NN) rfl rfl (cwV 1 hts gX3_carryOut_X0_kindOf rfl rfl rfl (by decide +kernel) ⟨Nat.le_of_ble_eq_true rfl, Nat.le_of_ble_eq_true rfl⟩) rfl hl.1 rfl (Nat.le_of_ble_eq_true rfl) dX3_carryOut_25 ⟨Nat.le_of_ble_eq_true rfl, Nat.le_of_ble_eq_true rfl⟩ (fun H locs B => ?_)
  by_cases c5 : q4 = 98
  · have ho := ip_ c5 ho
    refine lv_tableIn (off := 147) (tgt := 175) hx hb dX3_carryOut_28 (by rw [c5]; decide) (by rw [c5]; decide) (by rw [c5]; rfl) (by decide) ?_
    refine lv_aload_n hx hb dX3_carryOut_175 rfl (lv_at hl 3 rfl) ?_
    refine lv_iload_n hx hb dX3_carryOut_176 rfl (lv_at hl 2 rfl) ?_
    refine lv_iload hx hb dX3_carryOut_177 (lv_at hl 1 rfl) ?_
    refine lv_iload hx hb dX3_carryOut_179 (lv_at hl 0 rfl) ?_
    obtain ⟨q6, σ7, hq6, ho⟩ := bnm_ ho
    refine k_iV (As := [.int q1, .int q2, .int q3]) (rest := []) S F B (c_X3_giveBond l G σ _ q1 q2 q3 hq6) (kq (by decide) : kd 161 = 13 ∧ 161 < NN) rfl rfl (cwV 3 hts gX3_carryOut_X3_giveBond rfl rfl rfl (by decide +kernel) ⟨Nat.le_of_ble_eq_true rfl, Nat.le_of_ble_eq_true rfl⟩) rfl hl.1 rfl (Nat.le_of_ble_eq_true rfl) dX3_carryOut_181 ⟨Nat.le_of_ble_eq_true rfl, Nat.le_of_ble_eq_true rfl⟩ (fun H locs B => ?_)
    cases ho
    exact e_i B hx hb hr hlocks rfl rfl dX3_carryOut_184
  · have ho := in_ c5 ho
    by_cases c8 : q4 = 103
    · have ho := ip_ c8 ho
      refine lv_tableIn (off := 135) (tgt := 163) hx hb dX3_carryOut_28 (by rw [c8]; decide) (by rw [c8]; decide) (by rw [c8]; rfl) (by decide) ?_
      refine lv_aload_n hx hb dX3_carryOut_163 rfl (lv_at hl 3 rfl) ?_
      refine lv_iload_n hx hb dX3_carryOut_164 rfl (lv_at hl 2 rfl) ?_
      obtain ⟨q9, σ10, hq9, ho⟩ := bnm_ ho
      refine k_iV (As := [.int q1]) (rest := []) S F B (c_X3_admitGardener l G σ _ q1 hq9) (kq (by decide) : kd 161 = 13 ∧ 161 < NN) rfl rfl (cwV 1 hts gX3_carryOut_X3_admitGardener rfl rfl rfl (by decide +kernel) ⟨Nat.le_of_ble_eq_true rfl, Nat.le_of_ble_eq_true rfl⟩) rfl hl.1 rfl (Nat.le_of_ble_eq_true rfl) dX3_carryOut_165 ⟨Nat.le_of_ble_eq_true rfl, Nat.le_of_ble_eq_true rfl⟩ (fun H locs B => ?_)
      cases ho
      exact e_i B hx hb hr hlocks rfl rfl dX3_carryOut_168
    · have ho := in_ c8 ho
      by_cases c11 : q4 = 104
      · have ho := ip_ c11 ho
        refine lv_tableIn (off := 104) (tgt := 132) hx hb dX3_carryOut_28 (by rw [c11]; decide) (by rw [c11]; decide) (by rw [c11]; rfl) (by decide) ?_
        refine lv_aload_n hx hb dX3_carryOut_132 rfl (lv_at hl 3 rfl) ?_
        refine lv_iload_n hx hb dX3_carryOut_133 rfl (lv_at hl 2 rfl) ?_
        refine lv_iload hx hb dX3_carryOut_134 (lv_at hl 1 rfl) ?_
        refine lv_iload hx hb dX3_carryOut_136 (lv_at hl 0 rfl) ?_
        obtain ⟨q12, σ13, hq12, ho⟩ := bnm_ ho
        refine k_iV (As := [.int q1, .int q2, .int q3]) (rest := []) S F B (c_X3_tellLeaves l G σ _ q1 q2 q3 hq12) (kq (by decide) : kd 161 = 13 ∧ 161 < NN) rfl rfl (cwV 3 hts gX3_carryOut_X3_tellLeaves rfl rfl rfl (by decide +kernel) ⟨Nat.le_of_ble_eq_true rfl, Nat.le_of_ble_eq_true rfl⟩) rfl hl.1 rfl (Nat.le_of_ble_eq_true rfl) dX3_carryOut_138 ⟨Nat.le_of_ble_eq_true rfl, Nat.le_of_ble_eq_true rfl⟩ (fun H locs B => ?_)
        cases ho
        exact e_i B hx hb hr hlocks rfl rfl dX3_carryOut_141
      · have ho := in_ c11 ho
        by_cases c14 : q4 = 109
        · have ho := ip_ c14 ho
          refine lv_tableIn (off := 129) (tgt := 157) hx hb dX3_carryOut_28 (by rw [c14]; decide) (by rw [c14]; decide) (by rw [c14]; rfl) (by decide) ?_
          refine lv_aload_n hx hb dX3_carryOut_157 rfl (lv_at hl 3 rfl) ?_
          refine lv_iload_n hx hb dX3_carryOut_158 rfl (lv_at hl 2 rfl) ?_
          obtain ⟨q15, σ16, hq15, ho⟩ := bnm_ ho
          refine k_iV (As := [.int q1]) (rest := []) S F B (c_X3_placeMinotaur l G σ _ q1 hq15) (kq (by decide) : kd 161 = 13 ∧ 161 < NN) rfl rfl (cwV 1 hts gX3_carryOut_X3_placeMinotaur rfl rfl rfl (by decide +kernel) ⟨Nat.le_of_ble_eq_true rfl, Nat.le_of_ble_eq_true rfl⟩) rfl hl.1 rfl (Nat.le_of_ble_eq_true rfl) dX3_carryOut_159 ⟨Nat.le_of_ble_eq_true rfl, Nat.le_of_ble_eq_true rfl⟩ (fun H locs B => ?_)
          cases ho
          exact e_i B hx hb hr hlocks rfl rfl dX3_carryOut_162
        · have ho := in_ c14 ho
          by_cases c17 : q4 = 115
          · have ho := ip_ c17 ho
            refine lv_tableIn (off := 114) (tgt := 142) hx hb dX3_carryOut_28 (by rw [c17]; decide) (by rw [c17]; decide) (by rw [c17]; rfl) (by decide) ?_
            refine lv_aload_n hx hb dX3_carryOut_142 rfl (lv_at hl 3 rfl) ?_
            obtain ⟨q18, σ19, hq18, ho⟩ := bnm_ ho
            refine k_iV (As := []) (rest := []) S F B (c_X3_passSummer l G σ _ hq18) (kq (by decide) : kd 161 = 13 ∧ 161 < NN) rfl rfl (cwV 0 hts gX3_carryOut_X3_passSummer rfl rfl rfl (by decide +kernel) ⟨Nat.le_of_ble_eq_true rfl, Nat.le_of_ble_eq_true rfl⟩) rfl hl.1 rfl (Nat.le_of_ble_eq_true rfl) dX3_carryOut_143 ⟨Nat.le_of_ble_eq_true rfl, Nat.le_of_ble_eq_true rfl⟩ (fun H locs B => ?_)
            cases ho
            exact e_i B hx hb hr hlocks rfl rfl dX3_carryOut_146
          · have ho := in_ c17 ho
            by_cases c20 : q4 = 116
            · have ho := ip_ c20 ho
              refine lv_tableIn (off := 119) (tgt := 147) hx hb dX3_carryOut_28 (by rw [c20]; decide) (by rw [c20]; decide) (by rw [c20]; rfl) (by decide) ?_
              refine lv_aload_n hx hb dX3_carryOut_147 rfl (lv_at hl 3 rfl) ?_
              refine lv_iload_n hx hb dX3_carryOut_148 rfl (lv_at hl 2 rfl) ?_
              refine lv_iload hx hb dX3_carryOut_149 (lv_at hl 1 rfl) ?_
              refine lv_iload hx hb dX3_carryOut_151 (lv_at hl 0 rfl) ?_
              obtain ⟨q21, σ22, hq21, ho⟩ := bnm_ ho
              refine k_iV (As := [.int q1, .int q2, .int q3]) (rest := []) S F B (c_X3_trimHedge l G σ _ q1 q2 q3 hq21) (kq (by decide) : kd 161 = 13 ∧ 161 < NN) rfl rfl (cwV 3 hts gX3_carryOut_X3_trimHedge rfl rfl rfl (by decide +kernel) ⟨Nat.le_of_ble_eq_true rfl, Nat.le_of_ble_eq_true rfl⟩) rfl hl.1 rfl (Nat.le_of_ble_eq_true rfl) dX3_carryOut_153 ⟨Nat.le_of_ble_eq_true rfl, Nat.le_of_ble_eq_true rfl⟩ (fun H locs B => ?_)
              cases ho
              exact e_i B hx hb hr hlocks rfl rfl dX3_carryOut_156
            · have ho := in_ c20 ho
              by_cases c23 : q4 = 118
              · have ho := ip_ c23 ho
                refine lv_tableIn (off := 141) (tgt := 169) hx hb dX3_carryOut_28 (by rw [c23]; decide) (by rw [c23]; decide) (by rw [c23]; rfl) (by decide) ?_
                refine lv_aload_n hx hb dX3_carryOut_169 rfl (lv_at hl 3 rfl) ?_
                refine lv_iload_n hx hb dX3_carryOut_170 rfl (lv_at hl 2 rfl) ?_
                obtain ⟨q24, σ25, hq24, ho⟩ := bnm_ ho
                refine k_iV (As := [.int q1]) (rest := []) S F B (c_X3_admitVisitor l G σ _ q1 hq24) (kq (by decide) : kd 161 = 13 ∧ 161 < NN) rfl rfl (cwV 1 hts gX3_carryOut_X3_admitVisitor rfl rfl rfl (by decide +kernel) ⟨Nat.le_of_ble_eq_true rfl, Nat.le_of_ble_eq_true rfl⟩) rfl hl.1 rfl (Nat.le_of_ble_eq_true rfl) dX3_carryOut_171 ⟨Nat.le_of_ble_eq_true rfl, Nat.le_of_ble_eq_true rfl⟩ (fun H locs B => ?_)
                cases ho
                exact e_i B hx hb hr hlocks rfl rfl dX3_carryOut_174
              · have ho := in_ c23 ho
                by_cases c26 : q4 = 119
                · have ho := ip_ c26 ho
                  refine lv_tableIn (off := 157) (tgt := 185) hx hb dX3_carryOut_28 (by rw [c26]; decide) (by rw [c26]; decide) (by rw [c26]; rfl) (by decide) ?_
                  refine lv_aload_n hx hb dX3_carryOut_185 rfl (lv_at hl 3 rfl) ?_
                  refine lv_iload_n hx hb dX3_carryOut_186 rfl (lv_at hl 2 rfl) ?_
                  refine lv_iload hx hb dX3_carryOut_187 (lv_at hl 1 rfl) ?_
                  obtain ⟨q27, σ28, hq27, ho⟩ := bnm_ ho
                  refine k_iV (As := [.int q1, .int q2]) (rest := []) S F B (c_X3_moveVisitor l G σ _ q1 q2 hq27) (kq (by decide) : kd 161 = 13 ∧ 161 < NN) rfl rfl (cwV 2 hts gX3_carryOut_X3_moveVisitor rfl rfl rfl (by decide +kernel) ⟨Nat.le_of_ble_eq_true rfl, Nat.le_of_ble_eq_true rfl⟩) rfl hl.1 rfl (Nat.le_of_ble_eq_true rfl) dX3_carryOut_189 ⟨Nat.le_of_ble_eq_true rfl, Nat.le_of_ble_eq_true rfl⟩ (fun H locs B => ?_)
                  cases ho
                  exact e_i B hx hb hr hlocks rfl rfl dX3_carryOut_192
                · have ho := in_ c26 ho
                  refine t_tableD (tgt := 193) hx hb dX3_carryOut_28 rfl (fun j hj => ?_) (by decide) ?_
                  · have hj : j < 22 := hj
                    rcases (show j = 0 ∨ j = 1 ∨ j = 2 ∨ j = 3 ∨ j = 4 ∨ j = 5 ∨ j = 6 ∨ j = 7 ∨ j = 8 ∨ j = 9 ∨ j = 10 ∨ j = 11 ∨ j = 12 ∨ j = 13 ∨ j = 14 ∨ j = 15 ∨ j = 16 ∨ j = 17 ∨ j = 18 ∨ j = 19 ∨ j = 20 ∨ j = 21 by omega) with rfl | rfl | rfl | rfl | rfl | rfl | rfl | rfl | rfl | rfl | rfl | rfl | rfl | rfl | rfl | rfl | rfl | rfl | rfl | rfl | rfl | rfl
                    · exact Or.inr (lv_neT c5 (by decide))
                    · exact Or.inl rfl
                    · exact Or.inl rfl
                    · exact Or.inl rfl
                    · exact Or.inl rfl
                    · exact Or.inr (lv_neT c8 (by decide))
                    · exact Or.inr (lv_neT c11 (by decide))
                    · exact Or.inl rfl
                    · exact Or.inl rfl
                    · exact Or.inl rfl
                    · exact Or.inl rfl
                    · exact Or.inr (lv_neT c14 (by decide))
                    · exact Or.inl rfl
                    · exact Or.inl rfl
                    · exact Or.inl rfl
                    · exact Or.inl rfl
                    · exact Or.inl rfl
                    · exact Or.inr (lv_neT c17 (by decide))
                    · exact Or.inr (lv_neT c20 (by decide))
                    · exact Or.inl rfl
                    · exact Or.inr (lv_neT c23 (by decide))
                    · exact Or.inr (lv_neT c26 (by decide))
                  · refine lv_aload_n hx hb dX3_carryOut_193 rfl (lv_at hl 3 rfl) ?_
                    refine lv_iload_n hx hb dX3_carryOut_194 rfl (lv_at hl 2 rfl) ?_
                    refine lv_iload hx hb dX3_carryOut_195 (lv_at hl 1 rfl) ?_
                    obtain ⟨q29, σ30, hq29, ho⟩ := bnm_ ho
                    refine k_iV (As := [.int q1, .int q2]) (rest := []) S F B (c_X3_restVisitor l G σ _ q1 q2 hq29) (kq (by decide) : kd 161 = 13 ∧ 161 < NN) rfl rfl (cwV 2 hts gX3_carryOut_X3_restVisitor rfl rfl rfl (by decide +kernel) ⟨Nat.le_of_ble_eq_true rfl, Nat.le_of_ble_eq_true rfl⟩) rfl hl.1 rfl (Nat.le_of_ble_eq_true rfl) dX3_carryOut_197 ⟨Nat.le_of_ble_eq_true rfl, Nat.le_of_ble_eq_true rfl⟩ (fun H locs B => ?_)
                    cases ho
                    exact e_i B hx hb hr hlocks rfl rfl dX3_carryOut_200
