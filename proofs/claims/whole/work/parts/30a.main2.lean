set_option maxHeartbeats 4000000 in
set_option maxRecDepth 100000 in
theorem c_X9_append (l : Launch) (hl9 : l.stackTraces = false) (G : Gd) (σ : Mm) (sz : Nat) (a0 : Int32) {out : (Int32 ⊕ Nat) × Mm} (ho : f_X9_append a0 σ = some out) : vx_Met l yX9_append wsX9_append { frames := 6, cells := 1, slots := 6, locals := 110 } (va_Pc [.ref (G.2.2 154), .int a0] (PW G σ sz)) (Xi G sz out) (XX G sz out) 1 6 (AA G sz) := by
  refine vx_ofW (cc := cX9_append) (maxL := 2) (ret := (some .int)) (by decide) rfl ?_
  intro p e s m args below meth c s₁ B0 hml ht9 hv
  obtain ⟨rfl, hpw⟩ := hv
  have hsz := hpw.1
  subst hsz
  obtain ⟨F, B⟩ := hpw.to
  have hx := B0.exec
  have hb := B0.bytes
  have hr := B0.returns
  have hts := atoms_spec (ws := wsX9_append) B0.pre
  have hown : s.vm.findClass RX9 = some m.cls := findClass_of_methodNamed B0.named
  have hlocks := B0.notSynchronized
  have S : CallFix p m c cX9_append 2 s _ wsX9_append RX9 := ⟨hx, hb, hml, hown, hts⟩
  have hiX9 : ∀ w ∈ u_ws RX9 TX9 10, w ∈ wsX9_append := by decide +kernel
  have hiX0 : ∀ w ∈ u_ws RX0 TX0 8, w ∈ wsX9_append := by decide +kernel
  have hl := lv_entry [.ref (G.2.2 154), .int a0] (n := 2) (Nat.le_of_ble_eq_true rfl)
  rw [lg_entry_eq]
  generalize (lg_sl [.ref (G.2.2 154), .int a0] ++ List.replicate (2 - (lg_sl [.ref (G.2.2 154), .int a0]).length) Slot.unset).toArray = ls at hl ⊢
  have hl : lv_has ls 2 [(0, .ref (G.2.2 154)), (1, .int a0)] := hl
  unfold f_X9_append at ho
  refine lv_aload_n hx hb dX9_append_0 rfl (lv_at hl 0 rfl) ?_
  refine r_get (ci := 13) (C := RX9) (T := TX9) (N := 10) S F B (kq (by decide) : kd 154 = 7 ∧ 154 < NN) rfl rfl hiX9 8 (by decide) (by decide +kernel) rfl dX9_append_1 ?_
  refine r_getN (ci := 4) (C := RX0) (T := TX0) (N := 8) S F B (kq (by decide) : kd 162 = 14 ∧ 162 < NN) rfl rfl hiX0 3 (by decide) (by decide) rfl dX9_append_4 ?_
  refine lv_bipush (v := 60) hx hb dX9_append_7 (by decide) ?_
  refine lv_icmp_lt (tgt := 23) hx hb dX9_append_9 (by decide) (fun c1 => ?_) (fun c1 => ?_)
  · have ho := ip_ c1 ho
    refine lv_aload_n hx hb dX9_append_23 rfl (lv_at hl 0 rfl) ?_
    refine r_get (ci := 13) (C := RX9) (T := TX9) (N := 10) S F B (kq (by decide) : kd 154 = 7 ∧ 154 < NN) rfl rfl hiX9 8 (by decide) (by decide +kernel) rfl dX9_append_24 ?_
    refine lv_iload_n hx hb dX9_append_27 rfl (lv_at hl 1 rfl) ?_
    obtain ⟨σ3, hq2, ho⟩ := bnd_ ho
    refine k_vV (As := [.int a0]) (rest := []) S F B (c_X0_add l G σ _ a0 hq2) (kq (by decide) : kd 162 = 14 ∧ 162 < NN) rfl rfl (cwV 1 hts gX9_append_X0_add rfl rfl rfl (by decide +kernel) ⟨Nat.le_of_ble_eq_true rfl, Nat.le_of_ble_eq_true rfl⟩) rfl hl.1 rfl (Nat.le_of_ble_eq_true rfl) dX9_append_28 ⟨Nat.le_of_ble_eq_true rfl, Nat.le_of_ble_eq_true rfl⟩ (fun H locs B => ?_)
    refine lv_aload_n hx hb dX9_append_31 rfl (lv_at hl 0 rfl) ?_
    refine r_get (ci := 13) (C := RX9) (T := TX9) (N := 10) S F B (kq (by decide) : kd 154 = 7 ∧ 154 < NN) rfl rfl hiX9 8 (by decide) (by decide +kernel) rfl dX9_append_32 ?_
    refine r_getN (ci := 4) (C := RX0) (T := TX0) (N := 8) S F B (kq (by decide) : kd 162 = 14 ∧ 162 < NN) rfl rfl hiX0 3 (by decide) (by decide) rfl dX9_append_35 ?_
    refine W.widen (k := 1) (n := 6) (by decide) (by decide) ?_
    cases ho
    exact xe_i B hx hb hr hlocks rfl rfl rfl dX9_append_38
  · have ho := in_ c1 ho
    cases ho
    exact t_throwSW 4 12 (by decide) (by decide) S F B hl9 hlocks ht9 hl.1 rfl rfl (by decide +kernel) (by decide +kernel) (by decide +kernel) (by decide +kernel) (Nat.le_of_ble_eq_true rfl) (Nat.le_of_ble_eq_true rfl) (Nat.le_of_ble_eq_true rfl) (Nat.le_of_ble_eq_true rfl) (Nat.le_of_ble_eq_true rfl) (Nat.le_of_ble_eq_true rfl) dX9_append_12 dX9_append_15 dX9_append_16 dX9_append_19 dX9_append_22

set_option maxHeartbeats 4000000 in
set_option maxRecDepth 100000 in
theorem c_X9_commands (l : Launch) (hl9 : l.stackTraces = false) (G : Gd) (σ : Mm) (sz : Nat) {out : (Int32 ⊕ Nat) × Mm} (ho : f_X9_commands σ = some out) : vx_Met l yX9_commands wsX9_commands { frames := 7, cells := 1, slots := 6, locals := 147 } (va_Pc [.ref (G.2.2 154)] (PW G σ sz)) (Xi G sz out) (XX G sz out) 1 6 (AA G sz) := by
  refine vx_ofW (cc := cX9_commands) (maxL := 2) (ret := (some .int)) (by decide) rfl ?_
  intro p e s m args below meth c s₁ B0 hml ht9 hv
  obtain ⟨rfl, hpw⟩ := hv
  have hsz := hpw.1
  subst hsz
  obtain ⟨F, B⟩ := hpw.to
  have hx := B0.exec
  have hb := B0.bytes
  have hr := B0.returns
  have hts := atoms_spec (ws := wsX9_commands) B0.pre
  have hown : s.vm.findClass RX9 = some m.cls := findClass_of_methodNamed B0.named
  have hlocks := B0.notSynchronized
  have S : CallFix p m c cX9_commands 2 s _ wsX9_commands RX9 := ⟨hx, hb, hml, hown, hts⟩
  have hiX9 : ∀ w ∈ u_ws RX9 TX9 10, w ∈ wsX9_commands := by decide +kernel
  have hiX0 : ∀ w ∈ u_ws RX0 TX0 8, w ∈ wsX9_commands := by decide +kernel
  have hiX5 : ∀ w ∈ u_ws RX5 TX5 3, w ∈ wsX9_commands := by decide +kernel
  have hl := lv_entry [.ref (G.2.2 154)] (n := 2) (Nat.le_of_ble_eq_true rfl)
  rw [lg_entry_eq]
  generalize (lg_sl [.ref (G.2.2 154)] ++ List.replicate (2 - (lg_sl [.ref (G.2.2 154)]).length) Slot.unset).toArray = ls at hl ⊢
  have hl : lv_has ls 2 [(0, .ref (G.2.2 154))] := hl
  unfold f_X9_commands at ho
  skip
  refine lv_aload_n hx hb dX9_commands_0 rfl (lv_at hl 0 rfl) ?_
  refine r_get (ci := 13) (C := RX9) (T := TX9) (N := 10) S F B (kq (by decide) : kd 154 = 7 ∧ 154 < NN) rfl rfl hiX9 8 (by decide) (by decide +kernel) rfl dX9_commands_1 ?_
  obtain ⟨q1, σ2, hq1, ho⟩ := bnm_ ho
  refine k_iV (As := []) (rest := []) S F B (c_X0_takeCommands l G σ _ hq1) (kq (by decide) : kd 162 = 14 ∧ 162 < NN) rfl rfl (cwV 0 hts gX9_commands_X0_takeCommands rfl rfl rfl (by decide +kernel) ⟨Nat.le_of_ble_eq_true rfl, Nat.le_of_ble_eq_true rfl⟩) rfl hl.1 rfl (Nat.le_of_ble_eq_true rfl) dX9_commands_4 ⟨Nat.le_of_ble_eq_true rfl, Nat.le_of_ble_eq_true rfl⟩ (fun H locs B => ?_)
  refine lv_if_ne (tgt := 21) hx hb dX9_commands_7 (by decide) (fun c3 => ?_) (fun c3 => ?_)
  · have ho := in_ c3 ho
    refine lv_aload_n hx hb dX9_commands_21 rfl (lv_at hl 0 rfl) ?_
    refine r_get (ci := 13) (C := RX9) (T := TX9) (N := 10) S F B (kq (by decide) : kd 154 = 7 ∧ 154 < NN) rfl rfl hiX9 1 (by decide) (by decide +kernel) rfl dX9_commands_22 ?_
    refine lv_aload_n hx hb dX9_commands_25 rfl (lv_at hl 0 rfl) ?_
    refine r_get (ci := 13) (C := RX9) (T := TX9) (N := 10) S F B (kq (by decide) : kd 154 = 7 ∧ 154 < NN) rfl rfl hiX9 0 (by decide) (by decide +kernel) rfl dX9_commands_26 ?_
    obtain ⟨σ5, hq4, ho⟩ := bnd_ ho
    refine k_vV (As := [.ref (G.2.2 0)]) (rest := []) S F B (c_X6_copyFrom l G σ2 _ 14 0 isS14 isS0 hq4) (kq (by decide) : kd 14 = 0 ∧ 14 < NN) rfl rfl (cwV 1 hts gX9_commands_X6_copyFrom rfl rfl rfl (by decide +kernel) ⟨Nat.le_of_ble_eq_true rfl, Nat.le_of_ble_eq_true rfl⟩) rfl hl.1 rfl (Nat.le_of_ble_eq_true rfl) dX9_commands_29 ⟨Nat.le_of_ble_eq_true rfl, Nat.le_of_ble_eq_true rfl⟩ (fun H locs B => ?_)
    refine lv_iconst (v := 0) hx hb dX9_commands_32 (by decide) ?_
    refine lv_istore_n (lv' := [(1, .int 0), (0, .ref (G.2.2 154))]) hx hb dX9_commands_33 rfl hl (by decide) rfl (fun ls hl => ?_)
    have hloop34 : ∀ (n : Nat) (v9 : Int32) (σ10 : Mm) (H : Heap) (locs : List Loc) (ls : Array Slot), f_X9_commands_l34   n v9 σ10 = some out → Bd G σ10 s H locs → lv_has ls 2 [(1, .int v9), (0, .ref (G.2.2 154))] → W p l e (headSpec wsX9_commands { frames := 7, cells := 1, slots := 6, locals := 147 }).room s m #[.ref (G.2.2 154)] below meth c H locs 0 0 (vx_MQ below (Xi G s.heap.size out) (XX G s.heap.size out) #[.ref (G.2.2 154)] s 1 6 (AA G s.heap.size)) (F0 m 34 ls []) := by
      intro n
      induction n with
      | zero => intro v9 σ10 H locs ls ho B hl; cases ho
      | succ n ih =>
        intro v9 σ10 H locs ls ho B hl
        refine lv_iload_n hx hb dX9_commands_34 rfl (lv_at hl 0 rfl) ?_
        refine lv_aload_n hx hb dX9_commands_35 rfl (lv_at hl 1 rfl) ?_
        refine r_get (ci := 13) (C := RX9) (T := TX9) (N := 10) S F B (kq (by decide) : kd 154 = 7 ∧ 154 < NN) rfl rfl hiX9 8 (by decide) (by decide +kernel) rfl dX9_commands_36 ?_
        refine r_getN (ci := 4) (C := RX0) (T := TX0) (N := 8) S F B (kq (by decide) : kd 162 = 14 ∧ 162 < NN) rfl rfl hiX0 5 (by decide) (by decide) rfl dX9_commands_39 ?_
        refine lv_icmp_ge (tgt := 97) hx hb dX9_commands_42 (by decide) (fun c11 => ?_) (fun c11 => ?_)
        · have ho := ip_ c11 ho
          refine lv_aload_n hx hb dX9_commands_97 rfl (lv_at hl 1 rfl) ?_
          refine lv_aload_n hx hb dX9_commands_98 rfl (lv_at hl 1 rfl) ?_
          refine r_get (ci := 13) (C := RX9) (T := TX9) (N := 10) S F B (kq (by decide) : kd 154 = 7 ∧ 154 < NN) rfl rfl hiX9 8 (by decide) (by decide +kernel) rfl dX9_commands_99 ?_
          refine r_getN (ci := 4) (C := RX0) (T := TX0) (N := 8) S F B (kq (by decide) : kd 162 = 14 ∧ 162 < NN) rfl rfl hiX0 5 (by decide) (by decide) rfl dX9_commands_102 ?_
          rcases xb_ ho with ⟨q12, σ13, hq12, ho⟩ | ⟨q12, σ13, hq12, rfl⟩
          rotate_left
          · exact xk_eV (As := [.int (σ10 162 5)]) (rest := []) no_Xi S F B (c_X9_settled l hl9 G σ10 _ (σ10 162 5) hq12) (kq (by decide) : kd 154 = 7 ∧ 154 < NN) rfl rfl (cwV 1 hts gX9_commands_X9_settled rfl rfl rfl (by decide +kernel) ⟨Nat.le_of_ble_eq_true rfl, Nat.le_of_ble_eq_true rfl⟩) rfl hl.1 rfl (Nat.le_of_ble_eq_true rfl) dX9_commands_105 hlocks ht9 (Nat.le_of_ble_eq_true rfl) (Nat.le_of_ble_eq_true rfl) ⟨Nat.le_of_ble_eq_true rfl, Nat.le_of_ble_eq_true rfl⟩
          refine xk_iV (As := [.int (σ10 162 5)]) (rest := []) S F B (c_X9_settled l hl9 G σ10 _ (σ10 162 5) hq12) (kq (by decide) : kd 154 = 7 ∧ 154 < NN) rfl rfl (cwV 1 hts gX9_commands_X9_settled rfl rfl rfl (by decide +kernel) ⟨Nat.le_of_ble_eq_true rfl, Nat.le_of_ble_eq_true rfl⟩) rfl hl.1 rfl (Nat.le_of_ble_eq_true rfl) dX9_commands_105 ⟨Nat.le_of_ble_eq_true rfl, Nat.le_of_ble_eq_true rfl⟩ (fun H locs B => ?_)
          cases ho
          exact xe_i B hx hb hr hlocks rfl rfl rfl dX9_commands_108
        · have ho := in_ c11 ho
          refine lv_aload_n hx hb dX9_commands_45 rfl (lv_at hl 1 rfl) ?_
          refine r_get (ci := 13) (C := RX9) (T := TX9) (N := 10) S F B (kq (by decide) : kd 154 = 7 ∧ 154 < NN) rfl rfl hiX9 7 (by decide) (by decide +kernel) rfl dX9_commands_46 ?_
          refine lv_aload_n hx hb dX9_commands_49 rfl (lv_at hl 1 rfl) ?_
          refine r_get (ci := 13) (C := RX9) (T := TX9) (N := 10) S F B (kq (by decide) : kd 154 = 7 ∧ 154 < NN) rfl rfl hiX9 8 (by decide) (by decide +kernel) rfl dX9_commands_50 ?_
          refine lv_iload_n hx hb dX9_commands_53 rfl (lv_at hl 0 rfl) ?_
          obtain ⟨q14, σ15, hq14, ho⟩ := bnm_ ho
          refine k_iV (As := [.ref (G.2.2 162), .int v9]) (rest := []) S F B (c_X3_carryOut l G σ10 _ v9 hq14) (kq (by decide) : kd 161 = 13 ∧ 161 < NN) rfl rfl (cwV 2 hts gX9_commands_X3_carryOut rfl rfl rfl (by decide +kernel) ⟨Nat.le_of_ble_eq_true rfl, Nat.le_of_ble_eq_true rfl⟩) rfl hl.1 rfl (Nat.le_of_ble_eq_true rfl) dX9_commands_54 ⟨Nat.le_of_ble_eq_true rfl, Nat.le_of_ble_eq_true rfl⟩ (fun H locs B => ?_)
          refine lv_iconst (v := (-1)) hx hb dX9_commands_57 (by decide) ?_
          refine lv_icmp_ne (tgt := 91) hx hb dX9_commands_58 (by decide) (fun c16 => ?_) (fun c16 => ?_)
          · have ho := in_ c16 ho
            obtain ⟨x17, ex17, ho⟩ := lt_ ho
            refine lv_iinc (v := x17) (lv' := [(1, .int x17), (0, .ref (G.2.2 154))]) hx hb dX9_commands_91 hl (k := 0) rfl (by rw [ex17]; rfl) (by decide) rfl (fun ls hl => ?_)
            refine lv_goto (tgt := 34) hx hb dX9_commands_94 (by decide) ?_
            exact ih _ _ _ _ _ ho B (lv_sub hl [0, 1] rfl)
          · have ho := ip_ c16 ho
            refine lv_aload_n hx hb dX9_commands_61 rfl (lv_at hl 1 rfl) ?_
            refine r_get (ci := 13) (C := RX9) (T := TX9) (N := 10) S F B (kq (by decide) : kd 154 = 7 ∧ 154 < NN) rfl rfl hiX9 5 (by decide) (by decide +kernel) rfl dX9_commands_62 ?_
            refine lv_iload_n hx hb dX9_commands_65 rfl (lv_at hl 0 rfl) ?_
            refine r_putN (ci := 9) (C := RX5) (T := TX5) (N := 3) (ty := .int) S F B tyX5 tyX5_ok nmX5 (kq (by decide) : kd 157 = 10 ∧ 157 < NN) (fun _ => rfl) rfl hiX5 2 (by decide) (by decide) rfl rfl rfl rfl (fun _ => Nat.le_of_ble_eq_true rfl) (fun _ => rfl) dX9_commands_66 (fun H locs B => ?_)
            obtain ⟨σ18, eσ18, ho⟩ := lt_ ho
            rw [← eσ18] at B
            refine lv_aload_n hx hb dX9_commands_69 rfl (lv_at hl 1 rfl) ?_
            refine r_get (ci := 13) (C := RX9) (T := TX9) (N := 10) S F B (kq (by decide) : kd 154 = 7 ∧ 154 < NN) rfl rfl hiX9 0 (by decide) (by decide +kernel) rfl dX9_commands_70 ?_
            refine lv_aload_n hx hb dX9_commands_73 rfl (lv_at hl 1 rfl) ?_
            refine r_get (ci := 13) (C := RX9) (T := TX9) (N := 10) S F B (kq (by decide) : kd 154 = 7 ∧ 154 < NN) rfl rfl hiX9 1 (by decide) (by decide +kernel) rfl dX9_commands_74 ?_
            obtain ⟨σ20, hq19, ho⟩ := bnd_ ho
            refine k_vV (As := [.ref (G.2.2 14)]) (rest := []) S F B (c_X6_copyFrom l G σ18 _ 0 14 isS0 isS14 hq19) (kq (by decide) : kd 0 = 0 ∧ 0 < NN) rfl rfl (cwV 1 hts gX9_commands_X6_copyFrom rfl rfl rfl (by decide +kernel) ⟨Nat.le_of_ble_eq_true rfl, Nat.le_of_ble_eq_true rfl⟩) rfl hl.1 rfl (Nat.le_of_ble_eq_true rfl) dX9_commands_77 ⟨Nat.le_of_ble_eq_true rfl, Nat.le_of_ble_eq_true rfl⟩ (fun H locs B => ?_)
            cases ho
            exact t_throwSW 0 22 (by decide) (by decide) S F B hl9 hlocks ht9 hl.1 rfl rfl (by decide +kernel) (by decide +kernel) (by decide +kernel) (by decide +kernel) (Nat.le_of_ble_eq_true rfl) (Nat.le_of_ble_eq_true rfl) (Nat.le_of_ble_eq_true rfl) (Nat.le_of_ble_eq_true rfl) (Nat.le_of_ble_eq_true rfl) (Nat.le_of_ble_eq_true rfl) dX9_commands_80 dX9_commands_83 dX9_commands_84 dX9_commands_87 dX9_commands_90
    exact hloop34 40 _ _ _ _ _ ho B hl
  · have ho := ip_ c3 ho
    cases ho
    exact t_throwSW 3 21 (by decide) (by decide) S F B hl9 hlocks ht9 hl.1 rfl rfl (by decide +kernel) (by decide +kernel) (by decide +kernel) (by decide +kernel) (Nat.le_of_ble_eq_true rfl) (Nat.le_of_ble_eq_true rfl) (Nat.le_of_ble_eq_true rfl) (Nat.le_of_ble_eq_true rfl) (Nat.le_of_ble_eq_true rfl) (Nat.le_of_ble_eq_true rfl) dX9_commands_10 dX9_commands_13 dX9_commands_14 dX9_commands_17 dX9_commands_20

set_option maxHeartbeats 4000000 in
set_option maxRecDepth 100000 in
theorem c_X9_faultPosition (l : Launch) (G : Gd) (σ : Mm) (sz : Nat) {out : Int32} (ho : f_X9_faultPosition σ = some out) : Met l yX9_faultPosition wsX9_faultPosition { frames := 0, cells := 0, slots := 0, locals := 0 } (va_Pc [.ref (G.2.2 154)] (PW G σ sz)) (Qi G sz out σ) 0 0 (AA G sz) := by
  refine Met.ofW (cc := cX9_faultPosition) (maxL := 1) (ret := (some .int)) (by decide) rfl ?_
  intro p e s m args below meth c s₁ B0 hml hv
  obtain ⟨rfl, hpw⟩ := hv
  have hsz := hpw.1
  subst hsz
  obtain ⟨F, B⟩ := hpw.to
  have hx := B0.exec
  have hb := B0.bytes
  have hr := B0.returns
  have hts := atoms_spec (ws := wsX9_faultPosition) B0.pre
  have hown : s.vm.findClass RX9 = some m.cls := findClass_of_methodNamed B0.named
  have hlocks := B0.notSynchronized
  have S : CallFix p m c cX9_faultPosition 1 s _ wsX9_faultPosition RX9 := ⟨hx, hb, hml, hown, hts⟩
  have hiX9 : ∀ w ∈ u_ws RX9 TX9 10, w ∈ wsX9_faultPosition := by decide +kernel
  have hiX0 : ∀ w ∈ u_ws RX0 TX0 8, w ∈ wsX9_faultPosition := by decide +kernel
  have hl := lv_entry [.ref (G.2.2 154)] (n := 1) (Nat.le_of_ble_eq_true rfl)
  rw [lg_entry_eq]
  generalize (lg_sl [.ref (G.2.2 154)] ++ List.replicate (1 - (lg_sl [.ref (G.2.2 154)]).length) Slot.unset).toArray = ls at hl ⊢
  have hl : lv_has ls 1 [(0, .ref (G.2.2 154))] := hl
  unfold f_X9_faultPosition at ho
  refine lv_aload_n hx hb dX9_faultPosition_0 rfl (lv_at hl 0 rfl) ?_
  refine r_get (ci := 13) (C := RX9) (T := TX9) (N := 10) S F B (kq (by decide) : kd 154 = 7 ∧ 154 < NN) rfl rfl hiX9 8 (by decide) (by decide +kernel) rfl dX9_faultPosition_1 ?_
  refine r_getN (ci := 4) (C := RX0) (T := TX0) (N := 8) S F B (kq (by decide) : kd 162 = 14 ∧ 162 < NN) rfl rfl hiX0 7 (by decide) (by decide) rfl dX9_faultPosition_4 ?_
  cases ho
  exact e_i B hx hb hr hlocks rfl rfl dX9_faultPosition_7

set_option maxHeartbeats 4000000 in
set_option maxRecDepth 100000 in
theorem c_X9_reason (l : Launch) (hl9 : l.stackTraces = false) (G : Gd) (σ : Mm) (sz : Nat) (a0 : Int32) {out : (Int32 ⊕ Nat) × Mm} (ho : f_X9_reason a0 σ = some out) : vx_Met l yX9_reason wsX9_reason { frames := 6, cells := 1, slots := 6, locals := 110 } (va_Pc [.ref (G.2.2 154), .int a0] (PW G σ sz)) (Xi G sz out) (XX G sz out) 1 6 (AA G sz) := by
  refine vx_ofW (cc := cX9_reason) (maxL := 2) (ret := (some .int)) (by decide) rfl ?_
  intro p e s m args below meth c s₁ B0 hml ht9 hv
  obtain ⟨rfl, hpw⟩ := hv
  have hsz := hpw.1
  subst hsz
  obtain ⟨F, B⟩ := hpw.to
  have hx := B0.exec
  have hb := B0.bytes
  have hr := B0.returns
  have hts := atoms_spec (ws := wsX9_reason) B0.pre
  have hown : s.vm.findClass RX9 = some m.cls := findClass_of_methodNamed B0.named
  have hlocks := B0.notSynchronized
  have S : CallFix p m c cX9_reason 2 s _ wsX9_reason RX9 := ⟨hx, hb, hml, hown, hts⟩
  have hiX9 : ∀ w ∈ u_ws RX9 TX9 10, w ∈ wsX9_reason := by decide +kernel
  have hiX5 : ∀ w ∈ u_ws RX5 TX5 3, w ∈ wsX9_reason := by decide +kernel
  have hl := lv_entry [.ref (G.2.2 154), .int a0] (n := 2) (Nat.le_of_ble_eq_true rfl)
  rw [lg_entry_eq]
  generalize (lg_sl [.ref (G.2.2 154), .int a0] ++ List.replicate (2 - (lg_sl [.ref (G.2.2 154), .int a0]).length) Slot.unset).toArray = ls at hl ⊢
  have hl : lv_has ls 2 [(0, .ref (G.2.2 154)), (1, .int a0)] := hl
  unfold f_X9_reason at ho
  refine lv_iload_n hx hb dX9_reason_0 rfl (lv_at hl 1 rfl) ?_
  refine lv_if_lt (tgt := 9) hx hb dX9_reason_1 (by decide) (fun c1 => ?_) (fun c1 => ?_)
  · have ho := ip_ c1 ho
    cases ho
    exact t_throwSW 3 23 (by decide) (by decide) S F B hl9 hlocks ht9 hl.1 rfl rfl (by decide +kernel) (by decide +kernel) (by decide +kernel) (by decide +kernel) (Nat.le_of_ble_eq_true rfl) (Nat.le_of_ble_eq_true rfl) (Nat.le_of_ble_eq_true rfl) (Nat.le_of_ble_eq_true rfl) (Nat.le_of_ble_eq_true rfl) (Nat.le_of_ble_eq_true rfl) dX9_reason_9 dX9_reason_12 dX9_reason_13 dX9_reason_16 dX9_reason_19
  · have ho := in_ c1 ho
    refine lv_iload_n hx hb dX9_reason_4 rfl (lv_at hl 1 rfl) ?_
    refine lv_iconst (v := 2) hx hb dX9_reason_5 (by decide) ?_
    refine lv_icmp_le (tgt := 20) hx hb dX9_reason_6 (by decide) (fun c2 => ?_) (fun c2 => ?_)
    · have ho := ip_ c2 ho
      refine lv_aload_n hx hb dX9_reason_20 rfl (lv_at hl 0 rfl) ?_
      refine r_get (ci := 13) (C := RX9) (T := TX9) (N := 10) S F B (kq (by decide) : kd 154 = 7 ∧ 154 < NN) rfl rfl hiX9 5 (by decide) (by decide +kernel) rfl dX9_reason_21 ?_
      refine r_getN (ci := 9) (C := RX5) (T := TX5) (N := 3) S F B (kq (by decide) : kd 157 = 10 ∧ 157 < NN) rfl rfl hiX5 0 (by decide) (by decide) rfl dX9_reason_24 ?_
      refine lv_if_ne (tgt := 41) hx hb dX9_reason_27 (by decide) (fun c3 => ?_) (fun c3 => ?_)
      · have ho := in_ c3 ho
        refine lv_iload_n hx hb dX9_reason_41 rfl (lv_at hl 1 rfl) ?_
        refine lv_if_ne (tgt := 53) hx hb dX9_reason_42 (by decide) (fun c4 => ?_) (fun c4 => ?_)
        · have ho := in_ c4 ho
          refine lv_iload_n hx hb dX9_reason_53 rfl (lv_at hl 1 rfl) ?_
          refine lv_iconst (v := 1) hx hb dX9_reason_54 (by decide) ?_
          refine lv_icmp_ne (tgt := 68) hx hb dX9_reason_55 (by decide) (fun c5 => ?_) (fun c5 => ?_)
          · have ho := in_ c5 ho
            refine lv_aload_n hx hb dX9_reason_68 rfl (lv_at hl 0 rfl) ?_
            refine r_get (ci := 13) (C := RX9) (T := TX9) (N := 10) S F B (kq (by decide) : kd 154 = 7 ∧ 154 < NN) rfl rfl hiX9 5 (by decide) (by decide +kernel) rfl dX9_reason_69 ?_
            refine r_getN (ci := 9) (C := RX5) (T := TX5) (N := 3) S F B (kq (by decide) : kd 157 = 10 ∧ 157 < NN) rfl rfl hiX5 2 (by decide) (by decide) rfl dX9_reason_72 ?_
            refine W.widen (k := 1) (n := 6) (by decide) (by decide) ?_
            cases ho
            exact xe_i B hx hb hr hlocks rfl rfl rfl dX9_reason_75
          · have ho := ip_ c5 ho
            refine lv_aload_n hx hb dX9_reason_58 rfl (lv_at hl 0 rfl) ?_
            refine r_get (ci := 13) (C := RX9) (T := TX9) (N := 10) S F B (kq (by decide) : kd 154 = 7 ∧ 154 < NN) rfl rfl hiX9 5 (by decide) (by decide +kernel) rfl dX9_reason_59 ?_
            refine r_getN (ci := 9) (C := RX5) (T := TX5) (N := 3) S F B (kq (by decide) : kd 157 = 10 ∧ 157 < NN) rfl rfl hiX5 1 (by decide) (by decide) rfl dX9_reason_62 ?_
            refine lv_goto (tgt := 75) hx hb dX9_reason_65 (by decide) ?_
            refine W.widen (k := 1) (n := 6) (by decide) (by decide) ?_
            cases ho
            exact xe_i B hx hb hr hlocks rfl rfl rfl dX9_reason_75
        · have ho := ip_ c4 ho
          refine lv_aload_n hx hb dX9_reason_45 rfl (lv_at hl 0 rfl) ?_
          refine r_get (ci := 13) (C := RX9) (T := TX9) (N := 10) S F B (kq (by decide) : kd 154 = 7 ∧ 154 < NN) rfl rfl hiX9 5 (by decide) (by decide +kernel) rfl dX9_reason_46 ?_
          refine r_getN (ci := 9) (C := RX5) (T := TX5) (N := 3) S F B (kq (by decide) : kd 157 = 10 ∧ 157 < NN) rfl rfl hiX5 0 (by decide) (by decide) rfl dX9_reason_49 ?_
          refine W.widen (k := 1) (n := 6) (by decide) (by decide) ?_
          cases ho
          exact xe_i B hx hb hr hlocks rfl rfl rfl dX9_reason_52
      · have ho := ip_ c3 ho
        cases ho
        exact t_throwNW 2 24 (by decide) (by decide) S F B hl9 hlocks ht9 hl.1 rfl rfl (by decide +kernel) (by decide +kernel) (by decide +kernel) (by decide +kernel) (Nat.le_of_ble_eq_true rfl) (Nat.le_of_ble_eq_true rfl) (Nat.le_of_ble_eq_true rfl) (Nat.le_of_ble_eq_true rfl) (Nat.le_of_ble_eq_true rfl) (Nat.le_of_ble_eq_true rfl) dX9_reason_30 dX9_reason_33 dX9_reason_34 dX9_reason_37 dX9_reason_40
    · have ho := in_ c2 ho
      cases ho
      exact t_throwSW 3 23 (by decide) (by decide) S F B hl9 hlocks ht9 hl.1 rfl rfl (by decide +kernel) (by decide +kernel) (by decide +kernel) (by decide +kernel) (Nat.le_of_ble_eq_true rfl) (Nat.le_of_ble_eq_true rfl) (Nat.le_of_ble_eq_true rfl) (Nat.le_of_ble_eq_true rfl) (Nat.le_of_ble_eq_true rfl) (Nat.le_of_ble_eq_true rfl) dX9_reason_9 dX9_reason_12 dX9_reason_13 dX9_reason_16 dX9_reason_19

set_option maxHeartbeats 4000000 in
set_option maxRecDepth 100000 in
theorem c_X9_line (l : Launch) (hl9 : l.stackTraces = false) (G : Gd) (σ : Mm) (sz : Nat) (a0 : Int32) {out : (Int32 ⊕ Nat) × Mm} (ho : f_X9_line a0 σ = some out) : vx_Met l yX9_line wsX9_line { frames := 7, cells := 1, slots := 6, locals := 132 } (va_Pc [.ref (G.2.2 154), .int a0] (PW G σ sz)) (Xi G sz out) (XX G sz out) 1 6 (AA G sz) := by
  refine vx_ofW (cc := cX9_line) (maxL := 3) (ret := (some .int)) (by decide) rfl ?_
  intro p e s m args below meth c s₁ B0 hml ht9 hv
  obtain ⟨rfl, hpw⟩ := hv
  have hsz := hpw.1
  subst hsz
  obtain ⟨F, B⟩ := hpw.to
  have hx := B0.exec
  have hb := B0.bytes
  have hr := B0.returns
  have hts := atoms_spec (ws := wsX9_line) B0.pre
  have hown : s.vm.findClass RX9 = some m.cls := findClass_of_methodNamed B0.named
  have hlocks := B0.notSynchronized
  have S : CallFix p m c cX9_line 3 s _ wsX9_line RX9 := ⟨hx, hb, hml, hown, hts⟩
  have hiX9 : ∀ w ∈ u_ws RX9 TX9 10, w ∈ wsX9_line := by decide +kernel
  have hiX7 : ∀ w ∈ u_ws RX7 TX7 8, w ∈ wsX9_line := by decide +kernel
  have hl := lv_entry [.ref (G.2.2 154), .int a0] (n := 3) (Nat.le_of_ble_eq_true rfl)
  rw [lg_entry_eq]
  generalize (lg_sl [.ref (G.2.2 154), .int a0] ++ List.replicate (3 - (lg_sl [.ref (G.2.2 154), .int a0]).length) Slot.unset).toArray = ls at hl ⊢
  have hl : lv_has ls 3 [(0, .ref (G.2.2 154)), (1, .int a0)] := hl
  unfold f_X9_line at ho
  refine lv_aload_n hx hb dX9_line_0 rfl (lv_at hl 0 rfl) ?_
  refine lv_iload_n hx hb dX9_line_1 rfl (lv_at hl 1 rfl) ?_
  rcases xb_ ho with ⟨q1, σ2, hq1, ho⟩ | ⟨q1, σ2, hq1, rfl⟩
  rotate_left
  · exact xk_eV (As := [.int a0]) (rest := []) no_Xq S F B (c_X9_visitorAsked l hl9 G σ _ a0 hq1) (kq (by decide) : kd 154 = 7 ∧ 154 < NN) rfl rfl (cwV 1 hts gX9_line_X9_visitorAsked rfl rfl rfl (by decide +kernel) ⟨Nat.le_of_ble_eq_true rfl, Nat.le_of_ble_eq_true rfl⟩) rfl hl.1 rfl (Nat.le_of_ble_eq_true rfl) dX9_line_2 hlocks ht9 (Nat.le_of_ble_eq_true rfl) (Nat.le_of_ble_eq_true rfl) ⟨Nat.le_of_ble_eq_true rfl, Nat.le_of_ble_eq_true rfl⟩
  refine xk_qV (As := [.int a0]) (rest := []) S F B (c_X9_visitorAsked l hl9 G σ _ a0 hq1) (kq (by decide) : kd 154 = 7 ∧ 154 < NN) rfl rfl (cwV 1 hts gX9_line_X9_visitorAsked rfl rfl rfl (by decide +kernel) ⟨Nat.le_of_ble_eq_true rfl, Nat.le_of_ble_eq_true rfl⟩) rfl hl.1 rfl (Nat.le_of_ble_eq_true rfl) dX9_line_2 ⟨Nat.le_of_ble_eq_true rfl, Nat.le_of_ble_eq_true rfl⟩ (fun H locs B => ?_)
  cases q1 with
  | none =>
    have ho := oc_n ho
    cases ho
  | some j3 =>
    have ho := oc_s ho
    have hj3 : kd j3 = 6 ∧ j3 < NN := kf_vasked hq1
    refine lv_astore_n (lv' := [(2, .ref (G.2.2 j3)), (0, .ref (G.2.2 154)), (1, .int a0)]) hx hb dX9_line_5 rfl hl (by decide) rfl (fun ls hl => ?_)
    refine lv_aload_n hx hb dX9_line_6 rfl (lv_at hl 1 rfl) ?_
    refine r_get (ci := 13) (C := RX9) (T := TX9) (N := 10) S F B (kq (by decide) : kd 154 = 7 ∧ 154 < NN) rfl rfl hiX9 9 (by decide) (by decide +kernel) rfl dX9_line_7 ?_
    refine lv_iconst (v := 0) hx hb dX9_line_10 (by decide) ?_
    obtain ⟨σ5, hq4, ho⟩ := bnd_ ho
    refine k_vV (As := [.int 0]) (rest := []) S F B (c_J4_setLength_d00df l G σ2 _ 0 hq4) (kq (by decide) : kd 196 = 19 ∧ 196 < NN) rfl rfl (cwV 1 hts gX9_line_J4_setLength_d00df rfl rfl rfl (by decide +kernel) ⟨Nat.le_of_ble_eq_true rfl, Nat.le_of_ble_eq_true rfl⟩) rfl hl.1 rfl (Nat.le_of_ble_eq_true rfl) dX9_line_11 ⟨Nat.le_of_ble_eq_true rfl, Nat.le_of_ble_eq_true rfl⟩ (fun H locs B => ?_)
    refine lv_aload_n hx hb dX9_line_14 rfl (lv_at hl 0 rfl) ?_
    refine r_getN (ci := 11) (C := RX7) (T := TX7) (N := 8) S F B hj3 rfl rfl hiX7 7 (by decide) (by decide) rfl dX9_line_15 ?_
    refine lv_if_eq (tgt := 35) hx hb dX9_line_18 (by decide) (fun c6 => ?_) (fun c6 => ?_)
    · have ho := ip_ c6 ho
      refine lv_aload_n hx hb dX9_line_35 rfl (lv_at hl 1 rfl) ?_
      refine r_get (ci := 13) (C := RX9) (T := TX9) (N := 10) S F B (kq (by decide) : kd 154 = 7 ∧ 154 < NN) rfl rfl hiX9 9 (by decide) (by decide +kernel) rfl dX9_line_36 ?_
      refine lv_aload_n hx hb dX9_line_39 rfl (lv_at hl 0 rfl) ?_
      refine r_getN (ci := 11) (C := RX7) (T := TX7) (N := 8) S F B hj3 rfl rfl hiX7 1 (by decide) (by decide) rfl dX9_line_40 ?_
      obtain ⟨σ8, hq7, ho⟩ := bnd_ ho
      refine k_qV (As := [.int (σ5 j3 1)]) (rest := []) S F B (c_J4_append_bf812 l G σ5 _ (σ5 j3 1) hq7) (kq (by decide) : kd 196 = 19 ∧ 196 < NN) rfl rfl (cwV 1 hts gX9_line_J4_append_bf812 rfl rfl rfl (by decide +kernel) ⟨Nat.le_of_ble_eq_true rfl, Nat.le_of_ble_eq_true rfl⟩) rfl hl.1 rfl (Nat.le_of_ble_eq_true rfl) dX9_line_43 ⟨Nat.le_of_ble_eq_true rfl, Nat.le_of_ble_eq_true rfl⟩ (fun H locs B => ?_)
      refine lv_pop hx hb dX9_line_46 rfl ?_
      refine lv_aload_n hx hb dX9_line_47 rfl (lv_at hl 1 rfl) ?_
      refine r_get (ci := 13) (C := RX9) (T := TX9) (N := 10) S F B (kq (by decide) : kd 154 = 7 ∧ 154 < NN) rfl rfl hiX9 9 (by decide) (by decide +kernel) rfl dX9_line_48 ?_
      refine lv_bipush (v := 43) hx hb dX9_line_51 (by decide) ?_
      obtain ⟨σ10, hq9, ho⟩ := bnd_ ho
      refine k_qV (As := [.int 43]) (rest := []) S F B (c_J4_append_cf468 l G σ8 _ 43 hq9) (kq (by decide) : kd 196 = 19 ∧ 196 < NN) rfl rfl (cwV 1 hts gX9_line_J4_append_cf468 rfl rfl rfl (by decide +kernel) ⟨Nat.le_of_ble_eq_true rfl, Nat.le_of_ble_eq_true rfl⟩) rfl hl.1 rfl (Nat.le_of_ble_eq_true rfl) dX9_line_53 ⟨Nat.le_of_ble_eq_true rfl, Nat.le_of_ble_eq_true rfl⟩ (fun H locs B => ?_)
      refine lv_aload_n hx hb dX9_line_56 rfl (lv_at hl 0 rfl) ?_
      refine r_getN (ci := 11) (C := RX7) (T := TX7) (N := 8) S F B hj3 rfl rfl hiX7 2 (by decide) (by decide) rfl dX9_line_57 ?_
      obtain ⟨σ12, hq11, ho⟩ := bnd_ ho
      refine k_qV (As := [.int (σ10 j3 2)]) (rest := []) S F B (c_J4_append_bf812 l G σ10 _ (σ10 j3 2) hq11) (kq (by decide) : kd 196 = 19 ∧ 196 < NN) rfl rfl (cwV 1 hts gX9_line_J4_append_bf812 rfl rfl rfl (by decide +kernel) ⟨Nat.le_of_ble_eq_true rfl, Nat.le_of_ble_eq_true rfl⟩) rfl hl.1 rfl (Nat.le_of_ble_eq_true rfl) dX9_line_60 ⟨Nat.le_of_ble_eq_true rfl, Nat.le_of_ble_eq_true rfl⟩ (fun H locs B => ?_)
      refine lv_pop hx hb dX9_line_63 rfl ?_
      refine lv_aload_n hx hb dX9_line_64 rfl (lv_at hl 0 rfl) ?_
      obtain ⟨q13, hq13, ho⟩ := bnd_ ho
      refine k_iV (As := []) (rest := []) S F B (c_X7_hasBond l G σ12 _ j3 hj3 hq13) hj3 rfl rfl (cwV 0 hts gX9_line_X7_hasBond rfl rfl rfl (by decide +kernel) ⟨Nat.le_of_ble_eq_true rfl, Nat.le_of_ble_eq_true rfl⟩) rfl hl.1 rfl (Nat.le_of_ble_eq_true rfl) dX9_line_65 ⟨Nat.le_of_ble_eq_true rfl, Nat.le_of_ble_eq_true rfl⟩ (fun H locs B => ?_)
      refine lv_if_eq (tgt := 117) hx hb dX9_line_68 (by decide) (fun c14 => ?_) (fun c14 => ?_)
      · have ho := ip_ c14 ho
        refine lv_aload_n hx hb dX9_line_117 rfl (lv_at hl 1 rfl) ?_
        refine r_get (ci := 13) (C := RX9) (T := TX9) (N := 10) S F B (kq (by decide) : kd 154 = 7 ∧ 154 < NN) rfl rfl hiX9 9 (by decide) (by decide +kernel) rfl dX9_line_118 ?_
        obtain ⟨q15, hq15, ho⟩ := bnd_ ho
        refine k_iV (As := []) (rest := []) S F B (c_J4_length_8abf5 l G σ12 _ hq15) (kq (by decide) : kd 196 = 19 ∧ 196 < NN) rfl rfl (cwV 0 hts gX9_line_J4_length_8abf5 rfl rfl rfl (by decide +kernel) ⟨Nat.le_of_ble_eq_true rfl, Nat.le_of_ble_eq_true rfl⟩) rfl hl.1 rfl (Nat.le_of_ble_eq_true rfl) dX9_line_121 ⟨Nat.le_of_ble_eq_true rfl, Nat.le_of_ble_eq_true rfl⟩ (fun H locs B => ?_)
        cases ho
        exact xe_i B hx hb hr hlocks rfl rfl rfl dX9_line_124
      · have ho := in_ c14 ho
        refine lv_aload_n hx hb dX9_line_71 rfl (lv_at hl 1 rfl) ?_
        refine r_get (ci := 13) (C := RX9) (T := TX9) (N := 10) S F B (kq (by decide) : kd 154 = 7 ∧ 154 < NN) rfl rfl hiX9 9 (by decide) (by decide +kernel) rfl dX9_line_72 ?_
        refine lv_bipush (v := 35) hx hb dX9_line_75 (by decide) ?_
        obtain ⟨σ17, hq16, ho⟩ := bnd_ ho
        refine k_qV (As := [.int 35]) (rest := []) S F B (c_J4_append_cf468 l G σ12 _ 35 hq16) (kq (by decide) : kd 196 = 19 ∧ 196 < NN) rfl rfl (cwV 1 hts gX9_line_J4_append_cf468 rfl rfl rfl (by decide +kernel) ⟨Nat.le_of_ble_eq_true rfl, Nat.le_of_ble_eq_true rfl⟩) rfl hl.1 rfl (Nat.le_of_ble_eq_true rfl) dX9_line_77 ⟨Nat.le_of_ble_eq_true rfl, Nat.le_of_ble_eq_true rfl⟩ (fun H locs B => ?_)
        refine lv_aload_n hx hb dX9_line_80 rfl (lv_at hl 0 rfl) ?_
        refine r_getN (ci := 11) (C := RX7) (T := TX7) (N := 8) S F B hj3 rfl rfl hiX7 4 (by decide) (by decide) rfl dX9_line_81 ?_
        obtain ⟨σ19, hq18, ho⟩ := bnd_ ho
        refine k_qV (As := [.int (σ17 j3 4)]) (rest := []) S F B (c_J4_append_bf812 l G σ17 _ (σ17 j3 4) hq18) (kq (by decide) : kd 196 = 19 ∧ 196 < NN) rfl rfl (cwV 1 hts gX9_line_J4_append_bf812 rfl rfl rfl (by decide +kernel) ⟨Nat.le_of_ble_eq_true rfl, Nat.le_of_ble_eq_true rfl⟩) rfl hl.1 rfl (Nat.le_of_ble_eq_true rfl) dX9_line_84 ⟨Nat.le_of_ble_eq_true rfl, Nat.le_of_ble_eq_true rfl⟩ (fun H locs B => ?_)
        refine lv_bipush (v := 42) hx hb dX9_line_87 (by decide) ?_
        obtain ⟨σ21, hq20, ho⟩ := bnd_ ho
        refine k_qV (As := [.int 42]) (rest := []) S F B (c_J4_append_cf468 l G σ19 _ 42 hq20) (kq (by decide) : kd 196 = 19 ∧ 196 < NN) rfl rfl (cwV 1 hts gX9_line_J4_append_cf468 rfl rfl rfl (by decide +kernel) ⟨Nat.le_of_ble_eq_true rfl, Nat.le_of_ble_eq_true rfl⟩) rfl hl.1 rfl (Nat.le_of_ble_eq_true rfl) dX9_line_89 ⟨Nat.le_of_ble_eq_true rfl, Nat.le_of_ble_eq_true rfl⟩ (fun H locs B => ?_)
        refine lv_aload_n hx hb dX9_line_92 rfl (lv_at hl 0 rfl) ?_
        refine r_getN (ci := 11) (C := RX7) (T := TX7) (N := 8) S F B hj3 rfl rfl hiX7 5 (by decide) (by decide) rfl dX9_line_93 ?_
        obtain ⟨σ23, hq22, ho⟩ := bnd_ ho
        refine k_qV (As := [.int (σ21 j3 5)]) (rest := []) S F B (c_J4_append_bf812 l G σ21 _ (σ21 j3 5) hq22) (kq (by decide) : kd 196 = 19 ∧ 196 < NN) rfl rfl (cwV 1 hts gX9_line_J4_append_bf812 rfl rfl rfl (by decide +kernel) ⟨Nat.le_of_ble_eq_true rfl, Nat.le_of_ble_eq_true rfl⟩) rfl hl.1 rfl (Nat.le_of_ble_eq_true rfl) dX9_line_96 ⟨Nat.le_of_ble_eq_true rfl, Nat.le_of_ble_eq_true rfl⟩ (fun H locs B => ?_)
        refine lv_pop hx hb dX9_line_99 rfl ?_
        refine lv_aload_n hx hb dX9_line_100 rfl (lv_at hl 0 rfl) ?_
        refine r_getN (ci := 11) (C := RX7) (T := TX7) (N := 8) S F B hj3 rfl rfl hiX7 6 (by decide) (by decide) rfl dX9_line_101 ?_
        refine lv_if_eq (tgt := 117) hx hb dX9_line_104 (by decide) (fun c24 => ?_) (fun c24 => ?_)
        · have ho := ip_ c24 ho
          refine lv_aload_n hx hb dX9_line_117 rfl (lv_at hl 1 rfl) ?_
          refine r_get (ci := 13) (C := RX9) (T := TX9) (N := 10) S F B (kq (by decide) : kd 154 = 7 ∧ 154 < NN) rfl rfl hiX9 9 (by decide) (by decide +kernel) rfl dX9_line_118 ?_
          obtain ⟨q25, hq25, ho⟩ := bnd_ ho
          refine k_iV (As := []) (rest := []) S F B (c_J4_length_8abf5 l G σ23 _ hq25) (kq (by decide) : kd 196 = 19 ∧ 196 < NN) rfl rfl (cwV 0 hts gX9_line_J4_length_8abf5 rfl rfl rfl (by decide +kernel) ⟨Nat.le_of_ble_eq_true rfl, Nat.le_of_ble_eq_true rfl⟩) rfl hl.1 rfl (Nat.le_of_ble_eq_true rfl) dX9_line_121 ⟨Nat.le_of_ble_eq_true rfl, Nat.le_of_ble_eq_true rfl⟩ (fun H locs B => ?_)
          cases ho
          exact xe_i B hx hb hr hlocks rfl rfl rfl dX9_line_124
        · have ho := in_ c24 ho
          refine lv_aload_n hx hb dX9_line_107 rfl (lv_at hl 1 rfl) ?_
          refine r_get (ci := 13) (C := RX9) (T := TX9) (N := 10) S F B (kq (by decide) : kd 154 = 7 ∧ 154 < NN) rfl rfl hiX9 9 (by decide) (by decide +kernel) rfl dX9_line_108 ?_
          refine lv_bipush (v := 33) hx hb dX9_line_111 (by decide) ?_
          obtain ⟨σ27, hq26, ho⟩ := bnd_ ho
          refine k_qV (As := [.int 33]) (rest := []) S F B (c_J4_append_cf468 l G σ23 _ 33 hq26) (kq (by decide) : kd 196 = 19 ∧ 196 < NN) rfl rfl (cwV 1 hts gX9_line_J4_append_cf468 rfl rfl rfl (by decide +kernel) ⟨Nat.le_of_ble_eq_true rfl, Nat.le_of_ble_eq_true rfl⟩) rfl hl.1 rfl (Nat.le_of_ble_eq_true rfl) dX9_line_113 ⟨Nat.le_of_ble_eq_true rfl, Nat.le_of_ble_eq_true rfl⟩ (fun H locs B => ?_)
          refine lv_pop hx hb dX9_line_116 rfl ?_
          refine lv_aload_n hx hb dX9_line_117 rfl (lv_at hl 1 rfl) ?_
          refine r_get (ci := 13) (C := RX9) (T := TX9) (N := 10) S F B (kq (by decide) : kd 154 = 7 ∧ 154 < NN) rfl rfl hiX9 9 (by decide) (by decide +kernel) rfl dX9_line_118 ?_
          obtain ⟨q28, hq28, ho⟩ := bnd_ ho
          refine k_iV (As := []) (rest := []) S F B (c_J4_length_8abf5 l G σ27 _ hq28) (kq (by decide) : kd 196 = 19 ∧ 196 < NN) rfl rfl (cwV 0 hts gX9_line_J4_length_8abf5 rfl rfl rfl (by decide +kernel) ⟨Nat.le_of_ble_eq_true rfl, Nat.le_of_ble_eq_true rfl⟩) rfl hl.1 rfl (Nat.le_of_ble_eq_true rfl) dX9_line_121 ⟨Nat.le_of_ble_eq_true rfl, Nat.le_of_ble_eq_true rfl⟩ (fun H locs B => ?_)
          cases ho
          exact xe_i B hx hb hr hlocks rfl rfl rfl dX9_line_124
    · have ho := in_ c6 ho
      refine lv_aload_n hx hb dX9_line_21 rfl (lv_at hl 1 rfl) ?_
      refine r_get (ci := 13) (C := RX9) (T := TX9) (N := 10) S F B (kq (by decide) : kd 154 = 7 ∧ 154 < NN) rfl rfl hiX9 9 (by decide) (by decide +kernel) rfl dX9_line_22 ?_
      refine r_ldcSW S F 25 (t := 425) rfl (by decide) rfl rfl dX9_line_25 ?_
      obtain ⟨σ30, hq29, ho⟩ := bnd_ ho
      refine k_qV (As := [.ref (G.2.2 425)]) (rest := []) S F B (c_J4_append_15ec4 l G σ5 _ hq29) (kq (by decide) : kd 196 = 19 ∧ 196 < NN) rfl rfl (cwV 1 hts gX9_line_J4_append_15ec4 rfl rfl rfl (by decide +kernel) ⟨Nat.le_of_ble_eq_true rfl, Nat.le_of_ble_eq_true rfl⟩) rfl hl.1 rfl (Nat.le_of_ble_eq_true rfl) dX9_line_28 ⟨Nat.le_of_ble_eq_true rfl, Nat.le_of_ble_eq_true rfl⟩ (fun H locs B => ?_)
      refine lv_pop hx hb dX9_line_31 rfl ?_
      refine lv_goto (tgt := 47) hx hb dX9_line_32 (by decide) ?_
      refine lv_aload_n hx hb dX9_line_47 rfl (lv_at hl 1 rfl) ?_
      refine r_get (ci := 13) (C := RX9) (T := TX9) (N := 10) S F B (kq (by decide) : kd 154 = 7 ∧ 154 < NN) rfl rfl hiX9 9 (by decide) (by decide +kernel) rfl dX9_line_48 ?_
      refine lv_bipush (v := 43) hx hb dX9_line_51 (by decide) ?_
      obtain ⟨σ32, hq31, ho⟩ := bnd_ ho
      refine k_qV (As := [.int 43]) (rest := []) S F B (c_J4_append_cf468 l G σ30 _ 43 hq31) (kq (by decide) : kd 196 = 19 ∧ 196 < NN) rfl rfl (cwV 1 hts gX9_line_J4_append_cf468 rfl rfl rfl (by decide +kernel) ⟨Nat.le_of_ble_eq_true rfl, Nat.le_of_ble_eq_true rfl⟩) rfl hl.1 rfl (Nat.le_of_ble_eq_true rfl) dX9_line_53 ⟨Nat.le_of_ble_eq_true rfl, Nat.le_of_ble_eq_true rfl⟩ (fun H locs B => ?_)
      refine lv_aload_n hx hb dX9_line_56 rfl (lv_at hl 0 rfl) ?_
      refine r_getN (ci := 11) (C := RX7) (T := TX7) (N := 8) S F B hj3 rfl rfl hiX7 2 (by decide) (by decide) rfl dX9_line_57 ?_
      obtain ⟨σ34, hq33, ho⟩ := bnd_ ho
      refine k_qV (As := [.int (σ32 j3 2)]) (rest := []) S F B (c_J4_append_bf812 l G σ32 _ (σ32 j3 2) hq33) (kq (by decide) : kd 196 = 19 ∧ 196 < NN) rfl rfl (cwV 1 hts gX9_line_J4_append_bf812 rfl rfl rfl (by decide +kernel) ⟨Nat.le_of_ble_eq_true rfl, Nat.le_of_ble_eq_true rfl⟩) rfl hl.1 rfl (Nat.le_of_ble_eq_true rfl) dX9_line_60 ⟨Nat.le_of_ble_eq_true rfl, Nat.le_of_ble_eq_true rfl⟩ (fun H locs B => ?_)
      refine lv_pop hx hb dX9_line_63 rfl ?_
      refine lv_aload_n hx hb dX9_line_64 rfl (lv_at hl 0 rfl) ?_
      obtain ⟨q35, hq35, ho⟩ := bnd_ ho
      refine k_iV (As := []) (rest := []) S F B (c_X7_hasBond l G σ34 _ j3 hj3 hq35) hj3 rfl rfl (cwV 0 hts gX9_line_X7_hasBond rfl rfl rfl (by decide +kernel) ⟨Nat.le_of_ble_eq_true rfl, Nat.le_of_ble_eq_true rfl⟩) rfl hl.1 rfl (Nat.le_of_ble_eq_true rfl) dX9_line_65 ⟨Nat.le_of_ble_eq_true rfl, Nat.le_of_ble_eq_true rfl⟩ (fun H locs B => ?_)
      refine lv_if_eq (tgt := 117) hx hb dX9_line_68 (by decide) (fun c36 => ?_) (fun c36 => ?_)
      · have ho := ip_ c36 ho
        refine lv_aload_n hx hb dX9_line_117 rfl (lv_at hl 1 rfl) ?_
        refine r_get (ci := 13) (C := RX9) (T := TX9) (N := 10) S F B (kq (by decide) : kd 154 = 7 ∧ 154 < NN) rfl rfl hiX9 9 (by decide) (by decide +kernel) rfl dX9_line_118 ?_
        obtain ⟨q37, hq37, ho⟩ := bnd_ ho
        refine k_iV (As := []) (rest := []) S F B (c_J4_length_8abf5 l G σ34 _ hq37) (kq (by decide) : kd 196 = 19 ∧ 196 < NN) rfl rfl (cwV 0 hts gX9_line_J4_length_8abf5 rfl rfl rfl (by decide +kernel) ⟨Nat.le_of_ble_eq_true rfl, Nat.le_of_ble_eq_true rfl⟩) rfl hl.1 rfl (Nat.le_of_ble_eq_true rfl) dX9_line_121 ⟨Nat.le_of_ble_eq_true rfl, Nat.le_of_ble_eq_true rfl⟩ (fun H locs B => ?_)
        cases ho
        exact xe_i B hx hb hr hlocks rfl rfl rfl dX9_line_124
      · have ho := in_ c36 ho
        refine lv_aload_n hx hb dX9_line_71 rfl (lv_at hl 1 rfl) ?_
        refine r_get (ci := 13) (C := RX9) (T := TX9) (N := 10) S F B (kq (by decide) : kd 154 = 7 ∧ 154 < NN) rfl rfl hiX9 9 (by decide) (by decide +kernel) rfl dX9_line_72 ?_
        refine lv_bipush (v := 35) hx hb dX9_line_75 (by decide) ?_
        obtain ⟨σ39, hq38, ho⟩ := bnd_ ho
        refine k_qV (As := [.int 35]) (rest := []) S F B (c_J4_append_cf468 l G σ34 _ 35 hq38) (kq (by decide) : kd 196 = 19 ∧ 196 < NN) rfl rfl (cwV 1 hts gX9_line_J4_append_cf468 rfl rfl rfl (by decide +kernel) ⟨Nat.le_of_ble_eq_true rfl, Nat.le_of_ble_eq_true rfl⟩) rfl hl.1 rfl (Nat.le_of_ble_eq_true rfl) dX9_line_77 ⟨Nat.le_of_ble_eq_true rfl, Nat.le_of_ble_eq_true rfl⟩ (fun H locs B => ?_)
        refine lv_aload_n hx hb dX9_line_80 rfl (lv_at hl 0 rfl) ?_
        refine r_getN (ci := 11) (C := RX7) (T := TX7) (N := 8) S F B hj3 rfl rfl hiX7 4 (by decide) (by decide) rfl dX9_line_81 ?_
        obtain ⟨σ41, hq40, ho⟩ := bnd_ ho
        refine k_qV (As := [.int (σ39 j3 4)]) (rest := []) S F B (c_J4_append_bf812 l G σ39 _ (σ39 j3 4) hq40) (kq (by decide) : kd 196 = 19 ∧ 196 < NN) rfl rfl (cwV 1 hts gX9_line_J4_append_bf812 rfl rfl rfl (by decide +kernel) ⟨Nat.le_of_ble_eq_true rfl, Nat.le_of_ble_eq_true rfl⟩) rfl hl.1 rfl (Nat.le_of_ble_eq_true rfl) dX9_line_84 ⟨Nat.le_of_ble_eq_true rfl, Nat.le_of_ble_eq_true rfl⟩ (fun H locs B => ?_)
        refine lv_bipush (v := 42) hx hb dX9_line_87 (by decide) ?_
        obtain ⟨σ43, hq42, ho⟩ := bnd_ ho
        refine k_qV (As := [.int 42]) (rest := []) S F B (c_J4_append_cf468 l G σ41 _ 42 hq42) (kq (by decide) : kd 196 = 19 ∧ 196 < NN) rfl rfl (cwV 1 hts gX9_line_J4_append_cf468 rfl rfl rfl (by decide +kernel) ⟨Nat.le_of_ble_eq_true rfl, Nat.le_of_ble_eq_true rfl⟩) rfl hl.1 rfl (Nat.le_of_ble_eq_true rfl) dX9_line_89 ⟨Nat.le_of_ble_eq_true rfl, Nat.le_of_ble_eq_true rfl⟩ (fun H locs B => ?_)
        refine lv_aload_n hx hb dX9_line_92 rfl (lv_at hl 0 rfl) ?_
        refine r_getN (ci := 11) (C := RX7) (T := TX7) (N := 8) S F B hj3 rfl rfl hiX7 5 (by decide) (by decide) rfl dX9_line_93 ?_
        obtain ⟨σ45, hq44, ho⟩ := bnd_ ho
        refine k_qV (As := [.int (σ43 j3 5)]) (rest := []) S F B (c_J4_append_bf812 l G σ43 _ (σ43 j3 5) hq44) (kq (by decide) : kd 196 = 19 ∧ 196 < NN) rfl rfl (cwV 1 hts gX9_line_J4_append_bf812 rfl rfl rfl (by decide +kernel) ⟨Nat.le_of_ble_eq_true rfl, Nat.le_of_ble_eq_true rfl⟩) rfl hl.1 rfl (Nat.le_of_ble_eq_true rfl) dX9_line_96 ⟨Nat.le_of_ble_eq_true rfl, Nat.le_of_ble_eq_true rfl⟩ (fun H locs B => ?_)
        refine lv_pop hx hb dX9_line_99 rfl ?_
        refine lv_aload_n hx hb dX9_line_100 rfl (lv_at hl 0 rfl) ?_
        refine r_getN (ci := 11) (C := RX7) (T := TX7) (N := 8) S F B hj3 rfl rfl hiX7 6 (by decide) (by decide) rfl dX9_line_101 ?_
        refine lv_if_eq (tgt := 117) hx hb dX9_line_104 (by decide) (fun c46 => ?_) (fun c46 => ?_)
        · have ho := ip_ c46 ho
          refine lv_aload_n hx hb dX9_line_117 rfl (lv_at hl 1 rfl) ?_
          refine r_get (ci := 13) (C := RX9) (T := TX9) (N := 10) S F B (kq (by decide) : kd 154 = 7 ∧ 154 < NN) rfl rfl hiX9 9 (by decide) (by decide +kernel) rfl dX9_line_118 ?_
          obtain ⟨q47, hq47, ho⟩ := bnd_ ho
          refine k_iV (As := []) (rest := []) S F B (c_J4_length_8abf5 l G σ45 _ hq47) (kq (by decide) : kd 196 = 19 ∧ 196 < NN) rfl rfl (cwV 0 hts gX9_line_J4_length_8abf5 rfl rfl rfl (by decide +kernel) ⟨Nat.le_of_ble_eq_true rfl, Nat.le_of_ble_eq_true rfl⟩) rfl hl.1 rfl (Nat.le_of_ble_eq_true rfl) dX9_line_121 ⟨Nat.le_of_ble_eq_true rfl, Nat.le_of_ble_eq_true rfl⟩ (fun H locs B => ?_)
          cases ho
          exact xe_i B hx hb hr hlocks rfl rfl rfl dX9_line_124
        · have ho := in_ c46 ho
          refine lv_aload_n hx hb dX9_line_107 rfl (lv_at hl 1 rfl) ?_
          refine r_get (ci := 13) (C := RX9) (T := TX9) (N := 10) S F B (kq (by decide) : kd 154 = 7 ∧ 154 < NN) rfl rfl hiX9 9 (by decide) (by decide +kernel) rfl dX9_line_108 ?_
          refine lv_bipush (v := 33) hx hb dX9_line_111 (by decide) ?_
          obtain ⟨σ49, hq48, ho⟩ := bnd_ ho
          refine k_qV (As := [.int 33]) (rest := []) S F B (c_J4_append_cf468 l G σ45 _ 33 hq48) (kq (by decide) : kd 196 = 19 ∧ 196 < NN) rfl rfl (cwV 1 hts gX9_line_J4_append_cf468 rfl rfl rfl (by decide +kernel) ⟨Nat.le_of_ble_eq_true rfl, Nat.le_of_ble_eq_true rfl⟩) rfl hl.1 rfl (Nat.le_of_ble_eq_true rfl) dX9_line_113 ⟨Nat.le_of_ble_eq_true rfl, Nat.le_of_ble_eq_true rfl⟩ (fun H locs B => ?_)
          refine lv_pop hx hb dX9_line_116 rfl ?_
          refine lv_aload_n hx hb dX9_line_117 rfl (lv_at hl 1 rfl) ?_
          refine r_get (ci := 13) (C := RX9) (T := TX9) (N := 10) S F B (kq (by decide) : kd 154 = 7 ∧ 154 < NN) rfl rfl hiX9 9 (by decide) (by decide +kernel) rfl dX9_line_118 ?_
          obtain ⟨q50, hq50, ho⟩ := bnd_ ho
          refine k_iV (As := []) (rest := []) S F B (c_J4_length_8abf5 l G σ49 _ hq50) (kq (by decide) : kd 196 = 19 ∧ 196 < NN) rfl rfl (cwV 0 hts gX9_line_J4_length_8abf5 rfl rfl rfl (by decide +kernel) ⟨Nat.le_of_ble_eq_true rfl, Nat.le_of_ble_eq_true rfl⟩) rfl hl.1 rfl (Nat.le_of_ble_eq_true rfl) dX9_line_121 ⟨Nat.le_of_ble_eq_true rfl, Nat.le_of_ble_eq_true rfl⟩ (fun H locs B => ?_)
          cases ho
          exact xe_i B hx hb hr hlocks rfl rfl rfl dX9_line_124

