set_option maxHeartbeats 4000000 in
set_option maxRecDepth 100000 in
theorem c_X9_row (l : Launch) (hl9 : l.stackTraces = false) (G : Gd) (σ : Mm) (sz : Nat) (a0 : Int32) {out : (Int32 ⊕ Nat) × Mm} (ho : f_X9_row a0 σ = some out) : vx_Met l yX9_row wsX9_row { frames := 6, cells := 1, slots := 6, locals := 110 } (va_Pc [.ref (G.2.2 154), .int a0] (PW G σ sz)) (Xi G sz out) (XX G sz out) 1 6 (AA G sz) := by
  refine vx_ofW (cc := cX9_row) (maxL := 4) (ret := (some .int)) (by decide) rfl ?_
  intro p e s m args below meth c s₁ B0 hml ht9 hv
  obtain ⟨rfl, hpw⟩ := hv
  have hsz := hpw.1
  subst hsz
  obtain ⟨F, B⟩ := hpw.to
  have hx := B0.exec
  have hb := B0.bytes
  have hr := B0.returns
  have hts := atoms_spec (ws := wsX9_row) B0.pre
  have hown : s.vm.findClass RX9 = some m.cls := findClass_of_methodNamed B0.named
  have hlocks := B0.notSynchronized
  have S : CallFix p m c cX9_row 4 s _ wsX9_row RX9 := ⟨hx, hb, hml, hown, hts⟩
  have hiX9 : ∀ w ∈ u_ws RX9 TX9 10, w ∈ wsX9_row := by decide +kernel
  have hiX6 : ∀ w ∈ u_ws RX6 TX6 9, w ∈ wsX9_row := by decide +kernel
  have hl := lv_entry [.ref (G.2.2 154), .int a0] (n := 4) (Nat.le_of_ble_eq_true rfl)
  rw [lg_entry_eq]
  generalize (lg_sl [.ref (G.2.2 154), .int a0] ++ List.replicate (4 - (lg_sl [.ref (G.2.2 154), .int a0]).length) Slot.unset).toArray = ls at hl ⊢
  have hl : lv_has ls 4 [(0, .ref (G.2.2 154)), (1, .int a0)] := hl
  unfold f_X9_row at ho
  skip
  refine lv_iload_n hx hb dX9_row_0 rfl (lv_at hl 1 rfl) ?_
  refine lv_if_lt (tgt := 9) hx hb dX9_row_1 (by decide) (fun c1 => ?_) (fun c1 => ?_)
  · have ho := ip_ c1 ho
    cases ho
    exact t_throwSW 3 26 (by decide) (by decide) S F B hl9 hlocks ht9 hl.1 rfl rfl (by decide +kernel) (by decide +kernel) (by decide +kernel) (by decide +kernel) (Nat.le_of_ble_eq_true rfl) (Nat.le_of_ble_eq_true rfl) (Nat.le_of_ble_eq_true rfl) (Nat.le_of_ble_eq_true rfl) (Nat.le_of_ble_eq_true rfl) (Nat.le_of_ble_eq_true rfl) dX9_row_9 dX9_row_12 dX9_row_13 dX9_row_16 dX9_row_19
  · have ho := in_ c1 ho
    refine lv_iload_n hx hb dX9_row_4 rfl (lv_at hl 1 rfl) ?_
    refine lv_iconst (v := 4) hx hb dX9_row_5 (by decide) ?_
    refine lv_icmp_lt (tgt := 20) hx hb dX9_row_6 (by decide) (fun c2 => ?_) (fun c2 => ?_)
    · have ho := ip_ c2 ho
      refine lv_aload_n hx hb dX9_row_20 rfl (lv_at hl 0 rfl) ?_
      refine r_get (ci := 13) (C := RX9) (T := TX9) (N := 10) S F B (kq (by decide) : kd 154 = 7 ∧ 154 < NN) rfl rfl hiX9 9 (by decide) (by decide +kernel) rfl dX9_row_21 ?_
      refine lv_iconst (v := 0) hx hb dX9_row_24 (by decide) ?_
      obtain ⟨σ4, hq3, ho⟩ := bnd_ ho
      refine k_vV (As := [.int 0]) (rest := []) S F B (c_J4_setLength_d00df l G σ _ 0 hq3) (kq (by decide) : kd 196 = 19 ∧ 196 < NN) rfl rfl (cwV 1 hts gX9_row_J4_setLength_d00df rfl rfl rfl (by decide +kernel) ⟨Nat.le_of_ble_eq_true rfl, Nat.le_of_ble_eq_true rfl⟩) rfl hl.1 rfl (Nat.le_of_ble_eq_true rfl) dX9_row_25 ⟨Nat.le_of_ble_eq_true rfl, Nat.le_of_ble_eq_true rfl⟩ (fun H locs B => ?_)
      refine lv_iload_n hx hb dX9_row_28 rfl (lv_at hl 1 rfl) ?_
      refine lv_iconst (v := 4) hx hb dX9_row_29 (by decide) ?_
      refine lv_imul hx hb dX9_row_30 ?_
      refine lv_iconst (v := 4) hx hb dX9_row_31 (by decide) ?_
      refine lv_iadd hx hb dX9_row_32 ?_
      refine lv_iconst (v := 1) hx hb dX9_row_33 (by decide) ?_
      refine lv_isub hx hb dX9_row_34 ?_
      obtain ⟨x5, ex5, ho⟩ := lt_ ho
      refine lv_nm ex5 ?_
      refine lv_istore_n (lv' := [(2, .int x5), (0, .ref (G.2.2 154)), (1, .int a0)]) hx hb dX9_row_35 rfl hl (by decide) rfl (fun ls hl => ?_)
      refine lv_iload_n hx hb dX9_row_36 rfl (lv_at hl 2 rfl) ?_
      refine lv_iconst (v := 4) hx hb dX9_row_37 (by decide) ?_
      refine lv_imul hx hb dX9_row_38 ?_
      obtain ⟨x6, ex6, ho⟩ := lt_ ho
      refine lv_nm ex6 ?_
      refine lv_istore_n (lv' := [(3, .int x6), (2, .int x5), (0, .ref (G.2.2 154)), (1, .int a0)]) hx hb dX9_row_39 rfl hl (by decide) rfl (fun ls hl => ?_)
      have hloop40 : ∀ (n : Nat) (v10 : Int32) (σ11 : Mm) (H : Heap) (locs : List Loc) (ls : Array Slot), f_X9_row_l40  x5 a0 n v10 σ11 = some out → Bd G σ11 s H locs → lv_has ls 4 [(3, .int v10), (2, .int x5), (0, .ref (G.2.2 154)), (1, .int a0)] → W p l e (headSpec wsX9_row { frames := 6, cells := 1, slots := 6, locals := 110 }).room s m #[.ref (G.2.2 154), .int a0] below meth c H locs 0 0 (vx_MQ below (Xi G s.heap.size out) (XX G s.heap.size out) #[.ref (G.2.2 154), .int a0] s 1 6 (AA G s.heap.size)) (F0 m 40 ls []) := by
        intro n
        induction n with
        | zero => intro v10 σ11 H locs ls ho B hl; cases ho
        | succ n ih =>
          intro v10 σ11 H locs ls ho B hl
          refine lv_iload_n hx hb dX9_row_40 rfl (lv_at hl 0 rfl) ?_
          refine lv_iload_n hx hb dX9_row_41 rfl (lv_at hl 1 rfl) ?_
          refine lv_icmp_gt (tgt := 131) hx hb dX9_row_42 (by decide) (fun c12 => ?_) (fun c12 => ?_)
          · have ho := ip_ c12 ho
            refine lv_aload_n hx hb dX9_row_131 rfl (lv_at hl 2 rfl) ?_
            refine r_get (ci := 13) (C := RX9) (T := TX9) (N := 10) S F B (kq (by decide) : kd 154 = 7 ∧ 154 < NN) rfl rfl hiX9 9 (by decide) (by decide +kernel) rfl dX9_row_132 ?_
            obtain ⟨q13, hq13, ho⟩ := bnd_ ho
            refine k_iV (As := []) (rest := []) S F B (c_J4_length_8abf5 l G σ11 _ hq13) (kq (by decide) : kd 196 = 19 ∧ 196 < NN) rfl rfl (cwV 0 hts gX9_row_J4_length_8abf5 rfl rfl rfl (by decide +kernel) ⟨Nat.le_of_ble_eq_true rfl, Nat.le_of_ble_eq_true rfl⟩) rfl hl.1 rfl (Nat.le_of_ble_eq_true rfl) dX9_row_135 ⟨Nat.le_of_ble_eq_true rfl, Nat.le_of_ble_eq_true rfl⟩ (fun H locs B => ?_)
            refine W.widen (k := 1) (n := 6) (by decide) (by decide) ?_
            cases ho
            exact xe_i B hx hb hr hlocks rfl rfl rfl dX9_row_138
          · have ho := in_ c12 ho
            refine lv_iload_n hx hb dX9_row_45 rfl (lv_at hl 0 rfl) ?_
            refine lv_aload_n hx hb dX9_row_46 rfl (lv_at hl 2 rfl) ?_
            refine r_get (ci := 13) (C := RX9) (T := TX9) (N := 10) S F B (kq (by decide) : kd 154 = 7 ∧ 154 < NN) rfl rfl hiX9 0 (by decide) (by decide +kernel) rfl dX9_row_47 ?_
            refine r_getN (ci := 10) (C := RX6) (T := TX6) (N := 9) S F B (kq (by decide) : kd 0 = 0 ∧ 0 < NN) rfl rfl hiX6 5 (by decide) (by decide) rfl dX9_row_50 ?_
            refine lv_icmp_ne (tgt := 69) hx hb dX9_row_53 (by decide) (fun c14 => ?_) (fun c14 => ?_)
            · have ho := in_ c14 ho
              refine lv_aload_n hx hb dX9_row_69 rfl (lv_at hl 2 rfl) ?_
              refine r_get (ci := 13) (C := RX9) (T := TX9) (N := 10) S F B (kq (by decide) : kd 154 = 7 ∧ 154 < NN) rfl rfl hiX9 9 (by decide) (by decide +kernel) rfl dX9_row_70 ?_
              refine lv_aload_n hx hb dX9_row_73 rfl (lv_at hl 2 rfl) ?_
              refine r_get (ci := 13) (C := RX9) (T := TX9) (N := 10) S F B (kq (by decide) : kd 154 = 7 ∧ 154 < NN) rfl rfl hiX9 0 (by decide) (by decide +kernel) rfl dX9_row_74 ?_
              refine lv_iload_n hx hb dX9_row_77 rfl (lv_at hl 0 rfl) ?_
              obtain ⟨q15, hq15, ho⟩ := bnd_ ho
              refine k_iV (As := [.int v10]) (rest := [.ref (G.2.2 196)]) S F B (c_X6_visitorsIn l G σ11 _ v10 hq15) (kq (by decide) : kd 0 = 0 ∧ 0 < NN) rfl rfl (cwV 1 hts gX9_row_X6_visitorsIn rfl rfl rfl (by decide +kernel) ⟨Nat.le_of_ble_eq_true rfl, Nat.le_of_ble_eq_true rfl⟩) rfl hl.1 rfl (Nat.le_of_ble_eq_true rfl) dX9_row_78 ⟨Nat.le_of_ble_eq_true rfl, Nat.le_of_ble_eq_true rfl⟩ (fun H locs B => ?_)
              obtain ⟨σ17, hq16, ho⟩ := bnd_ ho
              refine k_qV (As := [.int q15]) (rest := []) S F B (c_J4_append_bf812 l G σ11 _ q15 hq16) (kq (by decide) : kd 196 = 19 ∧ 196 < NN) rfl rfl (cwV 1 hts gX9_row_J4_append_bf812 rfl rfl rfl (by decide +kernel) ⟨Nat.le_of_ble_eq_true rfl, Nat.le_of_ble_eq_true rfl⟩) rfl hl.1 rfl (Nat.le_of_ble_eq_true rfl) dX9_row_81 ⟨Nat.le_of_ble_eq_true rfl, Nat.le_of_ble_eq_true rfl⟩ (fun H locs B => ?_)
              refine lv_pop hx hb dX9_row_84 rfl ?_
              refine lv_iload_n hx hb dX9_row_85 rfl (lv_at hl 0 rfl) ?_
              refine lv_iload_n hx hb dX9_row_86 rfl (lv_at hl 1 rfl) ?_
              refine lv_icmp_ge (tgt := 125) hx hb dX9_row_87 (by decide) (fun c18 => ?_) (fun c18 => ?_)
              · have ho := ip_ c18 ho
                obtain ⟨x19, ex19, ho⟩ := lt_ ho
                refine lv_iinc (v := x19) (lv' := [(3, .int x19), (2, .int x5), (0, .ref (G.2.2 154)), (1, .int a0)]) hx hb dX9_row_125 hl (k := 0) rfl (by rw [ex19]; rfl) (by decide) rfl (fun ls hl => ?_)
                refine lv_goto (tgt := 40) hx hb dX9_row_128 (by decide) ?_
                exact ih _ _ _ _ _ ho B (lv_sub hl [0, 1, 2, 3] rfl)
              · have ho := in_ c18 ho
                refine lv_aload_n hx hb dX9_row_90 rfl (lv_at hl 2 rfl) ?_
                refine r_get (ci := 13) (C := RX9) (T := TX9) (N := 10) S F B (kq (by decide) : kd 154 = 7 ∧ 154 < NN) rfl rfl hiX9 9 (by decide) (by decide +kernel) rfl dX9_row_91 ?_
                refine lv_aload_n hx hb dX9_row_94 rfl (lv_at hl 2 rfl) ?_
                refine r_get (ci := 13) (C := RX9) (T := TX9) (N := 10) S F B (kq (by decide) : kd 154 = 7 ∧ 154 < NN) rfl rfl hiX9 0 (by decide) (by decide +kernel) rfl dX9_row_95 ?_
                refine r_getN (ci := 10) (C := RX6) (T := TX6) (N := 9) S F B (kq (by decide) : kd 0 = 0 ∧ 0 < NN) rfl rfl hiX6 0 (by decide) (by decide) rfl dX9_row_98 ?_
                refine lv_iload_n hx hb dX9_row_101 rfl (lv_at hl 0 rfl) ?_
                refine lv_iload_n hx hb dX9_row_102 rfl (lv_at hl 0 rfl) ?_
                refine lv_iconst (v := 1) hx hb dX9_row_103 (by decide) ?_
                refine lv_iadd hx hb dX9_row_104 ?_
                obtain ⟨q20, hq20, ho⟩ := bnd_ ho
                refine k_iS (As := [.int v10, .int (v10 + 1)]) (rest := [.ref (G.2.2 1), .ref (G.2.2 196)]) S F B (c_X4_hedgeBetween l G σ17 _ v10 (v10 + 1) hq20) (va_cwS 2 hts gX9_row_X4_hedgeBetween rfl rfl rfl (by decide +kernel) ⟨Nat.le_of_ble_eq_true rfl, Nat.le_of_ble_eq_true rfl⟩) rfl hl.1 rfl (Nat.le_of_ble_eq_true rfl) dX9_row_105 ⟨Nat.le_of_ble_eq_true rfl, Nat.le_of_ble_eq_true rfl⟩ (fun H locs B => ?_)
                obtain ⟨q21, hq21, ho⟩ := bnd_ ho
                refine k_iV (As := [.int q20]) (rest := [.ref (G.2.2 196)]) S F B (c_X4_isOpen l G σ17 _ q20 hq21) (kq (by decide) : kd 1 = 1 ∧ 1 < NN) rfl rfl (cwV 1 hts gX9_row_X4_isOpen rfl rfl rfl (by decide +kernel) ⟨Nat.le_of_ble_eq_true rfl, Nat.le_of_ble_eq_true rfl⟩) rfl hl.1 rfl (Nat.le_of_ble_eq_true rfl) dX9_row_108 ⟨Nat.le_of_ble_eq_true rfl, Nat.le_of_ble_eq_true rfl⟩ (fun H locs B => ?_)
                refine lv_if_eq (tgt := 119) hx hb dX9_row_111 (by decide) (fun c22 => ?_) (fun c22 => ?_)
                · have ho := ip_ c22 ho
                  refine lv_bipush (v := 124) hx hb dX9_row_119 (by decide) ?_
                  obtain ⟨σ24, hq23, ho⟩ := bnd_ ho
                  refine k_qV (As := [.int 124]) (rest := []) S F B (c_J4_append_cf468 l G σ17 _ 124 hq23) (kq (by decide) : kd 196 = 19 ∧ 196 < NN) rfl rfl (cwV 1 hts gX9_row_J4_append_cf468 rfl rfl rfl (by decide +kernel) ⟨Nat.le_of_ble_eq_true rfl, Nat.le_of_ble_eq_true rfl⟩) rfl hl.1 rfl (Nat.le_of_ble_eq_true rfl) dX9_row_121 ⟨Nat.le_of_ble_eq_true rfl, Nat.le_of_ble_eq_true rfl⟩ (fun H locs B => ?_)
                  refine lv_pop hx hb dX9_row_124 rfl ?_
                  obtain ⟨x25, ex25, ho⟩ := lt_ ho
                  refine lv_iinc (v := x25) (lv' := [(3, .int x25), (2, .int x5), (0, .ref (G.2.2 154)), (1, .int a0)]) hx hb dX9_row_125 hl (k := 0) rfl (by rw [ex25]; rfl) (by decide) rfl (fun ls hl => ?_)
                  refine lv_goto (tgt := 40) hx hb dX9_row_128 (by decide) ?_
                  exact ih _ _ _ _ _ ho B (lv_sub hl [0, 1, 2, 3] rfl)
                · have ho := in_ c22 ho
                  refine lv_bipush (v := 32) hx hb dX9_row_114 (by decide) ?_
                  refine lv_goto (tgt := 121) hx hb dX9_row_116 (by decide) ?_
                  obtain ⟨σ27, hq26, ho⟩ := bnd_ ho
                  refine k_qV (As := [.int 32]) (rest := []) S F B (c_J4_append_cf468 l G σ17 _ 32 hq26) (kq (by decide) : kd 196 = 19 ∧ 196 < NN) rfl rfl (cwV 1 hts gX9_row_J4_append_cf468 rfl rfl rfl (by decide +kernel) ⟨Nat.le_of_ble_eq_true rfl, Nat.le_of_ble_eq_true rfl⟩) rfl hl.1 rfl (Nat.le_of_ble_eq_true rfl) dX9_row_121 ⟨Nat.le_of_ble_eq_true rfl, Nat.le_of_ble_eq_true rfl⟩ (fun H locs B => ?_)
                  refine lv_pop hx hb dX9_row_124 rfl ?_
                  obtain ⟨x28, ex28, ho⟩ := lt_ ho
                  refine lv_iinc (v := x28) (lv' := [(3, .int x28), (2, .int x5), (0, .ref (G.2.2 154)), (1, .int a0)]) hx hb dX9_row_125 hl (k := 0) rfl (by rw [ex28]; rfl) (by decide) rfl (fun ls hl => ?_)
                  refine lv_goto (tgt := 40) hx hb dX9_row_128 (by decide) ?_
                  exact ih _ _ _ _ _ ho B (lv_sub hl [0, 1, 2, 3] rfl)
            · have ho := ip_ c14 ho
              refine lv_aload_n hx hb dX9_row_56 rfl (lv_at hl 2 rfl) ?_
              refine r_get (ci := 13) (C := RX9) (T := TX9) (N := 10) S F B (kq (by decide) : kd 154 = 7 ∧ 154 < NN) rfl rfl hiX9 9 (by decide) (by decide +kernel) rfl dX9_row_57 ?_
              refine lv_bipush (v := 77) hx hb dX9_row_60 (by decide) ?_
              obtain ⟨σ30, hq29, ho⟩ := bnd_ ho
              refine k_qV (As := [.int 77]) (rest := []) S F B (c_J4_append_cf468 l G σ11 _ 77 hq29) (kq (by decide) : kd 196 = 19 ∧ 196 < NN) rfl rfl (cwV 1 hts gX9_row_J4_append_cf468 rfl rfl rfl (by decide +kernel) ⟨Nat.le_of_ble_eq_true rfl, Nat.le_of_ble_eq_true rfl⟩) rfl hl.1 rfl (Nat.le_of_ble_eq_true rfl) dX9_row_62 ⟨Nat.le_of_ble_eq_true rfl, Nat.le_of_ble_eq_true rfl⟩ (fun H locs B => ?_)
              refine lv_pop hx hb dX9_row_65 rfl ?_
              refine lv_goto (tgt := 85) hx hb dX9_row_66 (by decide) ?_
              refine lv_iload_n hx hb dX9_row_85 rfl (lv_at hl 0 rfl) ?_
              refine lv_iload_n hx hb dX9_row_86 rfl (lv_at hl 1 rfl) ?_
              refine lv_icmp_ge (tgt := 125) hx hb dX9_row_87 (by decide) (fun c31 => ?_) (fun c31 => ?_)
              · have ho := ip_ c31 ho
                obtain ⟨x32, ex32, ho⟩ := lt_ ho
                refine lv_iinc (v := x32) (lv' := [(3, .int x32), (2, .int x5), (0, .ref (G.2.2 154)), (1, .int a0)]) hx hb dX9_row_125 hl (k := 0) rfl (by rw [ex32]; rfl) (by decide) rfl (fun ls hl => ?_)
                refine lv_goto (tgt := 40) hx hb dX9_row_128 (by decide) ?_
                exact ih _ _ _ _ _ ho B (lv_sub hl [0, 1, 2, 3] rfl)
              · have ho := in_ c31 ho
                refine lv_aload_n hx hb dX9_row_90 rfl (lv_at hl 2 rfl) ?_
                refine r_get (ci := 13) (C := RX9) (T := TX9) (N := 10) S F B (kq (by decide) : kd 154 = 7 ∧ 154 < NN) rfl rfl hiX9 9 (by decide) (by decide +kernel) rfl dX9_row_91 ?_
                refine lv_aload_n hx hb dX9_row_94 rfl (lv_at hl 2 rfl) ?_
                refine r_get (ci := 13) (C := RX9) (T := TX9) (N := 10) S F B (kq (by decide) : kd 154 = 7 ∧ 154 < NN) rfl rfl hiX9 0 (by decide) (by decide +kernel) rfl dX9_row_95 ?_
                refine r_getN (ci := 10) (C := RX6) (T := TX6) (N := 9) S F B (kq (by decide) : kd 0 = 0 ∧ 0 < NN) rfl rfl hiX6 0 (by decide) (by decide) rfl dX9_row_98 ?_
                refine lv_iload_n hx hb dX9_row_101 rfl (lv_at hl 0 rfl) ?_
                refine lv_iload_n hx hb dX9_row_102 rfl (lv_at hl 0 rfl) ?_
                refine lv_iconst (v := 1) hx hb dX9_row_103 (by decide) ?_
                refine lv_iadd hx hb dX9_row_104 ?_
                obtain ⟨q33, hq33, ho⟩ := bnd_ ho
                refine k_iS (As := [.int v10, .int (v10 + 1)]) (rest := [.ref (G.2.2 1), .ref (G.2.2 196)]) S F B (c_X4_hedgeBetween l G σ30 _ v10 (v10 + 1) hq33) (va_cwS 2 hts gX9_row_X4_hedgeBetween rfl rfl rfl (by decide +kernel) ⟨Nat.le_of_ble_eq_true rfl, Nat.le_of_ble_eq_true rfl⟩) rfl hl.1 rfl (Nat.le_of_ble_eq_true rfl) dX9_row_105 ⟨Nat.le_of_ble_eq_true rfl, Nat.le_of_ble_eq_true rfl⟩ (fun H locs B => ?_)
                obtain ⟨q34, hq34, ho⟩ := bnd_ ho
                refine k_iV (As := [.int q33]) (rest := [.ref (G.2.2 196)]) S F B (c_X4_isOpen l G σ30 _ q33 hq34) (kq (by decide) : kd 1 = 1 ∧ 1 < NN) rfl rfl (cwV 1 hts gX9_row_X4_isOpen rfl rfl rfl (by decide +kernel) ⟨Nat.le_of_ble_eq_true rfl, Nat.le_of_ble_eq_true rfl⟩) rfl hl.1 rfl (Nat.le_of_ble_eq_true rfl) dX9_row_108 ⟨Nat.le_of_ble_eq_true rfl, Nat.le_of_ble_eq_true rfl⟩ (fun H locs B => ?_)
                refine lv_if_eq (tgt := 119) hx hb dX9_row_111 (by decide) (fun c35 => ?_) (fun c35 => ?_)
                · have ho := ip_ c35 ho
                  refine lv_bipush (v := 124) hx hb dX9_row_119 (by decide) ?_
                  obtain ⟨σ37, hq36, ho⟩ := bnd_ ho
                  refine k_qV (As := [.int 124]) (rest := []) S F B (c_J4_append_cf468 l G σ30 _ 124 hq36) (kq (by decide) : kd 196 = 19 ∧ 196 < NN) rfl rfl (cwV 1 hts gX9_row_J4_append_cf468 rfl rfl rfl (by decide +kernel) ⟨Nat.le_of_ble_eq_true rfl, Nat.le_of_ble_eq_true rfl⟩) rfl hl.1 rfl (Nat.le_of_ble_eq_true rfl) dX9_row_121 ⟨Nat.le_of_ble_eq_true rfl, Nat.le_of_ble_eq_true rfl⟩ (fun H locs B => ?_)
                  refine lv_pop hx hb dX9_row_124 rfl ?_
                  obtain ⟨x38, ex38, ho⟩ := lt_ ho
                  refine lv_iinc (v := x38) (lv' := [(3, .int x38), (2, .int x5), (0, .ref (G.2.2 154)), (1, .int a0)]) hx hb dX9_row_125 hl (k := 0) rfl (by rw [ex38]; rfl) (by decide) rfl (fun ls hl => ?_)
                  refine lv_goto (tgt := 40) hx hb dX9_row_128 (by decide) ?_
                  exact ih _ _ _ _ _ ho B (lv_sub hl [0, 1, 2, 3] rfl)
                · have ho := in_ c35 ho
                  refine lv_bipush (v := 32) hx hb dX9_row_114 (by decide) ?_
                  refine lv_goto (tgt := 121) hx hb dX9_row_116 (by decide) ?_
                  obtain ⟨σ40, hq39, ho⟩ := bnd_ ho
                  refine k_qV (As := [.int 32]) (rest := []) S F B (c_J4_append_cf468 l G σ30 _ 32 hq39) (kq (by decide) : kd 196 = 19 ∧ 196 < NN) rfl rfl (cwV 1 hts gX9_row_J4_append_cf468 rfl rfl rfl (by decide +kernel) ⟨Nat.le_of_ble_eq_true rfl, Nat.le_of_ble_eq_true rfl⟩) rfl hl.1 rfl (Nat.le_of_ble_eq_true rfl) dX9_row_121 ⟨Nat.le_of_ble_eq_true rfl, Nat.le_of_ble_eq_true rfl⟩ (fun H locs B => ?_)
                  refine lv_pop hx hb dX9_row_124 rfl ?_
                  obtain ⟨x41, ex41, ho⟩ := lt_ ho
                  refine lv_iinc (v := x41) (lv' := [(3, .int x41), (2, .int x5), (0, .ref (G.2.2 154)), (1, .int a0)]) hx hb dX9_row_125 hl (k := 0) rfl (by rw [ex41]; rfl) (by decide) rfl (fun ls hl => ?_)
                  refine lv_goto (tgt := 40) hx hb dX9_row_128 (by decide) ?_
                  exact ih _ _ _ _ _ ho B (lv_sub hl [0, 1, 2, 3] rfl)
      exact hloop40 8 _ _ _ _ _ ho B hl
    · have ho := in_ c2 ho
      cases ho
      exact t_throwSW 3 26 (by decide) (by decide) S F B hl9 hlocks ht9 hl.1 rfl rfl (by decide +kernel) (by decide +kernel) (by decide +kernel) (by decide +kernel) (Nat.le_of_ble_eq_true rfl) (Nat.le_of_ble_eq_true rfl) (Nat.le_of_ble_eq_true rfl) (Nat.le_of_ble_eq_true rfl) (Nat.le_of_ble_eq_true rfl) (Nat.le_of_ble_eq_true rfl) dX9_row_9 dX9_row_12 dX9_row_13 dX9_row_16 dX9_row_19

set_option maxHeartbeats 4000000 in
set_option maxRecDepth 100000 in
theorem c_X9_character (l : Launch) (hl9 : l.stackTraces = false) (G : Gd) (σ : Mm) (sz : Nat) (a0 : Int32) {out : (Int32 ⊕ Nat) × Mm} (ho : f_X9_character a0 σ = some out) : vx_Met l yX9_character wsX9_character { frames := 6, cells := 1, slots := 6, locals := 110 } (va_Pc [.ref (G.2.2 154), .int a0] (PW G σ sz)) (Xi G sz out) (XX G sz out) 1 6 (AA G sz) := by
  refine vx_ofW (cc := cX9_character) (maxL := 2) (ret := (some .char)) (by decide) rfl ?_
  intro p e s m args below meth c s₁ B0 hml ht9 hv
  obtain ⟨rfl, hpw⟩ := hv
  have hsz := hpw.1
  subst hsz
  obtain ⟨F, B⟩ := hpw.to
  have hx := B0.exec
  have hb := B0.bytes
  have hr := B0.returns
  have hts := atoms_spec (ws := wsX9_character) B0.pre
  have hown : s.vm.findClass RX9 = some m.cls := findClass_of_methodNamed B0.named
  have hlocks := B0.notSynchronized
  have S : CallFix p m c cX9_character 2 s _ wsX9_character RX9 := ⟨hx, hb, hml, hown, hts⟩
  have hiX9 : ∀ w ∈ u_ws RX9 TX9 10, w ∈ wsX9_character := by decide +kernel
  have hl := lv_entry [.ref (G.2.2 154), .int a0] (n := 2) (Nat.le_of_ble_eq_true rfl)
  rw [lg_entry_eq]
  generalize (lg_sl [.ref (G.2.2 154), .int a0] ++ List.replicate (2 - (lg_sl [.ref (G.2.2 154), .int a0]).length) Slot.unset).toArray = ls at hl ⊢
  have hl : lv_has ls 2 [(0, .ref (G.2.2 154)), (1, .int a0)] := hl
  unfold f_X9_character at ho
  refine lv_iload_n hx hb dX9_character_0 rfl (lv_at hl 1 rfl) ?_
  refine lv_if_lt (tgt := 15) hx hb dX9_character_1 (by decide) (fun c1 => ?_) (fun c1 => ?_)
  · have ho := ip_ c1 ho
    cases ho
    exact t_throwSW 1 27 (by decide) (by decide) S F B hl9 hlocks ht9 hl.1 rfl rfl (by decide +kernel) (by decide +kernel) (by decide +kernel) (by decide +kernel) (Nat.le_of_ble_eq_true rfl) (Nat.le_of_ble_eq_true rfl) (Nat.le_of_ble_eq_true rfl) (Nat.le_of_ble_eq_true rfl) (Nat.le_of_ble_eq_true rfl) (Nat.le_of_ble_eq_true rfl) dX9_character_15 dX9_character_18 dX9_character_19 dX9_character_22 dX9_character_25
  · have ho := in_ c1 ho
    refine lv_iload_n hx hb dX9_character_4 rfl (lv_at hl 1 rfl) ?_
    refine lv_aload_n hx hb dX9_character_5 rfl (lv_at hl 0 rfl) ?_
    refine r_get (ci := 13) (C := RX9) (T := TX9) (N := 10) S F B (kq (by decide) : kd 154 = 7 ∧ 154 < NN) rfl rfl hiX9 9 (by decide) (by decide +kernel) rfl dX9_character_6 ?_
    obtain ⟨q2, hq2, ho⟩ := bnd_ ho
    refine k_iV (As := []) (rest := [.int a0]) S F B (c_J4_length_8abf5 l G σ _ hq2) (kq (by decide) : kd 196 = 19 ∧ 196 < NN) rfl rfl (cwV 0 hts gX9_character_J4_length_8abf5 rfl rfl rfl (by decide +kernel) ⟨Nat.le_of_ble_eq_true rfl, Nat.le_of_ble_eq_true rfl⟩) rfl hl.1 rfl (Nat.le_of_ble_eq_true rfl) dX9_character_9 ⟨Nat.le_of_ble_eq_true rfl, Nat.le_of_ble_eq_true rfl⟩ (fun H locs B => ?_)
    refine lv_icmp_lt (tgt := 26) hx hb dX9_character_12 (by decide) (fun c3 => ?_) (fun c3 => ?_)
    · have ho := ip_ c3 ho
      refine lv_aload_n hx hb dX9_character_26 rfl (lv_at hl 0 rfl) ?_
      refine r_get (ci := 13) (C := RX9) (T := TX9) (N := 10) S F B (kq (by decide) : kd 154 = 7 ∧ 154 < NN) rfl rfl hiX9 9 (by decide) (by decide +kernel) rfl dX9_character_27 ?_
      refine lv_iload_n hx hb dX9_character_30 rfl (lv_at hl 1 rfl) ?_
      obtain ⟨q4, hq4, ho⟩ := bnd_ ho
      refine k_iV (As := [.int a0]) (rest := []) S F B (c_J4_charAt_5068e l G σ _ a0 hq4) (kq (by decide) : kd 196 = 19 ∧ 196 < NN) rfl rfl (cwV 1 hts gX9_character_J4_charAt_5068e rfl rfl rfl (by decide +kernel) ⟨Nat.le_of_ble_eq_true rfl, Nat.le_of_ble_eq_true rfl⟩) rfl hl.1 rfl (Nat.le_of_ble_eq_true rfl) dX9_character_31 ⟨Nat.le_of_ble_eq_true rfl, Nat.le_of_ble_eq_true rfl⟩ (fun H locs B => ?_)
      obtain ⟨hz, ho⟩ := cz_ ho
      refine W.widen (k := 1) (n := 6) (by decide) (by decide) ?_
      cases ho
      exact xe_i B hx hb hr hlocks hz rfl rfl dX9_character_34
    · have ho := in_ c3 ho
      cases ho
      exact t_throwSW 1 27 (by decide) (by decide) S F B hl9 hlocks ht9 hl.1 rfl rfl (by decide +kernel) (by decide +kernel) (by decide +kernel) (by decide +kernel) (Nat.le_of_ble_eq_true rfl) (Nat.le_of_ble_eq_true rfl) (Nat.le_of_ble_eq_true rfl) (Nat.le_of_ble_eq_true rfl) (Nat.le_of_ble_eq_true rfl) (Nat.le_of_ble_eq_true rfl) dX9_character_15 dX9_character_18 dX9_character_19 dX9_character_22 dX9_character_25

set_option maxHeartbeats 4000000 in
set_option maxRecDepth 100000 in
theorem c_X9_account (l : Launch) (hl9 : l.stackTraces = false) (G : Gd) (σ : Mm) (sz : Nat) (a0 : Int32) {out : (Int32 ⊕ Nat) × Mm} (ho : f_X9_account a0 σ = some out) : vx_Met l yX9_account wsX9_account { frames := 6, cells := 1, slots := 6, locals := 119 } (va_Pc [.ref (G.2.2 154), .int a0] (PW G σ sz)) (Xi G sz out) (XX G sz out) 1 6 (AA G sz) := by
  refine vx_ofW (cc := cX9_account) (maxL := 2) (ret := (some .int)) (by decide) rfl ?_
  intro p e s m args below meth c s₁ B0 hml ht9 hv
  obtain ⟨rfl, hpw⟩ := hv
  have hsz := hpw.1
  subst hsz
  obtain ⟨F, B⟩ := hpw.to
  have hx := B0.exec
  have hb := B0.bytes
  have hr := B0.returns
  have hts := atoms_spec (ws := wsX9_account) B0.pre
  have hown : s.vm.findClass RX9 = some m.cls := findClass_of_methodNamed B0.named
  have hlocks := B0.notSynchronized
  have S : CallFix p m c cX9_account 2 s _ wsX9_account RX9 := ⟨hx, hb, hml, hown, hts⟩
  have hiX9 : ∀ w ∈ u_ws RX9 TX9 10, w ∈ wsX9_account := by decide +kernel
  have hiX0 : ∀ w ∈ u_ws RX0 TX0 8, w ∈ wsX9_account := by decide +kernel
  have hiX2 : ∀ w ∈ u_ws RX2 TX2 3, w ∈ wsX9_account := by decide +kernel
  have hiX6 : ∀ w ∈ u_ws RX6 TX6 9, w ∈ wsX9_account := by decide +kernel
  have hl := lv_entry [.ref (G.2.2 154), .int a0] (n := 2) (Nat.le_of_ble_eq_true rfl)
  rw [lg_entry_eq]
  generalize (lg_sl [.ref (G.2.2 154), .int a0] ++ List.replicate (2 - (lg_sl [.ref (G.2.2 154), .int a0]).length) Slot.unset).toArray = ls at hl ⊢
  have hl : lv_has ls 2 [(0, .ref (G.2.2 154)), (1, .int a0)] := hl
  unfold f_X9_account at ho
  refine lv_iload_n hx hb dX9_account_0 rfl (lv_at hl 1 rfl) ?_
  by_cases c1 : a0 = 0
  · have ho := ip_ c1 ho
    refine lv_tableIn (off := 63) (tgt := 64) hx hb dX9_account_1 (by rw [c1]; decide) (by rw [c1]; decide) (by rw [c1]; rfl) (by decide) ?_
    refine lv_aload_n hx hb dX9_account_64 rfl (lv_at hl 0 rfl) ?_
    refine r_get (ci := 13) (C := RX9) (T := TX9) (N := 10) S F B (kq (by decide) : kd 154 = 7 ∧ 154 < NN) rfl rfl hiX9 0 (by decide) (by decide +kernel) rfl dX9_account_65 ?_
    refine r_getN (ci := 10) (C := RX6) (T := TX6) (N := 9) S F B (kq (by decide) : kd 0 = 0 ∧ 0 < NN) rfl rfl hiX6 3 (by decide) (by decide) rfl dX9_account_68 ?_
    refine W.widen (k := 1) (n := 6) (by decide) (by decide) ?_
    cases ho
    exact xe_i B hx hb hr hlocks rfl rfl rfl dX9_account_71
  · have ho := in_ c1 ho
    by_cases c2 : a0 = 1
    · have ho := ip_ c2 ho
      refine lv_tableIn (off := 71) (tgt := 72) hx hb dX9_account_1 (by rw [c2]; decide) (by rw [c2]; decide) (by rw [c2]; rfl) (by decide) ?_
      refine lv_aload_n hx hb dX9_account_72 rfl (lv_at hl 0 rfl) ?_
      refine r_get (ci := 13) (C := RX9) (T := TX9) (N := 10) S F B (kq (by decide) : kd 154 = 7 ∧ 154 < NN) rfl rfl hiX9 0 (by decide) (by decide +kernel) rfl dX9_account_73 ?_
      refine r_getN (ci := 10) (C := RX6) (T := TX6) (N := 9) S F B (kq (by decide) : kd 0 = 0 ∧ 0 < NN) rfl rfl hiX6 4 (by decide) (by decide) rfl dX9_account_76 ?_
      refine W.widen (k := 1) (n := 6) (by decide) (by decide) ?_
      cases ho
      exact xe_i B hx hb hr hlocks rfl rfl rfl dX9_account_79
    · have ho := in_ c2 ho
      by_cases c3 : a0 = 2
      · have ho := ip_ c3 ho
        refine lv_tableIn (off := 79) (tgt := 80) hx hb dX9_account_1 (by rw [c3]; decide) (by rw [c3]; decide) (by rw [c3]; rfl) (by decide) ?_
        refine lv_aload_n hx hb dX9_account_80 rfl (lv_at hl 0 rfl) ?_
        refine r_get (ci := 13) (C := RX9) (T := TX9) (N := 10) S F B (kq (by decide) : kd 154 = 7 ∧ 154 < NN) rfl rfl hiX9 0 (by decide) (by decide +kernel) rfl dX9_account_81 ?_
        refine lv_bipush (v := 8) hx hb dX9_account_84 (by decide) ?_
        obtain ⟨q4, hq4, ho⟩ := bnd_ ho
        refine k_iV (As := [.int 8]) (rest := []) S F B (c_X6_totalOf l G σ _ 8 hq4) (kq (by decide) : kd 0 = 0 ∧ 0 < NN) rfl rfl (cwV 1 hts gX9_account_X6_totalOf rfl rfl rfl (by decide +kernel) ⟨Nat.le_of_ble_eq_true rfl, Nat.le_of_ble_eq_true rfl⟩) rfl hl.1 rfl (Nat.le_of_ble_eq_true rfl) dX9_account_86 ⟨Nat.le_of_ble_eq_true rfl, Nat.le_of_ble_eq_true rfl⟩ (fun H locs B => ?_)
        refine W.widen (k := 1) (n := 6) (by decide) (by decide) ?_
        cases ho
        exact xe_i B hx hb hr hlocks rfl rfl rfl dX9_account_89
      · have ho := in_ c3 ho
        by_cases c5 : a0 = 3
        · have ho := ip_ c5 ho
          refine lv_tableIn (off := 89) (tgt := 90) hx hb dX9_account_1 (by rw [c5]; decide) (by rw [c5]; decide) (by rw [c5]; rfl) (by decide) ?_
          refine lv_aload_n hx hb dX9_account_90 rfl (lv_at hl 0 rfl) ?_
          refine r_get (ci := 13) (C := RX9) (T := TX9) (N := 10) S F B (kq (by decide) : kd 154 = 7 ∧ 154 < NN) rfl rfl hiX9 0 (by decide) (by decide +kernel) rfl dX9_account_91 ?_
          obtain ⟨q6, hq6, ho⟩ := bnd_ ho
          refine k_iV (As := []) (rest := []) S F B (c_X6_bonds l G σ _ hq6) (kq (by decide) : kd 0 = 0 ∧ 0 < NN) rfl rfl (cwV 0 hts gX9_account_X6_bonds rfl rfl rfl (by decide +kernel) ⟨Nat.le_of_ble_eq_true rfl, Nat.le_of_ble_eq_true rfl⟩) rfl hl.1 rfl (Nat.le_of_ble_eq_true rfl) dX9_account_94 ⟨Nat.le_of_ble_eq_true rfl, Nat.le_of_ble_eq_true rfl⟩ (fun H locs B => ?_)
          refine W.widen (k := 1) (n := 6) (by decide) (by decide) ?_
          cases ho
          exact xe_i B hx hb hr hlocks rfl rfl rfl dX9_account_97
        · have ho := in_ c5 ho
          by_cases c7 : a0 = 4
          · have ho := ip_ c7 ho
            refine lv_tableIn (off := 97) (tgt := 98) hx hb dX9_account_1 (by rw [c7]; decide) (by rw [c7]; decide) (by rw [c7]; rfl) (by decide) ?_
            refine lv_aload_n hx hb dX9_account_98 rfl (lv_at hl 0 rfl) ?_
            refine r_get (ci := 13) (C := RX9) (T := TX9) (N := 10) S F B (kq (by decide) : kd 154 = 7 ∧ 154 < NN) rfl rfl hiX9 0 (by decide) (by decide +kernel) rfl dX9_account_99 ?_
            refine lv_bipush (v := 7) hx hb dX9_account_102 (by decide) ?_
            obtain ⟨q8, hq8, ho⟩ := bnd_ ho
            refine k_iV (As := [.int 7]) (rest := []) S F B (c_X6_totalOf l G σ _ 7 hq8) (kq (by decide) : kd 0 = 0 ∧ 0 < NN) rfl rfl (cwV 1 hts gX9_account_X6_totalOf rfl rfl rfl (by decide +kernel) ⟨Nat.le_of_ble_eq_true rfl, Nat.le_of_ble_eq_true rfl⟩) rfl hl.1 rfl (Nat.le_of_ble_eq_true rfl) dX9_account_104 ⟨Nat.le_of_ble_eq_true rfl, Nat.le_of_ble_eq_true rfl⟩ (fun H locs B => ?_)
            refine W.widen (k := 1) (n := 6) (by decide) (by decide) ?_
            cases ho
            exact xe_i B hx hb hr hlocks rfl rfl rfl dX9_account_107
          · have ho := in_ c7 ho
            by_cases c9 : a0 = 5
            · have ho := ip_ c9 ho
              refine lv_tableIn (off := 107) (tgt := 108) hx hb dX9_account_1 (by rw [c9]; decide) (by rw [c9]; decide) (by rw [c9]; rfl) (by decide) ?_
              refine lv_aload_n hx hb dX9_account_108 rfl (lv_at hl 0 rfl) ?_
              refine r_get (ci := 13) (C := RX9) (T := TX9) (N := 10) S F B (kq (by decide) : kd 154 = 7 ∧ 154 < NN) rfl rfl hiX9 0 (by decide) (by decide +kernel) rfl dX9_account_109 ?_
              refine r_getN (ci := 10) (C := RX6) (T := TX6) (N := 9) S F B (kq (by decide) : kd 0 = 0 ∧ 0 < NN) rfl rfl hiX6 0 (by decide) (by decide) rfl dX9_account_112 ?_
              obtain ⟨q10, hq10, ho⟩ := bnd_ ho
              refine k_iV (As := []) (rest := []) S F B (c_X4_gaps l G σ _ hq10) (kq (by decide) : kd 1 = 1 ∧ 1 < NN) rfl rfl (cwV 0 hts gX9_account_X4_gaps rfl rfl rfl (by decide +kernel) ⟨Nat.le_of_ble_eq_true rfl, Nat.le_of_ble_eq_true rfl⟩) rfl hl.1 rfl (Nat.le_of_ble_eq_true rfl) dX9_account_115 ⟨Nat.le_of_ble_eq_true rfl, Nat.le_of_ble_eq_true rfl⟩ (fun H locs B => ?_)
              refine W.widen (k := 1) (n := 6) (by decide) (by decide) ?_
              cases ho
              exact xe_i B hx hb hr hlocks rfl rfl rfl dX9_account_118
            · have ho := in_ c9 ho
              by_cases c11 : a0 = 6
              · have ho := ip_ c11 ho
                refine lv_tableIn (off := 118) (tgt := 119) hx hb dX9_account_1 (by rw [c11]; decide) (by rw [c11]; decide) (by rw [c11]; rfl) (by decide) ?_
                refine lv_aload_n hx hb dX9_account_119 rfl (lv_at hl 0 rfl) ?_
                refine r_get (ci := 13) (C := RX9) (T := TX9) (N := 10) S F B (kq (by decide) : kd 154 = 7 ∧ 154 < NN) rfl rfl hiX9 0 (by decide) (by decide +kernel) rfl dX9_account_120 ?_
                refine r_getN (ci := 10) (C := RX6) (T := TX6) (N := 9) S F B (kq (by decide) : kd 0 = 0 ∧ 0 < NN) rfl rfl hiX6 6 (by decide) (by decide) rfl dX9_account_123 ?_
                refine W.widen (k := 1) (n := 6) (by decide) (by decide) ?_
                cases ho
                exact xe_i B hx hb hr hlocks rfl rfl rfl dX9_account_126
              · have ho := in_ c11 ho
                by_cases c12 : a0 = 7
                · have ho := ip_ c12 ho
                  refine lv_tableIn (off := 126) (tgt := 127) hx hb dX9_account_1 (by rw [c12]; decide) (by rw [c12]; decide) (by rw [c12]; rfl) (by decide) ?_
                  refine lv_aload_n hx hb dX9_account_127 rfl (lv_at hl 0 rfl) ?_
                  refine r_get (ci := 13) (C := RX9) (T := TX9) (N := 10) S F B (kq (by decide) : kd 154 = 7 ∧ 154 < NN) rfl rfl hiX9 0 (by decide) (by decide +kernel) rfl dX9_account_128 ?_
                  refine r_getN (ci := 10) (C := RX6) (T := TX6) (N := 9) S F B (kq (by decide) : kd 0 = 0 ∧ 0 < NN) rfl rfl hiX6 7 (by decide) (by decide) rfl dX9_account_131 ?_
                  refine W.widen (k := 1) (n := 6) (by decide) (by decide) ?_
                  cases ho
                  exact xe_i B hx hb hr hlocks rfl rfl rfl dX9_account_134
                · have ho := in_ c12 ho
                  by_cases c13 : a0 = 8
                  · have ho := ip_ c13 ho
                    refine lv_tableIn (off := 134) (tgt := 135) hx hb dX9_account_1 (by rw [c13]; decide) (by rw [c13]; decide) (by rw [c13]; rfl) (by decide) ?_
                    refine lv_aload_n hx hb dX9_account_135 rfl (lv_at hl 0 rfl) ?_
                    refine r_get (ci := 13) (C := RX9) (T := TX9) (N := 10) S F B (kq (by decide) : kd 154 = 7 ∧ 154 < NN) rfl rfl hiX9 0 (by decide) (by decide +kernel) rfl dX9_account_136 ?_
                    refine r_getN (ci := 10) (C := RX6) (T := TX6) (N := 9) S F B (kq (by decide) : kd 0 = 0 ∧ 0 < NN) rfl rfl hiX6 8 (by decide) (by decide) rfl dX9_account_139 ?_
                    refine W.widen (k := 1) (n := 6) (by decide) (by decide) ?_
                    cases ho
                    exact xe_i B hx hb hr hlocks rfl rfl rfl dX9_account_142
                  · have ho := in_ c13 ho
                    by_cases c14 : a0 = 9
                    · have ho := ip_ c14 ho
                      refine lv_tableIn (off := 142) (tgt := 143) hx hb dX9_account_1 (by rw [c14]; decide) (by rw [c14]; decide) (by rw [c14]; rfl) (by decide) ?_
                      refine lv_aload_n hx hb dX9_account_143 rfl (lv_at hl 0 rfl) ?_
                      refine r_get (ci := 13) (C := RX9) (T := TX9) (N := 10) S F B (kq (by decide) : kd 154 = 7 ∧ 154 < NN) rfl rfl hiX9 0 (by decide) (by decide +kernel) rfl dX9_account_144 ?_
                      obtain ⟨q15, hq15, ho⟩ := bnd_ ho
                      refine k_iV (As := []) (rest := []) S F B (c_X6_coinsOfAll l G σ _ hq15) (kq (by decide) : kd 0 = 0 ∧ 0 < NN) rfl rfl (cwV 0 hts gX9_account_X6_coinsOfAll rfl rfl rfl (by decide +kernel) ⟨Nat.le_of_ble_eq_true rfl, Nat.le_of_ble_eq_true rfl⟩) rfl hl.1 rfl (Nat.le_of_ble_eq_true rfl) dX9_account_147 ⟨Nat.le_of_ble_eq_true rfl, Nat.le_of_ble_eq_true rfl⟩ (fun H locs B => ?_)
                      refine W.widen (k := 1) (n := 6) (by decide) (by decide) ?_
                      cases ho
                      exact xe_i B hx hb hr hlocks rfl rfl rfl dX9_account_150
                    · have ho := in_ c14 ho
                      by_cases c16 : a0 = 10
                      · have ho := ip_ c16 ho
                        refine lv_tableIn (off := 150) (tgt := 151) hx hb dX9_account_1 (by rw [c16]; decide) (by rw [c16]; decide) (by rw [c16]; rfl) (by decide) ?_
                        refine lv_aload_n hx hb dX9_account_151 rfl (lv_at hl 0 rfl) ?_
                        refine r_get (ci := 13) (C := RX9) (T := TX9) (N := 10) S F B (kq (by decide) : kd 154 = 7 ∧ 154 < NN) rfl rfl hiX9 4 (by decide) (by decide +kernel) rfl dX9_account_152 ?_
                        refine r_getN (ci := 6) (C := RX2) (T := TX2) (N := 3) S F B (kq (by decide) : kd 155 = 8 ∧ 155 < NN) rfl rfl hiX2 2 (by decide) (by decide) rfl dX9_account_155 ?_
                        refine W.widen (k := 1) (n := 6) (by decide) (by decide) ?_
                        cases ho
                        exact xe_i B hx hb hr hlocks rfl rfl rfl dX9_account_158
                      · have ho := in_ c16 ho
                        by_cases c17 : a0 = 11
                        · have ho := ip_ c17 ho
                          refine lv_tableIn (off := 158) (tgt := 159) hx hb dX9_account_1 (by rw [c17]; decide) (by rw [c17]; decide) (by rw [c17]; rfl) (by decide) ?_
                          refine lv_aload_n hx hb dX9_account_159 rfl (lv_at hl 0 rfl) ?_
                          refine r_get (ci := 13) (C := RX9) (T := TX9) (N := 10) S F B (kq (by decide) : kd 154 = 7 ∧ 154 < NN) rfl rfl hiX9 8 (by decide) (by decide +kernel) rfl dX9_account_160 ?_
                          refine r_getN (ci := 4) (C := RX0) (T := TX0) (N := 8) S F B (kq (by decide) : kd 162 = 14 ∧ 162 < NN) rfl rfl hiX0 3 (by decide) (by decide) rfl dX9_account_163 ?_
                          refine W.widen (k := 1) (n := 6) (by decide) (by decide) ?_
                          cases ho
                          exact xe_i B hx hb hr hlocks rfl rfl rfl dX9_account_166
                        · have ho := in_ c17 ho
                          refine t_tableD (tgt := 167) hx hb dX9_account_1 rfl (fun j hj => ?_) (by decide) ?_
                          · have hj : j < 12 := hj
                            rcases (show j = 0 ∨ j = 1 ∨ j = 2 ∨ j = 3 ∨ j = 4 ∨ j = 5 ∨ j = 6 ∨ j = 7 ∨ j = 8 ∨ j = 9 ∨ j = 10 ∨ j = 11 by omega) with rfl | rfl | rfl | rfl | rfl | rfl | rfl | rfl | rfl | rfl | rfl | rfl
                            · exact Or.inr (lv_neT c1 (by decide))
                            · exact Or.inr (lv_neT c2 (by decide))
                            · exact Or.inr (lv_neT c3 (by decide))
                            · exact Or.inr (lv_neT c5 (by decide))
                            · exact Or.inr (lv_neT c7 (by decide))
                            · exact Or.inr (lv_neT c9 (by decide))
                            · exact Or.inr (lv_neT c11 (by decide))
                            · exact Or.inr (lv_neT c12 (by decide))
                            · exact Or.inr (lv_neT c13 (by decide))
                            · exact Or.inr (lv_neT c14 (by decide))
                            · exact Or.inr (lv_neT c16 (by decide))
                            · exact Or.inr (lv_neT c17 (by decide))
                          · cases ho
                            exact t_throwSW 3 29 (by decide) (by decide) S F B hl9 hlocks ht9 hl.1 rfl rfl (by decide +kernel) (by decide +kernel) (by decide +kernel) (by decide +kernel) (Nat.le_of_ble_eq_true rfl) (Nat.le_of_ble_eq_true rfl) (Nat.le_of_ble_eq_true rfl) (Nat.le_of_ble_eq_true rfl) (Nat.le_of_ble_eq_true rfl) (Nat.le_of_ble_eq_true rfl) dX9_account_167 dX9_account_170 dX9_account_171 dX9_account_174 dX9_account_177

set_option maxHeartbeats 4000000 in
set_option maxRecDepth 100000 in
theorem c_X9_undo (l : Launch) (hl9 : l.stackTraces = false) (G : Gd) (σ : Mm) (sz : Nat) {out : (Int32 ⊕ Nat) × Mm} (ho : f_X9_undo σ = some out) : vx_Met l yX9_undo wsX9_undo { frames := 6, cells := 1, slots := 6, locals := 110 } (va_Pc [.ref (G.2.2 154)] (PW G σ sz)) (Xi G sz out) (XX G sz out) 1 6 (AA G sz) := by
  refine vx_ofW (cc := cX9_undo) (maxL := 1) (ret := (some .int)) (by decide) rfl ?_
  intro p e s m args below meth c s₁ B0 hml ht9 hv
  obtain ⟨rfl, hpw⟩ := hv
  have hsz := hpw.1
  subst hsz
  obtain ⟨F, B⟩ := hpw.to
  have hx := B0.exec
  have hb := B0.bytes
  have hr := B0.returns
  have hts := atoms_spec (ws := wsX9_undo) B0.pre
  have hown : s.vm.findClass RX9 = some m.cls := findClass_of_methodNamed B0.named
  have hlocks := B0.notSynchronized
  have S : CallFix p m c cX9_undo 1 s _ wsX9_undo RX9 := ⟨hx, hb, hml, hown, hts⟩
  have hiX9 : ∀ w ∈ u_ws RX9 TX9 10, w ∈ wsX9_undo := by decide +kernel
  have hiX2 : ∀ w ∈ u_ws RX2 TX2 3, w ∈ wsX9_undo := by decide +kernel
  have hl := lv_entry [.ref (G.2.2 154)] (n := 1) (Nat.le_of_ble_eq_true rfl)
  rw [lg_entry_eq]
  generalize (lg_sl [.ref (G.2.2 154)] ++ List.replicate (1 - (lg_sl [.ref (G.2.2 154)]).length) Slot.unset).toArray = ls at hl ⊢
  have hl : lv_has ls 1 [(0, .ref (G.2.2 154))] := hl
  unfold f_X9_undo at ho
  refine lv_aload_n hx hb dX9_undo_0 rfl (lv_at hl 0 rfl) ?_
  refine r_get (ci := 13) (C := RX9) (T := TX9) (N := 10) S F B (kq (by decide) : kd 154 = 7 ∧ 154 < NN) rfl rfl hiX9 4 (by decide) (by decide +kernel) rfl dX9_undo_1 ?_
  refine r_getN (ci := 6) (C := RX2) (T := TX2) (N := 3) S F B (kq (by decide) : kd 155 = 8 ∧ 155 < NN) rfl rfl hiX2 2 (by decide) (by decide) rfl dX9_undo_4 ?_
  refine lv_if_ne (tgt := 21) hx hb dX9_undo_7 (by decide) (fun c1 => ?_) (fun c1 => ?_)
  · have ho := in_ c1 ho
    refine lv_aload_n hx hb dX9_undo_21 rfl (lv_at hl 0 rfl) ?_
    refine r_get (ci := 13) (C := RX9) (T := TX9) (N := 10) S F B (kq (by decide) : kd 154 = 7 ∧ 154 < NN) rfl rfl hiX9 4 (by decide) (by decide +kernel) rfl dX9_undo_22 ?_
    refine lv_aload_n hx hb dX9_undo_25 rfl (lv_at hl 0 rfl) ?_
    refine r_get (ci := 13) (C := RX9) (T := TX9) (N := 10) S F B (kq (by decide) : kd 154 = 7 ∧ 154 < NN) rfl rfl hiX9 0 (by decide) (by decide +kernel) rfl dX9_undo_26 ?_
    obtain ⟨σ3, hq2, ho⟩ := bnd_ ho
    refine k_vV (As := [.ref (G.2.2 0)]) (rest := []) S F B (c_X2_takeBack l G σ _ hq2) (kq (by decide) : kd 155 = 8 ∧ 155 < NN) rfl rfl (cwV 1 hts gX9_undo_X2_takeBack rfl rfl rfl (by decide +kernel) ⟨Nat.le_of_ble_eq_true rfl, Nat.le_of_ble_eq_true rfl⟩) rfl hl.1 rfl (Nat.le_of_ble_eq_true rfl) dX9_undo_29 ⟨Nat.le_of_ble_eq_true rfl, Nat.le_of_ble_eq_true rfl⟩ (fun H locs B => ?_)
    refine lv_aload_n hx hb dX9_undo_32 rfl (lv_at hl 0 rfl) ?_
    refine r_get (ci := 13) (C := RX9) (T := TX9) (N := 10) S F B (kq (by decide) : kd 154 = 7 ∧ 154 < NN) rfl rfl hiX9 4 (by decide) (by decide +kernel) rfl dX9_undo_33 ?_
    refine r_getN (ci := 6) (C := RX2) (T := TX2) (N := 3) S F B (kq (by decide) : kd 155 = 8 ∧ 155 < NN) rfl rfl hiX2 2 (by decide) (by decide) rfl dX9_undo_36 ?_
    refine W.widen (k := 1) (n := 6) (by decide) (by decide) ?_
    cases ho
    exact xe_i B hx hb hr hlocks rfl rfl rfl dX9_undo_39
  · have ho := ip_ c1 ho
    cases ho
    exact t_throwSW 4 30 (by decide) (by decide) S F B hl9 hlocks ht9 hl.1 rfl rfl (by decide +kernel) (by decide +kernel) (by decide +kernel) (by decide +kernel) (Nat.le_of_ble_eq_true rfl) (Nat.le_of_ble_eq_true rfl) (Nat.le_of_ble_eq_true rfl) (Nat.le_of_ble_eq_true rfl) (Nat.le_of_ble_eq_true rfl) (Nat.le_of_ble_eq_true rfl) dX9_undo_10 dX9_undo_13 dX9_undo_14 dX9_undo_17 dX9_undo_20

set_option maxHeartbeats 4000000 in
set_option maxRecDepth 100000 in
theorem c_X9_save (l : Launch) (G : Gd) (σ : Mm) (sz : Nat) {out : Int32 × Mm} (ho : f_X9_save σ = some out) : Met l yX9_save wsX9_save { frames := 3, cells := 0, slots := 0, locals := 83 } (va_Pc [.ref (G.2.2 154)] (PW G σ sz)) (Qi G sz out.1 out.2) 0 0 (AA G sz) := by
  refine Met.ofW (cc := cX9_save) (maxL := 1) (ret := (some .int)) (by decide) rfl ?_
  intro p e s m args below meth c s₁ B0 hml hv
  obtain ⟨rfl, hpw⟩ := hv
  have hsz := hpw.1
  subst hsz
  obtain ⟨F, B⟩ := hpw.to
  have hx := B0.exec
  have hb := B0.bytes
  have hr := B0.returns
  have hts := atoms_spec (ws := wsX9_save) B0.pre
  have hown : s.vm.findClass RX9 = some m.cls := findClass_of_methodNamed B0.named
  have hlocks := B0.notSynchronized
  have S : CallFix p m c cX9_save 1 s _ wsX9_save RX9 := ⟨hx, hb, hml, hown, hts⟩
  have hiX9 : ∀ w ∈ u_ws RX9 TX9 10, w ∈ wsX9_save := by decide +kernel
  have hiX6 : ∀ w ∈ u_ws RX6 TX6 9, w ∈ wsX9_save := by decide +kernel
  have hl := lv_entry [.ref (G.2.2 154)] (n := 1) (Nat.le_of_ble_eq_true rfl)
  rw [lg_entry_eq]
  generalize (lg_sl [.ref (G.2.2 154)] ++ List.replicate (1 - (lg_sl [.ref (G.2.2 154)]).length) Slot.unset).toArray = ls at hl ⊢
  have hl : lv_has ls 1 [(0, .ref (G.2.2 154))] := hl
  unfold f_X9_save at ho
  refine lv_aload_n hx hb dX9_save_0 rfl (lv_at hl 0 rfl) ?_
  refine r_get (ci := 13) (C := RX9) (T := TX9) (N := 10) S F B (kq (by decide) : kd 154 = 7 ∧ 154 < NN) rfl rfl hiX9 2 (by decide) (by decide +kernel) rfl dX9_save_1 ?_
  refine lv_aload_n hx hb dX9_save_4 rfl (lv_at hl 0 rfl) ?_
  refine r_get (ci := 13) (C := RX9) (T := TX9) (N := 10) S F B (kq (by decide) : kd 154 = 7 ∧ 154 < NN) rfl rfl hiX9 0 (by decide) (by decide +kernel) rfl dX9_save_5 ?_
  obtain ⟨σ2, hq1, ho⟩ := bnd_ ho
  refine k_vV (As := [.ref (G.2.2 0)]) (rest := []) S F B (c_X6_copyFrom l G σ _ 28 0 isS28 isS0 hq1) (kq (by decide) : kd 28 = 0 ∧ 28 < NN) rfl rfl (cwV 1 hts gX9_save_X6_copyFrom rfl rfl rfl (by decide +kernel) ⟨Nat.le_of_ble_eq_true rfl, Nat.le_of_ble_eq_true rfl⟩) rfl hl.1 rfl (Nat.le_of_ble_eq_true rfl) dX9_save_8 ⟨Nat.le_of_ble_eq_true rfl, Nat.le_of_ble_eq_true rfl⟩ (fun H locs B => ?_)
  refine lv_aload_n hx hb dX9_save_11 rfl (lv_at hl 0 rfl) ?_
  refine lv_iconst (v := 1) hx hb dX9_save_12 (by decide) ?_
  refine r_put (ci := 13) (C := RX9) (T := TX9) (N := 10) (ty := .boolean) S F B tyX9 tyX9_ok nmX9 (kq (by decide) : kd 154 = 7 ∧ 154 < NN) (fun _ => rfl) rfl hiX9 3 (by decide) (by decide +kernel) rfl rfl rfl rfl (fun _ => Nat.le_of_ble_eq_true rfl) (fun _ => rfl) dX9_save_13 (fun H locs B => ?_)
  obtain ⟨σ3, eσ3, ho⟩ := lt_ ho
  rw [← eσ3] at B
  refine lv_aload_n hx hb dX9_save_16 rfl (lv_at hl 0 rfl) ?_
  refine r_get (ci := 13) (C := RX9) (T := TX9) (N := 10) S F B (kq (by decide) : kd 154 = 7 ∧ 154 < NN) rfl rfl hiX9 0 (by decide) (by decide +kernel) rfl dX9_save_17 ?_
  refine r_getN (ci := 10) (C := RX6) (T := TX6) (N := 9) S F B (kq (by decide) : kd 0 = 0 ∧ 0 < NN) rfl rfl hiX6 4 (by decide) (by decide) rfl dX9_save_20 ?_
  cases ho
  exact e_i B hx hb hr hlocks rfl rfl dX9_save_23

set_option maxHeartbeats 4000000 in
set_option maxRecDepth 100000 in
theorem c_X9_restore (l : Launch) (hl9 : l.stackTraces = false) (G : Gd) (σ : Mm) (sz : Nat) {out : (Int32 ⊕ Nat) × Mm} (ho : f_X9_restore σ = some out) : vx_Met l yX9_restore wsX9_restore { frames := 6, cells := 1, slots := 6, locals := 110 } (va_Pc [.ref (G.2.2 154)] (PW G σ sz)) (Xi G sz out) (XX G sz out) 1 6 (AA G sz) := by
  refine vx_ofW (cc := cX9_restore) (maxL := 1) (ret := (some .int)) (by decide) rfl ?_
  intro p e s m args below meth c s₁ B0 hml ht9 hv
  obtain ⟨rfl, hpw⟩ := hv
  have hsz := hpw.1
  subst hsz
  obtain ⟨F, B⟩ := hpw.to
  have hx := B0.exec
  have hb := B0.bytes
  have hr := B0.returns
  have hts := atoms_spec (ws := wsX9_restore) B0.pre
  have hown : s.vm.findClass RX9 = some m.cls := findClass_of_methodNamed B0.named
  have hlocks := B0.notSynchronized
  have S : CallFix p m c cX9_restore 1 s _ wsX9_restore RX9 := ⟨hx, hb, hml, hown, hts⟩
  have hiX9 : ∀ w ∈ u_ws RX9 TX9 10, w ∈ wsX9_restore := by decide +kernel
  have hiX6 : ∀ w ∈ u_ws RX6 TX6 9, w ∈ wsX9_restore := by decide +kernel
  have hl := lv_entry [.ref (G.2.2 154)] (n := 1) (Nat.le_of_ble_eq_true rfl)
  rw [lg_entry_eq]
  generalize (lg_sl [.ref (G.2.2 154)] ++ List.replicate (1 - (lg_sl [.ref (G.2.2 154)]).length) Slot.unset).toArray = ls at hl ⊢
  have hl : lv_has ls 1 [(0, .ref (G.2.2 154))] := hl
  unfold f_X9_restore at ho
  refine lv_aload_n hx hb dX9_restore_0 rfl (lv_at hl 0 rfl) ?_
  refine r_get (ci := 13) (C := RX9) (T := TX9) (N := 10) S F B (kq (by decide) : kd 154 = 7 ∧ 154 < NN) rfl rfl hiX9 3 (by decide) (by decide +kernel) rfl dX9_restore_1 ?_
  refine lv_if_ne (tgt := 18) hx hb dX9_restore_4 (by decide) (fun c1 => ?_) (fun c1 => ?_)
  · have ho := in_ c1 ho
    refine lv_aload_n hx hb dX9_restore_18 rfl (lv_at hl 0 rfl) ?_
    refine r_get (ci := 13) (C := RX9) (T := TX9) (N := 10) S F B (kq (by decide) : kd 154 = 7 ∧ 154 < NN) rfl rfl hiX9 0 (by decide) (by decide +kernel) rfl dX9_restore_19 ?_
    refine lv_aload_n hx hb dX9_restore_22 rfl (lv_at hl 0 rfl) ?_
    refine r_get (ci := 13) (C := RX9) (T := TX9) (N := 10) S F B (kq (by decide) : kd 154 = 7 ∧ 154 < NN) rfl rfl hiX9 2 (by decide) (by decide +kernel) rfl dX9_restore_23 ?_
    obtain ⟨σ3, hq2, ho⟩ := bnd_ ho
    refine k_vV (As := [.ref (G.2.2 28)]) (rest := []) S F B (c_X6_copyFrom l G σ _ 0 28 isS0 isS28 hq2) (kq (by decide) : kd 0 = 0 ∧ 0 < NN) rfl rfl (cwV 1 hts gX9_restore_X6_copyFrom rfl rfl rfl (by decide +kernel) ⟨Nat.le_of_ble_eq_true rfl, Nat.le_of_ble_eq_true rfl⟩) rfl hl.1 rfl (Nat.le_of_ble_eq_true rfl) dX9_restore_26 ⟨Nat.le_of_ble_eq_true rfl, Nat.le_of_ble_eq_true rfl⟩ (fun H locs B => ?_)
    refine lv_aload_n hx hb dX9_restore_29 rfl (lv_at hl 0 rfl) ?_
    refine r_get (ci := 13) (C := RX9) (T := TX9) (N := 10) S F B (kq (by decide) : kd 154 = 7 ∧ 154 < NN) rfl rfl hiX9 4 (by decide) (by decide +kernel) rfl dX9_restore_30 ?_
    obtain ⟨σ5, hq4, ho⟩ := bnd_ ho
    refine k_vV (As := []) (rest := []) S F B (c_X2_forget l G σ3 _ hq4) (kq (by decide) : kd 155 = 8 ∧ 155 < NN) rfl rfl (cwV 0 hts gX9_restore_X2_forget rfl rfl rfl (by decide +kernel) ⟨Nat.le_of_ble_eq_true rfl, Nat.le_of_ble_eq_true rfl⟩) rfl hl.1 rfl (Nat.le_of_ble_eq_true rfl) dX9_restore_33 ⟨Nat.le_of_ble_eq_true rfl, Nat.le_of_ble_eq_true rfl⟩ (fun H locs B => ?_)
    refine lv_aload_n hx hb dX9_restore_36 rfl (lv_at hl 0 rfl) ?_
    refine r_get (ci := 13) (C := RX9) (T := TX9) (N := 10) S F B (kq (by decide) : kd 154 = 7 ∧ 154 < NN) rfl rfl hiX9 0 (by decide) (by decide +kernel) rfl dX9_restore_37 ?_
    refine r_getN (ci := 10) (C := RX6) (T := TX6) (N := 9) S F B (kq (by decide) : kd 0 = 0 ∧ 0 < NN) rfl rfl hiX6 4 (by decide) (by decide) rfl dX9_restore_40 ?_
    refine W.widen (k := 1) (n := 6) (by decide) (by decide) ?_
    cases ho
    exact xe_i B hx hb hr hlocks rfl rfl rfl dX9_restore_43
  · have ho := ip_ c1 ho
    cases ho
    exact t_throwSW 4 31 (by decide) (by decide) S F B hl9 hlocks ht9 hl.1 rfl rfl (by decide +kernel) (by decide +kernel) (by decide +kernel) (by decide +kernel) (Nat.le_of_ble_eq_true rfl) (Nat.le_of_ble_eq_true rfl) (Nat.le_of_ble_eq_true rfl) (Nat.le_of_ble_eq_true rfl) (Nat.le_of_ble_eq_true rfl) (Nat.le_of_ble_eq_true rfl) dX9_restore_7 dX9_restore_10 dX9_restore_11 dX9_restore_14 dX9_restore_17
