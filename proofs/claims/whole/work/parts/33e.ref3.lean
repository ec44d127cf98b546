set_option maxHeartbeats 4000000 in
set_option maxRecDepth 100000 in
theorem c_X10_row (l : Launch) (G : Gd) (σ : Mm) (sz : Nat) (a0 : Int32) {out : Int32 × Mm} (ho : f_X10_row a0 σ = some out) : Met l yX10_row wsX10_row { frames := 2, cells := 0, slots := 0, locals := 55 } (va_Pc [.ref (G.2.2 198), .int a0] (PW G σ sz)) (Qi G sz out.1 out.2) 0 0 (AA G sz) := by
  refine Met.ofW (cc := cX10_row) (maxL := 3) (ret := (some .int)) (by decide) rfl ?_
  intro p e s m args below meth c s₁ B0 hml hv
  obtain ⟨rfl, hpw⟩ := hv
  have hsz := hpw.1
  subst hsz
  obtain ⟨F, B⟩ := hpw.to
  have hx := B0.exec
  have hb := B0.bytes
  have hr := B0.returns
  have hts := atoms_spec (ws := wsX10_row) B0.pre
  have hown : s.vm.findClass RX10 = some m.cls := findClass_of_methodNamed B0.named
  have hlocks := B0.notSynchronized
  have S : CallFix p m c cX10_row 3 s _ wsX10_row RX10 := ⟨hx, hb, hml, hown, hts⟩
  have hiX10 : ∀ w ∈ u_ws RX10 TX10 21, w ∈ wsX10_row := by decide +kernel
  have hl := lv_entry [.ref (G.2.2 198), .int a0] (n := 3) (Nat.le_of_ble_eq_true rfl)
  rw [lg_entry_eq]
  generalize (lg_sl [.ref (G.2.2 198), .int a0] ++ List.replicate (3 - (lg_sl [.ref (G.2.2 198), .int a0]).length) Slot.unset).toArray = ls at hl ⊢
  have hl : lv_has ls 3 [(0, .ref (G.2.2 198)), (1, .int a0)] := hl
  unfold f_X10_row at ho
  skip
  refine lv_aload_n hx hb dX10_row_0 rfl (lv_at hl 0 rfl) ?_
  refine lv_iconst (v := 0) hx hb dX10_row_1 (by decide) ?_
  refine r_put (ci := 14) (C := RX10) (T := TX10) (N := 21) (ty := .int) S F B tyX10 tyX10_ok nmX10 (kq (by decide) : kd 198 = 21 ∧ 198 < NN) (fun _ => rfl) rfl hiX10 12 (by decide) (by decide +kernel) rfl rfl rfl rfl (fun _ => Nat.le_of_ble_eq_true rfl) (fun _ => rfl) dX10_row_2 (fun H locs B => ?_)
  obtain ⟨σ1, eσ1, ho⟩ := lt_ ho
  rw [← eσ1] at B
  refine lv_iload_n hx hb dX10_row_5 rfl (lv_at hl 1 rfl) ?_
  refine lv_i2l hx hb dX10_row_6 rfl ?_
  refine lv_lconst (v := 0) hx hb dX10_row_7 (by decide) ?_
  refine lv_ldc2 (v := 3) hx hb hown (hts _ (by decide +kernel)) dX10_row_8 ?_
  obtain ⟨q2, hq2, ho⟩ := bnd_ ho
  refine k_iS (As := [.long a0.toInt64, .long 0, .long 3]) (rest := []) S F B (c_X10_in l G σ1 _ a0.toInt64 0 3 hq2) (va_cwS 3 hts gX10_row_X10_in rfl rfl rfl (by decide +kernel) ⟨Nat.le_of_ble_eq_true rfl, Nat.le_of_ble_eq_true rfl⟩) rfl hl.1 rfl (Nat.le_of_ble_eq_true rfl) dX10_row_11 ⟨Nat.le_of_ble_eq_true rfl, Nat.le_of_ble_eq_true rfl⟩ (fun H locs B => ?_)
  refine lv_if_ne (tgt := 23) hx hb dX10_row_14 (by decide) (fun c3 => ?_) (fun c3 => ?_)
  · have ho := in_ c3 ho
    refine lv_aload_n hx hb dX10_row_23 rfl (lv_at hl 0 rfl) ?_
    refine lv_iconst (v := 0) hx hb dX10_row_24 (by decide) ?_
    refine r_put (ci := 14) (C := RX10) (T := TX10) (N := 21) (ty := .int) S F B tyX10 tyX10_ok nmX10 (kq (by decide) : kd 198 = 21 ∧ 198 < NN) (fun _ => rfl) rfl hiX10 20 (by decide) (by decide +kernel) rfl rfl rfl rfl (fun _ => Nat.le_of_ble_eq_true rfl) (fun _ => rfl) dX10_row_25 (fun H locs B => ?_)
    obtain ⟨σ4, eσ4, ho⟩ := lt_ ho
    rw [← eσ4] at B
    refine lv_iconst (v := 4) hx hb dX10_row_28 (by decide) ?_
    refine lv_iload_n hx hb dX10_row_29 rfl (lv_at hl 1 rfl) ?_
    refine lv_imul hx hb dX10_row_30 ?_
    obtain ⟨x5, ex5, ho⟩ := lt_ ho
    refine lv_nm ex5 ?_
    refine lv_istore_n (lv' := [(2, .int x5), (0, .ref (G.2.2 198)), (1, .int a0)]) hx hb dX10_row_31 rfl hl (by decide) rfl (fun ls hl => ?_)
    have hloop32 : ∀ (n : Nat) (v9 : Int32) (σ10 : Mm) (H : Heap) (locs : List Loc) (ls : Array Slot), f_X10_row_l32  a0 n v9 σ10 = some out → Bd G σ10 s H locs → lv_has ls 3 [(2, .int v9), (0, .ref (G.2.2 198)), (1, .int a0)] → W p l e (headSpec wsX10_row { frames := 2, cells := 0, slots := 0, locals := 55 }).room s m #[.ref (G.2.2 198), .int a0] below meth c H locs 0 0 (MQ below (Qi G s.heap.size out.1 out.2) #[.ref (G.2.2 198), .int a0] s 0 0 (AA G s.heap.size)) (F0 m 32 ls []) := by
      intro n
      induction n with
      | zero => intro v9 σ10 H locs ls ho B hl; cases ho
      | succ n ih =>
        intro v9 σ10 H locs ls ho B hl
        refine lv_iload_n hx hb dX10_row_32 rfl (lv_at hl 0 rfl) ?_
        refine lv_iconst (v := 4) hx hb dX10_row_33 (by decide) ?_
        refine lv_iload_n hx hb dX10_row_34 rfl (lv_at hl 2 rfl) ?_
        refine lv_imul hx hb dX10_row_35 ?_
        refine lv_iconst (v := 4) hx hb dX10_row_36 (by decide) ?_
        refine lv_iadd hx hb dX10_row_37 ?_
        refine lv_icmp_ge (tgt := 106) hx hb dX10_row_38 (by decide) (fun c11 => ?_) (fun c11 => ?_)
        · have ho := ip_ c11 ho
          refine lv_aload_n hx hb dX10_row_106 rfl (lv_at hl 1 rfl) ?_
          refine r_get (ci := 14) (C := RX10) (T := TX10) (N := 21) S F B (kq (by decide) : kd 198 = 21 ∧ 198 < NN) rfl rfl hiX10 20 (by decide) (by decide +kernel) rfl dX10_row_107 ?_
          cases ho
          exact e_i B hx hb hr hlocks rfl rfl dX10_row_110
        · have ho := in_ c11 ho
          refine lv_iload_n hx hb dX10_row_41 rfl (lv_at hl 0 rfl) ?_
          refine lv_iconst (v := 4) hx hb dX10_row_42 (by decide) ?_
          refine lv_iload_n hx hb dX10_row_43 rfl (lv_at hl 2 rfl) ?_
          refine lv_imul hx hb dX10_row_44 ?_
          refine lv_icmp_le (tgt := 73) hx hb dX10_row_45 (by decide) (fun c12 => ?_) (fun c12 => ?_)
          · have ho := ip_ c12 ho
            refine lv_aload_n hx hb dX10_row_73 rfl (lv_at hl 1 rfl) ?_
            refine lv_aload_n hx hb dX10_row_74 rfl (lv_at hl 1 rfl) ?_
            refine r_get (ci := 14) (C := RX10) (T := TX10) (N := 21) S F B (kq (by decide) : kd 198 = 21 ∧ 198 < NN) rfl rfl hiX10 0 (by decide) (by decide +kernel) rfl dX10_row_75 ?_
            refine lv_iconst (v := 2) hx hb dX10_row_78 (by decide) ?_
            refine r_ialdc (j := 2) S F B (kq (by decide) : kd 199 = 22 ∧ 199 < NN) rfl (vpc (by decide)) (by decide) dX10_row_79 ?_
            refine lv_iload_n hx hb dX10_row_80 rfl (lv_at hl 0 rfl) ?_
            refine lv_icmp_ne (tgt := 89) hx hb dX10_row_81 (by decide) (fun c13 => ?_) (fun c13 => ?_)
            · have ho := in_ c13 ho
              refine lv_bipush (v := 48) hx hb dX10_row_89 (by decide) ?_
              refine lv_aload_n hx hb dX10_row_91 rfl (lv_at hl 1 rfl) ?_
              refine lv_iload_n hx hb dX10_row_92 rfl (lv_at hl 0 rfl) ?_
              obtain ⟨q14, hq14, ho⟩ := bnd_ ho
              refine k_iV (As := [.int v9]) (rest := [.int 48, .ref (G.2.2 198)]) S F B (c_X10_visitorsIn l G σ10 _ v9 hq14) (kq (by decide) : kd 198 = 21 ∧ 198 < NN) rfl rfl (cwV 1 hts gX10_row_X10_visitorsIn rfl rfl rfl (by decide +kernel) ⟨Nat.le_of_ble_eq_true rfl, Nat.le_of_ble_eq_true rfl⟩) rfl hl.1 rfl (Nat.le_of_ble_eq_true rfl) dX10_row_93 ⟨Nat.le_of_ble_eq_true rfl, Nat.le_of_ble_eq_true rfl⟩ (fun H locs B => ?_)
              refine lv_iadd hx hb dX10_row_96 ?_
              obtain ⟨σ16, hq15, ho⟩ := bnd_ ho
              refine k_vV (As := [.int (48 + q14)]) (rest := []) S F B (c_X10_sign l G σ10 _ (48 + q14) hq15) (kq (by decide) : kd 198 = 21 ∧ 198 < NN) rfl rfl (cwV 1 hts gX10_row_X10_sign rfl rfl rfl (by decide +kernel) ⟨Nat.le_of_ble_eq_true rfl, Nat.le_of_ble_eq_true rfl⟩) rfl hl.1 rfl (Nat.le_of_ble_eq_true rfl) dX10_row_97 ⟨Nat.le_of_ble_eq_true rfl, Nat.le_of_ble_eq_true rfl⟩ (fun H locs B => ?_)
              obtain ⟨x17, ex17, ho⟩ := lt_ ho
              refine lv_iinc (v := x17) (lv' := [(2, .int x17), (0, .ref (G.2.2 198)), (1, .int a0)]) hx hb dX10_row_100 hl (k := 0) rfl (by rw [ex17]; rfl) (by decide) rfl (fun ls hl => ?_)
              refine lv_goto (tgt := 32) hx hb dX10_row_103 (by decide) ?_
              exact ih _ _ _ _ _ ho B (lv_sub hl [0, 1, 2] rfl)
            · have ho := ip_ c13 ho
              refine lv_bipush (v := 77) hx hb dX10_row_84 (by decide) ?_
              refine lv_goto (tgt := 97) hx hb dX10_row_86 (by decide) ?_
              obtain ⟨σ19, hq18, ho⟩ := bnd_ ho
              refine k_vV (As := [.int 77]) (rest := []) S F B (c_X10_sign l G σ10 _ 77 hq18) (kq (by decide) : kd 198 = 21 ∧ 198 < NN) rfl rfl (cwV 1 hts gX10_row_X10_sign rfl rfl rfl (by decide +kernel) ⟨Nat.le_of_ble_eq_true rfl, Nat.le_of_ble_eq_true rfl⟩) rfl hl.1 rfl (Nat.le_of_ble_eq_true rfl) dX10_row_97 ⟨Nat.le_of_ble_eq_true rfl, Nat.le_of_ble_eq_true rfl⟩ (fun H locs B => ?_)
              obtain ⟨x20, ex20, ho⟩ := lt_ ho
              refine lv_iinc (v := x20) (lv' := [(2, .int x20), (0, .ref (G.2.2 198)), (1, .int a0)]) hx hb dX10_row_100 hl (k := 0) rfl (by rw [ex20]; rfl) (by decide) rfl (fun ls hl => ?_)
              refine lv_goto (tgt := 32) hx hb dX10_row_103 (by decide) ?_
              exact ih _ _ _ _ _ ho B (lv_sub hl [0, 1, 2] rfl)
          · have ho := in_ c12 ho
            refine lv_aload_n hx hb dX10_row_48 rfl (lv_at hl 1 rfl) ?_
            refine lv_aload_n hx hb dX10_row_49 rfl (lv_at hl 1 rfl) ?_
            refine lv_iload_n hx hb dX10_row_50 rfl (lv_at hl 0 rfl) ?_
            refine lv_iconst (v := 1) hx hb dX10_row_51 (by decide) ?_
            refine lv_isub hx hb dX10_row_52 ?_
            refine lv_iload_n hx hb dX10_row_53 rfl (lv_at hl 0 rfl) ?_
            obtain ⟨q21, hq21, ho⟩ := bnd_ ho
            refine k_iS (As := [.int (v9 - 1), .int v9]) (rest := [.ref (G.2.2 198), .ref (G.2.2 198)]) S F B (c_X10_hedgeAt l G σ10 _ (v9 - 1) v9 hq21) (va_cwS 2 hts gX10_row_X10_hedgeAt rfl rfl rfl (by decide +kernel) ⟨Nat.le_of_ble_eq_true rfl, Nat.le_of_ble_eq_true rfl⟩) rfl hl.1 rfl (Nat.le_of_ble_eq_true rfl) dX10_row_54 ⟨Nat.le_of_ble_eq_true rfl, Nat.le_of_ble_eq_true rfl⟩ (fun H locs B => ?_)
            obtain ⟨q22, hq22, ho⟩ := bnd_ ho
            refine k_iV (As := [.int q21]) (rest := [.ref (G.2.2 198)]) S F B (c_X10_isGapAt l G σ10 _ q21 hq22) (kq (by decide) : kd 198 = 21 ∧ 198 < NN) rfl rfl (cwV 1 hts gX10_row_X10_isGapAt rfl rfl rfl (by decide +kernel) ⟨Nat.le_of_ble_eq_true rfl, Nat.le_of_ble_eq_true rfl⟩) rfl hl.1 rfl (Nat.le_of_ble_eq_true rfl) dX10_row_57 ⟨Nat.le_of_ble_eq_true rfl, Nat.le_of_ble_eq_true rfl⟩ (fun H locs B => ?_)
            refine lv_if_eq (tgt := 68) hx hb dX10_row_60 (by decide) (fun c23 => ?_) (fun c23 => ?_)
            · have ho := ip_ c23 ho
              refine lv_bipush (v := 124) hx hb dX10_row_68 (by decide) ?_
              obtain ⟨σ25, hq24, ho⟩ := bnd_ ho
              refine k_vV (As := [.int 124]) (rest := []) S F B (c_X10_sign l G σ10 _ 124 hq24) (kq (by decide) : kd 198 = 21 ∧ 198 < NN) rfl rfl (cwV 1 hts gX10_row_X10_sign rfl rfl rfl (by decide +kernel) ⟨Nat.le_of_ble_eq_true rfl, Nat.le_of_ble_eq_true rfl⟩) rfl hl.1 rfl (Nat.le_of_ble_eq_true rfl) dX10_row_70 ⟨Nat.le_of_ble_eq_true rfl, Nat.le_of_ble_eq_true rfl⟩ (fun H locs B => ?_)
              refine lv_aload_n hx hb dX10_row_73 rfl (lv_at hl 1 rfl) ?_
              refine lv_aload_n hx hb dX10_row_74 rfl (lv_at hl 1 rfl) ?_
              refine r_get (ci := 14) (C := RX10) (T := TX10) (N := 21) S F B (kq (by decide) : kd 198 = 21 ∧ 198 < NN) rfl rfl hiX10 0 (by decide) (by decide +kernel) rfl dX10_row_75 ?_
              refine lv_iconst (v := 2) hx hb dX10_row_78 (by decide) ?_
              refine r_ialdc (j := 2) S F B (kq (by decide) : kd 199 = 22 ∧ 199 < NN) rfl (vpc (by decide)) (by decide) dX10_row_79 ?_
              refine lv_iload_n hx hb dX10_row_80 rfl (lv_at hl 0 rfl) ?_
              refine lv_icmp_ne (tgt := 89) hx hb dX10_row_81 (by decide) (fun c26 => ?_) (fun c26 => ?_)
              · have ho := in_ c26 ho
                refine lv_bipush (v := 48) hx hb dX10_row_89 (by decide) ?_
                refine lv_aload_n hx hb dX10_row_91 rfl (lv_at hl 1 rfl) ?_
                refine lv_iload_n hx hb dX10_row_92 rfl (lv_at hl 0 rfl) ?_
                obtain ⟨q27, hq27, ho⟩ := bnd_ ho
                refine k_iV (As := [.int v9]) (rest := [.int 48, .ref (G.2.2 198)]) S F B (c_X10_visitorsIn l G σ25 _ v9 hq27) (kq (by decide) : kd 198 = 21 ∧ 198 < NN) rfl rfl (cwV 1 hts gX10_row_X10_visitorsIn rfl rfl rfl (by decide +kernel) ⟨Nat.le_of_ble_eq_true rfl, Nat.le_of_ble_eq_true rfl⟩) rfl hl.1 rfl (Nat.le_of_ble_eq_true rfl) dX10_row_93 ⟨Nat.le_of_ble_eq_true rfl, Nat.le_of_ble_eq_true rfl⟩ (fun H locs B => ?_)
                refine lv_iadd hx hb dX10_row_96 ?_
                obtain ⟨σ29, hq28, ho⟩ := bnd_ ho
                refine k_vV (As := [.int (48 + q27)]) (rest := []) S F B (c_X10_sign l G σ25 _ (48 + q27) hq28) (kq (by decide) : kd 198 = 21 ∧ 198 < NN) rfl rfl (cwV 1 hts gX10_row_X10_sign rfl rfl rfl (by decide +kernel) ⟨Nat.le_of_ble_eq_true rfl, Nat.le_of_ble_eq_true rfl⟩) rfl hl.1 rfl (Nat.le_of_ble_eq_true rfl) dX10_row_97 ⟨Nat.le_of_ble_eq_true rfl, Nat.le_of_ble_eq_true rfl⟩ (fun H locs B => ?_)
                obtain ⟨x30, ex30, ho⟩ := lt_ ho
                refine lv_iinc (v := x30) (lv' := [(2, .int x30), (0, .ref (G.2.2 198)), (1, .int a0)]) hx hb dX10_row_100 hl (k := 0) rfl (by rw [ex30]; rfl) (by decide) rfl (fun ls hl => ?_)
                refine lv_goto (tgt := 32) hx hb dX10_row_103 (by decide) ?_
                exact ih _ _ _ _ _ ho B (lv_sub hl [0, 1, 2] rfl)
              · have ho := ip_ c26 ho
                refine lv_bipush (v := 77) hx hb dX10_row_84 (by decide) ?_
                refine lv_goto (tgt := 97) hx hb dX10_row_86 (by decide) ?_
                obtain ⟨σ32, hq31, ho⟩ := bnd_ ho
                refine k_vV (As := [.int 77]) (rest := []) S F B (c_X10_sign l G σ25 _ 77 hq31) (kq (by decide) : kd 198 = 21 ∧ 198 < NN) rfl rfl (cwV 1 hts gX10_row_X10_sign rfl rfl rfl (by decide +kernel) ⟨Nat.le_of_ble_eq_true rfl, Nat.le_of_ble_eq_true rfl⟩) rfl hl.1 rfl (Nat.le_of_ble_eq_true rfl) dX10_row_97 ⟨Nat.le_of_ble_eq_true rfl, Nat.le_of_ble_eq_true rfl⟩ (fun H locs B => ?_)
                obtain ⟨x33, ex33, ho⟩ := lt_ ho
                refine lv_iinc (v := x33) (lv' := [(2, .int x33), (0, .ref (G.2.2 198)), (1, .int a0)]) hx hb dX10_row_100 hl (k := 0) rfl (by rw [ex33]; rfl) (by decide) rfl (fun ls hl => ?_)
                refine lv_goto (tgt := 32) hx hb dX10_row_103 (by decide) ?_
                exact ih _ _ _ _ _ ho B (lv_sub hl [0, 1, 2] rfl)
            · have ho := in_ c23 ho
              refine lv_bipush (v := 32) hx hb dX10_row_63 (by decide) ?_
              refine lv_goto (tgt := 70) hx hb dX10_row_65 (by decide) ?_
              obtain ⟨σ35, hq34, ho⟩ := bnd_ ho
              refine k_vV (As := [.int 32]) (rest := []) S F B (c_X10_sign l G σ10 _ 32 hq34) (kq (by decide) : kd 198 = 21 ∧ 198 < NN) rfl rfl (cwV 1 hts gX10_row_X10_sign rfl rfl rfl (by decide +kernel) ⟨Nat.le_of_ble_eq_true rfl, Nat.le_of_ble_eq_true rfl⟩) rfl hl.1 rfl (Nat.le_of_ble_eq_true rfl) dX10_row_70 ⟨Nat.le_of_ble_eq_true rfl, Nat.le_of_ble_eq_true rfl⟩ (fun H locs B => ?_)
              refine lv_aload_n hx hb dX10_row_73 rfl (lv_at hl 1 rfl) ?_
              refine lv_aload_n hx hb dX10_row_74 rfl (lv_at hl 1 rfl) ?_
              refine r_get (ci := 14) (C := RX10) (T := TX10) (N := 21) S F B (kq (by decide) : kd 198 = 21 ∧ 198 < NN) rfl rfl hiX10 0 (by decide) (by decide +kernel) rfl dX10_row_75 ?_
              refine lv_iconst (v := 2) hx hb dX10_row_78 (by decide) ?_
              refine r_ialdc (j := 2) S F B (kq (by decide) : kd 199 = 22 ∧ 199 < NN) rfl (vpc (by decide)) (by decide) dX10_row_79 ?_
              refine lv_iload_n hx hb dX10_row_80 rfl (lv_at hl 0 rfl) ?_
              refine lv_icmp_ne (tgt := 89) hx hb dX10_row_81 (by decide) (fun c36 => ?_) (fun c36 => ?_)
              · have ho := in_ c36 ho
                refine lv_bipush (v := 48) hx hb dX10_row_89 (by decide) ?_
                refine lv_aload_n hx hb dX10_row_91 rfl (lv_at hl 1 rfl) ?_
                refine lv_iload_n hx hb dX10_row_92 rfl (lv_at hl 0 rfl) ?_
                obtain ⟨q37, hq37, ho⟩ := bnd_ ho
                refine k_iV (As := [.int v9]) (rest := [.int 48, .ref (G.2.2 198)]) S F B (c_X10_visitorsIn l G σ35 _ v9 hq37) (kq (by decide) : kd 198 = 21 ∧ 198 < NN) rfl rfl (cwV 1 hts gX10_row_X10_visitorsIn rfl rfl rfl (by decide +kernel) ⟨Nat.le_of_ble_eq_true rfl, Nat.le_of_ble_eq_true rfl⟩) rfl hl.1 rfl (Nat.le_of_ble_eq_true rfl) dX10_row_93 ⟨Nat.le_of_ble_eq_true rfl, Nat.le_of_ble_eq_true rfl⟩ (fun H locs B => ?_)
                refine lv_iadd hx hb dX10_row_96 ?_
                obtain ⟨σ39, hq38, ho⟩ := bnd_ ho
                refine k_vV (As := [.int (48 + q37)]) (rest := []) S F B (c_X10_sign l G σ35 _ (48 + q37) hq38) (kq (by decide) : kd 198 = 21 ∧ 198 < NN) rfl rfl (cwV 1 hts gX10_row_X10_sign rfl rfl rfl (by decide +kernel) ⟨Nat.le_of_ble_eq_true rfl, Nat.le_of_ble_eq_true rfl⟩) rfl hl.1 rfl (Nat.le_of_ble_eq_true rfl) dX10_row_97 ⟨Nat.le_of_ble_eq_true rfl, Nat.le_of_ble_eq_true rfl⟩ (fun H locs B => ?_)
                obtain ⟨x40, ex40, ho⟩ := lt_ ho
                refine lv_iinc (v := x40) (lv' := [(2, .int x40), (0, .ref (G.2.2 198)), (1, .int a0)]) hx hb dX10_row_100 hl (k := 0) rfl (by rw [ex40]; rfl) (by decide) rfl (fun ls hl => ?_)
                refine lv_goto (tgt := 32) hx hb dX10_row_103 (by decide) ?_
                exact ih _ _ _ _ _ ho B (lv_sub hl [0, 1, 2] rfl)
              · have ho := ip_ c36 ho
                refine lv_bipush (v := 77) hx hb dX10_row_84 (by decide) ?_
                refine lv_goto (tgt := 97) hx hb dX10_row_86 (by decide) ?_
                obtain ⟨σ42, hq41, ho⟩ := bnd_ ho
                refine k_vV (As := [.int 77]) (rest := []) S F B (c_X10_sign l G σ35 _ 77 hq41) (kq (by decide) : kd 198 = 21 ∧ 198 < NN) rfl rfl (cwV 1 hts gX10_row_X10_sign rfl rfl rfl (by decide +kernel) ⟨Nat.le_of_ble_eq_true rfl, Nat.le_of_ble_eq_true rfl⟩) rfl hl.1 rfl (Nat.le_of_ble_eq_true rfl) dX10_row_97 ⟨Nat.le_of_ble_eq_true rfl, Nat.le_of_ble_eq_true rfl⟩ (fun H locs B => ?_)
                obtain ⟨x43, ex43, ho⟩ := lt_ ho
                refine lv_iinc (v := x43) (lv' := [(2, .int x43), (0, .ref (G.2.2 198)), (1, .int a0)]) hx hb dX10_row_100 hl (k := 0) rfl (by rw [ex43]; rfl) (by decide) rfl (fun ls hl => ?_)
                refine lv_goto (tgt := 32) hx hb dX10_row_103 (by decide) ?_
                exact ih _ _ _ _ _ ho B (lv_sub hl [0, 1, 2] rfl)
    exact hloop32 8 _ _ _ _ _ ho B hl
  · have ho := ip_ c3 ho
    refine lv_aload_n hx hb dX10_row_17 rfl (lv_at hl 0 rfl) ?_
    refine lv_iconst (v := 1) hx hb dX10_row_18 (by decide) ?_
    obtain ⟨q44, σ45, hq44, ho⟩ := bnm_ ho
    refine k_iV (As := [.int 1]) (rest := []) S F B (c_X10_throwing l G σ1 _ 1 hq44) (kq (by decide) : kd 198 = 21 ∧ 198 < NN) rfl rfl (cwV 1 hts gX10_row_X10_throwing rfl rfl rfl (by decide +kernel) ⟨Nat.le_of_ble_eq_true rfl, Nat.le_of_ble_eq_true rfl⟩) rfl hl.1 rfl (Nat.le_of_ble_eq_true rfl) dX10_row_19 ⟨Nat.le_of_ble_eq_true rfl, Nat.le_of_ble_eq_true rfl⟩ (fun H locs B => ?_)
    cases ho
    exact e_i B hx hb hr hlocks rfl rfl dX10_row_22

set_option maxHeartbeats 4000000 in
set_option maxRecDepth 100000 in
theorem c_X10_character (l : Launch) (G : Gd) (σ : Mm) (sz : Nat) (a0 : Int32) {out : Int32 × Mm} (ho : f_X10_character a0 σ = some out) : Met l yX10_character wsX10_character { frames := 1, cells := 0, slots := 0, locals := 25 } (va_Pc [.ref (G.2.2 198), .int a0] (PW G σ sz)) (Qi G sz out.1 out.2) 0 0 (AA G sz) := by
  refine Met.ofW (cc := cX10_character) (maxL := 2) (ret := (some .char)) (by decide) rfl ?_
  intro p e s m args below meth c s₁ B0 hml hv
  obtain ⟨rfl, hpw⟩ := hv
  have hsz := hpw.1
  subst hsz
  obtain ⟨F, B⟩ := hpw.to
  have hx := B0.exec
  have hb := B0.bytes
  have hr := B0.returns
  have hts := atoms_spec (ws := wsX10_character) B0.pre
  have hown : s.vm.findClass RX10 = some m.cls := findClass_of_methodNamed B0.named
  have hlocks := B0.notSynchronized
  have S : CallFix p m c cX10_character 2 s _ wsX10_character RX10 := ⟨hx, hb, hml, hown, hts⟩
  have hiX10 : ∀ w ∈ u_ws RX10 TX10 21, w ∈ wsX10_character := by decide +kernel
  have hl := lv_entry [.ref (G.2.2 198), .int a0] (n := 2) (Nat.le_of_ble_eq_true rfl)
  rw [lg_entry_eq]
  generalize (lg_sl [.ref (G.2.2 198), .int a0] ++ List.replicate (2 - (lg_sl [.ref (G.2.2 198), .int a0]).length) Slot.unset).toArray = ls at hl ⊢
  have hl : lv_has ls 2 [(0, .ref (G.2.2 198)), (1, .int a0)] := hl
  unfold f_X10_character at ho
  refine lv_aload_n hx hb dX10_character_0 rfl (lv_at hl 0 rfl) ?_
  refine lv_iconst (v := 0) hx hb dX10_character_1 (by decide) ?_
  refine r_put (ci := 14) (C := RX10) (T := TX10) (N := 21) (ty := .int) S F B tyX10 tyX10_ok nmX10 (kq (by decide) : kd 198 = 21 ∧ 198 < NN) (fun _ => rfl) rfl hiX10 12 (by decide) (by decide +kernel) rfl rfl rfl rfl (fun _ => Nat.le_of_ble_eq_true rfl) (fun _ => rfl) dX10_character_2 (fun H locs B => ?_)
  obtain ⟨σ1, eσ1, ho⟩ := lt_ ho
  rw [← eσ1] at B
  refine lv_iload_n hx hb dX10_character_5 rfl (lv_at hl 1 rfl) ?_
  refine lv_i2l hx hb dX10_character_6 rfl ?_
  refine lv_lconst (v := 0) hx hb dX10_character_7 (by decide) ?_
  refine lv_aload_n hx hb dX10_character_8 rfl (lv_at hl 0 rfl) ?_
  refine r_get (ci := 14) (C := RX10) (T := TX10) (N := 21) S F B (kq (by decide) : kd 198 = 21 ∧ 198 < NN) rfl rfl hiX10 20 (by decide) (by decide +kernel) rfl dX10_character_9 ?_
  refine lv_iconst (v := 1) hx hb dX10_character_12 (by decide) ?_
  refine lv_isub hx hb dX10_character_13 ?_
  refine lv_i2l hx hb dX10_character_14 rfl ?_
  obtain ⟨q2, hq2, ho⟩ := bnd_ ho
  refine k_iS (As := [.long a0.toInt64, .long 0, .long (((σ1 198 20) - 1).toInt64)]) (rest := []) S F B (c_X10_in l G σ1 _ a0.toInt64 0 (((σ1 198 20) - 1).toInt64) hq2) (va_cwS 3 hts gX10_character_X10_in rfl rfl rfl (by decide +kernel) ⟨Nat.le_of_ble_eq_true rfl, Nat.le_of_ble_eq_true rfl⟩) rfl hl.1 rfl (Nat.le_of_ble_eq_true rfl) dX10_character_15 ⟨Nat.le_of_ble_eq_true rfl, Nat.le_of_ble_eq_true rfl⟩ (fun H locs B => ?_)
  refine lv_if_eq (tgt := 31) hx hb dX10_character_18 (by decide) (fun c3 => ?_) (fun c3 => ?_)
  · have ho := ip_ c3 ho
    refine lv_aload_n hx hb dX10_character_31 rfl (lv_at hl 0 rfl) ?_
    refine lv_iconst (v := 1) hx hb dX10_character_32 (by decide) ?_
    obtain ⟨q4, σ5, hq4, ho⟩ := bnm_ ho
    refine k_iV (As := [.int 1]) (rest := []) S F B (c_X10_throwing l G σ1 _ 1 hq4) (kq (by decide) : kd 198 = 21 ∧ 198 < NN) rfl rfl (cwV 1 hts gX10_character_X10_throwing rfl rfl rfl (by decide +kernel) ⟨Nat.le_of_ble_eq_true rfl, Nat.le_of_ble_eq_true rfl⟩) rfl hl.1 rfl (Nat.le_of_ble_eq_true rfl) dX10_character_33 ⟨Nat.le_of_ble_eq_true rfl, Nat.le_of_ble_eq_true rfl⟩ (fun H locs B => ?_)
    refine lv_i2c hx hb dX10_character_36 rfl ?_
    obtain ⟨hz, ho⟩ := cz_ ho
    cases ho
    exact e_i B hx hb hr hlocks hz rfl dX10_character_37
  · have ho := in_ c3 ho
    refine lv_aload_n hx hb dX10_character_21 rfl (lv_at hl 0 rfl) ?_
    refine r_get (ci := 14) (C := RX10) (T := TX10) (N := 21) S F B (kq (by decide) : kd 198 = 21 ∧ 198 < NN) rfl rfl hiX10 19 (by decide) (by decide +kernel) rfl dX10_character_22 ?_
    refine lv_iload_n hx hb dX10_character_25 rfl (lv_at hl 1 rfl) ?_
    obtain ⟨hi, ho⟩ := gd_ ho
    refine r_iald S F B (kq (by decide) : kd 206 = 26 ∧ 206 < NN) rfl hi dX10_character_26 ?_
    refine lv_i2c hx hb dX10_character_27 rfl ?_
    refine lv_goto (tgt := 37) hx hb dX10_character_28 (by decide) ?_
    obtain ⟨hz, ho⟩ := cz_ ho
    cases ho
    exact e_i B hx hb hr hlocks hz rfl dX10_character_37

set_option maxHeartbeats 4000000 in
set_option maxRecDepth 100000 in
theorem c_X10_coins (l : Launch) (G : Gd) (σ : Mm) (sz : Nat) {out : Int32} (ho : f_X10_coins σ = some out) : Met l yX10_coins wsX10_coins { frames := 1, cells := 0, slots := 0, locals := 20 } (va_Pc [.ref (G.2.2 198)] (PW G σ sz)) (Qi G sz out σ) 0 0 (AA G sz) := by
  refine Met.ofW (cc := cX10_coins) (maxL := 3) (ret := (some .int)) (by decide) rfl ?_
  intro p e s m args below meth c s₁ B0 hml hv
  obtain ⟨rfl, hpw⟩ := hv
  have hsz := hpw.1
  subst hsz
  obtain ⟨F, B⟩ := hpw.to
  have hx := B0.exec
  have hb := B0.bytes
  have hr := B0.returns
  have hts := atoms_spec (ws := wsX10_coins) B0.pre
  have hown : s.vm.findClass RX10 = some m.cls := findClass_of_methodNamed B0.named
  have hlocks := B0.notSynchronized
  have S : CallFix p m c cX10_coins 3 s _ wsX10_coins RX10 := ⟨hx, hb, hml, hown, hts⟩
  have hiX10 : ∀ w ∈ u_ws RX10 TX10 21, w ∈ wsX10_coins := by decide +kernel
  have hl := lv_entry [.ref (G.2.2 198)] (n := 3) (Nat.le_of_ble_eq_true rfl)
  rw [lg_entry_eq]
  generalize (lg_sl [.ref (G.2.2 198)] ++ List.replicate (3 - (lg_sl [.ref (G.2.2 198)]).length) Slot.unset).toArray = ls at hl ⊢
  have hl : lv_has ls 3 [(0, .ref (G.2.2 198))] := hl
  unfold f_X10_coins at ho
  skip
  refine lv_iconst (v := 0) hx hb dX10_coins_0 (by decide) ?_
  refine lv_istore_n (lv' := [(1, .int 0), (0, .ref (G.2.2 198))]) hx hb dX10_coins_1 rfl hl (by decide) rfl (fun ls hl => ?_)
  refine lv_iconst (v := 0) hx hb dX10_coins_2 (by decide) ?_
  refine lv_istore_n (lv' := [(2, .int 0), (1, .int 0), (0, .ref (G.2.2 198))]) hx hb dX10_coins_3 rfl hl (by decide) rfl (fun ls hl => ?_)
  obtain ⟨K, hK, ho⟩ := lt_ ho
  have hexit4 : ∀ (v1 : Int32) (v2 : Int32) (H : Heap) (locs : List Loc) (ls : Array Slot), K v1 v2 = some out → Bd G σ s H locs → lv_has ls 3 [(2, .int v1), (1, .int v2), (0, .ref (G.2.2 198))] → W p l e (headSpec wsX10_coins { frames := 1, cells := 0, slots := 0, locals := 20 }).room s m #[.ref (G.2.2 198)] below meth c H locs 0 0 (MQ below (Qi G s.heap.size out σ) #[.ref (G.2.2 198)] s 0 0 (AA G s.heap.size)) (F0 m 32 ls []) := by
    intro v1 v2 H locs ls ho B hl
    subst hK
    refine lv_iconst (v := 0) hx hb dX10_coins_32 (by decide) ?_
    refine lv_istore_n (lv' := [(2, .int 0), (1, .int v2), (0, .ref (G.2.2 198))]) hx hb dX10_coins_33 rfl hl (by decide) rfl (fun ls hl => ?_)
    have hloop34 : ∀ (n : Nat) (v7 : Int32) (v8 : Int32) (H : Heap) (locs : List Loc) (ls : Array Slot), f_X10_coins_l34  σ n v7 v8 = some out → Bd G σ s H locs → lv_has ls 3 [(2, .int v7), (1, .int v8), (0, .ref (G.2.2 198))] → W p l e (headSpec wsX10_coins { frames := 1, cells := 0, slots := 0, locals := 20 }).room s m #[.ref (G.2.2 198)] below meth c H locs 0 0 (MQ below (Qi G s.heap.size out σ) #[.ref (G.2.2 198)] s 0 0 (AA G s.heap.size)) (F0 m 34 ls []) := by
      intro n
      induction n with
      | zero => intro v7 v8 H locs ls ho B hl; cases ho
      | succ n ih =>
        intro v7 v8 H locs ls ho B hl
        refine lv_iload_n hx hb dX10_coins_34 rfl (lv_at hl 0 rfl) ?_
        refine lv_aload_n hx hb dX10_coins_35 rfl (lv_at hl 2 rfl) ?_
        refine r_get (ci := 14) (C := RX10) (T := TX10) (N := 21) S F B (kq (by decide) : kd 198 = 21 ∧ 198 < NN) rfl rfl hiX10 0 (by decide) (by decide +kernel) rfl dX10_coins_36 ?_
        refine lv_iconst (v := 1) hx hb dX10_coins_39 (by decide) ?_
        refine r_ialdc (j := 1) S F B (kq (by decide) : kd 199 = 22 ∧ 199 < NN) rfl (vpc (by decide)) (by decide) dX10_coins_40 ?_
        refine lv_icmp_ge (tgt := 62) hx hb dX10_coins_41 (by decide) (fun c9 => ?_) (fun c9 => ?_)
        · have ho := ip_ c9 ho
          refine lv_iload_n hx hb dX10_coins_62 rfl (lv_at hl 1 rfl) ?_
          cases ho
          exact e_i B hx hb hr hlocks rfl rfl dX10_coins_63
        · have ho := in_ c9 ho
          refine lv_iload_n hx hb dX10_coins_44 rfl (lv_at hl 1 rfl) ?_
          refine lv_aload_n hx hb dX10_coins_45 rfl (lv_at hl 2 rfl) ?_
          refine r_get (ci := 14) (C := RX10) (T := TX10) (N := 21) S F B (kq (by decide) : kd 198 = 21 ∧ 198 < NN) rfl rfl hiX10 0 (by decide) (by decide +kernel) rfl dX10_coins_46 ?_
          refine lv_iload_n hx hb dX10_coins_49 rfl (lv_at hl 0 rfl) ?_
          obtain ⟨q10, hq10, ho⟩ := bnd_ ho
          refine k_iS (As := [.int v7]) (rest := [.ref (G.2.2 199), .int v8]) S F B (c_X10_visitorAt l G σ _ v7 hq10) (va_cwS 1 hts gX10_coins_X10_visitorAt rfl rfl rfl (by decide +kernel) ⟨Nat.le_of_ble_eq_true rfl, Nat.le_of_ble_eq_true rfl⟩) rfl hl.1 rfl (Nat.le_of_ble_eq_true rfl) dX10_coins_50 ⟨Nat.le_of_ble_eq_true rfl, Nat.le_of_ble_eq_true rfl⟩ (fun H locs B => ?_)
          obtain ⟨hi, ho⟩ := gd_ ho
          refine r_iald S F B (kq (by decide) : kd 199 = 22 ∧ 199 < NN) rfl hi dX10_coins_53 ?_
          refine lv_iadd hx hb dX10_coins_54 ?_
          obtain ⟨x11, ex11, ho⟩ := lt_ ho
          refine lv_nm ex11 ?_
          refine lv_istore_n (lv' := [(1, .int x11), (2, .int v7), (0, .ref (G.2.2 198))]) hx hb dX10_coins_55 rfl hl (by decide) rfl (fun ls hl => ?_)
          obtain ⟨x12, ex12, ho⟩ := lt_ ho
          refine lv_iinc (v := x12) (lv' := [(2, .int x12), (1, .int x11), (0, .ref (G.2.2 198))]) hx hb dX10_coins_56 hl (k := 1) rfl (by rw [ex12]; rfl) (by decide) rfl (fun ls hl => ?_)
          refine lv_goto (tgt := 34) hx hb dX10_coins_59 (by decide) ?_
          exact ih _ _  _ _ _ ho B (lv_sub hl [0, 1, 2] rfl)
    exact hloop34 8 _ _  _ _ _ ho B hl
  have hloop4 : ∀ (n : Nat) (v13 : Int32) (v14 : Int32) (H : Heap) (locs : List Loc) (ls : Array Slot), f_X10_coins_l4 K σ n v13 v14 = some out → Bd G σ s H locs → lv_has ls 3 [(2, .int v13), (1, .int v14), (0, .ref (G.2.2 198))] → W p l e (headSpec wsX10_coins { frames := 1, cells := 0, slots := 0, locals := 20 }).room s m #[.ref (G.2.2 198)] below meth c H locs 0 0 (MQ below (Qi G s.heap.size out σ) #[.ref (G.2.2 198)] s 0 0 (AA G s.heap.size)) (F0 m 4 ls []) := by
    intro n
    induction n with
    | zero => intro v13 v14 H locs ls ho B hl; cases ho
    | succ n ih =>
      intro v13 v14 H locs ls ho B hl
      refine lv_iload_n hx hb dX10_coins_4 rfl (lv_at hl 0 rfl) ?_
      refine lv_aload_n hx hb dX10_coins_5 rfl (lv_at hl 2 rfl) ?_
      refine r_get (ci := 14) (C := RX10) (T := TX10) (N := 21) S F B (kq (by decide) : kd 198 = 21 ∧ 198 < NN) rfl rfl hiX10 0 (by decide) (by decide +kernel) rfl dX10_coins_6 ?_
      refine lv_iconst (v := 0) hx hb dX10_coins_9 (by decide) ?_
      refine r_ialdc (j := 0) S F B (kq (by decide) : kd 199 = 22 ∧ 199 < NN) rfl (vpc (by decide)) (by decide) dX10_coins_10 ?_
      refine lv_icmp_ge (tgt := 32) hx hb dX10_coins_11 (by decide) (fun c15 => ?_) (fun c15 => ?_)
      · have ho := ip_ c15 ho
        exact hexit4 _ _  _ _ _ ho B (lv_sub hl [0, 1, 2] rfl)
      · have ho := in_ c15 ho
        refine lv_iload_n hx hb dX10_coins_14 rfl (lv_at hl 1 rfl) ?_
        refine lv_aload_n hx hb dX10_coins_15 rfl (lv_at hl 2 rfl) ?_
        refine r_get (ci := 14) (C := RX10) (T := TX10) (N := 21) S F B (kq (by decide) : kd 198 = 21 ∧ 198 < NN) rfl rfl hiX10 0 (by decide) (by decide +kernel) rfl dX10_coins_16 ?_
        refine lv_iload_n hx hb dX10_coins_19 rfl (lv_at hl 0 rfl) ?_
        obtain ⟨q16, hq16, ho⟩ := bnd_ ho
        refine k_iS (As := [.int v13]) (rest := [.ref (G.2.2 199), .int v14]) S F B (c_X10_gardenerAt l G σ _ v13 hq16) (va_cwS 1 hts gX10_coins_X10_gardenerAt rfl rfl rfl (by decide +kernel) ⟨Nat.le_of_ble_eq_true rfl, Nat.le_of_ble_eq_true rfl⟩) rfl hl.1 rfl (Nat.le_of_ble_eq_true rfl) dX10_coins_20 ⟨Nat.le_of_ble_eq_true rfl, Nat.le_of_ble_eq_true rfl⟩ (fun H locs B => ?_)
        obtain ⟨hi, ho⟩ := gd_ ho
        refine r_iald S F B (kq (by decide) : kd 199 = 22 ∧ 199 < NN) rfl hi dX10_coins_23 ?_
        refine lv_iadd hx hb dX10_coins_24 ?_
        obtain ⟨x17, ex17, ho⟩ := lt_ ho
        refine lv_nm ex17 ?_
        refine lv_istore_n (lv' := [(1, .int x17), (2, .int v13), (0, .ref (G.2.2 198))]) hx hb dX10_coins_25 rfl hl (by decide) rfl (fun ls hl => ?_)
        obtain ⟨x18, ex18, ho⟩ := lt_ ho
        refine lv_iinc (v := x18) (lv' := [(2, .int x18), (1, .int x17), (0, .ref (G.2.2 198))]) hx hb dX10_coins_26 hl (k := 1) rfl (by rw [ex18]; rfl) (by decide) rfl (fun ls hl => ?_)
        refine lv_goto (tgt := 4) hx hb dX10_coins_29 (by decide) ?_
        exact ih _ _  _ _ _ ho B (lv_sub hl [0, 1, 2] rfl)
  exact hloop4 8 _ _  _ _ _ ho B hl

set_option maxHeartbeats 4000000 in
set_option maxRecDepth 100000 in
theorem c_X10_voids (l : Launch) (G : Gd) (σ : Mm) (sz : Nat) {out : Int32} (ho : f_X10_voids σ = some out) : Met l yX10_voids wsX10_voids { frames := 2, cells := 0, slots := 0, locals := 41 } (va_Pc [.ref (G.2.2 198)] (PW G σ sz)) (Qi G sz out σ) 0 0 (AA G sz) := by
  refine Met.ofW (cc := cX10_voids) (maxL := 3) (ret := (some .int)) (by decide) rfl ?_
  intro p e s m args below meth c s₁ B0 hml hv
  obtain ⟨rfl, hpw⟩ := hv
  have hsz := hpw.1
  subst hsz
  obtain ⟨F, B⟩ := hpw.to
  have hx := B0.exec
  have hb := B0.bytes
  have hr := B0.returns
  have hts := atoms_spec (ws := wsX10_voids) B0.pre
  have hown : s.vm.findClass RX10 = some m.cls := findClass_of_methodNamed B0.named
  have hlocks := B0.notSynchronized
  have S : CallFix p m c cX10_voids 3 s _ wsX10_voids RX10 := ⟨hx, hb, hml, hown, hts⟩
  have hiX10 : ∀ w ∈ u_ws RX10 TX10 21, w ∈ wsX10_voids := by decide +kernel
  have hl := lv_entry [.ref (G.2.2 198)] (n := 3) (Nat.le_of_ble_eq_true rfl)
  rw [lg_entry_eq]
  generalize (lg_sl [.ref (G.2.2 198)] ++ List.replicate (3 - (lg_sl [.ref (G.2.2 198)]).length) Slot.unset).toArray = ls at hl ⊢
  have hl : lv_has ls 3 [(0, .ref (G.2.2 198))] := hl
  unfold f_X10_voids at ho
  skip
  refine lv_iconst (v := 0) hx hb dX10_voids_0 (by decide) ?_
  refine lv_istore_n (lv' := [(1, .int 0), (0, .ref (G.2.2 198))]) hx hb dX10_voids_1 rfl hl (by decide) rfl (fun ls hl => ?_)
  refine lv_iconst (v := 0) hx hb dX10_voids_2 (by decide) ?_
  refine lv_istore_n (lv' := [(2, .int 0), (1, .int 0), (0, .ref (G.2.2 198))]) hx hb dX10_voids_3 rfl hl (by decide) rfl (fun ls hl => ?_)
  have hloop4 : ∀ (n : Nat) (v4 : Int32) (v5 : Int32) (H : Heap) (locs : List Loc) (ls : Array Slot), f_X10_voids_l4  σ n v4 v5 = some out → Bd G σ s H locs → lv_has ls 3 [(2, .int v4), (1, .int v5), (0, .ref (G.2.2 198))] → W p l e (headSpec wsX10_voids { frames := 2, cells := 0, slots := 0, locals := 41 }).room s m #[.ref (G.2.2 198)] below meth c H locs 0 0 (MQ below (Qi G s.heap.size out σ) #[.ref (G.2.2 198)] s 0 0 (AA G s.heap.size)) (F0 m 4 ls []) := by
    intro n
    induction n with
    | zero => intro v4 v5 H locs ls ho B hl; cases ho
    | succ n ih =>
      intro v4 v5 H locs ls ho B hl
      refine lv_iload_n hx hb dX10_voids_4 rfl (lv_at hl 0 rfl) ?_
      refine lv_aload_n hx hb dX10_voids_5 rfl (lv_at hl 2 rfl) ?_
      refine r_get (ci := 14) (C := RX10) (T := TX10) (N := 21) S F B (kq (by decide) : kd 198 = 21 ∧ 198 < NN) rfl rfl hiX10 0 (by decide) (by decide +kernel) rfl dX10_voids_6 ?_
      refine lv_iconst (v := 1) hx hb dX10_voids_9 (by decide) ?_
      refine r_ialdc (j := 1) S F B (kq (by decide) : kd 199 = 22 ∧ 199 < NN) rfl (vpc (by decide)) (by decide) dX10_voids_10 ?_
      refine lv_icmp_ge (tgt := 47) hx hb dX10_voids_11 (by decide) (fun c6 => ?_) (fun c6 => ?_)
      · have ho := ip_ c6 ho
        refine lv_iload_n hx hb dX10_voids_47 rfl (lv_at hl 1 rfl) ?_
        cases ho
        exact e_i B hx hb hr hlocks rfl rfl dX10_voids_48
      · have ho := in_ c6 ho
        refine lv_iload_n hx hb dX10_voids_14 rfl (lv_at hl 1 rfl) ?_
        refine lv_aload_n hx hb dX10_voids_15 rfl (lv_at hl 2 rfl) ?_
        refine lv_iload_n hx hb dX10_voids_16 rfl (lv_at hl 0 rfl) ?_
        obtain ⟨q7, hq7, ho⟩ := bnd_ ho
        refine k_iV (As := [.int v4]) (rest := [.int v5]) S F B (c_X10_lasts l G σ _ v4 hq7) (kq (by decide) : kd 198 = 21 ∧ 198 < NN) rfl rfl (cwV 1 hts gX10_voids_X10_lasts rfl rfl rfl (by decide +kernel) ⟨Nat.le_of_ble_eq_true rfl, Nat.le_of_ble_eq_true rfl⟩) rfl hl.1 rfl (Nat.le_of_ble_eq_true rfl) dX10_voids_17 ⟨Nat.le_of_ble_eq_true rfl, Nat.le_of_ble_eq_true rfl⟩ (fun H locs B => ?_)
        refine lv_if_eq (tgt := 38) hx hb dX10_voids_20 (by decide) (fun c8 => ?_) (fun c8 => ?_)
        · have ho := ip_ c8 ho
          refine lv_iconst (v := 0) hx hb dX10_voids_38 (by decide) ?_
          refine lv_iadd hx hb dX10_voids_39 ?_
          obtain ⟨x9, ex9, ho⟩ := lt_ ho
          refine lv_nm ex9 ?_
          refine lv_istore_n (lv' := [(1, .int x9), (2, .int v4), (0, .ref (G.2.2 198))]) hx hb dX10_voids_40 rfl hl (by decide) rfl (fun ls hl => ?_)
          obtain ⟨x10, ex10, ho⟩ := lt_ ho
          refine lv_iinc (v := x10) (lv' := [(2, .int x10), (1, .int x9), (0, .ref (G.2.2 198))]) hx hb dX10_voids_41 hl (k := 1) rfl (by rw [ex10]; rfl) (by decide) rfl (fun ls hl => ?_)
          refine lv_goto (tgt := 4) hx hb dX10_voids_44 (by decide) ?_
          exact ih _ _  _ _ _ ho B (lv_sub hl [0, 1, 2] rfl)
        · have ho := in_ c8 ho
          refine lv_aload_n hx hb dX10_voids_23 rfl (lv_at hl 2 rfl) ?_
          refine r_get (ci := 14) (C := RX10) (T := TX10) (N := 21) S F B (kq (by decide) : kd 198 = 21 ∧ 198 < NN) rfl rfl hiX10 0 (by decide) (by decide +kernel) rfl dX10_voids_24 ?_
          refine lv_iload_n hx hb dX10_voids_27 rfl (lv_at hl 0 rfl) ?_
          obtain ⟨q11, hq11, ho⟩ := bnd_ ho
          refine k_iS (As := [.int v4]) (rest := [.ref (G.2.2 199), .int v5]) S F B (c_X10_visitorAt l G σ _ v4 hq11) (va_cwS 1 hts gX10_voids_X10_visitorAt rfl rfl rfl (by decide +kernel) ⟨Nat.le_of_ble_eq_true rfl, Nat.le_of_ble_eq_true rfl⟩) rfl hl.1 rfl (Nat.le_of_ble_eq_true rfl) dX10_voids_28 ⟨Nat.le_of_ble_eq_true rfl, Nat.le_of_ble_eq_true rfl⟩ (fun H locs B => ?_)
          refine lv_bipush (v := 6) hx hb dX10_voids_31 (by decide) ?_
          refine lv_iadd hx hb dX10_voids_33 ?_
          obtain ⟨hi, ho⟩ := gd_ ho
          refine r_iald S F B (kq (by decide) : kd 199 = 22 ∧ 199 < NN) rfl hi dX10_voids_34 ?_
          refine lv_goto (tgt := 39) hx hb dX10_voids_35 (by decide) ?_
          refine lv_iadd hx hb dX10_voids_39 ?_
          obtain ⟨x12, ex12, ho⟩ := lt_ ho
          refine lv_nm ex12 ?_
          refine lv_istore_n (lv' := [(1, .int x12), (2, .int v4), (0, .ref (G.2.2 198))]) hx hb dX10_voids_40 rfl hl (by decide) rfl (fun ls hl => ?_)
          obtain ⟨x13, ex13, ho⟩ := lt_ ho
          refine lv_iinc (v := x13) (lv' := [(2, .int x13), (1, .int x12), (0, .ref (G.2.2 198))]) hx hb dX10_voids_41 hl (k := 1) rfl (by rw [ex13]; rfl) (by decide) rfl (fun ls hl => ?_)
          refine lv_goto (tgt := 4) hx hb dX10_voids_44 (by decide) ?_
          exact ih _ _  _ _ _ ho B (lv_sub hl [0, 1, 2] rfl)
  exact hloop4 8 _ _  _ _ _ ho B hl

set_option maxHeartbeats 4000000 in
set_option maxRecDepth 100000 in
theorem c_X10_outs (l : Launch) (G : Gd) (σ : Mm) (sz : Nat) {out : Int32} (ho : f_X10_outs σ = some out) : Met l yX10_outs wsX10_outs { frames := 1, cells := 0, slots := 0, locals := 20 } (va_Pc [.ref (G.2.2 198)] (PW G σ sz)) (Qi G sz out σ) 0 0 (AA G sz) := by
  refine Met.ofW (cc := cX10_outs) (maxL := 3) (ret := (some .int)) (by decide) rfl ?_
  intro p e s m args below meth c s₁ B0 hml hv
  obtain ⟨rfl, hpw⟩ := hv
  have hsz := hpw.1
  subst hsz
  obtain ⟨F, B⟩ := hpw.to
  have hx := B0.exec
  have hb := B0.bytes
  have hr := B0.returns
  have hts := atoms_spec (ws := wsX10_outs) B0.pre
  have hown : s.vm.findClass RX10 = some m.cls := findClass_of_methodNamed B0.named
  have hlocks := B0.notSynchronized
  have S : CallFix p m c cX10_outs 3 s _ wsX10_outs RX10 := ⟨hx, hb, hml, hown, hts⟩
  have hiX10 : ∀ w ∈ u_ws RX10 TX10 21, w ∈ wsX10_outs := by decide +kernel
  have hl := lv_entry [.ref (G.2.2 198)] (n := 3) (Nat.le_of_ble_eq_true rfl)
  rw [lg_entry_eq]
  generalize (lg_sl [.ref (G.2.2 198)] ++ List.replicate (3 - (lg_sl [.ref (G.2.2 198)]).length) Slot.unset).toArray = ls at hl ⊢
  have hl : lv_has ls 3 [(0, .ref (G.2.2 198))] := hl
  unfold f_X10_outs at ho
  skip
  refine lv_iconst (v := 0) hx hb dX10_outs_0 (by decide) ?_
  refine lv_istore_n (lv' := [(1, .int 0), (0, .ref (G.2.2 198))]) hx hb dX10_outs_1 rfl hl (by decide) rfl (fun ls hl => ?_)
  refine lv_iconst (v := 0) hx hb dX10_outs_2 (by decide) ?_
  refine lv_istore_n (lv' := [(2, .int 0), (1, .int 0), (0, .ref (G.2.2 198))]) hx hb dX10_outs_3 rfl hl (by decide) rfl (fun ls hl => ?_)
  have hloop4 : ∀ (n : Nat) (v4 : Int32) (v5 : Int32) (H : Heap) (locs : List Loc) (ls : Array Slot), f_X10_outs_l4  σ n v4 v5 = some out → Bd G σ s H locs → lv_has ls 3 [(2, .int v4), (1, .int v5), (0, .ref (G.2.2 198))] → W p l e (headSpec wsX10_outs { frames := 1, cells := 0, slots := 0, locals := 20 }).room s m #[.ref (G.2.2 198)] below meth c H locs 0 0 (MQ below (Qi G s.heap.size out σ) #[.ref (G.2.2 198)] s 0 0 (AA G s.heap.size)) (F0 m 4 ls []) := by
    intro n
    induction n with
    | zero => intro v4 v5 H locs ls ho B hl; cases ho
    | succ n ih =>
      intro v4 v5 H locs ls ho B hl
      refine lv_iload_n hx hb dX10_outs_4 rfl (lv_at hl 0 rfl) ?_
      refine lv_aload_n hx hb dX10_outs_5 rfl (lv_at hl 2 rfl) ?_
      refine r_get (ci := 14) (C := RX10) (T := TX10) (N := 21) S F B (kq (by decide) : kd 198 = 21 ∧ 198 < NN) rfl rfl hiX10 0 (by decide) (by decide +kernel) rfl dX10_outs_6 ?_
      refine lv_iconst (v := 1) hx hb dX10_outs_9 (by decide) ?_
      refine r_ialdc (j := 1) S F B (kq (by decide) : kd 199 = 22 ∧ 199 < NN) rfl (vpc (by decide)) (by decide) dX10_outs_10 ?_
      refine lv_icmp_ge (tgt := 35) hx hb dX10_outs_11 (by decide) (fun c6 => ?_) (fun c6 => ?_)
      · have ho := ip_ c6 ho
        refine lv_iload_n hx hb dX10_outs_35 rfl (lv_at hl 1 rfl) ?_
        cases ho
        exact e_i B hx hb hr hlocks rfl rfl dX10_outs_36
      · have ho := in_ c6 ho
        refine lv_iload_n hx hb dX10_outs_14 rfl (lv_at hl 1 rfl) ?_
        refine lv_aload_n hx hb dX10_outs_15 rfl (lv_at hl 2 rfl) ?_
        refine r_get (ci := 14) (C := RX10) (T := TX10) (N := 21) S F B (kq (by decide) : kd 198 = 21 ∧ 198 < NN) rfl rfl hiX10 0 (by decide) (by decide +kernel) rfl dX10_outs_16 ?_
        refine lv_iload_n hx hb dX10_outs_19 rfl (lv_at hl 0 rfl) ?_
        obtain ⟨q7, hq7, ho⟩ := bnd_ ho
        refine k_iS (As := [.int v4]) (rest := [.ref (G.2.2 199), .int v5]) S F B (c_X10_visitorAt l G σ _ v4 hq7) (va_cwS 1 hts gX10_outs_X10_visitorAt rfl rfl rfl (by decide +kernel) ⟨Nat.le_of_ble_eq_true rfl, Nat.le_of_ble_eq_true rfl⟩) rfl hl.1 rfl (Nat.le_of_ble_eq_true rfl) dX10_outs_20 ⟨Nat.le_of_ble_eq_true rfl, Nat.le_of_ble_eq_true rfl⟩ (fun H locs B => ?_)
        refine lv_bipush (v := 7) hx hb dX10_outs_23 (by decide) ?_
        refine lv_iadd hx hb dX10_outs_25 ?_
        obtain ⟨hi, ho⟩ := gd_ ho
        refine r_iald S F B (kq (by decide) : kd 199 = 22 ∧ 199 < NN) rfl hi dX10_outs_26 ?_
        refine lv_iadd hx hb dX10_outs_27 ?_
        obtain ⟨x8, ex8, ho⟩ := lt_ ho
        refine lv_nm ex8 ?_
        refine lv_istore_n (lv' := [(1, .int x8), (2, .int v4), (0, .ref (G.2.2 198))]) hx hb dX10_outs_28 rfl hl (by decide) rfl (fun ls hl => ?_)
        obtain ⟨x9, ex9, ho⟩ := lt_ ho
        refine lv_iinc (v := x9) (lv' := [(2, .int x9), (1, .int x8), (0, .ref (G.2.2 198))]) hx hb dX10_outs_29 hl (k := 1) rfl (by rw [ex9]; rfl) (by decide) rfl (fun ls hl => ?_)
        refine lv_goto (tgt := 4) hx hb dX10_outs_32 (by decide) ?_
        exact ih _ _  _ _ _ ho B (lv_sub hl [0, 1, 2] rfl)
  exact hloop4 8 _ _  _ _ _ ho B hl

set_option maxHeartbeats 4000000 in
set_option maxRecDepth 100000 in
theorem c_X10_account (l : Launch) (G : Gd) (σ : Mm) (sz : Nat) (a0 : Int32) {out : Int32 × Mm} (ho : f_X10_account a0 σ = some out) : Met l yX10_account wsX10_account { frames := 3, cells := 0, slots := 0, locals := 64 } (va_Pc [.ref (G.2.2 198), .int a0] (PW G σ sz)) (Qi G sz out.1 out.2) 0 0 (AA G sz) := by
  refine Met.ofW (cc := cX10_account) (maxL := 2) (ret := (some .int)) (by decide) rfl ?_
  intro p e s m args below meth c s₁ B0 hml hv
  obtain ⟨rfl, hpw⟩ := hv
  have hsz := hpw.1
  subst hsz
  obtain ⟨F, B⟩ := hpw.to
  have hx := B0.exec
  have hb := B0.bytes
  have hr := B0.returns
  have hts := atoms_spec (ws := wsX10_account) B0.pre
  have hown : s.vm.findClass RX10 = some m.cls := findClass_of_methodNamed B0.named
  have hlocks := B0.notSynchronized
  have S : CallFix p m c cX10_account 2 s _ wsX10_account RX10 := ⟨hx, hb, hml, hown, hts⟩
  have hiX10 : ∀ w ∈ u_ws RX10 TX10 21, w ∈ wsX10_account := by decide +kernel
  have hl := lv_entry [.ref (G.2.2 198), .int a0] (n := 2) (Nat.le_of_ble_eq_true rfl)
  rw [lg_entry_eq]
  generalize (lg_sl [.ref (G.2.2 198), .int a0] ++ List.replicate (2 - (lg_sl [.ref (G.2.2 198), .int a0]).length) Slot.unset).toArray = ls at hl ⊢
  have hl : lv_has ls 2 [(0, .ref (G.2.2 198)), (1, .int a0)] := hl
  unfold f_X10_account at ho
  refine lv_aload_n hx hb dX10_account_0 rfl (lv_at hl 0 rfl) ?_
  refine lv_iconst (v := 0) hx hb dX10_account_1 (by decide) ?_
  refine r_put (ci := 14) (C := RX10) (T := TX10) (N := 21) (ty := .int) S F B tyX10 tyX10_ok nmX10 (kq (by decide) : kd 198 = 21 ∧ 198 < NN) (fun _ => rfl) rfl hiX10 12 (by decide) (by decide +kernel) rfl rfl rfl rfl (fun _ => Nat.le_of_ble_eq_true rfl) (fun _ => rfl) dX10_account_2 (fun H locs B => ?_)
  obtain ⟨σ1, eσ1, ho⟩ := lt_ ho
  rw [← eσ1] at B
  refine lv_iload_n hx hb dX10_account_5 rfl (lv_at hl 1 rfl) ?_
  by_cases c2 : a0 = 0
  · have ho := ip_ c2 ho
    refine lv_tableIn (off := 62) (tgt := 68) hx hb dX10_account_6 (by rw [c2]; decide) (by rw [c2]; decide) (by rw [c2]; rfl) (by decide) ?_
    refine lv_aload_n hx hb dX10_account_68 rfl (lv_at hl 0 rfl) ?_
    refine r_get (ci := 14) (C := RX10) (T := TX10) (N := 21) S F B (kq (by decide) : kd 198 = 21 ∧ 198 < NN) rfl rfl hiX10 0 (by decide) (by decide +kernel) rfl dX10_account_69 ?_
    refine lv_iload_n hx hb dX10_account_72 rfl (lv_at hl 1 rfl) ?_
    obtain ⟨hi, ho⟩ := gd_ ho
    refine r_iald S F B (kq (by decide) : kd 199 = 22 ∧ 199 < NN) rfl hi dX10_account_73 ?_
    cases ho
    exact e_i B hx hb hr hlocks rfl rfl dX10_account_74
  · have ho := in_ c2 ho
    by_cases c3 : a0 = 1
    · have ho := ip_ c3 ho
      refine lv_tableIn (off := 62) (tgt := 68) hx hb dX10_account_6 (by rw [c3]; decide) (by rw [c3]; decide) (by rw [c3]; rfl) (by decide) ?_
      refine lv_aload_n hx hb dX10_account_68 rfl (lv_at hl 0 rfl) ?_
      refine r_get (ci := 14) (C := RX10) (T := TX10) (N := 21) S F B (kq (by decide) : kd 198 = 21 ∧ 198 < NN) rfl rfl hiX10 0 (by decide) (by decide +kernel) rfl dX10_account_69 ?_
      refine lv_iload_n hx hb dX10_account_72 rfl (lv_at hl 1 rfl) ?_
      obtain ⟨hi, ho⟩ := gd_ ho
      refine r_iald S F B (kq (by decide) : kd 199 = 22 ∧ 199 < NN) rfl hi dX10_account_73 ?_
      cases ho
      exact e_i B hx hb hr hlocks rfl rfl dX10_account_74
    · have ho := in_ c3 ho
      by_cases c4 : a0 = 2
      · have ho := ip_ c4 ho
        refine lv_tableIn (off := 69) (tgt := 75) hx hb dX10_account_6 (by rw [c4]; decide) (by rw [c4]; decide) (by rw [c4]; rfl) (by decide) ?_
        refine lv_aload_n hx hb dX10_account_75 rfl (lv_at hl 0 rfl) ?_
        obtain ⟨q5, hq5, ho⟩ := bnd_ ho
        refine k_iV (As := []) (rest := []) S F B (c_X10_outs l G σ1 _ hq5) (kq (by decide) : kd 198 = 21 ∧ 198 < NN) rfl rfl (cwV 0 hts gX10_account_X10_outs rfl rfl rfl (by decide +kernel) ⟨Nat.le_of_ble_eq_true rfl, Nat.le_of_ble_eq_true rfl⟩) rfl hl.1 rfl (Nat.le_of_ble_eq_true rfl) dX10_account_76 ⟨Nat.le_of_ble_eq_true rfl, Nat.le_of_ble_eq_true rfl⟩ (fun H locs B => ?_)
        cases ho
        exact e_i B hx hb hr hlocks rfl rfl dX10_account_79
      · have ho := in_ c4 ho
        by_cases c6 : a0 = 3
        · have ho := ip_ c6 ho
          refine lv_tableIn (off := 74) (tgt := 80) hx hb dX10_account_6 (by rw [c6]; decide) (by rw [c6]; decide) (by rw [c6]; rfl) (by decide) ?_
          refine lv_aload_n hx hb dX10_account_80 rfl (lv_at hl 0 rfl) ?_
          refine lv_iconst (v := (-1)) hx hb dX10_account_81 (by decide) ?_
          obtain ⟨q7, hq7, ho⟩ := bnd_ ho
          refine k_iV (As := [.int (-1)]) (rest := []) S F B (c_X10_lasting l G σ1 _ (-1) hq7) (kq (by decide) : kd 198 = 21 ∧ 198 < NN) rfl rfl (cwV 1 hts gX10_account_X10_lasting rfl rfl rfl (by decide +kernel) ⟨Nat.le_of_ble_eq_true rfl, Nat.le_of_ble_eq_true rfl⟩) rfl hl.1 rfl (Nat.le_of_ble_eq_true rfl) dX10_account_82 ⟨Nat.le_of_ble_eq_true rfl, Nat.le_of_ble_eq_true rfl⟩ (fun H locs B => ?_)
          cases ho
          exact e_i B hx hb hr hlocks rfl rfl dX10_account_85
        · have ho := in_ c6 ho
          by_cases c8 : a0 = 4
          · have ho := ip_ c8 ho
            refine lv_tableIn (off := 80) (tgt := 86) hx hb dX10_account_6 (by rw [c8]; decide) (by rw [c8]; decide) (by rw [c8]; rfl) (by decide) ?_
            refine lv_aload_n hx hb dX10_account_86 rfl (lv_at hl 0 rfl) ?_
            obtain ⟨q9, hq9, ho⟩ := bnd_ ho
            refine k_iV (As := []) (rest := []) S F B (c_X10_voids l G σ1 _ hq9) (kq (by decide) : kd 198 = 21 ∧ 198 < NN) rfl rfl (cwV 0 hts gX10_account_X10_voids rfl rfl rfl (by decide +kernel) ⟨Nat.le_of_ble_eq_true rfl, Nat.le_of_ble_eq_true rfl⟩) rfl hl.1 rfl (Nat.le_of_ble_eq_true rfl) dX10_account_87 ⟨Nat.le_of_ble_eq_true rfl, Nat.le_of_ble_eq_true rfl⟩ (fun H locs B => ?_)
            cases ho
            exact e_i B hx hb hr hlocks rfl rfl dX10_account_90
          · have ho := in_ c8 ho
            by_cases c10 : a0 = 5
            · have ho := ip_ c10 ho
              refine lv_tableIn (off := 85) (tgt := 91) hx hb dX10_account_6 (by rw [c10]; decide) (by rw [c10]; decide) (by rw [c10]; rfl) (by decide) ?_
              refine lv_aload_n hx hb dX10_account_91 rfl (lv_at hl 0 rfl) ?_
              obtain ⟨q11, hq11, ho⟩ := bnd_ ho
              refine k_iV (As := []) (rest := []) S F B (c_X10_gaps l G σ1 _ hq11) (kq (by decide) : kd 198 = 21 ∧ 198 < NN) rfl rfl (cwV 0 hts gX10_account_X10_gaps rfl rfl rfl (by decide +kernel) ⟨Nat.le_of_ble_eq_true rfl, Nat.le_of_ble_eq_true rfl⟩) rfl hl.1 rfl (Nat.le_of_ble_eq_true rfl) dX10_account_92 ⟨Nat.le_of_ble_eq_true rfl, Nat.le_of_ble_eq_true rfl⟩ (fun H locs B => ?_)
              cases ho
              exact e_i B hx hb hr hlocks rfl rfl dX10_account_95
            · have ho := in_ c10 ho
              by_cases c12 : a0 = 6
              · have ho := ip_ c12 ho
                refine lv_tableIn (off := 90) (tgt := 96) hx hb dX10_account_6 (by rw [c12]; decide) (by rw [c12]; decide) (by rw [c12]; rfl) (by decide) ?_
                refine lv_aload_n hx hb dX10_account_96 rfl (lv_at hl 0 rfl) ?_
                refine r_get (ci := 14) (C := RX10) (T := TX10) (N := 21) S F B (kq (by decide) : kd 198 = 21 ∧ 198 < NN) rfl rfl hiX10 0 (by decide) (by decide +kernel) rfl dX10_account_97 ?_
                refine lv_iconst (v := 3) hx hb dX10_account_100 (by decide) ?_
                refine lv_iload_n hx hb dX10_account_101 rfl (lv_at hl 1 rfl) ?_
                refine lv_iadd hx hb dX10_account_102 ?_
                refine lv_bipush (v := 6) hx hb dX10_account_103 (by decide) ?_
                refine lv_isub hx hb dX10_account_105 ?_
                obtain ⟨hi, ho⟩ := gd_ ho
                refine r_iald S F B (kq (by decide) : kd 199 = 22 ∧ 199 < NN) rfl hi dX10_account_106 ?_
                cases ho
                exact e_i B hx hb hr hlocks rfl rfl dX10_account_107
              · have ho := in_ c12 ho
                by_cases c13 : a0 = 7
                · have ho := ip_ c13 ho
                  refine lv_tableIn (off := 90) (tgt := 96) hx hb dX10_account_6 (by rw [c13]; decide) (by rw [c13]; decide) (by rw [c13]; rfl) (by decide) ?_
                  refine lv_aload_n hx hb dX10_account_96 rfl (lv_at hl 0 rfl) ?_
                  refine r_get (ci := 14) (C := RX10) (T := TX10) (N := 21) S F B (kq (by decide) : kd 198 = 21 ∧ 198 < NN) rfl rfl hiX10 0 (by decide) (by decide +kernel) rfl dX10_account_97 ?_
                  refine lv_iconst (v := 3) hx hb dX10_account_100 (by decide) ?_
                  refine lv_iload_n hx hb dX10_account_101 rfl (lv_at hl 1 rfl) ?_
                  refine lv_iadd hx hb dX10_account_102 ?_
                  refine lv_bipush (v := 6) hx hb dX10_account_103 (by decide) ?_
                  refine lv_isub hx hb dX10_account_105 ?_
                  obtain ⟨hi, ho⟩ := gd_ ho
                  refine r_iald S F B (kq (by decide) : kd 199 = 22 ∧ 199 < NN) rfl hi dX10_account_106 ?_
                  cases ho
                  exact e_i B hx hb hr hlocks rfl rfl dX10_account_107
                · have ho := in_ c13 ho
                  by_cases c14 : a0 = 8
                  · have ho := ip_ c14 ho
                    refine lv_tableIn (off := 90) (tgt := 96) hx hb dX10_account_6 (by rw [c14]; decide) (by rw [c14]; decide) (by rw [c14]; rfl) (by decide) ?_
                    refine lv_aload_n hx hb dX10_account_96 rfl (lv_at hl 0 rfl) ?_
                    refine r_get (ci := 14) (C := RX10) (T := TX10) (N := 21) S F B (kq (by decide) : kd 198 = 21 ∧ 198 < NN) rfl rfl hiX10 0 (by decide) (by decide +kernel) rfl dX10_account_97 ?_
                    refine lv_iconst (v := 3) hx hb dX10_account_100 (by decide) ?_
                    refine lv_iload_n hx hb dX10_account_101 rfl (lv_at hl 1 rfl) ?_
                    refine lv_iadd hx hb dX10_account_102 ?_
                    refine lv_bipush (v := 6) hx hb dX10_account_103 (by decide) ?_
                    refine lv_isub hx hb dX10_account_105 ?_
                    obtain ⟨hi, ho⟩ := gd_ ho
                    refine r_iald S F B (kq (by decide) : kd 199 = 22 ∧ 199 < NN) rfl hi dX10_account_106 ?_
                    cases ho
                    exact e_i B hx hb hr hlocks rfl rfl dX10_account_107
                  · have ho := in_ c14 ho
                    by_cases c15 : a0 = 9
                    · have ho := ip_ c15 ho
                      refine lv_tableIn (off := 102) (tgt := 108) hx hb dX10_account_6 (by rw [c15]; decide) (by rw [c15]; decide) (by rw [c15]; rfl) (by decide) ?_
                      refine lv_aload_n hx hb dX10_account_108 rfl (lv_at hl 0 rfl) ?_
                      obtain ⟨q16, hq16, ho⟩ := bnd_ ho
                      refine k_iV (As := []) (rest := []) S F B (c_X10_coins l G σ1 _ hq16) (kq (by decide) : kd 198 = 21 ∧ 198 < NN) rfl rfl (cwV 0 hts gX10_account_X10_coins rfl rfl rfl (by decide +kernel) ⟨Nat.le_of_ble_eq_true rfl, Nat.le_of_ble_eq_true rfl⟩) rfl hl.1 rfl (Nat.le_of_ble_eq_true rfl) dX10_account_109 ⟨Nat.le_of_ble_eq_true rfl, Nat.le_of_ble_eq_true rfl⟩ (fun H locs B => ?_)
                      cases ho
                      exact e_i B hx hb hr hlocks rfl rfl dX10_account_112
                    · have ho := in_ c15 ho
                      by_cases c17 : a0 = 10
                      · have ho := ip_ c17 ho
                        refine lv_tableIn (off := 107) (tgt := 113) hx hb dX10_account_6 (by rw [c17]; decide) (by rw [c17]; decide) (by rw [c17]; rfl) (by decide) ?_
                        refine lv_aload_n hx hb dX10_account_113 rfl (lv_at hl 0 rfl) ?_
                        refine r_get (ci := 14) (C := RX10) (T := TX10) (N := 21) S F B (kq (by decide) : kd 198 = 21 ∧ 198 < NN) rfl rfl hiX10 5 (by decide) (by decide +kernel) rfl dX10_account_114 ?_
                        cases ho
                        exact e_i B hx hb hr hlocks rfl rfl dX10_account_117
                      · have ho := in_ c17 ho
                        by_cases c18 : a0 = 11
                        · have ho := ip_ c18 ho
                          refine lv_tableIn (off := 112) (tgt := 118) hx hb dX10_account_6 (by rw [c18]; decide) (by rw [c18]; decide) (by rw [c18]; rfl) (by decide) ?_
                          refine lv_aload_n hx hb dX10_account_118 rfl (lv_at hl 0 rfl) ?_
                          refine r_get (ci := 14) (C := RX10) (T := TX10) (N := 21) S F B (kq (by decide) : kd 198 = 21 ∧ 198 < NN) rfl rfl hiX10 11 (by decide) (by decide +kernel) rfl dX10_account_119 ?_
                          cases ho
                          exact e_i B hx hb hr hlocks rfl rfl dX10_account_122
                        · have ho := in_ c18 ho
                          refine t_tableD (tgt := 123) hx hb dX10_account_6 rfl (fun j hj => ?_) (by decide) ?_
                          · have hj : j < 12 := hj
                            rcases (show j = 0 ∨ j = 1 ∨ j = 2 ∨ j = 3 ∨ j = 4 ∨ j = 5 ∨ j = 6 ∨ j = 7 ∨ j = 8 ∨ j = 9 ∨ j = 10 ∨ j = 11 by omega) with rfl | rfl | rfl | rfl | rfl | rfl | rfl | rfl | rfl | rfl | rfl | rfl
                            · exact Or.inr (lv_neT c2 (by decide))
                            · exact Or.inr (lv_neT c3 (by decide))
                            · exact Or.inr (lv_neT c4 (by decide))
                            · exact Or.inr (lv_neT c6 (by decide))
                            · exact Or.inr (lv_neT c8 (by decide))
                            · exact Or.inr (lv_neT c10 (by decide))
                            · exact Or.inr (lv_neT c12 (by decide))
                            · exact Or.inr (lv_neT c13 (by decide))
                            · exact Or.inr (lv_neT c14 (by decide))
                            · exact Or.inr (lv_neT c15 (by decide))
                            · exact Or.inr (lv_neT c17 (by decide))
                            · exact Or.inr (lv_neT c18 (by decide))
                          · refine lv_aload_n hx hb dX10_account_123 rfl (lv_at hl 0 rfl) ?_
                            refine lv_iconst (v := 1) hx hb dX10_account_124 (by decide) ?_
                            obtain ⟨q19, σ20, hq19, ho⟩ := bnm_ ho
                            refine k_iV (As := [.int 1]) (rest := []) S F B (c_X10_throwing l G σ1 _ 1 hq19) (kq (by decide) : kd 198 = 21 ∧ 198 < NN) rfl rfl (cwV 1 hts gX10_account_X10_throwing rfl rfl rfl (by decide +kernel) ⟨Nat.le_of_ble_eq_true rfl, Nat.le_of_ble_eq_true rfl⟩) rfl hl.1 rfl (Nat.le_of_ble_eq_true rfl) dX10_account_125 ⟨Nat.le_of_ble_eq_true rfl, Nat.le_of_ble_eq_true rfl⟩ (fun H locs B => ?_)
                            cases ho
                            exact e_i B hx hb hr hlocks rfl rfl dX10_account_128

