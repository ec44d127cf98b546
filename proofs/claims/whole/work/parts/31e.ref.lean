set_option maxHeartbeats 4000000 in
set_option maxRecDepth 100000 in
theorem c_X10_minotaurIt (l : Launch) (G : Gd) (σ : Mm) (sz : Nat) (a0 : Int32) {out : Int32 × Mm} (ho : f_X10_minotaurIt a0 σ = some out) : Met l yX10_minotaurIt wsX10_minotaurIt { frames := 2, cells := 0, slots := 0, locals := 43 } (va_Pc [.ref (G.2.2 198), .int a0] (PW G σ sz)) (Qi G sz out.1 out.2) 0 0 (AA G sz) := by
  refine Met.ofW (cc := cX10_minotaurIt) (maxL := 5) (ret := (some .int)) (by decide) rfl ?_
  intro p e s m args below meth c s₁ B0 hml hv
  obtain ⟨rfl, hpw⟩ := hv
  have hsz := hpw.1
  subst hsz
  obtain ⟨F, B⟩ := hpw.to
  have hx := B0.exec
  have hb := B0.bytes
  have hr := B0.returns
  have hts := atoms_spec (ws := wsX10_minotaurIt) B0.pre
  have hown : s.vm.findClass RX10 = some m.cls := findClass_of_methodNamed B0.named
  have hlocks := B0.notSynchronized
  have S : CallFix p m c cX10_minotaurIt 5 s _ wsX10_minotaurIt RX10 := ⟨hx, hb, hml, hown, hts⟩
  have hiX10 : ∀ w ∈ u_ws RX10 TX10 21, w ∈ wsX10_minotaurIt := by decide +kernel
  have hl := lv_entry [.ref (G.2.2 198), .int a0] (n := 5) (Nat.le_of_ble_eq_true rfl)
  rw [lg_entry_eq]
  generalize (lg_sl [.ref (G.2.2 198), .int a0] ++ List.replicate (5 - (lg_sl [.ref (G.2.2 198), .int a0]).length) Slot.unset).toArray = ls at hl ⊢
  have hl : lv_has ls 5 [(0, .ref (G.2.2 198)), (1, .int a0)] := hl
  unfold f_X10_minotaurIt at ho
  skip
  refine lv_iload_n hx hb dX10_minotaurIt_0 rfl (lv_at hl 1 rfl) ?_
  refine lv_i2l hx hb dX10_minotaurIt_1 rfl ?_
  refine lv_ldc2 (v := (-1)) hx hb hown (hts _ (by decide +kernel)) dX10_minotaurIt_2 ?_
  refine lv_ldc2 (v := 15) hx hb hown (hts _ (by decide +kernel)) dX10_minotaurIt_5 ?_
  obtain ⟨q1, hq1, ho⟩ := bnd_ ho
  refine k_iS (As := [.long a0.toInt64, .long (-1), .long 15]) (rest := []) S F B (c_X10_in l G σ _ a0.toInt64 (-1) 15 hq1) (va_cwS 3 hts gX10_minotaurIt_X10_in rfl rfl rfl (by decide +kernel) ⟨Nat.le_of_ble_eq_true rfl, Nat.le_of_ble_eq_true rfl⟩) rfl hl.1 rfl (Nat.le_of_ble_eq_true rfl) dX10_minotaurIt_8 ⟨Nat.le_of_ble_eq_true rfl, Nat.le_of_ble_eq_true rfl⟩ (fun H locs B => ?_)
  refine lv_if_ne (tgt := 21) hx hb dX10_minotaurIt_11 (by decide) (fun c2 => ?_) (fun c2 => ?_)
  · have ho := in_ c2 ho
    refine lv_aload_n hx hb dX10_minotaurIt_21 rfl (lv_at hl 0 rfl) ?_
    refine r_get (ci := 14) (C := RX10) (T := TX10) (N := 21) S F B (kq (by decide) : kd 198 = 21 ∧ 198 < NN) rfl rfl hiX10 0 (by decide) (by decide +kernel) rfl dX10_minotaurIt_22 ?_
    refine lv_iconst (v := 2) hx hb dX10_minotaurIt_25 (by decide) ?_
    refine r_ialdc (j := 2) S F B (kq (by decide) : kd 199 = 22 ∧ 199 < NN) rfl (vpc (by decide)) (by decide) dX10_minotaurIt_26 ?_
    refine lv_iload_n hx hb dX10_minotaurIt_27 rfl (lv_at hl 1 rfl) ?_
    refine lv_icmp_ne (tgt := 38) hx hb dX10_minotaurIt_28 (by decide) (fun c3 => ?_) (fun c3 => ?_)
    · have ho := in_ c3 ho
      refine lv_aload_n hx hb dX10_minotaurIt_38 rfl (lv_at hl 0 rfl) ?_
      refine r_get (ci := 14) (C := RX10) (T := TX10) (N := 21) S F B (kq (by decide) : kd 198 = 21 ∧ 198 < NN) rfl rfl hiX10 0 (by decide) (by decide +kernel) rfl dX10_minotaurIt_39 ?_
      refine lv_iconst (v := 2) hx hb dX10_minotaurIt_42 (by decide) ?_
      refine lv_iload_n hx hb dX10_minotaurIt_43 rfl (lv_at hl 1 rfl) ?_
      refine r_iastc (j := 2) S F B (kq (by decide) : kd 199 = 22 ∧ 199 < NN) (fun _ => rfl) (vpc (by decide)) (by decide) dX10_minotaurIt_44 (fun H locs B => ?_)
      obtain ⟨σ4, eσ4, ho⟩ := lt_ ho
      rw [← eσ4] at B
      refine lv_iconst (v := 0) hx hb dX10_minotaurIt_45 (by decide) ?_
      refine lv_istore_n (lv' := [(2, .int 0), (0, .ref (G.2.2 198)), (1, .int a0)]) hx hb dX10_minotaurIt_46 rfl hl (by decide) rfl (fun ls hl => ?_)
      refine lv_iconst (v := 0) hx hb dX10_minotaurIt_47 (by decide) ?_
      refine lv_istore_n (lv' := [(3, .int 0), (2, .int 0), (0, .ref (G.2.2 198)), (1, .int a0)]) hx hb dX10_minotaurIt_48 rfl hl (by decide) rfl (fun ls hl => ?_)
      have hloop49 : ∀ (n : Nat) (v9 : Int32) (v10 : Int32) (σ11 : Mm) (H : Heap) (locs : List Loc) (ls : Array Slot), f_X10_minotaurIt_l49  a0 n v9 v10 σ11 = some out → Bd G σ11 s H locs → lv_has ls 5 [(3, .int v9), (2, .int v10), (0, .ref (G.2.2 198)), (1, .int a0)] → W p l e (headSpec wsX10_minotaurIt { frames := 2, cells := 0, slots := 0, locals := 43 }).room s m #[.ref (G.2.2 198), .int a0] below meth c H locs 0 0 (MQ below (Qi G s.heap.size out.1 out.2) #[.ref (G.2.2 198), .int a0] s 0 0 (AA G s.heap.size)) (F0 m 49 ls []) := by
        intro n
        induction n with
        | zero => intro v9 v10 σ11 H locs ls ho B hl; cases ho
        | succ n ih =>
          intro v9 v10 σ11 H locs ls ho B hl
          refine lv_iload_n hx hb dX10_minotaurIt_49 rfl (lv_at hl 0 rfl) ?_
          refine lv_aload_n hx hb dX10_minotaurIt_50 rfl (lv_at hl 2 rfl) ?_
          refine r_get (ci := 14) (C := RX10) (T := TX10) (N := 21) S F B (kq (by decide) : kd 198 = 21 ∧ 198 < NN) rfl rfl hiX10 0 (by decide) (by decide +kernel) rfl dX10_minotaurIt_51 ?_
          refine lv_iconst (v := 1) hx hb dX10_minotaurIt_54 (by decide) ?_
          refine r_ialdc (j := 1) S F B (kq (by decide) : kd 199 = 22 ∧ 199 < NN) rfl (vpc (by decide)) (by decide) dX10_minotaurIt_55 ?_
          refine lv_icmp_ge (tgt := 132) hx hb dX10_minotaurIt_56 (by decide) (fun c12 => ?_) (fun c12 => ?_)
          · have ho := ip_ c12 ho
            refine lv_iload_n hx hb dX10_minotaurIt_132 rfl (lv_at hl 1 rfl) ?_
            cases ho
            exact e_i B hx hb hr hlocks rfl rfl dX10_minotaurIt_133
          · have ho := in_ c12 ho
            refine lv_aload_n hx hb dX10_minotaurIt_59 rfl (lv_at hl 2 rfl) ?_
            refine lv_iload_n hx hb dX10_minotaurIt_60 rfl (lv_at hl 0 rfl) ?_
            obtain ⟨q13, hq13, ho⟩ := bnd_ ho
            refine k_iV (As := [.int v9]) (rest := []) S F B (c_X10_meets l G σ11 _ v9 hq13) (kq (by decide) : kd 198 = 21 ∧ 198 < NN) rfl rfl (cwV 1 hts gX10_minotaurIt_X10_meets rfl rfl rfl (by decide +kernel) ⟨Nat.le_of_ble_eq_true rfl, Nat.le_of_ble_eq_true rfl⟩) rfl hl.1 rfl (Nat.le_of_ble_eq_true rfl) dX10_minotaurIt_61 ⟨Nat.le_of_ble_eq_true rfl, Nat.le_of_ble_eq_true rfl⟩ (fun H locs B => ?_)
            refine lv_istore (lv' := [(4, .int q13), (3, .int v9), (2, .int v10), (0, .ref (G.2.2 198)), (1, .int a0)]) hx hb dX10_minotaurIt_64 hl (by decide) rfl (fun ls hl => ?_)
            refine lv_aload_n hx hb dX10_minotaurIt_66 rfl (lv_at hl 3 rfl) ?_
            refine r_get (ci := 14) (C := RX10) (T := TX10) (N := 21) S F B (kq (by decide) : kd 198 = 21 ∧ 198 < NN) rfl rfl hiX10 0 (by decide) (by decide +kernel) rfl dX10_minotaurIt_67 ?_
            refine lv_iload_n hx hb dX10_minotaurIt_70 rfl (lv_at hl 1 rfl) ?_
            obtain ⟨q14, hq14, ho⟩ := bnd_ ho
            refine k_iS (As := [.int v9]) (rest := [.ref (G.2.2 199)]) S F B (c_X10_visitorAt l G σ11 _ v9 hq14) (va_cwS 1 hts gX10_minotaurIt_X10_visitorAt rfl rfl rfl (by decide +kernel) ⟨Nat.le_of_ble_eq_true rfl, Nat.le_of_ble_eq_true rfl⟩) rfl hl.1 rfl (Nat.le_of_ble_eq_true rfl) dX10_minotaurIt_71 ⟨Nat.le_of_ble_eq_true rfl, Nat.le_of_ble_eq_true rfl⟩ (fun H locs B => ?_)
            refine lv_bipush (v := 6) hx hb dX10_minotaurIt_74 (by decide) ?_
            refine lv_iadd hx hb dX10_minotaurIt_76 ?_
            refine lv_iload hx hb dX10_minotaurIt_77 (lv_at hl 0 rfl) ?_
            refine lv_if_eq (tgt := 100) hx hb dX10_minotaurIt_79 (by decide) (fun c15 => ?_) (fun c15 => ?_)
            · have ho := ip_ c15 ho
              refine lv_aload_n hx hb dX10_minotaurIt_100 rfl (lv_at hl 3 rfl) ?_
              refine r_get (ci := 14) (C := RX10) (T := TX10) (N := 21) S F B (kq (by decide) : kd 198 = 21 ∧ 198 < NN) rfl rfl hiX10 0 (by decide) (by decide +kernel) rfl dX10_minotaurIt_101 ?_
              refine lv_iload_n hx hb dX10_minotaurIt_104 rfl (lv_at hl 1 rfl) ?_
              obtain ⟨q16, hq16, ho⟩ := bnd_ ho
              refine k_iS (As := [.int v9]) (rest := [.ref (G.2.2 199), .int (q14 + 6), .ref (G.2.2 199)]) S F B (c_X10_visitorAt l G σ11 _ v9 hq16) (va_cwS 1 hts gX10_minotaurIt_X10_visitorAt rfl rfl rfl (by decide +kernel) ⟨Nat.le_of_ble_eq_true rfl, Nat.le_of_ble_eq_true rfl⟩) rfl hl.1 rfl (Nat.le_of_ble_eq_true rfl) dX10_minotaurIt_105 ⟨Nat.le_of_ble_eq_true rfl, Nat.le_of_ble_eq_true rfl⟩ (fun H locs B => ?_)
              refine lv_bipush (v := 6) hx hb dX10_minotaurIt_108 (by decide) ?_
              refine lv_iadd hx hb dX10_minotaurIt_110 ?_
              obtain ⟨hi, ho⟩ := gd_ ho
              refine r_iald S F B (kq (by decide) : kd 199 = 22 ∧ 199 < NN) rfl hi dX10_minotaurIt_111 ?_
              obtain ⟨hi, ho⟩ := gd_ ho
              refine r_iast S F B (kq (by decide) : kd 199 = 22 ∧ 199 < NN) (fun _ => rfl) hi dX10_minotaurIt_112 (fun H locs B => ?_)
              obtain ⟨σ17, eσ17, ho⟩ := lt_ ho
              rw [← eσ17] at B
              refine lv_iload_n hx hb dX10_minotaurIt_113 rfl (lv_at hl 2 rfl) ?_
              refine lv_iload hx hb dX10_minotaurIt_114 (lv_at hl 0 rfl) ?_
              refine lv_if_eq (tgt := 123) hx hb dX10_minotaurIt_116 (by decide) (fun c18 => ?_) (fun c18 => ?_)
              · have ho := ip_ c18 ho
                refine lv_iconst (v := 0) hx hb dX10_minotaurIt_123 (by decide) ?_
                refine lv_iadd hx hb dX10_minotaurIt_124 ?_
                obtain ⟨x19, ex19, ho⟩ := lt_ ho
                refine lv_nm ex19 ?_
                refine lv_istore_n (lv' := [(2, .int x19), (4, .int q13), (3, .int v9), (0, .ref (G.2.2 198)), (1, .int a0)]) hx hb dX10_minotaurIt_125 rfl hl (by decide) rfl (fun ls hl => ?_)
                obtain ⟨x20, ex20, ho⟩ := lt_ ho
                refine lv_iinc (v := x20) (lv' := [(3, .int x20), (2, .int x19), (4, .int q13), (0, .ref (G.2.2 198)), (1, .int a0)]) hx hb dX10_minotaurIt_126 hl (k := 2) rfl (by rw [ex20]; rfl) (by decide) rfl (fun ls hl => ?_)
                refine lv_goto (tgt := 49) hx hb dX10_minotaurIt_129 (by decide) ?_
                exact ih _ _ _ _ _ _ ho B (lv_sub hl [0, 1, 3, 4] rfl)
              · have ho := in_ c18 ho
                refine lv_iconst (v := 1) hx hb dX10_minotaurIt_119 (by decide) ?_
                refine lv_goto (tgt := 124) hx hb dX10_minotaurIt_120 (by decide) ?_
                refine lv_iadd hx hb dX10_minotaurIt_124 ?_
                obtain ⟨x21, ex21, ho⟩ := lt_ ho
                refine lv_nm ex21 ?_
                refine lv_istore_n (lv' := [(2, .int x21), (4, .int q13), (3, .int v9), (0, .ref (G.2.2 198)), (1, .int a0)]) hx hb dX10_minotaurIt_125 rfl hl (by decide) rfl (fun ls hl => ?_)
                obtain ⟨x22, ex22, ho⟩ := lt_ ho
                refine lv_iinc (v := x22) (lv' := [(3, .int x22), (2, .int x21), (4, .int q13), (0, .ref (G.2.2 198)), (1, .int a0)]) hx hb dX10_minotaurIt_126 hl (k := 2) rfl (by rw [ex22]; rfl) (by decide) rfl (fun ls hl => ?_)
                refine lv_goto (tgt := 49) hx hb dX10_minotaurIt_129 (by decide) ?_
                exact ih _ _ _ _ _ _ ho B (lv_sub hl [0, 1, 3, 4] rfl)
            · have ho := in_ c15 ho
              refine lv_aload_n hx hb dX10_minotaurIt_82 rfl (lv_at hl 3 rfl) ?_
              refine r_get (ci := 14) (C := RX10) (T := TX10) (N := 21) S F B (kq (by decide) : kd 198 = 21 ∧ 198 < NN) rfl rfl hiX10 0 (by decide) (by decide +kernel) rfl dX10_minotaurIt_83 ?_
              refine lv_iload_n hx hb dX10_minotaurIt_86 rfl (lv_at hl 1 rfl) ?_
              obtain ⟨q23, hq23, ho⟩ := bnd_ ho
              refine k_iS (As := [.int v9]) (rest := [.ref (G.2.2 199), .int (q14 + 6), .ref (G.2.2 199)]) S F B (c_X10_visitorAt l G σ11 _ v9 hq23) (va_cwS 1 hts gX10_minotaurIt_X10_visitorAt rfl rfl rfl (by decide +kernel) ⟨Nat.le_of_ble_eq_true rfl, Nat.le_of_ble_eq_true rfl⟩) rfl hl.1 rfl (Nat.le_of_ble_eq_true rfl) dX10_minotaurIt_87 ⟨Nat.le_of_ble_eq_true rfl, Nat.le_of_ble_eq_true rfl⟩ (fun H locs B => ?_)
              refine lv_iconst (v := 5) hx hb dX10_minotaurIt_90 (by decide) ?_
              refine lv_iadd hx hb dX10_minotaurIt_91 ?_
              obtain ⟨hi, ho⟩ := gd_ ho
              refine r_iald S F B (kq (by decide) : kd 199 = 22 ∧ 199 < NN) rfl hi dX10_minotaurIt_92 ?_
              refine lv_if_le (tgt := 100) hx hb dX10_minotaurIt_93 (by decide) (fun c24 => ?_) (fun c24 => ?_)
              · have ho := ip_ c24 ho
                refine lv_aload_n hx hb dX10_minotaurIt_100 rfl (lv_at hl 3 rfl) ?_
                refine r_get (ci := 14) (C := RX10) (T := TX10) (N := 21) S F B (kq (by decide) : kd 198 = 21 ∧ 198 < NN) rfl rfl hiX10 0 (by decide) (by decide +kernel) rfl dX10_minotaurIt_101 ?_
                refine lv_iload_n hx hb dX10_minotaurIt_104 rfl (lv_at hl 1 rfl) ?_
                obtain ⟨q25, hq25, ho⟩ := bnd_ ho
                refine k_iS (As := [.int v9]) (rest := [.ref (G.2.2 199), .int (q14 + 6), .ref (G.2.2 199)]) S F B (c_X10_visitorAt l G σ11 _ v9 hq25) (va_cwS 1 hts gX10_minotaurIt_X10_visitorAt rfl rfl rfl (by decide +kernel) ⟨Nat.le_of_ble_eq_true rfl, Nat.le_of_ble_eq_true rfl⟩) rfl hl.1 rfl (Nat.le_of_ble_eq_true rfl) dX10_minotaurIt_105 ⟨Nat.le_of_ble_eq_true rfl, Nat.le_of_ble_eq_true rfl⟩ (fun H locs B => ?_)
                refine lv_bipush (v := 6) hx hb dX10_minotaurIt_108 (by decide) ?_
                refine lv_iadd hx hb dX10_minotaurIt_110 ?_
                obtain ⟨hi, ho⟩ := gd_ ho
                refine r_iald S F B (kq (by decide) : kd 199 = 22 ∧ 199 < NN) rfl hi dX10_minotaurIt_111 ?_
                obtain ⟨hi, ho⟩ := gd_ ho
                refine r_iast S F B (kq (by decide) : kd 199 = 22 ∧ 199 < NN) (fun _ => rfl) hi dX10_minotaurIt_112 (fun H locs B => ?_)
                obtain ⟨σ26, eσ26, ho⟩ := lt_ ho
                rw [← eσ26] at B
                refine lv_iload_n hx hb dX10_minotaurIt_113 rfl (lv_at hl 2 rfl) ?_
                refine lv_iload hx hb dX10_minotaurIt_114 (lv_at hl 0 rfl) ?_
                refine lv_if_eq (tgt := 123) hx hb dX10_minotaurIt_116 (by decide) (fun c27 => ?_) (fun c27 => ?_)
                · have ho := ip_ c27 ho
                  refine lv_iconst (v := 0) hx hb dX10_minotaurIt_123 (by decide) ?_
                  refine lv_iadd hx hb dX10_minotaurIt_124 ?_
                  obtain ⟨x28, ex28, ho⟩ := lt_ ho
                  refine lv_nm ex28 ?_
                  refine lv_istore_n (lv' := [(2, .int x28), (4, .int q13), (3, .int v9), (0, .ref (G.2.2 198)), (1, .int a0)]) hx hb dX10_minotaurIt_125 rfl hl (by decide) rfl (fun ls hl => ?_)
                  obtain ⟨x29, ex29, ho⟩ := lt_ ho
                  refine lv_iinc (v := x29) (lv' := [(3, .int x29), (2, .int x28), (4, .int q13), (0, .ref (G.2.2 198)), (1, .int a0)]) hx hb dX10_minotaurIt_126 hl (k := 2) rfl (by rw [ex29]; rfl) (by decide) rfl (fun ls hl => ?_)
                  refine lv_goto (tgt := 49) hx hb dX10_minotaurIt_129 (by decide) ?_
                  exact ih _ _ _ _ _ _ ho B (lv_sub hl [0, 1, 3, 4] rfl)
                · have ho := in_ c27 ho
                  refine lv_iconst (v := 1) hx hb dX10_minotaurIt_119 (by decide) ?_
                  refine lv_goto (tgt := 124) hx hb dX10_minotaurIt_120 (by decide) ?_
                  refine lv_iadd hx hb dX10_minotaurIt_124 ?_
                  obtain ⟨x30, ex30, ho⟩ := lt_ ho
                  refine lv_nm ex30 ?_
                  refine lv_istore_n (lv' := [(2, .int x30), (4, .int q13), (3, .int v9), (0, .ref (G.2.2 198)), (1, .int a0)]) hx hb dX10_minotaurIt_125 rfl hl (by decide) rfl (fun ls hl => ?_)
                  obtain ⟨x31, ex31, ho⟩ := lt_ ho
                  refine lv_iinc (v := x31) (lv' := [(3, .int x31), (2, .int x30), (4, .int q13), (0, .ref (G.2.2 198)), (1, .int a0)]) hx hb dX10_minotaurIt_126 hl (k := 2) rfl (by rw [ex31]; rfl) (by decide) rfl (fun ls hl => ?_)
                  refine lv_goto (tgt := 49) hx hb dX10_minotaurIt_129 (by decide) ?_
                  exact ih _ _ _ _ _ _ ho B (lv_sub hl [0, 1, 3, 4] rfl)
              · have ho := in_ c24 ho
                refine lv_iconst (v := 1) hx hb dX10_minotaurIt_96 (by decide) ?_
                refine lv_goto (tgt := 112) hx hb dX10_minotaurIt_97 (by decide) ?_
                obtain ⟨hi, ho⟩ := gd_ ho
                refine r_iast S F B (kq (by decide) : kd 199 = 22 ∧ 199 < NN) (fun _ => rfl) hi dX10_minotaurIt_112 (fun H locs B => ?_)
                obtain ⟨σ32, eσ32, ho⟩ := lt_ ho
                rw [← eσ32] at B
                refine lv_iload_n hx hb dX10_minotaurIt_113 rfl (lv_at hl 2 rfl) ?_
                refine lv_iload hx hb dX10_minotaurIt_114 (lv_at hl 0 rfl) ?_
                refine lv_if_eq (tgt := 123) hx hb dX10_minotaurIt_116 (by decide) (fun c33 => ?_) (fun c33 => ?_)
                · have ho := ip_ c33 ho
                  refine lv_iconst (v := 0) hx hb dX10_minotaurIt_123 (by decide) ?_
                  refine lv_iadd hx hb dX10_minotaurIt_124 ?_
                  obtain ⟨x34, ex34, ho⟩ := lt_ ho
                  refine lv_nm ex34 ?_
                  refine lv_istore_n (lv' := [(2, .int x34), (4, .int q13), (3, .int v9), (0, .ref (G.2.2 198)), (1, .int a0)]) hx hb dX10_minotaurIt_125 rfl hl (by decide) rfl (fun ls hl => ?_)
                  obtain ⟨x35, ex35, ho⟩ := lt_ ho
                  refine lv_iinc (v := x35) (lv' := [(3, .int x35), (2, .int x34), (4, .int q13), (0, .ref (G.2.2 198)), (1, .int a0)]) hx hb dX10_minotaurIt_126 hl (k := 2) rfl (by rw [ex35]; rfl) (by decide) rfl (fun ls hl => ?_)
                  refine lv_goto (tgt := 49) hx hb dX10_minotaurIt_129 (by decide) ?_
                  exact ih _ _ _ _ _ _ ho B (lv_sub hl [0, 1, 3, 4] rfl)
                · have ho := in_ c33 ho
                  refine lv_iconst (v := 1) hx hb dX10_minotaurIt_119 (by decide) ?_
                  refine lv_goto (tgt := 124) hx hb dX10_minotaurIt_120 (by decide) ?_
                  refine lv_iadd hx hb dX10_minotaurIt_124 ?_
                  obtain ⟨x36, ex36, ho⟩ := lt_ ho
                  refine lv_nm ex36 ?_
                  refine lv_istore_n (lv' := [(2, .int x36), (4, .int q13), (3, .int v9), (0, .ref (G.2.2 198)), (1, .int a0)]) hx hb dX10_minotaurIt_125 rfl hl (by decide) rfl (fun ls hl => ?_)
                  obtain ⟨x37, ex37, ho⟩ := lt_ ho
                  refine lv_iinc (v := x37) (lv' := [(3, .int x37), (2, .int x36), (4, .int q13), (0, .ref (G.2.2 198)), (1, .int a0)]) hx hb dX10_minotaurIt_126 hl (k := 2) rfl (by rw [ex37]; rfl) (by decide) rfl (fun ls hl => ?_)
                  refine lv_goto (tgt := 49) hx hb dX10_minotaurIt_129 (by decide) ?_
                  exact ih _ _ _ _ _ _ ho B (lv_sub hl [0, 1, 3, 4] rfl)
      exact hloop49 8 _ _ _ _ _ _ ho B hl
    · have ho := ip_ c3 ho
      refine lv_aload_n hx hb dX10_minotaurIt_31 rfl (lv_at hl 0 rfl) ?_
      refine lv_iconst (v := 3) hx hb dX10_minotaurIt_32 (by decide) ?_
      refine lv_iload_n hx hb dX10_minotaurIt_33 rfl (lv_at hl 1 rfl) ?_
      obtain ⟨q38, σ39, hq38, ho⟩ := bnm_ ho
      refine k_iV (As := [.int 3, .int a0]) (rest := []) S F B (c_X10_refuse l G σ _ 3 a0 hq38) (kq (by decide) : kd 198 = 21 ∧ 198 < NN) rfl rfl (cwV 2 hts gX10_minotaurIt_X10_refuse rfl rfl rfl (by decide +kernel) ⟨Nat.le_of_ble_eq_true rfl, Nat.le_of_ble_eq_true rfl⟩) rfl hl.1 rfl (Nat.le_of_ble_eq_true rfl) dX10_minotaurIt_34 ⟨Nat.le_of_ble_eq_true rfl, Nat.le_of_ble_eq_true rfl⟩ (fun H locs B => ?_)
      cases ho
      exact e_i B hx hb hr hlocks rfl rfl dX10_minotaurIt_37
  · have ho := ip_ c2 ho
    refine lv_aload_n hx hb dX10_minotaurIt_14 rfl (lv_at hl 0 rfl) ?_
    refine lv_iconst (v := 1) hx hb dX10_minotaurIt_15 (by decide) ?_
    refine lv_iconst (v := 0) hx hb dX10_minotaurIt_16 (by decide) ?_
    obtain ⟨q40, σ41, hq40, ho⟩ := bnm_ ho
    refine k_iV (As := [.int 1, .int 0]) (rest := []) S F B (c_X10_refuse l G σ _ 1 0 hq40) (kq (by decide) : kd 198 = 21 ∧ 198 < NN) rfl rfl (cwV 2 hts gX10_minotaurIt_X10_refuse rfl rfl rfl (by decide +kernel) ⟨Nat.le_of_ble_eq_true rfl, Nat.le_of_ble_eq_true rfl⟩) rfl hl.1 rfl (Nat.le_of_ble_eq_true rfl) dX10_minotaurIt_17 ⟨Nat.le_of_ble_eq_true rfl, Nat.le_of_ble_eq_true rfl⟩ (fun H locs B => ?_)
    cases ho
    exact e_i B hx hb hr hlocks rfl rfl dX10_minotaurIt_20

set_option maxHeartbeats 4000000 in
set_option maxRecDepth 100000 in
theorem c_X10_minotaur (l : Launch) (G : Gd) (σ : Mm) (sz : Nat) (a0 : Int32) {out : Int32 × Mm} (ho : f_X10_minotaur a0 σ = some out) : Met l yX10_minotaur wsX10_minotaur { frames := 3, cells := 0, slots := 0, locals := 67 } (va_Pc [.ref (G.2.2 198), .int a0] (PW G σ sz)) (Qi G sz out.1 out.2) 0 0 (AA G sz) := by
  refine Met.ofW (cc := cX10_minotaur) (maxL := 2) (ret := (some .int)) (by decide) rfl ?_
  intro p e s m args below meth c s₁ B0 hml hv
  obtain ⟨rfl, hpw⟩ := hv
  have hsz := hpw.1
  subst hsz
  obtain ⟨F, B⟩ := hpw.to
  have hx := B0.exec
  have hb := B0.bytes
  have hr := B0.returns
  have hts := atoms_spec (ws := wsX10_minotaur) B0.pre
  have hown : s.vm.findClass RX10 = some m.cls := findClass_of_methodNamed B0.named
  have hlocks := B0.notSynchronized
  have S : CallFix p m c cX10_minotaur 2 s _ wsX10_minotaur RX10 := ⟨hx, hb, hml, hown, hts⟩
  have hl := lv_entry [.ref (G.2.2 198), .int a0] (n := 2) (Nat.le_of_ble_eq_true rfl)
  rw [lg_entry_eq]
  generalize (lg_sl [.ref (G.2.2 198), .int a0] ++ List.replicate (2 - (lg_sl [.ref (G.2.2 198), .int a0]).length) Slot.unset).toArray = ls at hl ⊢
  have hl : lv_has ls 2 [(0, .ref (G.2.2 198)), (1, .int a0)] := hl
  unfold f_X10_minotaur at ho
  refine lv_aload_n hx hb dX10_minotaur_0 rfl (lv_at hl 0 rfl) ?_
  obtain ⟨σ2, hq1, ho⟩ := bnd_ ho
  refine k_vV (As := []) (rest := []) S F B (c_X10_starts l G σ _ hq1) (kq (by decide) : kd 198 = 21 ∧ 198 < NN) rfl rfl (cwV 0 hts gX10_minotaur_X10_starts rfl rfl rfl (by decide +kernel) ⟨Nat.le_of_ble_eq_true rfl, Nat.le_of_ble_eq_true rfl⟩) rfl hl.1 rfl (Nat.le_of_ble_eq_true rfl) dX10_minotaur_1 ⟨Nat.le_of_ble_eq_true rfl, Nat.le_of_ble_eq_true rfl⟩ (fun H locs B => ?_)
  refine lv_aload_n hx hb dX10_minotaur_4 rfl (lv_at hl 0 rfl) ?_
  refine lv_aload_n hx hb dX10_minotaur_5 rfl (lv_at hl 0 rfl) ?_
  refine lv_iload_n hx hb dX10_minotaur_6 rfl (lv_at hl 1 rfl) ?_
  obtain ⟨q3, σ4, hq3, ho⟩ := bnm_ ho
  refine k_iV (As := [.int a0]) (rest := [.ref (G.2.2 198)]) S F B (c_X10_minotaurIt l G σ2 _ a0 hq3) (kq (by decide) : kd 198 = 21 ∧ 198 < NN) rfl rfl (cwV 1 hts gX10_minotaur_X10_minotaurIt rfl rfl rfl (by decide +kernel) ⟨Nat.le_of_ble_eq_true rfl, Nat.le_of_ble_eq_true rfl⟩) rfl hl.1 rfl (Nat.le_of_ble_eq_true rfl) dX10_minotaur_7 ⟨Nat.le_of_ble_eq_true rfl, Nat.le_of_ble_eq_true rfl⟩ (fun H locs B => ?_)
  obtain ⟨q5, σ6, hq5, ho⟩ := bnm_ ho
  refine k_iV (As := [.int q3]) (rest := []) S F B (c_X10_changed l G σ4 _ q3 hq5) (kq (by decide) : kd 198 = 21 ∧ 198 < NN) rfl rfl (cwV 1 hts gX10_minotaur_X10_changed rfl rfl rfl (by decide +kernel) ⟨Nat.le_of_ble_eq_true rfl, Nat.le_of_ble_eq_true rfl⟩) rfl hl.1 rfl (Nat.le_of_ble_eq_true rfl) dX10_minotaur_10 ⟨Nat.le_of_ble_eq_true rfl, Nat.le_of_ble_eq_true rfl⟩ (fun H locs B => ?_)
  cases ho
  exact e_i B hx hb hr hlocks rfl rfl dX10_minotaur_13

set_option maxHeartbeats 4000000 in
set_option maxRecDepth 100000 in
theorem c_X10_gardenerIt (l : Launch) (G : Gd) (σ : Mm) (sz : Nat) (a0 : Int32) {out : Int32 × Mm} (ho : f_X10_gardenerIt a0 σ = some out) : Met l yX10_gardenerIt wsX10_gardenerIt { frames := 2, cells := 0, slots := 0, locals := 43 } (va_Pc [.ref (G.2.2 198), .int a0] (PW G σ sz)) (Qi G sz out.1 out.2) 0 0 (AA G sz) := by
  refine Met.ofW (cc := cX10_gardenerIt) (maxL := 2) (ret := (some .int)) (by decide) rfl ?_
  intro p e s m args below meth c s₁ B0 hml hv
  obtain ⟨rfl, hpw⟩ := hv
  have hsz := hpw.1
  subst hsz
  obtain ⟨F, B⟩ := hpw.to
  have hx := B0.exec
  have hb := B0.bytes
  have hr := B0.returns
  have hts := atoms_spec (ws := wsX10_gardenerIt) B0.pre
  have hown : s.vm.findClass RX10 = some m.cls := findClass_of_methodNamed B0.named
  have hlocks := B0.notSynchronized
  have S : CallFix p m c cX10_gardenerIt 2 s _ wsX10_gardenerIt RX10 := ⟨hx, hb, hml, hown, hts⟩
  have hiX10 : ∀ w ∈ u_ws RX10 TX10 21, w ∈ wsX10_gardenerIt := by decide +kernel
  have hl := lv_entry [.ref (G.2.2 198), .int a0] (n := 2) (Nat.le_of_ble_eq_true rfl)
  rw [lg_entry_eq]
  generalize (lg_sl [.ref (G.2.2 198), .int a0] ++ List.replicate (2 - (lg_sl [.ref (G.2.2 198), .int a0]).length) Slot.unset).toArray = ls at hl ⊢
  have hl : lv_has ls 2 [(0, .ref (G.2.2 198)), (1, .int a0)] := hl
  unfold f_X10_gardenerIt at ho
  refine lv_iload_n hx hb dX10_gardenerIt_0 rfl (lv_at hl 1 rfl) ?_
  refine lv_i2l hx hb dX10_gardenerIt_1 rfl ?_
  refine lv_lconst (v := 0) hx hb dX10_gardenerIt_2 (by decide) ?_
  refine lv_ldc2 (v := 99) hx hb hown (hts _ (by decide +kernel)) dX10_gardenerIt_3 ?_
  obtain ⟨q1, hq1, ho⟩ := bnd_ ho
  refine k_iS (As := [.long a0.toInt64, .long 0, .long 99]) (rest := []) S F B (c_X10_in l G σ _ a0.toInt64 0 99 hq1) (va_cwS 3 hts gX10_gardenerIt_X10_in rfl rfl rfl (by decide +kernel) ⟨Nat.le_of_ble_eq_true rfl, Nat.le_of_ble_eq_true rfl⟩) rfl hl.1 rfl (Nat.le_of_ble_eq_true rfl) dX10_gardenerIt_6 ⟨Nat.le_of_ble_eq_true rfl, Nat.le_of_ble_eq_true rfl⟩ (fun H locs B => ?_)
  refine lv_if_ne (tgt := 19) hx hb dX10_gardenerIt_9 (by decide) (fun c2 => ?_) (fun c2 => ?_)
  · have ho := in_ c2 ho
    refine lv_aload_n hx hb dX10_gardenerIt_19 rfl (lv_at hl 0 rfl) ?_
    refine r_get (ci := 14) (C := RX10) (T := TX10) (N := 21) S F B (kq (by decide) : kd 198 = 21 ∧ 198 < NN) rfl rfl hiX10 0 (by decide) (by decide +kernel) rfl dX10_gardenerIt_20 ?_
    refine lv_iconst (v := 0) hx hb dX10_gardenerIt_23 (by decide) ?_
    refine r_ialdc (j := 0) S F B (kq (by decide) : kd 199 = 22 ∧ 199 < NN) rfl (vpc (by decide)) (by decide) dX10_gardenerIt_24 ?_
    refine lv_iconst (v := 4) hx hb dX10_gardenerIt_25 (by decide) ?_
    refine lv_icmp_ne (tgt := 37) hx hb dX10_gardenerIt_26 (by decide) (fun c3 => ?_) (fun c3 => ?_)
    · have ho := in_ c3 ho
      refine lv_aload_n hx hb dX10_gardenerIt_37 rfl (lv_at hl 0 rfl) ?_
      refine r_get (ci := 14) (C := RX10) (T := TX10) (N := 21) S F B (kq (by decide) : kd 198 = 21 ∧ 198 < NN) rfl rfl hiX10 0 (by decide) (by decide +kernel) rfl dX10_gardenerIt_38 ?_
      refine lv_aload_n hx hb dX10_gardenerIt_41 rfl (lv_at hl 0 rfl) ?_
      refine r_get (ci := 14) (C := RX10) (T := TX10) (N := 21) S F B (kq (by decide) : kd 198 = 21 ∧ 198 < NN) rfl rfl hiX10 0 (by decide) (by decide +kernel) rfl dX10_gardenerIt_42 ?_
      refine lv_iconst (v := 0) hx hb dX10_gardenerIt_45 (by decide) ?_
      refine r_ialdc (j := 0) S F B (kq (by decide) : kd 199 = 22 ∧ 199 < NN) rfl (vpc (by decide)) (by decide) dX10_gardenerIt_46 ?_
      obtain ⟨q4, hq4, ho⟩ := bnd_ ho
      refine k_iS (As := [.int (σ 199 0)]) (rest := [.ref (G.2.2 199)]) S F B (c_X10_gardenerAt l G σ _ (σ 199 0) hq4) (va_cwS 1 hts gX10_gardenerIt_X10_gardenerAt rfl rfl rfl (by decide +kernel) ⟨Nat.le_of_ble_eq_true rfl, Nat.le_of_ble_eq_true rfl⟩) rfl hl.1 rfl (Nat.le_of_ble_eq_true rfl) dX10_gardenerIt_47 ⟨Nat.le_of_ble_eq_true rfl, Nat.le_of_ble_eq_true rfl⟩ (fun H locs B => ?_)
      refine lv_iload_n hx hb dX10_gardenerIt_50 rfl (lv_at hl 1 rfl) ?_
      obtain ⟨hi, ho⟩ := gd_ ho
      refine r_iast S F B (kq (by decide) : kd 199 = 22 ∧ 199 < NN) (fun _ => rfl) hi dX10_gardenerIt_51 (fun H locs B => ?_)
      obtain ⟨σ5, eσ5, ho⟩ := lt_ ho
      rw [← eσ5] at B
      refine lv_aload_n hx hb dX10_gardenerIt_52 rfl (lv_at hl 0 rfl) ?_
      refine r_get (ci := 14) (C := RX10) (T := TX10) (N := 21) S F B (kq (by decide) : kd 198 = 21 ∧ 198 < NN) rfl rfl hiX10 0 (by decide) (by decide +kernel) rfl dX10_gardenerIt_53 ?_
      refine lv_iconst (v := 4) hx hb dX10_gardenerIt_56 (by decide) ?_
      refine lv_dup2_11 hx hb dX10_gardenerIt_57 rfl rfl ?_
      refine r_ialdc (j := 4) S F B (kq (by decide) : kd 199 = 22 ∧ 199 < NN) rfl (vpc (by decide)) (by decide) dX10_gardenerIt_58 ?_
      refine lv_iload_n hx hb dX10_gardenerIt_59 rfl (lv_at hl 1 rfl) ?_
      refine lv_iadd hx hb dX10_gardenerIt_60 ?_
      refine r_iastc (j := 4) S F B (kq (by decide) : kd 199 = 22 ∧ 199 < NN) (fun _ => rfl) (vpc (by decide)) (by decide) dX10_gardenerIt_61 (fun H locs B => ?_)
      obtain ⟨σ6, eσ6, ho⟩ := lt_ ho
      rw [← eσ6] at B
      refine lv_aload_n hx hb dX10_gardenerIt_62 rfl (lv_at hl 0 rfl) ?_
      refine r_get (ci := 14) (C := RX10) (T := TX10) (N := 21) S F B (kq (by decide) : kd 198 = 21 ∧ 198 < NN) rfl rfl hiX10 0 (by decide) (by decide +kernel) rfl dX10_gardenerIt_63 ?_
      refine lv_iconst (v := 0) hx hb dX10_gardenerIt_66 (by decide) ?_
      refine lv_dup2_11 hx hb dX10_gardenerIt_67 rfl rfl ?_
      refine r_ialdc (j := 0) S F B (kq (by decide) : kd 199 = 22 ∧ 199 < NN) rfl (vpc (by decide)) (by decide) dX10_gardenerIt_68 ?_
      refine lv_iconst (v := 1) hx hb dX10_gardenerIt_69 (by decide) ?_
      refine lv_iadd hx hb dX10_gardenerIt_70 ?_
      refine r_iastc (j := 0) S F B (kq (by decide) : kd 199 = 22 ∧ 199 < NN) (fun _ => rfl) (vpc (by decide)) (by decide) dX10_gardenerIt_71 (fun H locs B => ?_)
      obtain ⟨σ7, eσ7, ho⟩ := lt_ ho
      rw [← eσ7] at B
      refine lv_aload_n hx hb dX10_gardenerIt_72 rfl (lv_at hl 0 rfl) ?_
      refine r_get (ci := 14) (C := RX10) (T := TX10) (N := 21) S F B (kq (by decide) : kd 198 = 21 ∧ 198 < NN) rfl rfl hiX10 0 (by decide) (by decide +kernel) rfl dX10_gardenerIt_73 ?_
      refine lv_iconst (v := 0) hx hb dX10_gardenerIt_76 (by decide) ?_
      refine r_ialdc (j := 0) S F B (kq (by decide) : kd 199 = 22 ∧ 199 < NN) rfl (vpc (by decide)) (by decide) dX10_gardenerIt_77 ?_
      refine lv_iconst (v := 1) hx hb dX10_gardenerIt_78 (by decide) ?_
      refine lv_isub hx hb dX10_gardenerIt_79 ?_
      cases ho
      exact e_i B hx hb hr hlocks rfl rfl dX10_gardenerIt_80
    · have ho := ip_ c3 ho
      refine lv_aload_n hx hb dX10_gardenerIt_29 rfl (lv_at hl 0 rfl) ?_
      refine lv_bipush (v := 13) hx hb dX10_gardenerIt_30 (by decide) ?_
      refine lv_iconst (v := 4) hx hb dX10_gardenerIt_32 (by decide) ?_
      obtain ⟨q8, σ9, hq8, ho⟩ := bnm_ ho
      refine k_iV (As := [.int 13, .int 4]) (rest := []) S F B (c_X10_refuse l G σ _ 13 4 hq8) (kq (by decide) : kd 198 = 21 ∧ 198 < NN) rfl rfl (cwV 2 hts gX10_gardenerIt_X10_refuse rfl rfl rfl (by decide +kernel) ⟨Nat.le_of_ble_eq_true rfl, Nat.le_of_ble_eq_true rfl⟩) rfl hl.1 rfl (Nat.le_of_ble_eq_true rfl) dX10_gardenerIt_33 ⟨Nat.le_of_ble_eq_true rfl, Nat.le_of_ble_eq_true rfl⟩ (fun H locs B => ?_)
      cases ho
      exact e_i B hx hb hr hlocks rfl rfl dX10_gardenerIt_36
  · have ho := ip_ c2 ho
    refine lv_aload_n hx hb dX10_gardenerIt_12 rfl (lv_at hl 0 rfl) ?_
    refine lv_iconst (v := 1) hx hb dX10_gardenerIt_13 (by decide) ?_
    refine lv_iconst (v := 0) hx hb dX10_gardenerIt_14 (by decide) ?_
    obtain ⟨q10, σ11, hq10, ho⟩ := bnm_ ho
    refine k_iV (As := [.int 1, .int 0]) (rest := []) S F B (c_X10_refuse l G σ _ 1 0 hq10) (kq (by decide) : kd 198 = 21 ∧ 198 < NN) rfl rfl (cwV 2 hts gX10_gardenerIt_X10_refuse rfl rfl rfl (by decide +kernel) ⟨Nat.le_of_ble_eq_true rfl, Nat.le_of_ble_eq_true rfl⟩) rfl hl.1 rfl (Nat.le_of_ble_eq_true rfl) dX10_gardenerIt_15 ⟨Nat.le_of_ble_eq_true rfl, Nat.le_of_ble_eq_true rfl⟩ (fun H locs B => ?_)
    cases ho
    exact e_i B hx hb hr hlocks rfl rfl dX10_gardenerIt_18

set_option maxHeartbeats 4000000 in
set_option maxRecDepth 100000 in
theorem c_X10_gardener (l : Launch) (G : Gd) (σ : Mm) (sz : Nat) (a0 : Int32) {out : Int32 × Mm} (ho : f_X10_gardener a0 σ = some out) : Met l yX10_gardener wsX10_gardener { frames := 3, cells := 0, slots := 0, locals := 64 } (va_Pc [.ref (G.2.2 198), .int a0] (PW G σ sz)) (Qi G sz out.1 out.2) 0 0 (AA G sz) := by
  refine Met.ofW (cc := cX10_gardener) (maxL := 2) (ret := (some .int)) (by decide) rfl ?_
  intro p e s m args below meth c s₁ B0 hml hv
  obtain ⟨rfl, hpw⟩ := hv
  have hsz := hpw.1
  subst hsz
  obtain ⟨F, B⟩ := hpw.to
  have hx := B0.exec
  have hb := B0.bytes
  have hr := B0.returns
  have hts := atoms_spec (ws := wsX10_gardener) B0.pre
  have hown : s.vm.findClass RX10 = some m.cls := findClass_of_methodNamed B0.named
  have hlocks := B0.notSynchronized
  have S : CallFix p m c cX10_gardener 2 s _ wsX10_gardener RX10 := ⟨hx, hb, hml, hown, hts⟩
  have hl := lv_entry [.ref (G.2.2 198), .int a0] (n := 2) (Nat.le_of_ble_eq_true rfl)
  rw [lg_entry_eq]
  generalize (lg_sl [.ref (G.2.2 198), .int a0] ++ List.replicate (2 - (lg_sl [.ref (G.2.2 198), .int a0]).length) Slot.unset).toArray = ls at hl ⊢
  have hl : lv_has ls 2 [(0, .ref (G.2.2 198)), (1, .int a0)] := hl
  unfold f_X10_gardener at ho
  refine lv_aload_n hx hb dX10_gardener_0 rfl (lv_at hl 0 rfl) ?_
  obtain ⟨σ2, hq1, ho⟩ := bnd_ ho
  refine k_vV (As := []) (rest := []) S F B (c_X10_starts l G σ _ hq1) (kq (by decide) : kd 198 = 21 ∧ 198 < NN) rfl rfl (cwV 0 hts gX10_gardener_X10_starts rfl rfl rfl (by decide +kernel) ⟨Nat.le_of_ble_eq_true rfl, Nat.le_of_ble_eq_true rfl⟩) rfl hl.1 rfl (Nat.le_of_ble_eq_true rfl) dX10_gardener_1 ⟨Nat.le_of_ble_eq_true rfl, Nat.le_of_ble_eq_true rfl⟩ (fun H locs B => ?_)
  refine lv_aload_n hx hb dX10_gardener_4 rfl (lv_at hl 0 rfl) ?_
  refine lv_aload_n hx hb dX10_gardener_5 rfl (lv_at hl 0 rfl) ?_
  refine lv_iload_n hx hb dX10_gardener_6 rfl (lv_at hl 1 rfl) ?_
  obtain ⟨q3, σ4, hq3, ho⟩ := bnm_ ho
  refine k_iV (As := [.int a0]) (rest := [.ref (G.2.2 198)]) S F B (c_X10_gardenerIt l G σ2 _ a0 hq3) (kq (by decide) : kd 198 = 21 ∧ 198 < NN) rfl rfl (cwV 1 hts gX10_gardener_X10_gardenerIt rfl rfl rfl (by decide +kernel) ⟨Nat.le_of_ble_eq_true rfl, Nat.le_of_ble_eq_true rfl⟩) rfl hl.1 rfl (Nat.le_of_ble_eq_true rfl) dX10_gardener_7 ⟨Nat.le_of_ble_eq_true rfl, Nat.le_of_ble_eq_true rfl⟩ (fun H locs B => ?_)
  obtain ⟨q5, σ6, hq5, ho⟩ := bnm_ ho
  refine k_iV (As := [.int q3]) (rest := []) S F B (c_X10_changed l G σ4 _ q3 hq5) (kq (by decide) : kd 198 = 21 ∧ 198 < NN) rfl rfl (cwV 1 hts gX10_gardener_X10_changed rfl rfl rfl (by decide +kernel) ⟨Nat.le_of_ble_eq_true rfl, Nat.le_of_ble_eq_true rfl⟩) rfl hl.1 rfl (Nat.le_of_ble_eq_true rfl) dX10_gardener_10 ⟨Nat.le_of_ble_eq_true rfl, Nat.le_of_ble_eq_true rfl⟩ (fun H locs B => ?_)
  cases ho
  exact e_i B hx hb hr hlocks rfl rfl dX10_gardener_13

set_option maxHeartbeats 4000000 in
set_option maxRecDepth 100000 in
theorem c_X10_visitorIt (l : Launch) (G : Gd) (σ : Mm) (sz : Nat) (a0 : Int32) {out : Int32 × Mm} (ho : f_X10_visitorIt a0 σ = some out) : Met l yX10_visitorIt wsX10_visitorIt { frames := 4, cells := 0, slots := 0, locals := 106 } (va_Pc [.ref (G.2.2 198), .int a0] (PW G σ sz)) (Qi G sz out.1 out.2) 0 0 (AA G sz) := by
  refine Met.ofW (cc := cX10_visitorIt) (maxL := 4) (ret := (some .int)) (by decide) rfl ?_
  intro p e s m args below meth c s₁ B0 hml hv
  obtain ⟨rfl, hpw⟩ := hv
  have hsz := hpw.1
  subst hsz
  obtain ⟨F, B⟩ := hpw.to
  have hx := B0.exec
  have hb := B0.bytes
  have hr := B0.returns
  have hts := atoms_spec (ws := wsX10_visitorIt) B0.pre
  have hown : s.vm.findClass RX10 = some m.cls := findClass_of_methodNamed B0.named
  have hlocks := B0.notSynchronized
  have S : CallFix p m c cX10_visitorIt 4 s _ wsX10_visitorIt RX10 := ⟨hx, hb, hml, hown, hts⟩
  have hiX10 : ∀ w ∈ u_ws RX10 TX10 21, w ∈ wsX10_visitorIt := by decide +kernel
  have hl := lv_entry [.ref (G.2.2 198), .int a0] (n := 4) (Nat.le_of_ble_eq_true rfl)
  rw [lg_entry_eq]
  generalize (lg_sl [.ref (G.2.2 198), .int a0] ++ List.replicate (4 - (lg_sl [.ref (G.2.2 198), .int a0]).length) Slot.unset).toArray = ls at hl ⊢
  have hl : lv_has ls 4 [(0, .ref (G.2.2 198)), (1, .int a0)] := hl
  unfold f_X10_visitorIt at ho
  refine lv_iload_n hx hb dX10_visitorIt_0 rfl (lv_at hl 1 rfl) ?_
  refine lv_i2l hx hb dX10_visitorIt_1 rfl ?_
  refine lv_lconst (v := 0) hx hb dX10_visitorIt_2 (by decide) ?_
  refine lv_ldc2 (v := 99) hx hb hown (hts _ (by decide +kernel)) dX10_visitorIt_3 ?_
  obtain ⟨q1, hq1, ho⟩ := bnd_ ho
  refine k_iS (As := [.long a0.toInt64, .long 0, .long 99]) (rest := []) S F B (c_X10_in l G σ _ a0.toInt64 0 99 hq1) (va_cwS 3 hts gX10_visitorIt_X10_in rfl rfl rfl (by decide +kernel) ⟨Nat.le_of_ble_eq_true rfl, Nat.le_of_ble_eq_true rfl⟩) rfl hl.1 rfl (Nat.le_of_ble_eq_true rfl) dX10_visitorIt_6 ⟨Nat.le_of_ble_eq_true rfl, Nat.le_of_ble_eq_true rfl⟩ (fun H locs B => ?_)
  refine lv_if_ne (tgt := 19) hx hb dX10_visitorIt_9 (by decide) (fun c2 => ?_) (fun c2 => ?_)
  · have ho := in_ c2 ho
    refine lv_aload_n hx hb dX10_visitorIt_19 rfl (lv_at hl 0 rfl) ?_
    refine r_get (ci := 14) (C := RX10) (T := TX10) (N := 21) S F B (kq (by decide) : kd 198 = 21 ∧ 198 < NN) rfl rfl hiX10 0 (by decide) (by decide +kernel) rfl dX10_visitorIt_20 ?_
    refine lv_iconst (v := 1) hx hb dX10_visitorIt_23 (by decide) ?_
    refine r_ialdc (j := 1) S F B (kq (by decide) : kd 199 = 22 ∧ 199 < NN) rfl (vpc (by decide)) (by decide) dX10_visitorIt_24 ?_
    refine lv_iconst (v := 5) hx hb dX10_visitorIt_25 (by decide) ?_
    refine lv_icmp_ne (tgt := 37) hx hb dX10_visitorIt_26 (by decide) (fun c3 => ?_) (fun c3 => ?_)
    · have ho := in_ c3 ho
      refine lv_aload_n hx hb dX10_visitorIt_37 rfl (lv_at hl 0 rfl) ?_
      refine lv_iconst (v := 0) hx hb dX10_visitorIt_38 (by decide) ?_
      refine lv_bipush (v := 15) hx hb dX10_visitorIt_39 (by decide) ?_
      obtain ⟨q4, σ5, hq4, ho⟩ := bnm_ ho
      refine k_iV (As := [.int 0, .int 15]) (rest := []) S F B (c_X10_hoursOf l G σ _ 0 15 hq4) (kq (by decide) : kd 198 = 21 ∧ 198 < NN) rfl rfl (cwV 2 hts gX10_visitorIt_X10_hoursOf rfl rfl rfl (by decide +kernel) ⟨Nat.le_of_ble_eq_true rfl, Nat.le_of_ble_eq_true rfl⟩) rfl hl.1 rfl (Nat.le_of_ble_eq_true rfl) dX10_visitorIt_41 ⟨Nat.le_of_ble_eq_true rfl, Nat.le_of_ble_eq_true rfl⟩ (fun H locs B => ?_)
      refine lv_istore_n (lv' := [(2, .int q4), (0, .ref (G.2.2 198)), (1, .int a0)]) hx hb dX10_visitorIt_44 rfl hl (by decide) rfl (fun ls hl => ?_)
      refine lv_iload_n hx hb dX10_visitorIt_45 rfl (lv_at hl 0 rfl) ?_
      refine lv_iconst (v := (-1)) hx hb dX10_visitorIt_46 (by decide) ?_
      refine lv_icmp_ne (tgt := 65) hx hb dX10_visitorIt_47 (by decide) (fun c6 => ?_) (fun c6 => ?_)
      · have ho := in_ c6 ho
        refine lv_aload_n hx hb dX10_visitorIt_65 rfl (lv_at hl 1 rfl) ?_
        refine r_get (ci := 14) (C := RX10) (T := TX10) (N := 21) S F B (kq (by decide) : kd 198 = 21 ∧ 198 < NN) rfl rfl hiX10 0 (by decide) (by decide +kernel) rfl dX10_visitorIt_66 ?_
        refine lv_iconst (v := 1) hx hb dX10_visitorIt_69 (by decide) ?_
        refine r_ialdc (j := 1) S F B (kq (by decide) : kd 199 = 22 ∧ 199 < NN) rfl (vpc (by decide)) (by decide) dX10_visitorIt_70 ?_
        obtain ⟨q7, hq7, ho⟩ := bnd_ ho
        refine k_iS (As := [.int (σ5 199 1)]) (rest := []) S F B (c_X10_visitorAt l G σ5 _ (σ5 199 1) hq7) (va_cwS 1 hts gX10_visitorIt_X10_visitorAt rfl rfl rfl (by decide +kernel) ⟨Nat.le_of_ble_eq_true rfl, Nat.le_of_ble_eq_true rfl⟩) rfl hl.1 rfl (Nat.le_of_ble_eq_true rfl) dX10_visitorIt_71 ⟨Nat.le_of_ble_eq_true rfl, Nat.le_of_ble_eq_true rfl⟩ (fun H locs B => ?_)
        refine lv_istore_n (lv' := [(3, .int q7), (2, .int q4), (0, .ref (G.2.2 198)), (1, .int a0)]) hx hb dX10_visitorIt_74 rfl hl (by decide) rfl (fun ls hl => ?_)
        refine lv_aload_n hx hb dX10_visitorIt_75 rfl (lv_at hl 2 rfl) ?_
        refine r_get (ci := 14) (C := RX10) (T := TX10) (N := 21) S F B (kq (by decide) : kd 198 = 21 ∧ 198 < NN) rfl rfl hiX10 0 (by decide) (by decide +kernel) rfl dX10_visitorIt_76 ?_
        refine lv_iload_n hx hb dX10_visitorIt_79 rfl (lv_at hl 0 rfl) ?_
        refine lv_iload_n hx hb dX10_visitorIt_80 rfl (lv_at hl 3 rfl) ?_
        obtain ⟨hi, ho⟩ := gd_ ho
        refine r_iast S F B (kq (by decide) : kd 199 = 22 ∧ 199 < NN) (fun _ => rfl) hi dX10_visitorIt_81 (fun H locs B => ?_)
        obtain ⟨σ8, eσ8, ho⟩ := lt_ ho
        rw [← eσ8] at B
        refine lv_aload_n hx hb dX10_visitorIt_82 rfl (lv_at hl 2 rfl) ?_
        refine r_get (ci := 14) (C := RX10) (T := TX10) (N := 21) S F B (kq (by decide) : kd 198 = 21 ∧ 198 < NN) rfl rfl hiX10 0 (by decide) (by decide +kernel) rfl dX10_visitorIt_83 ?_
        refine lv_iload_n hx hb dX10_visitorIt_86 rfl (lv_at hl 0 rfl) ?_
        refine lv_iconst (v := 3) hx hb dX10_visitorIt_87 (by decide) ?_
        refine lv_iadd hx hb dX10_visitorIt_88 ?_
        refine lv_iload_n hx hb dX10_visitorIt_89 rfl (lv_at hl 1 rfl) ?_
        obtain ⟨hi, ho⟩ := gd_ ho
        refine r_iast S F B (kq (by decide) : kd 199 = 22 ∧ 199 < NN) (fun _ => rfl) hi dX10_visitorIt_90 (fun H locs B => ?_)
        obtain ⟨σ9, eσ9, ho⟩ := lt_ ho
        rw [← eσ9] at B
        refine lv_aload_n hx hb dX10_visitorIt_91 rfl (lv_at hl 2 rfl) ?_
        refine r_get (ci := 14) (C := RX10) (T := TX10) (N := 21) S F B (kq (by decide) : kd 198 = 21 ∧ 198 < NN) rfl rfl hiX10 0 (by decide) (by decide +kernel) rfl dX10_visitorIt_92 ?_
        refine lv_iload_n hx hb dX10_visitorIt_95 rfl (lv_at hl 0 rfl) ?_
        refine lv_iconst (v := 4) hx hb dX10_visitorIt_96 (by decide) ?_
        refine lv_iadd hx hb dX10_visitorIt_97 ?_
        refine lv_iconst (v := (-1)) hx hb dX10_visitorIt_98 (by decide) ?_
        obtain ⟨hi, ho⟩ := gd_ ho
        refine r_iast S F B (kq (by decide) : kd 199 = 22 ∧ 199 < NN) (fun _ => rfl) hi dX10_visitorIt_99 (fun H locs B => ?_)
        obtain ⟨σ10, eσ10, ho⟩ := lt_ ho
        rw [← eσ10] at B
        refine lv_aload_n hx hb dX10_visitorIt_100 rfl (lv_at hl 2 rfl) ?_
        refine r_get (ci := 14) (C := RX10) (T := TX10) (N := 21) S F B (kq (by decide) : kd 198 = 21 ∧ 198 < NN) rfl rfl hiX10 0 (by decide) (by decide +kernel) rfl dX10_visitorIt_101 ?_
        refine lv_iconst (v := 4) hx hb dX10_visitorIt_104 (by decide) ?_
        refine lv_dup2_11 hx hb dX10_visitorIt_105 rfl rfl ?_
        refine r_ialdc (j := 4) S F B (kq (by decide) : kd 199 = 22 ∧ 199 < NN) rfl (vpc (by decide)) (by decide) dX10_visitorIt_106 ?_
        refine lv_iload_n hx hb dX10_visitorIt_107 rfl (lv_at hl 3 rfl) ?_
        refine lv_iadd hx hb dX10_visitorIt_108 ?_
        refine r_iastc (j := 4) S F B (kq (by decide) : kd 199 = 22 ∧ 199 < NN) (fun _ => rfl) (vpc (by decide)) (by decide) dX10_visitorIt_109 (fun H locs B => ?_)
        obtain ⟨σ11, eσ11, ho⟩ := lt_ ho
        rw [← eσ11] at B
        refine lv_aload_n hx hb dX10_visitorIt_110 rfl (lv_at hl 2 rfl) ?_
        refine r_get (ci := 14) (C := RX10) (T := TX10) (N := 21) S F B (kq (by decide) : kd 198 = 21 ∧ 198 < NN) rfl rfl hiX10 0 (by decide) (by decide +kernel) rfl dX10_visitorIt_111 ?_
        refine lv_iconst (v := 1) hx hb dX10_visitorIt_114 (by decide) ?_
        refine lv_dup2_11 hx hb dX10_visitorIt_115 rfl rfl ?_
        refine r_ialdc (j := 1) S F B (kq (by decide) : kd 199 = 22 ∧ 199 < NN) rfl (vpc (by decide)) (by decide) dX10_visitorIt_116 ?_
        refine lv_iconst (v := 1) hx hb dX10_visitorIt_117 (by decide) ?_
        refine lv_iadd hx hb dX10_visitorIt_118 ?_
        refine r_iastc (j := 1) S F B (kq (by decide) : kd 199 = 22 ∧ 199 < NN) (fun _ => rfl) (vpc (by decide)) (by decide) dX10_visitorIt_119 (fun H locs B => ?_)
        obtain ⟨σ12, eσ12, ho⟩ := lt_ ho
        rw [← eσ12] at B
        refine lv_aload_n hx hb dX10_visitorIt_120 rfl (lv_at hl 2 rfl) ?_
        refine r_get (ci := 14) (C := RX10) (T := TX10) (N := 21) S F B (kq (by decide) : kd 198 = 21 ∧ 198 < NN) rfl rfl hiX10 0 (by decide) (by decide +kernel) rfl dX10_visitorIt_121 ?_
        refine lv_iconst (v := 1) hx hb dX10_visitorIt_124 (by decide) ?_
        refine r_ialdc (j := 1) S F B (kq (by decide) : kd 199 = 22 ∧ 199 < NN) rfl (vpc (by decide)) (by decide) dX10_visitorIt_125 ?_
        refine lv_iconst (v := 1) hx hb dX10_visitorIt_126 (by decide) ?_
        refine lv_isub hx hb dX10_visitorIt_127 ?_
        cases ho
        exact e_i B hx hb hr hlocks rfl rfl dX10_visitorIt_128
      · have ho := ip_ c6 ho
        refine lv_aload_n hx hb dX10_visitorIt_50 rfl (lv_at hl 1 rfl) ?_
        refine lv_bipush (v := 6) hx hb dX10_visitorIt_51 (by decide) ?_
        refine lv_aload_n hx hb dX10_visitorIt_53 rfl (lv_at hl 1 rfl) ?_
        refine lv_iconst (v := 0) hx hb dX10_visitorIt_54 (by decide) ?_
        obtain ⟨q13, σ14, hq13, ho⟩ := bnm_ ho
        refine k_iV (As := [.int 0]) (rest := [.int 6, .ref (G.2.2 198)]) S F B (c_X10_reachedFrom l G σ5 _ 0 hq13) (kq (by decide) : kd 198 = 21 ∧ 198 < NN) rfl rfl (cwV 1 hts gX10_visitorIt_X10_reachedFrom rfl rfl rfl (by decide +kernel) ⟨Nat.le_of_ble_eq_true rfl, Nat.le_of_ble_eq_true rfl⟩) rfl hl.1 rfl (Nat.le_of_ble_eq_true rfl) dX10_visitorIt_55 ⟨Nat.le_of_ble_eq_true rfl, Nat.le_of_ble_eq_true rfl⟩ (fun H locs B => ?_)
        obtain ⟨q15, hq15, ho⟩ := bnd_ ho
        refine k_iS (As := [.int q13]) (rest := [.int 6, .ref (G.2.2 198)]) S F B (c_X10_ones l G σ14 _ q13 hq15) (va_cwS 1 hts gX10_visitorIt_X10_ones rfl rfl rfl (by decide +kernel) ⟨Nat.le_of_ble_eq_true rfl, Nat.le_of_ble_eq_true rfl⟩) rfl hl.1 rfl (Nat.le_of_ble_eq_true rfl) dX10_visitorIt_58 ⟨Nat.le_of_ble_eq_true rfl, Nat.le_of_ble_eq_true rfl⟩ (fun H locs B => ?_)
        obtain ⟨q16, σ17, hq16, ho⟩ := bnm_ ho
        refine k_iV (As := [.int 6, .int q15]) (rest := []) S F B (c_X10_refuse l G σ14 _ 6 q15 hq16) (kq (by decide) : kd 198 = 21 ∧ 198 < NN) rfl rfl (cwV 2 hts gX10_visitorIt_X10_refuse rfl rfl rfl (by decide +kernel) ⟨Nat.le_of_ble_eq_true rfl, Nat.le_of_ble_eq_true rfl⟩) rfl hl.1 rfl (Nat.le_of_ble_eq_true rfl) dX10_visitorIt_61 ⟨Nat.le_of_ble_eq_true rfl, Nat.le_of_ble_eq_true rfl⟩ (fun H locs B => ?_)
        cases ho
        exact e_i B hx hb hr hlocks rfl rfl dX10_visitorIt_64
    · have ho := ip_ c3 ho
      refine lv_aload_n hx hb dX10_visitorIt_29 rfl (lv_at hl 0 rfl) ?_
      refine lv_bipush (v := 13) hx hb dX10_visitorIt_30 (by decide) ?_
      refine lv_iconst (v := 5) hx hb dX10_visitorIt_32 (by decide) ?_
      obtain ⟨q18, σ19, hq18, ho⟩ := bnm_ ho
      refine k_iV (As := [.int 13, .int 5]) (rest := []) S F B (c_X10_refuse l G σ _ 13 5 hq18) (kq (by decide) : kd 198 = 21 ∧ 198 < NN) rfl rfl (cwV 2 hts gX10_visitorIt_X10_refuse rfl rfl rfl (by decide +kernel) ⟨Nat.le_of_ble_eq_true rfl, Nat.le_of_ble_eq_true rfl⟩) rfl hl.1 rfl (Nat.le_of_ble_eq_true rfl) dX10_visitorIt_33 ⟨Nat.le_of_ble_eq_true rfl, Nat.le_of_ble_eq_true rfl⟩ (fun H locs B => ?_)
      cases ho
      exact e_i B hx hb hr hlocks rfl rfl dX10_visitorIt_36
  · have ho := ip_ c2 ho
    refine lv_aload_n hx hb dX10_visitorIt_12 rfl (lv_at hl 0 rfl) ?_
    refine lv_iconst (v := 1) hx hb dX10_visitorIt_13 (by decide) ?_
    refine lv_iconst (v := 0) hx hb dX10_visitorIt_14 (by decide) ?_
    obtain ⟨q20, σ21, hq20, ho⟩ := bnm_ ho
    refine k_iV (As := [.int 1, .int 0]) (rest := []) S F B (c_X10_refuse l G σ _ 1 0 hq20) (kq (by decide) : kd 198 = 21 ∧ 198 < NN) rfl rfl (cwV 2 hts gX10_visitorIt_X10_refuse rfl rfl rfl (by decide +kernel) ⟨Nat.le_of_ble_eq_true rfl, Nat.le_of_ble_eq_true rfl⟩) rfl hl.1 rfl (Nat.le_of_ble_eq_true rfl) dX10_visitorIt_15 ⟨Nat.le_of_ble_eq_true rfl, Nat.le_of_ble_eq_true rfl⟩ (fun H locs B => ?_)
    cases ho
    exact e_i B hx hb hr hlocks rfl rfl dX10_visitorIt_18

set_option maxHeartbeats 4000000 in
set_option maxRecDepth 100000 in
theorem c_X10_visitor (l : Launch) (G : Gd) (σ : Mm) (sz : Nat) (a0 : Int32) {out : Int32 × Mm} (ho : f_X10_visitor a0 σ = some out) : Met l yX10_visitor wsX10_visitor { frames := 5, cells := 0, slots := 0, locals := 129 } (va_Pc [.ref (G.2.2 198), .int a0] (PW G σ sz)) (Qi G sz out.1 out.2) 0 0 (AA G sz) := by
  refine Met.ofW (cc := cX10_visitor) (maxL := 2) (ret := (some .int)) (by decide) rfl ?_
  intro p e s m args below meth c s₁ B0 hml hv
  obtain ⟨rfl, hpw⟩ := hv
  have hsz := hpw.1
  subst hsz
  obtain ⟨F, B⟩ := hpw.to
  have hx := B0.exec
  have hb := B0.bytes
  have hr := B0.returns
  have hts := atoms_spec (ws := wsX10_visitor) B0.pre
  have hown : s.vm.findClass RX10 = some m.cls := findClass_of_methodNamed B0.named
  have hlocks := B0.notSynchronized
  have S : CallFix p m c cX10_visitor 2 s _ wsX10_visitor RX10 := ⟨hx, hb, hml, hown, hts⟩
  have hl := lv_entry [.ref (G.2.2 198), .int a0] (n := 2) (Nat.le_of_ble_eq_true rfl)
  rw [lg_entry_eq]
  generalize (lg_sl [.ref (G.2.2 198), .int a0] ++ List.replicate (2 - (lg_sl [.ref (G.2.2 198), .int a0]).length) Slot.unset).toArray = ls at hl ⊢
  have hl : lv_has ls 2 [(0, .ref (G.2.2 198)), (1, .int a0)] := hl
  unfold f_X10_visitor at ho
  refine lv_aload_n hx hb dX10_visitor_0 rfl (lv_at hl 0 rfl) ?_
  obtain ⟨σ2, hq1, ho⟩ := bnd_ ho
  refine k_vV (As := []) (rest := []) S F B (c_X10_starts l G σ _ hq1) (kq (by decide) : kd 198 = 21 ∧ 198 < NN) rfl rfl (cwV 0 hts gX10_visitor_X10_starts rfl rfl rfl (by decide +kernel) ⟨Nat.le_of_ble_eq_true rfl, Nat.le_of_ble_eq_true rfl⟩) rfl hl.1 rfl (Nat.le_of_ble_eq_true rfl) dX10_visitor_1 ⟨Nat.le_of_ble_eq_true rfl, Nat.le_of_ble_eq_true rfl⟩ (fun H locs B => ?_)
  refine lv_aload_n hx hb dX10_visitor_4 rfl (lv_at hl 0 rfl) ?_
  refine lv_aload_n hx hb dX10_visitor_5 rfl (lv_at hl 0 rfl) ?_
  refine lv_iload_n hx hb dX10_visitor_6 rfl (lv_at hl 1 rfl) ?_
  obtain ⟨q3, σ4, hq3, ho⟩ := bnm_ ho
  refine k_iV (As := [.int a0]) (rest := [.ref (G.2.2 198)]) S F B (c_X10_visitorIt l G σ2 _ a0 hq3) (kq (by decide) : kd 198 = 21 ∧ 198 < NN) rfl rfl (cwV 1 hts gX10_visitor_X10_visitorIt rfl rfl rfl (by decide +kernel) ⟨Nat.le_of_ble_eq_true rfl, Nat.le_of_ble_eq_true rfl⟩) rfl hl.1 rfl (Nat.le_of_ble_eq_true rfl) dX10_visitor_7 ⟨Nat.le_of_ble_eq_true rfl, Nat.le_of_ble_eq_true rfl⟩ (fun H locs B => ?_)
  obtain ⟨q5, σ6, hq5, ho⟩ := bnm_ ho
  refine k_iV (As := [.int q3]) (rest := []) S F B (c_X10_changed l G σ4 _ q3 hq5) (kq (by decide) : kd 198 = 21 ∧ 198 < NN) rfl rfl (cwV 1 hts gX10_visitor_X10_changed rfl rfl rfl (by decide +kernel) ⟨Nat.le_of_ble_eq_true rfl, Nat.le_of_ble_eq_true rfl⟩) rfl hl.1 rfl (Nat.le_of_ble_eq_true rfl) dX10_visitor_10 ⟨Nat.le_of_ble_eq_true rfl, Nat.le_of_ble_eq_true rfl⟩ (fun H locs B => ?_)
  cases ho
  exact e_i B hx hb hr hlocks rfl rfl dX10_visitor_13

