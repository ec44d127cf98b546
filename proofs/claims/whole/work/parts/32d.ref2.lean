set_option maxHeartbeats 4000000 in
set_option maxRecDepth 100000 in
theorem c_X10_richest (l : Launch) (G : Gd) (σ : Mm) (sz : Nat) (a0 : Int32) {out : Int32 × Mm} (ho : f_X10_richest a0 σ = some out) : Met l yX10_richest wsX10_richest { frames := 3, cells := 0, slots := 0, locals := 79 } (va_Pc [.ref (G.2.2 198), .int a0] (PW G σ sz)) (Qi G sz out.1 out.2) 0 0 (AA G sz) := by
  refine Met.ofW (cc := cX10_richest) (maxL := 7) (ret := (some .int)) (by decide) rfl ?_
  intro p e s m args below meth c s₁ B0 hml hv
  obtain ⟨rfl, hpw⟩ := hv
  have hsz := hpw.1
  subst hsz
  obtain ⟨F, B⟩ := hpw.to
  have hx := B0.exec
  have hb := B0.bytes
  have hr := B0.returns
  have hts := atoms_spec (ws := wsX10_richest) B0.pre
  have hown : s.vm.findClass RX10 = some m.cls := findClass_of_methodNamed B0.named
  have hlocks := B0.notSynchronized
  have S : CallFix p m c cX10_richest 7 s _ wsX10_richest RX10 := ⟨hx, hb, hml, hown, hts⟩
  have hiX10 : ∀ w ∈ u_ws RX10 TX10 21, w ∈ wsX10_richest := by decide +kernel
  have hl := lv_entry [.ref (G.2.2 198), .int a0] (n := 7) (Nat.le_of_ble_eq_true rfl)
  rw [lg_entry_eq]
  generalize (lg_sl [.ref (G.2.2 198), .int a0] ++ List.replicate (7 - (lg_sl [.ref (G.2.2 198), .int a0]).length) Slot.unset).toArray = ls at hl ⊢
  have hl : lv_has ls 7 [(0, .ref (G.2.2 198)), (1, .int a0)] := hl
  unfold f_X10_richest at ho
  skip
  refine lv_aload_n hx hb dX10_richest_0 rfl (lv_at hl 0 rfl) ?_
  refine lv_iconst (v := 0) hx hb dX10_richest_1 (by decide) ?_
  refine r_put (ci := 14) (C := RX10) (T := TX10) (N := 21) (ty := .int) S F B tyX10 tyX10_ok nmX10 (kq (by decide) : kd 198 = 21 ∧ 198 < NN) (fun _ => rfl) rfl hiX10 12 (by decide) (by decide +kernel) rfl rfl rfl rfl (fun _ => Nat.le_of_ble_eq_true rfl) (fun _ => rfl) dX10_richest_2 (fun H locs B => ?_)
  obtain ⟨σ1, eσ1, ho⟩ := lt_ ho
  rw [← eσ1] at B
  refine lv_iconst (v := 0) hx hb dX10_richest_5 (by decide) ?_
  refine lv_istore_n (lv' := [(2, .int 0), (0, .ref (G.2.2 198)), (1, .int a0)]) hx hb dX10_richest_6 rfl hl (by decide) rfl (fun ls hl => ?_)
  have hloop7 : ∀ (n : Nat) (v4 : Int32) (H : Heap) (locs : List Loc) (ls : Array Slot), f_X10_richest_l7  a0 σ1 n v4 = some out → Bd G σ1 s H locs → lv_has ls 7 [(2, .int v4), (0, .ref (G.2.2 198)), (1, .int a0)] → W p l e (headSpec wsX10_richest { frames := 3, cells := 0, slots := 0, locals := 79 }).room s m #[.ref (G.2.2 198), .int a0] below meth c H locs 0 0 (MQ below (Qi G s.heap.size out.1 out.2) #[.ref (G.2.2 198), .int a0] s 0 0 (AA G s.heap.size)) (F0 m 7 ls []) := by
    intro n
    induction n with
    | zero => intro v4 H locs ls ho B hl; cases ho
    | succ n ih =>
      intro v4 H locs ls ho B hl
      refine lv_iload_n hx hb dX10_richest_7 rfl (lv_at hl 0 rfl) ?_
      refine lv_aload_n hx hb dX10_richest_8 rfl (lv_at hl 1 rfl) ?_
      refine r_get (ci := 14) (C := RX10) (T := TX10) (N := 21) S F B (kq (by decide) : kd 198 = 21 ∧ 198 < NN) rfl rfl hiX10 0 (by decide) (by decide +kernel) rfl dX10_richest_9 ?_
      refine lv_iconst (v := 0) hx hb dX10_richest_12 (by decide) ?_
      refine r_ialdc (j := 0) S F B (kq (by decide) : kd 199 = 22 ∧ 199 < NN) rfl (vpc (by decide)) (by decide) dX10_richest_13 ?_
      refine lv_icmp_ge (tgt := 122) hx hb dX10_richest_14 (by decide) (fun c5 => ?_) (fun c5 => ?_)
      · have ho := ip_ c5 ho
        refine lv_aload_n hx hb dX10_richest_122 rfl (lv_at hl 1 rfl) ?_
        refine lv_iconst (v := 1) hx hb dX10_richest_123 (by decide) ?_
        obtain ⟨q6, σ7, hq6, ho⟩ := bnm_ ho
        refine k_iV (As := [.int 1]) (rest := []) S F B (c_X10_throwing l G σ1 _ 1 hq6) (kq (by decide) : kd 198 = 21 ∧ 198 < NN) rfl rfl (cwV 1 hts gX10_richest_X10_throwing rfl rfl rfl (by decide +kernel) ⟨Nat.le_of_ble_eq_true rfl, Nat.le_of_ble_eq_true rfl⟩) rfl hl.1 rfl (Nat.le_of_ble_eq_true rfl) dX10_richest_124 ⟨Nat.le_of_ble_eq_true rfl, Nat.le_of_ble_eq_true rfl⟩ (fun H locs B => ?_)
        cases ho
        exact e_i B hx hb hr hlocks rfl rfl dX10_richest_127
      · have ho := in_ c5 ho
        refine lv_iconst (v := 0) hx hb dX10_richest_17 (by decide) ?_
        refine lv_istore_n (lv' := [(3, .int 0), (2, .int v4), (0, .ref (G.2.2 198)), (1, .int a0)]) hx hb dX10_richest_18 rfl hl (by decide) rfl (fun ls hl => ?_)
        refine lv_iconst (v := 0) hx hb dX10_richest_19 (by decide) ?_
        refine lv_istore (lv' := [(4, .int 0), (3, .int 0), (2, .int v4), (0, .ref (G.2.2 198)), (1, .int a0)]) hx hb dX10_richest_20 hl (by decide) rfl (fun ls hl => ?_)
        obtain ⟨K, hK, ho⟩ := lt_ ho
        have hexit22 : ∀ (v8 : Int32) (v9 : Int32) (H : Heap) (locs : List Loc) (ls : Array Slot), K v8 v9 = some out → Bd G σ1 s H locs → lv_has ls 7 [(4, .int v8), (3, .int v9), (2, .int v4), (0, .ref (G.2.2 198)), (1, .int a0)] → W p l e (headSpec wsX10_richest { frames := 3, cells := 0, slots := 0, locals := 79 }).room s m #[.ref (G.2.2 198), .int a0] below meth c H locs 0 0 (MQ below (Qi G s.heap.size out.1 out.2) #[.ref (G.2.2 198), .int a0] s 0 0 (AA G s.heap.size)) (F0 m 109 ls []) := by
          intro v8 v9 H locs ls ho B hl
          subst hK
          refine lv_iload_n hx hb dX10_richest_109 rfl (lv_at hl 1 rfl) ?_
          refine lv_iload_n hx hb dX10_richest_110 rfl (lv_at hl 4 rfl) ?_
          refine lv_icmp_ne (tgt := 116) hx hb dX10_richest_111 (by decide) (fun c11 => ?_) (fun c11 => ?_)
          · have ho := in_ c11 ho
            obtain ⟨x12, ex12, ho⟩ := lt_ ho
            refine lv_iinc (v := x12) (lv' := [(2, .int x12), (4, .int v8), (3, .int v9), (0, .ref (G.2.2 198)), (1, .int a0)]) hx hb dX10_richest_116 hl (k := 2) rfl (by rw [ex12]; rfl) (by decide) rfl (fun ls hl => ?_)
            refine lv_goto (tgt := 7) hx hb dX10_richest_119 (by decide) ?_
            exact ih _  _ _ _ ho B (lv_sub hl [0, 3, 4] rfl)
          · have ho := ip_ c11 ho
            refine lv_iload_n hx hb dX10_richest_114 rfl (lv_at hl 2 rfl) ?_
            cases ho
            exact e_i B hx hb hr hlocks rfl rfl dX10_richest_115
        have hloop22 : ∀ (n : Nat) (v13 : Int32) (v14 : Int32) (H : Heap) (locs : List Loc) (ls : Array Slot), f_X10_richest_l22 K v4 a0 σ1 n v13 v14 = some out → Bd G σ1 s H locs → lv_has ls 7 [(4, .int v13), (3, .int v14), (2, .int v4), (0, .ref (G.2.2 198)), (1, .int a0)] → W p l e (headSpec wsX10_richest { frames := 3, cells := 0, slots := 0, locals := 79 }).room s m #[.ref (G.2.2 198), .int a0] below meth c H locs 0 0 (MQ below (Qi G s.heap.size out.1 out.2) #[.ref (G.2.2 198), .int a0] s 0 0 (AA G s.heap.size)) (F0 m 22 ls []) := by
          intro n
          induction n with
          | zero => intro v13 v14 H locs ls ho B hl; cases ho
          | succ n ih =>
            intro v13 v14 H locs ls ho B hl
            refine lv_iload hx hb dX10_richest_22 (lv_at hl 0 rfl) ?_
            refine lv_aload_n hx hb dX10_richest_24 rfl (lv_at hl 3 rfl) ?_
            refine r_get (ci := 14) (C := RX10) (T := TX10) (N := 21) S F B (kq (by decide) : kd 198 = 21 ∧ 198 < NN) rfl rfl hiX10 0 (by decide) (by decide +kernel) rfl dX10_richest_25 ?_
            refine lv_iconst (v := 0) hx hb dX10_richest_28 (by decide) ?_
            refine r_ialdc (j := 0) S F B (kq (by decide) : kd 199 = 22 ∧ 199 < NN) rfl (vpc (by decide)) (by decide) dX10_richest_29 ?_
            refine lv_icmp_ge (tgt := 109) hx hb dX10_richest_30 (by decide) (fun c15 => ?_) (fun c15 => ?_)
            · have ho := ip_ c15 ho
              exact hexit22 _ _  _ _ _ ho B (lv_sub hl [0, 1, 2, 3, 4] rfl)
            · have ho := in_ c15 ho
              refine lv_aload_n hx hb dX10_richest_33 rfl (lv_at hl 3 rfl) ?_
              refine r_get (ci := 14) (C := RX10) (T := TX10) (N := 21) S F B (kq (by decide) : kd 198 = 21 ∧ 198 < NN) rfl rfl hiX10 0 (by decide) (by decide +kernel) rfl dX10_richest_34 ?_
              refine lv_iload hx hb dX10_richest_37 (lv_at hl 0 rfl) ?_
              obtain ⟨q16, hq16, ho⟩ := bnd_ ho
              refine k_iS (As := [.int v13]) (rest := [.ref (G.2.2 199)]) S F B (c_X10_gardenerAt l G σ1 _ v13 hq16) (va_cwS 1 hts gX10_richest_X10_gardenerAt rfl rfl rfl (by decide +kernel) ⟨Nat.le_of_ble_eq_true rfl, Nat.le_of_ble_eq_true rfl⟩) rfl hl.1 rfl (Nat.le_of_ble_eq_true rfl) dX10_richest_39 ⟨Nat.le_of_ble_eq_true rfl, Nat.le_of_ble_eq_true rfl⟩ (fun H locs B => ?_)
              obtain ⟨hi, ho⟩ := gd_ ho
              refine r_iald S F B (kq (by decide) : kd 199 = 22 ∧ 199 < NN) rfl hi dX10_richest_42 ?_
              refine lv_aload_n hx hb dX10_richest_43 rfl (lv_at hl 3 rfl) ?_
              refine r_get (ci := 14) (C := RX10) (T := TX10) (N := 21) S F B (kq (by decide) : kd 198 = 21 ∧ 198 < NN) rfl rfl hiX10 0 (by decide) (by decide +kernel) rfl dX10_richest_44 ?_
              refine lv_iload_n hx hb dX10_richest_47 rfl (lv_at hl 2 rfl) ?_
              obtain ⟨q17, hq17, ho⟩ := bnd_ ho
              refine k_iS (As := [.int v4]) (rest := [.ref (G.2.2 199), .int (σ1 199 q16.toNatClampNeg)]) S F B (c_X10_gardenerAt l G σ1 _ v4 hq17) (va_cwS 1 hts gX10_richest_X10_gardenerAt rfl rfl rfl (by decide +kernel) ⟨Nat.le_of_ble_eq_true rfl, Nat.le_of_ble_eq_true rfl⟩) rfl hl.1 rfl (Nat.le_of_ble_eq_true rfl) dX10_richest_48 ⟨Nat.le_of_ble_eq_true rfl, Nat.le_of_ble_eq_true rfl⟩ (fun H locs B => ?_)
              obtain ⟨hi, ho⟩ := gd_ ho
              refine r_iald S F B (kq (by decide) : kd 199 = 22 ∧ 199 < NN) rfl hi dX10_richest_51 ?_
              refine lv_isub hx hb dX10_richest_52 ?_
              obtain ⟨x18, ex18, ho⟩ := lt_ ho
              refine lv_nm ex18 ?_
              refine lv_istore (lv' := [(5, .int x18), (4, .int v13), (3, .int v14), (2, .int v4), (0, .ref (G.2.2 198)), (1, .int a0)]) hx hb dX10_richest_53 hl (by decide) rfl (fun ls hl => ?_)
              refine lv_iload hx hb dX10_richest_55 (lv_at hl 0 rfl) ?_
              refine lv_if_ne (tgt := 75) hx hb dX10_richest_57 (by decide) (fun c19 => ?_) (fun c19 => ?_)
              · have ho := in_ c19 ho
                refine lv_iload hx hb dX10_richest_75 (lv_at hl 0 rfl) ?_
                refine lv_istore (lv' := [(6, .int x18), (5, .int x18), (4, .int v13), (3, .int v14), (2, .int v4), (0, .ref (G.2.2 198)), (1, .int a0)]) hx hb dX10_richest_77 hl (by decide) rfl (fun ls hl => ?_)
                refine lv_iload_n hx hb dX10_richest_79 rfl (lv_at hl 3 rfl) ?_
                refine lv_iload hx hb dX10_richest_80 (lv_at hl 0 rfl) ?_
                refine lv_if_gt (tgt := 96) hx hb dX10_richest_82 (by decide) (fun c20 => ?_) (fun c20 => ?_)
                · have ho := ip_ c20 ho
                  refine lv_iconst (v := 1) hx hb dX10_richest_96 (by decide) ?_
                  refine lv_goto (tgt := 101) hx hb dX10_richest_97 (by decide) ?_
                  refine lv_iadd hx hb dX10_richest_101 ?_
                  obtain ⟨x21, ex21, ho⟩ := lt_ ho
                  refine lv_nm ex21 ?_
                  refine lv_istore_n (lv' := [(3, .int x21), (6, .int x18), (5, .int x18), (4, .int v13), (2, .int v4), (0, .ref (G.2.2 198)), (1, .int a0)]) hx hb dX10_richest_102 rfl hl (by decide) rfl (fun ls hl => ?_)
                  obtain ⟨x22, ex22, ho⟩ := lt_ ho
                  refine lv_iinc (v := x22) (lv' := [(4, .int x22), (3, .int x21), (6, .int x18), (5, .int x18), (2, .int v4), (0, .ref (G.2.2 198)), (1, .int a0)]) hx hb dX10_richest_103 hl (k := 3) rfl (by rw [ex22]; rfl) (by decide) rfl (fun ls hl => ?_)
                  refine lv_goto (tgt := 22) hx hb dX10_richest_106 (by decide) ?_
                  exact ih _ _  _ _ _ ho B (lv_sub hl [0, 1, 4, 5, 6] rfl)
                · have ho := in_ c20 ho
                  refine lv_iload hx hb dX10_richest_85 (lv_at hl 0 rfl) ?_
                  refine lv_if_ne (tgt := 100) hx hb dX10_richest_87 (by decide) (fun c23 => ?_) (fun c23 => ?_)
                  · have ho := in_ c23 ho
                    refine lv_iconst (v := 0) hx hb dX10_richest_100 (by decide) ?_
                    refine lv_iadd hx hb dX10_richest_101 ?_
                    obtain ⟨x24, ex24, ho⟩ := lt_ ho
                    refine lv_nm ex24 ?_
                    refine lv_istore_n (lv' := [(3, .int x24), (6, .int x18), (5, .int x18), (4, .int v13), (2, .int v4), (0, .ref (G.2.2 198)), (1, .int a0)]) hx hb dX10_richest_102 rfl hl (by decide) rfl (fun ls hl => ?_)
                    obtain ⟨x25, ex25, ho⟩ := lt_ ho
                    refine lv_iinc (v := x25) (lv' := [(4, .int x25), (3, .int x24), (6, .int x18), (5, .int x18), (2, .int v4), (0, .ref (G.2.2 198)), (1, .int a0)]) hx hb dX10_richest_103 hl (k := 3) rfl (by rw [ex25]; rfl) (by decide) rfl (fun ls hl => ?_)
                    refine lv_goto (tgt := 22) hx hb dX10_richest_106 (by decide) ?_
                    exact ih _ _  _ _ _ ho B (lv_sub hl [0, 1, 4, 5, 6] rfl)
                  · have ho := ip_ c23 ho
                    refine lv_iload hx hb dX10_richest_90 (lv_at hl 2 rfl) ?_
                    refine lv_iload_n hx hb dX10_richest_92 rfl (lv_at hl 4 rfl) ?_
                    refine lv_icmp_ge (tgt := 100) hx hb dX10_richest_93 (by decide) (fun c26 => ?_) (fun c26 => ?_)
                    · have ho := ip_ c26 ho
                      refine lv_iconst (v := 0) hx hb dX10_richest_100 (by decide) ?_
                      refine lv_iadd hx hb dX10_richest_101 ?_
                      obtain ⟨x27, ex27, ho⟩ := lt_ ho
                      refine lv_nm ex27 ?_
                      refine lv_istore_n (lv' := [(3, .int x27), (6, .int x18), (5, .int x18), (4, .int v13), (2, .int v4), (0, .ref (G.2.2 198)), (1, .int a0)]) hx hb dX10_richest_102 rfl hl (by decide) rfl (fun ls hl => ?_)
                      obtain ⟨x28, ex28, ho⟩ := lt_ ho
                      refine lv_iinc (v := x28) (lv' := [(4, .int x28), (3, .int x27), (6, .int x18), (5, .int x18), (2, .int v4), (0, .ref (G.2.2 198)), (1, .int a0)]) hx hb dX10_richest_103 hl (k := 3) rfl (by rw [ex28]; rfl) (by decide) rfl (fun ls hl => ?_)
                      refine lv_goto (tgt := 22) hx hb dX10_richest_106 (by decide) ?_
                      exact ih _ _  _ _ _ ho B (lv_sub hl [0, 1, 4, 5, 6] rfl)
                    · have ho := in_ c26 ho
                      refine lv_iconst (v := 1) hx hb dX10_richest_96 (by decide) ?_
                      refine lv_goto (tgt := 101) hx hb dX10_richest_97 (by decide) ?_
                      refine lv_iadd hx hb dX10_richest_101 ?_
                      obtain ⟨x29, ex29, ho⟩ := lt_ ho
                      refine lv_nm ex29 ?_
                      refine lv_istore_n (lv' := [(3, .int x29), (6, .int x18), (5, .int x18), (4, .int v13), (2, .int v4), (0, .ref (G.2.2 198)), (1, .int a0)]) hx hb dX10_richest_102 rfl hl (by decide) rfl (fun ls hl => ?_)
                      obtain ⟨x30, ex30, ho⟩ := lt_ ho
                      refine lv_iinc (v := x30) (lv' := [(4, .int x30), (3, .int x29), (6, .int x18), (5, .int x18), (2, .int v4), (0, .ref (G.2.2 198)), (1, .int a0)]) hx hb dX10_richest_103 hl (k := 3) rfl (by rw [ex30]; rfl) (by decide) rfl (fun ls hl => ?_)
                      refine lv_goto (tgt := 22) hx hb dX10_richest_106 (by decide) ?_
                      exact ih _ _  _ _ _ ho B (lv_sub hl [0, 1, 4, 5, 6] rfl)
              · have ho := ip_ c19 ho
                refine lv_aload_n hx hb dX10_richest_60 rfl (lv_at hl 4 rfl) ?_
                refine lv_iload_n hx hb dX10_richest_61 rfl (lv_at hl 3 rfl) ?_
                obtain ⟨q31, hq31, ho⟩ := bnd_ ho
                refine k_iV (As := [.int v4]) (rest := []) S F B (c_X10_owedBy l G σ1 _ v4 hq31) (kq (by decide) : kd 198 = 21 ∧ 198 < NN) rfl rfl (cwV 1 hts gX10_richest_X10_owedBy rfl rfl rfl (by decide +kernel) ⟨Nat.le_of_ble_eq_true rfl, Nat.le_of_ble_eq_true rfl⟩) rfl hl.1 rfl (Nat.le_of_ble_eq_true rfl) dX10_richest_62 ⟨Nat.le_of_ble_eq_true rfl, Nat.le_of_ble_eq_true rfl⟩ (fun H locs B => ?_)
                refine lv_aload_n hx hb dX10_richest_65 rfl (lv_at hl 4 rfl) ?_
                refine lv_iload hx hb dX10_richest_66 (lv_at hl 1 rfl) ?_
                obtain ⟨q32, hq32, ho⟩ := bnd_ ho
                refine k_iV (As := [.int v13]) (rest := [.int q31]) S F B (c_X10_owedBy l G σ1 _ v13 hq32) (kq (by decide) : kd 198 = 21 ∧ 198 < NN) rfl rfl (cwV 1 hts gX10_richest_X10_owedBy rfl rfl rfl (by decide +kernel) ⟨Nat.le_of_ble_eq_true rfl, Nat.le_of_ble_eq_true rfl⟩) rfl hl.1 rfl (Nat.le_of_ble_eq_true rfl) dX10_richest_68 ⟨Nat.le_of_ble_eq_true rfl, Nat.le_of_ble_eq_true rfl⟩ (fun H locs B => ?_)
                refine lv_isub hx hb dX10_richest_71 ?_
                refine lv_goto (tgt := 77) hx hb dX10_richest_72 (by decide) ?_
                obtain ⟨x33, ex33, ho⟩ := lt_ ho
                refine lv_nm ex33 ?_
                refine lv_istore (lv' := [(6, .int x33), (5, .int x18), (4, .int v13), (3, .int v14), (2, .int v4), (0, .ref (G.2.2 198)), (1, .int a0)]) hx hb dX10_richest_77 hl (by decide) rfl (fun ls hl => ?_)
                refine lv_iload_n hx hb dX10_richest_79 rfl (lv_at hl 3 rfl) ?_
                refine lv_iload hx hb dX10_richest_80 (lv_at hl 0 rfl) ?_
                refine lv_if_gt (tgt := 96) hx hb dX10_richest_82 (by decide) (fun c34 => ?_) (fun c34 => ?_)
                · have ho := ip_ c34 ho
                  refine lv_iconst (v := 1) hx hb dX10_richest_96 (by decide) ?_
                  refine lv_goto (tgt := 101) hx hb dX10_richest_97 (by decide) ?_
                  refine lv_iadd hx hb dX10_richest_101 ?_
                  obtain ⟨x35, ex35, ho⟩ := lt_ ho
                  refine lv_nm ex35 ?_
                  refine lv_istore_n (lv' := [(3, .int x35), (6, .int x33), (5, .int x18), (4, .int v13), (2, .int v4), (0, .ref (G.2.2 198)), (1, .int a0)]) hx hb dX10_richest_102 rfl hl (by decide) rfl (fun ls hl => ?_)
                  obtain ⟨x36, ex36, ho⟩ := lt_ ho
                  refine lv_iinc (v := x36) (lv' := [(4, .int x36), (3, .int x35), (6, .int x33), (5, .int x18), (2, .int v4), (0, .ref (G.2.2 198)), (1, .int a0)]) hx hb dX10_richest_103 hl (k := 3) rfl (by rw [ex36]; rfl) (by decide) rfl (fun ls hl => ?_)
                  refine lv_goto (tgt := 22) hx hb dX10_richest_106 (by decide) ?_
                  exact ih _ _  _ _ _ ho B (lv_sub hl [0, 1, 4, 5, 6] rfl)
                · have ho := in_ c34 ho
                  refine lv_iload hx hb dX10_richest_85 (lv_at hl 0 rfl) ?_
                  refine lv_if_ne (tgt := 100) hx hb dX10_richest_87 (by decide) (fun c37 => ?_) (fun c37 => ?_)
                  · have ho := in_ c37 ho
                    refine lv_iconst (v := 0) hx hb dX10_richest_100 (by decide) ?_
                    refine lv_iadd hx hb dX10_richest_101 ?_
                    obtain ⟨x38, ex38, ho⟩ := lt_ ho
                    refine lv_nm ex38 ?_
                    refine lv_istore_n (lv' := [(3, .int x38), (6, .int x33), (5, .int x18), (4, .int v13), (2, .int v4), (0, .ref (G.2.2 198)), (1, .int a0)]) hx hb dX10_richest_102 rfl hl (by decide) rfl (fun ls hl => ?_)
                    obtain ⟨x39, ex39, ho⟩ := lt_ ho
                    refine lv_iinc (v := x39) (lv' := [(4, .int x39), (3, .int x38), (6, .int x33), (5, .int x18), (2, .int v4), (0, .ref (G.2.2 198)), (1, .int a0)]) hx hb dX10_richest_103 hl (k := 3) rfl (by rw [ex39]; rfl) (by decide) rfl (fun ls hl => ?_)
                    refine lv_goto (tgt := 22) hx hb dX10_richest_106 (by decide) ?_
                    exact ih _ _  _ _ _ ho B (lv_sub hl [0, 1, 4, 5, 6] rfl)
                  · have ho := ip_ c37 ho
                    refine lv_iload hx hb dX10_richest_90 (lv_at hl 2 rfl) ?_
                    refine lv_iload_n hx hb dX10_richest_92 rfl (lv_at hl 4 rfl) ?_
                    refine lv_icmp_ge (tgt := 100) hx hb dX10_richest_93 (by decide) (fun c40 => ?_) (fun c40 => ?_)
                    · have ho := ip_ c40 ho
                      refine lv_iconst (v := 0) hx hb dX10_richest_100 (by decide) ?_
                      refine lv_iadd hx hb dX10_richest_101 ?_
                      obtain ⟨x41, ex41, ho⟩ := lt_ ho
                      refine lv_nm ex41 ?_
                      refine lv_istore_n (lv' := [(3, .int x41), (6, .int x33), (5, .int x18), (4, .int v13), (2, .int v4), (0, .ref (G.2.2 198)), (1, .int a0)]) hx hb dX10_richest_102 rfl hl (by decide) rfl (fun ls hl => ?_)
                      obtain ⟨x42, ex42, ho⟩ := lt_ ho
                      refine lv_iinc (v := x42) (lv' := [(4, .int x42), (3, .int x41), (6, .int x33), (5, .int x18), (2, .int v4), (0, .ref (G.2.2 198)), (1, .int a0)]) hx hb dX10_richest_103 hl (k := 3) rfl (by rw [ex42]; rfl) (by decide) rfl (fun ls hl => ?_)
                      refine lv_goto (tgt := 22) hx hb dX10_richest_106 (by decide) ?_
                      exact ih _ _  _ _ _ ho B (lv_sub hl [0, 1, 4, 5, 6] rfl)
                    · have ho := in_ c40 ho
                      refine lv_iconst (v := 1) hx hb dX10_richest_96 (by decide) ?_
                      refine lv_goto (tgt := 101) hx hb dX10_richest_97 (by decide) ?_
                      refine lv_iadd hx hb dX10_richest_101 ?_
                      obtain ⟨x43, ex43, ho⟩ := lt_ ho
                      refine lv_nm ex43 ?_
                      refine lv_istore_n (lv' := [(3, .int x43), (6, .int x33), (5, .int x18), (4, .int v13), (2, .int v4), (0, .ref (G.2.2 198)), (1, .int a0)]) hx hb dX10_richest_102 rfl hl (by decide) rfl (fun ls hl => ?_)
                      obtain ⟨x44, ex44, ho⟩ := lt_ ho
                      refine lv_iinc (v := x44) (lv' := [(4, .int x44), (3, .int x43), (6, .int x33), (5, .int x18), (2, .int v4), (0, .ref (G.2.2 198)), (1, .int a0)]) hx hb dX10_richest_103 hl (k := 3) rfl (by rw [ex44]; rfl) (by decide) rfl (fun ls hl => ?_)
                      refine lv_goto (tgt := 22) hx hb dX10_richest_106 (by decide) ?_
                      exact ih _ _  _ _ _ ho B (lv_sub hl [0, 1, 4, 5, 6] rfl)
        exact hloop22 8 _ _  _ _ _ ho B hl
  exact hloop7 8 _  _ _ _ ho B hl
