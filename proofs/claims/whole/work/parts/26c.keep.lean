set_option maxHeartbeats 4000000 in
set_option maxRecDepth 100000 in
theorem c_X3_moveVisitor (l : Launch) (G : Gd) (σ : Mm) (sz : Nat) (a0 : Int32) (a1 : Int32) {out : Int32 × Mm} (ho : f_X3_moveVisitor a0 a1 σ = some out) : Met l yX3_moveVisitor wsX3_moveVisitor { frames := 4, cells := 0, slots := 0, locals := 97 } (va_Pc [.ref (G.2.2 161), .int a0, .int a1] (PW G σ sz)) (Qi G sz out.1 out.2) 0 0 (AA G sz) := by
  refine Met.ofW (cc := cX3_moveVisitor) (maxL := 6) (ret := (some .int)) (by decide) rfl ?_
  intro p e s m args below meth c s₁ B0 hml hv
  obtain ⟨rfl, hpw⟩ := hv
  have hsz := hpw.1
  subst hsz
  obtain ⟨F, B⟩ := hpw.to
  have hx := B0.exec
  have hb := B0.bytes
  have hr := B0.returns
  have hts := atoms_spec (ws := wsX3_moveVisitor) B0.pre
  have hown : s.vm.findClass RX3 = some m.cls := findClass_of_methodNamed B0.named
  have hlocks := B0.notSynchronized
  have S : CallFix p m c cX3_moveVisitor 6 s _ wsX3_moveVisitor RX3 := ⟨hx, hb, hml, hown, hts⟩
  have hiX3 : ∀ w ∈ u_ws RX3 TX3 3, w ∈ wsX3_moveVisitor := by decide +kernel
  have hiX6 : ∀ w ∈ u_ws RX6 TX6 9, w ∈ wsX3_moveVisitor := by decide +kernel
  have hiX7 : ∀ w ∈ u_ws RX7 TX7 8, w ∈ wsX3_moveVisitor := by decide +kernel
  have hl := lv_entry [.ref (G.2.2 161), .int a0, .int a1] (n := 6) (Nat.le_of_ble_eq_true rfl)
  rw [lg_entry_eq]
  generalize (lg_sl [.ref (G.2.2 161), .int a0, .int a1] ++ List.replicate (6 - (lg_sl [.ref (G.2.2 161), .int a0, .int a1]).length) Slot.unset).toArray = ls at hl ⊢
  have hl : lv_has ls 6 [(0, .ref (G.2.2 161)), (1, .int a0), (2, .int a1)] := hl
  unfold f_X3_moveVisitor at ho
  refine lv_aload_n hx hb dX3_moveVisitor_0 rfl (lv_at hl 0 rfl) ?_
  refine r_get (ci := 7) (C := RX3) (T := TX3) (N := 3) S F B (kq (by decide) : kd 161 = 13 ∧ 161 < NN) rfl rfl hiX3 0 (by decide) (by decide +kernel) rfl dX3_moveVisitor_1 ?_
  refine lv_iload_n hx hb dX3_moveVisitor_4 rfl (lv_at hl 1 rfl) ?_
  obtain ⟨q1, hq1, ho⟩ := bnd_ ho
  refine k_qV (As := [.int a0]) (rest := []) S F B (c_X6_findVisitor l G σ _ a0 hq1) (kq (by decide) : kd 0 = 0 ∧ 0 < NN) rfl rfl (cwV 1 hts gX3_moveVisitor_X6_findVisitor rfl rfl rfl (by decide +kernel) ⟨Nat.le_of_ble_eq_true rfl, Nat.le_of_ble_eq_true rfl⟩) rfl hl.1 rfl (Nat.le_of_ble_eq_true rfl) dX3_moveVisitor_5 ⟨Nat.le_of_ble_eq_true rfl, Nat.le_of_ble_eq_true rfl⟩ (fun H locs B => ?_)
  cases q1 with
  | none =>
    have ho := oc_n ho
    refine lv_astore_nN (lv' := [(3, .null), (0, .ref (G.2.2 161)), (1, .int a0), (2, .int a1)]) hx hb dX3_moveVisitor_8 rfl hl (by decide) rfl (fun ls hl => ?_)
    refine lv_aload_nN hx hb dX3_moveVisitor_9 rfl (lv_at hl 0 rfl) ?_
    refine lv_ifnonnullN hx hb dX3_moveVisitor_10 ?_
    refine lv_aload_n hx hb dX3_moveVisitor_13 rfl (lv_at hl 1 rfl) ?_
    refine r_get (ci := 7) (C := RX3) (T := TX3) (N := 3) S F B (kq (by decide) : kd 161 = 13 ∧ 161 < NN) rfl rfl hiX3 2 (by decide) (by decide +kernel) rfl dX3_moveVisitor_14 ?_
    refine lv_bipush (v := 7) hx hb dX3_moveVisitor_17 (by decide) ?_
    refine lv_aload_n hx hb dX3_moveVisitor_19 rfl (lv_at hl 1 rfl) ?_
    refine r_get (ci := 7) (C := RX3) (T := TX3) (N := 3) S F B (kq (by decide) : kd 161 = 13 ∧ 161 < NN) rfl rfl hiX3 0 (by decide) (by decide +kernel) rfl dX3_moveVisitor_20 ?_
    refine r_getN (ci := 10) (C := RX6) (T := TX6) (N := 9) S F B (kq (by decide) : kd 0 = 0 ∧ 0 < NN) rfl rfl hiX6 4 (by decide) (by decide) rfl dX3_moveVisitor_23 ?_
    obtain ⟨q3, σ4, hq3, ho⟩ := bnm_ ho
    refine k_iV (As := [.int 7, .int (σ 0 4)]) (rest := []) S F B (c_X5_because l G σ _ 7 (σ 0 4) hq3) (kq (by decide) : kd 157 = 10 ∧ 157 < NN) rfl rfl (cwV 2 hts gX3_moveVisitor_X5_because rfl rfl rfl (by decide +kernel) ⟨Nat.le_of_ble_eq_true rfl, Nat.le_of_ble_eq_true rfl⟩) rfl hl.1 rfl (Nat.le_of_ble_eq_true rfl) dX3_moveVisitor_26 ⟨Nat.le_of_ble_eq_true rfl, Nat.le_of_ble_eq_true rfl⟩ (fun H locs B => ?_)
    cases ho
    exact e_i B hx hb hr hlocks rfl rfl dX3_moveVisitor_29
  | some j2 =>
    have ho := oc_s ho
    have hj2 : kd j2 = 6 ∧ j2 < NN := kf_vis hq1
    refine lv_astore_n (lv' := [(3, .ref (G.2.2 j2)), (0, .ref (G.2.2 161)), (1, .int a0), (2, .int a1)]) hx hb dX3_moveVisitor_8 rfl hl (by decide) rfl (fun ls hl => ?_)
    refine lv_aload_n hx hb dX3_moveVisitor_9 rfl (lv_at hl 0 rfl) ?_
    refine lv_ifnonnull (tgt := 30) hx hb dX3_moveVisitor_10 (by decide) ?_
    refine lv_iload_n hx hb dX3_moveVisitor_30 rfl (lv_at hl 3 rfl) ?_
    refine lv_if_lt (tgt := 39) hx hb dX3_moveVisitor_31 (by decide) (fun c5 => ?_) (fun c5 => ?_)
    · have ho := ip_ c5 ho
      refine lv_aload_n hx hb dX3_moveVisitor_39 rfl (lv_at hl 1 rfl) ?_
      refine r_get (ci := 7) (C := RX3) (T := TX3) (N := 3) S F B (kq (by decide) : kd 161 = 13 ∧ 161 < NN) rfl rfl hiX3 2 (by decide) (by decide +kernel) rfl dX3_moveVisitor_40 ?_
      refine lv_iconst (v := 1) hx hb dX3_moveVisitor_43 (by decide) ?_
      refine lv_iconst (v := 0) hx hb dX3_moveVisitor_44 (by decide) ?_
      obtain ⟨q6, σ7, hq6, ho⟩ := bnm_ ho
      refine k_iV (As := [.int 1, .int 0]) (rest := []) S F B (c_X5_because l G σ _ 1 0 hq6) (kq (by decide) : kd 157 = 10 ∧ 157 < NN) rfl rfl (cwV 2 hts gX3_moveVisitor_X5_because rfl rfl rfl (by decide +kernel) ⟨Nat.le_of_ble_eq_true rfl, Nat.le_of_ble_eq_true rfl⟩) rfl hl.1 rfl (Nat.le_of_ble_eq_true rfl) dX3_moveVisitor_45 ⟨Nat.le_of_ble_eq_true rfl, Nat.le_of_ble_eq_true rfl⟩ (fun H locs B => ?_)
      cases ho
      exact e_i B hx hb hr hlocks rfl rfl dX3_moveVisitor_48
    · have ho := in_ c5 ho
      refine lv_iload_n hx hb dX3_moveVisitor_34 rfl (lv_at hl 3 rfl) ?_
      refine lv_iconst (v := 3) hx hb dX3_moveVisitor_35 (by decide) ?_
      refine lv_icmp_le (tgt := 49) hx hb dX3_moveVisitor_36 (by decide) (fun c8 => ?_) (fun c8 => ?_)
      · have ho := ip_ c8 ho
        refine lv_aload_n hx hb dX3_moveVisitor_49 rfl (lv_at hl 0 rfl) ?_
        refine r_getN (ci := 11) (C := RX7) (T := TX7) (N := 8) S F B hj2 rfl rfl hiX7 7 (by decide) (by decide) rfl dX3_moveVisitor_50 ?_
        refine lv_if_eq (tgt := 70) hx hb dX3_moveVisitor_53 (by decide) (fun c9 => ?_) (fun c9 => ?_)
        · have ho := ip_ c9 ho
          refine lv_aload_n hx hb dX3_moveVisitor_70 rfl (lv_at hl 0 rfl) ?_
          refine r_getN (ci := 11) (C := RX7) (T := TX7) (N := 8) S F B hj2 rfl rfl hiX7 1 (by decide) (by decide) rfl dX3_moveVisitor_71 ?_
          refine lv_iload_n hx hb dX3_moveVisitor_74 rfl (lv_at hl 3 rfl) ?_
          obtain ⟨q10, hq10, ho⟩ := bnd_ ho
          refine k_iS (As := [.int (σ j2 1), .int a1]) (rest := []) S F B (c_X4_cellTowards l G σ _ (σ j2 1) a1 hq10) (va_cwS 2 hts gX3_moveVisitor_X4_cellTowards rfl rfl rfl (by decide +kernel) ⟨Nat.le_of_ble_eq_true rfl, Nat.le_of_ble_eq_true rfl⟩) rfl hl.1 rfl (Nat.le_of_ble_eq_true rfl) dX3_moveVisitor_75 ⟨Nat.le_of_ble_eq_true rfl, Nat.le_of_ble_eq_true rfl⟩ (fun H locs B => ?_)
          refine lv_istore (lv' := [(4, .int q10), (3, .ref (G.2.2 j2)), (0, .ref (G.2.2 161)), (1, .int a0), (2, .int a1)]) hx hb dX3_moveVisitor_78 hl (by decide) rfl (fun ls hl => ?_)
          refine lv_iload hx hb dX3_moveVisitor_80 (lv_at hl 0 rfl) ?_
          refine lv_iconst (v := (-1)) hx hb dX3_moveVisitor_82 (by decide) ?_
          refine lv_icmp_ne (tgt := 100) hx hb dX3_moveVisitor_83 (by decide) (fun c11 => ?_) (fun c11 => ?_)
          · have ho := in_ c11 ho
            refine lv_aload_n hx hb dX3_moveVisitor_100 rfl (lv_at hl 1 rfl) ?_
            refine r_getN (ci := 11) (C := RX7) (T := TX7) (N := 8) S F B hj2 rfl rfl hiX7 1 (by decide) (by decide) rfl dX3_moveVisitor_101 ?_
            refine lv_iload hx hb dX3_moveVisitor_104 (lv_at hl 0 rfl) ?_
            obtain ⟨q12, hq12, ho⟩ := bnd_ ho
            refine k_iS (As := [.int (σ j2 1), .int q10]) (rest := []) S F B (c_X4_hedgeBetween l G σ _ (σ j2 1) q10 hq12) (va_cwS 2 hts gX3_moveVisitor_X4_hedgeBetween rfl rfl rfl (by decide +kernel) ⟨Nat.le_of_ble_eq_true rfl, Nat.le_of_ble_eq_true rfl⟩) rfl hl.1 rfl (Nat.le_of_ble_eq_true rfl) dX3_moveVisitor_106 ⟨Nat.le_of_ble_eq_true rfl, Nat.le_of_ble_eq_true rfl⟩ (fun H locs B => ?_)
            refine lv_istore (lv' := [(5, .int q12), (4, .int q10), (3, .ref (G.2.2 j2)), (0, .ref (G.2.2 161)), (1, .int a0), (2, .int a1)]) hx hb dX3_moveVisitor_109 hl (by decide) rfl (fun ls hl => ?_)
            refine lv_aload_n hx hb dX3_moveVisitor_111 rfl (lv_at hl 3 rfl) ?_
            refine r_get (ci := 7) (C := RX3) (T := TX3) (N := 3) S F B (kq (by decide) : kd 161 = 13 ∧ 161 < NN) rfl rfl hiX3 0 (by decide) (by decide +kernel) rfl dX3_moveVisitor_112 ?_
            refine r_getN (ci := 10) (C := RX6) (T := TX6) (N := 9) S F B (kq (by decide) : kd 0 = 0 ∧ 0 < NN) rfl rfl hiX6 0 (by decide) (by decide) rfl dX3_moveVisitor_115 ?_
            refine lv_iload hx hb dX3_moveVisitor_118 (lv_at hl 0 rfl) ?_
            obtain ⟨q13, hq13, ho⟩ := bnd_ ho
            refine k_iV (As := [.int q12]) (rest := []) S F B (c_X4_isOpen l G σ _ q12 hq13) (kq (by decide) : kd 1 = 1 ∧ 1 < NN) rfl rfl (cwV 1 hts gX3_moveVisitor_X4_isOpen rfl rfl rfl (by decide +kernel) ⟨Nat.le_of_ble_eq_true rfl, Nat.le_of_ble_eq_true rfl⟩) rfl hl.1 rfl (Nat.le_of_ble_eq_true rfl) dX3_moveVisitor_120 ⟨Nat.le_of_ble_eq_true rfl, Nat.le_of_ble_eq_true rfl⟩ (fun H locs B => ?_)
            refine lv_if_ne (tgt := 148) hx hb dX3_moveVisitor_123 (by decide) (fun c14 => ?_) (fun c14 => ?_)
            · have ho := in_ c14 ho
              refine lv_aload_n hx hb dX3_moveVisitor_148 rfl (lv_at hl 2 rfl) ?_
              refine lv_iload hx hb dX3_moveVisitor_149 (lv_at hl 1 rfl) ?_
              refine r_putN (ci := 11) (C := RX7) (T := TX7) (N := 8) (ty := .int) S F B tyX7 tyX7_ok nmX7 hj2 (fun _ => rfl) rfl hiX7 1 (by decide) (by decide) rfl rfl rfl rfl (fun _ => Nat.le_of_ble_eq_true rfl) (fun _ => rfl) dX3_moveVisitor_151 (fun H locs B => ?_)
              obtain ⟨σ15, eσ15, ho⟩ := lt_ ho
              rw [← eσ15] at B
              refine lv_aload_n hx hb dX3_moveVisitor_154 rfl (lv_at hl 2 rfl) ?_
              refine lv_dup hx hb dX3_moveVisitor_155 rfl ?_
              refine r_getN (ci := 11) (C := RX7) (T := TX7) (N := 8) S F B hj2 rfl rfl hiX7 2 (by decide) (by decide) rfl dX3_moveVisitor_156 ?_
              refine lv_iconst (v := 1) hx hb dX3_moveVisitor_159 (by decide) ?_
              refine lv_iadd hx hb dX3_moveVisitor_160 ?_
              refine r_putN (ci := 11) (C := RX7) (T := TX7) (N := 8) (ty := .int) S F B tyX7 tyX7_ok nmX7 hj2 (fun _ => rfl) rfl hiX7 2 (by decide) (by decide) rfl rfl rfl rfl (fun _ => Nat.le_of_ble_eq_true rfl) (fun _ => rfl) dX3_moveVisitor_161 (fun H locs B => ?_)
              obtain ⟨σ16, eσ16, ho⟩ := lt_ ho
              rw [← eσ16] at B
              refine lv_aload_n hx hb dX3_moveVisitor_164 rfl (lv_at hl 3 rfl) ?_
              refine lv_aload_n hx hb dX3_moveVisitor_165 rfl (lv_at hl 2 rfl) ?_
              obtain ⟨σ18, hq17, ho⟩ := bnd_ ho
              refine k_vV (As := [.ref (G.2.2 j2)]) (rest := []) S F B (c_X3_meetIfThere l G σ16 _ j2 hj2 hq17) (kq (by decide) : kd 161 = 13 ∧ 161 < NN) rfl rfl (cwV 1 hts gX3_moveVisitor_X3_meetIfThere rfl rfl rfl (by decide +kernel) ⟨Nat.le_of_ble_eq_true rfl, Nat.le_of_ble_eq_true rfl⟩) rfl hl.1 rfl (Nat.le_of_ble_eq_true rfl) dX3_moveVisitor_166 ⟨Nat.le_of_ble_eq_true rfl, Nat.le_of_ble_eq_true rfl⟩ (fun H locs B => ?_)
              refine lv_iload hx hb dX3_moveVisitor_169 (lv_at hl 1 rfl) ?_
              refine lv_bipush (v := 15) hx hb dX3_moveVisitor_171 (by decide) ?_
              refine lv_icmp_ne (tgt := 181) hx hb dX3_moveVisitor_173 (by decide) (fun c19 => ?_) (fun c19 => ?_)
              · have ho := in_ c19 ho
                refine lv_iload hx hb dX3_moveVisitor_181 (lv_at hl 1 rfl) ?_
                cases ho
                exact e_i B hx hb hr hlocks rfl rfl dX3_moveVisitor_183
              · have ho := ip_ c19 ho
                refine lv_aload_n hx hb dX3_moveVisitor_176 rfl (lv_at hl 3 rfl) ?_
                refine lv_aload_n hx hb dX3_moveVisitor_177 rfl (lv_at hl 2 rfl) ?_
                obtain ⟨σ21, hq20, ho⟩ := bnd_ ho
                refine k_vV (As := [.ref (G.2.2 j2)]) (rest := []) S F B (c_X3_leaveMaze l G σ18 _ j2 hj2 hq20) (kq (by decide) : kd 161 = 13 ∧ 161 < NN) rfl rfl (cwV 1 hts gX3_moveVisitor_X3_leaveMaze rfl rfl rfl (by decide +kernel) ⟨Nat.le_of_ble_eq_true rfl, Nat.le_of_ble_eq_true rfl⟩) rfl hl.1 rfl (Nat.le_of_ble_eq_true rfl) dX3_moveVisitor_178 ⟨Nat.le_of_ble_eq_true rfl, Nat.le_of_ble_eq_true rfl⟩ (fun H locs B => ?_)
                refine lv_iload hx hb dX3_moveVisitor_181 (lv_at hl 1 rfl) ?_
                cases ho
                exact e_i B hx hb hr hlocks rfl rfl dX3_moveVisitor_183
            · have ho := ip_ c14 ho
              refine lv_aload_n hx hb dX3_moveVisitor_126 rfl (lv_at hl 3 rfl) ?_
              refine r_get (ci := 7) (C := RX3) (T := TX3) (N := 3) S F B (kq (by decide) : kd 161 = 13 ∧ 161 < NN) rfl rfl hiX3 2 (by decide) (by decide +kernel) rfl dX3_moveVisitor_127 ?_
              refine lv_bipush (v := 12) hx hb dX3_moveVisitor_130 (by decide) ?_
              refine lv_aload_n hx hb dX3_moveVisitor_132 rfl (lv_at hl 3 rfl) ?_
              refine r_get (ci := 7) (C := RX3) (T := TX3) (N := 3) S F B (kq (by decide) : kd 161 = 13 ∧ 161 < NN) rfl rfl hiX3 0 (by decide) (by decide +kernel) rfl dX3_moveVisitor_133 ?_
              refine r_getN (ci := 10) (C := RX6) (T := TX6) (N := 9) S F B (kq (by decide) : kd 0 = 0 ∧ 0 < NN) rfl rfl hiX6 0 (by decide) (by decide) rfl dX3_moveVisitor_136 ?_
              refine lv_iload hx hb dX3_moveVisitor_139 (lv_at hl 0 rfl) ?_
              obtain ⟨q22, hq22, ho⟩ := bnd_ ho
              refine k_iV (As := [.int q12]) (rest := [.int 12, .ref (G.2.2 157)]) S F B (c_X4_leavesOf l G σ _ q12 hq22) (kq (by decide) : kd 1 = 1 ∧ 1 < NN) rfl rfl (cwV 1 hts gX3_moveVisitor_X4_leavesOf rfl rfl rfl (by decide +kernel) ⟨Nat.le_of_ble_eq_true rfl, Nat.le_of_ble_eq_true rfl⟩) rfl hl.1 rfl (Nat.le_of_ble_eq_true rfl) dX3_moveVisitor_141 ⟨Nat.le_of_ble_eq_true rfl, Nat.le_of_ble_eq_true rfl⟩ (fun H locs B => ?_)
              obtain ⟨q23, σ24, hq23, ho⟩ := bnm_ ho
              refine k_iV (As := [.int 12, .int q22]) (rest := []) S F B (c_X5_because l G σ _ 12 q22 hq23) (kq (by decide) : kd 157 = 10 ∧ 157 < NN) rfl rfl (cwV 2 hts gX3_moveVisitor_X5_because rfl rfl rfl (by decide +kernel) ⟨Nat.le_of_ble_eq_true rfl, Nat.le_of_ble_eq_true rfl⟩) rfl hl.1 rfl (Nat.le_of_ble_eq_true rfl) dX3_moveVisitor_144 ⟨Nat.le_of_ble_eq_true rfl, Nat.le_of_ble_eq_true rfl⟩ (fun H locs B => ?_)
              cases ho
              exact e_i B hx hb hr hlocks rfl rfl dX3_moveVisitor_147
          · have ho := ip_ c11 ho
            refine lv_aload_n hx hb dX3_moveVisitor_86 rfl (lv_at hl 2 rfl) ?_
            refine r_get (ci := 7) (C := RX3) (T := TX3) (N := 3) S F B (kq (by decide) : kd 161 = 13 ∧ 161 < NN) rfl rfl hiX3 2 (by decide) (by decide +kernel) rfl dX3_moveVisitor_87 ?_
            refine lv_bipush (v := 11) hx hb dX3_moveVisitor_90 (by decide) ?_
            refine lv_aload_n hx hb dX3_moveVisitor_92 rfl (lv_at hl 1 rfl) ?_
            refine r_getN (ci := 11) (C := RX7) (T := TX7) (N := 8) S F B hj2 rfl rfl hiX7 1 (by decide) (by decide) rfl dX3_moveVisitor_93 ?_
            obtain ⟨q25, σ26, hq25, ho⟩ := bnm_ ho
            refine k_iV (As := [.int 11, .int (σ j2 1)]) (rest := []) S F B (c_X5_because l G σ _ 11 (σ j2 1) hq25) (kq (by decide) : kd 157 = 10 ∧ 157 < NN) rfl rfl (cwV 2 hts gX3_moveVisitor_X5_because rfl rfl rfl (by decide +kernel) ⟨Nat.le_of_ble_eq_true rfl, Nat.le_of_ble_eq_true rfl⟩) rfl hl.1 rfl (Nat.le_of_ble_eq_true rfl) dX3_moveVisitor_96 ⟨Nat.le_of_ble_eq_true rfl, Nat.le_of_ble_eq_true rfl⟩ (fun H locs B => ?_)
            cases ho
            exact e_i B hx hb hr hlocks rfl rfl dX3_moveVisitor_99
        · have ho := in_ c9 ho
          refine lv_aload_n hx hb dX3_moveVisitor_56 rfl (lv_at hl 1 rfl) ?_
          refine r_get (ci := 7) (C := RX3) (T := TX3) (N := 3) S F B (kq (by decide) : kd 161 = 13 ∧ 161 < NN) rfl rfl hiX3 2 (by decide) (by decide +kernel) rfl dX3_moveVisitor_57 ?_
          refine lv_bipush (v := 9) hx hb dX3_moveVisitor_60 (by decide) ?_
          refine lv_aload_n hx hb dX3_moveVisitor_62 rfl (lv_at hl 0 rfl) ?_
          refine r_getN (ci := 11) (C := RX7) (T := TX7) (N := 8) S F B hj2 rfl rfl hiX7 2 (by decide) (by decide) rfl dX3_moveVisitor_63 ?_
          obtain ⟨q27, σ28, hq27, ho⟩ := bnm_ ho
          refine k_iV (As := [.int 9, .int (σ j2 2)]) (rest := []) S F B (c_X5_because l G σ _ 9 (σ j2 2) hq27) (kq (by decide) : kd 157 = 10 ∧ 157 < NN) rfl rfl (cwV 2 hts gX3_moveVisitor_X5_because rfl rfl rfl (by decide +kernel) ⟨Nat.le_of_ble_eq_true rfl, Nat.le_of_ble_eq_true rfl⟩) rfl hl.1 rfl (Nat.le_of_ble_eq_true rfl) dX3_moveVisitor_66 ⟨Nat.le_of_ble_eq_true rfl, Nat.le_of_ble_eq_true rfl⟩ (fun H locs B => ?_)
          cases ho
          exact e_i B hx hb hr hlocks rfl rfl dX3_moveVisitor_69
      · have ho := in_ c8 ho
        refine lv_aload_n hx hb dX3_moveVisitor_39 rfl (lv_at hl 1 rfl) ?_
        refine r_get (ci := 7) (C := RX3) (T := TX3) (N := 3) S F B (kq (by decide) : kd 161 = 13 ∧ 161 < NN) rfl rfl hiX3 2 (by decide) (by decide +kernel) rfl dX3_moveVisitor_40 ?_
        refine lv_iconst (v := 1) hx hb dX3_moveVisitor_43 (by decide) ?_
        refine lv_iconst (v := 0) hx hb dX3_moveVisitor_44 (by decide) ?_
        obtain ⟨q29, σ30, hq29, ho⟩ := bnm_ ho
        refine k_iV (As := [.int 1, .int 0]) (rest := []) S F B (c_X5_because l G σ _ 1 0 hq29) (kq (by decide) : kd 157 = 10 ∧ 157 < NN) rfl rfl (cwV 2 hts gX3_moveVisitor_X5_because rfl rfl rfl (by decide +kernel) ⟨Nat.le_of_ble_eq_true rfl, Nat.le_of_ble_eq_true rfl⟩) rfl hl.1 rfl (Nat.le_of_ble_eq_true rfl) dX3_moveVisitor_45 ⟨Nat.le_of_ble_eq_true rfl, Nat.le_of_ble_eq_true rfl⟩ (fun H locs B => ?_)
        cases ho
        exact e_i B hx hb hr hlocks rfl rfl dX3_moveVisitor_48

set_option maxHeartbeats 4000000 in
set_option maxRecDepth 100000 in
theorem c_X3_restVisitor (l : Launch) (G : Gd) (σ : Mm) (sz : Nat) (a0 : Int32) (a1 : Int32) {out : Int32 × Mm} (ho : f_X3_restVisitor a0 a1 σ = some out) : Met l yX3_restVisitor wsX3_restVisitor { frames := 1, cells := 0, slots := 0, locals := 22 } (va_Pc [.ref (G.2.2 161), .int a0, .int a1] (PW G σ sz)) (Qi G sz out.1 out.2) 0 0 (AA G sz) := by
  refine Met.ofW (cc := cX3_restVisitor) (maxL := 4) (ret := (some .int)) (by decide) rfl ?_
  intro p e s m args below meth c s₁ B0 hml hv
  obtain ⟨rfl, hpw⟩ := hv
  have hsz := hpw.1
  subst hsz
  obtain ⟨F, B⟩ := hpw.to
  have hx := B0.exec
  have hb := B0.bytes
  have hr := B0.returns
  have hts := atoms_spec (ws := wsX3_restVisitor) B0.pre
  have hown : s.vm.findClass RX3 = some m.cls := findClass_of_methodNamed B0.named
  have hlocks := B0.notSynchronized
  have S : CallFix p m c cX3_restVisitor 4 s _ wsX3_restVisitor RX3 := ⟨hx, hb, hml, hown, hts⟩
  have hiX3 : ∀ w ∈ u_ws RX3 TX3 3, w ∈ wsX3_restVisitor := by decide +kernel
  have hiX6 : ∀ w ∈ u_ws RX6 TX6 9, w ∈ wsX3_restVisitor := by decide +kernel
  have hiX7 : ∀ w ∈ u_ws RX7 TX7 8, w ∈ wsX3_restVisitor := by decide +kernel
  have hl := lv_entry [.ref (G.2.2 161), .int a0, .int a1] (n := 4) (Nat.le_of_ble_eq_true rfl)
  rw [lg_entry_eq]
  generalize (lg_sl [.ref (G.2.2 161), .int a0, .int a1] ++ List.replicate (4 - (lg_sl [.ref (G.2.2 161), .int a0, .int a1]).length) Slot.unset).toArray = ls at hl ⊢
  have hl : lv_has ls 4 [(0, .ref (G.2.2 161)), (1, .int a0), (2, .int a1)] := hl
  unfold f_X3_restVisitor at ho
  refine lv_aload_n hx hb dX3_restVisitor_0 rfl (lv_at hl 0 rfl) ?_
  refine r_get (ci := 7) (C := RX3) (T := TX3) (N := 3) S F B (kq (by decide) : kd 161 = 13 ∧ 161 < NN) rfl rfl hiX3 0 (by decide) (by decide +kernel) rfl dX3_restVisitor_1 ?_
  refine lv_iload_n hx hb dX3_restVisitor_4 rfl (lv_at hl 1 rfl) ?_
  obtain ⟨q1, hq1, ho⟩ := bnd_ ho
  refine k_qV (As := [.int a0]) (rest := []) S F B (c_X6_findVisitor l G σ _ a0 hq1) (kq (by decide) : kd 0 = 0 ∧ 0 < NN) rfl rfl (cwV 1 hts gX3_restVisitor_X6_findVisitor rfl rfl rfl (by decide +kernel) ⟨Nat.le_of_ble_eq_true rfl, Nat.le_of_ble_eq_true rfl⟩) rfl hl.1 rfl (Nat.le_of_ble_eq_true rfl) dX3_restVisitor_5 ⟨Nat.le_of_ble_eq_true rfl, Nat.le_of_ble_eq_true rfl⟩ (fun H locs B => ?_)
  cases q1 with
  | none =>
    have ho := oc_n ho
    refine lv_astore_nN (lv' := [(3, .null), (0, .ref (G.2.2 161)), (1, .int a0), (2, .int a1)]) hx hb dX3_restVisitor_8 rfl hl (by decide) rfl (fun ls hl => ?_)
    refine lv_aload_nN hx hb dX3_restVisitor_9 rfl (lv_at hl 0 rfl) ?_
    refine lv_ifnonnullN hx hb dX3_restVisitor_10 ?_
    refine lv_aload_n hx hb dX3_restVisitor_13 rfl (lv_at hl 1 rfl) ?_
    refine r_get (ci := 7) (C := RX3) (T := TX3) (N := 3) S F B (kq (by decide) : kd 161 = 13 ∧ 161 < NN) rfl rfl hiX3 2 (by decide) (by decide +kernel) rfl dX3_restVisitor_14 ?_
    refine lv_bipush (v := 7) hx hb dX3_restVisitor_17 (by decide) ?_
    refine lv_aload_n hx hb dX3_restVisitor_19 rfl (lv_at hl 1 rfl) ?_
    refine r_get (ci := 7) (C := RX3) (T := TX3) (N := 3) S F B (kq (by decide) : kd 161 = 13 ∧ 161 < NN) rfl rfl hiX3 0 (by decide) (by decide +kernel) rfl dX3_restVisitor_20 ?_
    refine r_getN (ci := 10) (C := RX6) (T := TX6) (N := 9) S F B (kq (by decide) : kd 0 = 0 ∧ 0 < NN) rfl rfl hiX6 4 (by decide) (by decide) rfl dX3_restVisitor_23 ?_
    obtain ⟨q3, σ4, hq3, ho⟩ := bnm_ ho
    refine k_iV (As := [.int 7, .int (σ 0 4)]) (rest := []) S F B (c_X5_because l G σ _ 7 (σ 0 4) hq3) (kq (by decide) : kd 157 = 10 ∧ 157 < NN) rfl rfl (cwV 2 hts gX3_restVisitor_X5_because rfl rfl rfl (by decide +kernel) ⟨Nat.le_of_ble_eq_true rfl, Nat.le_of_ble_eq_true rfl⟩) rfl hl.1 rfl (Nat.le_of_ble_eq_true rfl) dX3_restVisitor_26 ⟨Nat.le_of_ble_eq_true rfl, Nat.le_of_ble_eq_true rfl⟩ (fun H locs B => ?_)
    cases ho
    exact e_i B hx hb hr hlocks rfl rfl dX3_restVisitor_29
  | some j2 =>
    have ho := oc_s ho
    have hj2 : kd j2 = 6 ∧ j2 < NN := kf_vis hq1
    refine lv_astore_n (lv' := [(3, .ref (G.2.2 j2)), (0, .ref (G.2.2 161)), (1, .int a0), (2, .int a1)]) hx hb dX3_restVisitor_8 rfl hl (by decide) rfl (fun ls hl => ?_)
    refine lv_aload_n hx hb dX3_restVisitor_9 rfl (lv_at hl 0 rfl) ?_
    refine lv_ifnonnull (tgt := 30) hx hb dX3_restVisitor_10 (by decide) ?_
    refine lv_iload_n hx hb dX3_restVisitor_30 rfl (lv_at hl 3 rfl) ?_
    refine lv_iconst (v := 1) hx hb dX3_restVisitor_31 (by decide) ?_
    refine lv_icmp_lt (tgt := 41) hx hb dX3_restVisitor_32 (by decide) (fun c5 => ?_) (fun c5 => ?_)
    · have ho := ip_ c5 ho
      refine lv_aload_n hx hb dX3_restVisitor_41 rfl (lv_at hl 1 rfl) ?_
      refine r_get (ci := 7) (C := RX3) (T := TX3) (N := 3) S F B (kq (by decide) : kd 161 = 13 ∧ 161 < NN) rfl rfl hiX3 2 (by decide) (by decide +kernel) rfl dX3_restVisitor_42 ?_
      refine lv_iconst (v := 1) hx hb dX3_restVisitor_45 (by decide) ?_
      refine lv_iconst (v := 0) hx hb dX3_restVisitor_46 (by decide) ?_
      obtain ⟨q6, σ7, hq6, ho⟩ := bnm_ ho
      refine k_iV (As := [.int 1, .int 0]) (rest := []) S F B (c_X5_because l G σ _ 1 0 hq6) (kq (by decide) : kd 157 = 10 ∧ 157 < NN) rfl rfl (cwV 2 hts gX3_restVisitor_X5_because rfl rfl rfl (by decide +kernel) ⟨Nat.le_of_ble_eq_true rfl, Nat.le_of_ble_eq_true rfl⟩) rfl hl.1 rfl (Nat.le_of_ble_eq_true rfl) dX3_restVisitor_47 ⟨Nat.le_of_ble_eq_true rfl, Nat.le_of_ble_eq_true rfl⟩ (fun H locs B => ?_)
      cases ho
      exact e_i B hx hb hr hlocks rfl rfl dX3_restVisitor_50
    · have ho := in_ c5 ho
      refine lv_iload_n hx hb dX3_restVisitor_35 rfl (lv_at hl 3 rfl) ?_
      refine lv_bipush (v := 9) hx hb dX3_restVisitor_36 (by decide) ?_
      refine lv_icmp_le (tgt := 51) hx hb dX3_restVisitor_38 (by decide) (fun c8 => ?_) (fun c8 => ?_)
      · have ho := ip_ c8 ho
        refine lv_aload_n hx hb dX3_restVisitor_51 rfl (lv_at hl 0 rfl) ?_
        refine r_getN (ci := 11) (C := RX7) (T := TX7) (N := 8) S F B hj2 rfl rfl hiX7 7 (by decide) (by decide) rfl dX3_restVisitor_52 ?_
        refine lv_if_eq (tgt := 72) hx hb dX3_restVisitor_55 (by decide) (fun c9 => ?_) (fun c9 => ?_)
        · have ho := ip_ c9 ho
          refine lv_aload_n hx hb dX3_restVisitor_72 rfl (lv_at hl 0 rfl) ?_
          refine lv_dup hx hb dX3_restVisitor_73 rfl ?_
          refine r_getN (ci := 11) (C := RX7) (T := TX7) (N := 8) S F B hj2 rfl rfl hiX7 2 (by decide) (by decide) rfl dX3_restVisitor_74 ?_
          refine lv_iload_n hx hb dX3_restVisitor_77 rfl (lv_at hl 3 rfl) ?_
          refine lv_iadd hx hb dX3_restVisitor_78 ?_
          refine r_putN (ci := 11) (C := RX7) (T := TX7) (N := 8) (ty := .int) S F B tyX7 tyX7_ok nmX7 hj2 (fun _ => rfl) rfl hiX7 2 (by decide) (by decide) rfl rfl rfl rfl (fun _ => Nat.le_of_ble_eq_true rfl) (fun _ => rfl) dX3_restVisitor_79 (fun H locs B => ?_)
          obtain ⟨σ10, eσ10, ho⟩ := lt_ ho
          rw [← eσ10] at B
          refine lv_aload_n hx hb dX3_restVisitor_82 rfl (lv_at hl 0 rfl) ?_
          refine r_getN (ci := 11) (C := RX7) (T := TX7) (N := 8) S F B hj2 rfl rfl hiX7 2 (by decide) (by decide) rfl dX3_restVisitor_83 ?_
          cases ho
          exact e_i B hx hb hr hlocks rfl rfl dX3_restVisitor_86
        · have ho := in_ c9 ho
          refine lv_aload_n hx hb dX3_restVisitor_58 rfl (lv_at hl 1 rfl) ?_
          refine r_get (ci := 7) (C := RX3) (T := TX3) (N := 3) S F B (kq (by decide) : kd 161 = 13 ∧ 161 < NN) rfl rfl hiX3 2 (by decide) (by decide +kernel) rfl dX3_restVisitor_59 ?_
          refine lv_bipush (v := 9) hx hb dX3_restVisitor_62 (by decide) ?_
          refine lv_aload_n hx hb dX3_restVisitor_64 rfl (lv_at hl 0 rfl) ?_
          refine r_getN (ci := 11) (C := RX7) (T := TX7) (N := 8) S F B hj2 rfl rfl hiX7 2 (by decide) (by decide) rfl dX3_restVisitor_65 ?_
          obtain ⟨q11, σ12, hq11, ho⟩ := bnm_ ho
          refine k_iV (As := [.int 9, .int (σ j2 2)]) (rest := []) S F B (c_X5_because l G σ _ 9 (σ j2 2) hq11) (kq (by decide) : kd 157 = 10 ∧ 157 < NN) rfl rfl (cwV 2 hts gX3_restVisitor_X5_because rfl rfl rfl (by decide +kernel) ⟨Nat.le_of_ble_eq_true rfl, Nat.le_of_ble_eq_true rfl⟩) rfl hl.1 rfl (Nat.le_of_ble_eq_true rfl) dX3_restVisitor_68 ⟨Nat.le_of_ble_eq_true rfl, Nat.le_of_ble_eq_true rfl⟩ (fun H locs B => ?_)
          cases ho
          exact e_i B hx hb hr hlocks rfl rfl dX3_restVisitor_71
      · have ho := in_ c8 ho
        refine lv_aload_n hx hb dX3_restVisitor_41 rfl (lv_at hl 1 rfl) ?_
        refine r_get (ci := 7) (C := RX3) (T := TX3) (N := 3) S F B (kq (by decide) : kd 161 = 13 ∧ 161 < NN) rfl rfl hiX3 2 (by decide) (by decide +kernel) rfl dX3_restVisitor_42 ?_
        refine lv_iconst (v := 1) hx hb dX3_restVisitor_45 (by decide) ?_
        refine lv_iconst (v := 0) hx hb dX3_restVisitor_46 (by decide) ?_
        obtain ⟨q13, σ14, hq13, ho⟩ := bnm_ ho
        refine k_iV (As := [.int 1, .int 0]) (rest := []) S F B (c_X5_because l G σ _ 1 0 hq13) (kq (by decide) : kd 157 = 10 ∧ 157 < NN) rfl rfl (cwV 2 hts gX3_restVisitor_X5_because rfl rfl rfl (by decide +kernel) ⟨Nat.le_of_ble_eq_true rfl, Nat.le_of_ble_eq_true rfl⟩) rfl hl.1 rfl (Nat.le_of_ble_eq_true rfl) dX3_restVisitor_47 ⟨Nat.le_of_ble_eq_true rfl, Nat.le_of_ble_eq_true rfl⟩ (fun H locs B => ?_)
        cases ho
        exact e_i B hx hb hr hlocks rfl rfl dX3_restVisitor_50
