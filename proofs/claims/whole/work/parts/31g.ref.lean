set_option maxHeartbeats 4000000 in
set_option maxRecDepth 100000 in
theorem c_X10_walkIt (l : Launch) (G : Gd) (σ : Mm) (sz : Nat) (a0 : Int32) (a1 : Int32) {out : Int32 × Mm} (ho : f_X10_walkIt a0 a1 σ = some out) : Met l yX10_walkIt wsX10_walkIt { frames := 2, cells := 0, slots := 0, locals := 56 } (va_Pc [.ref (G.2.2 198), .int a0, .int a1] (PW G σ sz)) (Qi G sz out.1 out.2) 0 0 (AA G sz) := by
  refine Met.ofW (cc := cX10_walkIt) (maxL := 7) (ret := (some .int)) (by decide) rfl ?_
  intro p e s m args below meth c s₁ B0 hml hv
  obtain ⟨rfl, hpw⟩ := hv
  have hsz := hpw.1
  subst hsz
  obtain ⟨F, B⟩ := hpw.to
  have hx := B0.exec
  have hb := B0.bytes
  have hr := B0.returns
  have hts := atoms_spec (ws := wsX10_walkIt) B0.pre
  have hown : s.vm.findClass RX10 = some m.cls := findClass_of_methodNamed B0.named
  have hlocks := B0.notSynchronized
  have S : CallFix p m c cX10_walkIt 7 s _ wsX10_walkIt RX10 := ⟨hx, hb, hml, hown, hts⟩
  have hiX10 : ∀ w ∈ u_ws RX10 TX10 21, w ∈ wsX10_walkIt := by decide +kernel
  have hl := lv_entry [.ref (G.2.2 198), .int a0, .int a1] (n := 7) (Nat.le_of_ble_eq_true rfl)
  rw [lg_entry_eq]
  generalize (lg_sl [.ref (G.2.2 198), .int a0, .int a1] ++ List.replicate (7 - (lg_sl [.ref (G.2.2 198), .int a0, .int a1]).length) Slot.unset).toArray = ls at hl ⊢
  have hl : lv_has ls 7 [(0, .ref (G.2.2 198)), (1, .int a0), (2, .int a1)] := hl
  unfold f_X10_walkIt at ho
  refine lv_aload_n hx hb dX10_walkIt_0 rfl (lv_at hl 0 rfl) ?_
  refine lv_iload_n hx hb dX10_walkIt_1 rfl (lv_at hl 1 rfl) ?_
  obtain ⟨q1, hq1, ho⟩ := bnd_ ho
  refine k_iV (As := [.int a0]) (rest := []) S F B (c_X10_isVisitor l G σ _ a0 hq1) (kq (by decide) : kd 198 = 21 ∧ 198 < NN) rfl rfl (cwV 1 hts gX10_walkIt_X10_isVisitor rfl rfl rfl (by decide +kernel) ⟨Nat.le_of_ble_eq_true rfl, Nat.le_of_ble_eq_true rfl⟩) rfl hl.1 rfl (Nat.le_of_ble_eq_true rfl) dX10_walkIt_2 ⟨Nat.le_of_ble_eq_true rfl, Nat.le_of_ble_eq_true rfl⟩ (fun H locs B => ?_)
  refine lv_if_ne (tgt := 21) hx hb dX10_walkIt_5 (by decide) (fun c2 => ?_) (fun c2 => ?_)
  · have ho := in_ c2 ho
    refine lv_iload_n hx hb dX10_walkIt_21 rfl (lv_at hl 2 rfl) ?_
    refine lv_i2l hx hb dX10_walkIt_22 rfl ?_
    refine lv_lconst (v := 0) hx hb dX10_walkIt_23 (by decide) ?_
    refine lv_ldc2 (v := 3) hx hb hown (hts _ (by decide +kernel)) dX10_walkIt_24 ?_
    obtain ⟨q3, hq3, ho⟩ := bnd_ ho
    refine k_iS (As := [.long a1.toInt64, .long 0, .long 3]) (rest := []) S F B (c_X10_in l G σ _ a1.toInt64 0 3 hq3) (va_cwS 3 hts gX10_walkIt_X10_in rfl rfl rfl (by decide +kernel) ⟨Nat.le_of_ble_eq_true rfl, Nat.le_of_ble_eq_true rfl⟩) rfl hl.1 rfl (Nat.le_of_ble_eq_true rfl) dX10_walkIt_27 ⟨Nat.le_of_ble_eq_true rfl, Nat.le_of_ble_eq_true rfl⟩ (fun H locs B => ?_)
    refine lv_if_ne (tgt := 40) hx hb dX10_walkIt_30 (by decide) (fun c4 => ?_) (fun c4 => ?_)
    · have ho := in_ c4 ho
      refine lv_iload_n hx hb dX10_walkIt_40 rfl (lv_at hl 1 rfl) ?_
      obtain ⟨q5, hq5, ho⟩ := bnd_ ho
      refine k_iS (As := [.int a0]) (rest := []) S F B (c_X10_visitorAt l G σ _ a0 hq5) (va_cwS 1 hts gX10_walkIt_X10_visitorAt rfl rfl rfl (by decide +kernel) ⟨Nat.le_of_ble_eq_true rfl, Nat.le_of_ble_eq_true rfl⟩) rfl hl.1 rfl (Nat.le_of_ble_eq_true rfl) dX10_walkIt_41 ⟨Nat.le_of_ble_eq_true rfl, Nat.le_of_ble_eq_true rfl⟩ (fun H locs B => ?_)
      refine lv_istore_n (lv' := [(3, .int q5), (0, .ref (G.2.2 198)), (1, .int a0), (2, .int a1)]) hx hb dX10_walkIt_44 rfl hl (by decide) rfl (fun ls hl => ?_)
      refine lv_aload_n hx hb dX10_walkIt_45 rfl (lv_at hl 1 rfl) ?_
      refine r_get (ci := 14) (C := RX10) (T := TX10) (N := 21) S F B (kq (by decide) : kd 198 = 21 ∧ 198 < NN) rfl rfl hiX10 0 (by decide) (by decide +kernel) rfl dX10_walkIt_46 ?_
      refine lv_iload_n hx hb dX10_walkIt_49 rfl (lv_at hl 0 rfl) ?_
      refine lv_bipush (v := 7) hx hb dX10_walkIt_50 (by decide) ?_
      refine lv_iadd hx hb dX10_walkIt_52 ?_
      obtain ⟨hi, ho⟩ := gd_ ho
      refine r_iald S F B (kq (by decide) : kd 199 = 22 ∧ 199 < NN) rfl hi dX10_walkIt_53 ?_
      refine lv_iconst (v := 1) hx hb dX10_walkIt_54 (by decide) ?_
      refine lv_icmp_ne (tgt := 73) hx hb dX10_walkIt_55 (by decide) (fun c6 => ?_) (fun c6 => ?_)
      · have ho := in_ c6 ho
        refine lv_aload_n hx hb dX10_walkIt_73 rfl (lv_at hl 1 rfl) ?_
        refine r_get (ci := 14) (C := RX10) (T := TX10) (N := 21) S F B (kq (by decide) : kd 198 = 21 ∧ 198 < NN) rfl rfl hiX10 0 (by decide) (by decide +kernel) rfl dX10_walkIt_74 ?_
        refine lv_iload_n hx hb dX10_walkIt_77 rfl (lv_at hl 0 rfl) ?_
        refine lv_iconst (v := 1) hx hb dX10_walkIt_78 (by decide) ?_
        refine lv_iadd hx hb dX10_walkIt_79 ?_
        obtain ⟨hi, ho⟩ := gd_ ho
        refine r_iald S F B (kq (by decide) : kd 199 = 22 ∧ 199 < NN) rfl hi dX10_walkIt_80 ?_
        obtain ⟨x7, ex7, ho⟩ := lt_ ho
        refine lv_nm ex7 ?_
        refine lv_istore (lv' := [(4, .int x7), (3, .int q5), (0, .ref (G.2.2 198)), (1, .int a0), (2, .int a1)]) hx hb dX10_walkIt_81 hl (by decide) rfl (fun ls hl => ?_)
        refine lv_iload hx hb dX10_walkIt_83 (lv_at hl 0 rfl) ?_
        refine lv_iload_n hx hb dX10_walkIt_85 rfl (lv_at hl 4 rfl) ?_
        obtain ⟨q8, hq8, ho⟩ := bnd_ ho
        refine k_iS (As := [.int x7, .int a1]) (rest := []) S F B (c_X10_nextTo l G σ _ x7 a1 hq8) (va_cwS 2 hts gX10_walkIt_X10_nextTo rfl rfl rfl (by decide +kernel) ⟨Nat.le_of_ble_eq_true rfl, Nat.le_of_ble_eq_true rfl⟩) rfl hl.1 rfl (Nat.le_of_ble_eq_true rfl) dX10_walkIt_86 ⟨Nat.le_of_ble_eq_true rfl, Nat.le_of_ble_eq_true rfl⟩ (fun H locs B => ?_)
        refine lv_istore (lv' := [(5, .int q8), (4, .int x7), (3, .int q5), (0, .ref (G.2.2 198)), (1, .int a0), (2, .int a1)]) hx hb dX10_walkIt_89 hl (by decide) rfl (fun ls hl => ?_)
        refine lv_iload hx hb dX10_walkIt_91 (lv_at hl 0 rfl) ?_
        refine lv_iconst (v := (-1)) hx hb dX10_walkIt_93 (by decide) ?_
        refine lv_icmp_ne (tgt := 106) hx hb dX10_walkIt_94 (by decide) (fun c9 => ?_) (fun c9 => ?_)
        · have ho := in_ c9 ho
          refine lv_aload_n hx hb dX10_walkIt_106 rfl (lv_at hl 3 rfl) ?_
          refine lv_iload hx hb dX10_walkIt_107 (lv_at hl 1 rfl) ?_
          refine lv_iload hx hb dX10_walkIt_109 (lv_at hl 0 rfl) ?_
          obtain ⟨q10, hq10, ho⟩ := bnd_ ho
          refine k_iS (As := [.int x7, .int q8]) (rest := [.ref (G.2.2 198)]) S F B (c_X10_hedgeAt l G σ _ x7 q8 hq10) (va_cwS 2 hts gX10_walkIt_X10_hedgeAt rfl rfl rfl (by decide +kernel) ⟨Nat.le_of_ble_eq_true rfl, Nat.le_of_ble_eq_true rfl⟩) rfl hl.1 rfl (Nat.le_of_ble_eq_true rfl) dX10_walkIt_111 ⟨Nat.le_of_ble_eq_true rfl, Nat.le_of_ble_eq_true rfl⟩ (fun H locs B => ?_)
          obtain ⟨q11, hq11, ho⟩ := bnd_ ho
          refine k_iV (As := [.int q10]) (rest := []) S F B (c_X10_isGapAt l G σ _ q10 hq11) (kq (by decide) : kd 198 = 21 ∧ 198 < NN) rfl rfl (cwV 1 hts gX10_walkIt_X10_isGapAt rfl rfl rfl (by decide +kernel) ⟨Nat.le_of_ble_eq_true rfl, Nat.le_of_ble_eq_true rfl⟩) rfl hl.1 rfl (Nat.le_of_ble_eq_true rfl) dX10_walkIt_114 ⟨Nat.le_of_ble_eq_true rfl, Nat.le_of_ble_eq_true rfl⟩ (fun H locs B => ?_)
          refine lv_if_ne (tgt := 139) hx hb dX10_walkIt_117 (by decide) (fun c12 => ?_) (fun c12 => ?_)
          · have ho := in_ c12 ho
            refine lv_aload_n hx hb dX10_walkIt_139 rfl (lv_at hl 3 rfl) ?_
            refine r_get (ci := 14) (C := RX10) (T := TX10) (N := 21) S F B (kq (by decide) : kd 198 = 21 ∧ 198 < NN) rfl rfl hiX10 0 (by decide) (by decide +kernel) rfl dX10_walkIt_140 ?_
            refine lv_iload_n hx hb dX10_walkIt_143 rfl (lv_at hl 2 rfl) ?_
            refine lv_iconst (v := 1) hx hb dX10_walkIt_144 (by decide) ?_
            refine lv_iadd hx hb dX10_walkIt_145 ?_
            refine lv_iload hx hb dX10_walkIt_146 (lv_at hl 0 rfl) ?_
            obtain ⟨hi, ho⟩ := gd_ ho
            refine r_iast S F B (kq (by decide) : kd 199 = 22 ∧ 199 < NN) (fun _ => rfl) hi dX10_walkIt_148 (fun H locs B => ?_)
            obtain ⟨σ13, eσ13, ho⟩ := lt_ ho
            rw [← eσ13] at B
            refine lv_aload_n hx hb dX10_walkIt_149 rfl (lv_at hl 3 rfl) ?_
            refine r_get (ci := 14) (C := RX10) (T := TX10) (N := 21) S F B (kq (by decide) : kd 198 = 21 ∧ 198 < NN) rfl rfl hiX10 0 (by decide) (by decide +kernel) rfl dX10_walkIt_150 ?_
            refine lv_iload_n hx hb dX10_walkIt_153 rfl (lv_at hl 2 rfl) ?_
            refine lv_iconst (v := 2) hx hb dX10_walkIt_154 (by decide) ?_
            refine lv_iadd hx hb dX10_walkIt_155 ?_
            refine lv_dup2_11 hx hb dX10_walkIt_156 rfl rfl ?_
            obtain ⟨hi, ho⟩ := gd_ ho
            refine r_iald S F B (kq (by decide) : kd 199 = 22 ∧ 199 < NN) rfl hi dX10_walkIt_157 ?_
            refine lv_iconst (v := 1) hx hb dX10_walkIt_158 (by decide) ?_
            refine lv_iadd hx hb dX10_walkIt_159 ?_
            obtain ⟨hi, ho⟩ := gd_ ho
            refine r_iast S F B (kq (by decide) : kd 199 = 22 ∧ 199 < NN) (fun _ => rfl) hi dX10_walkIt_160 (fun H locs B => ?_)
            obtain ⟨σ14, eσ14, ho⟩ := lt_ ho
            rw [← eσ14] at B
            refine lv_aload_n hx hb dX10_walkIt_161 rfl (lv_at hl 3 rfl) ?_
            refine r_get (ci := 14) (C := RX10) (T := TX10) (N := 21) S F B (kq (by decide) : kd 198 = 21 ∧ 198 < NN) rfl rfl hiX10 0 (by decide) (by decide +kernel) rfl dX10_walkIt_162 ?_
            refine lv_iload_n hx hb dX10_walkIt_165 rfl (lv_at hl 2 rfl) ?_
            refine lv_bipush (v := 6) hx hb dX10_walkIt_166 (by decide) ?_
            refine lv_iadd hx hb dX10_walkIt_168 ?_
            refine lv_aload_n hx hb dX10_walkIt_169 rfl (lv_at hl 3 rfl) ?_
            refine lv_iload_n hx hb dX10_walkIt_170 rfl (lv_at hl 4 rfl) ?_
            obtain ⟨q15, hq15, ho⟩ := bnd_ ho
            refine k_iV (As := [.int a0]) (rest := [.int (q5 + 6), .ref (G.2.2 199)]) S F B (c_X10_meets l G σ14 _ a0 hq15) (kq (by decide) : kd 198 = 21 ∧ 198 < NN) rfl rfl (cwV 1 hts gX10_walkIt_X10_meets rfl rfl rfl (by decide +kernel) ⟨Nat.le_of_ble_eq_true rfl, Nat.le_of_ble_eq_true rfl⟩) rfl hl.1 rfl (Nat.le_of_ble_eq_true rfl) dX10_walkIt_171 ⟨Nat.le_of_ble_eq_true rfl, Nat.le_of_ble_eq_true rfl⟩ (fun H locs B => ?_)
            refine lv_if_eq (tgt := 192) hx hb dX10_walkIt_174 (by decide) (fun c16 => ?_) (fun c16 => ?_)
            · have ho := ip_ c16 ho
              refine lv_aload_n hx hb dX10_walkIt_192 rfl (lv_at hl 3 rfl) ?_
              refine r_get (ci := 14) (C := RX10) (T := TX10) (N := 21) S F B (kq (by decide) : kd 198 = 21 ∧ 198 < NN) rfl rfl hiX10 0 (by decide) (by decide +kernel) rfl dX10_walkIt_193 ?_
              refine lv_iload_n hx hb dX10_walkIt_196 rfl (lv_at hl 2 rfl) ?_
              refine lv_bipush (v := 6) hx hb dX10_walkIt_197 (by decide) ?_
              refine lv_iadd hx hb dX10_walkIt_199 ?_
              obtain ⟨hi, ho⟩ := gd_ ho
              refine r_iald S F B (kq (by decide) : kd 199 = 22 ∧ 199 < NN) rfl hi dX10_walkIt_200 ?_
              obtain ⟨hi, ho⟩ := gd_ ho
              refine r_iast S F B (kq (by decide) : kd 199 = 22 ∧ 199 < NN) (fun _ => rfl) hi dX10_walkIt_201 (fun H locs B => ?_)
              obtain ⟨σ17, eσ17, ho⟩ := lt_ ho
              rw [← eσ17] at B
              refine lv_iload hx hb dX10_walkIt_202 (lv_at hl 0 rfl) ?_
              refine lv_bipush (v := 15) hx hb dX10_walkIt_204 (by decide) ?_
              refine lv_icmp_ne (tgt := 326) hx hb dX10_walkIt_206 (by decide) (fun c18 => ?_) (fun c18 => ?_)
              · have ho := in_ c18 ho
                refine lv_iload hx hb dX10_walkIt_326 (lv_at hl 0 rfl) ?_
                cases ho
                exact e_i B hx hb hr hlocks rfl rfl dX10_walkIt_328
              · have ho := ip_ c18 ho
                refine lv_aload_n hx hb dX10_walkIt_209 rfl (lv_at hl 3 rfl) ?_
                refine lv_iload_n hx hb dX10_walkIt_210 rfl (lv_at hl 4 rfl) ?_
                refine lv_aload_n hx hb dX10_walkIt_211 rfl (lv_at hl 3 rfl) ?_
                refine lv_iload_n hx hb dX10_walkIt_212 rfl (lv_at hl 4 rfl) ?_
                obtain ⟨q19, hq19, ho⟩ := bnd_ ho
                refine k_iV (As := [.int a0]) (rest := [.int a0, .ref (G.2.2 198)]) S F B (c_X10_lostOf l G σ17 _ a0 hq19) (kq (by decide) : kd 198 = 21 ∧ 198 < NN) rfl rfl (cwV 1 hts gX10_walkIt_X10_lostOf rfl rfl rfl (by decide +kernel) ⟨Nat.le_of_ble_eq_true rfl, Nat.le_of_ble_eq_true rfl⟩) rfl hl.1 rfl (Nat.le_of_ble_eq_true rfl) dX10_walkIt_213 ⟨Nat.le_of_ble_eq_true rfl, Nat.le_of_ble_eq_true rfl⟩ (fun H locs B => ?_)
                obtain ⟨q20, hq20, ho⟩ := bnd_ ho
                refine k_iV (As := [.int a0, .int q19]) (rest := []) S F B (c_X10_pays l G σ17 _ a0 q19 hq20) (kq (by decide) : kd 198 = 21 ∧ 198 < NN) rfl rfl (cwV 2 hts gX10_walkIt_X10_pays rfl rfl rfl (by decide +kernel) ⟨Nat.le_of_ble_eq_true rfl, Nat.le_of_ble_eq_true rfl⟩) rfl hl.1 rfl (Nat.le_of_ble_eq_true rfl) dX10_walkIt_216 ⟨Nat.le_of_ble_eq_true rfl, Nat.le_of_ble_eq_true rfl⟩ (fun H locs B => ?_)
                refine lv_istore (lv' := [(6, .int q20), (5, .int q8), (4, .int x7), (3, .int q5), (0, .ref (G.2.2 198)), (1, .int a0), (2, .int a1)]) hx hb dX10_walkIt_219 hl (by decide) rfl (fun ls hl => ?_)
                refine lv_aload_n hx hb dX10_walkIt_221 rfl (lv_at hl 4 rfl) ?_
                refine r_get (ci := 14) (C := RX10) (T := TX10) (N := 21) S F B (kq (by decide) : kd 198 = 21 ∧ 198 < NN) rfl rfl hiX10 0 (by decide) (by decide +kernel) rfl dX10_walkIt_222 ?_
                refine lv_iload_n hx hb dX10_walkIt_225 rfl (lv_at hl 3 rfl) ?_
                refine lv_dup2_11 hx hb dX10_walkIt_226 rfl rfl ?_
                obtain ⟨hi, ho⟩ := gd_ ho
                refine r_iald S F B (kq (by decide) : kd 199 = 22 ∧ 199 < NN) rfl hi dX10_walkIt_227 ?_
                refine lv_iload hx hb dX10_walkIt_228 (lv_at hl 0 rfl) ?_
                refine lv_iadd hx hb dX10_walkIt_230 ?_
                obtain ⟨hi, ho⟩ := gd_ ho
                refine r_iast S F B (kq (by decide) : kd 199 = 22 ∧ 199 < NN) (fun _ => rfl) hi dX10_walkIt_231 (fun H locs B => ?_)
                obtain ⟨σ21, eσ21, ho⟩ := lt_ ho
                rw [← eσ21] at B
                refine lv_aload_n hx hb dX10_walkIt_232 rfl (lv_at hl 4 rfl) ?_
                refine r_get (ci := 14) (C := RX10) (T := TX10) (N := 21) S F B (kq (by decide) : kd 198 = 21 ∧ 198 < NN) rfl rfl hiX10 0 (by decide) (by decide +kernel) rfl dX10_walkIt_233 ?_
                refine lv_iload_n hx hb dX10_walkIt_236 rfl (lv_at hl 3 rfl) ?_
                refine lv_iconst (v := 4) hx hb dX10_walkIt_237 (by decide) ?_
                refine lv_iadd hx hb dX10_walkIt_238 ?_
                obtain ⟨hi, ho⟩ := gd_ ho
                refine r_iald S F B (kq (by decide) : kd 199 = 22 ∧ 199 < NN) rfl hi dX10_walkIt_239 ?_
                refine lv_iconst (v := (-1)) hx hb dX10_walkIt_240 (by decide) ?_
                refine lv_icmp_eq (tgt := 288) hx hb dX10_walkIt_241 (by decide) (fun c22 => ?_) (fun c22 => ?_)
                · have ho := ip_ c22 ho
                  refine lv_aload_n hx hb dX10_walkIt_288 rfl (lv_at hl 4 rfl) ?_
                  refine r_get (ci := 14) (C := RX10) (T := TX10) (N := 21) S F B (kq (by decide) : kd 198 = 21 ∧ 198 < NN) rfl rfl hiX10 0 (by decide) (by decide +kernel) rfl dX10_walkIt_289 ?_
                  refine lv_iload_n hx hb dX10_walkIt_292 rfl (lv_at hl 3 rfl) ?_
                  refine lv_bipush (v := 7) hx hb dX10_walkIt_293 (by decide) ?_
                  refine lv_iadd hx hb dX10_walkIt_295 ?_
                  refine lv_iconst (v := 1) hx hb dX10_walkIt_296 (by decide) ?_
                  obtain ⟨hi, ho⟩ := gd_ ho
                  refine r_iast S F B (kq (by decide) : kd 199 = 22 ∧ 199 < NN) (fun _ => rfl) hi dX10_walkIt_297 (fun H locs B => ?_)
                  obtain ⟨σ23, eσ23, ho⟩ := lt_ ho
                  rw [← eσ23] at B
                  refine lv_aload_n hx hb dX10_walkIt_298 rfl (lv_at hl 4 rfl) ?_
                  refine r_get (ci := 14) (C := RX10) (T := TX10) (N := 21) S F B (kq (by decide) : kd 198 = 21 ∧ 198 < NN) rfl rfl hiX10 0 (by decide) (by decide +kernel) rfl dX10_walkIt_299 ?_
                  refine lv_iload_n hx hb dX10_walkIt_302 rfl (lv_at hl 3 rfl) ?_
                  refine lv_iconst (v := 4) hx hb dX10_walkIt_303 (by decide) ?_
                  refine lv_iadd hx hb dX10_walkIt_304 ?_
                  refine lv_iconst (v := (-1)) hx hb dX10_walkIt_305 (by decide) ?_
                  obtain ⟨hi, ho⟩ := gd_ ho
                  refine r_iast S F B (kq (by decide) : kd 199 = 22 ∧ 199 < NN) (fun _ => rfl) hi dX10_walkIt_306 (fun H locs B => ?_)
                  obtain ⟨σ24, eσ24, ho⟩ := lt_ ho
                  rw [← eσ24] at B
                  refine lv_aload_n hx hb dX10_walkIt_307 rfl (lv_at hl 4 rfl) ?_
                  refine r_get (ci := 14) (C := RX10) (T := TX10) (N := 21) S F B (kq (by decide) : kd 198 = 21 ∧ 198 < NN) rfl rfl hiX10 0 (by decide) (by decide +kernel) rfl dX10_walkIt_308 ?_
                  refine lv_iload_n hx hb dX10_walkIt_311 rfl (lv_at hl 3 rfl) ?_
                  refine lv_iconst (v := 5) hx hb dX10_walkIt_312 (by decide) ?_
                  refine lv_iadd hx hb dX10_walkIt_313 ?_
                  refine lv_iconst (v := 0) hx hb dX10_walkIt_314 (by decide) ?_
                  obtain ⟨hi, ho⟩ := gd_ ho
                  refine r_iast S F B (kq (by decide) : kd 199 = 22 ∧ 199 < NN) (fun _ => rfl) hi dX10_walkIt_315 (fun H locs B => ?_)
                  obtain ⟨σ25, eσ25, ho⟩ := lt_ ho
                  rw [← eσ25] at B
                  refine lv_aload_n hx hb dX10_walkIt_316 rfl (lv_at hl 4 rfl) ?_
                  refine r_get (ci := 14) (C := RX10) (T := TX10) (N := 21) S F B (kq (by decide) : kd 198 = 21 ∧ 198 < NN) rfl rfl hiX10 0 (by decide) (by decide +kernel) rfl dX10_walkIt_317 ?_
                  refine lv_iload_n hx hb dX10_walkIt_320 rfl (lv_at hl 3 rfl) ?_
                  refine lv_bipush (v := 6) hx hb dX10_walkIt_321 (by decide) ?_
                  refine lv_iadd hx hb dX10_walkIt_323 ?_
                  refine lv_iconst (v := 0) hx hb dX10_walkIt_324 (by decide) ?_
                  obtain ⟨hi, ho⟩ := gd_ ho
                  refine r_iast S F B (kq (by decide) : kd 199 = 22 ∧ 199 < NN) (fun _ => rfl) hi dX10_walkIt_325 (fun H locs B => ?_)
                  obtain ⟨σ26, eσ26, ho⟩ := lt_ ho
                  rw [← eσ26] at B
                  refine lv_iload hx hb dX10_walkIt_326 (lv_at hl 1 rfl) ?_
                  cases ho
                  exact e_i B hx hb hr hlocks rfl rfl dX10_walkIt_328
                · have ho := in_ c22 ho
                  refine lv_aload_n hx hb dX10_walkIt_244 rfl (lv_at hl 4 rfl) ?_
                  refine r_get (ci := 14) (C := RX10) (T := TX10) (N := 21) S F B (kq (by decide) : kd 198 = 21 ∧ 198 < NN) rfl rfl hiX10 0 (by decide) (by decide +kernel) rfl dX10_walkIt_245 ?_
                  refine lv_aload_n hx hb dX10_walkIt_248 rfl (lv_at hl 4 rfl) ?_
                  refine r_get (ci := 14) (C := RX10) (T := TX10) (N := 21) S F B (kq (by decide) : kd 198 = 21 ∧ 198 < NN) rfl rfl hiX10 0 (by decide) (by decide +kernel) rfl dX10_walkIt_249 ?_
                  refine lv_iload_n hx hb dX10_walkIt_252 rfl (lv_at hl 3 rfl) ?_
                  refine lv_iconst (v := 4) hx hb dX10_walkIt_253 (by decide) ?_
                  refine lv_iadd hx hb dX10_walkIt_254 ?_
                  obtain ⟨hi, ho⟩ := gd_ ho
                  refine r_iald S F B (kq (by decide) : kd 199 = 22 ∧ 199 < NN) rfl hi dX10_walkIt_255 ?_
                  obtain ⟨q27, hq27, ho⟩ := bnd_ ho
                  refine k_iS (As := [.int (σ21 199 (q5 + 4).toNatClampNeg)]) (rest := [.ref (G.2.2 199)]) S F B (c_X10_gardenerAt l G σ21 _ (σ21 199 (q5 + 4).toNatClampNeg) hq27) (va_cwS 1 hts gX10_walkIt_X10_gardenerAt rfl rfl rfl (by decide +kernel) ⟨Nat.le_of_ble_eq_true rfl, Nat.le_of_ble_eq_true rfl⟩) rfl hl.1 rfl (Nat.le_of_ble_eq_true rfl) dX10_walkIt_256 ⟨Nat.le_of_ble_eq_true rfl, Nat.le_of_ble_eq_true rfl⟩ (fun H locs B => ?_)
                  refine lv_dup2_11 hx hb dX10_walkIt_259 rfl rfl ?_
                  obtain ⟨hi, ho⟩ := gd_ ho
                  refine r_iald S F B (kq (by decide) : kd 199 = 22 ∧ 199 < NN) rfl hi dX10_walkIt_260 ?_
                  refine lv_iload hx hb dX10_walkIt_261 (lv_at hl 0 rfl) ?_
                  refine lv_isub hx hb dX10_walkIt_263 ?_
                  obtain ⟨hi, ho⟩ := gd_ ho
                  refine r_iast S F B (kq (by decide) : kd 199 = 22 ∧ 199 < NN) (fun _ => rfl) hi dX10_walkIt_264 (fun H locs B => ?_)
                  obtain ⟨σ28, eσ28, ho⟩ := lt_ ho
                  rw [← eσ28] at B
                  refine lv_aload_n hx hb dX10_walkIt_265 rfl (lv_at hl 4 rfl) ?_
                  refine r_get (ci := 14) (C := RX10) (T := TX10) (N := 21) S F B (kq (by decide) : kd 198 = 21 ∧ 198 < NN) rfl rfl hiX10 0 (by decide) (by decide +kernel) rfl dX10_walkIt_266 ?_
                  refine lv_aload_n hx hb dX10_walkIt_269 rfl (lv_at hl 4 rfl) ?_
                  refine r_get (ci := 14) (C := RX10) (T := TX10) (N := 21) S F B (kq (by decide) : kd 198 = 21 ∧ 198 < NN) rfl rfl hiX10 0 (by decide) (by decide +kernel) rfl dX10_walkIt_270 ?_
                  refine lv_iload_n hx hb dX10_walkIt_273 rfl (lv_at hl 3 rfl) ?_
                  refine lv_iconst (v := 4) hx hb dX10_walkIt_274 (by decide) ?_
                  refine lv_iadd hx hb dX10_walkIt_275 ?_
                  obtain ⟨hi, ho⟩ := gd_ ho
                  refine r_iald S F B (kq (by decide) : kd 199 = 22 ∧ 199 < NN) rfl hi dX10_walkIt_276 ?_
                  obtain ⟨q29, hq29, ho⟩ := bnd_ ho
                  refine k_iS (As := [.int (σ28 199 (q5 + 4).toNatClampNeg)]) (rest := [.ref (G.2.2 199)]) S F B (c_X10_gardenerAt l G σ28 _ (σ28 199 (q5 + 4).toNatClampNeg) hq29) (va_cwS 1 hts gX10_walkIt_X10_gardenerAt rfl rfl rfl (by decide +kernel) ⟨Nat.le_of_ble_eq_true rfl, Nat.le_of_ble_eq_true rfl⟩) rfl hl.1 rfl (Nat.le_of_ble_eq_true rfl) dX10_walkIt_277 ⟨Nat.le_of_ble_eq_true rfl, Nat.le_of_ble_eq_true rfl⟩ (fun H locs B => ?_)
                  refine lv_iconst (v := 2) hx hb dX10_walkIt_280 (by decide) ?_
                  refine lv_iadd hx hb dX10_walkIt_281 ?_
                  refine lv_dup2_11 hx hb dX10_walkIt_282 rfl rfl ?_
                  obtain ⟨hi, ho⟩ := gd_ ho
                  refine r_iald S F B (kq (by decide) : kd 199 = 22 ∧ 199 < NN) rfl hi dX10_walkIt_283 ?_
                  refine lv_iload hx hb dX10_walkIt_284 (lv_at hl 0 rfl) ?_
                  refine lv_iadd hx hb dX10_walkIt_286 ?_
                  obtain ⟨hi, ho⟩ := gd_ ho
                  refine r_iast S F B (kq (by decide) : kd 199 = 22 ∧ 199 < NN) (fun _ => rfl) hi dX10_walkIt_287 (fun H locs B => ?_)
                  obtain ⟨σ30, eσ30, ho⟩ := lt_ ho
                  rw [← eσ30] at B
                  refine lv_aload_n hx hb dX10_walkIt_288 rfl (lv_at hl 4 rfl) ?_
                  refine r_get (ci := 14) (C := RX10) (T := TX10) (N := 21) S F B (kq (by decide) : kd 198 = 21 ∧ 198 < NN) rfl rfl hiX10 0 (by decide) (by decide +kernel) rfl dX10_walkIt_289 ?_
                  refine lv_iload_n hx hb dX10_walkIt_292 rfl (lv_at hl 3 rfl) ?_
                  refine lv_bipush (v := 7) hx hb dX10_walkIt_293 (by decide) ?_
                  refine lv_iadd hx hb dX10_walkIt_295 ?_
                  refine lv_iconst (v := 1) hx hb dX10_walkIt_296 (by decide) ?_
                  obtain ⟨hi, ho⟩ := gd_ ho
                  refine r_iast S F B (kq (by decide) : kd 199 = 22 ∧ 199 < NN) (fun _ => rfl) hi dX10_walkIt_297 (fun H locs B => ?_)
                  obtain ⟨σ31, eσ31, ho⟩ := lt_ ho
                  rw [← eσ31] at B
                  refine lv_aload_n hx hb dX10_walkIt_298 rfl (lv_at hl 4 rfl) ?_
                  refine r_get (ci := 14) (C := RX10) (T := TX10) (N := 21) S F B (kq (by decide) : kd 198 = 21 ∧ 198 < NN) rfl rfl hiX10 0 (by decide) (by decide +kernel) rfl dX10_walkIt_299 ?_
                  refine lv_iload_n hx hb dX10_walkIt_302 rfl (lv_at hl 3 rfl) ?_
                  refine lv_iconst (v := 4) hx hb dX10_walkIt_303 (by decide) ?_
                  refine lv_iadd hx hb dX10_walkIt_304 ?_
                  refine lv_iconst (v := (-1)) hx hb dX10_walkIt_305 (by decide) ?_
                  obtain ⟨hi, ho⟩ := gd_ ho
                  refine r_iast S F B (kq (by decide) : kd 199 = 22 ∧ 199 < NN) (fun _ => rfl) hi dX10_walkIt_306 (fun H locs B => ?_)
                  obtain ⟨σ32, eσ32, ho⟩ := lt_ ho
                  rw [← eσ32] at B
                  refine lv_aload_n hx hb dX10_walkIt_307 rfl (lv_at hl 4 rfl) ?_
                  refine r_get (ci := 14) (C := RX10) (T := TX10) (N := 21) S F B (kq (by decide) : kd 198 = 21 ∧ 198 < NN) rfl rfl hiX10 0 (by decide) (by decide +kernel) rfl dX10_walkIt_308 ?_
                  refine lv_iload_n hx hb dX10_walkIt_311 rfl (lv_at hl 3 rfl) ?_
                  refine lv_iconst (v := 5) hx hb dX10_walkIt_312 (by decide) ?_
                  refine lv_iadd hx hb dX10_walkIt_313 ?_
                  refine lv_iconst (v := 0) hx hb dX10_walkIt_314 (by decide) ?_
                  obtain ⟨hi, ho⟩ := gd_ ho
                  refine r_iast S F B (kq (by decide) : kd 199 = 22 ∧ 199 < NN) (fun _ => rfl) hi dX10_walkIt_315 (fun H locs B => ?_)
                  obtain ⟨σ33, eσ33, ho⟩ := lt_ ho
                  rw [← eσ33] at B
                  refine lv_aload_n hx hb dX10_walkIt_316 rfl (lv_at hl 4 rfl) ?_
                  refine r_get (ci := 14) (C := RX10) (T := TX10) (N := 21) S F B (kq (by decide) : kd 198 = 21 ∧ 198 < NN) rfl rfl hiX10 0 (by decide) (by decide +kernel) rfl dX10_walkIt_317 ?_
                  refine lv_iload_n hx hb dX10_walkIt_320 rfl (lv_at hl 3 rfl) ?_
                  refine lv_bipush (v := 6) hx hb dX10_walkIt_321 (by decide) ?_
                  refine lv_iadd hx hb dX10_walkIt_323 ?_
                  refine lv_iconst (v := 0) hx hb dX10_walkIt_324 (by decide) ?_
                  obtain ⟨hi, ho⟩ := gd_ ho
                  refine r_iast S F B (kq (by decide) : kd 199 = 22 ∧ 199 < NN) (fun _ => rfl) hi dX10_walkIt_325 (fun H locs B => ?_)
                  obtain ⟨σ34, eσ34, ho⟩ := lt_ ho
                  rw [← eσ34] at B
                  refine lv_iload hx hb dX10_walkIt_326 (lv_at hl 1 rfl) ?_
                  cases ho
                  exact e_i B hx hb hr hlocks rfl rfl dX10_walkIt_328
            · have ho := in_ c16 ho
              refine lv_aload_n hx hb dX10_walkIt_177 rfl (lv_at hl 3 rfl) ?_
              refine r_get (ci := 14) (C := RX10) (T := TX10) (N := 21) S F B (kq (by decide) : kd 198 = 21 ∧ 198 < NN) rfl rfl hiX10 0 (by decide) (by decide +kernel) rfl dX10_walkIt_178 ?_
              refine lv_iload_n hx hb dX10_walkIt_181 rfl (lv_at hl 2 rfl) ?_
              refine lv_iconst (v := 5) hx hb dX10_walkIt_182 (by decide) ?_
              refine lv_iadd hx hb dX10_walkIt_183 ?_
              obtain ⟨hi, ho⟩ := gd_ ho
              refine r_iald S F B (kq (by decide) : kd 199 = 22 ∧ 199 < NN) rfl hi dX10_walkIt_184 ?_
              refine lv_if_le (tgt := 192) hx hb dX10_walkIt_185 (by decide) (fun c35 => ?_) (fun c35 => ?_)
              · have ho := ip_ c35 ho
                refine lv_aload_n hx hb dX10_walkIt_192 rfl (lv_at hl 3 rfl) ?_
                refine r_get (ci := 14) (C := RX10) (T := TX10) (N := 21) S F B (kq (by decide) : kd 198 = 21 ∧ 198 < NN) rfl rfl hiX10 0 (by decide) (by decide +kernel) rfl dX10_walkIt_193 ?_
                refine lv_iload_n hx hb dX10_walkIt_196 rfl (lv_at hl 2 rfl) ?_
                refine lv_bipush (v := 6) hx hb dX10_walkIt_197 (by decide) ?_
                refine lv_iadd hx hb dX10_walkIt_199 ?_
                obtain ⟨hi, ho⟩ := gd_ ho
                refine r_iald S F B (kq (by decide) : kd 199 = 22 ∧ 199 < NN) rfl hi dX10_walkIt_200 ?_
                obtain ⟨hi, ho⟩ := gd_ ho
                refine r_iast S F B (kq (by decide) : kd 199 = 22 ∧ 199 < NN) (fun _ => rfl) hi dX10_walkIt_201 (fun H locs B => ?_)
                obtain ⟨σ36, eσ36, ho⟩ := lt_ ho
                rw [← eσ36] at B
                refine lv_iload hx hb dX10_walkIt_202 (lv_at hl 0 rfl) ?_
                refine lv_bipush (v := 15) hx hb dX10_walkIt_204 (by decide) ?_
                refine lv_icmp_ne (tgt := 326) hx hb dX10_walkIt_206 (by decide) (fun c37 => ?_) (fun c37 => ?_)
                · have ho := in_ c37 ho
                  refine lv_iload hx hb dX10_walkIt_326 (lv_at hl 0 rfl) ?_
                  cases ho
                  exact e_i B hx hb hr hlocks rfl rfl dX10_walkIt_328
                · have ho := ip_ c37 ho
                  refine lv_aload_n hx hb dX10_walkIt_209 rfl (lv_at hl 3 rfl) ?_
                  refine lv_iload_n hx hb dX10_walkIt_210 rfl (lv_at hl 4 rfl) ?_
                  refine lv_aload_n hx hb dX10_walkIt_211 rfl (lv_at hl 3 rfl) ?_
                  refine lv_iload_n hx hb dX10_walkIt_212 rfl (lv_at hl 4 rfl) ?_
                  obtain ⟨q38, hq38, ho⟩ := bnd_ ho
                  refine k_iV (As := [.int a0]) (rest := [.int a0, .ref (G.2.2 198)]) S F B (c_X10_lostOf l G σ36 _ a0 hq38) (kq (by decide) : kd 198 = 21 ∧ 198 < NN) rfl rfl (cwV 1 hts gX10_walkIt_X10_lostOf rfl rfl rfl (by decide +kernel) ⟨Nat.le_of_ble_eq_true rfl, Nat.le_of_ble_eq_true rfl⟩) rfl hl.1 rfl (Nat.le_of_ble_eq_true rfl) dX10_walkIt_213 ⟨Nat.le_of_ble_eq_true rfl, Nat.le_of_ble_eq_true rfl⟩ (fun H locs B => ?_)
                  obtain ⟨q39, hq39, ho⟩ := bnd_ ho
                  refine k_iV (As := [.int a0, .int q38]) (rest := []) S F B (c_X10_pays l G σ36 _ a0 q38 hq39) (kq (by decide) : kd 198 = 21 ∧ 198 < NN) rfl rfl (cwV 2 hts gX10_walkIt_X10_pays rfl rfl rfl (by decide +kernel) ⟨Nat.le_of_ble_eq_true rfl, Nat.le_of_ble_eq_true rfl⟩) rfl hl.1 rfl (Nat.le_of_ble_eq_true rfl) dX10_walkIt_216 ⟨Nat.le_of_ble_eq_true rfl, Nat.le_of_ble_eq_true rfl⟩ (fun H locs B => ?_)
                  refine lv_istore (lv' := [(6, .int q39), (5, .int q8), (4, .int x7), (3, .int q5), (0, .ref (G.2.2 198)), (1, .int a0), (2, .int a1)]) hx hb dX10_walkIt_219 hl (by decide) rfl (fun ls hl => ?_)
                  refine lv_aload_n hx hb dX10_walkIt_221 rfl (lv_at hl 4 rfl) ?_
                  refine r_get (ci := 14) (C := RX10) (T := TX10) (N := 21) S F B (kq (by decide) : kd 198 = 21 ∧ 198 < NN) rfl rfl hiX10 0 (by decide) (by decide +kernel) rfl dX10_walkIt_222 ?_
                  refine lv_iload_n hx hb dX10_walkIt_225 rfl (lv_at hl 3 rfl) ?_
                  refine lv_dup2_11 hx hb dX10_walkIt_226 rfl rfl ?_
                  obtain ⟨hi, ho⟩ := gd_ ho
                  refine r_iald S F B (kq (by decide) : kd 199 = 22 ∧ 199 < NN) rfl hi dX10_walkIt_227 ?_
                  refine lv_iload hx hb dX10_walkIt_228 (lv_at hl 0 rfl) ?_
                  refine lv_iadd hx hb dX10_walkIt_230 ?_
                  obtain ⟨hi, ho⟩ := gd_ ho
                  refine r_iast S F B (kq (by decide) : kd 199 = 22 ∧ 199 < NN) (fun _ => rfl) hi dX10_walkIt_231 (fun H locs B => ?_)
                  obtain ⟨σ40, eσ40, ho⟩ := lt_ ho
                  rw [← eσ40] at B
                  refine lv_aload_n hx hb dX10_walkIt_232 rfl (lv_at hl 4 rfl) ?_
                  refine r_get (ci := 14) (C := RX10) (T := TX10) (N := 21) S F B (kq (by decide) : kd 198 = 21 ∧ 198 < NN) rfl rfl hiX10 0 (by decide) (by decide +kernel) rfl dX10_walkIt_233 ?_
                  refine lv_iload_n hx hb dX10_walkIt_236 rfl (lv_at hl 3 rfl) ?_
                  refine lv_iconst (v := 4) hx hb dX10_walkIt_237 (by decide) ?_
                  refine lv_iadd hx hb dX10_walkIt_238 ?_
                  obtain ⟨hi, ho⟩ := gd_ ho
                  refine r_iald S F B (kq (by decide) : kd 199 = 22 ∧ 199 < NN) rfl hi dX10_walkIt_239 ?_
                  refine lv_iconst (v := (-1)) hx hb dX10_walkIt_240 (by decide) ?_
                  refine lv_icmp_eq (tgt := 288) hx hb dX10_walkIt_241 (by decide) (fun c41 => ?_) (fun c41 => ?_)
                  · have ho := ip_ c41 ho
                    refine lv_aload_n hx hb dX10_walkIt_288 rfl (lv_at hl 4 rfl) ?_
                    refine r_get (ci := 14) (C := RX10) (T := TX10) (N := 21) S F B (kq (by decide) : kd 198 = 21 ∧ 198 < NN) rfl rfl hiX10 0 (by decide) (by decide +kernel) rfl dX10_walkIt_289 ?_
                    refine lv_iload_n hx hb dX10_walkIt_292 rfl (lv_at hl 3 rfl) ?_
                    refine lv_bipush (v := 7) hx hb dX10_walkIt_293 (by decide) ?_
                    refine lv_iadd hx hb dX10_walkIt_295 ?_
                    refine lv_iconst (v := 1) hx hb dX10_walkIt_296 (by decide) ?_
                    obtain ⟨hi, ho⟩ := gd_ ho
                    refine r_iast S F B (kq (by decide) : kd 199 = 22 ∧ 199 < NN) (fun _ => rfl) hi dX10_walkIt_297 (fun H locs B => ?_)
                    obtain ⟨σ42, eσ42, ho⟩ := lt_ ho
                    rw [← eσ42] at B
                    refine lv_aload_n hx hb dX10_walkIt_298 rfl (lv_at hl 4 rfl) ?_
                    refine r_get (ci := 14) (C := RX10) (T := TX10) (N := 21) S F B (kq (by decide) : kd 198 = 21 ∧ 198 < NN) rfl rfl hiX10 0 (by decide) (by decide +kernel) rfl dX10_walkIt_299 ?_
                    refine lv_iload_n hx hb dX10_walkIt_302 rfl (lv_at hl 3 rfl) ?_
                    refine lv_iconst (v := 4) hx hb dX10_walkIt_303 (by decide) ?_
                    refine lv_iadd hx hb dX10_walkIt_304 ?_
                    refine lv_iconst (v := (-1)) hx hb dX10_walkIt_305 (by decide) ?_
                    obtain ⟨hi, ho⟩ := gd_ ho
                    refine r_iast S F B (kq (by decide) : kd 199 = 22 ∧ 199 < NN) (fun _ => rfl) hi dX10_walkIt_306 (fun H locs B => ?_)
                    obtain ⟨σ43, eσ43, ho⟩ := lt_ ho
                    rw [← eσ43] at B
                    refine lv_aload_n hx hb dX10_walkIt_307 rfl (lv_at hl 4 rfl) ?_
                    refine r_get (ci := 14) (C := RX10) (T := TX10) (N := 21) S F B (kq (by decide) : kd 198 = 21 ∧ 198 < NN) rfl rfl hiX10 0 (by decide) (by decide +kernel) rfl dX10_walkIt_308 ?_
                    refine lv_iload_n hx hb dX10_walkIt_311 rfl (lv_at hl 3 rfl) ?_
                    refine lv_iconst (v := 5) hx hb dX10_walkIt_312 (by decide) ?_
                    refine lv_iadd hx hb dX10_walkIt_313 ?_
                    refine lv_iconst (v := 0) hx hb dX10_walkIt_314 (by decide) ?_
                    obtain ⟨hi, ho⟩ := gd_ ho
                    refine r_iast S F B (kq (by decide) : kd 199 = 22 ∧ 199 < NN) (fun _ => rfl) hi dX10_walkIt_315 (fun H locs B => ?_)
                    obtain ⟨σ44, eσ44, ho⟩ := lt_ ho
                    rw [← eσ44] at B
                    refine lv_aload_n hx hb dX10_walkIt_316 rfl (lv_at hl 4 rfl) ?_
                    refine r_get (ci := 14) (C := RX10) (T := TX10) (N := 21) S F B (kq (by decide) : kd 198 = 21 ∧ 198 < NN) rfl rfl hiX10 0 (by decide) (by decide +kernel) rfl dX10_walkIt_317 ?_
                    refine lv_iload_n hx hb dX10_walkIt_320 rfl (lv_at hl 3 rfl) ?_
                    refine lv_bipush (v := 6) hx hb dX10_walkIt_321 (by decide) ?_
                    refine lv_iadd hx hb dX10_walkIt_323 ?_
                    refine lv_iconst (v := 0) hx hb dX10_walkIt_324 (by decide) ?_
                    obtain ⟨hi, ho⟩ := gd_ ho
                    refine r_iast S F B (kq (by decide) : kd 199 = 22 ∧ 199 < NN) (fun _ => rfl) hi dX10_walkIt_325 (fun H locs B => ?_)
                    obtain ⟨σ45, eσ45, ho⟩ := lt_ ho
                    rw [← eσ45] at B
                    refine lv_iload hx hb dX10_walkIt_326 (lv_at hl 1 rfl) ?_
                    cases ho
                    exact e_i B hx hb hr hlocks rfl rfl dX10_walkIt_328
                  · have ho := in_ c41 ho
                    refine lv_aload_n hx hb dX10_walkIt_244 rfl (lv_at hl 4 rfl) ?_
                    refine r_get (ci := 14) (C := RX10) (T := TX10) (N := 21) S F B (kq (by decide) : kd 198 = 21 ∧ 198 < NN) rfl rfl hiX10 0 (by decide) (by decide +kernel) rfl dX10_walkIt_245 ?_
                    refine lv_aload_n hx hb dX10_walkIt_248 rfl (lv_at hl 4 rfl) ?_
                    refine r_get (ci := 14) (C := RX10) (T := TX10) (N := 21) S F B (kq (by decide) : kd 198 = 21 ∧ 198 < NN) rfl rfl hiX10 0 (by decide) (by decide +kernel) rfl dX10_walkIt_249 ?_
                    refine lv_iload_n hx hb dX10_walkIt_252 rfl (lv_at hl 3 rfl) ?_
                    refine lv_iconst (v := 4) hx hb dX10_walkIt_253 (by decide) ?_
                    refine lv_iadd hx hb dX10_walkIt_254 ?_
                    obtain ⟨hi, ho⟩ := gd_ ho
                    refine r_iald S F B (kq (by decide) : kd 199 = 22 ∧ 199 < NN) rfl hi dX10_walkIt_255 ?_
                    obtain ⟨q46, hq46, ho⟩ := bnd_ ho
                    refine k_iS (As := [.int (σ40 199 (q5 + 4).toNatClampNeg)]) (rest := [.ref (G.2.2 199)]) S F B (c_X10_gardenerAt l G σ40 _ (σ40 199 (q5 + 4).toNatClampNeg) hq46) (va_cwS 1 hts gX10_walkIt_X10_gardenerAt rfl rfl rfl (by decide +kernel) ⟨Nat.le_of_ble_eq_true rfl, Nat.le_of_ble_eq_true rfl⟩) rfl hl.1 rfl (Nat.le_of_ble_eq_true rfl) dX10_walkIt_256 ⟨Nat.le_of_ble_eq_true rfl, Nat.le_of_ble_eq_true rfl⟩ (fun H locs B => ?_)
                    refine lv_dup2_11 hx hb dX10_walkIt_259 rfl rfl ?_
                    obtain ⟨hi, ho⟩ := gd_ ho
                    refine r_iald S F B (kq (by decide) : kd 199 = 22 ∧ 199 < NN) rfl hi dX10_walkIt_260 ?_
                    refine lv_iload hx hb dX10_walkIt_261 (lv_at hl 0 rfl) ?_
                    refine lv_isub hx hb dX10_walkIt_263 ?_
                    obtain ⟨hi, ho⟩ := gd_ ho
                    refine r_iast S F B (kq (by decide) : kd 199 = 22 ∧ 199 < NN) (fun _ => rfl) hi dX10_walkIt_264 (fun H locs B => ?_)
                    obtain ⟨σ47, eσ47, ho⟩ := lt_ ho
                    rw [← eσ47] at B
                    refine lv_aload_n hx hb dX10_walkIt_265 rfl (lv_at hl 4 rfl) ?_
                    refine r_get (ci := 14) (C := RX10) (T := TX10) (N := 21) S F B (kq (by decide) : kd 198 = 21 ∧ 198 < NN) rfl rfl hiX10 0 (by decide) (by decide +kernel) rfl dX10_walkIt_266 ?_
                    refine lv_aload_n hx hb dX10_walkIt_269 rfl (lv_at hl 4 rfl) ?_
                    refine r_get (ci := 14) (C := RX10) (T := TX10) (N := 21) S F B (kq (by decide) : kd 198 = 21 ∧ 198 < NN) rfl rfl hiX10 0 (by decide) (by decide +kernel) rfl dX10_walkIt_270 ?_
                    refine lv_iload_n hx hb dX10_walkIt_273 rfl (lv_at hl 3 rfl) ?_
                    refine lv_iconst (v := 4) hx hb dX10_walkIt_274 (by decide) ?_
                    refine lv_iadd hx hb dX10_walkIt_275 ?_
                    obtain ⟨hi, ho⟩ := gd_ ho
                    refine r_iald S F B (kq (by decide) : kd 199 = 22 ∧ 199 < NN) rfl hi dX10_walkIt_276 ?_
                    obtain ⟨q48, hq48, ho⟩ := bnd_ ho
                    refine k_iS (As := [.int (σ47 199 (q5 + 4).toNatClampNeg)]) (rest := [.ref (G.2.2 199)]) S F B (c_X10_gardenerAt l G σ47 _ (σ47 199 (q5 + 4).toNatClampNeg) hq48) (va_cwS 1 hts gX10_walkIt_X10_gardenerAt rfl rfl rfl (by decide +kernel) ⟨Nat.le_of_ble_eq_true rfl, Nat.le_of_ble_eq_true rfl⟩) rfl hl.1 rfl (Nat.le_of_ble_eq_true rfl) dX10_walkIt_277 ⟨Nat.le_of_ble_eq_true rfl, Nat.le_of_ble_eq_true rfl⟩ (fun H locs B => ?_)
                    refine lv_iconst (v := 2) hx hb dX10_walkIt_280 (by decide) ?_
                    refine lv_iadd hx hb dX10_walkIt_281 ?_
                    refine lv_dup2_11 hx hb dX10_walkIt_282 rfl rfl ?_
                    obtain ⟨hi, ho⟩ := gd_ ho
                    refine r_iald S F B (kq (by decide) : kd 199 = 22 ∧ 199 < NN) rfl hi dX10_walkIt_283 ?_
                    refine lv_iload hx hb dX10_walkIt_284 (lv_at hl 0 rfl) ?_
                    refine lv_iadd hx hb dX10_walkIt_286 ?_
                    obtain ⟨hi, ho⟩ := gd_ ho
                    refine r_iast S F B (kq (by decide) : kd 199 = 22 ∧ 199 < NN) (fun _ => rfl) hi dX10_walkIt_287 (fun H locs B => ?_)
                    obtain ⟨σ49, eσ49, ho⟩ := lt_ ho
                    rw [← eσ49] at B
                    refine lv_aload_n hx hb dX10_walkIt_288 rfl (lv_at hl 4 rfl) ?_
                    refine r_get (ci := 14) (C := RX10) (T := TX10) (N := 21) S F B (kq (by decide) : kd 198 = 21 ∧ 198 < NN) rfl rfl hiX10 0 (by decide) (by decide +kernel) rfl dX10_walkIt_289 ?_
                    refine lv_iload_n hx hb dX10_walkIt_292 rfl (lv_at hl 3 rfl) ?_
                    refine lv_bipush (v := 7) hx hb dX10_walkIt_293 (by decide) ?_
                    refine lv_iadd hx hb dX10_walkIt_295 ?_
                    refine lv_iconst (v := 1) hx hb dX10_walkIt_296 (by decide) ?_
                    obtain ⟨hi, ho⟩ := gd_ ho
                    refine r_iast S F B (kq (by decide) : kd 199 = 22 ∧ 199 < NN) (fun _ => rfl) hi dX10_walkIt_297 (fun H locs B => ?_)
                    obtain ⟨σ50, eσ50, ho⟩ := lt_ ho
                    rw [← eσ50] at B
                    refine lv_aload_n hx hb dX10_walkIt_298 rfl (lv_at hl 4 rfl) ?_
                    refine r_get (ci := 14) (C := RX10) (T := TX10) (N := 21) S F B (kq (by decide) : kd 198 = 21 ∧ 198 < NN) rfl rfl hiX10 0 (by decide) (by decide +kernel) rfl dX10_walkIt_299 ?_
                    refine lv_iload_n hx hb dX10_walkIt_302 rfl (lv_at hl 3 rfl) ?_
                    refine lv_iconst (v := 4) hx hb dX10_walkIt_303 (by decide) ?_
                    refine lv_iadd hx hb dX10_walkIt_304 ?_
                    refine lv_iconst (v := (-1)) hx hb dX10_walkIt_305 (by decide) ?_
                    obtain ⟨hi, ho⟩ := gd_ ho
                    refine r_iast S F B (kq (by decide) : kd 199 = 22 ∧ 199 < NN) (fun _ => rfl) hi dX10_walkIt_306 (fun H locs B => ?_)
                    obtain ⟨σ51, eσ51, ho⟩ := lt_ ho
                    rw [← eσ51] at B
                    refine lv_aload_n hx hb dX10_walkIt_307 rfl (lv_at hl 4 rfl) ?_
                    refine r_get (ci := 14) (C := RX10) (T := TX10) (N := 21) S F B (kq (by decide) : kd 198 = 21 ∧ 198 < NN) rfl rfl hiX10 0 (by decide) (by decide +kernel) rfl dX10_walkIt_308 ?_
                    refine lv_iload_n hx hb dX10_walkIt_311 rfl (lv_at hl 3 rfl) ?_
                    refine lv_iconst (v := 5) hx hb dX10_walkIt_312 (by decide) ?_
                    refine lv_iadd hx hb dX10_walkIt_313 ?_
                    refine lv_iconst (v := 0) hx hb dX10_walkIt_314 (by decide) ?_
                    obtain ⟨hi, ho⟩ := gd_ ho
                    refine r_iast S F B (kq (by decide) : kd 199 = 22 ∧ 199 < NN) (fun _ => rfl) hi dX10_walkIt_315 (fun H locs B => ?_)
                    obtain ⟨σ52, eσ52, ho⟩ := lt_ ho
                    rw [← eσ52] at B
                    refine lv_aload_n hx hb dX10_walkIt_316 rfl (lv_at hl 4 rfl) ?_
                    refine r_get (ci := 14) (C := RX10) (T := TX10) (N := 21) S F B (kq (by decide) : kd 198 = 21 ∧ 198 < NN) rfl rfl hiX10 0 (by decide) (by decide +kernel) rfl dX10_walkIt_317 ?_
                    refine lv_iload_n hx hb dX10_walkIt_320 rfl (lv_at hl 3 rfl) ?_
                    refine lv_bipush (v := 6) hx hb dX10_walkIt_321 (by decide) ?_
                    refine lv_iadd hx hb dX10_walkIt_323 ?_
                    refine lv_iconst (v := 0) hx hb dX10_walkIt_324 (by decide) ?_
                    obtain ⟨hi, ho⟩ := gd_ ho
                    refine r_iast S F B (kq (by decide) : kd 199 = 22 ∧ 199 < NN) (fun _ => rfl) hi dX10_walkIt_325 (fun H locs B => ?_)
                    obtain ⟨σ53, eσ53, ho⟩ := lt_ ho
                    rw [← eσ53] at B
                    refine lv_iload hx hb dX10_walkIt_326 (lv_at hl 1 rfl) ?_
                    cases ho
                    exact e_i B hx hb hr hlocks rfl rfl dX10_walkIt_328
              · have ho := in_ c35 ho
                refine lv_iconst (v := 1) hx hb dX10_walkIt_188 (by decide) ?_
                refine lv_goto (tgt := 201) hx hb dX10_walkIt_189 (by decide) ?_
                obtain ⟨hi, ho⟩ := gd_ ho
                refine r_iast S F B (kq (by decide) : kd 199 = 22 ∧ 199 < NN) (fun _ => rfl) hi dX10_walkIt_201 (fun H locs B => ?_)
                obtain ⟨σ54, eσ54, ho⟩ := lt_ ho
                rw [← eσ54] at B
                refine lv_iload hx hb dX10_walkIt_202 (lv_at hl 0 rfl) ?_
                refine lv_bipush (v := 15) hx hb dX10_walkIt_204 (by decide) ?_
                refine lv_icmp_ne (tgt := 326) hx hb dX10_walkIt_206 (by decide) (fun c55 => ?_) (fun c55 => ?_)
                · have ho := in_ c55 ho
                  refine lv_iload hx hb dX10_walkIt_326 (lv_at hl 0 rfl) ?_
                  cases ho
                  exact e_i B hx hb hr hlocks rfl rfl dX10_walkIt_328
                · have ho := ip_ c55 ho
                  refine lv_aload_n hx hb dX10_walkIt_209 rfl (lv_at hl 3 rfl) ?_
                  refine lv_iload_n hx hb dX10_walkIt_210 rfl (lv_at hl 4 rfl) ?_
                  refine lv_aload_n hx hb dX10_walkIt_211 rfl (lv_at hl 3 rfl) ?_
                  refine lv_iload_n hx hb dX10_walkIt_212 rfl (lv_at hl 4 rfl) ?_
                  obtain ⟨q56, hq56, ho⟩ := bnd_ ho
                  refine k_iV (As := [.int a0]) (rest := [.int a0, .ref (G.2.2 198)]) S F B (c_X10_lostOf l G σ54 _ a0 hq56) (kq (by decide) : kd 198 = 21 ∧ 198 < NN) rfl rfl (cwV 1 hts gX10_walkIt_X10_lostOf rfl rfl rfl (by decide +kernel) ⟨Nat.le_of_ble_eq_true rfl, Nat.le_of_ble_eq_true rfl⟩) rfl hl.1 rfl (Nat.le_of_ble_eq_true rfl) dX10_walkIt_213 ⟨Nat.le_of_ble_eq_true rfl, Nat.le_of_ble_eq_true rfl⟩ (fun H locs B => ?_)
                  obtain ⟨q57, hq57, ho⟩ := bnd_ ho
                  refine k_iV (As := [.int a0, .int q56]) (rest := []) S F B (c_X10_pays l G σ54 _ a0 q56 hq57) (kq (by decide) : kd 198 = 21 ∧ 198 < NN) rfl rfl (cwV 2 hts gX10_walkIt_X10_pays rfl rfl rfl (by decide +kernel) ⟨Nat.le_of_ble_eq_true rfl, Nat.le_of_ble_eq_true rfl⟩) rfl hl.1 rfl (Nat.le_of_ble_eq_true rfl) dX10_walkIt_216 ⟨Nat.le_of_ble_eq_true rfl, Nat.le_of_ble_eq_true rfl⟩ (fun H locs B => ?_)
                  refine lv_istore (lv' := [(6, .int q57), (5, .int q8), (4, .int x7), (3, .int q5), (0, .ref (G.2.2 198)), (1, .int a0), (2, .int a1)]) hx hb dX10_walkIt_219 hl (by decide) rfl (fun ls hl => ?_)
                  refine lv_aload_n hx hb dX10_walkIt_221 rfl (lv_at hl 4 rfl) ?_
                  refine r_get (ci := 14) (C := RX10) (T := TX10) (N := 21) S F B (kq (by decide) : kd 198 = 21 ∧ 198 < NN) rfl rfl hiX10 0 (by decide) (by decide +kernel) rfl dX10_walkIt_222 ?_
                  refine lv_iload_n hx hb dX10_walkIt_225 rfl (lv_at hl 3 rfl) ?_
                  refine lv_dup2_11 hx hb dX10_walkIt_226 rfl rfl ?_
                  obtain ⟨hi, ho⟩ := gd_ ho
                  refine r_iald S F B (kq (by decide) : kd 199 = 22 ∧ 199 < NN) rfl hi dX10_walkIt_227 ?_
                  refine lv_iload hx hb dX10_walkIt_228 (lv_at hl 0 rfl) ?_
                  refine lv_iadd hx hb dX10_walkIt_230 ?_
                  obtain ⟨hi, ho⟩ := gd_ ho
                  refine r_iast S F B (kq (by decide) : kd 199 = 22 ∧ 199 < NN) (fun _ => rfl) hi dX10_walkIt_231 (fun H locs B => ?_)
                  obtain ⟨σ58, eσ58, ho⟩ := lt_ ho
                  rw [← eσ58] at B
                  refine lv_aload_n hx hb dX10_walkIt_232 rfl (lv_at hl 4 rfl) ?_
                  refine r_get (ci := 14) (C := RX10) (T := TX10) (N := 21) S F B (kq (by decide) : kd 198 = 21 ∧ 198 < NN) rfl rfl hiX10 0 (by decide) (by decide +kernel) rfl dX10_walkIt_233 ?_
                  refine lv_iload_n hx hb dX10_walkIt_236 rfl (lv_at hl 3 rfl) ?_
                  refine lv_iconst (v := 4) hx hb dX10_walkIt_237 (by decide) ?_
                  refine lv_iadd hx hb dX10_walkIt_238 ?_
                  obtain ⟨hi, ho⟩ := gd_ ho
                  refine r_iald S F B (kq (by decide) : kd 199 = 22 ∧ 199 < NN) rfl hi dX10_walkIt_239 ?_
                  refine lv_iconst (v := (-1)) hx hb dX10_walkIt_240 (by decide) ?_
                  refine lv_icmp_eq (tgt := 288) hx hb dX10_walkIt_241 (by decide) (fun c59 => ?_) (fun c59 => ?_)
                  · have ho := ip_ c59 ho
                    refine lv_aload_n hx hb dX10_walkIt_288 rfl (lv_at hl 4 rfl) ?_
                    refine r_get (ci := 14) (C := RX10) (T := TX10) (N := 21) S F B (kq (by decide) : kd 198 = 21 ∧ 198 < NN) rfl rfl hiX10 0 (by decide) (by decide +kernel) rfl dX10_walkIt_289 ?_
                    refine lv_iload_n hx hb dX10_walkIt_292 rfl (lv_at hl 3 rfl) ?_
                    refine lv_bipush (v := 7) hx hb dX10_walkIt_293 (by decide) ?_
                    refine lv_iadd hx hb dX10_walkIt_295 ?_
                    refine lv_iconst (v := 1) hx hb dX10_walkIt_296 (by decide) ?_
                    obtain ⟨hi, ho⟩ := gd_ ho
                    refine r_iast S F B (kq (by decide) : kd 199 = 22 ∧ 199 < NN) (fun _ => rfl) hi dX10_walkIt_297 (fun H locs B => ?_)
                    obtain ⟨σ60, eσ60, ho⟩ := lt_ ho
                    rw [← eσ60] at B
                    refine lv_aload_n hx hb dX10_walkIt_298 rfl (lv_at hl 4 rfl) ?_
                    refine r_get (ci := 14) (C := RX10) (T := TX10) (N := 21) S F B (kq (by decide) : kd 198 = 21 ∧ 198 < NN) rfl rfl hiX10 0 (by decide) (by decide +kernel) rfl dX10_walkIt_299 ?_
                    refine lv_iload_n hx hb dX10_walkIt_302 rfl (lv_at hl 3 rfl) ?_
                    refine lv_iconst (v := 4) hx hb dX10_walkIt_303 (by decide) ?_
                    refine lv_iadd hx hb dX10_walkIt_304 ?_
                    refine lv_iconst (v := (-1)) hx hb dX10_walkIt_305 (by decide) ?_
                    obtain ⟨hi, ho⟩ := gd_ ho
                    refine r_iast S F B (kq (by decide) : kd 199 = 22 ∧ 199 < NN) (fun _ => rfl) hi dX10_walkIt_306 (fun H locs B => ?_)
                    obtain ⟨σ61, eσ61, ho⟩ := lt_ ho
                    rw [← eσ61] at B
                    refine lv_aload_n hx hb dX10_walkIt_307 rfl (lv_at hl 4 rfl) ?_
                    refine r_get (ci := 14) (C := RX10) (T := TX10) (N := 21) S F B (kq (by decide) : kd 198 = 21 ∧ 198 < NN) rfl rfl hiX10 0 (by decide) (by decide +kernel) rfl dX10_walkIt_308 ?_
                    refine lv_iload_n hx hb dX10_walkIt_311 rfl (lv_at hl 3 rfl) ?_
                    refine lv_iconst (v := 5) hx hb dX10_walkIt_312 (by decide) ?_
                    refine lv_iadd hx hb dX10_walkIt_313 ?_
                    refine lv_iconst (v := 0) hx hb dX10_walkIt_314 (by decide) ?_
                    obtain ⟨hi, ho⟩ := gd_ ho
                    refine r_iast S F B (kq (by decide) : kd 199 = 22 ∧ 199 < NN) (fun _ => rfl) hi dX10_walkIt_315 (fun H locs B => ?_)
                    obtain ⟨σ62, eσ62, ho⟩ := lt_ ho
                    rw [← eσ62] at B
                    refine lv_aload_n hx hb dX10_walkIt_316 rfl (lv_at hl 4 rfl) ?_
                    refine r_get (ci := 14) (C := RX10) (T := TX10) (N := 21) S F B (kq (by decide) : kd 198 = 21 ∧ 198 < NN) rfl rfl hiX10 0 (by decide) (by decide +kernel) rfl dX10_walkIt_317 ?_
                    refine lv_iload_n hx hb dX10_walkIt_320 rfl (lv_at hl 3 rfl) ?_
                    refine lv_bipush (v := 6) hx hb dX10_walkIt_321 (by decide) ?_
                    refine lv_iadd hx hb dX10_walkIt_323 ?_
                    refine lv_iconst (v := 0) hx hb dX10_walkIt_324 (by decide) ?_
                    obtain ⟨hi, ho⟩ := gd_ ho
                    refine r_iast S F B (kq (by decide) : kd 199 = 22 ∧ 199 < NN) (fun _ => rfl) hi dX10_walkIt_325 (fun H locs B => ?_)
                    obtain ⟨σ63, eσ63, ho⟩ := lt_ ho
                    rw [← eσ63] at B
                    refine lv_iload hx hb dX10_walkIt_326 (lv_at hl 1 rfl) ?_
                    cases ho
                    exact e_i B hx hb hr hlocks rfl rfl dX10_walkIt_328
                  · have ho := in_ c59 ho
                    refine lv_aload_n hx hb dX10_walkIt_244 rfl (lv_at hl 4 rfl) ?_
                    refine r_get (ci := 14) (C := RX10) (T := TX10) (N := 21) S F B (kq (by decide) : kd 198 = 21 ∧ 198 < NN) rfl rfl hiX10 0 (by decide) (by decide +kernel) rfl dX10_walkIt_245 ?_
                    refine lv_aload_n hx hb dX10_walkIt_248 rfl (lv_at hl 4 rfl) ?_
                    refine r_get (ci := 14) (C := RX10) (T := TX10) (N := 21) S F B (kq (by decide) : kd 198 = 21 ∧ 198 < NN) rfl rfl hiX10 0 (by decide) (by decide +kernel) rfl dX10_walkIt_249 ?_
                    refine lv_iload_n hx hb dX10_walkIt_252 rfl (lv_at hl 3 rfl) ?_
                    refine lv_iconst (v := 4) hx hb dX10_walkIt_253 (by decide) ?_
                    refine lv_iadd hx hb dX10_walkIt_254 ?_
                    obtain ⟨hi, ho⟩ := gd_ ho
                    refine r_iald S F B (kq (by decide) : kd 199 = 22 ∧ 199 < NN) rfl hi dX10_walkIt_255 ?_
                    obtain ⟨q64, hq64, ho⟩ := bnd_ ho
                    refine k_iS (As := [.int (σ58 199 (q5 + 4).toNatClampNeg)]) (rest := [.ref (G.2.2 199)]) S F B (c_X10_gardenerAt l G σ58 _ (σ58 199 (q5 + 4).toNatClampNeg) hq64) (va_cwS 1 hts gX10_walkIt_X10_gardenerAt rfl rfl rfl (by decide +kernel) ⟨Nat.le_of_ble_eq_true rfl, Nat.le_of_ble_eq_true rfl⟩) rfl hl.1 rfl (Nat.le_of_ble_eq_true rfl) dX10_walkIt_256 ⟨Nat.le_of_ble_eq_true rfl, Nat.le_of_ble_eq_true rfl⟩ (fun H locs B => ?_)
                    refine lv_dup2_11 hx hb dX10_walkIt_259 rfl rfl ?_
                    obtain ⟨hi, ho⟩ := gd_ ho
                    refine r_iald S F B (kq (by decide) : kd 199 = 22 ∧ 199 < NN) rfl hi dX10_walkIt_260 ?_
                    refine lv_iload hx hb dX10_walkIt_261 (lv_at hl 0 rfl) ?_
                    refine lv_isub hx hb dX10_walkIt_263 ?_
                    obtain ⟨hi, ho⟩ := gd_ ho
                    refine r_iast S F B (kq (by decide) : kd 199 = 22 ∧ 199 < NN) (fun _ => rfl) hi dX10_walkIt_264 (fun H locs B => ?_)
                    obtain ⟨σ65, eσ65, ho⟩ := lt_ ho
                    rw [← eσ65] at B
                    refine lv_aload_n hx hb dX10_walkIt_265 rfl (lv_at hl 4 rfl) ?_
                    refine r_get (ci := 14) (C := RX10) (T := TX10) (N := 21) S F B (kq (by decide) : kd 198 = 21 ∧ 198 < NN) rfl rfl hiX10 0 (by decide) (by decide +kernel) rfl dX10_walkIt_266 ?_
                    refine lv_aload_n hx hb dX10_walkIt_269 rfl (lv_at hl 4 rfl) ?_
                    refine r_get (ci := 14) (C := RX10) (T := TX10) (N := 21) S F B (kq (by decide) : kd 198 = 21 ∧ 198 < NN) rfl rfl hiX10 0 (by decide) (by decide +kernel) rfl dX10_walkIt_270 ?_
                    refine lv_iload_n hx hb dX10_walkIt_273 rfl (lv_at hl 3 rfl) ?_
                    refine lv_iconst (v := 4) hx hb dX10_walkIt_274 (by decide) ?_
                    refine lv_iadd hx hb dX10_walkIt_275 ?_
                    obtain ⟨hi, ho⟩ := gd_ ho
                    refine r_iald S F B (kq (by decide) : kd 199 = 22 ∧ 199 < NN) rfl hi dX10_walkIt_276 ?_
                    obtain ⟨q66, hq66, ho⟩ := bnd_ ho
                    refine k_iS (As := [.int (σ65 199 (q5 + 4).toNatClampNeg)]) (rest := [.ref (G.2.2 199)]) S F B (c_X10_gardenerAt l G σ65 _ (σ65 199 (q5 + 4).toNatClampNeg) hq66) (va_cwS 1 hts gX10_walkIt_X10_gardenerAt rfl rfl rfl (by decide +kernel) ⟨Nat.le_of_ble_eq_true rfl, Nat.le_of_ble_eq_true rfl⟩) rfl hl.1 rfl (Nat.le_of_ble_eq_true rfl) dX10_walkIt_277 ⟨Nat.le_of_ble_eq_true rfl, Nat.le_of_ble_eq_true rfl⟩ (fun H locs B => ?_)
                    refine lv_iconst (v := 2) hx hb dX10_walkIt_280 (by decide) ?_
                    refine lv_iadd hx hb dX10_walkIt_281 ?_
                    refine lv_dup2_11 hx hb dX10_walkIt_282 rfl rfl ?_
                    obtain ⟨hi, ho⟩ := gd_ ho
                    refine r_iald S F B (kq (by decide) : kd 199 = 22 ∧ 199 < NN) rfl hi dX10_walkIt_283 ?_
                    refine lv_iload hx hb dX10_walkIt_284 (lv_at hl 0 rfl) ?_
                    refine lv_iadd hx hb dX10_walkIt_286 ?_
                    obtain ⟨hi, ho⟩ := gd_ ho
                    refine r_iast S F B (kq (by decide) : kd 199 = 22 ∧ 199 < NN) (fun _ => rfl) hi dX10_walkIt_287 (fun H locs B => ?_)
                    obtain ⟨σ67, eσ67, ho⟩ := lt_ ho
                    rw [← eσ67] at B
                    refine lv_aload_n hx hb dX10_walkIt_288 rfl (lv_at hl 4 rfl) ?_
                    refine r_get (ci := 14) (C := RX10) (T := TX10) (N := 21) S F B (kq (by decide) : kd 198 = 21 ∧ 198 < NN) rfl rfl hiX10 0 (by decide) (by decide +kernel) rfl dX10_walkIt_289 ?_
                    refine lv_iload_n hx hb dX10_walkIt_292 rfl (lv_at hl 3 rfl) ?_
                    refine lv_bipush (v := 7) hx hb dX10_walkIt_293 (by decide) ?_
                    refine lv_iadd hx hb dX10_walkIt_295 ?_
                    refine lv_iconst (v := 1) hx hb dX10_walkIt_296 (by decide) ?_
                    obtain ⟨hi, ho⟩ := gd_ ho
                    refine r_iast S F B (kq (by decide) : kd 199 = 22 ∧ 199 < NN) (fun _ => rfl) hi dX10_walkIt_297 (fun H locs B => ?_)
                    obtain ⟨σ68, eσ68, ho⟩ := lt_ ho
                    rw [← eσ68] at B
                    refine lv_aload_n hx hb dX10_walkIt_298 rfl (lv_at hl 4 rfl) ?_
                    refine r_get (ci := 14) (C := RX10) (T := TX10) (N := 21) S F B (kq (by decide) : kd 198 = 21 ∧ 198 < NN) rfl rfl hiX10 0 (by decide) (by decide +kernel) rfl dX10_walkIt_299 ?_
                    refine lv_iload_n hx hb dX10_walkIt_302 rfl (lv_at hl 3 rfl) ?_
                    refine lv_iconst (v := 4) hx hb dX10_walkIt_303 (by decide) ?_
                    refine lv_iadd hx hb dX10_walkIt_304 ?_
                    refine lv_iconst (v := (-1)) hx hb dX10_walkIt_305 (by decide) ?_
                    obtain ⟨hi, ho⟩ := gd_ ho
                    refine r_iast S F B (kq (by decide) : kd 199 = 22 ∧ 199 < NN) (fun _ => rfl) hi dX10_walkIt_306 (fun H locs B => ?_)
                    obtain ⟨σ69, eσ69, ho⟩ := lt_ ho
                    rw [← eσ69] at B
                    refine lv_aload_n hx hb dX10_walkIt_307 rfl (lv_at hl 4 rfl) ?_
                    refine r_get (ci := 14) (C := RX10) (T := TX10) (N := 21) S F B (kq (by decide) : kd 198 = 21 ∧ 198 < NN) rfl rfl hiX10 0 (by decide) (by decide +kernel) rfl dX10_walkIt_308 ?_
                    refine lv_iload_n hx hb dX10_walkIt_311 rfl (lv_at hl 3 rfl) ?_
                    refine lv_iconst (v := 5) hx hb dX10_walkIt_312 (by decide) ?_
                    refine lv_iadd hx hb dX10_walkIt_313 ?_
                    refine lv_iconst (v := 0) hx hb dX10_walkIt_314 (by decide) ?_
                    obtain ⟨hi, ho⟩ := gd_ ho
                    refine r_iast S F B (kq (by decide) : kd 199 = 22 ∧ 199 < NN) (fun _ => rfl) hi dX10_walkIt_315 (fun H locs B => ?_)
                    obtain ⟨σ70, eσ70, ho⟩ := lt_ ho
                    rw [← eσ70] at B
                    refine lv_aload_n hx hb dX10_walkIt_316 rfl (lv_at hl 4 rfl) ?_
                    refine r_get (ci := 14) (C := RX10) (T := TX10) (N := 21) S F B (kq (by decide) : kd 198 = 21 ∧ 198 < NN) rfl rfl hiX10 0 (by decide) (by decide +kernel) rfl dX10_walkIt_317 ?_
                    refine lv_iload_n hx hb dX10_walkIt_320 rfl (lv_at hl 3 rfl) ?_
                    refine lv_bipush (v := 6) hx hb dX10_walkIt_321 (by decide) ?_
                    refine lv_iadd hx hb dX10_walkIt_323 ?_
                    refine lv_iconst (v := 0) hx hb dX10_walkIt_324 (by decide) ?_
                    obtain ⟨hi, ho⟩ := gd_ ho
                    refine r_iast S F B (kq (by decide) : kd 199 = 22 ∧ 199 < NN) (fun _ => rfl) hi dX10_walkIt_325 (fun H locs B => ?_)
                    obtain ⟨σ71, eσ71, ho⟩ := lt_ ho
                    rw [← eσ71] at B
                    refine lv_iload hx hb dX10_walkIt_326 (lv_at hl 1 rfl) ?_
                    cases ho
                    exact e_i B hx hb hr hlocks rfl rfl dX10_walkIt_328
          · have ho := ip_ c12 ho
            refine lv_aload_n hx hb dX10_walkIt_120 rfl (lv_at hl 3 rfl) ?_
            refine lv_bipush (v := 12) hx hb dX10_walkIt_121 (by decide) ?_
            refine lv_aload_n hx hb dX10_walkIt_123 rfl (lv_at hl 3 rfl) ?_
            refine r_get (ci := 14) (C := RX10) (T := TX10) (N := 21) S F B (kq (by decide) : kd 198 = 21 ∧ 198 < NN) rfl rfl hiX10 0 (by decide) (by decide +kernel) rfl dX10_walkIt_124 ?_
            refine lv_iload hx hb dX10_walkIt_127 (lv_at hl 1 rfl) ?_
            refine lv_iload hx hb dX10_walkIt_129 (lv_at hl 0 rfl) ?_
            obtain ⟨q72, hq72, ho⟩ := bnd_ ho
            refine k_iS (As := [.int x7, .int q8]) (rest := [.ref (G.2.2 199), .int 12, .ref (G.2.2 198)]) S F B (c_X10_hedgeAt l G σ _ x7 q8 hq72) (va_cwS 2 hts gX10_walkIt_X10_hedgeAt rfl rfl rfl (by decide +kernel) ⟨Nat.le_of_ble_eq_true rfl, Nat.le_of_ble_eq_true rfl⟩) rfl hl.1 rfl (Nat.le_of_ble_eq_true rfl) dX10_walkIt_131 ⟨Nat.le_of_ble_eq_true rfl, Nat.le_of_ble_eq_true rfl⟩ (fun H locs B => ?_)
            obtain ⟨hi, ho⟩ := gd_ ho
            refine r_iald S F B (kq (by decide) : kd 199 = 22 ∧ 199 < NN) rfl hi dX10_walkIt_134 ?_
            obtain ⟨q73, σ74, hq73, ho⟩ := bnm_ ho
            refine k_iV (As := [.int 12, .int (σ 199 q72.toNatClampNeg)]) (rest := []) S F B (c_X10_refuse l G σ _ 12 (σ 199 q72.toNatClampNeg) hq73) (kq (by decide) : kd 198 = 21 ∧ 198 < NN) rfl rfl (cwV 2 hts gX10_walkIt_X10_refuse rfl rfl rfl (by decide +kernel) ⟨Nat.le_of_ble_eq_true rfl, Nat.le_of_ble_eq_true rfl⟩) rfl hl.1 rfl (Nat.le_of_ble_eq_true rfl) dX10_walkIt_135 ⟨Nat.le_of_ble_eq_true rfl, Nat.le_of_ble_eq_true rfl⟩ (fun H locs B => ?_)
            cases ho
            exact e_i B hx hb hr hlocks rfl rfl dX10_walkIt_138
        · have ho := ip_ c9 ho
          refine lv_aload_n hx hb dX10_walkIt_97 rfl (lv_at hl 3 rfl) ?_
          refine lv_bipush (v := 11) hx hb dX10_walkIt_98 (by decide) ?_
          refine lv_iload hx hb dX10_walkIt_100 (lv_at hl 1 rfl) ?_
          obtain ⟨q75, σ76, hq75, ho⟩ := bnm_ ho
          refine k_iV (As := [.int 11, .int x7]) (rest := []) S F B (c_X10_refuse l G σ _ 11 x7 hq75) (kq (by decide) : kd 198 = 21 ∧ 198 < NN) rfl rfl (cwV 2 hts gX10_walkIt_X10_refuse rfl rfl rfl (by decide +kernel) ⟨Nat.le_of_ble_eq_true rfl, Nat.le_of_ble_eq_true rfl⟩) rfl hl.1 rfl (Nat.le_of_ble_eq_true rfl) dX10_walkIt_102 ⟨Nat.le_of_ble_eq_true rfl, Nat.le_of_ble_eq_true rfl⟩ (fun H locs B => ?_)
          cases ho
          exact e_i B hx hb hr hlocks rfl rfl dX10_walkIt_105
      · have ho := ip_ c6 ho
        refine lv_aload_n hx hb dX10_walkIt_58 rfl (lv_at hl 1 rfl) ?_
        refine lv_bipush (v := 9) hx hb dX10_walkIt_59 (by decide) ?_
        refine lv_aload_n hx hb dX10_walkIt_61 rfl (lv_at hl 1 rfl) ?_
        refine r_get (ci := 14) (C := RX10) (T := TX10) (N := 21) S F B (kq (by decide) : kd 198 = 21 ∧ 198 < NN) rfl rfl hiX10 0 (by decide) (by decide +kernel) rfl dX10_walkIt_62 ?_
        refine lv_iload_n hx hb dX10_walkIt_65 rfl (lv_at hl 0 rfl) ?_
        refine lv_iconst (v := 2) hx hb dX10_walkIt_66 (by decide) ?_
        refine lv_iadd hx hb dX10_walkIt_67 ?_
        obtain ⟨hi, ho⟩ := gd_ ho
        refine r_iald S F B (kq (by decide) : kd 199 = 22 ∧ 199 < NN) rfl hi dX10_walkIt_68 ?_
        obtain ⟨q77, σ78, hq77, ho⟩ := bnm_ ho
        refine k_iV (As := [.int 9, .int (σ 199 (q5 + 2).toNatClampNeg)]) (rest := []) S F B (c_X10_refuse l G σ _ 9 (σ 199 (q5 + 2).toNatClampNeg) hq77) (kq (by decide) : kd 198 = 21 ∧ 198 < NN) rfl rfl (cwV 2 hts gX10_walkIt_X10_refuse rfl rfl rfl (by decide +kernel) ⟨Nat.le_of_ble_eq_true rfl, Nat.le_of_ble_eq_true rfl⟩) rfl hl.1 rfl (Nat.le_of_ble_eq_true rfl) dX10_walkIt_69 ⟨Nat.le_of_ble_eq_true rfl, Nat.le_of_ble_eq_true rfl⟩ (fun H locs B => ?_)
        cases ho
        exact e_i B hx hb hr hlocks rfl rfl dX10_walkIt_72
    · have ho := ip_ c4 ho
      refine lv_aload_n hx hb dX10_walkIt_33 rfl (lv_at hl 0 rfl) ?_
      refine lv_iconst (v := 1) hx hb dX10_walkIt_34 (by decide) ?_
      refine lv_iconst (v := 0) hx hb dX10_walkIt_35 (by decide) ?_
      obtain ⟨q79, σ80, hq79, ho⟩ := bnm_ ho
      refine k_iV (As := [.int 1, .int 0]) (rest := []) S F B (c_X10_refuse l G σ _ 1 0 hq79) (kq (by decide) : kd 198 = 21 ∧ 198 < NN) rfl rfl (cwV 2 hts gX10_walkIt_X10_refuse rfl rfl rfl (by decide +kernel) ⟨Nat.le_of_ble_eq_true rfl, Nat.le_of_ble_eq_true rfl⟩) rfl hl.1 rfl (Nat.le_of_ble_eq_true rfl) dX10_walkIt_36 ⟨Nat.le_of_ble_eq_true rfl, Nat.le_of_ble_eq_true rfl⟩ (fun H locs B => ?_)
      cases ho
      exact e_i B hx hb hr hlocks rfl rfl dX10_walkIt_39
  · have ho := ip_ c2 ho
    refine lv_aload_n hx hb dX10_walkIt_8 rfl (lv_at hl 0 rfl) ?_
    refine lv_bipush (v := 7) hx hb dX10_walkIt_9 (by decide) ?_
    refine lv_aload_n hx hb dX10_walkIt_11 rfl (lv_at hl 0 rfl) ?_
    refine r_get (ci := 14) (C := RX10) (T := TX10) (N := 21) S F B (kq (by decide) : kd 198 = 21 ∧ 198 < NN) rfl rfl hiX10 0 (by decide) (by decide +kernel) rfl dX10_walkIt_12 ?_
    refine lv_iconst (v := 1) hx hb dX10_walkIt_15 (by decide) ?_
    refine r_ialdc (j := 1) S F B (kq (by decide) : kd 199 = 22 ∧ 199 < NN) rfl (vpc (by decide)) (by decide) dX10_walkIt_16 ?_
    obtain ⟨q81, σ82, hq81, ho⟩ := bnm_ ho
    refine k_iV (As := [.int 7, .int (σ 199 1)]) (rest := []) S F B (c_X10_refuse l G σ _ 7 (σ 199 1) hq81) (kq (by decide) : kd 198 = 21 ∧ 198 < NN) rfl rfl (cwV 2 hts gX10_walkIt_X10_refuse rfl rfl rfl (by decide +kernel) ⟨Nat.le_of_ble_eq_true rfl, Nat.le_of_ble_eq_true rfl⟩) rfl hl.1 rfl (Nat.le_of_ble_eq_true rfl) dX10_walkIt_17 ⟨Nat.le_of_ble_eq_true rfl, Nat.le_of_ble_eq_true rfl⟩ (fun H locs B => ?_)
    cases ho
    exact e_i B hx hb hr hlocks rfl rfl dX10_walkIt_20

