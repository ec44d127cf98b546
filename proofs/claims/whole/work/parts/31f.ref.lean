set_option maxHeartbeats 4000000 in
set_option maxRecDepth 100000 in
theorem c_X10_bondIt (l : Launch) (G : Gd) (σ : Mm) (sz : Nat) (a0 : Int32) (a1 : Int32) (a2 : Int32) {out : Int32 × Mm} (ho : f_X10_bondIt a0 a1 a2 σ = some out) : Met l yX10_bondIt wsX10_bondIt { frames := 2, cells := 0, slots := 0, locals := 46 } (va_Pc [.ref (G.2.2 198), .int a0, .int a1, .int a2] (PW G σ sz)) (Qi G sz out.1 out.2) 0 0 (AA G sz) := by
  refine Met.ofW (cc := cX10_bondIt) (maxL := 5) (ret := (some .int)) (by decide) rfl ?_
  intro p e s m args below meth c s₁ B0 hml hv
  obtain ⟨rfl, hpw⟩ := hv
  have hsz := hpw.1
  subst hsz
  obtain ⟨F, B⟩ := hpw.to
  have hx := B0.exec
  have hb := B0.bytes
  have hr := B0.returns
  have hts := atoms_spec (ws := wsX10_bondIt) B0.pre
  have hown : s.vm.findClass RX10 = some m.cls := findClass_of_methodNamed B0.named
  have hlocks := B0.notSynchronized
  have S : CallFix p m c cX10_bondIt 5 s _ wsX10_bondIt RX10 := ⟨hx, hb, hml, hown, hts⟩
  have hiX10 : ∀ w ∈ u_ws RX10 TX10 21, w ∈ wsX10_bondIt := by decide +kernel
  have hl := lv_entry [.ref (G.2.2 198), .int a0, .int a1, .int a2] (n := 5) (Nat.le_of_ble_eq_true rfl)
  rw [lg_entry_eq]
  generalize (lg_sl [.ref (G.2.2 198), .int a0, .int a1, .int a2] ++ List.replicate (5 - (lg_sl [.ref (G.2.2 198), .int a0, .int a1, .int a2]).length) Slot.unset).toArray = ls at hl ⊢
  have hl : lv_has ls 5 [(0, .ref (G.2.2 198)), (1, .int a0), (2, .int a1), (3, .int a2)] := hl
  unfold f_X10_bondIt at ho
  refine lv_aload_n hx hb dX10_bondIt_0 rfl (lv_at hl 0 rfl) ?_
  refine lv_iload_n hx hb dX10_bondIt_1 rfl (lv_at hl 1 rfl) ?_
  obtain ⟨q1, hq1, ho⟩ := bnd_ ho
  refine k_iV (As := [.int a0]) (rest := []) S F B (c_X10_isGardener l G σ _ a0 hq1) (kq (by decide) : kd 198 = 21 ∧ 198 < NN) rfl rfl (cwV 1 hts gX10_bondIt_X10_isGardener rfl rfl rfl (by decide +kernel) ⟨Nat.le_of_ble_eq_true rfl, Nat.le_of_ble_eq_true rfl⟩) rfl hl.1 rfl (Nat.le_of_ble_eq_true rfl) dX10_bondIt_2 ⟨Nat.le_of_ble_eq_true rfl, Nat.le_of_ble_eq_true rfl⟩ (fun H locs B => ?_)
  refine lv_if_ne (tgt := 20) hx hb dX10_bondIt_5 (by decide) (fun c2 => ?_) (fun c2 => ?_)
  · have ho := in_ c2 ho
    refine lv_aload_n hx hb dX10_bondIt_20 rfl (lv_at hl 0 rfl) ?_
    refine lv_iload_n hx hb dX10_bondIt_21 rfl (lv_at hl 2 rfl) ?_
    obtain ⟨q3, hq3, ho⟩ := bnd_ ho
    refine k_iV (As := [.int a1]) (rest := []) S F B (c_X10_isVisitor l G σ _ a1 hq3) (kq (by decide) : kd 198 = 21 ∧ 198 < NN) rfl rfl (cwV 1 hts gX10_bondIt_X10_isVisitor rfl rfl rfl (by decide +kernel) ⟨Nat.le_of_ble_eq_true rfl, Nat.le_of_ble_eq_true rfl⟩) rfl hl.1 rfl (Nat.le_of_ble_eq_true rfl) dX10_bondIt_22 ⟨Nat.le_of_ble_eq_true rfl, Nat.le_of_ble_eq_true rfl⟩ (fun H locs B => ?_)
    refine lv_if_ne (tgt := 41) hx hb dX10_bondIt_25 (by decide) (fun c4 => ?_) (fun c4 => ?_)
    · have ho := in_ c4 ho
      refine lv_iload_n hx hb dX10_bondIt_41 rfl (lv_at hl 3 rfl) ?_
      refine lv_i2l hx hb dX10_bondIt_42 rfl ?_
      refine lv_lconst (v := 1) hx hb dX10_bondIt_43 (by decide) ?_
      refine lv_ldc2 (v := 5) hx hb hown (hts _ (by decide +kernel)) dX10_bondIt_44 ?_
      obtain ⟨q5, hq5, ho⟩ := bnd_ ho
      refine k_iS (As := [.long a2.toInt64, .long 1, .long 5]) (rest := []) S F B (c_X10_in l G σ _ a2.toInt64 1 5 hq5) (va_cwS 3 hts gX10_bondIt_X10_in rfl rfl rfl (by decide +kernel) ⟨Nat.le_of_ble_eq_true rfl, Nat.le_of_ble_eq_true rfl⟩) rfl hl.1 rfl (Nat.le_of_ble_eq_true rfl) dX10_bondIt_47 ⟨Nat.le_of_ble_eq_true rfl, Nat.le_of_ble_eq_true rfl⟩ (fun H locs B => ?_)
      refine lv_if_ne (tgt := 60) hx hb dX10_bondIt_50 (by decide) (fun c6 => ?_) (fun c6 => ?_)
      · have ho := in_ c6 ho
        refine lv_iload_n hx hb dX10_bondIt_60 rfl (lv_at hl 2 rfl) ?_
        obtain ⟨q7, hq7, ho⟩ := bnd_ ho
        refine k_iS (As := [.int a1]) (rest := []) S F B (c_X10_visitorAt l G σ _ a1 hq7) (va_cwS 1 hts gX10_bondIt_X10_visitorAt rfl rfl rfl (by decide +kernel) ⟨Nat.le_of_ble_eq_true rfl, Nat.le_of_ble_eq_true rfl⟩) rfl hl.1 rfl (Nat.le_of_ble_eq_true rfl) dX10_bondIt_61 ⟨Nat.le_of_ble_eq_true rfl, Nat.le_of_ble_eq_true rfl⟩ (fun H locs B => ?_)
        refine lv_istore (lv' := [(4, .int q7), (0, .ref (G.2.2 198)), (1, .int a0), (2, .int a1), (3, .int a2)]) hx hb dX10_bondIt_64 hl (by decide) rfl (fun ls hl => ?_)
        refine lv_aload_n hx hb dX10_bondIt_66 rfl (lv_at hl 1 rfl) ?_
        refine r_get (ci := 14) (C := RX10) (T := TX10) (N := 21) S F B (kq (by decide) : kd 198 = 21 ∧ 198 < NN) rfl rfl hiX10 0 (by decide) (by decide +kernel) rfl dX10_bondIt_67 ?_
        refine lv_iload hx hb dX10_bondIt_70 (lv_at hl 0 rfl) ?_
        refine lv_bipush (v := 7) hx hb dX10_bondIt_72 (by decide) ?_
        refine lv_iadd hx hb dX10_bondIt_74 ?_
        obtain ⟨hi, ho⟩ := gd_ ho
        refine r_iald S F B (kq (by decide) : kd 199 = 22 ∧ 199 < NN) rfl hi dX10_bondIt_75 ?_
        refine lv_iconst (v := 1) hx hb dX10_bondIt_76 (by decide) ?_
        refine lv_icmp_ne (tgt := 96) hx hb dX10_bondIt_77 (by decide) (fun c8 => ?_) (fun c8 => ?_)
        · have ho := in_ c8 ho
          refine lv_aload_n hx hb dX10_bondIt_96 rfl (lv_at hl 1 rfl) ?_
          refine r_get (ci := 14) (C := RX10) (T := TX10) (N := 21) S F B (kq (by decide) : kd 198 = 21 ∧ 198 < NN) rfl rfl hiX10 0 (by decide) (by decide +kernel) rfl dX10_bondIt_97 ?_
          refine lv_iload hx hb dX10_bondIt_100 (lv_at hl 0 rfl) ?_
          refine lv_iconst (v := 4) hx hb dX10_bondIt_102 (by decide) ?_
          refine lv_iadd hx hb dX10_bondIt_103 ?_
          obtain ⟨hi, ho⟩ := gd_ ho
          refine r_iald S F B (kq (by decide) : kd 199 = 22 ∧ 199 < NN) rfl hi dX10_bondIt_104 ?_
          refine lv_iconst (v := (-1)) hx hb dX10_bondIt_105 (by decide) ?_
          refine lv_icmp_eq (tgt := 125) hx hb dX10_bondIt_106 (by decide) (fun c9 => ?_) (fun c9 => ?_)
          · have ho := ip_ c9 ho
            refine lv_aload_n hx hb dX10_bondIt_125 rfl (lv_at hl 1 rfl) ?_
            refine lv_iload_n hx hb dX10_bondIt_126 rfl (lv_at hl 3 rfl) ?_
            obtain ⟨q10, hq10, ho⟩ := bnd_ ho
            refine k_iV (As := [.int a1]) (rest := []) S F B (c_X10_meets l G σ _ a1 hq10) (kq (by decide) : kd 198 = 21 ∧ 198 < NN) rfl rfl (cwV 1 hts gX10_bondIt_X10_meets rfl rfl rfl (by decide +kernel) ⟨Nat.le_of_ble_eq_true rfl, Nat.le_of_ble_eq_true rfl⟩) rfl hl.1 rfl (Nat.le_of_ble_eq_true rfl) dX10_bondIt_127 ⟨Nat.le_of_ble_eq_true rfl, Nat.le_of_ble_eq_true rfl⟩ (fun H locs B => ?_)
            refine lv_if_eq (tgt := 146) hx hb dX10_bondIt_130 (by decide) (fun c11 => ?_) (fun c11 => ?_)
            · have ho := ip_ c11 ho
              refine lv_aload_n hx hb dX10_bondIt_146 rfl (lv_at hl 1 rfl) ?_
              refine r_get (ci := 14) (C := RX10) (T := TX10) (N := 21) S F B (kq (by decide) : kd 198 = 21 ∧ 198 < NN) rfl rfl hiX10 0 (by decide) (by decide +kernel) rfl dX10_bondIt_147 ?_
              refine lv_iload hx hb dX10_bondIt_150 (lv_at hl 0 rfl) ?_
              obtain ⟨hi, ho⟩ := gd_ ho
              refine r_iald S F B (kq (by decide) : kd 199 = 22 ∧ 199 < NN) rfl hi dX10_bondIt_152 ?_
              refine lv_iconst (v := 2) hx hb dX10_bondIt_153 (by decide) ?_
              refine lv_iload_n hx hb dX10_bondIt_154 rfl (lv_at hl 4 rfl) ?_
              refine lv_imul hx hb dX10_bondIt_155 ?_
              refine lv_icmp_ge (tgt := 176) hx hb dX10_bondIt_156 (by decide) (fun c12 => ?_) (fun c12 => ?_)
              · have ho := ip_ c12 ho
                refine lv_aload_n hx hb dX10_bondIt_176 rfl (lv_at hl 1 rfl) ?_
                refine r_get (ci := 14) (C := RX10) (T := TX10) (N := 21) S F B (kq (by decide) : kd 198 = 21 ∧ 198 < NN) rfl rfl hiX10 0 (by decide) (by decide +kernel) rfl dX10_bondIt_177 ?_
                refine lv_iload hx hb dX10_bondIt_180 (lv_at hl 0 rfl) ?_
                refine lv_dup2_11 hx hb dX10_bondIt_182 rfl rfl ?_
                obtain ⟨hi, ho⟩ := gd_ ho
                refine r_iald S F B (kq (by decide) : kd 199 = 22 ∧ 199 < NN) rfl hi dX10_bondIt_183 ?_
                refine lv_iconst (v := 2) hx hb dX10_bondIt_184 (by decide) ?_
                refine lv_iload_n hx hb dX10_bondIt_185 rfl (lv_at hl 4 rfl) ?_
                refine lv_imul hx hb dX10_bondIt_186 ?_
                refine lv_isub hx hb dX10_bondIt_187 ?_
                obtain ⟨hi, ho⟩ := gd_ ho
                refine r_iast S F B (kq (by decide) : kd 199 = 22 ∧ 199 < NN) (fun _ => rfl) hi dX10_bondIt_188 (fun H locs B => ?_)
                obtain ⟨σ13, eσ13, ho⟩ := lt_ ho
                rw [← eσ13] at B
                refine lv_aload_n hx hb dX10_bondIt_189 rfl (lv_at hl 1 rfl) ?_
                refine r_get (ci := 14) (C := RX10) (T := TX10) (N := 21) S F B (kq (by decide) : kd 198 = 21 ∧ 198 < NN) rfl rfl hiX10 0 (by decide) (by decide +kernel) rfl dX10_bondIt_190 ?_
                refine lv_iload hx hb dX10_bondIt_193 (lv_at hl 0 rfl) ?_
                refine lv_iconst (v := 4) hx hb dX10_bondIt_195 (by decide) ?_
                refine lv_iadd hx hb dX10_bondIt_196 ?_
                refine lv_iload_n hx hb dX10_bondIt_197 rfl (lv_at hl 2 rfl) ?_
                obtain ⟨hi, ho⟩ := gd_ ho
                refine r_iast S F B (kq (by decide) : kd 199 = 22 ∧ 199 < NN) (fun _ => rfl) hi dX10_bondIt_198 (fun H locs B => ?_)
                obtain ⟨σ14, eσ14, ho⟩ := lt_ ho
                rw [← eσ14] at B
                refine lv_aload_n hx hb dX10_bondIt_199 rfl (lv_at hl 1 rfl) ?_
                refine r_get (ci := 14) (C := RX10) (T := TX10) (N := 21) S F B (kq (by decide) : kd 198 = 21 ∧ 198 < NN) rfl rfl hiX10 0 (by decide) (by decide +kernel) rfl dX10_bondIt_200 ?_
                refine lv_iload hx hb dX10_bondIt_203 (lv_at hl 0 rfl) ?_
                refine lv_iconst (v := 5) hx hb dX10_bondIt_205 (by decide) ?_
                refine lv_iadd hx hb dX10_bondIt_206 ?_
                refine lv_iload_n hx hb dX10_bondIt_207 rfl (lv_at hl 4 rfl) ?_
                obtain ⟨hi, ho⟩ := gd_ ho
                refine r_iast S F B (kq (by decide) : kd 199 = 22 ∧ 199 < NN) (fun _ => rfl) hi dX10_bondIt_208 (fun H locs B => ?_)
                obtain ⟨σ15, eσ15, ho⟩ := lt_ ho
                rw [← eσ15] at B
                refine lv_aload_n hx hb dX10_bondIt_209 rfl (lv_at hl 1 rfl) ?_
                refine r_get (ci := 14) (C := RX10) (T := TX10) (N := 21) S F B (kq (by decide) : kd 198 = 21 ∧ 198 < NN) rfl rfl hiX10 0 (by decide) (by decide +kernel) rfl dX10_bondIt_210 ?_
                refine lv_iload_n hx hb dX10_bondIt_213 rfl (lv_at hl 2 rfl) ?_
                obtain ⟨q16, hq16, ho⟩ := bnd_ ho
                refine k_iS (As := [.int a0]) (rest := [.ref (G.2.2 199)]) S F B (c_X10_gardenerAt l G σ15 _ a0 hq16) (va_cwS 1 hts gX10_bondIt_X10_gardenerAt rfl rfl rfl (by decide +kernel) ⟨Nat.le_of_ble_eq_true rfl, Nat.le_of_ble_eq_true rfl⟩) rfl hl.1 rfl (Nat.le_of_ble_eq_true rfl) dX10_bondIt_214 ⟨Nat.le_of_ble_eq_true rfl, Nat.le_of_ble_eq_true rfl⟩ (fun H locs B => ?_)
                refine lv_dup2_11 hx hb dX10_bondIt_217 rfl rfl ?_
                obtain ⟨hi, ho⟩ := gd_ ho
                refine r_iald S F B (kq (by decide) : kd 199 = 22 ∧ 199 < NN) rfl hi dX10_bondIt_218 ?_
                refine lv_iconst (v := 2) hx hb dX10_bondIt_219 (by decide) ?_
                refine lv_iload_n hx hb dX10_bondIt_220 rfl (lv_at hl 4 rfl) ?_
                refine lv_imul hx hb dX10_bondIt_221 ?_
                refine lv_iadd hx hb dX10_bondIt_222 ?_
                obtain ⟨hi, ho⟩ := gd_ ho
                refine r_iast S F B (kq (by decide) : kd 199 = 22 ∧ 199 < NN) (fun _ => rfl) hi dX10_bondIt_223 (fun H locs B => ?_)
                obtain ⟨σ17, eσ17, ho⟩ := lt_ ho
                rw [← eσ17] at B
                refine lv_aload_n hx hb dX10_bondIt_224 rfl (lv_at hl 1 rfl) ?_
                refine r_get (ci := 14) (C := RX10) (T := TX10) (N := 21) S F B (kq (by decide) : kd 198 = 21 ∧ 198 < NN) rfl rfl hiX10 0 (by decide) (by decide +kernel) rfl dX10_bondIt_225 ?_
                refine lv_iload_n hx hb dX10_bondIt_228 rfl (lv_at hl 2 rfl) ?_
                obtain ⟨q18, hq18, ho⟩ := bnd_ ho
                refine k_iS (As := [.int a0]) (rest := [.ref (G.2.2 199)]) S F B (c_X10_gardenerAt l G σ17 _ a0 hq18) (va_cwS 1 hts gX10_bondIt_X10_gardenerAt rfl rfl rfl (by decide +kernel) ⟨Nat.le_of_ble_eq_true rfl, Nat.le_of_ble_eq_true rfl⟩) rfl hl.1 rfl (Nat.le_of_ble_eq_true rfl) dX10_bondIt_229 ⟨Nat.le_of_ble_eq_true rfl, Nat.le_of_ble_eq_true rfl⟩ (fun H locs B => ?_)
                refine lv_iconst (v := 1) hx hb dX10_bondIt_232 (by decide) ?_
                refine lv_iadd hx hb dX10_bondIt_233 ?_
                refine lv_dup2_11 hx hb dX10_bondIt_234 rfl rfl ?_
                obtain ⟨hi, ho⟩ := gd_ ho
                refine r_iald S F B (kq (by decide) : kd 199 = 22 ∧ 199 < NN) rfl hi dX10_bondIt_235 ?_
                refine lv_iconst (v := 2) hx hb dX10_bondIt_236 (by decide) ?_
                refine lv_iload_n hx hb dX10_bondIt_237 rfl (lv_at hl 4 rfl) ?_
                refine lv_imul hx hb dX10_bondIt_238 ?_
                refine lv_iadd hx hb dX10_bondIt_239 ?_
                obtain ⟨hi, ho⟩ := gd_ ho
                refine r_iast S F B (kq (by decide) : kd 199 = 22 ∧ 199 < NN) (fun _ => rfl) hi dX10_bondIt_240 (fun H locs B => ?_)
                obtain ⟨σ19, eσ19, ho⟩ := lt_ ho
                rw [← eσ19] at B
                refine lv_aload_n hx hb dX10_bondIt_241 rfl (lv_at hl 1 rfl) ?_
                refine r_get (ci := 14) (C := RX10) (T := TX10) (N := 21) S F B (kq (by decide) : kd 198 = 21 ∧ 198 < NN) rfl rfl hiX10 0 (by decide) (by decide +kernel) rfl dX10_bondIt_242 ?_
                refine lv_iload hx hb dX10_bondIt_245 (lv_at hl 0 rfl) ?_
                obtain ⟨hi, ho⟩ := gd_ ho
                refine r_iald S F B (kq (by decide) : kd 199 = 22 ∧ 199 < NN) rfl hi dX10_bondIt_247 ?_
                cases ho
                exact e_i B hx hb hr hlocks rfl rfl dX10_bondIt_248
              · have ho := in_ c12 ho
                refine lv_aload_n hx hb dX10_bondIt_159 rfl (lv_at hl 1 rfl) ?_
                refine lv_iconst (v := 5) hx hb dX10_bondIt_160 (by decide) ?_
                refine lv_iconst (v := 2) hx hb dX10_bondIt_161 (by decide) ?_
                refine lv_iload_n hx hb dX10_bondIt_162 rfl (lv_at hl 4 rfl) ?_
                refine lv_imul hx hb dX10_bondIt_163 ?_
                refine lv_aload_n hx hb dX10_bondIt_164 rfl (lv_at hl 1 rfl) ?_
                refine r_get (ci := 14) (C := RX10) (T := TX10) (N := 21) S F B (kq (by decide) : kd 198 = 21 ∧ 198 < NN) rfl rfl hiX10 0 (by decide) (by decide +kernel) rfl dX10_bondIt_165 ?_
                refine lv_iload hx hb dX10_bondIt_168 (lv_at hl 0 rfl) ?_
                obtain ⟨hi, ho⟩ := gd_ ho
                refine r_iald S F B (kq (by decide) : kd 199 = 22 ∧ 199 < NN) rfl hi dX10_bondIt_170 ?_
                refine lv_isub hx hb dX10_bondIt_171 ?_
                obtain ⟨q20, σ21, hq20, ho⟩ := bnm_ ho
                refine k_iV (As := [.int 5, .int ((2 * a2) - (σ 199 q7.toNatClampNeg))]) (rest := []) S F B (c_X10_refuse l G σ _ 5 ((2 * a2) - (σ 199 q7.toNatClampNeg)) hq20) (kq (by decide) : kd 198 = 21 ∧ 198 < NN) rfl rfl (cwV 2 hts gX10_bondIt_X10_refuse rfl rfl rfl (by decide +kernel) ⟨Nat.le_of_ble_eq_true rfl, Nat.le_of_ble_eq_true rfl⟩) rfl hl.1 rfl (Nat.le_of_ble_eq_true rfl) dX10_bondIt_172 ⟨Nat.le_of_ble_eq_true rfl, Nat.le_of_ble_eq_true rfl⟩ (fun H locs B => ?_)
                cases ho
                exact e_i B hx hb hr hlocks rfl rfl dX10_bondIt_175
            · have ho := in_ c11 ho
              refine lv_aload_n hx hb dX10_bondIt_133 rfl (lv_at hl 1 rfl) ?_
              refine lv_bipush (v := 10) hx hb dX10_bondIt_134 (by decide) ?_
              refine lv_aload_n hx hb dX10_bondIt_136 rfl (lv_at hl 1 rfl) ?_
              refine r_get (ci := 14) (C := RX10) (T := TX10) (N := 21) S F B (kq (by decide) : kd 198 = 21 ∧ 198 < NN) rfl rfl hiX10 0 (by decide) (by decide +kernel) rfl dX10_bondIt_137 ?_
              refine lv_iconst (v := 2) hx hb dX10_bondIt_140 (by decide) ?_
              refine r_ialdc (j := 2) S F B (kq (by decide) : kd 199 = 22 ∧ 199 < NN) rfl (vpc (by decide)) (by decide) dX10_bondIt_141 ?_
              obtain ⟨q22, σ23, hq22, ho⟩ := bnm_ ho
              refine k_iV (As := [.int 10, .int (σ 199 2)]) (rest := []) S F B (c_X10_refuse l G σ _ 10 (σ 199 2) hq22) (kq (by decide) : kd 198 = 21 ∧ 198 < NN) rfl rfl (cwV 2 hts gX10_bondIt_X10_refuse rfl rfl rfl (by decide +kernel) ⟨Nat.le_of_ble_eq_true rfl, Nat.le_of_ble_eq_true rfl⟩) rfl hl.1 rfl (Nat.le_of_ble_eq_true rfl) dX10_bondIt_142 ⟨Nat.le_of_ble_eq_true rfl, Nat.le_of_ble_eq_true rfl⟩ (fun H locs B => ?_)
              cases ho
              exact e_i B hx hb hr hlocks rfl rfl dX10_bondIt_145
          · have ho := in_ c9 ho
            refine lv_aload_n hx hb dX10_bondIt_109 rfl (lv_at hl 1 rfl) ?_
            refine lv_bipush (v := 8) hx hb dX10_bondIt_110 (by decide) ?_
            refine lv_aload_n hx hb dX10_bondIt_112 rfl (lv_at hl 1 rfl) ?_
            refine r_get (ci := 14) (C := RX10) (T := TX10) (N := 21) S F B (kq (by decide) : kd 198 = 21 ∧ 198 < NN) rfl rfl hiX10 0 (by decide) (by decide +kernel) rfl dX10_bondIt_113 ?_
            refine lv_iload hx hb dX10_bondIt_116 (lv_at hl 0 rfl) ?_
            refine lv_iconst (v := 4) hx hb dX10_bondIt_118 (by decide) ?_
            refine lv_iadd hx hb dX10_bondIt_119 ?_
            obtain ⟨hi, ho⟩ := gd_ ho
            refine r_iald S F B (kq (by decide) : kd 199 = 22 ∧ 199 < NN) rfl hi dX10_bondIt_120 ?_
            obtain ⟨q24, σ25, hq24, ho⟩ := bnm_ ho
            refine k_iV (As := [.int 8, .int (σ 199 (q7 + 4).toNatClampNeg)]) (rest := []) S F B (c_X10_refuse l G σ _ 8 (σ 199 (q7 + 4).toNatClampNeg) hq24) (kq (by decide) : kd 198 = 21 ∧ 198 < NN) rfl rfl (cwV 2 hts gX10_bondIt_X10_refuse rfl rfl rfl (by decide +kernel) ⟨Nat.le_of_ble_eq_true rfl, Nat.le_of_ble_eq_true rfl⟩) rfl hl.1 rfl (Nat.le_of_ble_eq_true rfl) dX10_bondIt_121 ⟨Nat.le_of_ble_eq_true rfl, Nat.le_of_ble_eq_true rfl⟩ (fun H locs B => ?_)
            cases ho
            exact e_i B hx hb hr hlocks rfl rfl dX10_bondIt_124
        · have ho := ip_ c8 ho
          refine lv_aload_n hx hb dX10_bondIt_80 rfl (lv_at hl 1 rfl) ?_
          refine lv_bipush (v := 9) hx hb dX10_bondIt_81 (by decide) ?_
          refine lv_aload_n hx hb dX10_bondIt_83 rfl (lv_at hl 1 rfl) ?_
          refine r_get (ci := 14) (C := RX10) (T := TX10) (N := 21) S F B (kq (by decide) : kd 198 = 21 ∧ 198 < NN) rfl rfl hiX10 0 (by decide) (by decide +kernel) rfl dX10_bondIt_84 ?_
          refine lv_iload hx hb dX10_bondIt_87 (lv_at hl 0 rfl) ?_
          refine lv_iconst (v := 2) hx hb dX10_bondIt_89 (by decide) ?_
          refine lv_iadd hx hb dX10_bondIt_90 ?_
          obtain ⟨hi, ho⟩ := gd_ ho
          refine r_iald S F B (kq (by decide) : kd 199 = 22 ∧ 199 < NN) rfl hi dX10_bondIt_91 ?_
          obtain ⟨q26, σ27, hq26, ho⟩ := bnm_ ho
          refine k_iV (As := [.int 9, .int (σ 199 (q7 + 2).toNatClampNeg)]) (rest := []) S F B (c_X10_refuse l G σ _ 9 (σ 199 (q7 + 2).toNatClampNeg) hq26) (kq (by decide) : kd 198 = 21 ∧ 198 < NN) rfl rfl (cwV 2 hts gX10_bondIt_X10_refuse rfl rfl rfl (by decide +kernel) ⟨Nat.le_of_ble_eq_true rfl, Nat.le_of_ble_eq_true rfl⟩) rfl hl.1 rfl (Nat.le_of_ble_eq_true rfl) dX10_bondIt_92 ⟨Nat.le_of_ble_eq_true rfl, Nat.le_of_ble_eq_true rfl⟩ (fun H locs B => ?_)
          cases ho
          exact e_i B hx hb hr hlocks rfl rfl dX10_bondIt_95
      · have ho := ip_ c6 ho
        refine lv_aload_n hx hb dX10_bondIt_53 rfl (lv_at hl 0 rfl) ?_
        refine lv_iconst (v := 1) hx hb dX10_bondIt_54 (by decide) ?_
        refine lv_iconst (v := 0) hx hb dX10_bondIt_55 (by decide) ?_
        obtain ⟨q28, σ29, hq28, ho⟩ := bnm_ ho
        refine k_iV (As := [.int 1, .int 0]) (rest := []) S F B (c_X10_refuse l G σ _ 1 0 hq28) (kq (by decide) : kd 198 = 21 ∧ 198 < NN) rfl rfl (cwV 2 hts gX10_bondIt_X10_refuse rfl rfl rfl (by decide +kernel) ⟨Nat.le_of_ble_eq_true rfl, Nat.le_of_ble_eq_true rfl⟩) rfl hl.1 rfl (Nat.le_of_ble_eq_true rfl) dX10_bondIt_56 ⟨Nat.le_of_ble_eq_true rfl, Nat.le_of_ble_eq_true rfl⟩ (fun H locs B => ?_)
        cases ho
        exact e_i B hx hb hr hlocks rfl rfl dX10_bondIt_59
    · have ho := ip_ c4 ho
      refine lv_aload_n hx hb dX10_bondIt_28 rfl (lv_at hl 0 rfl) ?_
      refine lv_bipush (v := 7) hx hb dX10_bondIt_29 (by decide) ?_
      refine lv_aload_n hx hb dX10_bondIt_31 rfl (lv_at hl 0 rfl) ?_
      refine r_get (ci := 14) (C := RX10) (T := TX10) (N := 21) S F B (kq (by decide) : kd 198 = 21 ∧ 198 < NN) rfl rfl hiX10 0 (by decide) (by decide +kernel) rfl dX10_bondIt_32 ?_
      refine lv_iconst (v := 1) hx hb dX10_bondIt_35 (by decide) ?_
      refine r_ialdc (j := 1) S F B (kq (by decide) : kd 199 = 22 ∧ 199 < NN) rfl (vpc (by decide)) (by decide) dX10_bondIt_36 ?_
      obtain ⟨q30, σ31, hq30, ho⟩ := bnm_ ho
      refine k_iV (As := [.int 7, .int (σ 199 1)]) (rest := []) S F B (c_X10_refuse l G σ _ 7 (σ 199 1) hq30) (kq (by decide) : kd 198 = 21 ∧ 198 < NN) rfl rfl (cwV 2 hts gX10_bondIt_X10_refuse rfl rfl rfl (by decide +kernel) ⟨Nat.le_of_ble_eq_true rfl, Nat.le_of_ble_eq_true rfl⟩) rfl hl.1 rfl (Nat.le_of_ble_eq_true rfl) dX10_bondIt_37 ⟨Nat.le_of_ble_eq_true rfl, Nat.le_of_ble_eq_true rfl⟩ (fun H locs B => ?_)
      cases ho
      exact e_i B hx hb hr hlocks rfl rfl dX10_bondIt_40
  · have ho := ip_ c2 ho
    refine lv_aload_n hx hb dX10_bondIt_8 rfl (lv_at hl 0 rfl) ?_
    refine lv_iconst (v := 4) hx hb dX10_bondIt_9 (by decide) ?_
    refine lv_aload_n hx hb dX10_bondIt_10 rfl (lv_at hl 0 rfl) ?_
    refine r_get (ci := 14) (C := RX10) (T := TX10) (N := 21) S F B (kq (by decide) : kd 198 = 21 ∧ 198 < NN) rfl rfl hiX10 0 (by decide) (by decide +kernel) rfl dX10_bondIt_11 ?_
    refine lv_iconst (v := 0) hx hb dX10_bondIt_14 (by decide) ?_
    refine r_ialdc (j := 0) S F B (kq (by decide) : kd 199 = 22 ∧ 199 < NN) rfl (vpc (by decide)) (by decide) dX10_bondIt_15 ?_
    obtain ⟨q32, σ33, hq32, ho⟩ := bnm_ ho
    refine k_iV (As := [.int 4, .int (σ 199 0)]) (rest := []) S F B (c_X10_refuse l G σ _ 4 (σ 199 0) hq32) (kq (by decide) : kd 198 = 21 ∧ 198 < NN) rfl rfl (cwV 2 hts gX10_bondIt_X10_refuse rfl rfl rfl (by decide +kernel) ⟨Nat.le_of_ble_eq_true rfl, Nat.le_of_ble_eq_true rfl⟩) rfl hl.1 rfl (Nat.le_of_ble_eq_true rfl) dX10_bondIt_16 ⟨Nat.le_of_ble_eq_true rfl, Nat.le_of_ble_eq_true rfl⟩ (fun H locs B => ?_)
    cases ho
    exact e_i B hx hb hr hlocks rfl rfl dX10_bondIt_19

set_option maxHeartbeats 4000000 in
set_option maxRecDepth 100000 in
theorem c_X10_bond (l : Launch) (G : Gd) (σ : Mm) (sz : Nat) (a0 : Int32) (a1 : Int32) (a2 : Int32) {out : Int32 × Mm} (ho : f_X10_bond a0 a1 a2 σ = some out) : Met l yX10_bond wsX10_bond { frames := 3, cells := 0, slots := 0, locals := 70 } (va_Pc [.ref (G.2.2 198), .int a0, .int a1, .int a2] (PW G σ sz)) (Qi G sz out.1 out.2) 0 0 (AA G sz) := by
  refine Met.ofW (cc := cX10_bond) (maxL := 4) (ret := (some .int)) (by decide) rfl ?_
  intro p e s m args below meth c s₁ B0 hml hv
  obtain ⟨rfl, hpw⟩ := hv
  have hsz := hpw.1
  subst hsz
  obtain ⟨F, B⟩ := hpw.to
  have hx := B0.exec
  have hb := B0.bytes
  have hr := B0.returns
  have hts := atoms_spec (ws := wsX10_bond) B0.pre
  have hown : s.vm.findClass RX10 = some m.cls := findClass_of_methodNamed B0.named
  have hlocks := B0.notSynchronized
  have S : CallFix p m c cX10_bond 4 s _ wsX10_bond RX10 := ⟨hx, hb, hml, hown, hts⟩
  have hl := lv_entry [.ref (G.2.2 198), .int a0, .int a1, .int a2] (n := 4) (Nat.le_of_ble_eq_true rfl)
  rw [lg_entry_eq]
  generalize (lg_sl [.ref (G.2.2 198), .int a0, .int a1, .int a2] ++ List.replicate (4 - (lg_sl [.ref (G.2.2 198), .int a0, .int a1, .int a2]).length) Slot.unset).toArray = ls at hl ⊢
  have hl : lv_has ls 4 [(0, .ref (G.2.2 198)), (1, .int a0), (2, .int a1), (3, .int a2)] := hl
  unfold f_X10_bond at ho
  refine lv_aload_n hx hb dX10_bond_0 rfl (lv_at hl 0 rfl) ?_
  obtain ⟨σ2, hq1, ho⟩ := bnd_ ho
  refine k_vV (As := []) (rest := []) S F B (c_X10_starts l G σ _ hq1) (kq (by decide) : kd 198 = 21 ∧ 198 < NN) rfl rfl (cwV 0 hts gX10_bond_X10_starts rfl rfl rfl (by decide +kernel) ⟨Nat.le_of_ble_eq_true rfl, Nat.le_of_ble_eq_true rfl⟩) rfl hl.1 rfl (Nat.le_of_ble_eq_true rfl) dX10_bond_1 ⟨Nat.le_of_ble_eq_true rfl, Nat.le_of_ble_eq_true rfl⟩ (fun H locs B => ?_)
  refine lv_aload_n hx hb dX10_bond_4 rfl (lv_at hl 0 rfl) ?_
  refine lv_aload_n hx hb dX10_bond_5 rfl (lv_at hl 0 rfl) ?_
  refine lv_iload_n hx hb dX10_bond_6 rfl (lv_at hl 1 rfl) ?_
  refine lv_iload_n hx hb dX10_bond_7 rfl (lv_at hl 2 rfl) ?_
  refine lv_iload_n hx hb dX10_bond_8 rfl (lv_at hl 3 rfl) ?_
  obtain ⟨q3, σ4, hq3, ho⟩ := bnm_ ho
  refine k_iV (As := [.int a0, .int a1, .int a2]) (rest := [.ref (G.2.2 198)]) S F B (c_X10_bondIt l G σ2 _ a0 a1 a2 hq3) (kq (by decide) : kd 198 = 21 ∧ 198 < NN) rfl rfl (cwV 3 hts gX10_bond_X10_bondIt rfl rfl rfl (by decide +kernel) ⟨Nat.le_of_ble_eq_true rfl, Nat.le_of_ble_eq_true rfl⟩) rfl hl.1 rfl (Nat.le_of_ble_eq_true rfl) dX10_bond_9 ⟨Nat.le_of_ble_eq_true rfl, Nat.le_of_ble_eq_true rfl⟩ (fun H locs B => ?_)
  obtain ⟨q5, σ6, hq5, ho⟩ := bnm_ ho
  refine k_iV (As := [.int q3]) (rest := []) S F B (c_X10_changed l G σ4 _ q3 hq5) (kq (by decide) : kd 198 = 21 ∧ 198 < NN) rfl rfl (cwV 1 hts gX10_bond_X10_changed rfl rfl rfl (by decide +kernel) ⟨Nat.le_of_ble_eq_true rfl, Nat.le_of_ble_eq_true rfl⟩) rfl hl.1 rfl (Nat.le_of_ble_eq_true rfl) dX10_bond_12 ⟨Nat.le_of_ble_eq_true rfl, Nat.le_of_ble_eq_true rfl⟩ (fun H locs B => ?_)
  cases ho
  exact e_i B hx hb hr hlocks rfl rfl dX10_bond_15

set_option maxHeartbeats 4000000 in
set_option maxRecDepth 100000 in
theorem c_X10_lostOf (l : Launch) (G : Gd) (σ : Mm) (sz : Nat) (a0 : Int32) {out : Int32} (ho : f_X10_lostOf a0 σ = some out) : Met l yX10_lostOf wsX10_lostOf { frames := 1, cells := 0, slots := 0, locals := 32 } (va_Pc [.ref (G.2.2 198), .int a0] (PW G σ sz)) (Qi G sz out σ) 0 0 (AA G sz) := by
  refine Met.ofW (cc := cX10_lostOf) (maxL := 3) (ret := (some .int)) (by decide) rfl ?_
  intro p e s m args below meth c s₁ B0 hml hv
  obtain ⟨rfl, hpw⟩ := hv
  have hsz := hpw.1
  subst hsz
  obtain ⟨F, B⟩ := hpw.to
  have hx := B0.exec
  have hb := B0.bytes
  have hr := B0.returns
  have hts := atoms_spec (ws := wsX10_lostOf) B0.pre
  have hown : s.vm.findClass RX10 = some m.cls := findClass_of_methodNamed B0.named
  have hlocks := B0.notSynchronized
  have S : CallFix p m c cX10_lostOf 3 s _ wsX10_lostOf RX10 := ⟨hx, hb, hml, hown, hts⟩
  have hiX10 : ∀ w ∈ u_ws RX10 TX10 21, w ∈ wsX10_lostOf := by decide +kernel
  have hl := lv_entry [.ref (G.2.2 198), .int a0] (n := 3) (Nat.le_of_ble_eq_true rfl)
  rw [lg_entry_eq]
  generalize (lg_sl [.ref (G.2.2 198), .int a0] ++ List.replicate (3 - (lg_sl [.ref (G.2.2 198), .int a0]).length) Slot.unset).toArray = ls at hl ⊢
  have hl : lv_has ls 3 [(0, .ref (G.2.2 198)), (1, .int a0)] := hl
  unfold f_X10_lostOf at ho
  refine lv_iload_n hx hb dX10_lostOf_0 rfl (lv_at hl 1 rfl) ?_
  obtain ⟨q1, hq1, ho⟩ := bnd_ ho
  refine k_iS (As := [.int a0]) (rest := []) S F B (c_X10_visitorAt l G σ _ a0 hq1) (va_cwS 1 hts gX10_lostOf_X10_visitorAt rfl rfl rfl (by decide +kernel) ⟨Nat.le_of_ble_eq_true rfl, Nat.le_of_ble_eq_true rfl⟩) rfl hl.1 rfl (Nat.le_of_ble_eq_true rfl) dX10_lostOf_1 ⟨Nat.le_of_ble_eq_true rfl, Nat.le_of_ble_eq_true rfl⟩ (fun H locs B => ?_)
  refine lv_istore_n (lv' := [(2, .int q1), (0, .ref (G.2.2 198)), (1, .int a0)]) hx hb dX10_lostOf_4 rfl hl (by decide) rfl (fun ls hl => ?_)
  refine lv_iconst (v := 0) hx hb dX10_lostOf_5 (by decide) ?_
  refine lv_aload_n hx hb dX10_lostOf_6 rfl (lv_at hl 1 rfl) ?_
  refine r_get (ci := 14) (C := RX10) (T := TX10) (N := 21) S F B (kq (by decide) : kd 198 = 21 ∧ 198 < NN) rfl rfl hiX10 0 (by decide) (by decide +kernel) rfl dX10_lostOf_7 ?_
  refine lv_iload_n hx hb dX10_lostOf_10 rfl (lv_at hl 0 rfl) ?_
  refine lv_iconst (v := 2) hx hb dX10_lostOf_11 (by decide) ?_
  refine lv_iadd hx hb dX10_lostOf_12 ?_
  obtain ⟨hi, ho⟩ := gd_ ho
  refine r_iald S F B (kq (by decide) : kd 199 = 22 ∧ 199 < NN) rfl hi dX10_lostOf_13 ?_
  refine lv_aload_n hx hb dX10_lostOf_14 rfl (lv_at hl 1 rfl) ?_
  refine r_get (ci := 14) (C := RX10) (T := TX10) (N := 21) S F B (kq (by decide) : kd 198 = 21 ∧ 198 < NN) rfl rfl hiX10 0 (by decide) (by decide +kernel) rfl dX10_lostOf_15 ?_
  refine lv_iload_n hx hb dX10_lostOf_18 rfl (lv_at hl 0 rfl) ?_
  refine lv_iconst (v := 3) hx hb dX10_lostOf_19 (by decide) ?_
  refine lv_iadd hx hb dX10_lostOf_20 ?_
  obtain ⟨hi, ho⟩ := gd_ ho
  refine r_iald S F B (kq (by decide) : kd 199 = 22 ∧ 199 < NN) rfl hi dX10_lostOf_21 ?_
  refine lv_isub hx hb dX10_lostOf_22 ?_
  refine va_mmax hx hb (hml.trans hl.1.symm) hown (hts _ (by decide +kernel)) (hts _ (by decide +kernel)) (hts _ (by decide +kernel)) (hts _ (by decide +kernel)) (Nat.le_of_ble_eq_true rfl) (Nat.le_of_ble_eq_true rfl) (Nat.le_of_ble_eq_true rfl) (Nat.le_of_ble_eq_true rfl) dX10_lostOf_23 ?_
  cases ho
  exact e_i B hx hb hr hlocks rfl rfl dX10_lostOf_26

set_option maxHeartbeats 4000000 in
set_option maxRecDepth 100000 in
theorem c_X10_pays (l : Launch) (G : Gd) (σ : Mm) (sz : Nat) (a0 : Int32) (a1 : Int32) {out : Int32} (ho : f_X10_pays a0 a1 σ = some out) : Met l yX10_pays wsX10_pays { frames := 1, cells := 0, slots := 0, locals := 32 } (va_Pc [.ref (G.2.2 198), .int a0, .int a1] (PW G σ sz)) (Qi G sz out σ) 0 0 (AA G sz) := by
  refine Met.ofW (cc := cX10_pays) (maxL := 5) (ret := (some .int)) (by decide) rfl ?_
  intro p e s m args below meth c s₁ B0 hml hv
  obtain ⟨rfl, hpw⟩ := hv
  have hsz := hpw.1
  subst hsz
  obtain ⟨F, B⟩ := hpw.to
  have hx := B0.exec
  have hb := B0.bytes
  have hr := B0.returns
  have hts := atoms_spec (ws := wsX10_pays) B0.pre
  have hown : s.vm.findClass RX10 = some m.cls := findClass_of_methodNamed B0.named
  have hlocks := B0.notSynchronized
  have S : CallFix p m c cX10_pays 5 s _ wsX10_pays RX10 := ⟨hx, hb, hml, hown, hts⟩
  have hiX10 : ∀ w ∈ u_ws RX10 TX10 21, w ∈ wsX10_pays := by decide +kernel
  have hl := lv_entry [.ref (G.2.2 198), .int a0, .int a1] (n := 5) (Nat.le_of_ble_eq_true rfl)
  rw [lg_entry_eq]
  generalize (lg_sl [.ref (G.2.2 198), .int a0, .int a1] ++ List.replicate (5 - (lg_sl [.ref (G.2.2 198), .int a0, .int a1]).length) Slot.unset).toArray = ls at hl ⊢
  have hl : lv_has ls 5 [(0, .ref (G.2.2 198)), (1, .int a0), (2, .int a1)] := hl
  unfold f_X10_pays at ho
  refine lv_iload_n hx hb dX10_pays_0 rfl (lv_at hl 1 rfl) ?_
  obtain ⟨q1, hq1, ho⟩ := bnd_ ho
  refine k_iS (As := [.int a0]) (rest := []) S F B (c_X10_visitorAt l G σ _ a0 hq1) (va_cwS 1 hts gX10_pays_X10_visitorAt rfl rfl rfl (by decide +kernel) ⟨Nat.le_of_ble_eq_true rfl, Nat.le_of_ble_eq_true rfl⟩) rfl hl.1 rfl (Nat.le_of_ble_eq_true rfl) dX10_pays_1 ⟨Nat.le_of_ble_eq_true rfl, Nat.le_of_ble_eq_true rfl⟩ (fun H locs B => ?_)
  refine lv_istore_n (lv' := [(3, .int q1), (0, .ref (G.2.2 198)), (1, .int a0), (2, .int a1)]) hx hb dX10_pays_4 rfl hl (by decide) rfl (fun ls hl => ?_)
  refine lv_aload_n hx hb dX10_pays_5 rfl (lv_at hl 1 rfl) ?_
  refine r_get (ci := 14) (C := RX10) (T := TX10) (N := 21) S F B (kq (by decide) : kd 198 = 21 ∧ 198 < NN) rfl rfl hiX10 0 (by decide) (by decide +kernel) rfl dX10_pays_6 ?_
  refine lv_iload_n hx hb dX10_pays_9 rfl (lv_at hl 0 rfl) ?_
  refine lv_iconst (v := 4) hx hb dX10_pays_10 (by decide) ?_
  refine lv_iadd hx hb dX10_pays_11 ?_
  obtain ⟨hi, ho⟩ := gd_ ho
  refine r_iald S F B (kq (by decide) : kd 199 = 22 ∧ 199 < NN) rfl hi dX10_pays_12 ?_
  refine lv_iconst (v := (-1)) hx hb dX10_pays_13 (by decide) ?_
  refine lv_icmp_eq (tgt := 30) hx hb dX10_pays_14 (by decide) (fun c2 => ?_) (fun c2 => ?_)
  · have ho := ip_ c2 ho
    refine lv_iconst (v := 1) hx hb dX10_pays_30 (by decide) ?_
    refine lv_goto (tgt := 35) hx hb dX10_pays_31 (by decide) ?_
    refine lv_istore (lv' := [(4, .int 1), (3, .int q1), (0, .ref (G.2.2 198)), (1, .int a0), (2, .int a1)]) hx hb dX10_pays_35 hl (by decide) rfl (fun ls hl => ?_)
    refine lv_iload hx hb dX10_pays_37 (lv_at hl 0 rfl) ?_
    refine lv_if_eq (tgt := 46) hx hb dX10_pays_39 (by decide) (fun h => absurd h (by decide)) (fun _ => ?_)
    refine lv_iconst (v := 0) hx hb dX10_pays_42 (by decide) ?_
    refine lv_goto (tgt := 75) hx hb dX10_pays_43 (by decide) ?_
    cases ho
    exact e_i B hx hb hr hlocks rfl rfl dX10_pays_75
  · have ho := in_ c2 ho
    refine lv_aload_n hx hb dX10_pays_17 rfl (lv_at hl 1 rfl) ?_
    refine r_get (ci := 14) (C := RX10) (T := TX10) (N := 21) S F B (kq (by decide) : kd 198 = 21 ∧ 198 < NN) rfl rfl hiX10 0 (by decide) (by decide +kernel) rfl dX10_pays_18 ?_
    refine lv_iload_n hx hb dX10_pays_21 rfl (lv_at hl 0 rfl) ?_
    refine lv_bipush (v := 6) hx hb dX10_pays_22 (by decide) ?_
    refine lv_iadd hx hb dX10_pays_24 ?_
    obtain ⟨hi, ho⟩ := gd_ ho
    refine r_iald S F B (kq (by decide) : kd 199 = 22 ∧ 199 < NN) rfl hi dX10_pays_25 ?_
    refine lv_iconst (v := 1) hx hb dX10_pays_26 (by decide) ?_
    refine lv_icmp_ne (tgt := 34) hx hb dX10_pays_27 (by decide) (fun c3 => ?_) (fun c3 => ?_)
    · have ho := in_ c3 ho
      refine lv_iconst (v := 0) hx hb dX10_pays_34 (by decide) ?_
      refine lv_istore (lv' := [(4, .int 0), (3, .int q1), (0, .ref (G.2.2 198)), (1, .int a0), (2, .int a1)]) hx hb dX10_pays_35 hl (by decide) rfl (fun ls hl => ?_)
      refine lv_iload hx hb dX10_pays_37 (lv_at hl 0 rfl) ?_
      refine lv_if_eq (tgt := 46) hx hb dX10_pays_39 (by decide) (fun _ => ?_) (fun h => absurd h (by decide))
      refine lv_aload_n hx hb dX10_pays_46 rfl (lv_at hl 2 rfl) ?_
      refine r_get (ci := 14) (C := RX10) (T := TX10) (N := 21) S F B (kq (by decide) : kd 198 = 21 ∧ 198 < NN) rfl rfl hiX10 0 (by decide) (by decide +kernel) rfl dX10_pays_47 ?_
      refine lv_iload_n hx hb dX10_pays_50 rfl (lv_at hl 1 rfl) ?_
      refine lv_iconst (v := 5) hx hb dX10_pays_51 (by decide) ?_
      refine lv_iadd hx hb dX10_pays_52 ?_
      obtain ⟨hi, ho⟩ := gd_ ho
      refine r_iald S F B (kq (by decide) : kd 199 = 22 ∧ 199 < NN) rfl hi dX10_pays_53 ?_
      refine lv_iload_n hx hb dX10_pays_54 rfl (lv_at hl 4 rfl) ?_
      refine lv_imul hx hb dX10_pays_55 ?_
      refine lv_aload_n hx hb dX10_pays_56 rfl (lv_at hl 2 rfl) ?_
      refine r_get (ci := 14) (C := RX10) (T := TX10) (N := 21) S F B (kq (by decide) : kd 198 = 21 ∧ 198 < NN) rfl rfl hiX10 0 (by decide) (by decide +kernel) rfl dX10_pays_57 ?_
      refine lv_aload_n hx hb dX10_pays_60 rfl (lv_at hl 2 rfl) ?_
      refine r_get (ci := 14) (C := RX10) (T := TX10) (N := 21) S F B (kq (by decide) : kd 198 = 21 ∧ 198 < NN) rfl rfl hiX10 0 (by decide) (by decide +kernel) rfl dX10_pays_61 ?_
      refine lv_iload_n hx hb dX10_pays_64 rfl (lv_at hl 1 rfl) ?_
      refine lv_iconst (v := 4) hx hb dX10_pays_65 (by decide) ?_
      refine lv_iadd hx hb dX10_pays_66 ?_
      obtain ⟨hi, ho⟩ := gd_ ho
      refine r_iald S F B (kq (by decide) : kd 199 = 22 ∧ 199 < NN) rfl hi dX10_pays_67 ?_
      obtain ⟨q4, hq4, ho⟩ := bnd_ ho
      refine k_iS (As := [.int (σ 199 (q1 + 4).toNatClampNeg)]) (rest := [.ref (G.2.2 199), .int ((σ 199 (q1 + 5).toNatClampNeg) * a1)]) S F B (c_X10_gardenerAt l G σ _ (σ 199 (q1 + 4).toNatClampNeg) hq4) (va_cwS 1 hts gX10_pays_X10_gardenerAt rfl rfl rfl (by decide +kernel) ⟨Nat.le_of_ble_eq_true rfl, Nat.le_of_ble_eq_true rfl⟩) rfl hl.1 rfl (Nat.le_of_ble_eq_true rfl) dX10_pays_68 ⟨Nat.le_of_ble_eq_true rfl, Nat.le_of_ble_eq_true rfl⟩ (fun H locs B => ?_)
      obtain ⟨hi, ho⟩ := gd_ ho
      refine r_iald S F B (kq (by decide) : kd 199 = 22 ∧ 199 < NN) rfl hi dX10_pays_71 ?_
      refine va_mmin hx hb (hml.trans hl.1.symm) hown (hts _ (by decide +kernel)) (hts _ (by decide +kernel)) (hts _ (by decide +kernel)) (hts _ (by decide +kernel)) (Nat.le_of_ble_eq_true rfl) (Nat.le_of_ble_eq_true rfl) (Nat.le_of_ble_eq_true rfl) (Nat.le_of_ble_eq_true rfl) dX10_pays_72 ?_
      cases ho
      exact e_i B hx hb hr hlocks rfl rfl dX10_pays_75
    · have ho := ip_ c3 ho
      refine lv_iconst (v := 1) hx hb dX10_pays_30 (by decide) ?_
      refine lv_goto (tgt := 35) hx hb dX10_pays_31 (by decide) ?_
      refine lv_istore (lv' := [(4, .int 1), (3, .int q1), (0, .ref (G.2.2 198)), (1, .int a0), (2, .int a1)]) hx hb dX10_pays_35 hl (by decide) rfl (fun ls hl => ?_)
      refine lv_iload hx hb dX10_pays_37 (lv_at hl 0 rfl) ?_
      refine lv_if_eq (tgt := 46) hx hb dX10_pays_39 (by decide) (fun h => absurd h (by decide)) (fun _ => ?_)
      refine lv_iconst (v := 0) hx hb dX10_pays_42 (by decide) ?_
      refine lv_goto (tgt := 75) hx hb dX10_pays_43 (by decide) ?_
      cases ho
      exact e_i B hx hb hr hlocks rfl rfl dX10_pays_75

