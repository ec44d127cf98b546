set_option maxHeartbeats 4000000 in
set_option maxRecDepth 100000 in
theorem c_X10_does (l : Launch) (G : Gd) (σ : Mm) (sz : Nat) (a0 : Int32) {out : Mm} (ho : f_X10_does a0 σ = some out) : Met l yX10_does wsX10_does { frames := 5, cells := 0, slots := 0, locals := 129 } (va_Pc [.ref (G.2.2 198), .int a0] (PW G σ sz)) (Qv G sz out) 0 0 (AA G sz) := by
  refine Met.ofW (cc := cX10_does) (maxL := 5) (ret := none) (by decide) rfl ?_
  intro p e s m args below meth c s₁ B0 hml hv
  obtain ⟨rfl, hpw⟩ := hv
  have hsz := hpw.1
  subst hsz
  obtain ⟨F, B⟩ := hpw.to
  have hx := B0.exec
  have hb := B0.bytes
  have hr := B0.returns
  have hts := atoms_spec (ws := wsX10_does) B0.pre
  have hown : s.vm.findClass RX10 = some m.cls := findClass_of_methodNamed B0.named
  have hlocks := B0.notSynchronized
  have S : CallFix p m c cX10_does 5 s _ wsX10_does RX10 := ⟨hx, hb, hml, hown, hts⟩
  have hiX10 : ∀ w ∈ u_ws RX10 TX10 21, w ∈ wsX10_does := by decide +kernel
  have hl := lv_entry [.ref (G.2.2 198), .int a0] (n := 5) (Nat.le_of_ble_eq_true rfl)
  rw [lg_entry_eq]
  generalize (lg_sl [.ref (G.2.2 198), .int a0] ++ List.replicate (5 - (lg_sl [.ref (G.2.2 198), .int a0]).length) Slot.unset).toArray = ls at hl ⊢
  have hl : lv_has ls 5 [(0, .ref (G.2.2 198)), (1, .int a0)] := hl
  unfold f_X10_does at ho
  refine lv_aload_n hx hb dX10_does_0 rfl (lv_at hl 0 rfl) ?_
  refine r_get (ci := 14) (C := RX10) (T := TX10) (N := 21) S F B (kq (by decide) : kd 198 = 21 ∧ 198 < NN) rfl rfl hiX10 14 (by decide) (by decide +kernel) rfl dX10_does_1 ?_
  refine lv_iload_n hx hb dX10_does_4 rfl (lv_at hl 1 rfl) ?_
  refine lv_iconst (v := 1) hx hb dX10_does_5 (by decide) ?_
  refine lv_iadd hx hb dX10_does_6 ?_
  obtain ⟨hi, ho⟩ := gd_ ho
  refine r_iald S F B (kq (by decide) : kd 205 = 25 ∧ 205 < NN) rfl hi dX10_does_7 ?_
  obtain ⟨x1, ex1, ho⟩ := lt_ ho
  refine lv_nm ex1 ?_
  refine lv_istore_n (lv' := [(2, .int x1), (0, .ref (G.2.2 198)), (1, .int a0)]) hx hb dX10_does_8 rfl hl (by decide) rfl (fun ls hl => ?_)
  refine lv_aload_n hx hb dX10_does_9 rfl (lv_at hl 1 rfl) ?_
  refine r_get (ci := 14) (C := RX10) (T := TX10) (N := 21) S F B (kq (by decide) : kd 198 = 21 ∧ 198 < NN) rfl rfl hiX10 14 (by decide) (by decide +kernel) rfl dX10_does_10 ?_
  refine lv_iload_n hx hb dX10_does_13 rfl (lv_at hl 2 rfl) ?_
  refine lv_iconst (v := 2) hx hb dX10_does_14 (by decide) ?_
  refine lv_iadd hx hb dX10_does_15 ?_
  obtain ⟨hi, ho⟩ := gd_ ho
  refine r_iald S F B (kq (by decide) : kd 205 = 25 ∧ 205 < NN) rfl hi dX10_does_16 ?_
  obtain ⟨x2, ex2, ho⟩ := lt_ ho
  refine lv_nm ex2 ?_
  refine lv_istore_n (lv' := [(3, .int x2), (2, .int x1), (0, .ref (G.2.2 198)), (1, .int a0)]) hx hb dX10_does_17 rfl hl (by decide) rfl (fun ls hl => ?_)
  refine lv_aload_n hx hb dX10_does_18 rfl (lv_at hl 2 rfl) ?_
  refine r_get (ci := 14) (C := RX10) (T := TX10) (N := 21) S F B (kq (by decide) : kd 198 = 21 ∧ 198 < NN) rfl rfl hiX10 14 (by decide) (by decide +kernel) rfl dX10_does_19 ?_
  refine lv_iload_n hx hb dX10_does_22 rfl (lv_at hl 3 rfl) ?_
  refine lv_iconst (v := 3) hx hb dX10_does_23 (by decide) ?_
  refine lv_iadd hx hb dX10_does_24 ?_
  obtain ⟨hi, ho⟩ := gd_ ho
  refine r_iald S F B (kq (by decide) : kd 205 = 25 ∧ 205 < NN) rfl hi dX10_does_25 ?_
  obtain ⟨x3, ex3, ho⟩ := lt_ ho
  refine lv_nm ex3 ?_
  refine lv_istore (lv' := [(4, .int x3), (3, .int x2), (2, .int x1), (0, .ref (G.2.2 198)), (1, .int a0)]) hx hb dX10_does_26 hl (by decide) rfl (fun ls hl => ?_)
  refine lv_aload_n hx hb dX10_does_28 rfl (lv_at hl 3 rfl) ?_
  refine r_get (ci := 14) (C := RX10) (T := TX10) (N := 21) S F B (kq (by decide) : kd 198 = 21 ∧ 198 < NN) rfl rfl hiX10 14 (by decide) (by decide +kernel) rfl dX10_does_29 ?_
  refine lv_iload_n hx hb dX10_does_32 rfl (lv_at hl 4 rfl) ?_
  obtain ⟨hi, ho⟩ := gd_ ho
  refine r_iald S F B (kq (by decide) : kd 205 = 25 ∧ 205 < NN) rfl hi dX10_does_33 ?_
  by_cases c4 : (σ 205 a0.toNatClampNeg) = 98
  · have ho := ip_ c4 ho
    refine lv_tableIn (off := 161) (tgt := 195) hx hb dX10_does_34 (by rw [c4]; decide) (by rw [c4]; decide) (by rw [c4]; rfl) (by decide) ?_
    refine lv_aload_n hx hb dX10_does_195 rfl (lv_at hl 3 rfl) ?_
    refine lv_iload_n hx hb dX10_does_196 rfl (lv_at hl 2 rfl) ?_
    refine lv_iload_n hx hb dX10_does_197 rfl (lv_at hl 1 rfl) ?_
    refine lv_iload hx hb dX10_does_198 (lv_at hl 0 rfl) ?_
    obtain ⟨q5, σ6, hq5, ho⟩ := bnm_ ho
    refine k_iV (As := [.int x1, .int x2, .int x3]) (rest := []) S F B (c_X10_bondIt l G σ _ x1 x2 x3 hq5) (kq (by decide) : kd 198 = 21 ∧ 198 < NN) rfl rfl (cwV 3 hts gX10_does_X10_bondIt rfl rfl rfl (by decide +kernel) ⟨Nat.le_of_ble_eq_true rfl, Nat.le_of_ble_eq_true rfl⟩) rfl hl.1 rfl (Nat.le_of_ble_eq_true rfl) dX10_does_200 ⟨Nat.le_of_ble_eq_true rfl, Nat.le_of_ble_eq_true rfl⟩ (fun H locs B => ?_)
    refine lv_pop hx hb dX10_does_203 rfl ?_
    refine lv_goto (tgt := 224) hx hb dX10_does_204 (by decide) ?_
    cases ho
    exact e_v B hx hb hr hlocks dX10_does_224
  · have ho := in_ c4 ho
    by_cases c7 : (σ 205 a0.toNatClampNeg) = 103
    · have ho := ip_ c7 ho
      refine lv_tableIn (off := 143) (tgt := 177) hx hb dX10_does_34 (by rw [c7]; decide) (by rw [c7]; decide) (by rw [c7]; rfl) (by decide) ?_
      refine lv_aload_n hx hb dX10_does_177 rfl (lv_at hl 3 rfl) ?_
      refine lv_iload_n hx hb dX10_does_178 rfl (lv_at hl 2 rfl) ?_
      obtain ⟨q8, σ9, hq8, ho⟩ := bnm_ ho
      refine k_iV (As := [.int x1]) (rest := []) S F B (c_X10_gardenerIt l G σ _ x1 hq8) (kq (by decide) : kd 198 = 21 ∧ 198 < NN) rfl rfl (cwV 1 hts gX10_does_X10_gardenerIt rfl rfl rfl (by decide +kernel) ⟨Nat.le_of_ble_eq_true rfl, Nat.le_of_ble_eq_true rfl⟩) rfl hl.1 rfl (Nat.le_of_ble_eq_true rfl) dX10_does_179 ⟨Nat.le_of_ble_eq_true rfl, Nat.le_of_ble_eq_true rfl⟩ (fun H locs B => ?_)
      refine lv_pop hx hb dX10_does_182 rfl ?_
      refine lv_goto (tgt := 224) hx hb dX10_does_183 (by decide) ?_
      cases ho
      exact e_v B hx hb hr hlocks dX10_does_224
    · have ho := in_ c7 ho
      by_cases c10 : (σ 205 a0.toNatClampNeg) = 104
      · have ho := ip_ c10 ho
        refine lv_tableIn (off := 102) (tgt := 136) hx hb dX10_does_34 (by rw [c10]; decide) (by rw [c10]; decide) (by rw [c10]; rfl) (by decide) ?_
        refine lv_aload_n hx hb dX10_does_136 rfl (lv_at hl 3 rfl) ?_
        refine lv_iload_n hx hb dX10_does_137 rfl (lv_at hl 2 rfl) ?_
        refine lv_iload_n hx hb dX10_does_138 rfl (lv_at hl 1 rfl) ?_
        refine lv_iload hx hb dX10_does_139 (lv_at hl 0 rfl) ?_
        obtain ⟨q11, σ12, hq11, ho⟩ := bnm_ ho
        refine k_iV (As := [.int x1, .int x2, .int x3]) (rest := []) S F B (c_X10_hedgeIt l G σ _ x1 x2 x3 hq11) (kq (by decide) : kd 198 = 21 ∧ 198 < NN) rfl rfl (cwV 3 hts gX10_does_X10_hedgeIt rfl rfl rfl (by decide +kernel) ⟨Nat.le_of_ble_eq_true rfl, Nat.le_of_ble_eq_true rfl⟩) rfl hl.1 rfl (Nat.le_of_ble_eq_true rfl) dX10_does_141 ⟨Nat.le_of_ble_eq_true rfl, Nat.le_of_ble_eq_true rfl⟩ (fun H locs B => ?_)
        refine lv_pop hx hb dX10_does_144 rfl ?_
        refine lv_goto (tgt := 224) hx hb dX10_does_145 (by decide) ?_
        cases ho
        exact e_v B hx hb hr hlocks dX10_does_224
      · have ho := in_ c10 ho
        by_cases c13 : (σ 205 a0.toNatClampNeg) = 109
        · have ho := ip_ c13 ho
          refine lv_tableIn (off := 134) (tgt := 168) hx hb dX10_does_34 (by rw [c13]; decide) (by rw [c13]; decide) (by rw [c13]; rfl) (by decide) ?_
          refine lv_aload_n hx hb dX10_does_168 rfl (lv_at hl 3 rfl) ?_
          refine lv_iload_n hx hb dX10_does_169 rfl (lv_at hl 2 rfl) ?_
          obtain ⟨q14, σ15, hq14, ho⟩ := bnm_ ho
          refine k_iV (As := [.int x1]) (rest := []) S F B (c_X10_minotaurIt l G σ _ x1 hq14) (kq (by decide) : kd 198 = 21 ∧ 198 < NN) rfl rfl (cwV 1 hts gX10_does_X10_minotaurIt rfl rfl rfl (by decide +kernel) ⟨Nat.le_of_ble_eq_true rfl, Nat.le_of_ble_eq_true rfl⟩) rfl hl.1 rfl (Nat.le_of_ble_eq_true rfl) dX10_does_170 ⟨Nat.le_of_ble_eq_true rfl, Nat.le_of_ble_eq_true rfl⟩ (fun H locs B => ?_)
          refine lv_pop hx hb dX10_does_173 rfl ?_
          refine lv_goto (tgt := 224) hx hb dX10_does_174 (by decide) ?_
          cases ho
          exact e_v B hx hb hr hlocks dX10_does_224
        · have ho := in_ c13 ho
          by_cases c16 : (σ 205 a0.toNatClampNeg) = 115
          · have ho := ip_ c16 ho
            refine lv_tableIn (off := 114) (tgt := 148) hx hb dX10_does_34 (by rw [c16]; decide) (by rw [c16]; decide) (by rw [c16]; rfl) (by decide) ?_
            refine lv_aload_n hx hb dX10_does_148 rfl (lv_at hl 3 rfl) ?_
            obtain ⟨q17, σ18, hq17, ho⟩ := bnm_ ho
            refine k_iV (As := []) (rest := []) S F B (c_X10_summerIt l G σ _ hq17) (kq (by decide) : kd 198 = 21 ∧ 198 < NN) rfl rfl (cwV 0 hts gX10_does_X10_summerIt rfl rfl rfl (by decide +kernel) ⟨Nat.le_of_ble_eq_true rfl, Nat.le_of_ble_eq_true rfl⟩) rfl hl.1 rfl (Nat.le_of_ble_eq_true rfl) dX10_does_149 ⟨Nat.le_of_ble_eq_true rfl, Nat.le_of_ble_eq_true rfl⟩ (fun H locs B => ?_)
            refine lv_pop hx hb dX10_does_152 rfl ?_
            refine lv_goto (tgt := 224) hx hb dX10_does_153 (by decide) ?_
            cases ho
            exact e_v B hx hb hr hlocks dX10_does_224
          · have ho := in_ c16 ho
            by_cases c19 : (σ 205 a0.toNatClampNeg) = 116
            · have ho := ip_ c19 ho
              refine lv_tableIn (off := 122) (tgt := 156) hx hb dX10_does_34 (by rw [c19]; decide) (by rw [c19]; decide) (by rw [c19]; rfl) (by decide) ?_
              refine lv_aload_n hx hb dX10_does_156 rfl (lv_at hl 3 rfl) ?_
              refine lv_iload_n hx hb dX10_does_157 rfl (lv_at hl 2 rfl) ?_
              refine lv_iload_n hx hb dX10_does_158 rfl (lv_at hl 1 rfl) ?_
              refine lv_iload hx hb dX10_does_159 (lv_at hl 0 rfl) ?_
              obtain ⟨q20, σ21, hq20, ho⟩ := bnm_ ho
              refine k_iV (As := [.int x1, .int x2, .int x3]) (rest := []) S F B (c_X10_trimIt l G σ _ x1 x2 x3 hq20) (kq (by decide) : kd 198 = 21 ∧ 198 < NN) rfl rfl (cwV 3 hts gX10_does_X10_trimIt rfl rfl rfl (by decide +kernel) ⟨Nat.le_of_ble_eq_true rfl, Nat.le_of_ble_eq_true rfl⟩) rfl hl.1 rfl (Nat.le_of_ble_eq_true rfl) dX10_does_161 ⟨Nat.le_of_ble_eq_true rfl, Nat.le_of_ble_eq_true rfl⟩ (fun H locs B => ?_)
              refine lv_pop hx hb dX10_does_164 rfl ?_
              refine lv_goto (tgt := 224) hx hb dX10_does_165 (by decide) ?_
              cases ho
              exact e_v B hx hb hr hlocks dX10_does_224
            · have ho := in_ c19 ho
              by_cases c22 : (σ 205 a0.toNatClampNeg) = 118
              · have ho := ip_ c22 ho
                refine lv_tableIn (off := 152) (tgt := 186) hx hb dX10_does_34 (by rw [c22]; decide) (by rw [c22]; decide) (by rw [c22]; rfl) (by decide) ?_
                refine lv_aload_n hx hb dX10_does_186 rfl (lv_at hl 3 rfl) ?_
                refine lv_iload_n hx hb dX10_does_187 rfl (lv_at hl 2 rfl) ?_
                obtain ⟨q23, σ24, hq23, ho⟩ := bnm_ ho
                refine k_iV (As := [.int x1]) (rest := []) S F B (c_X10_visitorIt l G σ _ x1 hq23) (kq (by decide) : kd 198 = 21 ∧ 198 < NN) rfl rfl (cwV 1 hts gX10_does_X10_visitorIt rfl rfl rfl (by decide +kernel) ⟨Nat.le_of_ble_eq_true rfl, Nat.le_of_ble_eq_true rfl⟩) rfl hl.1 rfl (Nat.le_of_ble_eq_true rfl) dX10_does_188 ⟨Nat.le_of_ble_eq_true rfl, Nat.le_of_ble_eq_true rfl⟩ (fun H locs B => ?_)
                refine lv_pop hx hb dX10_does_191 rfl ?_
                refine lv_goto (tgt := 224) hx hb dX10_does_192 (by decide) ?_
                cases ho
                exact e_v B hx hb hr hlocks dX10_does_224
              · have ho := in_ c22 ho
                by_cases c25 : (σ 205 a0.toNatClampNeg) = 119
                · have ho := ip_ c25 ho
                  refine lv_tableIn (off := 173) (tgt := 207) hx hb dX10_does_34 (by rw [c25]; decide) (by rw [c25]; decide) (by rw [c25]; rfl) (by decide) ?_
                  refine lv_aload_n hx hb dX10_does_207 rfl (lv_at hl 3 rfl) ?_
                  refine lv_iload_n hx hb dX10_does_208 rfl (lv_at hl 2 rfl) ?_
                  refine lv_iload_n hx hb dX10_does_209 rfl (lv_at hl 1 rfl) ?_
                  obtain ⟨q26, σ27, hq26, ho⟩ := bnm_ ho
                  refine k_iV (As := [.int x1, .int x2]) (rest := []) S F B (c_X10_walkIt l G σ _ x1 x2 hq26) (kq (by decide) : kd 198 = 21 ∧ 198 < NN) rfl rfl (cwV 2 hts gX10_does_X10_walkIt rfl rfl rfl (by decide +kernel) ⟨Nat.le_of_ble_eq_true rfl, Nat.le_of_ble_eq_true rfl⟩) rfl hl.1 rfl (Nat.le_of_ble_eq_true rfl) dX10_does_210 ⟨Nat.le_of_ble_eq_true rfl, Nat.le_of_ble_eq_true rfl⟩ (fun H locs B => ?_)
                  refine lv_pop hx hb dX10_does_213 rfl ?_
                  refine lv_goto (tgt := 224) hx hb dX10_does_214 (by decide) ?_
                  cases ho
                  exact e_v B hx hb hr hlocks dX10_does_224
                · have ho := in_ c25 ho
                  refine t_tableD (tgt := 217) hx hb dX10_does_34 rfl (fun j hj => ?_) (by decide) ?_
                  · have hj : j < 22 := hj
                    rcases (show j = 0 ∨ j = 1 ∨ j = 2 ∨ j = 3 ∨ j = 4 ∨ j = 5 ∨ j = 6 ∨ j = 7 ∨ j = 8 ∨ j = 9 ∨ j = 10 ∨ j = 11 ∨ j = 12 ∨ j = 13 ∨ j = 14 ∨ j = 15 ∨ j = 16 ∨ j = 17 ∨ j = 18 ∨ j = 19 ∨ j = 20 ∨ j = 21 by omega) with rfl | rfl | rfl | rfl | rfl | rfl | rfl | rfl | rfl | rfl | rfl | rfl | rfl | rfl | rfl | rfl | rfl | rfl | rfl | rfl | rfl | rfl
                    · exact Or.inr (lv_neT c4 (by decide))
                    · exact Or.inl rfl
                    · exact Or.inl rfl
                    · exact Or.inl rfl
                    · exact Or.inl rfl
                    · exact Or.inr (lv_neT c7 (by decide))
                    · exact Or.inr (lv_neT c10 (by decide))
                    · exact Or.inl rfl
                    · exact Or.inl rfl
                    · exact Or.inl rfl
                    · exact Or.inl rfl
                    · exact Or.inr (lv_neT c13 (by decide))
                    · exact Or.inl rfl
                    · exact Or.inl rfl
                    · exact Or.inl rfl
                    · exact Or.inl rfl
                    · exact Or.inl rfl
                    · exact Or.inr (lv_neT c16 (by decide))
                    · exact Or.inr (lv_neT c19 (by decide))
                    · exact Or.inl rfl
                    · exact Or.inr (lv_neT c22 (by decide))
                    · exact Or.inr (lv_neT c25 (by decide))
                  · refine lv_aload_n hx hb dX10_does_217 rfl (lv_at hl 3 rfl) ?_
                    refine lv_iload_n hx hb dX10_does_218 rfl (lv_at hl 2 rfl) ?_
                    refine lv_iload_n hx hb dX10_does_219 rfl (lv_at hl 1 rfl) ?_
                    obtain ⟨q28, σ29, hq28, ho⟩ := bnm_ ho
                    refine k_iV (As := [.int x1, .int x2]) (rest := []) S F B (c_X10_restIt l G σ _ x1 x2 hq28) (kq (by decide) : kd 198 = 21 ∧ 198 < NN) rfl rfl (cwV 2 hts gX10_does_X10_restIt rfl rfl rfl (by decide +kernel) ⟨Nat.le_of_ble_eq_true rfl, Nat.le_of_ble_eq_true rfl⟩) rfl hl.1 rfl (Nat.le_of_ble_eq_true rfl) dX10_does_220 ⟨Nat.le_of_ble_eq_true rfl, Nat.le_of_ble_eq_true rfl⟩ (fun H locs B => ?_)
                    refine lv_pop hx hb dX10_does_223 rfl ?_
                    cases ho
                    exact e_v B hx hb hr hlocks dX10_does_224

set_option maxHeartbeats 4000000 in
set_option maxRecDepth 100000 in
theorem c_X10_commands (l : Launch) (G : Gd) (σ : Mm) (sz : Nat) {out : Int32 × Mm} (ho : f_X10_commands σ = some out) : Met l yX10_commands wsX10_commands { frames := 6, cells := 0, slots := 0, locals := 153 } (va_Pc [.ref (G.2.2 198)] (PW G σ sz)) (Qi G sz out.1 out.2) 0 0 (AA G sz) := by
  refine Met.ofW (cc := cX10_commands) (maxL := 4) (ret := (some .int)) (by decide) rfl ?_
  intro p e s m args below meth c s₁ B0 hml hv
  obtain ⟨rfl, hpw⟩ := hv
  have hsz := hpw.1
  subst hsz
  obtain ⟨F, B⟩ := hpw.to
  have hx := B0.exec
  have hb := B0.bytes
  have hr := B0.returns
  have hts := atoms_spec (ws := wsX10_commands) B0.pre
  have hown : s.vm.findClass RX10 = some m.cls := findClass_of_methodNamed B0.named
  have hlocks := B0.notSynchronized
  have S : CallFix p m c cX10_commands 4 s _ wsX10_commands RX10 := ⟨hx, hb, hml, hown, hts⟩
  have hiX10 : ∀ w ∈ u_ws RX10 TX10 21, w ∈ wsX10_commands := by decide +kernel
  have hl := lv_entry [.ref (G.2.2 198)] (n := 4) (Nat.le_of_ble_eq_true rfl)
  rw [lg_entry_eq]
  generalize (lg_sl [.ref (G.2.2 198)] ++ List.replicate (4 - (lg_sl [.ref (G.2.2 198)]).length) Slot.unset).toArray = ls at hl ⊢
  have hl : lv_has ls 4 [(0, .ref (G.2.2 198))] := hl
  unfold f_X10_commands at ho
  skip
  refine lv_aload_n hx hb dX10_commands_0 rfl (lv_at hl 0 rfl) ?_
  obtain ⟨σ2, hq1, ho⟩ := bnd_ ho
  refine k_vV (As := []) (rest := []) S F B (c_X10_starts l G σ _ hq1) (kq (by decide) : kd 198 = 21 ∧ 198 < NN) rfl rfl (cwV 0 hts gX10_commands_X10_starts rfl rfl rfl (by decide +kernel) ⟨Nat.le_of_ble_eq_true rfl, Nat.le_of_ble_eq_true rfl⟩) rfl hl.1 rfl (Nat.le_of_ble_eq_true rfl) dX10_commands_1 ⟨Nat.le_of_ble_eq_true rfl, Nat.le_of_ble_eq_true rfl⟩ (fun H locs B => ?_)
  refine lv_aload_n hx hb dX10_commands_4 rfl (lv_at hl 0 rfl) ?_
  refine lv_aload_n hx hb dX10_commands_5 rfl (lv_at hl 0 rfl) ?_
  refine r_get (ci := 14) (C := RX10) (T := TX10) (N := 21) S F B (kq (by decide) : kd 198 = 21 ∧ 198 < NN) rfl rfl hiX10 11 (by decide) (by decide +kernel) rfl dX10_commands_6 ?_
  refine r_put (ci := 14) (C := RX10) (T := TX10) (N := 21) (ty := .int) S F B tyX10 tyX10_ok nmX10 (kq (by decide) : kd 198 = 21 ∧ 198 < NN) (fun _ => rfl) rfl hiX10 17 (by decide) (by decide +kernel) rfl rfl rfl rfl (fun _ => Nat.le_of_ble_eq_true rfl) (fun _ => rfl) dX10_commands_9 (fun H locs B => ?_)
  obtain ⟨σ3, eσ3, ho⟩ := lt_ ho
  rw [← eσ3] at B
  refine lv_aload_n hx hb dX10_commands_12 rfl (lv_at hl 0 rfl) ?_
  refine lv_iconst (v := 0) hx hb dX10_commands_13 (by decide) ?_
  refine r_put (ci := 14) (C := RX10) (T := TX10) (N := 21) (ty := .int) S F B tyX10 tyX10_ok nmX10 (kq (by decide) : kd 198 = 21 ∧ 198 < NN) (fun _ => rfl) rfl hiX10 11 (by decide) (by decide +kernel) rfl rfl rfl rfl (fun _ => Nat.le_of_ble_eq_true rfl) (fun _ => rfl) dX10_commands_14 (fun H locs B => ?_)
  obtain ⟨σ4, eσ4, ho⟩ := lt_ ho
  rw [← eσ4] at B
  refine lv_aload_n hx hb dX10_commands_17 rfl (lv_at hl 0 rfl) ?_
  refine lv_iconst (v := 0) hx hb dX10_commands_18 (by decide) ?_
  refine r_put (ci := 14) (C := RX10) (T := TX10) (N := 21) (ty := .int) S F B tyX10 tyX10_ok nmX10 (kq (by decide) : kd 198 = 21 ∧ 198 < NN) (fun _ => rfl) rfl hiX10 16 (by decide) (by decide +kernel) rfl rfl rfl rfl (fun _ => Nat.le_of_ble_eq_true rfl) (fun _ => rfl) dX10_commands_19 (fun H locs B => ?_)
  obtain ⟨σ5, eσ5, ho⟩ := lt_ ho
  rw [← eσ5] at B
  refine lv_aload_n hx hb dX10_commands_22 rfl (lv_at hl 0 rfl) ?_
  refine lv_iconst (v := 0) hx hb dX10_commands_23 (by decide) ?_
  refine r_put (ci := 14) (C := RX10) (T := TX10) (N := 21) (ty := .int) S F B tyX10 tyX10_ok nmX10 (kq (by decide) : kd 198 = 21 ∧ 198 < NN) (fun _ => rfl) rfl hiX10 15 (by decide) (by decide +kernel) rfl rfl rfl rfl (fun _ => Nat.le_of_ble_eq_true rfl) (fun _ => rfl) dX10_commands_24 (fun H locs B => ?_)
  obtain ⟨σ6, eσ6, ho⟩ := lt_ ho
  rw [← eσ6] at B
  refine lv_aload_n hx hb dX10_commands_27 rfl (lv_at hl 0 rfl) ?_
  refine lv_iconst (v := 0) hx hb dX10_commands_28 (by decide) ?_
  refine r_put (ci := 14) (C := RX10) (T := TX10) (N := 21) (ty := .boolean) S F B tyX10 tyX10_ok nmX10 (kq (by decide) : kd 198 = 21 ∧ 198 < NN) (fun _ => rfl) rfl hiX10 18 (by decide) (by decide +kernel) rfl rfl rfl rfl (fun _ => Nat.le_of_ble_eq_true rfl) (fun _ => rfl) dX10_commands_29 (fun H locs B => ?_)
  obtain ⟨σ7, eσ7, ho⟩ := lt_ ho
  rw [← eσ7] at B
  refine lv_iconst (v := 1) hx hb dX10_commands_32 (by decide) ?_
  refine lv_istore_n (lv' := [(1, .int 1), (0, .ref (G.2.2 198))]) hx hb dX10_commands_33 rfl hl (by decide) rfl (fun ls hl => ?_)
  obtain ⟨K, hK, ho⟩ := lt_ ho
  have hexit34 : ∀ (v8 : Int32) (σ9 : Mm) (H : Heap) (locs : List Loc) (ls : Array Slot), K v8 σ9 = some out → Bd G σ9 s H locs → lv_has ls 4 [(1, .int v8), (0, .ref (G.2.2 198))] → W p l e (headSpec wsX10_commands { frames := 6, cells := 0, slots := 0, locals := 153 }).room s m #[.ref (G.2.2 198)] below meth c H locs 0 0 (MQ below (Qi G s.heap.size out.1 out.2) #[.ref (G.2.2 198)] s 0 0 (AA G s.heap.size)) (F0 m 104 ls []) := by
    intro v8 σ9 H locs ls ho B hl
    subst hK
    refine lv_aload_n hx hb dX10_commands_104 rfl (lv_at hl 1 rfl) ?_
    refine lv_aload_n hx hb dX10_commands_105 rfl (lv_at hl 1 rfl) ?_
    refine r_get (ci := 14) (C := RX10) (T := TX10) (N := 21) S F B (kq (by decide) : kd 198 = 21 ∧ 198 < NN) rfl rfl hiX10 18 (by decide) (by decide +kernel) rfl dX10_commands_106 ?_
    refine lv_if_eq (tgt := 119) hx hb dX10_commands_109 (by decide) (fun c11 => ?_) (fun c11 => ?_)
    · have ho := ip_ c11 ho
      refine lv_iconst (v := (-1)) hx hb dX10_commands_119 (by decide) ?_
      refine r_put (ci := 14) (C := RX10) (T := TX10) (N := 21) (ty := .int) S F B tyX10 tyX10_ok nmX10 (kq (by decide) : kd 198 = 21 ∧ 198 < NN) (fun _ => rfl) rfl hiX10 9 (by decide) (by decide +kernel) rfl rfl rfl rfl (fun _ => Nat.le_of_ble_eq_true rfl) (fun _ => rfl) dX10_commands_120 (fun H locs B => ?_)
      obtain ⟨σ12, eσ12, ho⟩ := lt_ ho
      rw [← eσ12] at B
      refine lv_aload_n hx hb dX10_commands_123 rfl (lv_at hl 1 rfl) ?_
      refine r_get (ci := 14) (C := RX10) (T := TX10) (N := 21) S F B (kq (by decide) : kd 198 = 21 ∧ 198 < NN) rfl rfl hiX10 18 (by decide) (by decide +kernel) rfl dX10_commands_124 ?_
      refine lv_if_eq (tgt := 136) hx hb dX10_commands_127 (by decide) (fun c13 => ?_) (fun c13 => ?_)
      · have ho := ip_ c13 ho
        refine lv_iconst (v := 0) hx hb dX10_commands_136 (by decide) ?_
        refine lv_istore_n (lv' := [(2, .int 0), (1, .int v8), (0, .ref (G.2.2 198))]) hx hb dX10_commands_137 rfl hl (by decide) rfl (fun ls hl => ?_)
        obtain ⟨K, hK, ho⟩ := lt_ ho
        have hexit138 : ∀ (v14 : Int32) (σ15 : Mm) (H : Heap) (locs : List Loc) (ls : Array Slot), K v14 σ15 = some out → Bd G σ15 s H locs → lv_has ls 4 [(2, .int v14), (1, .int v8), (0, .ref (G.2.2 198))] → W p l e (headSpec wsX10_commands { frames := 6, cells := 0, slots := 0, locals := 153 }).room s m #[.ref (G.2.2 198)] below meth c H locs 0 0 (MQ below (Qi G s.heap.size out.1 out.2) #[.ref (G.2.2 198)] s 0 0 (AA G s.heap.size)) (F0 m 160 ls []) := by
          intro v14 σ15 H locs ls ho B hl
          subst hK
          refine lv_iconst (v := 0) hx hb dX10_commands_160 (by decide) ?_
          refine lv_istore_n (lv' := [(3, .int 0), (2, .int v14), (1, .int v8), (0, .ref (G.2.2 198))]) hx hb dX10_commands_161 rfl hl (by decide) rfl (fun ls hl => ?_)
          have hloop162 : ∀ (n : Nat) (v20 : Int32) (σ21 : Mm) (H : Heap) (locs : List Loc) (ls : Array Slot), f_X10_commands_l162  v14 v8 n v20 σ21 = some out → Bd G σ21 s H locs → lv_has ls 4 [(3, .int v20), (2, .int v14), (1, .int v8), (0, .ref (G.2.2 198))] → W p l e (headSpec wsX10_commands { frames := 6, cells := 0, slots := 0, locals := 153 }).room s m #[.ref (G.2.2 198)] below meth c H locs 0 0 (MQ below (Qi G s.heap.size out.1 out.2) #[.ref (G.2.2 198)] s 0 0 (AA G s.heap.size)) (F0 m 162 ls []) := by
            intro n
            induction n with
            | zero => intro v20 σ21 H locs ls ho B hl; cases ho
            | succ n ih =>
              intro v20 σ21 H locs ls ho B hl
              refine lv_iload_n hx hb dX10_commands_162 rfl (lv_at hl 0 rfl) ?_
              refine lv_bipush (v := 86) hx hb dX10_commands_163 (by decide) ?_
              refine lv_icmp_ge (tgt := 186) hx hb dX10_commands_165 (by decide) (fun c22 => ?_) (fun c22 => ?_)
              · have ho := ip_ c22 ho
                refine lv_aload_n hx hb dX10_commands_186 rfl (lv_at hl 3 rfl) ?_
                refine lv_iload_n hx hb dX10_commands_187 rfl (lv_at hl 1 rfl) ?_
                refine r_put (ci := 14) (C := RX10) (T := TX10) (N := 21) (ty := .int) S F B tyX10 tyX10_ok nmX10 (kq (by decide) : kd 198 = 21 ∧ 198 < NN) (fun _ => rfl) rfl hiX10 8 (by decide) (by decide +kernel) rfl rfl rfl rfl (fun _ => Nat.le_of_ble_eq_true rfl) (fun _ => rfl) dX10_commands_188 (fun H locs B => ?_)
                obtain ⟨σ23, eσ23, ho⟩ := lt_ ho
                rw [← eσ23] at B
                refine lv_aload_n hx hb dX10_commands_191 rfl (lv_at hl 3 rfl) ?_
                refine lv_iconst (v := 2) hx hb dX10_commands_192 (by decide) ?_
                obtain ⟨q24, σ25, hq24, ho⟩ := bnm_ ho
                refine k_iV (As := [.int 2]) (rest := []) S F B (c_X10_throwing l G σ23 _ 2 hq24) (kq (by decide) : kd 198 = 21 ∧ 198 < NN) rfl rfl (cwV 1 hts gX10_commands_X10_throwing rfl rfl rfl (by decide +kernel) ⟨Nat.le_of_ble_eq_true rfl, Nat.le_of_ble_eq_true rfl⟩) rfl hl.1 rfl (Nat.le_of_ble_eq_true rfl) dX10_commands_193 ⟨Nat.le_of_ble_eq_true rfl, Nat.le_of_ble_eq_true rfl⟩ (fun H locs B => ?_)
                cases ho
                exact e_i B hx hb hr hlocks rfl rfl dX10_commands_196
              · have ho := in_ c22 ho
                refine lv_aload_n hx hb dX10_commands_168 rfl (lv_at hl 3 rfl) ?_
                refine r_get (ci := 14) (C := RX10) (T := TX10) (N := 21) S F B (kq (by decide) : kd 198 = 21 ∧ 198 < NN) rfl rfl hiX10 0 (by decide) (by decide +kernel) rfl dX10_commands_169 ?_
                refine lv_iload_n hx hb dX10_commands_172 rfl (lv_at hl 0 rfl) ?_
                refine lv_aload_n hx hb dX10_commands_173 rfl (lv_at hl 3 rfl) ?_
                refine r_get (ci := 14) (C := RX10) (T := TX10) (N := 21) S F B (kq (by decide) : kd 198 = 21 ∧ 198 < NN) rfl rfl hiX10 1 (by decide) (by decide +kernel) rfl dX10_commands_174 ?_
                refine lv_iload_n hx hb dX10_commands_177 rfl (lv_at hl 0 rfl) ?_
                obtain ⟨hi, ho⟩ := gd_ ho
                refine r_iald S F B (kq (by decide) : kd 200 = 22 ∧ 200 < NN) rfl hi dX10_commands_178 ?_
                obtain ⟨hi, ho⟩ := gd_ ho
                refine r_iast S F B (kq (by decide) : kd 199 = 22 ∧ 199 < NN) (fun _ => rfl) hi dX10_commands_179 (fun H locs B => ?_)
                obtain ⟨σ26, eσ26, ho⟩ := lt_ ho
                rw [← eσ26] at B
                obtain ⟨x27, ex27, ho⟩ := lt_ ho
                refine lv_iinc (v := x27) (lv' := [(3, .int x27), (2, .int v14), (1, .int v8), (0, .ref (G.2.2 198))]) hx hb dX10_commands_180 hl (k := 0) rfl (by rw [ex27]; rfl) (by decide) rfl (fun ls hl => ?_)
                refine lv_goto (tgt := 162) hx hb dX10_commands_183 (by decide) ?_
                exact ih _ _ _ _ _ ho B (lv_sub hl [0, 1, 2, 3] rfl)
          exact hloop162 90 _ _ _ _ _ ho B hl
        have hloop138 : ∀ (n : Nat) (v28 : Int32) (σ29 : Mm) (H : Heap) (locs : List Loc) (ls : Array Slot), f_X10_commands_l138 K v8 n v28 σ29 = some out → Bd G σ29 s H locs → lv_has ls 4 [(2, .int v28), (1, .int v8), (0, .ref (G.2.2 198))] → W p l e (headSpec wsX10_commands { frames := 6, cells := 0, slots := 0, locals := 153 }).room s m #[.ref (G.2.2 198)] below meth c H locs 0 0 (MQ below (Qi G s.heap.size out.1 out.2) #[.ref (G.2.2 198)] s 0 0 (AA G s.heap.size)) (F0 m 138 ls []) := by
          intro n
          induction n with
          | zero => intro v28 σ29 H locs ls ho B hl; cases ho
          | succ n ih =>
            intro v28 σ29 H locs ls ho B hl
            refine lv_iload_n hx hb dX10_commands_138 rfl (lv_at hl 0 rfl) ?_
            refine lv_aload_n hx hb dX10_commands_139 rfl (lv_at hl 2 rfl) ?_
            refine r_get (ci := 14) (C := RX10) (T := TX10) (N := 21) S F B (kq (by decide) : kd 198 = 21 ∧ 198 < NN) rfl rfl hiX10 15 (by decide) (by decide +kernel) rfl dX10_commands_140 ?_
            refine lv_icmp_ge (tgt := 203) hx hb dX10_commands_143 (by decide) (fun c30 => ?_) (fun c30 => ?_)
            · have ho := ip_ c30 ho
              refine lv_aload_n hx hb dX10_commands_203 rfl (lv_at hl 2 rfl) ?_
              refine lv_aload_n hx hb dX10_commands_204 rfl (lv_at hl 2 rfl) ?_
              refine r_get (ci := 14) (C := RX10) (T := TX10) (N := 21) S F B (kq (by decide) : kd 198 = 21 ∧ 198 < NN) rfl rfl hiX10 15 (by decide) (by decide +kernel) rfl dX10_commands_205 ?_
              obtain ⟨q31, σ32, hq31, ho⟩ := bnm_ ho
              refine k_iV (As := [.int (σ29 198 15)]) (rest := []) S F B (c_X10_changed l G σ29 _ (σ29 198 15) hq31) (kq (by decide) : kd 198 = 21 ∧ 198 < NN) rfl rfl (cwV 1 hts gX10_commands_X10_changed rfl rfl rfl (by decide +kernel) ⟨Nat.le_of_ble_eq_true rfl, Nat.le_of_ble_eq_true rfl⟩) rfl hl.1 rfl (Nat.le_of_ble_eq_true rfl) dX10_commands_208 ⟨Nat.le_of_ble_eq_true rfl, Nat.le_of_ble_eq_true rfl⟩ (fun H locs B => ?_)
              cases ho
              exact e_i B hx hb hr hlocks rfl rfl dX10_commands_211
            · have ho := in_ c30 ho
              refine lv_aload_n hx hb dX10_commands_146 rfl (lv_at hl 2 rfl) ?_
              refine lv_iconst (v := 4) hx hb dX10_commands_147 (by decide) ?_
              refine lv_iload_n hx hb dX10_commands_148 rfl (lv_at hl 0 rfl) ?_
              refine lv_imul hx hb dX10_commands_149 ?_
              obtain ⟨σ34, hq33, ho⟩ := bnd_ ho
              refine k_vV (As := [.int (4 * v28)]) (rest := []) S F B (c_X10_does l G σ29 _ (4 * v28) hq33) (kq (by decide) : kd 198 = 21 ∧ 198 < NN) rfl rfl (cwV 1 hts gX10_commands_X10_does rfl rfl rfl (by decide +kernel) ⟨Nat.le_of_ble_eq_true rfl, Nat.le_of_ble_eq_true rfl⟩) rfl hl.1 rfl (Nat.le_of_ble_eq_true rfl) dX10_commands_150 ⟨Nat.le_of_ble_eq_true rfl, Nat.le_of_ble_eq_true rfl⟩ (fun H locs B => ?_)
              refine lv_aload_n hx hb dX10_commands_153 rfl (lv_at hl 2 rfl) ?_
              refine r_get (ci := 14) (C := RX10) (T := TX10) (N := 21) S F B (kq (by decide) : kd 198 = 21 ∧ 198 < NN) rfl rfl hiX10 12 (by decide) (by decide +kernel) rfl dX10_commands_154 ?_
              refine lv_if_le (tgt := 197) hx hb dX10_commands_157 (by decide) (fun c35 => ?_) (fun c35 => ?_)
              · have ho := ip_ c35 ho
                obtain ⟨x36, ex36, ho⟩ := lt_ ho
                refine lv_iinc (v := x36) (lv' := [(2, .int x36), (1, .int v8), (0, .ref (G.2.2 198))]) hx hb dX10_commands_197 hl (k := 0) rfl (by rw [ex36]; rfl) (by decide) rfl (fun ls hl => ?_)
                refine lv_goto (tgt := 138) hx hb dX10_commands_200 (by decide) ?_
                exact ih _ _ _ _ _ ho B (lv_sub hl [0, 1, 2] rfl)
              · have ho := in_ c35 ho
                exact hexit138 _ _ _ _ _ ho B (lv_sub hl [0, 1, 2] rfl)
        exact hloop138 90 _ _ _ _ _ ho B hl
      · have ho := in_ c13 ho
        refine lv_aload_n hx hb dX10_commands_130 rfl (lv_at hl 1 rfl) ?_
        refine lv_iconst (v := 1) hx hb dX10_commands_131 (by decide) ?_
        obtain ⟨q37, σ38, hq37, ho⟩ := bnm_ ho
        refine k_iV (As := [.int 1]) (rest := []) S F B (c_X10_throwing l G σ12 _ 1 hq37) (kq (by decide) : kd 198 = 21 ∧ 198 < NN) rfl rfl (cwV 1 hts gX10_commands_X10_throwing rfl rfl rfl (by decide +kernel) ⟨Nat.le_of_ble_eq_true rfl, Nat.le_of_ble_eq_true rfl⟩) rfl hl.1 rfl (Nat.le_of_ble_eq_true rfl) dX10_commands_132 ⟨Nat.le_of_ble_eq_true rfl, Nat.le_of_ble_eq_true rfl⟩ (fun H locs B => ?_)
        cases ho
        exact e_i B hx hb hr hlocks rfl rfl dX10_commands_135
    · have ho := in_ c11 ho
      refine lv_aload_n hx hb dX10_commands_112 rfl (lv_at hl 1 rfl) ?_
      refine r_get (ci := 14) (C := RX10) (T := TX10) (N := 21) S F B (kq (by decide) : kd 198 = 21 ∧ 198 < NN) rfl rfl hiX10 16 (by decide) (by decide +kernel) rfl dX10_commands_113 ?_
      refine lv_goto (tgt := 120) hx hb dX10_commands_116 (by decide) ?_
      refine r_put (ci := 14) (C := RX10) (T := TX10) (N := 21) (ty := .int) S F B tyX10 tyX10_ok nmX10 (kq (by decide) : kd 198 = 21 ∧ 198 < NN) (fun _ => rfl) rfl hiX10 9 (by decide) (by decide +kernel) rfl rfl rfl rfl (fun _ => Nat.le_of_ble_eq_true rfl) (fun _ => rfl) dX10_commands_120 (fun H locs B => ?_)
      obtain ⟨σ39, eσ39, ho⟩ := lt_ ho
      rw [← eσ39] at B
      refine lv_aload_n hx hb dX10_commands_123 rfl (lv_at hl 1 rfl) ?_
      refine r_get (ci := 14) (C := RX10) (T := TX10) (N := 21) S F B (kq (by decide) : kd 198 = 21 ∧ 198 < NN) rfl rfl hiX10 18 (by decide) (by decide +kernel) rfl dX10_commands_124 ?_
      refine lv_if_eq (tgt := 136) hx hb dX10_commands_127 (by decide) (fun c40 => ?_) (fun c40 => ?_)
      · have ho := ip_ c40 ho
        refine lv_iconst (v := 0) hx hb dX10_commands_136 (by decide) ?_
        refine lv_istore_n (lv' := [(2, .int 0), (1, .int v8), (0, .ref (G.2.2 198))]) hx hb dX10_commands_137 rfl hl (by decide) rfl (fun ls hl => ?_)
        obtain ⟨K, hK, ho⟩ := lt_ ho
        have hexit138 : ∀ (v41 : Int32) (σ42 : Mm) (H : Heap) (locs : List Loc) (ls : Array Slot), K v41 σ42 = some out → Bd G σ42 s H locs → lv_has ls 4 [(2, .int v41), (1, .int v8), (0, .ref (G.2.2 198))] → W p l e (headSpec wsX10_commands { frames := 6, cells := 0, slots := 0, locals := 153 }).room s m #[.ref (G.2.2 198)] below meth c H locs 0 0 (MQ below (Qi G s.heap.size out.1 out.2) #[.ref (G.2.2 198)] s 0 0 (AA G s.heap.size)) (F0 m 160 ls []) := by
          intro v41 σ42 H locs ls ho B hl
          subst hK
          refine lv_iconst (v := 0) hx hb dX10_commands_160 (by decide) ?_
          refine lv_istore_n (lv' := [(3, .int 0), (2, .int v41), (1, .int v8), (0, .ref (G.2.2 198))]) hx hb dX10_commands_161 rfl hl (by decide) rfl (fun ls hl => ?_)
          have hloop162 : ∀ (n : Nat) (v47 : Int32) (σ48 : Mm) (H : Heap) (locs : List Loc) (ls : Array Slot), f_X10_commands_l162b  v41 v8 n v47 σ48 = some out → Bd G σ48 s H locs → lv_has ls 4 [(3, .int v47), (2, .int v41), (1, .int v8), (0, .ref (G.2.2 198))] → W p l e (headSpec wsX10_commands { frames := 6, cells := 0, slots := 0, locals := 153 }).room s m #[.ref (G.2.2 198)] below meth c H locs 0 0 (MQ below (Qi G s.heap.size out.1 out.2) #[.ref (G.2.2 198)] s 0 0 (AA G s.heap.size)) (F0 m 162 ls []) := by
            intro n
            induction n with
            | zero => intro v47 σ48 H locs ls ho B hl; cases ho
            | succ n ih =>
              intro v47 σ48 H locs ls ho B hl
              refine lv_iload_n hx hb dX10_commands_162 rfl (lv_at hl 0 rfl) ?_
              refine lv_bipush (v := 86) hx hb dX10_commands_163 (by decide) ?_
              refine lv_icmp_ge (tgt := 186) hx hb dX10_commands_165 (by decide) (fun c49 => ?_) (fun c49 => ?_)
              · have ho := ip_ c49 ho
                refine lv_aload_n hx hb dX10_commands_186 rfl (lv_at hl 3 rfl) ?_
                refine lv_iload_n hx hb dX10_commands_187 rfl (lv_at hl 1 rfl) ?_
                refine r_put (ci := 14) (C := RX10) (T := TX10) (N := 21) (ty := .int) S F B tyX10 tyX10_ok nmX10 (kq (by decide) : kd 198 = 21 ∧ 198 < NN) (fun _ => rfl) rfl hiX10 8 (by decide) (by decide +kernel) rfl rfl rfl rfl (fun _ => Nat.le_of_ble_eq_true rfl) (fun _ => rfl) dX10_commands_188 (fun H locs B => ?_)
                obtain ⟨σ50, eσ50, ho⟩ := lt_ ho
                rw [← eσ50] at B
                refine lv_aload_n hx hb dX10_commands_191 rfl (lv_at hl 3 rfl) ?_
                refine lv_iconst (v := 2) hx hb dX10_commands_192 (by decide) ?_
                obtain ⟨q51, σ52, hq51, ho⟩ := bnm_ ho
                refine k_iV (As := [.int 2]) (rest := []) S F B (c_X10_throwing l G σ50 _ 2 hq51) (kq (by decide) : kd 198 = 21 ∧ 198 < NN) rfl rfl (cwV 1 hts gX10_commands_X10_throwing rfl rfl rfl (by decide +kernel) ⟨Nat.le_of_ble_eq_true rfl, Nat.le_of_ble_eq_true rfl⟩) rfl hl.1 rfl (Nat.le_of_ble_eq_true rfl) dX10_commands_193 ⟨Nat.le_of_ble_eq_true rfl, Nat.le_of_ble_eq_true rfl⟩ (fun H locs B => ?_)
                cases ho
                exact e_i B hx hb hr hlocks rfl rfl dX10_commands_196
              · have ho := in_ c49 ho
                refine lv_aload_n hx hb dX10_commands_168 rfl (lv_at hl 3 rfl) ?_
                refine r_get (ci := 14) (C := RX10) (T := TX10) (N := 21) S F B (kq (by decide) : kd 198 = 21 ∧ 198 < NN) rfl rfl hiX10 0 (by decide) (by decide +kernel) rfl dX10_commands_169 ?_
                refine lv_iload_n hx hb dX10_commands_172 rfl (lv_at hl 0 rfl) ?_
                refine lv_aload_n hx hb dX10_commands_173 rfl (lv_at hl 3 rfl) ?_
                refine r_get (ci := 14) (C := RX10) (T := TX10) (N := 21) S F B (kq (by decide) : kd 198 = 21 ∧ 198 < NN) rfl rfl hiX10 1 (by decide) (by decide +kernel) rfl dX10_commands_174 ?_
                refine lv_iload_n hx hb dX10_commands_177 rfl (lv_at hl 0 rfl) ?_
                obtain ⟨hi, ho⟩ := gd_ ho
                refine r_iald S F B (kq (by decide) : kd 200 = 22 ∧ 200 < NN) rfl hi dX10_commands_178 ?_
                obtain ⟨hi, ho⟩ := gd_ ho
                refine r_iast S F B (kq (by decide) : kd 199 = 22 ∧ 199 < NN) (fun _ => rfl) hi dX10_commands_179 (fun H locs B => ?_)
                obtain ⟨σ53, eσ53, ho⟩ := lt_ ho
                rw [← eσ53] at B
                obtain ⟨x54, ex54, ho⟩ := lt_ ho
                refine lv_iinc (v := x54) (lv' := [(3, .int x54), (2, .int v41), (1, .int v8), (0, .ref (G.2.2 198))]) hx hb dX10_commands_180 hl (k := 0) rfl (by rw [ex54]; rfl) (by decide) rfl (fun ls hl => ?_)
                refine lv_goto (tgt := 162) hx hb dX10_commands_183 (by decide) ?_
                exact ih _ _ _ _ _ ho B (lv_sub hl [0, 1, 2, 3] rfl)
          exact hloop162 90 _ _ _ _ _ ho B hl
        have hloop138 : ∀ (n : Nat) (v55 : Int32) (σ56 : Mm) (H : Heap) (locs : List Loc) (ls : Array Slot), f_X10_commands_l138b K v8 n v55 σ56 = some out → Bd G σ56 s H locs → lv_has ls 4 [(2, .int v55), (1, .int v8), (0, .ref (G.2.2 198))] → W p l e (headSpec wsX10_commands { frames := 6, cells := 0, slots := 0, locals := 153 }).room s m #[.ref (G.2.2 198)] below meth c H locs 0 0 (MQ below (Qi G s.heap.size out.1 out.2) #[.ref (G.2.2 198)] s 0 0 (AA G s.heap.size)) (F0 m 138 ls []) := by
          intro n
          induction n with
          | zero => intro v55 σ56 H locs ls ho B hl; cases ho
          | succ n ih =>
            intro v55 σ56 H locs ls ho B hl
            refine lv_iload_n hx hb dX10_commands_138 rfl (lv_at hl 0 rfl) ?_
            refine lv_aload_n hx hb dX10_commands_139 rfl (lv_at hl 2 rfl) ?_
            refine r_get (ci := 14) (C := RX10) (T := TX10) (N := 21) S F B (kq (by decide) : kd 198 = 21 ∧ 198 < NN) rfl rfl hiX10 15 (by decide) (by decide +kernel) rfl dX10_commands_140 ?_
            refine lv_icmp_ge (tgt := 203) hx hb dX10_commands_143 (by decide) (fun c57 => ?_) (fun c57 => ?_)
            · have ho := ip_ c57 ho
              refine lv_aload_n hx hb dX10_commands_203 rfl (lv_at hl 2 rfl) ?_
              refine lv_aload_n hx hb dX10_commands_204 rfl (lv_at hl 2 rfl) ?_
              refine r_get (ci := 14) (C := RX10) (T := TX10) (N := 21) S F B (kq (by decide) : kd 198 = 21 ∧ 198 < NN) rfl rfl hiX10 15 (by decide) (by decide +kernel) rfl dX10_commands_205 ?_
              obtain ⟨q58, σ59, hq58, ho⟩ := bnm_ ho
              refine k_iV (As := [.int (σ56 198 15)]) (rest := []) S F B (c_X10_changed l G σ56 _ (σ56 198 15) hq58) (kq (by decide) : kd 198 = 21 ∧ 198 < NN) rfl rfl (cwV 1 hts gX10_commands_X10_changed rfl rfl rfl (by decide +kernel) ⟨Nat.le_of_ble_eq_true rfl, Nat.le_of_ble_eq_true rfl⟩) rfl hl.1 rfl (Nat.le_of_ble_eq_true rfl) dX10_commands_208 ⟨Nat.le_of_ble_eq_true rfl, Nat.le_of_ble_eq_true rfl⟩ (fun H locs B => ?_)
              cases ho
              exact e_i B hx hb hr hlocks rfl rfl dX10_commands_211
            · have ho := in_ c57 ho
              refine lv_aload_n hx hb dX10_commands_146 rfl (lv_at hl 2 rfl) ?_
              refine lv_iconst (v := 4) hx hb dX10_commands_147 (by decide) ?_
              refine lv_iload_n hx hb dX10_commands_148 rfl (lv_at hl 0 rfl) ?_
              refine lv_imul hx hb dX10_commands_149 ?_
              obtain ⟨σ61, hq60, ho⟩ := bnd_ ho
              refine k_vV (As := [.int (4 * v55)]) (rest := []) S F B (c_X10_does l G σ56 _ (4 * v55) hq60) (kq (by decide) : kd 198 = 21 ∧ 198 < NN) rfl rfl (cwV 1 hts gX10_commands_X10_does rfl rfl rfl (by decide +kernel) ⟨Nat.le_of_ble_eq_true rfl, Nat.le_of_ble_eq_true rfl⟩) rfl hl.1 rfl (Nat.le_of_ble_eq_true rfl) dX10_commands_150 ⟨Nat.le_of_ble_eq_true rfl, Nat.le_of_ble_eq_true rfl⟩ (fun H locs B => ?_)
              refine lv_aload_n hx hb dX10_commands_153 rfl (lv_at hl 2 rfl) ?_
              refine r_get (ci := 14) (C := RX10) (T := TX10) (N := 21) S F B (kq (by decide) : kd 198 = 21 ∧ 198 < NN) rfl rfl hiX10 12 (by decide) (by decide +kernel) rfl dX10_commands_154 ?_
              refine lv_if_le (tgt := 197) hx hb dX10_commands_157 (by decide) (fun c62 => ?_) (fun c62 => ?_)
              · have ho := ip_ c62 ho
                obtain ⟨x63, ex63, ho⟩ := lt_ ho
                refine lv_iinc (v := x63) (lv' := [(2, .int x63), (1, .int v8), (0, .ref (G.2.2 198))]) hx hb dX10_commands_197 hl (k := 0) rfl (by rw [ex63]; rfl) (by decide) rfl (fun ls hl => ?_)
                refine lv_goto (tgt := 138) hx hb dX10_commands_200 (by decide) ?_
                exact ih _ _ _ _ _ ho B (lv_sub hl [0, 1, 2] rfl)
              · have ho := in_ c62 ho
                exact hexit138 _ _ _ _ _ ho B (lv_sub hl [0, 1, 2] rfl)
        exact hloop138 90 _ _ _ _ _ ho B hl
      · have ho := in_ c40 ho
        refine lv_aload_n hx hb dX10_commands_130 rfl (lv_at hl 1 rfl) ?_
        refine lv_iconst (v := 1) hx hb dX10_commands_131 (by decide) ?_
        obtain ⟨q64, σ65, hq64, ho⟩ := bnm_ ho
        refine k_iV (As := [.int 1]) (rest := []) S F B (c_X10_throwing l G σ39 _ 1 hq64) (kq (by decide) : kd 198 = 21 ∧ 198 < NN) rfl rfl (cwV 1 hts gX10_commands_X10_throwing rfl rfl rfl (by decide +kernel) ⟨Nat.le_of_ble_eq_true rfl, Nat.le_of_ble_eq_true rfl⟩) rfl hl.1 rfl (Nat.le_of_ble_eq_true rfl) dX10_commands_132 ⟨Nat.le_of_ble_eq_true rfl, Nat.le_of_ble_eq_true rfl⟩ (fun H locs B => ?_)
        cases ho
        exact e_i B hx hb hr hlocks rfl rfl dX10_commands_135
  have hloop34 : ∀ (n : Nat) (v66 : Int32) (σ67 : Mm) (H : Heap) (locs : List Loc) (ls : Array Slot), f_X10_commands_l34 K  n v66 σ67 = some out → Bd G σ67 s H locs → lv_has ls 4 [(1, .int v66), (0, .ref (G.2.2 198))] → W p l e (headSpec wsX10_commands { frames := 6, cells := 0, slots := 0, locals := 153 }).room s m #[.ref (G.2.2 198)] below meth c H locs 0 0 (MQ below (Qi G s.heap.size out.1 out.2) #[.ref (G.2.2 198)] s 0 0 (AA G s.heap.size)) (F0 m 34 ls []) := by
    intro n
    induction n with
    | zero => intro v66 σ67 H locs ls ho B hl; cases ho
    | succ n ih =>
      intro v66 σ67 H locs ls ho B hl
      refine lv_iload_n hx hb dX10_commands_34 rfl (lv_at hl 0 rfl) ?_
      refine lv_if_eq (tgt := 104) hx hb dX10_commands_35 (by decide) (fun c68 => ?_) (fun c68 => ?_)
      · have ho := ip_ c68 ho
        exact hexit34 _ _ _ _ _ ho B (lv_sub hl [0, 1] rfl)
      · have ho := in_ c68 ho
        refine lv_aload_n hx hb dX10_commands_38 rfl (lv_at hl 1 rfl) ?_
        obtain ⟨σ70, hq69, ho⟩ := bnd_ ho
        refine k_vV (As := []) (rest := []) S F B (c_X10_readOrder l G σ67 _ hq69) (kq (by decide) : kd 198 = 21 ∧ 198 < NN) rfl rfl (cwV 0 hts gX10_commands_X10_readOrder rfl rfl rfl (by decide +kernel) ⟨Nat.le_of_ble_eq_true rfl, Nat.le_of_ble_eq_true rfl⟩) rfl hl.1 rfl (Nat.le_of_ble_eq_true rfl) dX10_commands_39 ⟨Nat.le_of_ble_eq_true rfl, Nat.le_of_ble_eq_true rfl⟩ (fun H locs B => ?_)
        refine lv_aload_n hx hb dX10_commands_42 rfl (lv_at hl 1 rfl) ?_
        refine r_get (ci := 14) (C := RX10) (T := TX10) (N := 21) S F B (kq (by decide) : kd 198 = 21 ∧ 198 < NN) rfl rfl hiX10 18 (by decide) (by decide +kernel) rfl dX10_commands_43 ?_
        refine lv_if_ne (tgt := 64) hx hb dX10_commands_46 (by decide) (fun c71 => ?_) (fun c71 => ?_)
        · have ho := in_ c71 ho
          refine lv_iconst (v := 0) hx hb dX10_commands_64 (by decide) ?_
          refine lv_istore_n (lv' := [(1, .int 0), (0, .ref (G.2.2 198))]) hx hb dX10_commands_65 rfl hl (by decide) rfl (fun ls hl => ?_)
          refine lv_iload_n hx hb dX10_commands_66 rfl (lv_at hl 0 rfl) ?_
          refine lv_if_eq (tgt := 34) hx hb dX10_commands_67 (by decide) (fun _ => ?_) (fun h => absurd h (by decide))
          exact ih _ _ _ _ _ ho B (lv_sub hl [0, 1] rfl)
        · have ho := ip_ c71 ho
          refine lv_aload_n hx hb dX10_commands_49 rfl (lv_at hl 1 rfl) ?_
          refine r_get (ci := 14) (C := RX10) (T := TX10) (N := 21) S F B (kq (by decide) : kd 198 = 21 ∧ 198 < NN) rfl rfl hiX10 16 (by decide) (by decide +kernel) rfl dX10_commands_50 ?_
          refine lv_aload_n hx hb dX10_commands_53 rfl (lv_at hl 1 rfl) ?_
          refine r_get (ci := 14) (C := RX10) (T := TX10) (N := 21) S F B (kq (by decide) : kd 198 = 21 ∧ 198 < NN) rfl rfl hiX10 17 (by decide) (by decide +kernel) rfl dX10_commands_54 ?_
          refine lv_icmp_ge (tgt := 64) hx hb dX10_commands_57 (by decide) (fun c72 => ?_) (fun c72 => ?_)
          · have ho := ip_ c72 ho
            refine lv_iconst (v := 0) hx hb dX10_commands_64 (by decide) ?_
            refine lv_istore_n (lv' := [(1, .int 0), (0, .ref (G.2.2 198))]) hx hb dX10_commands_65 rfl hl (by decide) rfl (fun ls hl => ?_)
            refine lv_iload_n hx hb dX10_commands_66 rfl (lv_at hl 0 rfl) ?_
            refine lv_if_eq (tgt := 34) hx hb dX10_commands_67 (by decide) (fun _ => ?_) (fun h => absurd h (by decide))
            exact ih _ _ _ _ _ ho B (lv_sub hl [0, 1] rfl)
          · have ho := in_ c72 ho
            refine lv_iconst (v := 1) hx hb dX10_commands_60 (by decide) ?_
            refine lv_goto (tgt := 65) hx hb dX10_commands_61 (by decide) ?_
            refine lv_istore_n (lv' := [(1, .int 1), (0, .ref (G.2.2 198))]) hx hb dX10_commands_65 rfl hl (by decide) rfl (fun ls hl => ?_)
            refine lv_iload_n hx hb dX10_commands_66 rfl (lv_at hl 0 rfl) ?_
            refine lv_if_eq (tgt := 34) hx hb dX10_commands_67 (by decide) (fun h => absurd h (by decide)) (fun _ => ?_)
            refine lv_aload_n hx hb dX10_commands_70 rfl (lv_at hl 1 rfl) ?_
            refine lv_aload_n hx hb dX10_commands_71 rfl (lv_at hl 1 rfl) ?_
            obtain ⟨q73, hq73, ho⟩ := bnd_ ho
            refine k_iV (As := []) (rest := [.ref (G.2.2 198)]) S F B (c_X10_here l G σ70 _ hq73) (kq (by decide) : kd 198 = 21 ∧ 198 < NN) rfl rfl (cwV 0 hts gX10_commands_X10_here rfl rfl rfl (by decide +kernel) ⟨Nat.le_of_ble_eq_true rfl, Nat.le_of_ble_eq_true rfl⟩) rfl hl.1 rfl (Nat.le_of_ble_eq_true rfl) dX10_commands_72 ⟨Nat.le_of_ble_eq_true rfl, Nat.le_of_ble_eq_true rfl⟩ (fun H locs B => ?_)
            refine lv_bipush (v := 59) hx hb dX10_commands_75 (by decide) ?_
            refine lv_icmp_ne (tgt := 84) hx hb dX10_commands_77 (by decide) (fun c74 => ?_) (fun c74 => ?_)
            · have ho := in_ c74 ho
              refine lv_iconst (v := 0) hx hb dX10_commands_84 (by decide) ?_
              obtain ⟨σ76, hq75, ho⟩ := bnd_ ho
              refine k_vV (As := [.int 0]) (rest := []) S F B (c_X10_expects l G σ70 _ 0 hq75) (kq (by decide) : kd 198 = 21 ∧ 198 < NN) rfl rfl (cwV 1 hts gX10_commands_X10_expects rfl rfl rfl (by decide +kernel) ⟨Nat.le_of_ble_eq_true rfl, Nat.le_of_ble_eq_true rfl⟩) rfl hl.1 rfl (Nat.le_of_ble_eq_true rfl) dX10_commands_85 ⟨Nat.le_of_ble_eq_true rfl, Nat.le_of_ble_eq_true rfl⟩ (fun H locs B => ?_)
              refine lv_aload_n hx hb dX10_commands_88 rfl (lv_at hl 1 rfl) ?_
              refine r_get (ci := 14) (C := RX10) (T := TX10) (N := 21) S F B (kq (by decide) : kd 198 = 21 ∧ 198 < NN) rfl rfl hiX10 18 (by decide) (by decide +kernel) rfl dX10_commands_89 ?_
              refine lv_if_ne (tgt := 99) hx hb dX10_commands_92 (by decide) (fun c77 => ?_) (fun c77 => ?_)
              · have ho := in_ c77 ho
                refine lv_iconst (v := 0) hx hb dX10_commands_99 (by decide) ?_
                refine lv_istore_n (lv' := [(1, .int 0), (0, .ref (G.2.2 198))]) hx hb dX10_commands_100 rfl hl (by decide) rfl (fun ls hl => ?_)
                refine lv_goto (tgt := 34) hx hb dX10_commands_101 (by decide) ?_
                exact ih _ _ _ _ _ ho B (lv_sub hl [0, 1] rfl)
              · have ho := ip_ c77 ho
                refine lv_iconst (v := 1) hx hb dX10_commands_95 (by decide) ?_
                refine lv_goto (tgt := 100) hx hb dX10_commands_96 (by decide) ?_
                refine lv_istore_n (lv' := [(1, .int 1), (0, .ref (G.2.2 198))]) hx hb dX10_commands_100 rfl hl (by decide) rfl (fun ls hl => ?_)
                refine lv_goto (tgt := 34) hx hb dX10_commands_101 (by decide) ?_
                exact ih _ _ _ _ _ ho B (lv_sub hl [0, 1] rfl)
            · have ho := ip_ c74 ho
              refine lv_iconst (v := 1) hx hb dX10_commands_80 (by decide) ?_
              refine lv_goto (tgt := 85) hx hb dX10_commands_81 (by decide) ?_
              obtain ⟨σ79, hq78, ho⟩ := bnd_ ho
              refine k_vV (As := [.int 1]) (rest := []) S F B (c_X10_expects l G σ70 _ 1 hq78) (kq (by decide) : kd 198 = 21 ∧ 198 < NN) rfl rfl (cwV 1 hts gX10_commands_X10_expects rfl rfl rfl (by decide +kernel) ⟨Nat.le_of_ble_eq_true rfl, Nat.le_of_ble_eq_true rfl⟩) rfl hl.1 rfl (Nat.le_of_ble_eq_true rfl) dX10_commands_85 ⟨Nat.le_of_ble_eq_true rfl, Nat.le_of_ble_eq_true rfl⟩ (fun H locs B => ?_)
              refine lv_aload_n hx hb dX10_commands_88 rfl (lv_at hl 1 rfl) ?_
              refine r_get (ci := 14) (C := RX10) (T := TX10) (N := 21) S F B (kq (by decide) : kd 198 = 21 ∧ 198 < NN) rfl rfl hiX10 18 (by decide) (by decide +kernel) rfl dX10_commands_89 ?_
              refine lv_if_ne (tgt := 99) hx hb dX10_commands_92 (by decide) (fun c80 => ?_) (fun c80 => ?_)
              · have ho := in_ c80 ho
                refine lv_iconst (v := 0) hx hb dX10_commands_99 (by decide) ?_
                refine lv_istore_n (lv' := [(1, .int 0), (0, .ref (G.2.2 198))]) hx hb dX10_commands_100 rfl hl (by decide) rfl (fun ls hl => ?_)
                refine lv_goto (tgt := 34) hx hb dX10_commands_101 (by decide) ?_
                exact ih _ _ _ _ _ ho B (lv_sub hl [0, 1] rfl)
              · have ho := ip_ c80 ho
                refine lv_iconst (v := 1) hx hb dX10_commands_95 (by decide) ?_
                refine lv_goto (tgt := 100) hx hb dX10_commands_96 (by decide) ?_
                refine lv_istore_n (lv' := [(1, .int 1), (0, .ref (G.2.2 198))]) hx hb dX10_commands_100 rfl hl (by decide) rfl (fun ls hl => ?_)
                refine lv_goto (tgt := 34) hx hb dX10_commands_101 (by decide) ?_
                exact ih _ _ _ _ _ ho B (lv_sub hl [0, 1] rfl)
  exact hloop34 90 _ _ _ _ _ ho B hl

set_option maxHeartbeats 4000000 in
set_option maxRecDepth 100000 in
theorem c_X10_faultPosition (l : Launch) (G : Gd) (σ : Mm) (sz : Nat) {out : Int32 × Mm} (ho : f_X10_faultPosition σ = some out) : Met l yX10_faultPosition wsX10_faultPosition { frames := 0, cells := 0, slots := 0, locals := 0 } (va_Pc [.ref (G.2.2 198)] (PW G σ sz)) (Qi G sz out.1 out.2) 0 0 (AA G sz) := by
  refine Met.ofW (cc := cX10_faultPosition) (maxL := 1) (ret := (some .int)) (by decide) rfl ?_
  intro p e s m args below meth c s₁ B0 hml hv
  obtain ⟨rfl, hpw⟩ := hv
  have hsz := hpw.1
  subst hsz
  obtain ⟨F, B⟩ := hpw.to
  have hx := B0.exec
  have hb := B0.bytes
  have hr := B0.returns
  have hts := atoms_spec (ws := wsX10_faultPosition) B0.pre
  have hown : s.vm.findClass RX10 = some m.cls := findClass_of_methodNamed B0.named
  have hlocks := B0.notSynchronized
  have S : CallFix p m c cX10_faultPosition 1 s _ wsX10_faultPosition RX10 := ⟨hx, hb, hml, hown, hts⟩
  have hiX10 : ∀ w ∈ u_ws RX10 TX10 21, w ∈ wsX10_faultPosition := by decide +kernel
  have hl := lv_entry [.ref (G.2.2 198)] (n := 1) (Nat.le_of_ble_eq_true rfl)
  rw [lg_entry_eq]
  generalize (lg_sl [.ref (G.2.2 198)] ++ List.replicate (1 - (lg_sl [.ref (G.2.2 198)]).length) Slot.unset).toArray = ls at hl ⊢
  have hl : lv_has ls 1 [(0, .ref (G.2.2 198))] := hl
  unfold f_X10_faultPosition at ho
  refine lv_aload_n hx hb dX10_faultPosition_0 rfl (lv_at hl 0 rfl) ?_
  refine lv_iconst (v := 0) hx hb dX10_faultPosition_1 (by decide) ?_
  refine r_put (ci := 14) (C := RX10) (T := TX10) (N := 21) (ty := .int) S F B tyX10 tyX10_ok nmX10 (kq (by decide) : kd 198 = 21 ∧ 198 < NN) (fun _ => rfl) rfl hiX10 12 (by decide) (by decide +kernel) rfl rfl rfl rfl (fun _ => Nat.le_of_ble_eq_true rfl) (fun _ => rfl) dX10_faultPosition_2 (fun H locs B => ?_)
  obtain ⟨σ1, eσ1, ho⟩ := lt_ ho
  rw [← eσ1] at B
  refine lv_aload_n hx hb dX10_faultPosition_5 rfl (lv_at hl 0 rfl) ?_
  refine r_get (ci := 14) (C := RX10) (T := TX10) (N := 21) S F B (kq (by decide) : kd 198 = 21 ∧ 198 < NN) rfl rfl hiX10 9 (by decide) (by decide +kernel) rfl dX10_faultPosition_6 ?_
  cases ho
  exact e_i B hx hb hr hlocks rfl rfl dX10_faultPosition_9

set_option maxHeartbeats 4000000 in
set_option maxRecDepth 100000 in
theorem c_X10_reason (l : Launch) (G : Gd) (σ : Mm) (sz : Nat) (a0 : Int32) {out : Int32 × Mm} (ho : f_X10_reason a0 σ = some out) : Met l yX10_reason wsX10_reason { frames := 1, cells := 0, slots := 0, locals := 25 } (va_Pc [.ref (G.2.2 198), .int a0] (PW G σ sz)) (Qi G sz out.1 out.2) 0 0 (AA G sz) := by
  refine Met.ofW (cc := cX10_reason) (maxL := 2) (ret := (some .int)) (by decide) rfl ?_
  intro p e s m args below meth c s₁ B0 hml hv
  obtain ⟨rfl, hpw⟩ := hv
  have hsz := hpw.1
  subst hsz
  obtain ⟨F, B⟩ := hpw.to
  have hx := B0.exec
  have hb := B0.bytes
  have hr := B0.returns
  have hts := atoms_spec (ws := wsX10_reason) B0.pre
  have hown : s.vm.findClass RX10 = some m.cls := findClass_of_methodNamed B0.named
  have hlocks := B0.notSynchronized
  have S : CallFix p m c cX10_reason 2 s _ wsX10_reason RX10 := ⟨hx, hb, hml, hown, hts⟩
  have hiX10 : ∀ w ∈ u_ws RX10 TX10 21, w ∈ wsX10_reason := by decide +kernel
  have hl := lv_entry [.ref (G.2.2 198), .int a0] (n := 2) (Nat.le_of_ble_eq_true rfl)
  rw [lg_entry_eq]
  generalize (lg_sl [.ref (G.2.2 198), .int a0] ++ List.replicate (2 - (lg_sl [.ref (G.2.2 198), .int a0]).length) Slot.unset).toArray = ls at hl ⊢
  have hl : lv_has ls 2 [(0, .ref (G.2.2 198)), (1, .int a0)] := hl
  unfold f_X10_reason at ho
  refine lv_aload_n hx hb dX10_reason_0 rfl (lv_at hl 0 rfl) ?_
  refine lv_iconst (v := 0) hx hb dX10_reason_1 (by decide) ?_
  refine r_put (ci := 14) (C := RX10) (T := TX10) (N := 21) (ty := .int) S F B tyX10 tyX10_ok nmX10 (kq (by decide) : kd 198 = 21 ∧ 198 < NN) (fun _ => rfl) rfl hiX10 12 (by decide) (by decide +kernel) rfl rfl rfl rfl (fun _ => Nat.le_of_ble_eq_true rfl) (fun _ => rfl) dX10_reason_2 (fun H locs B => ?_)
  obtain ⟨σ1, eσ1, ho⟩ := lt_ ho
  rw [← eσ1] at B
  refine lv_iload_n hx hb dX10_reason_5 rfl (lv_at hl 1 rfl) ?_
  refine lv_i2l hx hb dX10_reason_6 rfl ?_
  refine lv_lconst (v := 0) hx hb dX10_reason_7 (by decide) ?_
  refine lv_ldc2 (v := 2) hx hb hown (hts _ (by decide +kernel)) dX10_reason_8 ?_
  obtain ⟨q2, hq2, ho⟩ := bnd_ ho
  refine k_iS (As := [.long a0.toInt64, .long 0, .long 2]) (rest := []) S F B (c_X10_in l G σ1 _ a0.toInt64 0 2 hq2) (va_cwS 3 hts gX10_reason_X10_in rfl rfl rfl (by decide +kernel) ⟨Nat.le_of_ble_eq_true rfl, Nat.le_of_ble_eq_true rfl⟩) rfl hl.1 rfl (Nat.le_of_ble_eq_true rfl) dX10_reason_11 ⟨Nat.le_of_ble_eq_true rfl, Nat.le_of_ble_eq_true rfl⟩ (fun H locs B => ?_)
  refine lv_if_ne (tgt := 23) hx hb dX10_reason_14 (by decide) (fun c3 => ?_) (fun c3 => ?_)
  · have ho := in_ c3 ho
    refine lv_aload_n hx hb dX10_reason_23 rfl (lv_at hl 0 rfl) ?_
    refine r_get (ci := 14) (C := RX10) (T := TX10) (N := 21) S F B (kq (by decide) : kd 198 = 21 ∧ 198 < NN) rfl rfl hiX10 6 (by decide) (by decide +kernel) rfl dX10_reason_24 ?_
    refine lv_if_ne (tgt := 36) hx hb dX10_reason_27 (by decide) (fun c4 => ?_) (fun c4 => ?_)
    · have ho := in_ c4 ho
      refine lv_iload_n hx hb dX10_reason_36 rfl (lv_at hl 1 rfl) ?_
      refine lv_if_ne (tgt := 47) hx hb dX10_reason_37 (by decide) (fun c5 => ?_) (fun c5 => ?_)
      · have ho := in_ c5 ho
        refine lv_iload_n hx hb dX10_reason_47 rfl (lv_at hl 1 rfl) ?_
        refine lv_iconst (v := 1) hx hb dX10_reason_48 (by decide) ?_
        refine lv_icmp_ne (tgt := 59) hx hb dX10_reason_49 (by decide) (fun c6 => ?_) (fun c6 => ?_)
        · have ho := in_ c6 ho
          refine lv_aload_n hx hb dX10_reason_59 rfl (lv_at hl 0 rfl) ?_
          refine r_get (ci := 14) (C := RX10) (T := TX10) (N := 21) S F B (kq (by decide) : kd 198 = 21 ∧ 198 < NN) rfl rfl hiX10 8 (by decide) (by decide +kernel) rfl dX10_reason_60 ?_
          cases ho
          exact e_i B hx hb hr hlocks rfl rfl dX10_reason_63
        · have ho := ip_ c6 ho
          refine lv_aload_n hx hb dX10_reason_52 rfl (lv_at hl 0 rfl) ?_
          refine r_get (ci := 14) (C := RX10) (T := TX10) (N := 21) S F B (kq (by decide) : kd 198 = 21 ∧ 198 < NN) rfl rfl hiX10 7 (by decide) (by decide +kernel) rfl dX10_reason_53 ?_
          refine lv_goto (tgt := 63) hx hb dX10_reason_56 (by decide) ?_
          cases ho
          exact e_i B hx hb hr hlocks rfl rfl dX10_reason_63
      · have ho := ip_ c5 ho
        refine lv_aload_n hx hb dX10_reason_40 rfl (lv_at hl 0 rfl) ?_
        refine r_get (ci := 14) (C := RX10) (T := TX10) (N := 21) S F B (kq (by decide) : kd 198 = 21 ∧ 198 < NN) rfl rfl hiX10 6 (by decide) (by decide +kernel) rfl dX10_reason_41 ?_
        refine lv_goto (tgt := 63) hx hb dX10_reason_44 (by decide) ?_
        cases ho
        exact e_i B hx hb hr hlocks rfl rfl dX10_reason_63
    · have ho := ip_ c4 ho
      refine lv_aload_n hx hb dX10_reason_30 rfl (lv_at hl 0 rfl) ?_
      refine lv_iconst (v := 2) hx hb dX10_reason_31 (by decide) ?_
      obtain ⟨q7, σ8, hq7, ho⟩ := bnm_ ho
      refine k_iV (As := [.int 2]) (rest := []) S F B (c_X10_throwing l G σ1 _ 2 hq7) (kq (by decide) : kd 198 = 21 ∧ 198 < NN) rfl rfl (cwV 1 hts gX10_reason_X10_throwing rfl rfl rfl (by decide +kernel) ⟨Nat.le_of_ble_eq_true rfl, Nat.le_of_ble_eq_true rfl⟩) rfl hl.1 rfl (Nat.le_of_ble_eq_true rfl) dX10_reason_32 ⟨Nat.le_of_ble_eq_true rfl, Nat.le_of_ble_eq_true rfl⟩ (fun H locs B => ?_)
      cases ho
      exact e_i B hx hb hr hlocks rfl rfl dX10_reason_35
  · have ho := ip_ c3 ho
    refine lv_aload_n hx hb dX10_reason_17 rfl (lv_at hl 0 rfl) ?_
    refine lv_iconst (v := 1) hx hb dX10_reason_18 (by decide) ?_
    obtain ⟨q9, σ10, hq9, ho⟩ := bnm_ ho
    refine k_iV (As := [.int 1]) (rest := []) S F B (c_X10_throwing l G σ1 _ 1 hq9) (kq (by decide) : kd 198 = 21 ∧ 198 < NN) rfl rfl (cwV 1 hts gX10_reason_X10_throwing rfl rfl rfl (by decide +kernel) ⟨Nat.le_of_ble_eq_true rfl, Nat.le_of_ble_eq_true rfl⟩) rfl hl.1 rfl (Nat.le_of_ble_eq_true rfl) dX10_reason_19 ⟨Nat.le_of_ble_eq_true rfl, Nat.le_of_ble_eq_true rfl⟩ (fun H locs B => ?_)
    cases ho
    exact e_i B hx hb hr hlocks rfl rfl dX10_reason_22

