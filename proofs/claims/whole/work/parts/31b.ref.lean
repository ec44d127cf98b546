set_option maxHeartbeats 4000000 in
set_option maxRecDepth 100000 in
theorem c_X10_nextTo (l : Launch) (G : Gd) (σ : Mm) (sz : Nat) (a0 : Int32) (a1 : Int32) {out : Int32} (ho : f_X10_nextTo a0 a1 σ = some out) : Met l yX10_nextTo wsX10_nextTo { frames := 1, cells := 0, slots := 0, locals := 25 } (va_Pc [.int a0, .int a1] (PW G σ sz)) (Qi G sz out σ) 0 0 (AA G sz) := by
  refine Met.ofW (cc := cX10_nextTo) (maxL := 4) (ret := (some .int)) (by decide) rfl ?_
  intro p e s m args below meth c s₁ B0 hml hv
  obtain ⟨rfl, hpw⟩ := hv
  have hsz := hpw.1
  subst hsz
  obtain ⟨F, B⟩ := hpw.to
  have hx := B0.exec
  have hb := B0.bytes
  have hr := B0.returns
  have hts := atoms_spec (ws := wsX10_nextTo) B0.pre
  have hown : s.vm.findClass RX10 = some m.cls := findClass_of_methodNamed B0.named
  have hlocks := B0.notSynchronized
  have S : CallFix p m c cX10_nextTo 4 s _ wsX10_nextTo RX10 := ⟨hx, hb, hml, hown, hts⟩
  have hl := lv_entry [.int a0, .int a1] (n := 4) (Nat.le_of_ble_eq_true rfl)
  rw [lg_entry_eq]
  generalize (lg_sl [.int a0, .int a1] ++ List.replicate (4 - (lg_sl [.int a0, .int a1]).length) Slot.unset).toArray = ls at hl ⊢
  have hl : lv_has ls 4 [(0, .int a0), (1, .int a1)] := hl
  unfold f_X10_nextTo at ho
  refine lv_iload_n hx hb dX10_nextTo_0 rfl (lv_at hl 0 rfl) ?_
  refine lv_iconst (v := 4) hx hb dX10_nextTo_1 (by decide) ?_
  refine lv_idiv hx hb dX10_nextTo_2 (by decide) ?_
  refine lv_iload_n hx hb dX10_nextTo_3 rfl (lv_at hl 1 rfl) ?_
  refine lv_if_ne (tgt := 11) hx hb dX10_nextTo_4 (by decide) (fun c1 => ?_) (fun c1 => ?_)
  · have ho := in_ c1 ho
    refine lv_iload_n hx hb dX10_nextTo_11 rfl (lv_at hl 1 rfl) ?_
    refine lv_iconst (v := 2) hx hb dX10_nextTo_12 (by decide) ?_
    refine lv_icmp_ne (tgt := 20) hx hb dX10_nextTo_13 (by decide) (fun c2 => ?_) (fun c2 => ?_)
    · have ho := in_ c2 ho
      refine lv_iconst (v := 0) hx hb dX10_nextTo_20 (by decide) ?_
      refine lv_iadd hx hb dX10_nextTo_21 ?_
      obtain ⟨x3, ex3, ho⟩ := lt_ ho
      refine lv_nm ex3 ?_
      refine lv_istore_n (lv' := [(2, .int x3), (0, .int a0), (1, .int a1)]) hx hb dX10_nextTo_22 rfl hl (by decide) rfl (fun ls hl => ?_)
      refine lv_iload_n hx hb dX10_nextTo_23 rfl (lv_at hl 1 rfl) ?_
      refine lv_iconst (v := 4) hx hb dX10_nextTo_24 (by decide) ?_
      refine lv_irem hx hb dX10_nextTo_25 (by decide) ?_
      refine lv_iload_n hx hb dX10_nextTo_26 rfl (lv_at hl 2 rfl) ?_
      refine lv_iconst (v := 1) hx hb dX10_nextTo_27 (by decide) ?_
      refine lv_icmp_ne (tgt := 35) hx hb dX10_nextTo_28 (by decide) (fun c4 => ?_) (fun c4 => ?_)
      · have ho := in_ c4 ho
        refine lv_iload_n hx hb dX10_nextTo_35 rfl (lv_at hl 2 rfl) ?_
        refine lv_iconst (v := 3) hx hb dX10_nextTo_36 (by decide) ?_
        refine lv_icmp_ne (tgt := 44) hx hb dX10_nextTo_37 (by decide) (fun c5 => ?_) (fun c5 => ?_)
        · have ho := in_ c5 ho
          refine lv_iconst (v := 0) hx hb dX10_nextTo_44 (by decide) ?_
          refine lv_iadd hx hb dX10_nextTo_45 ?_
          obtain ⟨x6, ex6, ho⟩ := lt_ ho
          refine lv_nm ex6 ?_
          refine lv_istore_n (lv' := [(3, .int x6), (2, .int x3), (0, .int a0), (1, .int a1)]) hx hb dX10_nextTo_46 rfl hl (by decide) rfl (fun ls hl => ?_)
          refine lv_iload_n hx hb dX10_nextTo_47 rfl (lv_at hl 1 rfl) ?_
          refine lv_i2l hx hb dX10_nextTo_48 rfl ?_
          refine lv_lconst (v := 0) hx hb dX10_nextTo_49 (by decide) ?_
          refine lv_ldc2 (v := 3) hx hb hown (hts _ (by decide +kernel)) dX10_nextTo_50 ?_
          obtain ⟨q7, hq7, ho⟩ := bnd_ ho
          refine k_iS (As := [.long x3.toInt64, .long 0, .long 3]) (rest := []) S F B (c_X10_in l G σ _ x3.toInt64 0 3 hq7) (va_cwS 3 hts gX10_nextTo_X10_in rfl rfl rfl (by decide +kernel) ⟨Nat.le_of_ble_eq_true rfl, Nat.le_of_ble_eq_true rfl⟩) rfl hl.1 rfl (Nat.le_of_ble_eq_true rfl) dX10_nextTo_53 ⟨Nat.le_of_ble_eq_true rfl, Nat.le_of_ble_eq_true rfl⟩ (fun H locs B => ?_)
          refine lv_if_eq (tgt := 79) hx hb dX10_nextTo_56 (by decide) (fun c8 => ?_) (fun c8 => ?_)
          · have ho := ip_ c8 ho
            refine lv_iconst (v := (-1)) hx hb dX10_nextTo_79 (by decide) ?_
            cases ho
            exact e_i B hx hb hr hlocks rfl rfl dX10_nextTo_80
          · have ho := in_ c8 ho
            refine lv_iload_n hx hb dX10_nextTo_59 rfl (lv_at hl 0 rfl) ?_
            refine lv_i2l hx hb dX10_nextTo_60 rfl ?_
            refine lv_lconst (v := 0) hx hb dX10_nextTo_61 (by decide) ?_
            refine lv_ldc2 (v := 3) hx hb hown (hts _ (by decide +kernel)) dX10_nextTo_62 ?_
            obtain ⟨q9, hq9, ho⟩ := bnd_ ho
            refine k_iS (As := [.long x6.toInt64, .long 0, .long 3]) (rest := []) S F B (c_X10_in l G σ _ x6.toInt64 0 3 hq9) (va_cwS 3 hts gX10_nextTo_X10_in rfl rfl rfl (by decide +kernel) ⟨Nat.le_of_ble_eq_true rfl, Nat.le_of_ble_eq_true rfl⟩) rfl hl.1 rfl (Nat.le_of_ble_eq_true rfl) dX10_nextTo_65 ⟨Nat.le_of_ble_eq_true rfl, Nat.le_of_ble_eq_true rfl⟩ (fun H locs B => ?_)
            refine lv_if_eq (tgt := 79) hx hb dX10_nextTo_68 (by decide) (fun c10 => ?_) (fun c10 => ?_)
            · have ho := ip_ c10 ho
              refine lv_iconst (v := (-1)) hx hb dX10_nextTo_79 (by decide) ?_
              cases ho
              exact e_i B hx hb hr hlocks rfl rfl dX10_nextTo_80
            · have ho := in_ c10 ho
              refine lv_iconst (v := 4) hx hb dX10_nextTo_71 (by decide) ?_
              refine lv_iload_n hx hb dX10_nextTo_72 rfl (lv_at hl 1 rfl) ?_
              refine lv_imul hx hb dX10_nextTo_73 ?_
              refine lv_iload_n hx hb dX10_nextTo_74 rfl (lv_at hl 0 rfl) ?_
              refine lv_iadd hx hb dX10_nextTo_75 ?_
              refine lv_goto (tgt := 80) hx hb dX10_nextTo_76 (by decide) ?_
              cases ho
              exact e_i B hx hb hr hlocks rfl rfl dX10_nextTo_80
        · have ho := ip_ c5 ho
          refine lv_iconst (v := (-1)) hx hb dX10_nextTo_40 (by decide) ?_
          refine lv_goto (tgt := 45) hx hb dX10_nextTo_41 (by decide) ?_
          refine lv_iadd hx hb dX10_nextTo_45 ?_
          obtain ⟨x11, ex11, ho⟩ := lt_ ho
          refine lv_nm ex11 ?_
          refine lv_istore_n (lv' := [(3, .int x11), (2, .int x3), (0, .int a0), (1, .int a1)]) hx hb dX10_nextTo_46 rfl hl (by decide) rfl (fun ls hl => ?_)
          refine lv_iload_n hx hb dX10_nextTo_47 rfl (lv_at hl 1 rfl) ?_
          refine lv_i2l hx hb dX10_nextTo_48 rfl ?_
          refine lv_lconst (v := 0) hx hb dX10_nextTo_49 (by decide) ?_
          refine lv_ldc2 (v := 3) hx hb hown (hts _ (by decide +kernel)) dX10_nextTo_50 ?_
          obtain ⟨q12, hq12, ho⟩ := bnd_ ho
          refine k_iS (As := [.long x3.toInt64, .long 0, .long 3]) (rest := []) S F B (c_X10_in l G σ _ x3.toInt64 0 3 hq12) (va_cwS 3 hts gX10_nextTo_X10_in rfl rfl rfl (by decide +kernel) ⟨Nat.le_of_ble_eq_true rfl, Nat.le_of_ble_eq_true rfl⟩) rfl hl.1 rfl (Nat.le_of_ble_eq_true rfl) dX10_nextTo_53 ⟨Nat.le_of_ble_eq_true rfl, Nat.le_of_ble_eq_true rfl⟩ (fun H locs B => ?_)
          refine lv_if_eq (tgt := 79) hx hb dX10_nextTo_56 (by decide) (fun c13 => ?_) (fun c13 => ?_)
          · have ho := ip_ c13 ho
            refine lv_iconst (v := (-1)) hx hb dX10_nextTo_79 (by decide) ?_
            cases ho
            exact e_i B hx hb hr hlocks rfl rfl dX10_nextTo_80
          · have ho := in_ c13 ho
            refine lv_iload_n hx hb dX10_nextTo_59 rfl (lv_at hl 0 rfl) ?_
            refine lv_i2l hx hb dX10_nextTo_60 rfl ?_
            refine lv_lconst (v := 0) hx hb dX10_nextTo_61 (by decide) ?_
            refine lv_ldc2 (v := 3) hx hb hown (hts _ (by decide +kernel)) dX10_nextTo_62 ?_
            obtain ⟨q14, hq14, ho⟩ := bnd_ ho
            refine k_iS (As := [.long x11.toInt64, .long 0, .long 3]) (rest := []) S F B (c_X10_in l G σ _ x11.toInt64 0 3 hq14) (va_cwS 3 hts gX10_nextTo_X10_in rfl rfl rfl (by decide +kernel) ⟨Nat.le_of_ble_eq_true rfl, Nat.le_of_ble_eq_true rfl⟩) rfl hl.1 rfl (Nat.le_of_ble_eq_true rfl) dX10_nextTo_65 ⟨Nat.le_of_ble_eq_true rfl, Nat.le_of_ble_eq_true rfl⟩ (fun H locs B => ?_)
            refine lv_if_eq (tgt := 79) hx hb dX10_nextTo_68 (by decide) (fun c15 => ?_) (fun c15 => ?_)
            · have ho := ip_ c15 ho
              refine lv_iconst (v := (-1)) hx hb dX10_nextTo_79 (by decide) ?_
              cases ho
              exact e_i B hx hb hr hlocks rfl rfl dX10_nextTo_80
            · have ho := in_ c15 ho
              refine lv_iconst (v := 4) hx hb dX10_nextTo_71 (by decide) ?_
              refine lv_iload_n hx hb dX10_nextTo_72 rfl (lv_at hl 1 rfl) ?_
              refine lv_imul hx hb dX10_nextTo_73 ?_
              refine lv_iload_n hx hb dX10_nextTo_74 rfl (lv_at hl 0 rfl) ?_
              refine lv_iadd hx hb dX10_nextTo_75 ?_
              refine lv_goto (tgt := 80) hx hb dX10_nextTo_76 (by decide) ?_
              cases ho
              exact e_i B hx hb hr hlocks rfl rfl dX10_nextTo_80
      · have ho := ip_ c4 ho
        refine lv_iconst (v := 1) hx hb dX10_nextTo_31 (by decide) ?_
        refine lv_goto (tgt := 45) hx hb dX10_nextTo_32 (by decide) ?_
        refine lv_iadd hx hb dX10_nextTo_45 ?_
        obtain ⟨x16, ex16, ho⟩ := lt_ ho
        refine lv_nm ex16 ?_
        refine lv_istore_n (lv' := [(3, .int x16), (2, .int x3), (0, .int a0), (1, .int a1)]) hx hb dX10_nextTo_46 rfl hl (by decide) rfl (fun ls hl => ?_)
        refine lv_iload_n hx hb dX10_nextTo_47 rfl (lv_at hl 1 rfl) ?_
        refine lv_i2l hx hb dX10_nextTo_48 rfl ?_
        refine lv_lconst (v := 0) hx hb dX10_nextTo_49 (by decide) ?_
        refine lv_ldc2 (v := 3) hx hb hown (hts _ (by decide +kernel)) dX10_nextTo_50 ?_
        obtain ⟨q17, hq17, ho⟩ := bnd_ ho
        refine k_iS (As := [.long x3.toInt64, .long 0, .long 3]) (rest := []) S F B (c_X10_in l G σ _ x3.toInt64 0 3 hq17) (va_cwS 3 hts gX10_nextTo_X10_in rfl rfl rfl (by decide +kernel) ⟨Nat.le_of_ble_eq_true rfl, Nat.le_of_ble_eq_true rfl⟩) rfl hl.1 rfl (Nat.le_of_ble_eq_true rfl) dX10_nextTo_53 ⟨Nat.le_of_ble_eq_true rfl, Nat.le_of_ble_eq_true rfl⟩ (fun H locs B => ?_)
        refine lv_if_eq (tgt := 79) hx hb dX10_nextTo_56 (by decide) (fun c18 => ?_) (fun c18 => ?_)
        · have ho := ip_ c18 ho
          refine lv_iconst (v := (-1)) hx hb dX10_nextTo_79 (by decide) ?_
          cases ho
          exact e_i B hx hb hr hlocks rfl rfl dX10_nextTo_80
        · have ho := in_ c18 ho
          refine lv_iload_n hx hb dX10_nextTo_59 rfl (lv_at hl 0 rfl) ?_
          refine lv_i2l hx hb dX10_nextTo_60 rfl ?_
          refine lv_lconst (v := 0) hx hb dX10_nextTo_61 (by decide) ?_
          refine lv_ldc2 (v := 3) hx hb hown (hts _ (by decide +kernel)) dX10_nextTo_62 ?_
          obtain ⟨q19, hq19, ho⟩ := bnd_ ho
          refine k_iS (As := [.long x16.toInt64, .long 0, .long 3]) (rest := []) S F B (c_X10_in l G σ _ x16.toInt64 0 3 hq19) (va_cwS 3 hts gX10_nextTo_X10_in rfl rfl rfl (by decide +kernel) ⟨Nat.le_of_ble_eq_true rfl, Nat.le_of_ble_eq_true rfl⟩) rfl hl.1 rfl (Nat.le_of_ble_eq_true rfl) dX10_nextTo_65 ⟨Nat.le_of_ble_eq_true rfl, Nat.le_of_ble_eq_true rfl⟩ (fun H locs B => ?_)
          refine lv_if_eq (tgt := 79) hx hb dX10_nextTo_68 (by decide) (fun c20 => ?_) (fun c20 => ?_)
          · have ho := ip_ c20 ho
            refine lv_iconst (v := (-1)) hx hb dX10_nextTo_79 (by decide) ?_
            cases ho
            exact e_i B hx hb hr hlocks rfl rfl dX10_nextTo_80
          · have ho := in_ c20 ho
            refine lv_iconst (v := 4) hx hb dX10_nextTo_71 (by decide) ?_
            refine lv_iload_n hx hb dX10_nextTo_72 rfl (lv_at hl 1 rfl) ?_
            refine lv_imul hx hb dX10_nextTo_73 ?_
            refine lv_iload_n hx hb dX10_nextTo_74 rfl (lv_at hl 0 rfl) ?_
            refine lv_iadd hx hb dX10_nextTo_75 ?_
            refine lv_goto (tgt := 80) hx hb dX10_nextTo_76 (by decide) ?_
            cases ho
            exact e_i B hx hb hr hlocks rfl rfl dX10_nextTo_80
    · have ho := ip_ c2 ho
      refine lv_iconst (v := 1) hx hb dX10_nextTo_16 (by decide) ?_
      refine lv_goto (tgt := 21) hx hb dX10_nextTo_17 (by decide) ?_
      refine lv_iadd hx hb dX10_nextTo_21 ?_
      obtain ⟨x21, ex21, ho⟩ := lt_ ho
      refine lv_nm ex21 ?_
      refine lv_istore_n (lv' := [(2, .int x21), (0, .int a0), (1, .int a1)]) hx hb dX10_nextTo_22 rfl hl (by decide) rfl (fun ls hl => ?_)
      refine lv_iload_n hx hb dX10_nextTo_23 rfl (lv_at hl 1 rfl) ?_
      refine lv_iconst (v := 4) hx hb dX10_nextTo_24 (by decide) ?_
      refine lv_irem hx hb dX10_nextTo_25 (by decide) ?_
      refine lv_iload_n hx hb dX10_nextTo_26 rfl (lv_at hl 2 rfl) ?_
      refine lv_iconst (v := 1) hx hb dX10_nextTo_27 (by decide) ?_
      refine lv_icmp_ne (tgt := 35) hx hb dX10_nextTo_28 (by decide) (fun c22 => ?_) (fun c22 => ?_)
      · have ho := in_ c22 ho
        refine lv_iload_n hx hb dX10_nextTo_35 rfl (lv_at hl 2 rfl) ?_
        refine lv_iconst (v := 3) hx hb dX10_nextTo_36 (by decide) ?_
        refine lv_icmp_ne (tgt := 44) hx hb dX10_nextTo_37 (by decide) (fun c23 => ?_) (fun c23 => ?_)
        · have ho := in_ c23 ho
          refine lv_iconst (v := 0) hx hb dX10_nextTo_44 (by decide) ?_
          refine lv_iadd hx hb dX10_nextTo_45 ?_
          obtain ⟨x24, ex24, ho⟩ := lt_ ho
          refine lv_nm ex24 ?_
          refine lv_istore_n (lv' := [(3, .int x24), (2, .int x21), (0, .int a0), (1, .int a1)]) hx hb dX10_nextTo_46 rfl hl (by decide) rfl (fun ls hl => ?_)
          refine lv_iload_n hx hb dX10_nextTo_47 rfl (lv_at hl 1 rfl) ?_
          refine lv_i2l hx hb dX10_nextTo_48 rfl ?_
          refine lv_lconst (v := 0) hx hb dX10_nextTo_49 (by decide) ?_
          refine lv_ldc2 (v := 3) hx hb hown (hts _ (by decide +kernel)) dX10_nextTo_50 ?_
          obtain ⟨q25, hq25, ho⟩ := bnd_ ho
          refine k_iS (As := [.long x21.toInt64, .long 0, .long 3]) (rest := []) S F B (c_X10_in l G σ _ x21.toInt64 0 3 hq25) (va_cwS 3 hts gX10_nextTo_X10_in rfl rfl rfl (by decide +kernel) ⟨Nat.le_of_ble_eq_true rfl, Nat.le_of_ble_eq_true rfl⟩) rfl hl.1 rfl (Nat.le_of_ble_eq_true rfl) dX10_nextTo_53 ⟨Nat.le_of_ble_eq_true rfl, Nat.le_of_ble_eq_true rfl⟩ (fun H locs B => ?_)
          refine lv_if_eq (tgt := 79) hx hb dX10_nextTo_56 (by decide) (fun c26 => ?_) (fun c26 => ?_)
          · have ho := ip_ c26 ho
            refine lv_iconst (v := (-1)) hx hb dX10_nextTo_79 (by decide) ?_
            cases ho
            exact e_i B hx hb hr hlocks rfl rfl dX10_nextTo_80
          · have ho := in_ c26 ho
            refine lv_iload_n hx hb dX10_nextTo_59 rfl (lv_at hl 0 rfl) ?_
            refine lv_i2l hx hb dX10_nextTo_60 rfl ?_
            refine lv_lconst (v := 0) hx hb dX10_nextTo_61 (by decide) ?_
            refine lv_ldc2 (v := 3) hx hb hown (hts _ (by decide +kernel)) dX10_nextTo_62 ?_
            obtain ⟨q27, hq27, ho⟩ := bnd_ ho
            refine k_iS (As := [.long x24.toInt64, .long 0, .long 3]) (rest := []) S F B (c_X10_in l G σ _ x24.toInt64 0 3 hq27) (va_cwS 3 hts gX10_nextTo_X10_in rfl rfl rfl (by decide +kernel) ⟨Nat.le_of_ble_eq_true rfl, Nat.le_of_ble_eq_true rfl⟩) rfl hl.1 rfl (Nat.le_of_ble_eq_true rfl) dX10_nextTo_65 ⟨Nat.le_of_ble_eq_true rfl, Nat.le_of_ble_eq_true rfl⟩ (fun H locs B => ?_)
            refine lv_if_eq (tgt := 79) hx hb dX10_nextTo_68 (by decide) (fun c28 => ?_) (fun c28 => ?_)
            · have ho := ip_ c28 ho
              refine lv_iconst (v := (-1)) hx hb dX10_nextTo_79 (by decide) ?_
              cases ho
              exact e_i B hx hb hr hlocks rfl rfl dX10_nextTo_80
            · have ho := in_ c28 ho
              refine lv_iconst (v := 4) hx hb dX10_nextTo_71 (by decide) ?_
              refine lv_iload_n hx hb dX10_nextTo_72 rfl (lv_at hl 1 rfl) ?_
              refine lv_imul hx hb dX10_nextTo_73 ?_
              refine lv_iload_n hx hb dX10_nextTo_74 rfl (lv_at hl 0 rfl) ?_
              refine lv_iadd hx hb dX10_nextTo_75 ?_
              refine lv_goto (tgt := 80) hx hb dX10_nextTo_76 (by decide) ?_
              cases ho
              exact e_i B hx hb hr hlocks rfl rfl dX10_nextTo_80
        · have ho := ip_ c23 ho
          refine lv_iconst (v := (-1)) hx hb dX10_nextTo_40 (by decide) ?_
          refine lv_goto (tgt := 45) hx hb dX10_nextTo_41 (by decide) ?_
          refine lv_iadd hx hb dX10_nextTo_45 ?_
          obtain ⟨x29, ex29, ho⟩ := lt_ ho
          refine lv_nm ex29 ?_
          refine lv_istore_n (lv' := [(3, .int x29), (2, .int x21), (0, .int a0), (1, .int a1)]) hx hb dX10_nextTo_46 rfl hl (by decide) rfl (fun ls hl => ?_)
          refine lv_iload_n hx hb dX10_nextTo_47 rfl (lv_at hl 1 rfl) ?_
          refine lv_i2l hx hb dX10_nextTo_48 rfl ?_
          refine lv_lconst (v := 0) hx hb dX10_nextTo_49 (by decide) ?_
          refine lv_ldc2 (v := 3) hx hb hown (hts _ (by decide +kernel)) dX10_nextTo_50 ?_
          obtain ⟨q30, hq30, ho⟩ := bnd_ ho
          refine k_iS (As := [.long x21.toInt64, .long 0, .long 3]) (rest := []) S F B (c_X10_in l G σ _ x21.toInt64 0 3 hq30) (va_cwS 3 hts gX10_nextTo_X10_in rfl rfl rfl (by decide +kernel) ⟨Nat.le_of_ble_eq_true rfl, Nat.le_of_ble_eq_true rfl⟩) rfl hl.1 rfl (Nat.le_of_ble_eq_true rfl) dX10_nextTo_53 ⟨Nat.le_of_ble_eq_true rfl, Nat.le_of_ble_eq_true rfl⟩ (fun H locs B => ?_)
          refine lv_if_eq (tgt := 79) hx hb dX10_nextTo_56 (by decide) (fun c31 => ?_) (fun c31 => ?_)
          · have ho := ip_ c31 ho
            refine lv_iconst (v := (-1)) hx hb dX10_nextTo_79 (by decide) ?_
            cases ho
            exact e_i B hx hb hr hlocks rfl rfl dX10_nextTo_80
          · have ho := in_ c31 ho
            refine lv_iload_n hx hb dX10_nextTo_59 rfl (lv_at hl 0 rfl) ?_
            refine lv_i2l hx hb dX10_nextTo_60 rfl ?_
            refine lv_lconst (v := 0) hx hb dX10_nextTo_61 (by decide) ?_
            refine lv_ldc2 (v := 3) hx hb hown (hts _ (by decide +kernel)) dX10_nextTo_62 ?_
            obtain ⟨q32, hq32, ho⟩ := bnd_ ho
            refine k_iS (As := [.long x29.toInt64, .long 0, .long 3]) (rest := []) S F B (c_X10_in l G σ _ x29.toInt64 0 3 hq32) (va_cwS 3 hts gX10_nextTo_X10_in rfl rfl rfl (by decide +kernel) ⟨Nat.le_of_ble_eq_true rfl, Nat.le_of_ble_eq_true rfl⟩) rfl hl.1 rfl (Nat.le_of_ble_eq_true rfl) dX10_nextTo_65 ⟨Nat.le_of_ble_eq_true rfl, Nat.le_of_ble_eq_true rfl⟩ (fun H locs B => ?_)
            refine lv_if_eq (tgt := 79) hx hb dX10_nextTo_68 (by decide) (fun c33 => ?_) (fun c33 => ?_)
            · have ho := ip_ c33 ho
              refine lv_iconst (v := (-1)) hx hb dX10_nextTo_79 (by decide) ?_
              cases ho
              exact e_i B hx hb hr hlocks rfl rfl dX10_nextTo_80
            · have ho := in_ c33 ho
              refine lv_iconst (v := 4) hx hb dX10_nextTo_71 (by decide) ?_
              refine lv_iload_n hx hb dX10_nextTo_72 rfl (lv_at hl 1 rfl) ?_
              refine lv_imul hx hb dX10_nextTo_73 ?_
              refine lv_iload_n hx hb dX10_nextTo_74 rfl (lv_at hl 0 rfl) ?_
              refine lv_iadd hx hb dX10_nextTo_75 ?_
              refine lv_goto (tgt := 80) hx hb dX10_nextTo_76 (by decide) ?_
              cases ho
              exact e_i B hx hb hr hlocks rfl rfl dX10_nextTo_80
      · have ho := ip_ c22 ho
        refine lv_iconst (v := 1) hx hb dX10_nextTo_31 (by decide) ?_
        refine lv_goto (tgt := 45) hx hb dX10_nextTo_32 (by decide) ?_
        refine lv_iadd hx hb dX10_nextTo_45 ?_
        obtain ⟨x34, ex34, ho⟩ := lt_ ho
        refine lv_nm ex34 ?_
        refine lv_istore_n (lv' := [(3, .int x34), (2, .int x21), (0, .int a0), (1, .int a1)]) hx hb dX10_nextTo_46 rfl hl (by decide) rfl (fun ls hl => ?_)
        refine lv_iload_n hx hb dX10_nextTo_47 rfl (lv_at hl 1 rfl) ?_
        refine lv_i2l hx hb dX10_nextTo_48 rfl ?_
        refine lv_lconst (v := 0) hx hb dX10_nextTo_49 (by decide) ?_
        refine lv_ldc2 (v := 3) hx hb hown (hts _ (by decide +kernel)) dX10_nextTo_50 ?_
        obtain ⟨q35, hq35, ho⟩ := bnd_ ho
        refine k_iS (As := [.long x21.toInt64, .long 0, .long 3]) (rest := []) S F B (c_X10_in l G σ _ x21.toInt64 0 3 hq35) (va_cwS 3 hts gX10_nextTo_X10_in rfl rfl rfl (by decide +kernel) ⟨Nat.le_of_ble_eq_true rfl, Nat.le_of_ble_eq_true rfl⟩) rfl hl.1 rfl (Nat.le_of_ble_eq_true rfl) dX10_nextTo_53 ⟨Nat.le_of_ble_eq_true rfl, Nat.le_of_ble_eq_true rfl⟩ (fun H locs B => ?_)
        refine lv_if_eq (tgt := 79) hx hb dX10_nextTo_56 (by decide) (fun c36 => ?_) (fun c36 => ?_)
        · have ho := ip_ c36 ho
          refine lv_iconst (v := (-1)) hx hb dX10_nextTo_79 (by decide) ?_
          cases ho
          exact e_i B hx hb hr hlocks rfl rfl dX10_nextTo_80
        · have ho := in_ c36 ho
          refine lv_iload_n hx hb dX10_nextTo_59 rfl (lv_at hl 0 rfl) ?_
          refine lv_i2l hx hb dX10_nextTo_60 rfl ?_
          refine lv_lconst (v := 0) hx hb dX10_nextTo_61 (by decide) ?_
          refine lv_ldc2 (v := 3) hx hb hown (hts _ (by decide +kernel)) dX10_nextTo_62 ?_
          obtain ⟨q37, hq37, ho⟩ := bnd_ ho
          refine k_iS (As := [.long x34.toInt64, .long 0, .long 3]) (rest := []) S F B (c_X10_in l G σ _ x34.toInt64 0 3 hq37) (va_cwS 3 hts gX10_nextTo_X10_in rfl rfl rfl (by decide +kernel) ⟨Nat.le_of_ble_eq_true rfl, Nat.le_of_ble_eq_true rfl⟩) rfl hl.1 rfl (Nat.le_of_ble_eq_true rfl) dX10_nextTo_65 ⟨Nat.le_of_ble_eq_true rfl, Nat.le_of_ble_eq_true rfl⟩ (fun H locs B => ?_)
          refine lv_if_eq (tgt := 79) hx hb dX10_nextTo_68 (by decide) (fun c38 => ?_) (fun c38 => ?_)
          · have ho := ip_ c38 ho
            refine lv_iconst (v := (-1)) hx hb dX10_nextTo_79 (by decide) ?_
            cases ho
            exact e_i B hx hb hr hlocks rfl rfl dX10_nextTo_80
          · have ho := in_ c38 ho
            refine lv_iconst (v := 4) hx hb dX10_nextTo_71 (by decide) ?_
            refine lv_iload_n hx hb dX10_nextTo_72 rfl (lv_at hl 1 rfl) ?_
            refine lv_imul hx hb dX10_nextTo_73 ?_
            refine lv_iload_n hx hb dX10_nextTo_74 rfl (lv_at hl 0 rfl) ?_
            refine lv_iadd hx hb dX10_nextTo_75 ?_
            refine lv_goto (tgt := 80) hx hb dX10_nextTo_76 (by decide) ?_
            cases ho
            exact e_i B hx hb hr hlocks rfl rfl dX10_nextTo_80
  · have ho := ip_ c1 ho
    refine lv_iconst (v := (-1)) hx hb dX10_nextTo_7 (by decide) ?_
    refine lv_goto (tgt := 21) hx hb dX10_nextTo_8 (by decide) ?_
    refine lv_iadd hx hb dX10_nextTo_21 ?_
    obtain ⟨x39, ex39, ho⟩ := lt_ ho
    refine lv_nm ex39 ?_
    refine lv_istore_n (lv' := [(2, .int x39), (0, .int a0), (1, .int a1)]) hx hb dX10_nextTo_22 rfl hl (by decide) rfl (fun ls hl => ?_)
    refine lv_iload_n hx hb dX10_nextTo_23 rfl (lv_at hl 1 rfl) ?_
    refine lv_iconst (v := 4) hx hb dX10_nextTo_24 (by decide) ?_
    refine lv_irem hx hb dX10_nextTo_25 (by decide) ?_
    refine lv_iload_n hx hb dX10_nextTo_26 rfl (lv_at hl 2 rfl) ?_
    refine lv_iconst (v := 1) hx hb dX10_nextTo_27 (by decide) ?_
    refine lv_icmp_ne (tgt := 35) hx hb dX10_nextTo_28 (by decide) (fun c40 => ?_) (fun c40 => ?_)
    · have ho := in_ c40 ho
      refine lv_iload_n hx hb dX10_nextTo_35 rfl (lv_at hl 2 rfl) ?_
      refine lv_iconst (v := 3) hx hb dX10_nextTo_36 (by decide) ?_
      refine lv_icmp_ne (tgt := 44) hx hb dX10_nextTo_37 (by decide) (fun c41 => ?_) (fun c41 => ?_)
      · have ho := in_ c41 ho
        refine lv_iconst (v := 0) hx hb dX10_nextTo_44 (by decide) ?_
        refine lv_iadd hx hb dX10_nextTo_45 ?_
        obtain ⟨x42, ex42, ho⟩ := lt_ ho
        refine lv_nm ex42 ?_
        refine lv_istore_n (lv' := [(3, .int x42), (2, .int x39), (0, .int a0), (1, .int a1)]) hx hb dX10_nextTo_46 rfl hl (by decide) rfl (fun ls hl => ?_)
        refine lv_iload_n hx hb dX10_nextTo_47 rfl (lv_at hl 1 rfl) ?_
        refine lv_i2l hx hb dX10_nextTo_48 rfl ?_
        refine lv_lconst (v := 0) hx hb dX10_nextTo_49 (by decide) ?_
        refine lv_ldc2 (v := 3) hx hb hown (hts _ (by decide +kernel)) dX10_nextTo_50 ?_
        obtain ⟨q43, hq43, ho⟩ := bnd_ ho
        refine k_iS (As := [.long x39.toInt64, .long 0, .long 3]) (rest := []) S F B (c_X10_in l G σ _ x39.toInt64 0 3 hq43) (va_cwS 3 hts gX10_nextTo_X10_in rfl rfl rfl (by decide +kernel) ⟨Nat.le_of_ble_eq_true rfl, Nat.le_of_ble_eq_true rfl⟩) rfl hl.1 rfl (Nat.le_of_ble_eq_true rfl) dX10_nextTo_53 ⟨Nat.le_of_ble_eq_true rfl, Nat.le_of_ble_eq_true rfl⟩ (fun H locs B => ?_)
        refine lv_if_eq (tgt := 79) hx hb dX10_nextTo_56 (by decide) (fun c44 => ?_) (fun c44 => ?_)
        · have ho := ip_ c44 ho
          refine lv_iconst (v := (-1)) hx hb dX10_nextTo_79 (by decide) ?_
          cases ho
          exact e_i B hx hb hr hlocks rfl rfl dX10_nextTo_80
        · have ho := in_ c44 ho
          refine lv_iload_n hx hb dX10_nextTo_59 rfl (lv_at hl 0 rfl) ?_
          refine lv_i2l hx hb dX10_nextTo_60 rfl ?_
          refine lv_lconst (v := 0) hx hb dX10_nextTo_61 (by decide) ?_
          refine lv_ldc2 (v := 3) hx hb hown (hts _ (by decide +kernel)) dX10_nextTo_62 ?_
          obtain ⟨q45, hq45, ho⟩ := bnd_ ho
          refine k_iS (As := [.long x42.toInt64, .long 0, .long 3]) (rest := []) S F B (c_X10_in l G σ _ x42.toInt64 0 3 hq45) (va_cwS 3 hts gX10_nextTo_X10_in rfl rfl rfl (by decide +kernel) ⟨Nat.le_of_ble_eq_true rfl, Nat.le_of_ble_eq_true rfl⟩) rfl hl.1 rfl (Nat.le_of_ble_eq_true rfl) dX10_nextTo_65 ⟨Nat.le_of_ble_eq_true rfl, Nat.le_of_ble_eq_true rfl⟩ (fun H locs B => ?_)
          refine lv_if_eq (tgt := 79) hx hb dX10_nextTo_68 (by decide) (fun c46 => ?_) (fun c46 => ?_)
          · have ho := ip_ c46 ho
            refine lv_iconst (v := (-1)) hx hb dX10_nextTo_79 (by decide) ?_
            cases ho
            exact e_i B hx hb hr hlocks rfl rfl dX10_nextTo_80
          · have ho := in_ c46 ho
            refine lv_iconst (v := 4) hx hb dX10_nextTo_71 (by decide) ?_
            refine lv_iload_n hx hb dX10_nextTo_72 rfl (lv_at hl 1 rfl) ?_
            refine lv_imul hx hb dX10_nextTo_73 ?_
            refine lv_iload_n hx hb dX10_nextTo_74 rfl (lv_at hl 0 rfl) ?_
            refine lv_iadd hx hb dX10_nextTo_75 ?_
            refine lv_goto (tgt := 80) hx hb dX10_nextTo_76 (by decide) ?_
            cases ho
            exact e_i B hx hb hr hlocks rfl rfl dX10_nextTo_80
      · have ho := ip_ c41 ho
        refine lv_iconst (v := (-1)) hx hb dX10_nextTo_40 (by decide) ?_
        refine lv_goto (tgt := 45) hx hb dX10_nextTo_41 (by decide) ?_
        refine lv_iadd hx hb dX10_nextTo_45 ?_
        obtain ⟨x47, ex47, ho⟩ := lt_ ho
        refine lv_nm ex47 ?_
        refine lv_istore_n (lv' := [(3, .int x47), (2, .int x39), (0, .int a0), (1, .int a1)]) hx hb dX10_nextTo_46 rfl hl (by decide) rfl (fun ls hl => ?_)
        refine lv_iload_n hx hb dX10_nextTo_47 rfl (lv_at hl 1 rfl) ?_
        refine lv_i2l hx hb dX10_nextTo_48 rfl ?_
        refine lv_lconst (v := 0) hx hb dX10_nextTo_49 (by decide) ?_
        refine lv_ldc2 (v := 3) hx hb hown (hts _ (by decide +kernel)) dX10_nextTo_50 ?_
        obtain ⟨q48, hq48, ho⟩ := bnd_ ho
        refine k_iS (As := [.long x39.toInt64, .long 0, .long 3]) (rest := []) S F B (c_X10_in l G σ _ x39.toInt64 0 3 hq48) (va_cwS 3 hts gX10_nextTo_X10_in rfl rfl rfl (by decide +kernel) ⟨Nat.le_of_ble_eq_true rfl, Nat.le_of_ble_eq_true rfl⟩) rfl hl.1 rfl (Nat.le_of_ble_eq_true rfl) dX10_nextTo_53 ⟨Nat.le_of_ble_eq_true rfl, Nat.le_of_ble_eq_true rfl⟩ (fun H locs B => ?_)
        refine lv_if_eq (tgt := 79) hx hb dX10_nextTo_56 (by decide) (fun c49 => ?_) (fun c49 => ?_)
        · have ho := ip_ c49 ho
          refine lv_iconst (v := (-1)) hx hb dX10_nextTo_79 (by decide) ?_
          cases ho
          exact e_i B hx hb hr hlocks rfl rfl dX10_nextTo_80
        · have ho := in_ c49 ho
          refine lv_iload_n hx hb dX10_nextTo_59 rfl (lv_at hl 0 rfl) ?_
          refine lv_i2l hx hb dX10_nextTo_60 rfl ?_
          refine lv_lconst (v := 0) hx hb dX10_nextTo_61 (by decide) ?_
          refine lv_ldc2 (v := 3) hx hb hown (hts _ (by decide +kernel)) dX10_nextTo_62 ?_
          obtain ⟨q50, hq50, ho⟩ := bnd_ ho
          refine k_iS (As := [.long x47.toInt64, .long 0, .long 3]) (rest := []) S F B (c_X10_in l G σ _ x47.toInt64 0 3 hq50) (va_cwS 3 hts gX10_nextTo_X10_in rfl rfl rfl (by decide +kernel) ⟨Nat.le_of_ble_eq_true rfl, Nat.le_of_ble_eq_true rfl⟩) rfl hl.1 rfl (Nat.le_of_ble_eq_true rfl) dX10_nextTo_65 ⟨Nat.le_of_ble_eq_true rfl, Nat.le_of_ble_eq_true rfl⟩ (fun H locs B => ?_)
          refine lv_if_eq (tgt := 79) hx hb dX10_nextTo_68 (by decide) (fun c51 => ?_) (fun c51 => ?_)
          · have ho := ip_ c51 ho
            refine lv_iconst (v := (-1)) hx hb dX10_nextTo_79 (by decide) ?_
            cases ho
            exact e_i B hx hb hr hlocks rfl rfl dX10_nextTo_80
          · have ho := in_ c51 ho
            refine lv_iconst (v := 4) hx hb dX10_nextTo_71 (by decide) ?_
            refine lv_iload_n hx hb dX10_nextTo_72 rfl (lv_at hl 1 rfl) ?_
            refine lv_imul hx hb dX10_nextTo_73 ?_
            refine lv_iload_n hx hb dX10_nextTo_74 rfl (lv_at hl 0 rfl) ?_
            refine lv_iadd hx hb dX10_nextTo_75 ?_
            refine lv_goto (tgt := 80) hx hb dX10_nextTo_76 (by decide) ?_
            cases ho
            exact e_i B hx hb hr hlocks rfl rfl dX10_nextTo_80
    · have ho := ip_ c40 ho
      refine lv_iconst (v := 1) hx hb dX10_nextTo_31 (by decide) ?_
      refine lv_goto (tgt := 45) hx hb dX10_nextTo_32 (by decide) ?_
      refine lv_iadd hx hb dX10_nextTo_45 ?_
      obtain ⟨x52, ex52, ho⟩ := lt_ ho
      refine lv_nm ex52 ?_
      refine lv_istore_n (lv' := [(3, .int x52), (2, .int x39), (0, .int a0), (1, .int a1)]) hx hb dX10_nextTo_46 rfl hl (by decide) rfl (fun ls hl => ?_)
      refine lv_iload_n hx hb dX10_nextTo_47 rfl (lv_at hl 1 rfl) ?_
      refine lv_i2l hx hb dX10_nextTo_48 rfl ?_
      refine lv_lconst (v := 0) hx hb dX10_nextTo_49 (by decide) ?_
      refine lv_ldc2 (v := 3) hx hb hown (hts _ (by decide +kernel)) dX10_nextTo_50 ?_
      obtain ⟨q53, hq53, ho⟩ := bnd_ ho
      refine k_iS (As := [.long x39.toInt64, .long 0, .long 3]) (rest := []) S F B (c_X10_in l G σ _ x39.toInt64 0 3 hq53) (va_cwS 3 hts gX10_nextTo_X10_in rfl rfl rfl (by decide +kernel) ⟨Nat.le_of_ble_eq_true rfl, Nat.le_of_ble_eq_true rfl⟩) rfl hl.1 rfl (Nat.le_of_ble_eq_true rfl) dX10_nextTo_53 ⟨Nat.le_of_ble_eq_true rfl, Nat.le_of_ble_eq_true rfl⟩ (fun H locs B => ?_)
      refine lv_if_eq (tgt := 79) hx hb dX10_nextTo_56 (by decide) (fun c54 => ?_) (fun c54 => ?_)
      · have ho := ip_ c54 ho
        refine lv_iconst (v := (-1)) hx hb dX10_nextTo_79 (by decide) ?_
        cases ho
        exact e_i B hx hb hr hlocks rfl rfl dX10_nextTo_80
      · have ho := in_ c54 ho
        refine lv_iload_n hx hb dX10_nextTo_59 rfl (lv_at hl 0 rfl) ?_
        refine lv_i2l hx hb dX10_nextTo_60 rfl ?_
        refine lv_lconst (v := 0) hx hb dX10_nextTo_61 (by decide) ?_
        refine lv_ldc2 (v := 3) hx hb hown (hts _ (by decide +kernel)) dX10_nextTo_62 ?_
        obtain ⟨q55, hq55, ho⟩ := bnd_ ho
        refine k_iS (As := [.long x52.toInt64, .long 0, .long 3]) (rest := []) S F B (c_X10_in l G σ _ x52.toInt64 0 3 hq55) (va_cwS 3 hts gX10_nextTo_X10_in rfl rfl rfl (by decide +kernel) ⟨Nat.le_of_ble_eq_true rfl, Nat.le_of_ble_eq_true rfl⟩) rfl hl.1 rfl (Nat.le_of_ble_eq_true rfl) dX10_nextTo_65 ⟨Nat.le_of_ble_eq_true rfl, Nat.le_of_ble_eq_true rfl⟩ (fun H locs B => ?_)
        refine lv_if_eq (tgt := 79) hx hb dX10_nextTo_68 (by decide) (fun c56 => ?_) (fun c56 => ?_)
        · have ho := ip_ c56 ho
          refine lv_iconst (v := (-1)) hx hb dX10_nextTo_79 (by decide) ?_
          cases ho
          exact e_i B hx hb hr hlocks rfl rfl dX10_nextTo_80
        · have ho := in_ c56 ho
          refine lv_iconst (v := 4) hx hb dX10_nextTo_71 (by decide) ?_
          refine lv_iload_n hx hb dX10_nextTo_72 rfl (lv_at hl 1 rfl) ?_
          refine lv_imul hx hb dX10_nextTo_73 ?_
          refine lv_iload_n hx hb dX10_nextTo_74 rfl (lv_at hl 0 rfl) ?_
          refine lv_iadd hx hb dX10_nextTo_75 ?_
          refine lv_goto (tgt := 80) hx hb dX10_nextTo_76 (by decide) ?_
          cases ho
          exact e_i B hx hb hr hlocks rfl rfl dX10_nextTo_80

set_option maxHeartbeats 4000000 in
set_option maxRecDepth 100000 in
theorem c_X10_hedgeAt (l : Launch) (G : Gd) (σ : Mm) (sz : Nat) (a0 : Int32) (a1 : Int32) {out : Int32} (ho : f_X10_hedgeAt a0 a1 σ = some out) : Met l yX10_hedgeAt wsX10_hedgeAt { frames := 1, cells := 0, slots := 0, locals := 32 } (va_Pc [.int a0, .int a1] (PW G σ sz)) (Qi G sz out σ) 0 0 (AA G sz) := by
  refine Met.ofW (cc := cX10_hedgeAt) (maxL := 4) (ret := (some .int)) (by decide) rfl ?_
  intro p e s m args below meth c s₁ B0 hml hv
  obtain ⟨rfl, hpw⟩ := hv
  have hsz := hpw.1
  subst hsz
  obtain ⟨F, B⟩ := hpw.to
  have hx := B0.exec
  have hb := B0.bytes
  have hr := B0.returns
  have hts := atoms_spec (ws := wsX10_hedgeAt) B0.pre
  have hown : s.vm.findClass RX10 = some m.cls := findClass_of_methodNamed B0.named
  have hlocks := B0.notSynchronized
  have S : CallFix p m c cX10_hedgeAt 4 s _ wsX10_hedgeAt RX10 := ⟨hx, hb, hml, hown, hts⟩
  have hl := lv_entry [.int a0, .int a1] (n := 4) (Nat.le_of_ble_eq_true rfl)
  rw [lg_entry_eq]
  generalize (lg_sl [.int a0, .int a1] ++ List.replicate (4 - (lg_sl [.int a0, .int a1]).length) Slot.unset).toArray = ls at hl ⊢
  have hl : lv_has ls 4 [(0, .int a0), (1, .int a1)] := hl
  unfold f_X10_hedgeAt at ho
  refine lv_iload_n hx hb dX10_hedgeAt_0 rfl (lv_at hl 0 rfl) ?_
  refine lv_iload_n hx hb dX10_hedgeAt_1 rfl (lv_at hl 1 rfl) ?_
  refine va_mmin hx hb (hml.trans hl.1.symm) hown (hts _ (by decide +kernel)) (hts _ (by decide +kernel)) (hts _ (by decide +kernel)) (hts _ (by decide +kernel)) (Nat.le_of_ble_eq_true rfl) (Nat.le_of_ble_eq_true rfl) (Nat.le_of_ble_eq_true rfl) (Nat.le_of_ble_eq_true rfl) dX10_hedgeAt_2 ?_
  obtain ⟨x1, ex1, ho⟩ := lt_ ho
  refine lv_nm ex1 ?_
  refine lv_istore_n (lv' := [(2, .int x1), (0, .int a0), (1, .int a1)]) hx hb dX10_hedgeAt_5 rfl hl (by decide) rfl (fun ls hl => ?_)
  refine lv_iload_n hx hb dX10_hedgeAt_6 rfl (lv_at hl 1 rfl) ?_
  refine lv_iload_n hx hb dX10_hedgeAt_7 rfl (lv_at hl 2 rfl) ?_
  refine va_mmax hx hb (hml.trans hl.1.symm) hown (hts _ (by decide +kernel)) (hts _ (by decide +kernel)) (hts _ (by decide +kernel)) (hts _ (by decide +kernel)) (Nat.le_of_ble_eq_true rfl) (Nat.le_of_ble_eq_true rfl) (Nat.le_of_ble_eq_true rfl) (Nat.le_of_ble_eq_true rfl) dX10_hedgeAt_8 ?_
  obtain ⟨x2, ex2, ho⟩ := lt_ ho
  refine lv_nm ex2 ?_
  refine lv_istore_n (lv' := [(3, .int x2), (2, .int x1), (0, .int a0), (1, .int a1)]) hx hb dX10_hedgeAt_11 rfl hl (by decide) rfl (fun ls hl => ?_)
  refine lv_iload_n hx hb dX10_hedgeAt_12 rfl (lv_at hl 0 rfl) ?_
  refine lv_iload_n hx hb dX10_hedgeAt_13 rfl (lv_at hl 1 rfl) ?_
  refine lv_isub hx hb dX10_hedgeAt_14 ?_
  refine lv_iconst (v := 4) hx hb dX10_hedgeAt_15 (by decide) ?_
  refine lv_icmp_ne (tgt := 24) hx hb dX10_hedgeAt_16 (by decide) (fun c3 => ?_) (fun c3 => ?_)
  · have ho := in_ c3 ho
    refine lv_iload_n hx hb dX10_hedgeAt_24 rfl (lv_at hl 0 rfl) ?_
    refine lv_iload_n hx hb dX10_hedgeAt_25 rfl (lv_at hl 1 rfl) ?_
    refine lv_isub hx hb dX10_hedgeAt_26 ?_
    refine lv_iconst (v := 1) hx hb dX10_hedgeAt_27 (by decide) ?_
    refine lv_icmp_ne (tgt := 53) hx hb dX10_hedgeAt_28 (by decide) (fun c4 => ?_) (fun c4 => ?_)
    · have ho := in_ c4 ho
      refine lv_iconst (v := (-1)) hx hb dX10_hedgeAt_53 (by decide) ?_
      cases ho
      exact e_i B hx hb hr hlocks rfl rfl dX10_hedgeAt_54
    · have ho := ip_ c4 ho
      refine lv_iload_n hx hb dX10_hedgeAt_31 rfl (lv_at hl 1 rfl) ?_
      refine lv_iconst (v := 4) hx hb dX10_hedgeAt_32 (by decide) ?_
      refine lv_irem hx hb dX10_hedgeAt_33 (by decide) ?_
      refine lv_iconst (v := 3) hx hb dX10_hedgeAt_34 (by decide) ?_
      refine lv_icmp_ge (tgt := 53) hx hb dX10_hedgeAt_35 (by decide) (fun c5 => ?_) (fun c5 => ?_)
      · have ho := ip_ c5 ho
        refine lv_iconst (v := (-1)) hx hb dX10_hedgeAt_53 (by decide) ?_
        cases ho
        exact e_i B hx hb hr hlocks rfl rfl dX10_hedgeAt_54
      · have ho := in_ c5 ho
        refine lv_bipush (v := 6) hx hb dX10_hedgeAt_38 (by decide) ?_
        refine lv_iconst (v := 3) hx hb dX10_hedgeAt_40 (by decide) ?_
        refine lv_iload_n hx hb dX10_hedgeAt_41 rfl (lv_at hl 1 rfl) ?_
        refine lv_iconst (v := 4) hx hb dX10_hedgeAt_42 (by decide) ?_
        refine lv_idiv hx hb dX10_hedgeAt_43 (by decide) ?_
        refine lv_imul hx hb dX10_hedgeAt_44 ?_
        refine lv_iadd hx hb dX10_hedgeAt_45 ?_
        refine lv_iload_n hx hb dX10_hedgeAt_46 rfl (lv_at hl 1 rfl) ?_
        refine lv_iconst (v := 4) hx hb dX10_hedgeAt_47 (by decide) ?_
        refine lv_irem hx hb dX10_hedgeAt_48 (by decide) ?_
        refine lv_iadd hx hb dX10_hedgeAt_49 ?_
        refine lv_goto (tgt := 54) hx hb dX10_hedgeAt_50 (by decide) ?_
        cases ho
        exact e_i B hx hb hr hlocks rfl rfl dX10_hedgeAt_54
  · have ho := ip_ c3 ho
    refine lv_bipush (v := 18) hx hb dX10_hedgeAt_19 (by decide) ?_
    refine lv_iload_n hx hb dX10_hedgeAt_21 rfl (lv_at hl 1 rfl) ?_
    refine lv_iadd hx hb dX10_hedgeAt_22 ?_
    cases ho
    exact e_i B hx hb hr hlocks rfl rfl dX10_hedgeAt_23

set_option maxHeartbeats 4000000 in
set_option maxRecDepth 100000 in
theorem c_X10_isGapAt (l : Launch) (G : Gd) (σ : Mm) (sz : Nat) (a0 : Int32) {out : Int32} (ho : f_X10_isGapAt a0 σ = some out) : Met l yX10_isGapAt wsX10_isGapAt { frames := 0, cells := 0, slots := 0, locals := 0 } (va_Pc [.ref (G.2.2 198), .int a0] (PW G σ sz)) (Qi G sz out σ) 0 0 (AA G sz) := by
  refine Met.ofW (cc := cX10_isGapAt) (maxL := 2) (ret := (some .boolean)) (by decide) rfl ?_
  intro p e s m args below meth c s₁ B0 hml hv
  obtain ⟨rfl, hpw⟩ := hv
  have hsz := hpw.1
  subst hsz
  obtain ⟨F, B⟩ := hpw.to
  have hx := B0.exec
  have hb := B0.bytes
  have hr := B0.returns
  have hts := atoms_spec (ws := wsX10_isGapAt) B0.pre
  have hown : s.vm.findClass RX10 = some m.cls := findClass_of_methodNamed B0.named
  have hlocks := B0.notSynchronized
  have S : CallFix p m c cX10_isGapAt 2 s _ wsX10_isGapAt RX10 := ⟨hx, hb, hml, hown, hts⟩
  have hiX10 : ∀ w ∈ u_ws RX10 TX10 21, w ∈ wsX10_isGapAt := by decide +kernel
  have hl := lv_entry [.ref (G.2.2 198), .int a0] (n := 2) (Nat.le_of_ble_eq_true rfl)
  rw [lg_entry_eq]
  generalize (lg_sl [.ref (G.2.2 198), .int a0] ++ List.replicate (2 - (lg_sl [.ref (G.2.2 198), .int a0]).length) Slot.unset).toArray = ls at hl ⊢
  have hl : lv_has ls 2 [(0, .ref (G.2.2 198)), (1, .int a0)] := hl
  unfold f_X10_isGapAt at ho
  refine lv_iload_n hx hb dX10_isGapAt_0 rfl (lv_at hl 1 rfl) ?_
  refine lv_iconst (v := (-1)) hx hb dX10_isGapAt_1 (by decide) ?_
  refine lv_icmp_eq (tgt := 19) hx hb dX10_isGapAt_2 (by decide) (fun c1 => ?_) (fun c1 => ?_)
  · have ho := ip_ c1 ho
    refine lv_iconst (v := 0) hx hb dX10_isGapAt_19 (by decide) ?_
    cases ho
    exact e_i B hx hb hr hlocks rfl rfl dX10_isGapAt_20
  · have ho := in_ c1 ho
    refine lv_aload_n hx hb dX10_isGapAt_5 rfl (lv_at hl 0 rfl) ?_
    refine r_get (ci := 14) (C := RX10) (T := TX10) (N := 21) S F B (kq (by decide) : kd 198 = 21 ∧ 198 < NN) rfl rfl hiX10 0 (by decide) (by decide +kernel) rfl dX10_isGapAt_6 ?_
    refine lv_iload_n hx hb dX10_isGapAt_9 rfl (lv_at hl 1 rfl) ?_
    obtain ⟨hi, ho⟩ := gd_ ho
    refine r_iald S F B (kq (by decide) : kd 199 = 22 ∧ 199 < NN) rfl hi dX10_isGapAt_10 ?_
    refine lv_iconst (v := 5) hx hb dX10_isGapAt_11 (by decide) ?_
    refine lv_icmp_ge (tgt := 19) hx hb dX10_isGapAt_12 (by decide) (fun c2 => ?_) (fun c2 => ?_)
    · have ho := ip_ c2 ho
      refine lv_iconst (v := 0) hx hb dX10_isGapAt_19 (by decide) ?_
      cases ho
      exact e_i B hx hb hr hlocks rfl rfl dX10_isGapAt_20
    · have ho := in_ c2 ho
      refine lv_iconst (v := 1) hx hb dX10_isGapAt_15 (by decide) ?_
      refine lv_goto (tgt := 20) hx hb dX10_isGapAt_16 (by decide) ?_
      cases ho
      exact e_i B hx hb hr hlocks rfl rfl dX10_isGapAt_20

set_option maxHeartbeats 4000000 in
set_option maxRecDepth 100000 in
theorem c_X10_gardenerAt (l : Launch) (G : Gd) (σ : Mm) (sz : Nat) (a0 : Int32) {out : Int32} (ho : f_X10_gardenerAt a0 σ = some out) : Met l yX10_gardenerAt wsX10_gardenerAt { frames := 0, cells := 0, slots := 0, locals := 0 } (va_Pc [.int a0] (PW G σ sz)) (Qi G sz out σ) 0 0 (AA G sz) := by
  refine Met.ofW (cc := cX10_gardenerAt) (maxL := 1) (ret := (some .int)) (by decide) rfl ?_
  intro p e s m args below meth c s₁ B0 hml hv
  obtain ⟨rfl, hpw⟩ := hv
  have hsz := hpw.1
  subst hsz
  obtain ⟨F, B⟩ := hpw.to
  have hx := B0.exec
  have hb := B0.bytes
  have hr := B0.returns
  have hts := atoms_spec (ws := wsX10_gardenerAt) B0.pre
  have hown : s.vm.findClass RX10 = some m.cls := findClass_of_methodNamed B0.named
  have hlocks := B0.notSynchronized
  have S : CallFix p m c cX10_gardenerAt 1 s _ wsX10_gardenerAt RX10 := ⟨hx, hb, hml, hown, hts⟩
  have hl := lv_entry [.int a0] (n := 1) (Nat.le_of_ble_eq_true rfl)
  rw [lg_entry_eq]
  generalize (lg_sl [.int a0] ++ List.replicate (1 - (lg_sl [.int a0]).length) Slot.unset).toArray = ls at hl ⊢
  have hl : lv_has ls 1 [(0, .int a0)] := hl
  unfold f_X10_gardenerAt at ho
  refine lv_bipush (v := 30) hx hb dX10_gardenerAt_0 (by decide) ?_
  refine lv_iconst (v := 4) hx hb dX10_gardenerAt_2 (by decide) ?_
  refine lv_iload_n hx hb dX10_gardenerAt_3 rfl (lv_at hl 0 rfl) ?_
  refine lv_imul hx hb dX10_gardenerAt_4 ?_
  refine lv_iadd hx hb dX10_gardenerAt_5 ?_
  cases ho
  exact e_i B hx hb hr hlocks rfl rfl dX10_gardenerAt_6

set_option maxHeartbeats 4000000 in
set_option maxRecDepth 100000 in
theorem c_X10_visitorAt (l : Launch) (G : Gd) (σ : Mm) (sz : Nat) (a0 : Int32) {out : Int32} (ho : f_X10_visitorAt a0 σ = some out) : Met l yX10_visitorAt wsX10_visitorAt { frames := 0, cells := 0, slots := 0, locals := 0 } (va_Pc [.int a0] (PW G σ sz)) (Qi G sz out σ) 0 0 (AA G sz) := by
  refine Met.ofW (cc := cX10_visitorAt) (maxL := 1) (ret := (some .int)) (by decide) rfl ?_
  intro p e s m args below meth c s₁ B0 hml hv
  obtain ⟨rfl, hpw⟩ := hv
  have hsz := hpw.1
  subst hsz
  obtain ⟨F, B⟩ := hpw.to
  have hx := B0.exec
  have hb := B0.bytes
  have hr := B0.returns
  have hts := atoms_spec (ws := wsX10_visitorAt) B0.pre
  have hown : s.vm.findClass RX10 = some m.cls := findClass_of_methodNamed B0.named
  have hlocks := B0.notSynchronized
  have S : CallFix p m c cX10_visitorAt 1 s _ wsX10_visitorAt RX10 := ⟨hx, hb, hml, hown, hts⟩
  have hl := lv_entry [.int a0] (n := 1) (Nat.le_of_ble_eq_true rfl)
  rw [lg_entry_eq]
  generalize (lg_sl [.int a0] ++ List.replicate (1 - (lg_sl [.int a0]).length) Slot.unset).toArray = ls at hl ⊢
  have hl : lv_has ls 1 [(0, .int a0)] := hl
  unfold f_X10_visitorAt at ho
  refine lv_bipush (v := 46) hx hb dX10_visitorAt_0 (by decide) ?_
  refine lv_bipush (v := 8) hx hb dX10_visitorAt_2 (by decide) ?_
  refine lv_iload_n hx hb dX10_visitorAt_4 rfl (lv_at hl 0 rfl) ?_
  refine lv_imul hx hb dX10_visitorAt_5 ?_
  refine lv_iadd hx hb dX10_visitorAt_6 ?_
  cases ho
  exact e_i B hx hb hr hlocks rfl rfl dX10_visitorAt_7

set_option maxHeartbeats 4000000 in
set_option maxRecDepth 100000 in
theorem c_X10_isGardener (l : Launch) (G : Gd) (σ : Mm) (sz : Nat) (a0 : Int32) {out : Int32} (ho : f_X10_isGardener a0 σ = some out) : Met l yX10_isGardener wsX10_isGardener { frames := 1, cells := 0, slots := 0, locals := 25 } (va_Pc [.ref (G.2.2 198), .int a0] (PW G σ sz)) (Qi G sz out σ) 0 0 (AA G sz) := by
  refine Met.ofW (cc := cX10_isGardener) (maxL := 2) (ret := (some .boolean)) (by decide) rfl ?_
  intro p e s m args below meth c s₁ B0 hml hv
  obtain ⟨rfl, hpw⟩ := hv
  have hsz := hpw.1
  subst hsz
  obtain ⟨F, B⟩ := hpw.to
  have hx := B0.exec
  have hb := B0.bytes
  have hr := B0.returns
  have hts := atoms_spec (ws := wsX10_isGardener) B0.pre
  have hown : s.vm.findClass RX10 = some m.cls := findClass_of_methodNamed B0.named
  have hlocks := B0.notSynchronized
  have S : CallFix p m c cX10_isGardener 2 s _ wsX10_isGardener RX10 := ⟨hx, hb, hml, hown, hts⟩
  have hiX10 : ∀ w ∈ u_ws RX10 TX10 21, w ∈ wsX10_isGardener := by decide +kernel
  have hl := lv_entry [.ref (G.2.2 198), .int a0] (n := 2) (Nat.le_of_ble_eq_true rfl)
  rw [lg_entry_eq]
  generalize (lg_sl [.ref (G.2.2 198), .int a0] ++ List.replicate (2 - (lg_sl [.ref (G.2.2 198), .int a0]).length) Slot.unset).toArray = ls at hl ⊢
  have hl : lv_has ls 2 [(0, .ref (G.2.2 198)), (1, .int a0)] := hl
  unfold f_X10_isGardener at ho
  refine lv_iload_n hx hb dX10_isGardener_0 rfl (lv_at hl 1 rfl) ?_
  refine lv_i2l hx hb dX10_isGardener_1 rfl ?_
  refine lv_lconst (v := 0) hx hb dX10_isGardener_2 (by decide) ?_
  refine lv_aload_n hx hb dX10_isGardener_3 rfl (lv_at hl 0 rfl) ?_
  refine r_get (ci := 14) (C := RX10) (T := TX10) (N := 21) S F B (kq (by decide) : kd 198 = 21 ∧ 198 < NN) rfl rfl hiX10 0 (by decide) (by decide +kernel) rfl dX10_isGardener_4 ?_
  refine lv_iconst (v := 0) hx hb dX10_isGardener_7 (by decide) ?_
  refine r_ialdc (j := 0) S F B (kq (by decide) : kd 199 = 22 ∧ 199 < NN) rfl (vpc (by decide)) (by decide) dX10_isGardener_8 ?_
  refine lv_iconst (v := 1) hx hb dX10_isGardener_9 (by decide) ?_
  refine lv_isub hx hb dX10_isGardener_10 ?_
  refine lv_i2l hx hb dX10_isGardener_11 rfl ?_
  obtain ⟨q1, hq1, ho⟩ := bnd_ ho
  refine k_iS (As := [.long a0.toInt64, .long 0, .long (((σ 199 0) - 1).toInt64)]) (rest := []) S F B (c_X10_in l G σ _ a0.toInt64 0 (((σ 199 0) - 1).toInt64) hq1) (va_cwS 3 hts gX10_isGardener_X10_in rfl rfl rfl (by decide +kernel) ⟨Nat.le_of_ble_eq_true rfl, Nat.le_of_ble_eq_true rfl⟩) rfl hl.1 rfl (Nat.le_of_ble_eq_true rfl) dX10_isGardener_12 ⟨Nat.le_of_ble_eq_true rfl, Nat.le_of_ble_eq_true rfl⟩ (fun H locs B => ?_)
  obtain ⟨hz, ho⟩ := bz_ ho
  cases ho
  exact e_i B hx hb hr hlocks hz rfl dX10_isGardener_15

set_option maxHeartbeats 4000000 in
set_option maxRecDepth 100000 in
theorem c_X10_isVisitor (l : Launch) (G : Gd) (σ : Mm) (sz : Nat) (a0 : Int32) {out : Int32} (ho : f_X10_isVisitor a0 σ = some out) : Met l yX10_isVisitor wsX10_isVisitor { frames := 1, cells := 0, slots := 0, locals := 25 } (va_Pc [.ref (G.2.2 198), .int a0] (PW G σ sz)) (Qi G sz out σ) 0 0 (AA G sz) := by
  refine Met.ofW (cc := cX10_isVisitor) (maxL := 2) (ret := (some .boolean)) (by decide) rfl ?_
  intro p e s m args below meth c s₁ B0 hml hv
  obtain ⟨rfl, hpw⟩ := hv
  have hsz := hpw.1
  subst hsz
  obtain ⟨F, B⟩ := hpw.to
  have hx := B0.exec
  have hb := B0.bytes
  have hr := B0.returns
  have hts := atoms_spec (ws := wsX10_isVisitor) B0.pre
  have hown : s.vm.findClass RX10 = some m.cls := findClass_of_methodNamed B0.named
  have hlocks := B0.notSynchronized
  have S : CallFix p m c cX10_isVisitor 2 s _ wsX10_isVisitor RX10 := ⟨hx, hb, hml, hown, hts⟩
  have hiX10 : ∀ w ∈ u_ws RX10 TX10 21, w ∈ wsX10_isVisitor := by decide +kernel
  have hl := lv_entry [.ref (G.2.2 198), .int a0] (n := 2) (Nat.le_of_ble_eq_true rfl)
  rw [lg_entry_eq]
  generalize (lg_sl [.ref (G.2.2 198), .int a0] ++ List.replicate (2 - (lg_sl [.ref (G.2.2 198), .int a0]).length) Slot.unset).toArray = ls at hl ⊢
  have hl : lv_has ls 2 [(0, .ref (G.2.2 198)), (1, .int a0)] := hl
  unfold f_X10_isVisitor at ho
  refine lv_iload_n hx hb dX10_isVisitor_0 rfl (lv_at hl 1 rfl) ?_
  refine lv_i2l hx hb dX10_isVisitor_1 rfl ?_
  refine lv_lconst (v := 0) hx hb dX10_isVisitor_2 (by decide) ?_
  refine lv_aload_n hx hb dX10_isVisitor_3 rfl (lv_at hl 0 rfl) ?_
  refine r_get (ci := 14) (C := RX10) (T := TX10) (N := 21) S F B (kq (by decide) : kd 198 = 21 ∧ 198 < NN) rfl rfl hiX10 0 (by decide) (by decide +kernel) rfl dX10_isVisitor_4 ?_
  refine lv_iconst (v := 1) hx hb dX10_isVisitor_7 (by decide) ?_
  refine r_ialdc (j := 1) S F B (kq (by decide) : kd 199 = 22 ∧ 199 < NN) rfl (vpc (by decide)) (by decide) dX10_isVisitor_8 ?_
  refine lv_iconst (v := 1) hx hb dX10_isVisitor_9 (by decide) ?_
  refine lv_isub hx hb dX10_isVisitor_10 ?_
  refine lv_i2l hx hb dX10_isVisitor_11 rfl ?_
  obtain ⟨q1, hq1, ho⟩ := bnd_ ho
  refine k_iS (As := [.long a0.toInt64, .long 0, .long (((σ 199 1) - 1).toInt64)]) (rest := []) S F B (c_X10_in l G σ _ a0.toInt64 0 (((σ 199 1) - 1).toInt64) hq1) (va_cwS 3 hts gX10_isVisitor_X10_in rfl rfl rfl (by decide +kernel) ⟨Nat.le_of_ble_eq_true rfl, Nat.le_of_ble_eq_true rfl⟩) rfl hl.1 rfl (Nat.le_of_ble_eq_true rfl) dX10_isVisitor_12 ⟨Nat.le_of_ble_eq_true rfl, Nat.le_of_ble_eq_true rfl⟩ (fun H locs B => ?_)
  obtain ⟨hz, ho⟩ := bz_ ho
  cases ho
  exact e_i B hx hb hr hlocks hz rfl dX10_isVisitor_15

