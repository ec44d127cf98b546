set_option maxHeartbeats 4000000 in
set_option maxRecDepth 100000 in
theorem c_J6_getChars_ba4f3 (l : Launch) (G : Gd) (σ : Mm) (sz : Nat) (a0 : Int32) (a1 : Int32) {out : Int32 × Mm} (ho : f_J6_getChars_ba4f3 a0 a1 σ = some out) : Met l yJ6_getChars_ba4f3 wsJ6_getChars_ba4f3 { frames := 0, cells := 0, slots := 0, locals := 0 } (va_Pc [.int a0, .int a1, .ref (G.2.2 197)] (PW G σ sz)) (Qi G sz out.1 out.2) 0 0 (AA G sz) := by
  refine Met.ofW (cc := cJ6_getChars_ba4f3) (maxL := 7) (ret := (some .int)) (by decide) rfl ?_
  intro p e s m args below meth c s₁ B0 hml hv
  obtain ⟨rfl, hpw⟩ := hv
  have hsz := hpw.1
  subst hsz
  obtain ⟨F, B⟩ := hpw.to
  have hx := B0.exec
  have hb := B0.bytes
  have hr := B0.returns
  have hts := atoms_spec (ws := wsJ6_getChars_ba4f3) B0.pre
  have hown : s.vm.findClass RJ6 = some m.cls := findClass_of_methodNamed B0.named
  have hlocks := B0.notSynchronized
  have S : CallFix p m c cJ6_getChars_ba4f3 7 s _ wsJ6_getChars_ba4f3 RJ6 := ⟨hx, hb, hml, hown, hts⟩
  have hl := lv_entry [.int a0, .int a1, .ref (G.2.2 197)] (n := 7) (Nat.le_of_ble_eq_true rfl)
  rw [lg_entry_eq]
  generalize (lg_sl [.int a0, .int a1, .ref (G.2.2 197)] ++ List.replicate (7 - (lg_sl [.int a0, .int a1, .ref (G.2.2 197)]).length) Slot.unset).toArray = ls at hl ⊢
  have hl : lv_has ls 7 [(0, .int a0), (1, .int a1), (2, .ref (G.2.2 197))] := hl
  unfold f_J6_getChars_ba4f3 at ho
  skip
  refine lv_iload_n hx hb dJ6_getChars_ba4f3_0 rfl (lv_at hl 1 rfl) ?_
  refine lv_istore (lv' := [(5, .int a1), (0, .int a0), (1, .int a1), (2, .ref (G.2.2 197))]) hx hb dJ6_getChars_ba4f3_1 hl (by decide) rfl (fun ls hl => ?_)
  refine lv_iload_n hx hb dJ6_getChars_ba4f3_3 rfl (lv_at hl 1 rfl) ?_
  refine lv_if_ge (tgt := 11) hx hb dJ6_getChars_ba4f3_4 (by decide) (fun c1 => ?_) (fun c1 => ?_)
  · have ho := ip_ c1 ho
    refine lv_iconst (v := 0) hx hb dJ6_getChars_ba4f3_11 (by decide) ?_
    refine lv_istore (lv' := [(6, .int 0), (5, .int a1), (0, .int a0), (1, .int a1), (2, .ref (G.2.2 197))]) hx hb dJ6_getChars_ba4f3_12 hl (by decide) rfl (fun ls hl => ?_)
    refine lv_iload hx hb dJ6_getChars_ba4f3_14 (lv_at hl 0 rfl) ?_
    refine lv_if_ne (tgt := 22) hx hb dJ6_getChars_ba4f3_16 (by decide) (fun h => absurd h (by decide)) (fun _ => ?_)
    refine lv_iload_n hx hb dJ6_getChars_ba4f3_19 rfl (lv_at hl 2 rfl) ?_
    refine lv_ineg hx hb dJ6_getChars_ba4f3_20 ?_
    obtain ⟨x2, ex2, ho⟩ := lt_ ho
    refine lv_nm ex2 ?_
    refine lv_istore_n (lv' := [(0, .int x2), (6, .int 0), (5, .int a1), (1, .int a1), (2, .ref (G.2.2 197))]) hx hb dJ6_getChars_ba4f3_21 rfl hl (by decide) rfl (fun ls hl => ?_)
    obtain ⟨K, hK, ho⟩ := lt_ ho
    have hexit22 : ∀ (v3 : Int32) (v4 : Int32) (σ5 : Mm) (H : Heap) (locs : List Loc) (ls : Array Slot), K v3 v4 σ5 = some out → Bd G σ5 s H locs → lv_has ls 7 [(0, .int v3), (6, .int 0), (5, .int v4), (1, .int a1), (2, .ref (G.2.2 197))] → W p l e (headSpec wsJ6_getChars_ba4f3 { frames := 0, cells := 0, slots := 0, locals := 0 }).room s m #[.int a0, .int a1, .ref (G.2.2 197)] below meth c H locs 0 0 (MQ below (Qi G s.heap.size out.1 out.2) #[.int a0, .int a1, .ref (G.2.2 197)] s 0 0 (AA G s.heap.size)) (F0 m 72 ls []) := by
      intro v3 v4 σ5 H locs ls ho B hl
      subst hK
      refine lv_aload_n hx hb dJ6_getChars_ba4f3_72 rfl (lv_at hl 4 rfl) ?_
      obtain ⟨x7, ex7, ho⟩ := lt_ ho
      refine lv_iinc (v := x7) (lv' := [(5, .int x7), (0, .int v3), (6, .int 0), (1, .int a1), (2, .ref (G.2.2 197))]) hx hb dJ6_getChars_ba4f3_73 hl (k := 2) rfl (by rw [ex7]; rfl) (by decide) rfl (fun ls hl => ?_)
      refine lv_iload hx hb dJ6_getChars_ba4f3_76 (lv_at hl 0 rfl) ?_
      refine r_gets S B F.one.1 (by decide +kernel) dJ6_getChars_ba4f3_78 ?_
      refine lv_iload_n hx hb dJ6_getChars_ba4f3_81 rfl (lv_at hl 1 rfl) ?_
      refine lv_ineg hx hb dJ6_getChars_ba4f3_82 ?_
      obtain ⟨hi, ho⟩ := gd_ ho
      refine r_tb S B F.one.2 hi dJ6_getChars_ba4f3_83 ?_
      obtain ⟨hi, ho⟩ := gd_ ho
      refine r_bast S F B (kq (by decide) : kd 197 = 20 ∧ 197 < NN) (fun _ => rfl) hi dJ6_getChars_ba4f3_84 (fun H locs B => ?_)
      obtain ⟨σ8, eσ8, ho⟩ := lt_ ho
      rw [← eσ8] at B
      refine lv_iload_n hx hb dJ6_getChars_ba4f3_85 rfl (lv_at hl 1 rfl) ?_
      refine lv_bipush (v := (-9)) hx hb dJ6_getChars_ba4f3_86 (by decide) ?_
      refine lv_icmp_ge (tgt := 104) hx hb dJ6_getChars_ba4f3_88 (by decide) (fun c9 => ?_) (fun c9 => ?_)
      · have ho := ip_ c9 ho
        refine lv_iload hx hb dJ6_getChars_ba4f3_104 (lv_at hl 2 rfl) ?_
        refine lv_if_eq (tgt := 118) hx hb dJ6_getChars_ba4f3_106 (by decide) (fun _ => ?_) (fun h => absurd h (by decide))
        refine lv_iload hx hb dJ6_getChars_ba4f3_118 (lv_at hl 0 rfl) ?_
        cases ho
        exact e_i B hx hb hr hlocks rfl rfl dJ6_getChars_ba4f3_120
      · have ho := in_ c9 ho
        refine lv_aload_n hx hb dJ6_getChars_ba4f3_91 rfl (lv_at hl 4 rfl) ?_
        obtain ⟨x10, ex10, ho⟩ := lt_ ho
        refine lv_iinc (v := x10) (lv' := [(5, .int x10), (0, .int v3), (6, .int 0), (1, .int a1), (2, .ref (G.2.2 197))]) hx hb dJ6_getChars_ba4f3_92 hl (k := 0) rfl (by rw [ex10]; rfl) (by decide) rfl (fun ls hl => ?_)
        refine lv_iload hx hb dJ6_getChars_ba4f3_95 (lv_at hl 0 rfl) ?_
        refine r_gets S B F.ten.1 (by decide +kernel) dJ6_getChars_ba4f3_97 ?_
        refine lv_iload_n hx hb dJ6_getChars_ba4f3_100 rfl (lv_at hl 1 rfl) ?_
        refine lv_ineg hx hb dJ6_getChars_ba4f3_101 ?_
        obtain ⟨hi, ho⟩ := gd_ ho
        refine r_tb S B F.ten.2 hi dJ6_getChars_ba4f3_102 ?_
        obtain ⟨hi, ho⟩ := gd_ ho
        refine r_bast S F B (kq (by decide) : kd 197 = 20 ∧ 197 < NN) (fun _ => rfl) hi dJ6_getChars_ba4f3_103 (fun H locs B => ?_)
        obtain ⟨σ11, eσ11, ho⟩ := lt_ ho
        rw [← eσ11] at B
        refine lv_iload hx hb dJ6_getChars_ba4f3_104 (lv_at hl 2 rfl) ?_
        refine lv_if_eq (tgt := 118) hx hb dJ6_getChars_ba4f3_106 (by decide) (fun _ => ?_) (fun h => absurd h (by decide))
        refine lv_iload hx hb dJ6_getChars_ba4f3_118 (lv_at hl 0 rfl) ?_
        cases ho
        exact e_i B hx hb hr hlocks rfl rfl dJ6_getChars_ba4f3_120
    have hloop22 : ∀ (n : Nat) (v12 : Int32) (v13 : Int32) (σ14 : Mm) (H : Heap) (locs : List Loc) (ls : Array Slot), f_J6_getChars_ba4f3_l22 K a1 n v12 v13 σ14 = some out → Bd G σ14 s H locs → lv_has ls 7 [(0, .int v12), (6, .int 0), (5, .int v13), (1, .int a1), (2, .ref (G.2.2 197))] → W p l e (headSpec wsJ6_getChars_ba4f3 { frames := 0, cells := 0, slots := 0, locals := 0 }).room s m #[.int a0, .int a1, .ref (G.2.2 197)] below meth c H locs 0 0 (MQ below (Qi G s.heap.size out.1 out.2) #[.int a0, .int a1, .ref (G.2.2 197)] s 0 0 (AA G s.heap.size)) (F0 m 22 ls []) := by
      intro n
      induction n with
      | zero => intro v12 v13 σ14 H locs ls ho B hl; cases ho
      | succ n ih =>
        intro v12 v13 σ14 H locs ls ho B hl
        refine lv_iload_n hx hb dJ6_getChars_ba4f3_22 rfl (lv_at hl 0 rfl) ?_
        refine lv_bipush (v := (-100)) hx hb dJ6_getChars_ba4f3_23 (by decide) ?_
        refine lv_icmp_gt (tgt := 72) hx hb dJ6_getChars_ba4f3_25 (by decide) (fun c15 => ?_) (fun c15 => ?_)
        · have ho := ip_ c15 ho
          exact hexit22 _ _ _ _ _ _ ho B (lv_sub hl [0, 1, 2, 3, 4] rfl)
        · have ho := in_ c15 ho
          refine lv_iload_n hx hb dJ6_getChars_ba4f3_28 rfl (lv_at hl 0 rfl) ?_
          refine lv_bipush (v := 100) hx hb dJ6_getChars_ba4f3_29 (by decide) ?_
          refine lv_idiv hx hb dJ6_getChars_ba4f3_31 (by decide) ?_
          obtain ⟨x16, ex16, ho⟩ := lt_ ho
          refine lv_nm ex16 ?_
          refine lv_istore_n (lv' := [(3, .int x16), (0, .int v12), (6, .int 0), (5, .int v13), (1, .int a1), (2, .ref (G.2.2 197))]) hx hb dJ6_getChars_ba4f3_32 rfl hl (by decide) rfl (fun ls hl => ?_)
          refine lv_iload_n hx hb dJ6_getChars_ba4f3_33 rfl (lv_at hl 0 rfl) ?_
          refine lv_bipush (v := 100) hx hb dJ6_getChars_ba4f3_34 (by decide) ?_
          refine lv_imul hx hb dJ6_getChars_ba4f3_36 ?_
          refine lv_iload_n hx hb dJ6_getChars_ba4f3_37 rfl (lv_at hl 1 rfl) ?_
          refine lv_isub hx hb dJ6_getChars_ba4f3_38 ?_
          obtain ⟨x17, ex17, ho⟩ := lt_ ho
          refine lv_nm ex17 ?_
          refine lv_istore (lv' := [(4, .int x17), (3, .int x16), (0, .int v12), (6, .int 0), (5, .int v13), (1, .int a1), (2, .ref (G.2.2 197))]) hx hb dJ6_getChars_ba4f3_39 hl (by decide) rfl (fun ls hl => ?_)
          refine lv_iload_n hx hb dJ6_getChars_ba4f3_41 rfl (lv_at hl 1 rfl) ?_
          refine lv_istore_n (lv' := [(0, .int x16), (4, .int x17), (3, .int x16), (6, .int 0), (5, .int v13), (1, .int a1), (2, .ref (G.2.2 197))]) hx hb dJ6_getChars_ba4f3_42 rfl hl (by decide) rfl (fun ls hl => ?_)
          refine lv_aload_n hx hb dJ6_getChars_ba4f3_43 rfl (lv_at hl 6 rfl) ?_
          obtain ⟨x18, ex18, ho⟩ := lt_ ho
          refine lv_iinc (v := x18) (lv' := [(5, .int x18), (0, .int x16), (4, .int x17), (3, .int x16), (6, .int 0), (1, .int a1), (2, .ref (G.2.2 197))]) hx hb dJ6_getChars_ba4f3_44 hl (k := 4) rfl (by rw [ex18]; rfl) (by decide) rfl (fun ls hl => ?_)
          refine lv_iload hx hb dJ6_getChars_ba4f3_47 (lv_at hl 0 rfl) ?_
          refine r_gets S B F.one.1 (by decide +kernel) dJ6_getChars_ba4f3_49 ?_
          refine lv_iload hx hb dJ6_getChars_ba4f3_52 (lv_at hl 2 rfl) ?_
          obtain ⟨hi, ho⟩ := gd_ ho
          refine r_tb S B F.one.2 hi dJ6_getChars_ba4f3_54 ?_
          obtain ⟨hi, ho⟩ := gd_ ho
          refine r_bast S F B (kq (by decide) : kd 197 = 20 ∧ 197 < NN) (fun _ => rfl) hi dJ6_getChars_ba4f3_55 (fun H locs B => ?_)
          obtain ⟨σ19, eσ19, ho⟩ := lt_ ho
          rw [← eσ19] at B
          refine lv_aload_n hx hb dJ6_getChars_ba4f3_56 rfl (lv_at hl 6 rfl) ?_
          obtain ⟨x20, ex20, ho⟩ := lt_ ho
          refine lv_iinc (v := x20) (lv' := [(5, .int x20), (0, .int x16), (4, .int x17), (3, .int x16), (6, .int 0), (1, .int a1), (2, .ref (G.2.2 197))]) hx hb dJ6_getChars_ba4f3_57 hl (k := 0) rfl (by rw [ex20]; rfl) (by decide) rfl (fun ls hl => ?_)
          refine lv_iload hx hb dJ6_getChars_ba4f3_60 (lv_at hl 0 rfl) ?_
          refine r_gets S B F.ten.1 (by decide +kernel) dJ6_getChars_ba4f3_62 ?_
          refine lv_iload hx hb dJ6_getChars_ba4f3_65 (lv_at hl 2 rfl) ?_
          obtain ⟨hi, ho⟩ := gd_ ho
          refine r_tb S B F.ten.2 hi dJ6_getChars_ba4f3_67 ?_
          obtain ⟨hi, ho⟩ := gd_ ho
          refine r_bast S F B (kq (by decide) : kd 197 = 20 ∧ 197 < NN) (fun _ => rfl) hi dJ6_getChars_ba4f3_68 (fun H locs B => ?_)
          obtain ⟨σ21, eσ21, ho⟩ := lt_ ho
          rw [← eσ21] at B
          refine lv_goto (tgt := 22) hx hb dJ6_getChars_ba4f3_69 (by decide) ?_
          exact ih _ _ _ _ _ _ ho B (lv_sub hl [1, 4, 0, 5, 6] rfl)
    exact hloop22 8 _ _ _ _ _ _ ho B hl
  · have ho := in_ c1 ho
    refine lv_iconst (v := 1) hx hb dJ6_getChars_ba4f3_7 (by decide) ?_
    refine lv_goto (tgt := 12) hx hb dJ6_getChars_ba4f3_8 (by decide) ?_
    refine lv_istore (lv' := [(6, .int 1), (5, .int a1), (0, .int a0), (1, .int a1), (2, .ref (G.2.2 197))]) hx hb dJ6_getChars_ba4f3_12 hl (by decide) rfl (fun ls hl => ?_)
    refine lv_iload hx hb dJ6_getChars_ba4f3_14 (lv_at hl 0 rfl) ?_
    refine lv_if_ne (tgt := 22) hx hb dJ6_getChars_ba4f3_16 (by decide) (fun _ => ?_) (fun h => absurd h (by decide))
    obtain ⟨K, hK, ho⟩ := lt_ ho
    have hexit22 : ∀ (v22 : Int32) (v23 : Int32) (σ24 : Mm) (H : Heap) (locs : List Loc) (ls : Array Slot), K v22 v23 σ24 = some out → Bd G σ24 s H locs → lv_has ls 7 [(6, .int 1), (5, .int v22), (0, .int v23), (1, .int a1), (2, .ref (G.2.2 197))] → W p l e (headSpec wsJ6_getChars_ba4f3 { frames := 0, cells := 0, slots := 0, locals := 0 }).room s m #[.int a0, .int a1, .ref (G.2.2 197)] below meth c H locs 0 0 (MQ below (Qi G s.heap.size out.1 out.2) #[.int a0, .int a1, .ref (G.2.2 197)] s 0 0 (AA G s.heap.size)) (F0 m 72 ls []) := by
      intro v22 v23 σ24 H locs ls ho B hl
      subst hK
      refine lv_aload_n hx hb dJ6_getChars_ba4f3_72 rfl (lv_at hl 4 rfl) ?_
      obtain ⟨x26, ex26, ho⟩ := lt_ ho
      refine lv_iinc (v := x26) (lv' := [(5, .int x26), (6, .int 1), (0, .int v23), (1, .int a1), (2, .ref (G.2.2 197))]) hx hb dJ6_getChars_ba4f3_73 hl (k := 1) rfl (by rw [ex26]; rfl) (by decide) rfl (fun ls hl => ?_)
      refine lv_iload hx hb dJ6_getChars_ba4f3_76 (lv_at hl 0 rfl) ?_
      refine r_gets S B F.one.1 (by decide +kernel) dJ6_getChars_ba4f3_78 ?_
      refine lv_iload_n hx hb dJ6_getChars_ba4f3_81 rfl (lv_at hl 2 rfl) ?_
      refine lv_ineg hx hb dJ6_getChars_ba4f3_82 ?_
      obtain ⟨hi, ho⟩ := gd_ ho
      refine r_tb S B F.one.2 hi dJ6_getChars_ba4f3_83 ?_
      obtain ⟨hi, ho⟩ := gd_ ho
      refine r_bast S F B (kq (by decide) : kd 197 = 20 ∧ 197 < NN) (fun _ => rfl) hi dJ6_getChars_ba4f3_84 (fun H locs B => ?_)
      obtain ⟨σ27, eσ27, ho⟩ := lt_ ho
      rw [← eσ27] at B
      refine lv_iload_n hx hb dJ6_getChars_ba4f3_85 rfl (lv_at hl 2 rfl) ?_
      refine lv_bipush (v := (-9)) hx hb dJ6_getChars_ba4f3_86 (by decide) ?_
      refine lv_icmp_ge (tgt := 104) hx hb dJ6_getChars_ba4f3_88 (by decide) (fun c28 => ?_) (fun c28 => ?_)
      · have ho := ip_ c28 ho
        refine lv_iload hx hb dJ6_getChars_ba4f3_104 (lv_at hl 1 rfl) ?_
        refine lv_if_eq (tgt := 118) hx hb dJ6_getChars_ba4f3_106 (by decide) (fun h => absurd h (by decide)) (fun _ => ?_)
        refine lv_aload_n hx hb dJ6_getChars_ba4f3_109 rfl (lv_at hl 4 rfl) ?_
        obtain ⟨x29, ex29, ho⟩ := lt_ ho
        refine lv_iinc (v := x29) (lv' := [(5, .int x29), (6, .int 1), (0, .int v23), (1, .int a1), (2, .ref (G.2.2 197))]) hx hb dJ6_getChars_ba4f3_110 hl (k := 0) rfl (by rw [ex29]; rfl) (by decide) rfl (fun ls hl => ?_)
        refine lv_iload hx hb dJ6_getChars_ba4f3_113 (lv_at hl 0 rfl) ?_
        refine lv_bipush (v := 45) hx hb dJ6_getChars_ba4f3_115 (by decide) ?_
        obtain ⟨hi, ho⟩ := gd_ ho
        refine r_bast S F B (kq (by decide) : kd 197 = 20 ∧ 197 < NN) (fun _ => rfl) hi dJ6_getChars_ba4f3_117 (fun H locs B => ?_)
        obtain ⟨σ30, eσ30, ho⟩ := lt_ ho
        rw [← eσ30] at B
        refine lv_iload hx hb dJ6_getChars_ba4f3_118 (lv_at hl 0 rfl) ?_
        cases ho
        exact e_i B hx hb hr hlocks rfl rfl dJ6_getChars_ba4f3_120
      · have ho := in_ c28 ho
        refine lv_aload_n hx hb dJ6_getChars_ba4f3_91 rfl (lv_at hl 4 rfl) ?_
        obtain ⟨x31, ex31, ho⟩ := lt_ ho
        refine lv_iinc (v := x31) (lv' := [(5, .int x31), (6, .int 1), (0, .int v23), (1, .int a1), (2, .ref (G.2.2 197))]) hx hb dJ6_getChars_ba4f3_92 hl (k := 0) rfl (by rw [ex31]; rfl) (by decide) rfl (fun ls hl => ?_)
        refine lv_iload hx hb dJ6_getChars_ba4f3_95 (lv_at hl 0 rfl) ?_
        refine r_gets S B F.ten.1 (by decide +kernel) dJ6_getChars_ba4f3_97 ?_
        refine lv_iload_n hx hb dJ6_getChars_ba4f3_100 rfl (lv_at hl 2 rfl) ?_
        refine lv_ineg hx hb dJ6_getChars_ba4f3_101 ?_
        obtain ⟨hi, ho⟩ := gd_ ho
        refine r_tb S B F.ten.2 hi dJ6_getChars_ba4f3_102 ?_
        obtain ⟨hi, ho⟩ := gd_ ho
        refine r_bast S F B (kq (by decide) : kd 197 = 20 ∧ 197 < NN) (fun _ => rfl) hi dJ6_getChars_ba4f3_103 (fun H locs B => ?_)
        obtain ⟨σ32, eσ32, ho⟩ := lt_ ho
        rw [← eσ32] at B
        refine lv_iload hx hb dJ6_getChars_ba4f3_104 (lv_at hl 1 rfl) ?_
        refine lv_if_eq (tgt := 118) hx hb dJ6_getChars_ba4f3_106 (by decide) (fun h => absurd h (by decide)) (fun _ => ?_)
        refine lv_aload_n hx hb dJ6_getChars_ba4f3_109 rfl (lv_at hl 4 rfl) ?_
        obtain ⟨x33, ex33, ho⟩ := lt_ ho
        refine lv_iinc (v := x33) (lv' := [(5, .int x33), (6, .int 1), (0, .int v23), (1, .int a1), (2, .ref (G.2.2 197))]) hx hb dJ6_getChars_ba4f3_110 hl (k := 0) rfl (by rw [ex33]; rfl) (by decide) rfl (fun ls hl => ?_)
        refine lv_iload hx hb dJ6_getChars_ba4f3_113 (lv_at hl 0 rfl) ?_
        refine lv_bipush (v := 45) hx hb dJ6_getChars_ba4f3_115 (by decide) ?_
        obtain ⟨hi, ho⟩ := gd_ ho
        refine r_bast S F B (kq (by decide) : kd 197 = 20 ∧ 197 < NN) (fun _ => rfl) hi dJ6_getChars_ba4f3_117 (fun H locs B => ?_)
        obtain ⟨σ34, eσ34, ho⟩ := lt_ ho
        rw [← eσ34] at B
        refine lv_iload hx hb dJ6_getChars_ba4f3_118 (lv_at hl 0 rfl) ?_
        cases ho
        exact e_i B hx hb hr hlocks rfl rfl dJ6_getChars_ba4f3_120
    have hloop22 : ∀ (n : Nat) (v35 : Int32) (v36 : Int32) (σ37 : Mm) (H : Heap) (locs : List Loc) (ls : Array Slot), f_J6_getChars_ba4f3_l22b K a1 n v35 v36 σ37 = some out → Bd G σ37 s H locs → lv_has ls 7 [(6, .int 1), (5, .int v35), (0, .int v36), (1, .int a1), (2, .ref (G.2.2 197))] → W p l e (headSpec wsJ6_getChars_ba4f3 { frames := 0, cells := 0, slots := 0, locals := 0 }).room s m #[.int a0, .int a1, .ref (G.2.2 197)] below meth c H locs 0 0 (MQ below (Qi G s.heap.size out.1 out.2) #[.int a0, .int a1, .ref (G.2.2 197)] s 0 0 (AA G s.heap.size)) (F0 m 22 ls []) := by
      intro n
      induction n with
      | zero => intro v35 v36 σ37 H locs ls ho B hl; cases ho
      | succ n ih =>
        intro v35 v36 σ37 H locs ls ho B hl
        refine lv_iload_n hx hb dJ6_getChars_ba4f3_22 rfl (lv_at hl 2 rfl) ?_
        refine lv_bipush (v := (-100)) hx hb dJ6_getChars_ba4f3_23 (by decide) ?_
        refine lv_icmp_gt (tgt := 72) hx hb dJ6_getChars_ba4f3_25 (by decide) (fun c38 => ?_) (fun c38 => ?_)
        · have ho := ip_ c38 ho
          exact hexit22 _ _ _ _ _ _ ho B (lv_sub hl [0, 1, 2, 3, 4] rfl)
        · have ho := in_ c38 ho
          refine lv_iload_n hx hb dJ6_getChars_ba4f3_28 rfl (lv_at hl 2 rfl) ?_
          refine lv_bipush (v := 100) hx hb dJ6_getChars_ba4f3_29 (by decide) ?_
          refine lv_idiv hx hb dJ6_getChars_ba4f3_31 (by decide) ?_
          obtain ⟨x39, ex39, ho⟩ := lt_ ho
          refine lv_nm ex39 ?_
          refine lv_istore_n (lv' := [(3, .int x39), (6, .int 1), (5, .int v35), (0, .int v36), (1, .int a1), (2, .ref (G.2.2 197))]) hx hb dJ6_getChars_ba4f3_32 rfl hl (by decide) rfl (fun ls hl => ?_)
          refine lv_iload_n hx hb dJ6_getChars_ba4f3_33 rfl (lv_at hl 0 rfl) ?_
          refine lv_bipush (v := 100) hx hb dJ6_getChars_ba4f3_34 (by decide) ?_
          refine lv_imul hx hb dJ6_getChars_ba4f3_36 ?_
          refine lv_iload_n hx hb dJ6_getChars_ba4f3_37 rfl (lv_at hl 3 rfl) ?_
          refine lv_isub hx hb dJ6_getChars_ba4f3_38 ?_
          obtain ⟨x40, ex40, ho⟩ := lt_ ho
          refine lv_nm ex40 ?_
          refine lv_istore (lv' := [(4, .int x40), (3, .int x39), (6, .int 1), (5, .int v35), (0, .int v36), (1, .int a1), (2, .ref (G.2.2 197))]) hx hb dJ6_getChars_ba4f3_39 hl (by decide) rfl (fun ls hl => ?_)
          refine lv_iload_n hx hb dJ6_getChars_ba4f3_41 rfl (lv_at hl 1 rfl) ?_
          refine lv_istore_n (lv' := [(0, .int x39), (4, .int x40), (3, .int x39), (6, .int 1), (5, .int v35), (1, .int a1), (2, .ref (G.2.2 197))]) hx hb dJ6_getChars_ba4f3_42 rfl hl (by decide) rfl (fun ls hl => ?_)
          refine lv_aload_n hx hb dJ6_getChars_ba4f3_43 rfl (lv_at hl 6 rfl) ?_
          obtain ⟨x41, ex41, ho⟩ := lt_ ho
          refine lv_iinc (v := x41) (lv' := [(5, .int x41), (0, .int x39), (4, .int x40), (3, .int x39), (6, .int 1), (1, .int a1), (2, .ref (G.2.2 197))]) hx hb dJ6_getChars_ba4f3_44 hl (k := 4) rfl (by rw [ex41]; rfl) (by decide) rfl (fun ls hl => ?_)
          refine lv_iload hx hb dJ6_getChars_ba4f3_47 (lv_at hl 0 rfl) ?_
          refine r_gets S B F.one.1 (by decide +kernel) dJ6_getChars_ba4f3_49 ?_
          refine lv_iload hx hb dJ6_getChars_ba4f3_52 (lv_at hl 2 rfl) ?_
          obtain ⟨hi, ho⟩ := gd_ ho
          refine r_tb S B F.one.2 hi dJ6_getChars_ba4f3_54 ?_
          obtain ⟨hi, ho⟩ := gd_ ho
          refine r_bast S F B (kq (by decide) : kd 197 = 20 ∧ 197 < NN) (fun _ => rfl) hi dJ6_getChars_ba4f3_55 (fun H locs B => ?_)
          obtain ⟨σ42, eσ42, ho⟩ := lt_ ho
          rw [← eσ42] at B
          refine lv_aload_n hx hb dJ6_getChars_ba4f3_56 rfl (lv_at hl 6 rfl) ?_
          obtain ⟨x43, ex43, ho⟩ := lt_ ho
          refine lv_iinc (v := x43) (lv' := [(5, .int x43), (0, .int x39), (4, .int x40), (3, .int x39), (6, .int 1), (1, .int a1), (2, .ref (G.2.2 197))]) hx hb dJ6_getChars_ba4f3_57 hl (k := 0) rfl (by rw [ex43]; rfl) (by decide) rfl (fun ls hl => ?_)
          refine lv_iload hx hb dJ6_getChars_ba4f3_60 (lv_at hl 0 rfl) ?_
          refine r_gets S B F.ten.1 (by decide +kernel) dJ6_getChars_ba4f3_62 ?_
          refine lv_iload hx hb dJ6_getChars_ba4f3_65 (lv_at hl 2 rfl) ?_
          obtain ⟨hi, ho⟩ := gd_ ho
          refine r_tb S B F.ten.2 hi dJ6_getChars_ba4f3_67 ?_
          obtain ⟨hi, ho⟩ := gd_ ho
          refine r_bast S F B (kq (by decide) : kd 197 = 20 ∧ 197 < NN) (fun _ => rfl) hi dJ6_getChars_ba4f3_68 (fun H locs B => ?_)
          obtain ⟨σ44, eσ44, ho⟩ := lt_ ho
          rw [← eσ44] at B
          refine lv_goto (tgt := 22) hx hb dJ6_getChars_ba4f3_69 (by decide) ?_
          exact ih _ _ _ _ _ _ ho B (lv_sub hl [4, 0, 1, 5, 6] rfl)
    exact hloop22 8 _ _ _ _ _ _ ho B hl

set_option maxHeartbeats 4000000 in
set_option maxRecDepth 100000 in
theorem c_J5_append_c97b9 (l : Launch) (G : Gd) (σ : Mm) (sz : Nat) (a0 : Int32) {out : Mm} (ho : f_J5_append_c97b9 a0 σ = some out) : Met l yJ5_append_c97b9 wsJ5_append_c97b9 { frames := 1, cells := 0, slots := 0, locals := 26 } (va_Pc [.ref (G.2.2 196), .int a0] (PW G σ sz)) (Qq G sz (some 196) out) 0 0 (AA G sz) := by
  refine Met.ofW (cc := cJ5_append_c97b9) (maxL := 4) (ret := (some (.object "java/lang/AbstractStringBuilder"))) (by decide) rfl ?_
  intro p e s m args below meth c s₁ B0 hml hv
  obtain ⟨rfl, hpw⟩ := hv
  have hsz := hpw.1
  subst hsz
  obtain ⟨F, B⟩ := hpw.to
  have hx := B0.exec
  have hb := B0.bytes
  have hr := B0.returns
  have hts := atoms_spec (ws := wsJ5_append_c97b9) B0.pre
  have hown : s.vm.findClass RJ5 = some m.cls := findClass_of_methodNamed B0.named
  have hlocks := B0.notSynchronized
  have S : CallFix p m c cJ5_append_c97b9 4 s _ wsJ5_append_c97b9 RJ5 := ⟨hx, hb, hml, hown, hts⟩
  have hiJ4 : ∀ w ∈ u_ws RJ4 TJ4 4, w ∈ wsJ5_append_c97b9 := by decide +kernel
  have hl := lv_entry [.ref (G.2.2 196), .int a0] (n := 4) (Nat.le_of_ble_eq_true rfl)
  rw [lg_entry_eq]
  generalize (lg_sl [.ref (G.2.2 196), .int a0] ++ List.replicate (4 - (lg_sl [.ref (G.2.2 196), .int a0]).length) Slot.unset).toArray = ls at hl ⊢
  have hl : lv_has ls 4 [(0, .ref (G.2.2 196)), (1, .int a0)] := hl
  unfold f_J5_append_c97b9 at ho
  refine lv_aload_n hx hb dJ5_append_c97b9_0 rfl (lv_at hl 0 rfl) ?_
  refine r_get (ci := 1) (C := RJ4) (T := TJ4) (N := 4) S F B (kq (by decide) : kd 196 = 19 ∧ 196 < NN) rfl rfl hiJ4 3 (by decide) (by decide +kernel) rfl dJ5_append_c97b9_1 ?_
  obtain ⟨x1, ex1, ho⟩ := lt_ ho
  refine lv_nm ex1 ?_
  refine lv_istore_n (lv' := [(2, .int x1), (0, .ref (G.2.2 196)), (1, .int a0)]) hx hb dJ5_append_c97b9_4 rfl hl (by decide) rfl (fun ls hl => ?_)
  refine lv_iload_n hx hb dJ5_append_c97b9_5 rfl (lv_at hl 0 rfl) ?_
  refine lv_iload_n hx hb dJ5_append_c97b9_6 rfl (lv_at hl 2 rfl) ?_
  obtain ⟨q2, hq2, ho⟩ := bnd_ ho
  refine k_iS (As := [.int a0]) (rest := [.int x1]) S F B (c_J6_stringSize_0f7a4 l G σ _ a0 hq2) (va_cwS 1 hts gJ5_append_c97b9_J6_stringSize_0f7a4 rfl rfl rfl (by decide +kernel) ⟨Nat.le_of_ble_eq_true rfl, Nat.le_of_ble_eq_true rfl⟩) rfl hl.1 rfl (Nat.le_of_ble_eq_true rfl) dJ5_append_c97b9_7 ⟨Nat.le_of_ble_eq_true rfl, Nat.le_of_ble_eq_true rfl⟩ (fun H locs B => ?_)
  refine lv_iadd hx hb dJ5_append_c97b9_10 ?_
  obtain ⟨x3, ex3, ho⟩ := lt_ ho
  refine lv_nm ex3 ?_
  refine lv_istore_n (lv' := [(3, .int x3), (2, .int x1), (0, .ref (G.2.2 196)), (1, .int a0)]) hx hb dJ5_append_c97b9_11 rfl hl (by decide) rfl (fun ls hl => ?_)
  refine lv_aload_n hx hb dJ5_append_c97b9_12 rfl (lv_at hl 2 rfl) ?_
  refine lv_iload_n hx hb dJ5_append_c97b9_13 rfl (lv_at hl 0 rfl) ?_
  obtain ⟨q4, hq4, ho⟩ := bnd_ ho
  refine k_vU (As := [.int x3]) (rest := []) S F B (c_J5_ensureCapacityInternal_d00df l G σ _ x3 hq4) (kq (by decide) : kd 196 = 19 ∧ 196 < NN) rfl rfl (va_cwU 1 hts gJ5_append_c97b9_J5_ensureCapacityInternal_d00df_u100J4 rfl rfl rfl rfl (by decide +kernel) ⟨Nat.le_of_ble_eq_true rfl, Nat.le_of_ble_eq_true rfl⟩) rfl hl.1 rfl (Nat.le_of_ble_eq_true rfl) dJ5_append_c97b9_14 ⟨Nat.le_of_ble_eq_true rfl, Nat.le_of_ble_eq_true rfl⟩ (fun H locs B => ?_)
  refine lv_aload_n hx hb dJ5_append_c97b9_17 rfl (lv_at hl 2 rfl) ?_
  obtain ⟨q5, hq5, ho⟩ := bnd_ ho
  refine k_iU (As := []) (rest := []) S F B (c_J5_isLatin1_aae02 l G σ _ hq5) (kq (by decide) : kd 196 = 19 ∧ 196 < NN) rfl rfl (va_cwU 0 hts gJ5_append_c97b9_J5_isLatin1_aae02_u83J4 rfl rfl rfl rfl (by decide +kernel) ⟨Nat.le_of_ble_eq_true rfl, Nat.le_of_ble_eq_true rfl⟩) rfl hl.1 rfl (Nat.le_of_ble_eq_true rfl) dJ5_append_c97b9_18 ⟨Nat.le_of_ble_eq_true rfl, Nat.le_of_ble_eq_true rfl⟩ (fun H locs B => ?_)
  refine lv_if_eq (tgt := 37) hx hb dJ5_append_c97b9_21 (by decide) (fun c6 => ?_) (fun c6 => ?_)
  · have ho := ip_ c6 ho
    cases ho
  · have ho := in_ c6 ho
    refine lv_iload_n hx hb dJ5_append_c97b9_24 rfl (lv_at hl 3 rfl) ?_
    refine lv_iload_n hx hb dJ5_append_c97b9_25 rfl (lv_at hl 0 rfl) ?_
    refine lv_aload_n hx hb dJ5_append_c97b9_26 rfl (lv_at hl 2 rfl) ?_
    refine r_get (ci := 1) (C := RJ4) (T := TJ4) (N := 4) S F B (kq (by decide) : kd 196 = 19 ∧ 196 < NN) rfl rfl hiJ4 0 (by decide) (by decide +kernel) rfl dJ5_append_c97b9_27 ?_
    obtain ⟨q7, σ8, hq7, ho⟩ := bnm_ ho
    refine k_iS (As := [.int a0, .int x3, .ref (G.2.2 197)]) (rest := []) S F B (c_J6_getChars_ba4f3 l G σ _ a0 x3 hq7) (va_cwS 3 hts gJ5_append_c97b9_J6_getChars_ba4f3 rfl rfl rfl (by decide +kernel) ⟨Nat.le_of_ble_eq_true rfl, Nat.le_of_ble_eq_true rfl⟩) rfl hl.1 rfl (Nat.le_of_ble_eq_true rfl) dJ5_append_c97b9_30 ⟨Nat.le_of_ble_eq_true rfl, Nat.le_of_ble_eq_true rfl⟩ (fun H locs B => ?_)
    refine lv_pop hx hb dJ5_append_c97b9_33 rfl ?_
    refine lv_goto (tgt := 48) hx hb dJ5_append_c97b9_34 (by decide) ?_
    refine lv_aload_n hx hb dJ5_append_c97b9_48 rfl (lv_at hl 2 rfl) ?_
    refine lv_iload_n hx hb dJ5_append_c97b9_49 rfl (lv_at hl 0 rfl) ?_
    refine r_put (ci := 1) (C := RJ4) (T := TJ4) (N := 4) (ty := .int) S F B tyJ4 tyJ4_ok nmJ4 (kq (by decide) : kd 196 = 19 ∧ 196 < NN) (fun _ => rfl) rfl hiJ4 3 (by decide) (by decide +kernel) rfl rfl rfl rfl (fun _ => Nat.le_of_ble_eq_true rfl) (fun _ => rfl) dJ5_append_c97b9_50 (fun H locs B => ?_)
    obtain ⟨σ9, eσ9, ho⟩ := lt_ ho
    rw [← eσ9] at B
    refine lv_aload_n hx hb dJ5_append_c97b9_53 rfl (lv_at hl 2 rfl) ?_
    cases ho
    exact e_q (w := (some 196)) B hx hb hr (Or.inl ⟨_, rfl⟩) hlocks rfl dJ5_append_c97b9_54

set_option maxHeartbeats 4000000 in
set_option maxRecDepth 100000 in
theorem c_J5_inflateIfNeededFor_a7421 (l : Launch) (G : Gd) (σ : Mm) (sz : Nat) {out : Unit} (ho : f_J5_inflateIfNeededFor_a7421 σ = some out) : Met l yJ5_inflateIfNeededFor_a7421 wsJ5_inflateIfNeededFor_a7421 { frames := 1, cells := 0, slots := 0, locals := 20 } (va_Pc [.ref (G.2.2 196), .ref (G.2.2 425)] (PW G σ sz)) (Qv G sz σ) 0 0 (AA G sz) := by
  refine Met.ofW (cc := cJ5_inflateIfNeededFor_a7421) (maxL := 2) (ret := none) (by decide) rfl ?_
  intro p e s m args below meth c s₁ B0 hml hv
  obtain ⟨rfl, hpw⟩ := hv
  have hsz := hpw.1
  subst hsz
  obtain ⟨F, B⟩ := hpw.to
  have hx := B0.exec
  have hb := B0.bytes
  have hr := B0.returns
  have hts := atoms_spec (ws := wsJ5_inflateIfNeededFor_a7421) B0.pre
  have hown : s.vm.findClass RJ5 = some m.cls := findClass_of_methodNamed B0.named
  have hlocks := B0.notSynchronized
  have S : CallFix p m c cJ5_inflateIfNeededFor_a7421 2 s _ wsJ5_inflateIfNeededFor_a7421 RJ5 := ⟨hx, hb, hml, hown, hts⟩
  have hiJ4 : ∀ w ∈ u_ws RJ4 TJ4 4, w ∈ wsJ5_inflateIfNeededFor_a7421 := by decide +kernel
  have hl := lv_entry [.ref (G.2.2 196), .ref (G.2.2 425)] (n := 2) (Nat.le_of_ble_eq_true rfl)
  rw [lg_entry_eq]
  generalize (lg_sl [.ref (G.2.2 196), .ref (G.2.2 425)] ++ List.replicate (2 - (lg_sl [.ref (G.2.2 196), .ref (G.2.2 425)]).length) Slot.unset).toArray = ls at hl ⊢
  have hl : lv_has ls 2 [(0, .ref (G.2.2 196)), (1, .ref (G.2.2 425))] := hl
  unfold f_J5_inflateIfNeededFor_a7421 at ho
  refine r_gets S B F.cmp (by decide +kernel) dJ5_inflateIfNeededFor_a7421_0 ?_
  refine lv_if_eq (tgt := 21) hx hb dJ5_inflateIfNeededFor_a7421_3 (by decide) (fun h => absurd h (by decide)) (fun _ => ?_)
  refine lv_aload_n hx hb dJ5_inflateIfNeededFor_a7421_6 rfl (lv_at hl 0 rfl) ?_
  refine r_get (ci := 1) (C := RJ4) (T := TJ4) (N := 4) S F B (kq (by decide) : kd 196 = 19 ∧ 196 < NN) rfl rfl hiJ4 1 (by decide) (by decide +kernel) rfl dJ5_inflateIfNeededFor_a7421_7 ?_
  refine lv_aload_n hx hb dJ5_inflateIfNeededFor_a7421_10 rfl (lv_at hl 1 rfl) ?_
  obtain ⟨q1, hq1, ho⟩ := bnd_ ho
  refine k_iT (As := []) (rest := [.int (σ 196 1)]) S F B (c_J0_coder_7d493 l G σ _ 425 (isT_d (by decide)) hq1) (isT_d (by decide)) (cwV 0 hts gJ5_inflateIfNeededFor_a7421_J0_coder_7d493 rfl rfl rfl (by decide +kernel) ⟨Nat.le_of_ble_eq_true rfl, Nat.le_of_ble_eq_true rfl⟩) rfl hl.1 rfl (Nat.le_of_ble_eq_true rfl) dJ5_inflateIfNeededFor_a7421_11 ⟨Nat.le_of_ble_eq_true rfl, Nat.le_of_ble_eq_true rfl⟩ (fun H locs B => ?_)
  refine lv_icmp_eq (tgt := 21) hx hb dJ5_inflateIfNeededFor_a7421_14 (by decide) (fun c2 => ?_) (fun c2 => ?_)
  · have ho := ip_ c2 ho
    cases ho
    exact e_v B hx hb hr hlocks dJ5_inflateIfNeededFor_a7421_21
  · have ho := in_ c2 ho
    cases ho

set_option maxHeartbeats 4000000 in
set_option maxRecDepth 100000 in
theorem c_J0_getBytes_840e7 (l : Launch) (G : Gd) (σ : Mm) (sz : Nat) (a1 : Int32) (a2 : Int32) {out : Mm} (ho : f_J0_getBytes_840e7 a1 a2 σ = some out) : Met l yJ0_getBytes_840e7 wsJ0_getBytes_840e7 { frames := 1, cells := 0, slots := 0, locals := 40 } (va_Pc [.ref (G.2.2 425), .ref (G.2.2 197), .int a1, .int a2] (PW G σ sz)) (Qv G sz out) 0 0 (AA G sz) := by
  refine Met.ofW (cc := cJ0_getBytes_840e7) (maxL := 4) (ret := none) (by decide) rfl ?_
  intro p e s m args below meth c s₁ B0 hml hv
  obtain ⟨rfl, hpw⟩ := hv
  have hsz := hpw.1
  subst hsz
  obtain ⟨F, B⟩ := hpw.to
  have hx := B0.exec
  have hb := B0.bytes
  have hr := B0.returns
  have hts := atoms_spec (ws := wsJ0_getBytes_840e7) B0.pre
  have hown : s.vm.findClass RJ0 = some m.cls := findClass_of_methodNamed B0.named
  have hlocks := B0.notSynchronized
  have S : CallFix p m c cJ0_getBytes_840e7 4 s _ wsJ0_getBytes_840e7 RJ0 := ⟨hx, hb, hml, hown, hts⟩
  have hl := lv_entry [.ref (G.2.2 425), .ref (G.2.2 197), .int a1, .int a2] (n := 4) (Nat.le_of_ble_eq_true rfl)
  rw [lg_entry_eq]
  generalize (lg_sl [.ref (G.2.2 425), .ref (G.2.2 197), .int a1, .int a2] ++ List.replicate (4 - (lg_sl [.ref (G.2.2 425), .ref (G.2.2 197), .int a1, .int a2]).length) Slot.unset).toArray = ls at hl ⊢
  have hl : lv_has ls 4 [(0, .ref (G.2.2 425)), (1, .ref (G.2.2 197)), (2, .int a1), (3, .int a2)] := hl
  unfold f_J0_getBytes_840e7 at ho
  refine lv_aload_n hx hb dJ0_getBytes_840e7_0 rfl (lv_at hl 0 rfl) ?_
  obtain ⟨q1, hq1, ho⟩ := bnd_ ho
  refine k_iT (As := []) (rest := []) S F B (c_J0_coder_7d493 l G σ _ 425 (isT_d (by decide)) hq1) (isT_d (by decide)) (cwV 0 hts gJ0_getBytes_840e7_J0_coder_7d493 rfl rfl rfl (by decide +kernel) ⟨Nat.le_of_ble_eq_true rfl, Nat.le_of_ble_eq_true rfl⟩) rfl hl.1 rfl (Nat.le_of_ble_eq_true rfl) dJ0_getBytes_840e7_1 ⟨Nat.le_of_ble_eq_true rfl, Nat.le_of_ble_eq_true rfl⟩ (fun H locs B => ?_)
  refine lv_iload_n hx hb dJ0_getBytes_840e7_4 rfl (lv_at hl 3 rfl) ?_
  refine lv_icmp_ne (tgt := 28) hx hb dJ0_getBytes_840e7_5 (by decide) (fun c2 => ?_) (fun c2 => ?_)
  · have ho := in_ c2 ho
    cases ho
  · have ho := ip_ c2 ho
    refine lv_aload_n hx hb dJ0_getBytes_840e7_8 rfl (lv_at hl 0 rfl) ?_
    refine r_tval S F B (isT_d (by decide)) (by decide +kernel) dJ0_getBytes_840e7_9 ?_
    refine lv_iconst (v := 0) hx hb dJ0_getBytes_840e7_12 (by decide) ?_
    refine lv_aload_n hx hb dJ0_getBytes_840e7_13 rfl (lv_at hl 1 rfl) ?_
    refine lv_iload_n hx hb dJ0_getBytes_840e7_14 rfl (lv_at hl 2 rfl) ?_
    refine lv_iload_n hx hb dJ0_getBytes_840e7_15 rfl (lv_at hl 3 rfl) ?_
    refine lv_ishl hx hb dJ0_getBytes_840e7_16 ?_
    refine lv_aload_n hx hb dJ0_getBytes_840e7_17 rfl (lv_at hl 0 rfl) ?_
    refine r_tval S F B (isT_d (by decide)) (by decide +kernel) dJ0_getBytes_840e7_18 ?_
    refine r_tlen S F B (isT_d (by decide)) dJ0_getBytes_840e7_21 ?_
    obtain ⟨hc, ho⟩ := cg_ ho
    refine r_copyt (N9 := 3) S F B (isT_d (by decide)) (kq (by decide) : kd 197 = 20 ∧ 197 < NN) (fun _ => rfl) rfl (by decide) (by decide) (by decide) hc (by decide) (hml.trans hl.1.symm) (by decide +kernel) (by decide +kernel) (by decide +kernel) (by decide +kernel) (Nat.le_of_ble_eq_true rfl) (Nat.le_of_ble_eq_true rfl) dJ0_getBytes_840e7_22 (fun H locs B => ?_)
    obtain ⟨σ3, eσ3, ho⟩ := lt_ ho
    rw [← eσ3] at B
    refine lv_goto (tgt := 43) hx hb dJ0_getBytes_840e7_25 (by decide) ?_
    cases ho
    exact e_v B hx hb hr hlocks dJ0_getBytes_840e7_43

set_option maxHeartbeats 4000000 in
set_option maxRecDepth 100000 in
theorem c_J5_putStringAt_47b60 (l : Launch) (G : Gd) (σ : Mm) (sz : Nat) (a0 : Int32) {out : Mm} (ho : f_J5_putStringAt_47b60 a0 σ = some out) : Met l yJ5_putStringAt_47b60 wsJ5_putStringAt_47b60 { frames := 2, cells := 0, slots := 0, locals := 63 } (va_Pc [.ref (G.2.2 196), .int a0, .ref (G.2.2 425)] (PW G σ sz)) (Qv G sz out) 0 0 (AA G sz) := by
  refine Met.ofW (cc := cJ5_putStringAt_47b60) (maxL := 3) (ret := none) (by decide) rfl ?_
  intro p e s m args below meth c s₁ B0 hml hv
  obtain ⟨rfl, hpw⟩ := hv
  have hsz := hpw.1
  subst hsz
  obtain ⟨F, B⟩ := hpw.to
  have hx := B0.exec
  have hb := B0.bytes
  have hr := B0.returns
  have hts := atoms_spec (ws := wsJ5_putStringAt_47b60) B0.pre
  have hown : s.vm.findClass RJ5 = some m.cls := findClass_of_methodNamed B0.named
  have hlocks := B0.notSynchronized
  have S : CallFix p m c cJ5_putStringAt_47b60 3 s _ wsJ5_putStringAt_47b60 RJ5 := ⟨hx, hb, hml, hown, hts⟩
  have hiJ4 : ∀ w ∈ u_ws RJ4 TJ4 4, w ∈ wsJ5_putStringAt_47b60 := by decide +kernel
  have hl := lv_entry [.ref (G.2.2 196), .int a0, .ref (G.2.2 425)] (n := 3) (Nat.le_of_ble_eq_true rfl)
  rw [lg_entry_eq]
  generalize (lg_sl [.ref (G.2.2 196), .int a0, .ref (G.2.2 425)] ++ List.replicate (3 - (lg_sl [.ref (G.2.2 196), .int a0, .ref (G.2.2 425)]).length) Slot.unset).toArray = ls at hl ⊢
  have hl : lv_has ls 3 [(0, .ref (G.2.2 196)), (1, .int a0), (2, .ref (G.2.2 425))] := hl
  unfold f_J5_putStringAt_47b60 at ho
  refine lv_aload_n hx hb dJ5_putStringAt_47b60_0 rfl (lv_at hl 0 rfl) ?_
  refine lv_aload_n hx hb dJ5_putStringAt_47b60_1 rfl (lv_at hl 2 rfl) ?_
  obtain ⟨q1, hq1, ho⟩ := bnd_ ho
  refine k_vU (As := [.ref (G.2.2 425)]) (rest := []) S F B (c_J5_inflateIfNeededFor_a7421 l G σ _ hq1) (kq (by decide) : kd 196 = 19 ∧ 196 < NN) rfl rfl (va_cwU 1 hts gJ5_putStringAt_47b60_J5_inflateIfNeededFor_a7421_u397J4 rfl rfl rfl rfl (by decide +kernel) ⟨Nat.le_of_ble_eq_true rfl, Nat.le_of_ble_eq_true rfl⟩) rfl hl.1 rfl (Nat.le_of_ble_eq_true rfl) dJ5_putStringAt_47b60_2 ⟨Nat.le_of_ble_eq_true rfl, Nat.le_of_ble_eq_true rfl⟩ (fun H locs B => ?_)
  refine lv_aload_n hx hb dJ5_putStringAt_47b60_5 rfl (lv_at hl 2 rfl) ?_
  refine lv_aload_n hx hb dJ5_putStringAt_47b60_6 rfl (lv_at hl 0 rfl) ?_
  refine r_get (ci := 1) (C := RJ4) (T := TJ4) (N := 4) S F B (kq (by decide) : kd 196 = 19 ∧ 196 < NN) rfl rfl hiJ4 0 (by decide) (by decide +kernel) rfl dJ5_putStringAt_47b60_7 ?_
  refine lv_iload_n hx hb dJ5_putStringAt_47b60_10 rfl (lv_at hl 1 rfl) ?_
  refine lv_aload_n hx hb dJ5_putStringAt_47b60_11 rfl (lv_at hl 0 rfl) ?_
  refine r_get (ci := 1) (C := RJ4) (T := TJ4) (N := 4) S F B (kq (by decide) : kd 196 = 19 ∧ 196 < NN) rfl rfl hiJ4 1 (by decide) (by decide +kernel) rfl dJ5_putStringAt_47b60_12 ?_
  obtain ⟨σ3, hq2, ho⟩ := bnd_ ho
  refine k_vT (As := [.ref (G.2.2 197), .int a0, .int (σ 196 1)]) (rest := []) S F B (c_J0_getBytes_840e7 l G σ _ a0 (σ 196 1) hq2) (isT_d (by decide)) (cwV 3 hts gJ5_putStringAt_47b60_J0_getBytes_840e7 rfl rfl rfl (by decide +kernel) ⟨Nat.le_of_ble_eq_true rfl, Nat.le_of_ble_eq_true rfl⟩) rfl hl.1 rfl (Nat.le_of_ble_eq_true rfl) dJ5_putStringAt_47b60_15 ⟨Nat.le_of_ble_eq_true rfl, Nat.le_of_ble_eq_true rfl⟩ (fun H locs B => ?_)
  cases ho
  exact e_v B hx hb hr hlocks dJ5_putStringAt_47b60_18

set_option maxHeartbeats 4000000 in
set_option maxRecDepth 100000 in
theorem c_J5_append_cf1ce (l : Launch) (G : Gd) (σ : Mm) (sz : Nat) {out : Mm} (ho : f_J5_append_cf1ce σ = some out) : Met l yJ5_append_cf1ce wsJ5_append_cf1ce { frames := 3, cells := 0, slots := 0, locals := 85 } (va_Pc [.ref (G.2.2 196), .ref (G.2.2 425)] (PW G σ sz)) (Qq G sz (some 196) out) 0 0 (AA G sz) := by
  refine Met.ofW (cc := cJ5_append_cf1ce) (maxL := 3) (ret := (some (.object "java/lang/AbstractStringBuilder"))) (by decide) rfl ?_
  intro p e s m args below meth c s₁ B0 hml hv
  obtain ⟨rfl, hpw⟩ := hv
  have hsz := hpw.1
  subst hsz
  obtain ⟨F, B⟩ := hpw.to
  have hx := B0.exec
  have hb := B0.bytes
  have hr := B0.returns
  have hts := atoms_spec (ws := wsJ5_append_cf1ce) B0.pre
  have hown : s.vm.findClass RJ5 = some m.cls := findClass_of_methodNamed B0.named
  have hlocks := B0.notSynchronized
  have S : CallFix p m c cJ5_append_cf1ce 3 s _ wsJ5_append_cf1ce RJ5 := ⟨hx, hb, hml, hown, hts⟩
  have hiJ4 : ∀ w ∈ u_ws RJ4 TJ4 4, w ∈ wsJ5_append_cf1ce := by decide +kernel
  have hl := lv_entry [.ref (G.2.2 196), .ref (G.2.2 425)] (n := 3) (Nat.le_of_ble_eq_true rfl)
  rw [lg_entry_eq]
  generalize (lg_sl [.ref (G.2.2 196), .ref (G.2.2 425)] ++ List.replicate (3 - (lg_sl [.ref (G.2.2 196), .ref (G.2.2 425)]).length) Slot.unset).toArray = ls at hl ⊢
  have hl : lv_has ls 3 [(0, .ref (G.2.2 196)), (1, .ref (G.2.2 425))] := hl
  unfold f_J5_append_cf1ce at ho
  refine lv_aload_n hx hb dJ5_append_cf1ce_0 rfl (lv_at hl 1 rfl) ?_
  refine lv_ifnonnull (tgt := 9) hx hb dJ5_append_cf1ce_1 (by decide) ?_
  refine lv_aload_n hx hb dJ5_append_cf1ce_9 rfl (lv_at hl 1 rfl) ?_
  obtain ⟨q1, hq1, ho⟩ := bnd_ ho
  refine k_iT (As := []) (rest := []) S F B (c_J0_length_8abf5 l G σ _ 425 (isT_d (by decide)) hq1) (isT_d (by decide)) (cwV 0 hts gJ5_append_cf1ce_J0_length_8abf5 rfl rfl rfl (by decide +kernel) ⟨Nat.le_of_ble_eq_true rfl, Nat.le_of_ble_eq_true rfl⟩) rfl hl.1 rfl (Nat.le_of_ble_eq_true rfl) dJ5_append_cf1ce_10 ⟨Nat.le_of_ble_eq_true rfl, Nat.le_of_ble_eq_true rfl⟩ (fun H locs B => ?_)
  refine lv_istore_n (lv' := [(2, .int q1), (0, .ref (G.2.2 196)), (1, .ref (G.2.2 425))]) hx hb dJ5_append_cf1ce_13 rfl hl (by decide) rfl (fun ls hl => ?_)
  refine lv_aload_n hx hb dJ5_append_cf1ce_14 rfl (lv_at hl 1 rfl) ?_
  refine lv_aload_n hx hb dJ5_append_cf1ce_15 rfl (lv_at hl 1 rfl) ?_
  refine r_get (ci := 1) (C := RJ4) (T := TJ4) (N := 4) S F B (kq (by decide) : kd 196 = 19 ∧ 196 < NN) rfl rfl hiJ4 3 (by decide) (by decide +kernel) rfl dJ5_append_cf1ce_16 ?_
  refine lv_iload_n hx hb dJ5_append_cf1ce_19 rfl (lv_at hl 0 rfl) ?_
  refine lv_iadd hx hb dJ5_append_cf1ce_20 ?_
  obtain ⟨q2, hq2, ho⟩ := bnd_ ho
  refine k_vU (As := [.int ((σ 196 3) + q1)]) (rest := []) S F B (c_J5_ensureCapacityInternal_d00df l G σ _ ((σ 196 3) + q1) hq2) (kq (by decide) : kd 196 = 19 ∧ 196 < NN) rfl rfl (va_cwU 1 hts gJ5_append_cf1ce_J5_ensureCapacityInternal_d00df_u100J4 rfl rfl rfl rfl (by decide +kernel) ⟨Nat.le_of_ble_eq_true rfl, Nat.le_of_ble_eq_true rfl⟩) rfl hl.1 rfl (Nat.le_of_ble_eq_true rfl) dJ5_append_cf1ce_21 ⟨Nat.le_of_ble_eq_true rfl, Nat.le_of_ble_eq_true rfl⟩ (fun H locs B => ?_)
  refine lv_aload_n hx hb dJ5_append_cf1ce_24 rfl (lv_at hl 1 rfl) ?_
  refine lv_aload_n hx hb dJ5_append_cf1ce_25 rfl (lv_at hl 1 rfl) ?_
  refine r_get (ci := 1) (C := RJ4) (T := TJ4) (N := 4) S F B (kq (by decide) : kd 196 = 19 ∧ 196 < NN) rfl rfl hiJ4 3 (by decide) (by decide +kernel) rfl dJ5_append_cf1ce_26 ?_
  refine lv_aload_n hx hb dJ5_append_cf1ce_29 rfl (lv_at hl 2 rfl) ?_
  obtain ⟨σ4, hq3, ho⟩ := bnd_ ho
  refine k_vU (As := [.int (σ 196 3), .ref (G.2.2 425)]) (rest := []) S F B (c_J5_putStringAt_47b60 l G σ _ (σ 196 3) hq3) (kq (by decide) : kd 196 = 19 ∧ 196 < NN) rfl rfl (va_cwU 2 hts gJ5_append_cf1ce_J5_putStringAt_47b60_u208J4 rfl rfl rfl rfl (by decide +kernel) ⟨Nat.le_of_ble_eq_true rfl, Nat.le_of_ble_eq_true rfl⟩) rfl hl.1 rfl (Nat.le_of_ble_eq_true rfl) dJ5_append_cf1ce_30 ⟨Nat.le_of_ble_eq_true rfl, Nat.le_of_ble_eq_true rfl⟩ (fun H locs B => ?_)
  refine lv_aload_n hx hb dJ5_append_cf1ce_33 rfl (lv_at hl 1 rfl) ?_
  refine lv_dup hx hb dJ5_append_cf1ce_34 rfl ?_
  refine r_get (ci := 1) (C := RJ4) (T := TJ4) (N := 4) S F B (kq (by decide) : kd 196 = 19 ∧ 196 < NN) rfl rfl hiJ4 3 (by decide) (by decide +kernel) rfl dJ5_append_cf1ce_35 ?_
  refine lv_iload_n hx hb dJ5_append_cf1ce_38 rfl (lv_at hl 0 rfl) ?_
  refine lv_iadd hx hb dJ5_append_cf1ce_39 ?_
  refine r_put (ci := 1) (C := RJ4) (T := TJ4) (N := 4) (ty := .int) S F B tyJ4 tyJ4_ok nmJ4 (kq (by decide) : kd 196 = 19 ∧ 196 < NN) (fun _ => rfl) rfl hiJ4 3 (by decide) (by decide +kernel) rfl rfl rfl rfl (fun _ => Nat.le_of_ble_eq_true rfl) (fun _ => rfl) dJ5_append_cf1ce_40 (fun H locs B => ?_)
  obtain ⟨σ5, eσ5, ho⟩ := lt_ ho
  rw [← eσ5] at B
  refine lv_aload_n hx hb dJ5_append_cf1ce_43 rfl (lv_at hl 1 rfl) ?_
  cases ho
  exact e_q (w := (some 196)) B hx hb hr (Or.inl ⟨_, rfl⟩) hlocks rfl dJ5_append_cf1ce_44

set_option maxHeartbeats 4000000 in
set_option maxRecDepth 100000 in
theorem c_J5_charAt_5068e (l : Launch) (G : Gd) (σ : Mm) (sz : Nat) (a0 : Int32) {out : Int32} (ho : f_J5_charAt_5068e a0 σ = some out) : Met l yJ5_charAt_5068e wsJ5_charAt_5068e { frames := 2, cells := 0, slots := 0, locals := 43 } (va_Pc [.ref (G.2.2 196), .int a0] (PW G σ sz)) (Qi G sz out σ) 0 0 (AA G sz) := by
  refine Met.ofW (cc := cJ5_charAt_5068e) (maxL := 5) (ret := (some .char)) (by decide) rfl ?_
  intro p e s m args below meth c s₁ B0 hml hv
  obtain ⟨rfl, hpw⟩ := hv
  have hsz := hpw.1
  subst hsz
  obtain ⟨F, B⟩ := hpw.to
  have hx := B0.exec
  have hb := B0.bytes
  have hr := B0.returns
  have hts := atoms_spec (ws := wsJ5_charAt_5068e) B0.pre
  have hown : s.vm.findClass RJ5 = some m.cls := findClass_of_methodNamed B0.named
  have hlocks := B0.notSynchronized
  have S : CallFix p m c cJ5_charAt_5068e 5 s _ wsJ5_charAt_5068e RJ5 := ⟨hx, hb, hml, hown, hts⟩
  have hiJ4 : ∀ w ∈ u_ws RJ4 TJ4 4, w ∈ wsJ5_charAt_5068e := by decide +kernel
  have hl := lv_entry [.ref (G.2.2 196), .int a0] (n := 5) (Nat.le_of_ble_eq_true rfl)
  rw [lg_entry_eq]
  generalize (lg_sl [.ref (G.2.2 196), .int a0] ++ List.replicate (5 - (lg_sl [.ref (G.2.2 196), .int a0]).length) Slot.unset).toArray = ls at hl ⊢
  have hl : lv_has ls 5 [(0, .ref (G.2.2 196)), (1, .int a0)] := hl
  unfold f_J5_charAt_5068e at ho
  refine lv_aload_n hx hb dJ5_charAt_5068e_0 rfl (lv_at hl 0 rfl) ?_
  refine r_get (ci := 1) (C := RJ4) (T := TJ4) (N := 4) S F B (kq (by decide) : kd 196 = 19 ∧ 196 < NN) rfl rfl hiJ4 1 (by decide) (by decide +kernel) rfl dJ5_charAt_5068e_1 ?_
  obtain ⟨x1, ex1, ho⟩ := lt_ ho
  refine lv_nm ex1 ?_
  refine lv_istore_n (lv' := [(2, .int x1), (0, .ref (G.2.2 196)), (1, .int a0)]) hx hb dJ5_charAt_5068e_4 rfl hl (by decide) rfl (fun ls hl => ?_)
  refine lv_aload_n hx hb dJ5_charAt_5068e_5 rfl (lv_at hl 1 rfl) ?_
  refine r_get (ci := 1) (C := RJ4) (T := TJ4) (N := 4) S F B (kq (by decide) : kd 196 = 19 ∧ 196 < NN) rfl rfl hiJ4 0 (by decide) (by decide +kernel) rfl dJ5_charAt_5068e_6 ?_
  refine lv_astore_n (lv' := [(3, .ref (G.2.2 197)), (2, .int x1), (0, .ref (G.2.2 196)), (1, .int a0)]) hx hb dJ5_charAt_5068e_9 rfl hl (by decide) rfl (fun ls hl => ?_)
  refine lv_aload_n hx hb dJ5_charAt_5068e_10 rfl (lv_at hl 2 rfl) ?_
  refine r_get (ci := 1) (C := RJ4) (T := TJ4) (N := 4) S F B (kq (by decide) : kd 196 = 19 ∧ 196 < NN) rfl rfl hiJ4 3 (by decide) (by decide +kernel) rfl dJ5_charAt_5068e_11 ?_
  refine lv_aload_n hx hb dJ5_charAt_5068e_14 rfl (lv_at hl 0 rfl) ?_
  refine r_alen (t := 2) (v := 16) S F B (kq (by decide) : kd 197 = 20 ∧ 197 < NN) rfl rfl rfl dJ5_charAt_5068e_15 ?_
  refine lv_iload_n hx hb dJ5_charAt_5068e_16 rfl (lv_at hl 1 rfl) ?_
  refine lv_ishr hx hb dJ5_charAt_5068e_17 ?_
  refine va_mmin hx hb (hml.trans hl.1.symm) hown (hts _ (by decide +kernel)) (hts _ (by decide +kernel)) (hts _ (by decide +kernel)) (hts _ (by decide +kernel)) (Nat.le_of_ble_eq_true rfl) (Nat.le_of_ble_eq_true rfl) (Nat.le_of_ble_eq_true rfl) (Nat.le_of_ble_eq_true rfl) dJ5_charAt_5068e_18 ?_
  obtain ⟨x2, ex2, ho⟩ := lt_ ho
  refine lv_nm ex2 ?_
  refine lv_istore (lv' := [(4, .int x2), (3, .ref (G.2.2 197)), (2, .int x1), (0, .ref (G.2.2 196)), (1, .int a0)]) hx hb dJ5_charAt_5068e_21 hl (by decide) rfl (fun ls hl => ?_)
  refine lv_iload_n hx hb dJ5_charAt_5068e_23 rfl (lv_at hl 4 rfl) ?_
  refine lv_iload hx hb dJ5_charAt_5068e_24 (lv_at hl 0 rfl) ?_
  obtain ⟨q3, hq3, ho⟩ := bnd_ ho
  refine k_vS (As := [.int a0, .int x2]) (rest := []) S F B (c_J0_checkIndex_df160 l G σ _ a0 x2 hq3) (va_cwS 2 hts gJ5_charAt_5068e_J0_checkIndex_df160 rfl rfl rfl (by decide +kernel) ⟨Nat.le_of_ble_eq_true rfl, Nat.le_of_ble_eq_true rfl⟩) rfl hl.1 rfl (Nat.le_of_ble_eq_true rfl) dJ5_charAt_5068e_26 ⟨Nat.le_of_ble_eq_true rfl, Nat.le_of_ble_eq_true rfl⟩ (fun H locs B => ?_)
  refine lv_iload_n hx hb dJ5_charAt_5068e_29 rfl (lv_at hl 2 rfl) ?_
  refine lv_if_ne (tgt := 42) hx hb dJ5_charAt_5068e_30 (by decide) (fun c4 => ?_) (fun c4 => ?_)
  · have ho := in_ c4 ho
    cases ho
  · have ho := ip_ c4 ho
    refine lv_aload_n hx hb dJ5_charAt_5068e_33 rfl (lv_at hl 1 rfl) ?_
    refine lv_iload_n hx hb dJ5_charAt_5068e_34 rfl (lv_at hl 4 rfl) ?_
    obtain ⟨hi, ho⟩ := gd_ ho
    refine r_bald S F B (kq (by decide) : kd 197 = 20 ∧ 197 < NN) rfl hi dJ5_charAt_5068e_35 ?_
    refine lv_sipush (v := 255) hx hb dJ5_charAt_5068e_36 (by decide) ?_
    refine lv_iand hx hb dJ5_charAt_5068e_39 ?_
    refine lv_i2c hx hb dJ5_charAt_5068e_40 rfl ?_
    obtain ⟨hz, ho⟩ := cz_ ho
    cases ho
    exact e_i B hx hb hr hlocks hz rfl dJ5_charAt_5068e_41

set_option maxHeartbeats 4000000 in
set_option maxRecDepth 100000 in
theorem c_J4_append_15ec4 (l : Launch) (G : Gd) (σ : Mm) (sz : Nat) {out : Mm} (ho : f_J4_append_15ec4 σ = some out) : Met l yJ4_append_15ec4 wsJ4_append_15ec4 { frames := 4, cells := 0, slots := 0, locals := 107 } (va_Pc [.ref (G.2.2 196), .ref (G.2.2 425)] (PW G σ sz)) (Qq G sz (some 196) out) 0 0 (AA G sz) := by
  refine Met.ofW (cc := cJ4_append_15ec4) (maxL := 2) (ret := (some (.object "java/lang/StringBuilder"))) (by decide) rfl ?_
  intro p e s m args below meth c s₁ B0 hml hv
  obtain ⟨rfl, hpw⟩ := hv
  have hsz := hpw.1
  subst hsz
  obtain ⟨F, B⟩ := hpw.to
  have hx := B0.exec
  have hb := B0.bytes
  have hr := B0.returns
  have hts := atoms_spec (ws := wsJ4_append_15ec4) B0.pre
  have hown : s.vm.findClass RJ4 = some m.cls := findClass_of_methodNamed B0.named
  have hlocks := B0.notSynchronized
  have S : CallFix p m c cJ4_append_15ec4 2 s _ wsJ4_append_15ec4 RJ4 := ⟨hx, hb, hml, hown, hts⟩
  have hl := lv_entry [.ref (G.2.2 196), .ref (G.2.2 425)] (n := 2) (Nat.le_of_ble_eq_true rfl)
  rw [lg_entry_eq]
  generalize (lg_sl [.ref (G.2.2 196), .ref (G.2.2 425)] ++ List.replicate (2 - (lg_sl [.ref (G.2.2 196), .ref (G.2.2 425)]).length) Slot.unset).toArray = ls at hl ⊢
  have hl : lv_has ls 2 [(0, .ref (G.2.2 196)), (1, .ref (G.2.2 425))] := hl
  unfold f_J4_append_15ec4 at ho
  refine lv_aload_n hx hb dJ4_append_15ec4_0 rfl (lv_at hl 0 rfl) ?_
  refine lv_aload_n hx hb dJ4_append_15ec4_1 rfl (lv_at hl 1 rfl) ?_
  obtain ⟨σ2, hq1, ho⟩ := bnd_ ho
  refine k_qP (As := [.ref (G.2.2 425)]) (rest := []) S F B (c_J5_append_cf1ce l G σ _ hq1) (kq (by decide) : kd 196 = 19 ∧ 196 < NN) rfl rfl (va_cwSU 1 hts gJ4_append_15ec4_J5_append_cf1ce_s29 rfl rfl rfl (by decide +kernel) ⟨Nat.le_of_ble_eq_true rfl, Nat.le_of_ble_eq_true rfl⟩) rfl hl.1 rfl (Nat.le_of_ble_eq_true rfl) dJ4_append_15ec4_2 ⟨Nat.le_of_ble_eq_true rfl, Nat.le_of_ble_eq_true rfl⟩ (fun H locs B => ?_)
  refine lv_pop hx hb dJ4_append_15ec4_5 rfl ?_
  refine lv_aload_n hx hb dJ4_append_15ec4_6 rfl (lv_at hl 0 rfl) ?_
  cases ho
  exact e_q (w := (some 196)) B hx hb hr (Or.inl ⟨_, rfl⟩) hlocks rfl dJ4_append_15ec4_7

set_option maxHeartbeats 4000000 in
set_option maxRecDepth 100000 in
theorem c_J4_append_bf812 (l : Launch) (G : Gd) (σ : Mm) (sz : Nat) (a0 : Int32) {out : Mm} (ho : f_J4_append_bf812 a0 σ = some out) : Met l yJ4_append_bf812 wsJ4_append_bf812 { frames := 2, cells := 0, slots := 0, locals := 49 } (va_Pc [.ref (G.2.2 196), .int a0] (PW G σ sz)) (Qq G sz (some 196) out) 0 0 (AA G sz) := by
  refine Met.ofW (cc := cJ4_append_bf812) (maxL := 2) (ret := (some (.object "java/lang/StringBuilder"))) (by decide) rfl ?_
  intro p e s m args below meth c s₁ B0 hml hv
  obtain ⟨rfl, hpw⟩ := hv
  have hsz := hpw.1
  subst hsz
  obtain ⟨F, B⟩ := hpw.to
  have hx := B0.exec
  have hb := B0.bytes
  have hr := B0.returns
  have hts := atoms_spec (ws := wsJ4_append_bf812) B0.pre
  have hown : s.vm.findClass RJ4 = some m.cls := findClass_of_methodNamed B0.named
  have hlocks := B0.notSynchronized
  have S : CallFix p m c cJ4_append_bf812 2 s _ wsJ4_append_bf812 RJ4 := ⟨hx, hb, hml, hown, hts⟩
  have hl := lv_entry [.ref (G.2.2 196), .int a0] (n := 2) (Nat.le_of_ble_eq_true rfl)
  rw [lg_entry_eq]
  generalize (lg_sl [.ref (G.2.2 196), .int a0] ++ List.replicate (2 - (lg_sl [.ref (G.2.2 196), .int a0]).length) Slot.unset).toArray = ls at hl ⊢
  have hl : lv_has ls 2 [(0, .ref (G.2.2 196)), (1, .int a0)] := hl
  unfold f_J4_append_bf812 at ho
  refine lv_aload_n hx hb dJ4_append_bf812_0 rfl (lv_at hl 0 rfl) ?_
  refine lv_iload_n hx hb dJ4_append_bf812_1 rfl (lv_at hl 1 rfl) ?_
  obtain ⟨σ2, hq1, ho⟩ := bnd_ ho
  refine k_qP (As := [.int a0]) (rest := []) S F B (c_J5_append_c97b9 l G σ _ a0 hq1) (kq (by decide) : kd 196 = 19 ∧ 196 < NN) rfl rfl (va_cwSU 1 hts gJ4_append_bf812_J5_append_c97b9_s53 rfl rfl rfl (by decide +kernel) ⟨Nat.le_of_ble_eq_true rfl, Nat.le_of_ble_eq_true rfl⟩) rfl hl.1 rfl (Nat.le_of_ble_eq_true rfl) dJ4_append_bf812_2 ⟨Nat.le_of_ble_eq_true rfl, Nat.le_of_ble_eq_true rfl⟩ (fun H locs B => ?_)
  refine lv_pop hx hb dJ4_append_bf812_5 rfl ?_
  refine lv_aload_n hx hb dJ4_append_bf812_6 rfl (lv_at hl 0 rfl) ?_
  cases ho
  exact e_q (w := (some 196)) B hx hb hr (Or.inl ⟨_, rfl⟩) hlocks rfl dJ4_append_bf812_7

set_option maxHeartbeats 4000000 in
set_option maxRecDepth 100000 in
theorem c_J4_append_cf468 (l : Launch) (G : Gd) (σ : Mm) (sz : Nat) (a0 : Int32) {out : Mm} (ho : f_J4_append_cf468 a0 σ = some out) : Met l yJ4_append_cf468 wsJ4_append_cf468 { frames := 2, cells := 0, slots := 0, locals := 43 } (va_Pc [.ref (G.2.2 196), .int a0] (PW G σ sz)) (Qq G sz (some 196) out) 0 0 (AA G sz) := by
  refine Met.ofW (cc := cJ4_append_cf468) (maxL := 2) (ret := (some (.object "java/lang/StringBuilder"))) (by decide) rfl ?_
  intro p e s m args below meth c s₁ B0 hml hv
  obtain ⟨rfl, hpw⟩ := hv
  have hsz := hpw.1
  subst hsz
  obtain ⟨F, B⟩ := hpw.to
  have hx := B0.exec
  have hb := B0.bytes
  have hr := B0.returns
  have hts := atoms_spec (ws := wsJ4_append_cf468) B0.pre
  have hown : s.vm.findClass RJ4 = some m.cls := findClass_of_methodNamed B0.named
  have hlocks := B0.notSynchronized
  have S : CallFix p m c cJ4_append_cf468 2 s _ wsJ4_append_cf468 RJ4 := ⟨hx, hb, hml, hown, hts⟩
  have hl := lv_entry [.ref (G.2.2 196), .int a0] (n := 2) (Nat.le_of_ble_eq_true rfl)
  rw [lg_entry_eq]
  generalize (lg_sl [.ref (G.2.2 196), .int a0] ++ List.replicate (2 - (lg_sl [.ref (G.2.2 196), .int a0]).length) Slot.unset).toArray = ls at hl ⊢
  have hl : lv_has ls 2 [(0, .ref (G.2.2 196)), (1, .int a0)] := hl
  unfold f_J4_append_cf468 at ho
  refine lv_aload_n hx hb dJ4_append_cf468_0 rfl (lv_at hl 0 rfl) ?_
  refine lv_iload_n hx hb dJ4_append_cf468_1 rfl (lv_at hl 1 rfl) ?_
  obtain ⟨σ2, hq1, ho⟩ := bnd_ ho
  refine k_qP (As := [.int a0]) (rest := []) S F B (c_J5_append_3fe6f l G σ _ a0 hq1) (kq (by decide) : kd 196 = 19 ∧ 196 < NN) rfl rfl (va_cwSU 1 hts gJ4_append_cf468_J5_append_3fe6f_s50 rfl rfl rfl (by decide +kernel) ⟨Nat.le_of_ble_eq_true rfl, Nat.le_of_ble_eq_true rfl⟩) rfl hl.1 rfl (Nat.le_of_ble_eq_true rfl) dJ4_append_cf468_2 ⟨Nat.le_of_ble_eq_true rfl, Nat.le_of_ble_eq_true rfl⟩ (fun H locs B => ?_)
  refine lv_pop hx hb dJ4_append_cf468_5 rfl ?_
  refine lv_aload_n hx hb dJ4_append_cf468_6 rfl (lv_at hl 0 rfl) ?_
  cases ho
  exact e_q (w := (some 196)) B hx hb hr (Or.inl ⟨_, rfl⟩) hlocks rfl dJ4_append_cf468_7

set_option maxHeartbeats 4000000 in
set_option maxRecDepth 100000 in
theorem c_J4_charAt_5068e (l : Launch) (G : Gd) (σ : Mm) (sz : Nat) (a0 : Int32) {out : Int32} (ho : f_J4_charAt_5068e a0 σ = some out) : Met l yJ4_charAt_5068e wsJ4_charAt_5068e { frames := 3, cells := 0, slots := 0, locals := 67 } (va_Pc [.ref (G.2.2 196), .int a0] (PW G σ sz)) (Qi G sz out σ) 0 0 (AA G sz) := by
  refine Met.ofW (cc := cJ4_charAt_5068e) (maxL := 2) (ret := (some .char)) (by decide) rfl ?_
  intro p e s m args below meth c s₁ B0 hml hv
  obtain ⟨rfl, hpw⟩ := hv
  have hsz := hpw.1
  subst hsz
  obtain ⟨F, B⟩ := hpw.to
  have hx := B0.exec
  have hb := B0.bytes
  have hr := B0.returns
  have hts := atoms_spec (ws := wsJ4_charAt_5068e) B0.pre
  have hown : s.vm.findClass RJ4 = some m.cls := findClass_of_methodNamed B0.named
  have hlocks := B0.notSynchronized
  have S : CallFix p m c cJ4_charAt_5068e 2 s _ wsJ4_charAt_5068e RJ4 := ⟨hx, hb, hml, hown, hts⟩
  have hl := lv_entry [.ref (G.2.2 196), .int a0] (n := 2) (Nat.le_of_ble_eq_true rfl)
  rw [lg_entry_eq]
  generalize (lg_sl [.ref (G.2.2 196), .int a0] ++ List.replicate (2 - (lg_sl [.ref (G.2.2 196), .int a0]).length) Slot.unset).toArray = ls at hl ⊢
  have hl : lv_has ls 2 [(0, .ref (G.2.2 196)), (1, .int a0)] := hl
  unfold f_J4_charAt_5068e at ho
  refine lv_aload_n hx hb dJ4_charAt_5068e_0 rfl (lv_at hl 0 rfl) ?_
  refine lv_iload_n hx hb dJ4_charAt_5068e_1 rfl (lv_at hl 1 rfl) ?_
  obtain ⟨q1, hq1, ho⟩ := bnd_ ho
  refine k_iP (As := [.int a0]) (rest := []) S F B (c_J5_charAt_5068e l G σ _ a0 hq1) (kq (by decide) : kd 196 = 19 ∧ 196 < NN) rfl rfl (va_cwSU 1 hts gJ4_charAt_5068e_J5_charAt_5068e_s329 rfl rfl rfl (by decide +kernel) ⟨Nat.le_of_ble_eq_true rfl, Nat.le_of_ble_eq_true rfl⟩) rfl hl.1 rfl (Nat.le_of_ble_eq_true rfl) dJ4_charAt_5068e_2 ⟨Nat.le_of_ble_eq_true rfl, Nat.le_of_ble_eq_true rfl⟩ (fun H locs B => ?_)
  obtain ⟨hz, ho⟩ := cz_ ho
  cases ho
  exact e_i B hx hb hr hlocks hz rfl dJ4_charAt_5068e_5

set_option maxHeartbeats 4000000 in
set_option maxRecDepth 100000 in
theorem c_J4_length_8abf5 (l : Launch) (G : Gd) (σ : Mm) (sz : Nat) {out : Int32} (ho : f_J4_length_8abf5 σ = some out) : Met l yJ4_length_8abf5 wsJ4_length_8abf5 { frames := 1, cells := 0, slots := 0, locals := 20 } (va_Pc [.ref (G.2.2 196)] (PW G σ sz)) (Qi G sz out σ) 0 0 (AA G sz) := by
  refine Met.ofW (cc := cJ4_length_8abf5) (maxL := 1) (ret := (some .int)) (by decide) rfl ?_
  intro p e s m args below meth c s₁ B0 hml hv
  obtain ⟨rfl, hpw⟩ := hv
  have hsz := hpw.1
  subst hsz
  obtain ⟨F, B⟩ := hpw.to
  have hx := B0.exec
  have hb := B0.bytes
  have hr := B0.returns
  have hts := atoms_spec (ws := wsJ4_length_8abf5) B0.pre
  have hown : s.vm.findClass RJ4 = some m.cls := findClass_of_methodNamed B0.named
  have hlocks := B0.notSynchronized
  have S : CallFix p m c cJ4_length_8abf5 1 s _ wsJ4_length_8abf5 RJ4 := ⟨hx, hb, hml, hown, hts⟩
  have hl := lv_entry [.ref (G.2.2 196)] (n := 1) (Nat.le_of_ble_eq_true rfl)
  rw [lg_entry_eq]
  generalize (lg_sl [.ref (G.2.2 196)] ++ List.replicate (1 - (lg_sl [.ref (G.2.2 196)]).length) Slot.unset).toArray = ls at hl ⊢
  have hl : lv_has ls 1 [(0, .ref (G.2.2 196))] := hl
  unfold f_J4_length_8abf5 at ho
  refine lv_aload_n hx hb dJ4_length_8abf5_0 rfl (lv_at hl 0 rfl) ?_
  obtain ⟨q1, hq1, ho⟩ := bnd_ ho
  refine k_iP (As := []) (rest := []) S F B (c_J5_length_8abf5 l G σ _ hq1) (kq (by decide) : kd 196 = 19 ∧ 196 < NN) rfl rfl (va_cwSU 0 hts gJ4_length_8abf5_J5_length_8abf5_s343 rfl rfl rfl (by decide +kernel) ⟨Nat.le_of_ble_eq_true rfl, Nat.le_of_ble_eq_true rfl⟩) rfl hl.1 rfl (Nat.le_of_ble_eq_true rfl) dJ4_length_8abf5_1 ⟨Nat.le_of_ble_eq_true rfl, Nat.le_of_ble_eq_true rfl⟩ (fun H locs B => ?_)
  cases ho
  exact e_i B hx hb hr hlocks rfl rfl dJ4_length_8abf5_4

set_option maxHeartbeats 4000000 in
set_option maxRecDepth 100000 in
theorem c_J4_setLength_d00df (l : Launch) (G : Gd) (σ : Mm) (sz : Nat) (a0 : Int32) {out : Mm} (ho : f_J4_setLength_d00df a0 σ = some out) : Met l yJ4_setLength_d00df wsJ4_setLength_d00df { frames := 2, cells := 0, slots := 0, locals := 43 } (va_Pc [.ref (G.2.2 196), .int a0] (PW G σ sz)) (Qv G sz out) 0 0 (AA G sz) := by
  refine Met.ofW (cc := cJ4_setLength_d00df) (maxL := 2) (ret := none) (by decide) rfl ?_
  intro p e s m args below meth c s₁ B0 hml hv
  obtain ⟨rfl, hpw⟩ := hv
  have hsz := hpw.1
  subst hsz
  obtain ⟨F, B⟩ := hpw.to
  have hx := B0.exec
  have hb := B0.bytes
  have hr := B0.returns
  have hts := atoms_spec (ws := wsJ4_setLength_d00df) B0.pre
  have hown : s.vm.findClass RJ4 = some m.cls := findClass_of_methodNamed B0.named
  have hlocks := B0.notSynchronized
  have S : CallFix p m c cJ4_setLength_d00df 2 s _ wsJ4_setLength_d00df RJ4 := ⟨hx, hb, hml, hown, hts⟩
  have hl := lv_entry [.ref (G.2.2 196), .int a0] (n := 2) (Nat.le_of_ble_eq_true rfl)
  rw [lg_entry_eq]
  generalize (lg_sl [.ref (G.2.2 196), .int a0] ++ List.replicate (2 - (lg_sl [.ref (G.2.2 196), .int a0]).length) Slot.unset).toArray = ls at hl ⊢
  have hl : lv_has ls 2 [(0, .ref (G.2.2 196)), (1, .int a0)] := hl
  unfold f_J4_setLength_d00df at ho
  refine lv_aload_n hx hb dJ4_setLength_d00df_0 rfl (lv_at hl 0 rfl) ?_
  refine lv_iload_n hx hb dJ4_setLength_d00df_1 rfl (lv_at hl 1 rfl) ?_
  obtain ⟨σ2, hq1, ho⟩ := bnd_ ho
  refine k_vP (As := [.int a0]) (rest := []) S F B (c_J5_setLength_d00df l G σ _ a0 hq1) (kq (by decide) : kd 196 = 19 ∧ 196 < NN) rfl rfl (va_cwSU 1 hts gJ4_setLength_d00df_J5_setLength_d00df_s333 rfl rfl rfl (by decide +kernel) ⟨Nat.le_of_ble_eq_true rfl, Nat.le_of_ble_eq_true rfl⟩) rfl hl.1 rfl (Nat.le_of_ble_eq_true rfl) dJ4_setLength_d00df_2 ⟨Nat.le_of_ble_eq_true rfl, Nat.le_of_ble_eq_true rfl⟩ (fun H locs B => ?_)
  cases ho
  exact e_v B hx hb hr hlocks dJ4_setLength_d00df_5
