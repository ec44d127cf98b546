set_option maxHeartbeats 4000000 in
set_option maxRecDepth 100000 in
theorem c_X10_laysWays (l : Launch) (G : Gd) (σ : Mm) (sz : Nat) (a0 : Int32) (a1 : Int32) {out : Mm} (ho : f_X10_laysWays a0 a1 σ = some out) : Met l yX10_laysWays wsX10_laysWays { frames := 2, cells := 0, slots := 0, locals := 55 } (va_Pc [.ref (G.2.2 198), .int a0, .int a1] (PW G σ sz)) (Qv G sz out) 0 0 (AA G sz) := by
  refine Met.ofW (cc := cX10_laysWays) (maxL := 9) (ret := none) (by decide) rfl ?_
  intro p e s m args below meth c s₁ B0 hml hv
  obtain ⟨rfl, hpw⟩ := hv
  have hsz := hpw.1
  subst hsz
  obtain ⟨F, B⟩ := hpw.to
  have hx := B0.exec
  have hb := B0.bytes
  have hr := B0.returns
  have hts := atoms_spec (ws := wsX10_laysWays) B0.pre
  have hown : s.vm.findClass RX10 = some m.cls := findClass_of_methodNamed B0.named
  have hlocks := B0.notSynchronized
  have S : CallFix p m c cX10_laysWays 9 s _ wsX10_laysWays RX10 := ⟨hx, hb, hml, hown, hts⟩
  have hiX10 : ∀ w ∈ u_ws RX10 TX10 21, w ∈ wsX10_laysWays := by decide +kernel
  have hl := lv_entry [.ref (G.2.2 198), .int a0, .int a1] (n := 9) (Nat.le_of_ble_eq_true rfl)
  rw [lg_entry_eq]
  generalize (lg_sl [.ref (G.2.2 198), .int a0, .int a1] ++ List.replicate (9 - (lg_sl [.ref (G.2.2 198), .int a0, .int a1]).length) Slot.unset).toArray = ls at hl ⊢
  have hl : lv_has ls 9 [(0, .ref (G.2.2 198)), (1, .int a0), (2, .int a1)] := hl
  unfold f_X10_laysWays at ho
  skip
  refine lv_iconst (v := 0) hx hb dX10_laysWays_0 (by decide) ?_
  refine lv_istore_n (lv' := [(3, .int 0), (0, .ref (G.2.2 198)), (1, .int a0), (2, .int a1)]) hx hb dX10_laysWays_1 rfl hl (by decide) rfl (fun ls hl => ?_)
  obtain ⟨K, hK, ho⟩ := lt_ ho
  have hexit2 : ∀ (v1 : Int32) (σ2 : Mm) (H : Heap) (locs : List Loc) (ls : Array Slot), K v1 σ2 = some out → Bd G σ2 s H locs → lv_has ls 9 [(3, .int v1), (0, .ref (G.2.2 198)), (1, .int a0), (2, .int a1)] → W p l e (headSpec wsX10_laysWays { frames := 2, cells := 0, slots := 0, locals := 55 }).room s m #[.ref (G.2.2 198), .int a0, .int a1] below meth c H locs 0 0 (MQ below (Qv G s.heap.size out) #[.ref (G.2.2 198), .int a0, .int a1] s 0 0 (AA G s.heap.size)) (F0 m 31 ls []) := by
    intro v1 σ2 H locs ls ho B hl
    subst hK
    refine lv_iconst (v := 0) hx hb dX10_laysWays_31 (by decide) ?_
    refine lv_istore_n (lv' := [(3, .int 0), (0, .ref (G.2.2 198)), (1, .int a0), (2, .int a1)]) hx hb dX10_laysWays_32 rfl hl (by decide) rfl (fun ls hl => ?_)
    have hloop33 : ∀ (n : Nat) (v7 : Int32) (σ8 : Mm) (H : Heap) (locs : List Loc) (ls : Array Slot), f_X10_laysWays_l33  a0 a1 n v7 σ8 = some out → Bd G σ8 s H locs → lv_has ls 9 [(3, .int v7), (0, .ref (G.2.2 198)), (1, .int a0), (2, .int a1)] → W p l e (headSpec wsX10_laysWays { frames := 2, cells := 0, slots := 0, locals := 55 }).room s m #[.ref (G.2.2 198), .int a0, .int a1] below meth c H locs 0 0 (MQ below (Qv G s.heap.size out) #[.ref (G.2.2 198), .int a0, .int a1] s 0 0 (AA G s.heap.size)) (F0 m 33 ls []) := by
      intro n
      induction n with
      | zero => intro v7 σ8 H locs ls ho B hl; cases ho
      | succ n ih =>
        intro v7 σ8 H locs ls ho B hl
        refine lv_iload_n hx hb dX10_laysWays_33 rfl (lv_at hl 0 rfl) ?_
        refine lv_bipush (v := 16) hx hb dX10_laysWays_34 (by decide) ?_
        refine lv_icmp_ge (tgt := 175) hx hb dX10_laysWays_36 (by decide) (fun c9 => ?_) (fun c9 => ?_)
        · have ho := ip_ c9 ho
          cases ho
          exact e_v B hx hb hr hlocks dX10_laysWays_175
        · have ho := in_ c9 ho
          refine lv_iconst (v := 0) hx hb dX10_laysWays_39 (by decide) ?_
          refine lv_istore (lv' := [(4, .int 0), (3, .int v7), (0, .ref (G.2.2 198)), (1, .int a0), (2, .int a1)]) hx hb dX10_laysWays_40 hl (by decide) rfl (fun ls hl => ?_)
          obtain ⟨K, hK, ho⟩ := lt_ ho
          have hexit42 : ∀ (v10 : Int32) (σ11 : Mm) (H : Heap) (locs : List Loc) (ls : Array Slot), K v10 σ11 = some out → Bd G σ11 s H locs → lv_has ls 9 [(4, .int v10), (3, .int v7), (0, .ref (G.2.2 198)), (1, .int a0), (2, .int a1)] → W p l e (headSpec wsX10_laysWays { frames := 2, cells := 0, slots := 0, locals := 55 }).room s m #[.ref (G.2.2 198), .int a0, .int a1] below meth c H locs 0 0 (MQ below (Qv G s.heap.size out) #[.ref (G.2.2 198), .int a0, .int a1] s 0 0 (AA G s.heap.size)) (F0 m 169 ls []) := by
            intro v10 σ11 H locs ls ho B hl
            subst hK
            obtain ⟨x13, ex13, ho⟩ := lt_ ho
            refine lv_iinc (v := x13) (lv' := [(3, .int x13), (4, .int v10), (0, .ref (G.2.2 198)), (1, .int a0), (2, .int a1)]) hx hb dX10_laysWays_169 hl (k := 1) rfl (by rw [ex13]; rfl) (by decide) rfl (fun ls hl => ?_)
            refine lv_goto (tgt := 33) hx hb dX10_laysWays_172 (by decide) ?_
            exact ih _ _ _ _ _ ho B (lv_sub hl [0, 2, 3, 4] rfl)
          have hloop42 : ∀ (n : Nat) (v14 : Int32) (σ15 : Mm) (H : Heap) (locs : List Loc) (ls : Array Slot), f_X10_laysWays_l42 K v7 a0 a1 n v14 σ15 = some out → Bd G σ15 s H locs → lv_has ls 9 [(4, .int v14), (3, .int v7), (0, .ref (G.2.2 198)), (1, .int a0), (2, .int a1)] → W p l e (headSpec wsX10_laysWays { frames := 2, cells := 0, slots := 0, locals := 55 }).room s m #[.ref (G.2.2 198), .int a0, .int a1] below meth c H locs 0 0 (MQ below (Qv G s.heap.size out) #[.ref (G.2.2 198), .int a0, .int a1] s 0 0 (AA G s.heap.size)) (F0 m 42 ls []) := by
            intro n
            induction n with
            | zero => intro v14 σ15 H locs ls ho B hl; cases ho
            | succ n ih =>
              intro v14 σ15 H locs ls ho B hl
              refine lv_iload hx hb dX10_laysWays_42 (lv_at hl 0 rfl) ?_
              refine lv_bipush (v := 16) hx hb dX10_laysWays_44 (by decide) ?_
              refine lv_icmp_ge (tgt := 169) hx hb dX10_laysWays_46 (by decide) (fun c16 => ?_) (fun c16 => ?_)
              · have ho := ip_ c16 ho
                exact hexit42 _ _ _ _ _ ho B (lv_sub hl [0, 1, 2, 3, 4] rfl)
              · have ho := in_ c16 ho
                refine lv_iconst (v := 0) hx hb dX10_laysWays_49 (by decide) ?_
                refine lv_istore (lv' := [(5, .int 0), (4, .int v14), (3, .int v7), (0, .ref (G.2.2 198)), (1, .int a0), (2, .int a1)]) hx hb dX10_laysWays_50 hl (by decide) rfl (fun ls hl => ?_)
                obtain ⟨K, hK, ho⟩ := lt_ ho
                have hexit52 : ∀ (v17 : Int32) (σ18 : Mm) (H : Heap) (locs : List Loc) (ls : Array Slot), K v17 σ18 = some out → Bd G σ18 s H locs → lv_has ls 9 [(5, .int v17), (4, .int v14), (3, .int v7), (0, .ref (G.2.2 198)), (1, .int a0), (2, .int a1)] → W p l e (headSpec wsX10_laysWays { frames := 2, cells := 0, slots := 0, locals := 55 }).room s m #[.ref (G.2.2 198), .int a0, .int a1] below meth c H locs 0 0 (MQ below (Qv G s.heap.size out) #[.ref (G.2.2 198), .int a0, .int a1] s 0 0 (AA G s.heap.size)) (F0 m 163 ls []) := by
                  intro v17 σ18 H locs ls ho B hl
                  subst hK
                  obtain ⟨x20, ex20, ho⟩ := lt_ ho
                  refine lv_iinc (v := x20) (lv' := [(4, .int x20), (5, .int v17), (3, .int v7), (0, .ref (G.2.2 198)), (1, .int a0), (2, .int a1)]) hx hb dX10_laysWays_163 hl (k := 1) rfl (by rw [ex20]; rfl) (by decide) rfl (fun ls hl => ?_)
                  refine lv_goto (tgt := 42) hx hb dX10_laysWays_166 (by decide) ?_
                  exact ih _ _ _ _ _ ho B (lv_sub hl [0, 2, 3, 4, 5] rfl)
                have hloop52 : ∀ (n : Nat) (v21 : Int32) (σ22 : Mm) (H : Heap) (locs : List Loc) (ls : Array Slot), f_X10_laysWays_l52 K v14 v7 a0 a1 n v21 σ22 = some out → Bd G σ22 s H locs → lv_has ls 9 [(5, .int v21), (4, .int v14), (3, .int v7), (0, .ref (G.2.2 198)), (1, .int a0), (2, .int a1)] → W p l e (headSpec wsX10_laysWays { frames := 2, cells := 0, slots := 0, locals := 55 }).room s m #[.ref (G.2.2 198), .int a0, .int a1] below meth c H locs 0 0 (MQ below (Qv G s.heap.size out) #[.ref (G.2.2 198), .int a0, .int a1] s 0 0 (AA G s.heap.size)) (F0 m 52 ls []) := by
                  intro n
                  induction n with
                  | zero => intro v21 σ22 H locs ls ho B hl; cases ho
                  | succ n ih =>
                    intro v21 σ22 H locs ls ho B hl
                    refine lv_iload hx hb dX10_laysWays_52 (lv_at hl 0 rfl) ?_
                    refine lv_iconst (v := 4) hx hb dX10_laysWays_54 (by decide) ?_
                    refine lv_icmp_ge (tgt := 163) hx hb dX10_laysWays_55 (by decide) (fun c23 => ?_) (fun c23 => ?_)
                    · have ho := ip_ c23 ho
                      exact hexit52 _ _ _ _ _ ho B (lv_sub hl [0, 1, 2, 3, 4, 5] rfl)
                    · have ho := in_ c23 ho
                      refine lv_iload hx hb dX10_laysWays_58 (lv_at hl 1 rfl) ?_
                      refine lv_iload hx hb dX10_laysWays_60 (lv_at hl 0 rfl) ?_
                      obtain ⟨q24, hq24, ho⟩ := bnd_ ho
                      refine k_iS (As := [.int v14, .int v21]) (rest := []) S F B (c_X10_nextTo l G σ22 _ v14 v21 hq24) (va_cwS 2 hts gX10_laysWays_X10_nextTo rfl rfl rfl (by decide +kernel) ⟨Nat.le_of_ble_eq_true rfl, Nat.le_of_ble_eq_true rfl⟩) rfl hl.1 rfl (Nat.le_of_ble_eq_true rfl) dX10_laysWays_62 ⟨Nat.le_of_ble_eq_true rfl, Nat.le_of_ble_eq_true rfl⟩ (fun H locs B => ?_)
                      refine lv_istore (lv' := [(6, .int q24), (5, .int v21), (4, .int v14), (3, .int v7), (0, .ref (G.2.2 198)), (1, .int a0), (2, .int a1)]) hx hb dX10_laysWays_65 hl (by decide) rfl (fun ls hl => ?_)
                      refine lv_iload hx hb dX10_laysWays_67 (lv_at hl 0 rfl) ?_
                      refine lv_iconst (v := (-1)) hx hb dX10_laysWays_69 (by decide) ?_
                      refine lv_icmp_eq (tgt := 91) hx hb dX10_laysWays_70 (by decide) (fun c25 => ?_) (fun c25 => ?_)
                      · have ho := ip_ c25 ho
                        refine lv_iconst (v := 0) hx hb dX10_laysWays_91 (by decide) ?_
                        refine lv_istore (lv' := [(7, .int 0), (6, .int q24), (5, .int v21), (4, .int v14), (3, .int v7), (0, .ref (G.2.2 198)), (1, .int a0), (2, .int a1)]) hx hb dX10_laysWays_92 hl (by decide) rfl (fun ls hl => ?_)
                        refine lv_iload_n hx hb dX10_laysWays_94 rfl (lv_at hl 7 rfl) ?_
                        refine lv_if_eq (tgt := 111) hx hb dX10_laysWays_95 (by decide) (fun c26 => ?_) (fun c26 => ?_)
                        · have ho := ip_ c26 ho
                          refine lv_iload hx hb dX10_laysWays_111 (lv_at hl 0 rfl) ?_
                          refine lv_if_eq (tgt := 120) hx hb dX10_laysWays_113 (by decide) (fun _ => ?_) (fun h => absurd h (by decide))
                          refine lv_bipush (v := 99) hx hb dX10_laysWays_120 (by decide) ?_
                          refine lv_istore (lv' := [(8, .int 99), (7, .int 0), (6, .int q24), (5, .int v21), (4, .int v14), (3, .int v7), (0, .ref (G.2.2 198)), (1, .int a0), (2, .int a1)]) hx hb dX10_laysWays_122 hl (by decide) rfl (fun ls hl => ?_)
                          refine lv_iload hx hb dX10_laysWays_124 (lv_at hl 2 rfl) ?_
                          refine lv_iconst (v := (-1)) hx hb dX10_laysWays_126 (by decide) ?_
                          refine lv_icmp_eq (tgt := 157) hx hb dX10_laysWays_127 (by decide) (fun c27 => ?_) (fun c27 => ?_)
                          · have ho := ip_ c27 ho
                            obtain ⟨x28, ex28, ho⟩ := lt_ ho
                            refine lv_iinc (v := x28) (lv' := [(5, .int x28), (8, .int 99), (7, .int 0), (6, .int q24), (4, .int v14), (3, .int v7), (0, .ref (G.2.2 198)), (1, .int a0), (2, .int a1)]) hx hb dX10_laysWays_157 hl (k := 3) rfl (by rw [ex28]; rfl) (by decide) rfl (fun ls hl => ?_)
                            refine lv_goto (tgt := 52) hx hb dX10_laysWays_160 (by decide) ?_
                            exact ih _ _ _ _ _ ho B (lv_sub hl [0, 4, 5, 6, 7, 8] rfl)
                          · have ho := in_ c27 ho
                            refine lv_aload_n hx hb dX10_laysWays_130 rfl (lv_at hl 6 rfl) ?_
                            refine r_get (ci := 14) (C := RX10) (T := TX10) (N := 21) S F B (kq (by decide) : kd 198 = 21 ∧ 198 < NN) rfl rfl hiX10 13 (by decide) (by decide +kernel) rfl dX10_laysWays_131 ?_
                            refine lv_iload hx hb dX10_laysWays_134 (lv_at hl 2 rfl) ?_
                            refine lv_aload_n hx hb dX10_laysWays_136 rfl (lv_at hl 6 rfl) ?_
                            refine r_get (ci := 14) (C := RX10) (T := TX10) (N := 21) S F B (kq (by decide) : kd 198 = 21 ∧ 198 < NN) rfl rfl hiX10 13 (by decide) (by decide +kernel) rfl dX10_laysWays_137 ?_
                            refine lv_iload hx hb dX10_laysWays_140 (lv_at hl 2 rfl) ?_
                            obtain ⟨hi, ho⟩ := gd_ ho
                            refine r_iald S F B (kq (by decide) : kd 204 = 12 ∧ 204 < NN) rfl hi dX10_laysWays_142 ?_
                            refine lv_aload_n hx hb dX10_laysWays_143 rfl (lv_at hl 6 rfl) ?_
                            refine r_get (ci := 14) (C := RX10) (T := TX10) (N := 21) S F B (kq (by decide) : kd 198 = 21 ∧ 198 < NN) rfl rfl hiX10 13 (by decide) (by decide +kernel) rfl dX10_laysWays_144 ?_
                            refine lv_iload hx hb dX10_laysWays_147 (lv_at hl 4 rfl) ?_
                            obtain ⟨hi, ho⟩ := gd_ ho
                            refine r_iald S F B (kq (by decide) : kd 204 = 12 ∧ 204 < NN) rfl hi dX10_laysWays_149 ?_
                            refine lv_iload hx hb dX10_laysWays_150 (lv_at hl 0 rfl) ?_
                            refine lv_iadd hx hb dX10_laysWays_152 ?_
                            refine va_mmin hx hb (hml.trans hl.1.symm) hown (hts _ (by decide +kernel)) (hts _ (by decide +kernel)) (hts _ (by decide +kernel)) (hts _ (by decide +kernel)) (Nat.le_of_ble_eq_true rfl) (Nat.le_of_ble_eq_true rfl) (Nat.le_of_ble_eq_true rfl) (Nat.le_of_ble_eq_true rfl) dX10_laysWays_153 ?_
                            obtain ⟨hi, ho⟩ := gd_ ho
                            refine r_iast S F B (kq (by decide) : kd 204 = 12 ∧ 204 < NN) (fun _ => rfl) hi dX10_laysWays_156 (fun H locs B => ?_)
                            obtain ⟨σ29, eσ29, ho⟩ := lt_ ho
                            rw [← eσ29] at B
                            obtain ⟨x30, ex30, ho⟩ := lt_ ho
                            refine lv_iinc (v := x30) (lv' := [(5, .int x30), (8, .int 99), (7, .int 0), (6, .int q24), (4, .int v14), (3, .int v7), (0, .ref (G.2.2 198)), (1, .int a0), (2, .int a1)]) hx hb dX10_laysWays_157 hl (k := 3) rfl (by rw [ex30]; rfl) (by decide) rfl (fun ls hl => ?_)
                            refine lv_goto (tgt := 52) hx hb dX10_laysWays_160 (by decide) ?_
                            exact ih _ _ _ _ _ ho B (lv_sub hl [0, 4, 5, 6, 7, 8] rfl)
                        · have ho := in_ c26 ho
                          refine lv_iload hx hb dX10_laysWays_98 (lv_at hl 0 rfl) ?_
                          refine lv_if_eq (tgt := 107) hx hb dX10_laysWays_100 (by decide) (fun _ => ?_) (fun h => absurd h (by decide))
                          refine lv_iconst (v := 1) hx hb dX10_laysWays_107 (by decide) ?_
                          refine lv_goto (tgt := 122) hx hb dX10_laysWays_108 (by decide) ?_
                          refine lv_istore (lv' := [(8, .int 1), (7, .int 0), (6, .int q24), (5, .int v21), (4, .int v14), (3, .int v7), (0, .ref (G.2.2 198)), (1, .int a0), (2, .int a1)]) hx hb dX10_laysWays_122 hl (by decide) rfl (fun ls hl => ?_)
                          refine lv_iload hx hb dX10_laysWays_124 (lv_at hl 2 rfl) ?_
                          refine lv_iconst (v := (-1)) hx hb dX10_laysWays_126 (by decide) ?_
                          refine lv_icmp_eq (tgt := 157) hx hb dX10_laysWays_127 (by decide) (fun c31 => ?_) (fun c31 => ?_)
                          · have ho := ip_ c31 ho
                            obtain ⟨x32, ex32, ho⟩ := lt_ ho
                            refine lv_iinc (v := x32) (lv' := [(5, .int x32), (8, .int 1), (7, .int 0), (6, .int q24), (4, .int v14), (3, .int v7), (0, .ref (G.2.2 198)), (1, .int a0), (2, .int a1)]) hx hb dX10_laysWays_157 hl (k := 3) rfl (by rw [ex32]; rfl) (by decide) rfl (fun ls hl => ?_)
                            refine lv_goto (tgt := 52) hx hb dX10_laysWays_160 (by decide) ?_
                            exact ih _ _ _ _ _ ho B (lv_sub hl [0, 4, 5, 6, 7, 8] rfl)
                          · have ho := in_ c31 ho
                            refine lv_aload_n hx hb dX10_laysWays_130 rfl (lv_at hl 6 rfl) ?_
                            refine r_get (ci := 14) (C := RX10) (T := TX10) (N := 21) S F B (kq (by decide) : kd 198 = 21 ∧ 198 < NN) rfl rfl hiX10 13 (by decide) (by decide +kernel) rfl dX10_laysWays_131 ?_
                            refine lv_iload hx hb dX10_laysWays_134 (lv_at hl 2 rfl) ?_
                            refine lv_aload_n hx hb dX10_laysWays_136 rfl (lv_at hl 6 rfl) ?_
                            refine r_get (ci := 14) (C := RX10) (T := TX10) (N := 21) S F B (kq (by decide) : kd 198 = 21 ∧ 198 < NN) rfl rfl hiX10 13 (by decide) (by decide +kernel) rfl dX10_laysWays_137 ?_
                            refine lv_iload hx hb dX10_laysWays_140 (lv_at hl 2 rfl) ?_
                            obtain ⟨hi, ho⟩ := gd_ ho
                            refine r_iald S F B (kq (by decide) : kd 204 = 12 ∧ 204 < NN) rfl hi dX10_laysWays_142 ?_
                            refine lv_aload_n hx hb dX10_laysWays_143 rfl (lv_at hl 6 rfl) ?_
                            refine r_get (ci := 14) (C := RX10) (T := TX10) (N := 21) S F B (kq (by decide) : kd 198 = 21 ∧ 198 < NN) rfl rfl hiX10 13 (by decide) (by decide +kernel) rfl dX10_laysWays_144 ?_
                            refine lv_iload hx hb dX10_laysWays_147 (lv_at hl 4 rfl) ?_
                            obtain ⟨hi, ho⟩ := gd_ ho
                            refine r_iald S F B (kq (by decide) : kd 204 = 12 ∧ 204 < NN) rfl hi dX10_laysWays_149 ?_
                            refine lv_iload hx hb dX10_laysWays_150 (lv_at hl 0 rfl) ?_
                            refine lv_iadd hx hb dX10_laysWays_152 ?_
                            refine va_mmin hx hb (hml.trans hl.1.symm) hown (hts _ (by decide +kernel)) (hts _ (by decide +kernel)) (hts _ (by decide +kernel)) (hts _ (by decide +kernel)) (Nat.le_of_ble_eq_true rfl) (Nat.le_of_ble_eq_true rfl) (Nat.le_of_ble_eq_true rfl) (Nat.le_of_ble_eq_true rfl) dX10_laysWays_153 ?_
                            obtain ⟨hi, ho⟩ := gd_ ho
                            refine r_iast S F B (kq (by decide) : kd 204 = 12 ∧ 204 < NN) (fun _ => rfl) hi dX10_laysWays_156 (fun H locs B => ?_)
                            obtain ⟨σ33, eσ33, ho⟩ := lt_ ho
                            rw [← eσ33] at B
                            obtain ⟨x34, ex34, ho⟩ := lt_ ho
                            refine lv_iinc (v := x34) (lv' := [(5, .int x34), (8, .int 1), (7, .int 0), (6, .int q24), (4, .int v14), (3, .int v7), (0, .ref (G.2.2 198)), (1, .int a0), (2, .int a1)]) hx hb dX10_laysWays_157 hl (k := 3) rfl (by rw [ex34]; rfl) (by decide) rfl (fun ls hl => ?_)
                            refine lv_goto (tgt := 52) hx hb dX10_laysWays_160 (by decide) ?_
                            exact ih _ _ _ _ _ ho B (lv_sub hl [0, 4, 5, 6, 7, 8] rfl)
                      · have ho := in_ c25 ho
                        refine lv_aload_n hx hb dX10_laysWays_73 rfl (lv_at hl 4 rfl) ?_
                        refine lv_iload hx hb dX10_laysWays_74 (lv_at hl 2 rfl) ?_
                        refine lv_iload hx hb dX10_laysWays_76 (lv_at hl 0 rfl) ?_
                        obtain ⟨q35, hq35, ho⟩ := bnd_ ho
                        refine k_iS (As := [.int v14, .int q24]) (rest := [.ref (G.2.2 198)]) S F B (c_X10_hedgeAt l G σ22 _ v14 q24 hq35) (va_cwS 2 hts gX10_laysWays_X10_hedgeAt rfl rfl rfl (by decide +kernel) ⟨Nat.le_of_ble_eq_true rfl, Nat.le_of_ble_eq_true rfl⟩) rfl hl.1 rfl (Nat.le_of_ble_eq_true rfl) dX10_laysWays_78 ⟨Nat.le_of_ble_eq_true rfl, Nat.le_of_ble_eq_true rfl⟩ (fun H locs B => ?_)
                        obtain ⟨q36, hq36, ho⟩ := bnd_ ho
                        refine k_iV (As := [.int q35]) (rest := []) S F B (c_X10_isGapAt l G σ22 _ q35 hq36) (kq (by decide) : kd 198 = 21 ∧ 198 < NN) rfl rfl (cwV 1 hts gX10_laysWays_X10_isGapAt rfl rfl rfl (by decide +kernel) ⟨Nat.le_of_ble_eq_true rfl, Nat.le_of_ble_eq_true rfl⟩) rfl hl.1 rfl (Nat.le_of_ble_eq_true rfl) dX10_laysWays_81 ⟨Nat.le_of_ble_eq_true rfl, Nat.le_of_ble_eq_true rfl⟩ (fun H locs B => ?_)
                        refine lv_if_eq (tgt := 91) hx hb dX10_laysWays_84 (by decide) (fun c37 => ?_) (fun c37 => ?_)
                        · have ho := ip_ c37 ho
                          refine lv_iconst (v := 0) hx hb dX10_laysWays_91 (by decide) ?_
                          refine lv_istore (lv' := [(7, .int 0), (6, .int q24), (5, .int v21), (4, .int v14), (3, .int v7), (0, .ref (G.2.2 198)), (1, .int a0), (2, .int a1)]) hx hb dX10_laysWays_92 hl (by decide) rfl (fun ls hl => ?_)
                          refine lv_iload_n hx hb dX10_laysWays_94 rfl (lv_at hl 7 rfl) ?_
                          refine lv_if_eq (tgt := 111) hx hb dX10_laysWays_95 (by decide) (fun c38 => ?_) (fun c38 => ?_)
                          · have ho := ip_ c38 ho
                            refine lv_iload hx hb dX10_laysWays_111 (lv_at hl 0 rfl) ?_
                            refine lv_if_eq (tgt := 120) hx hb dX10_laysWays_113 (by decide) (fun _ => ?_) (fun h => absurd h (by decide))
                            refine lv_bipush (v := 99) hx hb dX10_laysWays_120 (by decide) ?_
                            refine lv_istore (lv' := [(8, .int 99), (7, .int 0), (6, .int q24), (5, .int v21), (4, .int v14), (3, .int v7), (0, .ref (G.2.2 198)), (1, .int a0), (2, .int a1)]) hx hb dX10_laysWays_122 hl (by decide) rfl (fun ls hl => ?_)
                            refine lv_iload hx hb dX10_laysWays_124 (lv_at hl 2 rfl) ?_
                            refine lv_iconst (v := (-1)) hx hb dX10_laysWays_126 (by decide) ?_
                            refine lv_icmp_eq (tgt := 157) hx hb dX10_laysWays_127 (by decide) (fun c39 => ?_) (fun c39 => ?_)
                            · have ho := ip_ c39 ho
                              obtain ⟨x40, ex40, ho⟩ := lt_ ho
                              refine lv_iinc (v := x40) (lv' := [(5, .int x40), (8, .int 99), (7, .int 0), (6, .int q24), (4, .int v14), (3, .int v7), (0, .ref (G.2.2 198)), (1, .int a0), (2, .int a1)]) hx hb dX10_laysWays_157 hl (k := 3) rfl (by rw [ex40]; rfl) (by decide) rfl (fun ls hl => ?_)
                              refine lv_goto (tgt := 52) hx hb dX10_laysWays_160 (by decide) ?_
                              exact ih _ _ _ _ _ ho B (lv_sub hl [0, 4, 5, 6, 7, 8] rfl)
                            · have ho := in_ c39 ho
                              refine lv_aload_n hx hb dX10_laysWays_130 rfl (lv_at hl 6 rfl) ?_
                              refine r_get (ci := 14) (C := RX10) (T := TX10) (N := 21) S F B (kq (by decide) : kd 198 = 21 ∧ 198 < NN) rfl rfl hiX10 13 (by decide) (by decide +kernel) rfl dX10_laysWays_131 ?_
                              refine lv_iload hx hb dX10_laysWays_134 (lv_at hl 2 rfl) ?_
                              refine lv_aload_n hx hb dX10_laysWays_136 rfl (lv_at hl 6 rfl) ?_
                              refine r_get (ci := 14) (C := RX10) (T := TX10) (N := 21) S F B (kq (by decide) : kd 198 = 21 ∧ 198 < NN) rfl rfl hiX10 13 (by decide) (by decide +kernel) rfl dX10_laysWays_137 ?_
                              refine lv_iload hx hb dX10_laysWays_140 (lv_at hl 2 rfl) ?_
                              obtain ⟨hi, ho⟩ := gd_ ho
                              refine r_iald S F B (kq (by decide) : kd 204 = 12 ∧ 204 < NN) rfl hi dX10_laysWays_142 ?_
                              refine lv_aload_n hx hb dX10_laysWays_143 rfl (lv_at hl 6 rfl) ?_
                              refine r_get (ci := 14) (C := RX10) (T := TX10) (N := 21) S F B (kq (by decide) : kd 198 = 21 ∧ 198 < NN) rfl rfl hiX10 13 (by decide) (by decide +kernel) rfl dX10_laysWays_144 ?_
                              refine lv_iload hx hb dX10_laysWays_147 (lv_at hl 4 rfl) ?_
                              obtain ⟨hi, ho⟩ := gd_ ho
                              refine r_iald S F B (kq (by decide) : kd 204 = 12 ∧ 204 < NN) rfl hi dX10_laysWays_149 ?_
                              refine lv_iload hx hb dX10_laysWays_150 (lv_at hl 0 rfl) ?_
                              refine lv_iadd hx hb dX10_laysWays_152 ?_
                              refine va_mmin hx hb (hml.trans hl.1.symm) hown (hts _ (by decide +kernel)) (hts _ (by decide +kernel)) (hts _ (by decide +kernel)) (hts _ (by decide +kernel)) (Nat.le_of_ble_eq_true rfl) (Nat.le_of_ble_eq_true rfl) (Nat.le_of_ble_eq_true rfl) (Nat.le_of_ble_eq_true rfl) dX10_laysWays_153 ?_
                              obtain ⟨hi, ho⟩ := gd_ ho
                              refine r_iast S F B (kq (by decide) : kd 204 = 12 ∧ 204 < NN) (fun _ => rfl) hi dX10_laysWays_156 (fun H locs B => ?_)
                              obtain ⟨σ41, eσ41, ho⟩ := lt_ ho
                              rw [← eσ41] at B
                              obtain ⟨x42, ex42, ho⟩ := lt_ ho
                              refine lv_iinc (v := x42) (lv' := [(5, .int x42), (8, .int 99), (7, .int 0), (6, .int q24), (4, .int v14), (3, .int v7), (0, .ref (G.2.2 198)), (1, .int a0), (2, .int a1)]) hx hb dX10_laysWays_157 hl (k := 3) rfl (by rw [ex42]; rfl) (by decide) rfl (fun ls hl => ?_)
                              refine lv_goto (tgt := 52) hx hb dX10_laysWays_160 (by decide) ?_
                              exact ih _ _ _ _ _ ho B (lv_sub hl [0, 4, 5, 6, 7, 8] rfl)
                          · have ho := in_ c38 ho
                            refine lv_iload hx hb dX10_laysWays_98 (lv_at hl 0 rfl) ?_
                            refine lv_if_eq (tgt := 107) hx hb dX10_laysWays_100 (by decide) (fun _ => ?_) (fun h => absurd h (by decide))
                            refine lv_iconst (v := 1) hx hb dX10_laysWays_107 (by decide) ?_
                            refine lv_goto (tgt := 122) hx hb dX10_laysWays_108 (by decide) ?_
                            refine lv_istore (lv' := [(8, .int 1), (7, .int 0), (6, .int q24), (5, .int v21), (4, .int v14), (3, .int v7), (0, .ref (G.2.2 198)), (1, .int a0), (2, .int a1)]) hx hb dX10_laysWays_122 hl (by decide) rfl (fun ls hl => ?_)
                            refine lv_iload hx hb dX10_laysWays_124 (lv_at hl 2 rfl) ?_
                            refine lv_iconst (v := (-1)) hx hb dX10_laysWays_126 (by decide) ?_
                            refine lv_icmp_eq (tgt := 157) hx hb dX10_laysWays_127 (by decide) (fun c43 => ?_) (fun c43 => ?_)
                            · have ho := ip_ c43 ho
                              obtain ⟨x44, ex44, ho⟩ := lt_ ho
                              refine lv_iinc (v := x44) (lv' := [(5, .int x44), (8, .int 1), (7, .int 0), (6, .int q24), (4, .int v14), (3, .int v7), (0, .ref (G.2.2 198)), (1, .int a0), (2, .int a1)]) hx hb dX10_laysWays_157 hl (k := 3) rfl (by rw [ex44]; rfl) (by decide) rfl (fun ls hl => ?_)
                              refine lv_goto (tgt := 52) hx hb dX10_laysWays_160 (by decide) ?_
                              exact ih _ _ _ _ _ ho B (lv_sub hl [0, 4, 5, 6, 7, 8] rfl)
                            · have ho := in_ c43 ho
                              refine lv_aload_n hx hb dX10_laysWays_130 rfl (lv_at hl 6 rfl) ?_
                              refine r_get (ci := 14) (C := RX10) (T := TX10) (N := 21) S F B (kq (by decide) : kd 198 = 21 ∧ 198 < NN) rfl rfl hiX10 13 (by decide) (by decide +kernel) rfl dX10_laysWays_131 ?_
                              refine lv_iload hx hb dX10_laysWays_134 (lv_at hl 2 rfl) ?_
                              refine lv_aload_n hx hb dX10_laysWays_136 rfl (lv_at hl 6 rfl) ?_
                              refine r_get (ci := 14) (C := RX10) (T := TX10) (N := 21) S F B (kq (by decide) : kd 198 = 21 ∧ 198 < NN) rfl rfl hiX10 13 (by decide) (by decide +kernel) rfl dX10_laysWays_137 ?_
                              refine lv_iload hx hb dX10_laysWays_140 (lv_at hl 2 rfl) ?_
                              obtain ⟨hi, ho⟩ := gd_ ho
                              refine r_iald S F B (kq (by decide) : kd 204 = 12 ∧ 204 < NN) rfl hi dX10_laysWays_142 ?_
                              refine lv_aload_n hx hb dX10_laysWays_143 rfl (lv_at hl 6 rfl) ?_
                              refine r_get (ci := 14) (C := RX10) (T := TX10) (N := 21) S F B (kq (by decide) : kd 198 = 21 ∧ 198 < NN) rfl rfl hiX10 13 (by decide) (by decide +kernel) rfl dX10_laysWays_144 ?_
                              refine lv_iload hx hb dX10_laysWays_147 (lv_at hl 4 rfl) ?_
                              obtain ⟨hi, ho⟩ := gd_ ho
                              refine r_iald S F B (kq (by decide) : kd 204 = 12 ∧ 204 < NN) rfl hi dX10_laysWays_149 ?_
                              refine lv_iload hx hb dX10_laysWays_150 (lv_at hl 0 rfl) ?_
                              refine lv_iadd hx hb dX10_laysWays_152 ?_
                              refine va_mmin hx hb (hml.trans hl.1.symm) hown (hts _ (by decide +kernel)) (hts _ (by decide +kernel)) (hts _ (by decide +kernel)) (hts _ (by decide +kernel)) (Nat.le_of_ble_eq_true rfl) (Nat.le_of_ble_eq_true rfl) (Nat.le_of_ble_eq_true rfl) (Nat.le_of_ble_eq_true rfl) dX10_laysWays_153 ?_
                              obtain ⟨hi, ho⟩ := gd_ ho
                              refine r_iast S F B (kq (by decide) : kd 204 = 12 ∧ 204 < NN) (fun _ => rfl) hi dX10_laysWays_156 (fun H locs B => ?_)
                              obtain ⟨σ45, eσ45, ho⟩ := lt_ ho
                              rw [← eσ45] at B
                              obtain ⟨x46, ex46, ho⟩ := lt_ ho
                              refine lv_iinc (v := x46) (lv' := [(5, .int x46), (8, .int 1), (7, .int 0), (6, .int q24), (4, .int v14), (3, .int v7), (0, .ref (G.2.2 198)), (1, .int a0), (2, .int a1)]) hx hb dX10_laysWays_157 hl (k := 3) rfl (by rw [ex46]; rfl) (by decide) rfl (fun ls hl => ?_)
                              refine lv_goto (tgt := 52) hx hb dX10_laysWays_160 (by decide) ?_
                              exact ih _ _ _ _ _ ho B (lv_sub hl [0, 4, 5, 6, 7, 8] rfl)
                        · have ho := in_ c37 ho
                          refine lv_iconst (v := 1) hx hb dX10_laysWays_87 (by decide) ?_
                          refine lv_goto (tgt := 92) hx hb dX10_laysWays_88 (by decide) ?_
                          refine lv_istore (lv' := [(7, .int 1), (6, .int q24), (5, .int v21), (4, .int v14), (3, .int v7), (0, .ref (G.2.2 198)), (1, .int a0), (2, .int a1)]) hx hb dX10_laysWays_92 hl (by decide) rfl (fun ls hl => ?_)
                          refine lv_iload_n hx hb dX10_laysWays_94 rfl (lv_at hl 7 rfl) ?_
                          refine lv_if_eq (tgt := 111) hx hb dX10_laysWays_95 (by decide) (fun c47 => ?_) (fun c47 => ?_)
                          · have ho := ip_ c47 ho
                            refine lv_iload hx hb dX10_laysWays_111 (lv_at hl 0 rfl) ?_
                            refine lv_if_eq (tgt := 120) hx hb dX10_laysWays_113 (by decide) (fun h => absurd h (by decide)) (fun _ => ?_)
                            refine lv_iconst (v := 1) hx hb dX10_laysWays_116 (by decide) ?_
                            refine lv_goto (tgt := 122) hx hb dX10_laysWays_117 (by decide) ?_
                            refine lv_istore (lv' := [(8, .int 1), (7, .int 1), (6, .int q24), (5, .int v21), (4, .int v14), (3, .int v7), (0, .ref (G.2.2 198)), (1, .int a0), (2, .int a1)]) hx hb dX10_laysWays_122 hl (by decide) rfl (fun ls hl => ?_)
                            refine lv_iload hx hb dX10_laysWays_124 (lv_at hl 2 rfl) ?_
                            refine lv_iconst (v := (-1)) hx hb dX10_laysWays_126 (by decide) ?_
                            refine lv_icmp_eq (tgt := 157) hx hb dX10_laysWays_127 (by decide) (fun c48 => ?_) (fun c48 => ?_)
                            · have ho := ip_ c48 ho
                              obtain ⟨x49, ex49, ho⟩ := lt_ ho
                              refine lv_iinc (v := x49) (lv' := [(5, .int x49), (8, .int 1), (7, .int 1), (6, .int q24), (4, .int v14), (3, .int v7), (0, .ref (G.2.2 198)), (1, .int a0), (2, .int a1)]) hx hb dX10_laysWays_157 hl (k := 3) rfl (by rw [ex49]; rfl) (by decide) rfl (fun ls hl => ?_)
                              refine lv_goto (tgt := 52) hx hb dX10_laysWays_160 (by decide) ?_
                              exact ih _ _ _ _ _ ho B (lv_sub hl [0, 4, 5, 6, 7, 8] rfl)
                            · have ho := in_ c48 ho
                              refine lv_aload_n hx hb dX10_laysWays_130 rfl (lv_at hl 6 rfl) ?_
                              refine r_get (ci := 14) (C := RX10) (T := TX10) (N := 21) S F B (kq (by decide) : kd 198 = 21 ∧ 198 < NN) rfl rfl hiX10 13 (by decide) (by decide +kernel) rfl dX10_laysWays_131 ?_
                              refine lv_iload hx hb dX10_laysWays_134 (lv_at hl 2 rfl) ?_
                              refine lv_aload_n hx hb dX10_laysWays_136 rfl (lv_at hl 6 rfl) ?_
                              refine r_get (ci := 14) (C := RX10) (T := TX10) (N := 21) S F B (kq (by decide) : kd 198 = 21 ∧ 198 < NN) rfl rfl hiX10 13 (by decide) (by decide +kernel) rfl dX10_laysWays_137 ?_
                              refine lv_iload hx hb dX10_laysWays_140 (lv_at hl 2 rfl) ?_
                              obtain ⟨hi, ho⟩ := gd_ ho
                              refine r_iald S F B (kq (by decide) : kd 204 = 12 ∧ 204 < NN) rfl hi dX10_laysWays_142 ?_
                              refine lv_aload_n hx hb dX10_laysWays_143 rfl (lv_at hl 6 rfl) ?_
                              refine r_get (ci := 14) (C := RX10) (T := TX10) (N := 21) S F B (kq (by decide) : kd 198 = 21 ∧ 198 < NN) rfl rfl hiX10 13 (by decide) (by decide +kernel) rfl dX10_laysWays_144 ?_
                              refine lv_iload hx hb dX10_laysWays_147 (lv_at hl 4 rfl) ?_
                              obtain ⟨hi, ho⟩ := gd_ ho
                              refine r_iald S F B (kq (by decide) : kd 204 = 12 ∧ 204 < NN) rfl hi dX10_laysWays_149 ?_
                              refine lv_iload hx hb dX10_laysWays_150 (lv_at hl 0 rfl) ?_
                              refine lv_iadd hx hb dX10_laysWays_152 ?_
                              refine va_mmin hx hb (hml.trans hl.1.symm) hown (hts _ (by decide +kernel)) (hts _ (by decide +kernel)) (hts _ (by decide +kernel)) (hts _ (by decide +kernel)) (Nat.le_of_ble_eq_true rfl) (Nat.le_of_ble_eq_true rfl) (Nat.le_of_ble_eq_true rfl) (Nat.le_of_ble_eq_true rfl) dX10_laysWays_153 ?_
                              obtain ⟨hi, ho⟩ := gd_ ho
                              refine r_iast S F B (kq (by decide) : kd 204 = 12 ∧ 204 < NN) (fun _ => rfl) hi dX10_laysWays_156 (fun H locs B => ?_)
                              obtain ⟨σ50, eσ50, ho⟩ := lt_ ho
                              rw [← eσ50] at B
                              obtain ⟨x51, ex51, ho⟩ := lt_ ho
                              refine lv_iinc (v := x51) (lv' := [(5, .int x51), (8, .int 1), (7, .int 1), (6, .int q24), (4, .int v14), (3, .int v7), (0, .ref (G.2.2 198)), (1, .int a0), (2, .int a1)]) hx hb dX10_laysWays_157 hl (k := 3) rfl (by rw [ex51]; rfl) (by decide) rfl (fun ls hl => ?_)
                              refine lv_goto (tgt := 52) hx hb dX10_laysWays_160 (by decide) ?_
                              exact ih _ _ _ _ _ ho B (lv_sub hl [0, 4, 5, 6, 7, 8] rfl)
                          · have ho := in_ c47 ho
                            refine lv_iload hx hb dX10_laysWays_98 (lv_at hl 0 rfl) ?_
                            refine lv_if_eq (tgt := 107) hx hb dX10_laysWays_100 (by decide) (fun h => absurd h (by decide)) (fun _ => ?_)
                            refine lv_iconst (v := 0) hx hb dX10_laysWays_103 (by decide) ?_
                            refine lv_goto (tgt := 122) hx hb dX10_laysWays_104 (by decide) ?_
                            refine lv_istore (lv' := [(8, .int 0), (7, .int 1), (6, .int q24), (5, .int v21), (4, .int v14), (3, .int v7), (0, .ref (G.2.2 198)), (1, .int a0), (2, .int a1)]) hx hb dX10_laysWays_122 hl (by decide) rfl (fun ls hl => ?_)
                            refine lv_iload hx hb dX10_laysWays_124 (lv_at hl 2 rfl) ?_
                            refine lv_iconst (v := (-1)) hx hb dX10_laysWays_126 (by decide) ?_
                            refine lv_icmp_eq (tgt := 157) hx hb dX10_laysWays_127 (by decide) (fun c52 => ?_) (fun c52 => ?_)
                            · have ho := ip_ c52 ho
                              obtain ⟨x53, ex53, ho⟩ := lt_ ho
                              refine lv_iinc (v := x53) (lv' := [(5, .int x53), (8, .int 0), (7, .int 1), (6, .int q24), (4, .int v14), (3, .int v7), (0, .ref (G.2.2 198)), (1, .int a0), (2, .int a1)]) hx hb dX10_laysWays_157 hl (k := 3) rfl (by rw [ex53]; rfl) (by decide) rfl (fun ls hl => ?_)
                              refine lv_goto (tgt := 52) hx hb dX10_laysWays_160 (by decide) ?_
                              exact ih _ _ _ _ _ ho B (lv_sub hl [0, 4, 5, 6, 7, 8] rfl)
                            · have ho := in_ c52 ho
                              refine lv_aload_n hx hb dX10_laysWays_130 rfl (lv_at hl 6 rfl) ?_
                              refine r_get (ci := 14) (C := RX10) (T := TX10) (N := 21) S F B (kq (by decide) : kd 198 = 21 ∧ 198 < NN) rfl rfl hiX10 13 (by decide) (by decide +kernel) rfl dX10_laysWays_131 ?_
                              refine lv_iload hx hb dX10_laysWays_134 (lv_at hl 2 rfl) ?_
                              refine lv_aload_n hx hb dX10_laysWays_136 rfl (lv_at hl 6 rfl) ?_
                              refine r_get (ci := 14) (C := RX10) (T := TX10) (N := 21) S F B (kq (by decide) : kd 198 = 21 ∧ 198 < NN) rfl rfl hiX10 13 (by decide) (by decide +kernel) rfl dX10_laysWays_137 ?_
                              refine lv_iload hx hb dX10_laysWays_140 (lv_at hl 2 rfl) ?_
                              obtain ⟨hi, ho⟩ := gd_ ho
                              refine r_iald S F B (kq (by decide) : kd 204 = 12 ∧ 204 < NN) rfl hi dX10_laysWays_142 ?_
                              refine lv_aload_n hx hb dX10_laysWays_143 rfl (lv_at hl 6 rfl) ?_
                              refine r_get (ci := 14) (C := RX10) (T := TX10) (N := 21) S F B (kq (by decide) : kd 198 = 21 ∧ 198 < NN) rfl rfl hiX10 13 (by decide) (by decide +kernel) rfl dX10_laysWays_144 ?_
                              refine lv_iload hx hb dX10_laysWays_147 (lv_at hl 4 rfl) ?_
                              obtain ⟨hi, ho⟩ := gd_ ho
                              refine r_iald S F B (kq (by decide) : kd 204 = 12 ∧ 204 < NN) rfl hi dX10_laysWays_149 ?_
                              refine lv_iload hx hb dX10_laysWays_150 (lv_at hl 0 rfl) ?_
                              refine lv_iadd hx hb dX10_laysWays_152 ?_
                              refine va_mmin hx hb (hml.trans hl.1.symm) hown (hts _ (by decide +kernel)) (hts _ (by decide +kernel)) (hts _ (by decide +kernel)) (hts _ (by decide +kernel)) (Nat.le_of_ble_eq_true rfl) (Nat.le_of_ble_eq_true rfl) (Nat.le_of_ble_eq_true rfl) (Nat.le_of_ble_eq_true rfl) dX10_laysWays_153 ?_
                              obtain ⟨hi, ho⟩ := gd_ ho
                              refine r_iast S F B (kq (by decide) : kd 204 = 12 ∧ 204 < NN) (fun _ => rfl) hi dX10_laysWays_156 (fun H locs B => ?_)
                              obtain ⟨σ54, eσ54, ho⟩ := lt_ ho
                              rw [← eσ54] at B
                              obtain ⟨x55, ex55, ho⟩ := lt_ ho
                              refine lv_iinc (v := x55) (lv' := [(5, .int x55), (8, .int 0), (7, .int 1), (6, .int q24), (4, .int v14), (3, .int v7), (0, .ref (G.2.2 198)), (1, .int a0), (2, .int a1)]) hx hb dX10_laysWays_157 hl (k := 3) rfl (by rw [ex55]; rfl) (by decide) rfl (fun ls hl => ?_)
                              refine lv_goto (tgt := 52) hx hb dX10_laysWays_160 (by decide) ?_
                              exact ih _ _ _ _ _ ho B (lv_sub hl [0, 4, 5, 6, 7, 8] rfl)
                exact hloop52 20 _ _ _ _ _ ho B hl
          exact hloop42 20 _ _ _ _ _ ho B hl
    exact hloop33 20 _ _ _ _ _ ho B hl
  have hloop2 : ∀ (n : Nat) (v56 : Int32) (σ57 : Mm) (H : Heap) (locs : List Loc) (ls : Array Slot), f_X10_laysWays_l2 K a0 a1 n v56 σ57 = some out → Bd G σ57 s H locs → lv_has ls 9 [(3, .int v56), (0, .ref (G.2.2 198)), (1, .int a0), (2, .int a1)] → W p l e (headSpec wsX10_laysWays { frames := 2, cells := 0, slots := 0, locals := 55 }).room s m #[.ref (G.2.2 198), .int a0, .int a1] below meth c H locs 0 0 (MQ below (Qv G s.heap.size out) #[.ref (G.2.2 198), .int a0, .int a1] s 0 0 (AA G s.heap.size)) (F0 m 2 ls []) := by
    intro n
    induction n with
    | zero => intro v56 σ57 H locs ls ho B hl; cases ho
    | succ n ih =>
      intro v56 σ57 H locs ls ho B hl
      refine lv_iload_n hx hb dX10_laysWays_2 rfl (lv_at hl 0 rfl) ?_
      refine lv_bipush (v := 16) hx hb dX10_laysWays_3 (by decide) ?_
      refine lv_icmp_ge (tgt := 31) hx hb dX10_laysWays_5 (by decide) (fun c58 => ?_) (fun c58 => ?_)
      · have ho := ip_ c58 ho
        exact hexit2 _ _ _ _ _ ho B (lv_sub hl [0, 1, 2, 3] rfl)
      · have ho := in_ c58 ho
        refine lv_aload_n hx hb dX10_laysWays_8 rfl (lv_at hl 1 rfl) ?_
        refine r_get (ci := 14) (C := RX10) (T := TX10) (N := 21) S F B (kq (by decide) : kd 198 = 21 ∧ 198 < NN) rfl rfl hiX10 13 (by decide) (by decide +kernel) rfl dX10_laysWays_9 ?_
        refine lv_iload_n hx hb dX10_laysWays_12 rfl (lv_at hl 0 rfl) ?_
        refine lv_iload_n hx hb dX10_laysWays_13 rfl (lv_at hl 0 rfl) ?_
        refine lv_iload_n hx hb dX10_laysWays_14 rfl (lv_at hl 2 rfl) ?_
        refine lv_icmp_ne (tgt := 22) hx hb dX10_laysWays_15 (by decide) (fun c59 => ?_) (fun c59 => ?_)
        · have ho := in_ c59 ho
          refine lv_bipush (v := 99) hx hb dX10_laysWays_22 (by decide) ?_
          obtain ⟨hi, ho⟩ := gd_ ho
          refine r_iast S F B (kq (by decide) : kd 204 = 12 ∧ 204 < NN) (fun _ => rfl) hi dX10_laysWays_24 (fun H locs B => ?_)
          obtain ⟨σ60, eσ60, ho⟩ := lt_ ho
          rw [← eσ60] at B
          obtain ⟨x61, ex61, ho⟩ := lt_ ho
          refine lv_iinc (v := x61) (lv' := [(3, .int x61), (0, .ref (G.2.2 198)), (1, .int a0), (2, .int a1)]) hx hb dX10_laysWays_25 hl (k := 0) rfl (by rw [ex61]; rfl) (by decide) rfl (fun ls hl => ?_)
          refine lv_goto (tgt := 2) hx hb dX10_laysWays_28 (by decide) ?_
          exact ih _ _ _ _ _ ho B (lv_sub hl [0, 1, 2, 3] rfl)
        · have ho := ip_ c59 ho
          refine lv_iconst (v := 0) hx hb dX10_laysWays_18 (by decide) ?_
          refine lv_goto (tgt := 24) hx hb dX10_laysWays_19 (by decide) ?_
          obtain ⟨hi, ho⟩ := gd_ ho
          refine r_iast S F B (kq (by decide) : kd 204 = 12 ∧ 204 < NN) (fun _ => rfl) hi dX10_laysWays_24 (fun H locs B => ?_)
          obtain ⟨σ62, eσ62, ho⟩ := lt_ ho
          rw [← eσ62] at B
          obtain ⟨x63, ex63, ho⟩ := lt_ ho
          refine lv_iinc (v := x63) (lv' := [(3, .int x63), (0, .ref (G.2.2 198)), (1, .int a0), (2, .int a1)]) hx hb dX10_laysWays_25 hl (k := 0) rfl (by rw [ex63]; rfl) (by decide) rfl (fun ls hl => ?_)
          refine lv_goto (tgt := 2) hx hb dX10_laysWays_28 (by decide) ?_
          exact ih _ _ _ _ _ ho B (lv_sub hl [0, 1, 2, 3] rfl)
  exact hloop2 20 _ _ _ _ _ ho B hl

set_option maxHeartbeats 4000000 in
set_option maxRecDepth 100000 in
theorem c_X10_hoursOf (l : Launch) (G : Gd) (σ : Mm) (sz : Nat) (a0 : Int32) (a1 : Int32) {out : Int32 × Mm} (ho : f_X10_hoursOf a0 a1 σ = some out) : Met l yX10_hoursOf wsX10_hoursOf { frames := 3, cells := 0, slots := 0, locals := 83 } (va_Pc [.ref (G.2.2 198), .int a0, .int a1] (PW G σ sz)) (Qi G sz out.1 out.2) 0 0 (AA G sz) := by
  refine Met.ofW (cc := cX10_hoursOf) (maxL := 3) (ret := (some .int)) (by decide) rfl ?_
  intro p e s m args below meth c s₁ B0 hml hv
  obtain ⟨rfl, hpw⟩ := hv
  have hsz := hpw.1
  subst hsz
  obtain ⟨F, B⟩ := hpw.to
  have hx := B0.exec
  have hb := B0.bytes
  have hr := B0.returns
  have hts := atoms_spec (ws := wsX10_hoursOf) B0.pre
  have hown : s.vm.findClass RX10 = some m.cls := findClass_of_methodNamed B0.named
  have hlocks := B0.notSynchronized
  have S : CallFix p m c cX10_hoursOf 3 s _ wsX10_hoursOf RX10 := ⟨hx, hb, hml, hown, hts⟩
  have hiX10 : ∀ w ∈ u_ws RX10 TX10 21, w ∈ wsX10_hoursOf := by decide +kernel
  have hl := lv_entry [.ref (G.2.2 198), .int a0, .int a1] (n := 3) (Nat.le_of_ble_eq_true rfl)
  rw [lg_entry_eq]
  generalize (lg_sl [.ref (G.2.2 198), .int a0, .int a1] ++ List.replicate (3 - (lg_sl [.ref (G.2.2 198), .int a0, .int a1]).length) Slot.unset).toArray = ls at hl ⊢
  have hl : lv_has ls 3 [(0, .ref (G.2.2 198)), (1, .int a0), (2, .int a1)] := hl
  unfold f_X10_hoursOf at ho
  refine lv_aload_n hx hb dX10_hoursOf_0 rfl (lv_at hl 0 rfl) ?_
  refine lv_iload_n hx hb dX10_hoursOf_1 rfl (lv_at hl 1 rfl) ?_
  refine lv_iconst (v := 0) hx hb dX10_hoursOf_2 (by decide) ?_
  obtain ⟨σ2, hq1, ho⟩ := bnd_ ho
  refine k_vV (As := [.int a0, .int 0]) (rest := []) S F B (c_X10_laysWays l G σ _ a0 0 hq1) (kq (by decide) : kd 198 = 21 ∧ 198 < NN) rfl rfl (cwV 2 hts gX10_hoursOf_X10_laysWays rfl rfl rfl (by decide +kernel) ⟨Nat.le_of_ble_eq_true rfl, Nat.le_of_ble_eq_true rfl⟩) rfl hl.1 rfl (Nat.le_of_ble_eq_true rfl) dX10_hoursOf_3 ⟨Nat.le_of_ble_eq_true rfl, Nat.le_of_ble_eq_true rfl⟩ (fun H locs B => ?_)
  refine lv_aload_n hx hb dX10_hoursOf_6 rfl (lv_at hl 0 rfl) ?_
  refine r_get (ci := 14) (C := RX10) (T := TX10) (N := 21) S F B (kq (by decide) : kd 198 = 21 ∧ 198 < NN) rfl rfl hiX10 13 (by decide) (by decide +kernel) rfl dX10_hoursOf_7 ?_
  refine lv_iload_n hx hb dX10_hoursOf_10 rfl (lv_at hl 2 rfl) ?_
  obtain ⟨hi, ho⟩ := gd_ ho
  refine r_iald S F B (kq (by decide) : kd 204 = 12 ∧ 204 < NN) rfl hi dX10_hoursOf_11 ?_
  refine lv_bipush (v := 99) hx hb dX10_hoursOf_12 (by decide) ?_
  refine lv_icmp_lt (tgt := 21) hx hb dX10_hoursOf_14 (by decide) (fun c3 => ?_) (fun c3 => ?_)
  · have ho := ip_ c3 ho
    refine lv_aload_n hx hb dX10_hoursOf_21 rfl (lv_at hl 0 rfl) ?_
    refine r_get (ci := 14) (C := RX10) (T := TX10) (N := 21) S F B (kq (by decide) : kd 198 = 21 ∧ 198 < NN) rfl rfl hiX10 13 (by decide) (by decide +kernel) rfl dX10_hoursOf_22 ?_
    refine lv_iload_n hx hb dX10_hoursOf_25 rfl (lv_at hl 2 rfl) ?_
    obtain ⟨hi, ho⟩ := gd_ ho
    refine r_iald S F B (kq (by decide) : kd 204 = 12 ∧ 204 < NN) rfl hi dX10_hoursOf_26 ?_
    cases ho
    exact e_i B hx hb hr hlocks rfl rfl dX10_hoursOf_27
  · have ho := in_ c3 ho
    refine lv_iconst (v := (-1)) hx hb dX10_hoursOf_17 (by decide) ?_
    refine lv_goto (tgt := 27) hx hb dX10_hoursOf_18 (by decide) ?_
    cases ho
    exact e_i B hx hb hr hlocks rfl rfl dX10_hoursOf_27

set_option maxHeartbeats 4000000 in
set_option maxRecDepth 100000 in
theorem c_X10_reachedFrom (l : Launch) (G : Gd) (σ : Mm) (sz : Nat) (a0 : Int32) {out : Int32 × Mm} (ho : f_X10_reachedFrom a0 σ = some out) : Met l yX10_reachedFrom wsX10_reachedFrom { frames := 3, cells := 0, slots := 0, locals := 83 } (va_Pc [.ref (G.2.2 198), .int a0] (PW G σ sz)) (Qi G sz out.1 out.2) 0 0 (AA G sz) := by
  refine Met.ofW (cc := cX10_reachedFrom) (maxL := 4) (ret := (some .int)) (by decide) rfl ?_
  intro p e s m args below meth c s₁ B0 hml hv
  obtain ⟨rfl, hpw⟩ := hv
  have hsz := hpw.1
  subst hsz
  obtain ⟨F, B⟩ := hpw.to
  have hx := B0.exec
  have hb := B0.bytes
  have hr := B0.returns
  have hts := atoms_spec (ws := wsX10_reachedFrom) B0.pre
  have hown : s.vm.findClass RX10 = some m.cls := findClass_of_methodNamed B0.named
  have hlocks := B0.notSynchronized
  have S : CallFix p m c cX10_reachedFrom 4 s _ wsX10_reachedFrom RX10 := ⟨hx, hb, hml, hown, hts⟩
  have hiX10 : ∀ w ∈ u_ws RX10 TX10 21, w ∈ wsX10_reachedFrom := by decide +kernel
  have hl := lv_entry [.ref (G.2.2 198), .int a0] (n := 4) (Nat.le_of_ble_eq_true rfl)
  rw [lg_entry_eq]
  generalize (lg_sl [.ref (G.2.2 198), .int a0] ++ List.replicate (4 - (lg_sl [.ref (G.2.2 198), .int a0]).length) Slot.unset).toArray = ls at hl ⊢
  have hl : lv_has ls 4 [(0, .ref (G.2.2 198)), (1, .int a0)] := hl
  unfold f_X10_reachedFrom at ho
  skip
  refine lv_aload_n hx hb dX10_reachedFrom_0 rfl (lv_at hl 0 rfl) ?_
  refine lv_iload_n hx hb dX10_reachedFrom_1 rfl (lv_at hl 1 rfl) ?_
  refine lv_iconst (v := 0) hx hb dX10_reachedFrom_2 (by decide) ?_
  obtain ⟨σ2, hq1, ho⟩ := bnd_ ho
  refine k_vV (As := [.int a0, .int 0]) (rest := []) S F B (c_X10_laysWays l G σ _ a0 0 hq1) (kq (by decide) : kd 198 = 21 ∧ 198 < NN) rfl rfl (cwV 2 hts gX10_reachedFrom_X10_laysWays rfl rfl rfl (by decide +kernel) ⟨Nat.le_of_ble_eq_true rfl, Nat.le_of_ble_eq_true rfl⟩) rfl hl.1 rfl (Nat.le_of_ble_eq_true rfl) dX10_reachedFrom_3 ⟨Nat.le_of_ble_eq_true rfl, Nat.le_of_ble_eq_true rfl⟩ (fun H locs B => ?_)
  refine lv_iconst (v := 0) hx hb dX10_reachedFrom_6 (by decide) ?_
  refine lv_istore_n (lv' := [(2, .int 0), (0, .ref (G.2.2 198)), (1, .int a0)]) hx hb dX10_reachedFrom_7 rfl hl (by decide) rfl (fun ls hl => ?_)
  refine lv_iconst (v := 0) hx hb dX10_reachedFrom_8 (by decide) ?_
  refine lv_istore_n (lv' := [(3, .int 0), (2, .int 0), (0, .ref (G.2.2 198)), (1, .int a0)]) hx hb dX10_reachedFrom_9 rfl hl (by decide) rfl (fun ls hl => ?_)
  have hloop10 : ∀ (n : Nat) (v6 : Int32) (v7 : Int32) (H : Heap) (locs : List Loc) (ls : Array Slot), f_X10_reachedFrom_l10  a0 σ2 n v6 v7 = some out → Bd G σ2 s H locs → lv_has ls 4 [(3, .int v6), (2, .int v7), (0, .ref (G.2.2 198)), (1, .int a0)] → W p l e (headSpec wsX10_reachedFrom { frames := 3, cells := 0, slots := 0, locals := 83 }).room s m #[.ref (G.2.2 198), .int a0] below meth c H locs 0 0 (MQ below (Qi G s.heap.size out.1 out.2) #[.ref (G.2.2 198), .int a0] s 0 0 (AA G s.heap.size)) (F0 m 10 ls []) := by
    intro n
    induction n with
    | zero => intro v6 v7 H locs ls ho B hl; cases ho
    | succ n ih =>
      intro v6 v7 H locs ls ho B hl
      refine lv_iload_n hx hb dX10_reachedFrom_10 rfl (lv_at hl 0 rfl) ?_
      refine lv_bipush (v := 16) hx hb dX10_reachedFrom_11 (by decide) ?_
      refine lv_icmp_ge (tgt := 43) hx hb dX10_reachedFrom_13 (by decide) (fun c8 => ?_) (fun c8 => ?_)
      · have ho := ip_ c8 ho
        refine lv_iload_n hx hb dX10_reachedFrom_43 rfl (lv_at hl 1 rfl) ?_
        cases ho
        exact e_i B hx hb hr hlocks rfl rfl dX10_reachedFrom_44
      · have ho := in_ c8 ho
        refine lv_iload_n hx hb dX10_reachedFrom_16 rfl (lv_at hl 1 rfl) ?_
        refine lv_aload_n hx hb dX10_reachedFrom_17 rfl (lv_at hl 2 rfl) ?_
        refine r_get (ci := 14) (C := RX10) (T := TX10) (N := 21) S F B (kq (by decide) : kd 198 = 21 ∧ 198 < NN) rfl rfl hiX10 13 (by decide) (by decide +kernel) rfl dX10_reachedFrom_18 ?_
        refine lv_iload_n hx hb dX10_reachedFrom_21 rfl (lv_at hl 0 rfl) ?_
        obtain ⟨hi, ho⟩ := gd_ ho
        refine r_iald S F B (kq (by decide) : kd 204 = 12 ∧ 204 < NN) rfl hi dX10_reachedFrom_22 ?_
        refine lv_bipush (v := 99) hx hb dX10_reachedFrom_23 (by decide) ?_
        refine lv_icmp_ge (tgt := 34) hx hb dX10_reachedFrom_25 (by decide) (fun c9 => ?_) (fun c9 => ?_)
        · have ho := ip_ c9 ho
          refine lv_iconst (v := 0) hx hb dX10_reachedFrom_34 (by decide) ?_
          refine lv_ior hx hb dX10_reachedFrom_35 ?_
          obtain ⟨x10, ex10, ho⟩ := lt_ ho
          refine lv_nm ex10 ?_
          refine lv_istore_n (lv' := [(2, .int x10), (3, .int v6), (0, .ref (G.2.2 198)), (1, .int a0)]) hx hb dX10_reachedFrom_36 rfl hl (by decide) rfl (fun ls hl => ?_)
          obtain ⟨x11, ex11, ho⟩ := lt_ ho
          refine lv_iinc (v := x11) (lv' := [(3, .int x11), (2, .int x10), (0, .ref (G.2.2 198)), (1, .int a0)]) hx hb dX10_reachedFrom_37 hl (k := 1) rfl (by rw [ex11]; rfl) (by decide) rfl (fun ls hl => ?_)
          refine lv_goto (tgt := 10) hx hb dX10_reachedFrom_40 (by decide) ?_
          exact ih _ _  _ _ _ ho B (lv_sub hl [0, 1, 2, 3] rfl)
        · have ho := in_ c9 ho
          refine lv_iconst (v := 1) hx hb dX10_reachedFrom_28 (by decide) ?_
          refine lv_iload_n hx hb dX10_reachedFrom_29 rfl (lv_at hl 0 rfl) ?_
          refine lv_ishl hx hb dX10_reachedFrom_30 ?_
          refine lv_goto (tgt := 35) hx hb dX10_reachedFrom_31 (by decide) ?_
          refine lv_ior hx hb dX10_reachedFrom_35 ?_
          obtain ⟨x12, ex12, ho⟩ := lt_ ho
          refine lv_nm ex12 ?_
          refine lv_istore_n (lv' := [(2, .int x12), (3, .int v6), (0, .ref (G.2.2 198)), (1, .int a0)]) hx hb dX10_reachedFrom_36 rfl hl (by decide) rfl (fun ls hl => ?_)
          obtain ⟨x13, ex13, ho⟩ := lt_ ho
          refine lv_iinc (v := x13) (lv' := [(3, .int x13), (2, .int x12), (0, .ref (G.2.2 198)), (1, .int a0)]) hx hb dX10_reachedFrom_37 hl (k := 1) rfl (by rw [ex13]; rfl) (by decide) rfl (fun ls hl => ?_)
          refine lv_goto (tgt := 10) hx hb dX10_reachedFrom_40 (by decide) ?_
          exact ih _ _  _ _ _ ho B (lv_sub hl [0, 1, 2, 3] rfl)
  exact hloop10 20 _ _  _ _ _ ho B hl

set_option maxHeartbeats 4000000 in
set_option maxRecDepth 100000 in
theorem c_X10_ones (l : Launch) (G : Gd) (σ : Mm) (sz : Nat) (a0 : Int32) {out : Int32} (ho : f_X10_ones a0 σ = some out) : Met l yX10_ones wsX10_ones { frames := 0, cells := 0, slots := 0, locals := 0 } (va_Pc [.int a0] (PW G σ sz)) (Qi G sz out σ) 0 0 (AA G sz) := by
  refine Met.ofW (cc := cX10_ones) (maxL := 3) (ret := (some .int)) (by decide) rfl ?_
  intro p e s m args below meth c s₁ B0 hml hv
  obtain ⟨rfl, hpw⟩ := hv
  have hsz := hpw.1
  subst hsz
  obtain ⟨F, B⟩ := hpw.to
  have hx := B0.exec
  have hb := B0.bytes
  have hr := B0.returns
  have hts := atoms_spec (ws := wsX10_ones) B0.pre
  have hown : s.vm.findClass RX10 = some m.cls := findClass_of_methodNamed B0.named
  have hlocks := B0.notSynchronized
  have S : CallFix p m c cX10_ones 3 s _ wsX10_ones RX10 := ⟨hx, hb, hml, hown, hts⟩
  have hl := lv_entry [.int a0] (n := 3) (Nat.le_of_ble_eq_true rfl)
  rw [lg_entry_eq]
  generalize (lg_sl [.int a0] ++ List.replicate (3 - (lg_sl [.int a0]).length) Slot.unset).toArray = ls at hl ⊢
  have hl : lv_has ls 3 [(0, .int a0)] := hl
  unfold f_X10_ones at ho
  skip
  refine lv_iconst (v := 0) hx hb dX10_ones_0 (by decide) ?_
  refine lv_istore_n (lv' := [(1, .int 0), (0, .int a0)]) hx hb dX10_ones_1 rfl hl (by decide) rfl (fun ls hl => ?_)
  refine lv_iconst (v := 0) hx hb dX10_ones_2 (by decide) ?_
  refine lv_istore_n (lv' := [(2, .int 0), (1, .int 0), (0, .int a0)]) hx hb dX10_ones_3 rfl hl (by decide) rfl (fun ls hl => ?_)
  have hloop4 : ∀ (n : Nat) (v4 : Int32) (v5 : Int32) (H : Heap) (locs : List Loc) (ls : Array Slot), f_X10_ones_l4  a0 σ n v4 v5 = some out → Bd G σ s H locs → lv_has ls 3 [(2, .int v4), (1, .int v5), (0, .int a0)] → W p l e (headSpec wsX10_ones { frames := 0, cells := 0, slots := 0, locals := 0 }).room s m #[.int a0] below meth c H locs 0 0 (MQ below (Qi G s.heap.size out σ) #[.int a0] s 0 0 (AA G s.heap.size)) (F0 m 4 ls []) := by
    intro n
    induction n with
    | zero => intro v4 v5 H locs ls ho B hl; cases ho
    | succ n ih =>
      intro v4 v5 H locs ls ho B hl
      refine lv_iload_n hx hb dX10_ones_4 rfl (lv_at hl 0 rfl) ?_
      refine lv_bipush (v := 16) hx hb dX10_ones_5 (by decide) ?_
      refine lv_icmp_ge (tgt := 24) hx hb dX10_ones_7 (by decide) (fun c6 => ?_) (fun c6 => ?_)
      · have ho := ip_ c6 ho
        refine lv_iload_n hx hb dX10_ones_24 rfl (lv_at hl 1 rfl) ?_
        cases ho
        exact e_i B hx hb hr hlocks rfl rfl dX10_ones_25
      · have ho := in_ c6 ho
        refine lv_iload_n hx hb dX10_ones_10 rfl (lv_at hl 1 rfl) ?_
        refine lv_iload_n hx hb dX10_ones_11 rfl (lv_at hl 2 rfl) ?_
        refine lv_iload_n hx hb dX10_ones_12 rfl (lv_at hl 0 rfl) ?_
        refine lv_ishr hx hb dX10_ones_13 ?_
        refine lv_iconst (v := 1) hx hb dX10_ones_14 (by decide) ?_
        refine lv_iand hx hb dX10_ones_15 ?_
        refine lv_iadd hx hb dX10_ones_16 ?_
        obtain ⟨x7, ex7, ho⟩ := lt_ ho
        refine lv_nm ex7 ?_
        refine lv_istore_n (lv' := [(1, .int x7), (2, .int v4), (0, .int a0)]) hx hb dX10_ones_17 rfl hl (by decide) rfl (fun ls hl => ?_)
        obtain ⟨x8, ex8, ho⟩ := lt_ ho
        refine lv_iinc (v := x8) (lv' := [(2, .int x8), (1, .int x7), (0, .int a0)]) hx hb dX10_ones_18 hl (k := 1) rfl (by rw [ex8]; rfl) (by decide) rfl (fun ls hl => ?_)
        refine lv_goto (tgt := 4) hx hb dX10_ones_21 (by decide) ?_
        exact ih _ _  _ _ _ ho B (lv_sub hl [0, 1, 2] rfl)
  exact hloop4 20 _ _  _ _ _ ho B hl

