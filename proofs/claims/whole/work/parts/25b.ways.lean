set_option maxHeartbeats 4000000 in
set_option maxRecDepth 100000 in
theorem c_X8_hoursByNeighbours (l : Launch) (G : Gd) (σ : Mm) (sz : Nat) (a0 : Int32) (a1 : Int32) {out : Int32 × Mm} (ho : f_X8_hoursByNeighbours a0 a1 σ = some out) : Met l yX8_hoursByNeighbours wsX8_hoursByNeighbours { frames := 4, cells := 0, slots := 0, locals := 94 } (va_Pc [.ref (G.2.2 158), .int a0, .int a1] (PW G σ sz)) (Qi G sz out.1 out.2) 0 0 (AA G sz) := by
  refine Met.ofW (cc := cX8_hoursByNeighbours) (maxL := 3) (ret := (some .int)) (by decide) rfl ?_
  intro p e s m args below meth c s₁ B0 hml hv
  obtain ⟨rfl, hpw⟩ := hv
  have hsz := hpw.1
  subst hsz
  obtain ⟨F, B⟩ := hpw.to
  have hx := B0.exec
  have hb := B0.bytes
  have hr := B0.returns
  have hts := atoms_spec (ws := wsX8_hoursByNeighbours) B0.pre
  have hown : s.vm.findClass RX8 = some m.cls := findClass_of_methodNamed B0.named
  have hlocks := B0.notSynchronized
  have S : CallFix p m c cX8_hoursByNeighbours 3 s _ wsX8_hoursByNeighbours RX8 := ⟨hx, hb, hml, hown, hts⟩
  have hl := lv_entry [.ref (G.2.2 158), .int a0, .int a1] (n := 3) (Nat.le_of_ble_eq_true rfl)
  rw [lg_entry_eq]
  generalize (lg_sl [.ref (G.2.2 158), .int a0, .int a1] ++ List.replicate (3 - (lg_sl [.ref (G.2.2 158), .int a0, .int a1]).length) Slot.unset).toArray = ls at hl ⊢
  have hl : lv_has ls 3 [(0, .ref (G.2.2 158)), (1, .int a0), (2, .int a1)] := hl
  unfold f_X8_hoursByNeighbours at ho
  refine lv_aload_n hx hb dX8_hoursByNeighbours_0 rfl (lv_at hl 0 rfl) ?_
  refine lv_iload_n hx hb dX8_hoursByNeighbours_1 rfl (lv_at hl 1 rfl) ?_
  refine lv_iconst (v := 1) hx hb dX8_hoursByNeighbours_2 (by decide) ?_
  refine lv_sipush (v := 1000) hx hb dX8_hoursByNeighbours_3 (by decide) ?_
  obtain ⟨σ2, hq1, ho⟩ := bnd_ ho
  refine k_vV (As := [.int a0, .int 1, .int 1000]) (rest := []) S F B (c_X8_relaxFrom l G σ _ a0 1 1000 hq1) (kq (by decide) : kd 158 = 11 ∧ 158 < NN) rfl rfl (cwV 3 hts gX8_hoursByNeighbours_X8_relaxFrom rfl rfl rfl (by decide +kernel) ⟨Nat.le_of_ble_eq_true rfl, Nat.le_of_ble_eq_true rfl⟩) rfl hl.1 rfl (Nat.le_of_ble_eq_true rfl) dX8_hoursByNeighbours_6 ⟨Nat.le_of_ble_eq_true rfl, Nat.le_of_ble_eq_true rfl⟩ (fun H locs B => ?_)
  refine lv_aload_n hx hb dX8_hoursByNeighbours_9 rfl (lv_at hl 0 rfl) ?_
  refine lv_iload_n hx hb dX8_hoursByNeighbours_10 rfl (lv_at hl 2 rfl) ?_
  obtain ⟨q3, hq3, ho⟩ := bnd_ ho
  refine k_iV (As := [.int a1]) (rest := []) S F B (c_X8_distanceOf l G σ2 _ a1 hq3) (kq (by decide) : kd 158 = 11 ∧ 158 < NN) rfl rfl (cwV 1 hts gX8_hoursByNeighbours_X8_distanceOf rfl rfl rfl (by decide +kernel) ⟨Nat.le_of_ble_eq_true rfl, Nat.le_of_ble_eq_true rfl⟩) rfl hl.1 rfl (Nat.le_of_ble_eq_true rfl) dX8_hoursByNeighbours_11 ⟨Nat.le_of_ble_eq_true rfl, Nat.le_of_ble_eq_true rfl⟩ (fun H locs B => ?_)
  cases ho
  exact e_i B hx hb hr hlocks rfl rfl dX8_hoursByNeighbours_14

set_option maxHeartbeats 4000000 in
set_option maxRecDepth 100000 in
theorem c_X8_trimsByNeighbours (l : Launch) (G : Gd) (σ : Mm) (sz : Nat) (a0 : Int32) {out : Int32 × Mm} (ho : f_X8_trimsByNeighbours a0 σ = some out) : Met l yX8_trimsByNeighbours wsX8_trimsByNeighbours { frames := 4, cells := 0, slots := 0, locals := 94 } (va_Pc [.ref (G.2.2 158), .int a0] (PW G σ sz)) (Qi G sz out.1 out.2) 0 0 (AA G sz) := by
  refine Met.ofW (cc := cX8_trimsByNeighbours) (maxL := 2) (ret := (some .int)) (by decide) rfl ?_
  intro p e s m args below meth c s₁ B0 hml hv
  obtain ⟨rfl, hpw⟩ := hv
  have hsz := hpw.1
  subst hsz
  obtain ⟨F, B⟩ := hpw.to
  have hx := B0.exec
  have hb := B0.bytes
  have hr := B0.returns
  have hts := atoms_spec (ws := wsX8_trimsByNeighbours) B0.pre
  have hown : s.vm.findClass RX8 = some m.cls := findClass_of_methodNamed B0.named
  have hlocks := B0.notSynchronized
  have S : CallFix p m c cX8_trimsByNeighbours 2 s _ wsX8_trimsByNeighbours RX8 := ⟨hx, hb, hml, hown, hts⟩
  have hl := lv_entry [.ref (G.2.2 158), .int a0] (n := 2) (Nat.le_of_ble_eq_true rfl)
  rw [lg_entry_eq]
  generalize (lg_sl [.ref (G.2.2 158), .int a0] ++ List.replicate (2 - (lg_sl [.ref (G.2.2 158), .int a0]).length) Slot.unset).toArray = ls at hl ⊢
  have hl : lv_has ls 2 [(0, .ref (G.2.2 158)), (1, .int a0)] := hl
  unfold f_X8_trimsByNeighbours at ho
  refine lv_aload_n hx hb dX8_trimsByNeighbours_0 rfl (lv_at hl 0 rfl) ?_
  refine lv_iload_n hx hb dX8_trimsByNeighbours_1 rfl (lv_at hl 1 rfl) ?_
  refine lv_iconst (v := 0) hx hb dX8_trimsByNeighbours_2 (by decide) ?_
  refine lv_iconst (v := 1) hx hb dX8_trimsByNeighbours_3 (by decide) ?_
  obtain ⟨σ2, hq1, ho⟩ := bnd_ ho
  refine k_vV (As := [.int a0, .int 0, .int 1]) (rest := []) S F B (c_X8_relaxFrom l G σ _ a0 0 1 hq1) (kq (by decide) : kd 158 = 11 ∧ 158 < NN) rfl rfl (cwV 3 hts gX8_trimsByNeighbours_X8_relaxFrom rfl rfl rfl (by decide +kernel) ⟨Nat.le_of_ble_eq_true rfl, Nat.le_of_ble_eq_true rfl⟩) rfl hl.1 rfl (Nat.le_of_ble_eq_true rfl) dX8_trimsByNeighbours_4 ⟨Nat.le_of_ble_eq_true rfl, Nat.le_of_ble_eq_true rfl⟩ (fun H locs B => ?_)
  refine lv_aload_n hx hb dX8_trimsByNeighbours_7 rfl (lv_at hl 0 rfl) ?_
  refine lv_bipush (v := 15) hx hb dX8_trimsByNeighbours_8 (by decide) ?_
  obtain ⟨q3, hq3, ho⟩ := bnd_ ho
  refine k_iV (As := [.int 15]) (rest := []) S F B (c_X8_distanceOf l G σ2 _ 15 hq3) (kq (by decide) : kd 158 = 11 ∧ 158 < NN) rfl rfl (cwV 1 hts gX8_trimsByNeighbours_X8_distanceOf rfl rfl rfl (by decide +kernel) ⟨Nat.le_of_ble_eq_true rfl, Nat.le_of_ble_eq_true rfl⟩) rfl hl.1 rfl (Nat.le_of_ble_eq_true rfl) dX8_trimsByNeighbours_10 ⟨Nat.le_of_ble_eq_true rfl, Nat.le_of_ble_eq_true rfl⟩ (fun H locs B => ?_)
  cases ho
  exact e_i B hx hb hr hlocks rfl rfl dX8_trimsByNeighbours_13

set_option maxHeartbeats 4000000 in
set_option maxRecDepth 100000 in
theorem c_X8_stepToExit (l : Launch) (G : Gd) (σ : Mm) (sz : Nat) (a0 : Int32) {out : Int32 × Mm} (ho : f_X8_stepToExit a0 σ = some out) : Met l yX8_stepToExit wsX8_stepToExit { frames := 3, cells := 0, slots := 0, locals := 71 } (va_Pc [.ref (G.2.2 158), .int a0] (PW G σ sz)) (Qi G sz out.1 out.2) 0 0 (AA G sz) := by
  refine Met.ofW (cc := cX8_stepToExit) (maxL := 7) (ret := (some .int)) (by decide) rfl ?_
  intro p e s m args below meth c s₁ B0 hml hv
  obtain ⟨rfl, hpw⟩ := hv
  have hsz := hpw.1
  subst hsz
  obtain ⟨F, B⟩ := hpw.to
  have hx := B0.exec
  have hb := B0.bytes
  have hr := B0.returns
  have hts := atoms_spec (ws := wsX8_stepToExit) B0.pre
  have hown : s.vm.findClass RX8 = some m.cls := findClass_of_methodNamed B0.named
  have hlocks := B0.notSynchronized
  have S : CallFix p m c cX8_stepToExit 7 s _ wsX8_stepToExit RX8 := ⟨hx, hb, hml, hown, hts⟩
  have hiX8 : ∀ w ∈ u_ws RX8 TX8 3, w ∈ wsX8_stepToExit := by decide +kernel
  have hl := lv_entry [.ref (G.2.2 158), .int a0] (n := 7) (Nat.le_of_ble_eq_true rfl)
  rw [lg_entry_eq]
  generalize (lg_sl [.ref (G.2.2 158), .int a0] ++ List.replicate (7 - (lg_sl [.ref (G.2.2 158), .int a0]).length) Slot.unset).toArray = ls at hl ⊢
  have hl : lv_has ls 7 [(0, .ref (G.2.2 158)), (1, .int a0)] := hl
  unfold f_X8_stepToExit at ho
  skip
  refine lv_aload_n hx hb dX8_stepToExit_0 rfl (lv_at hl 0 rfl) ?_
  refine lv_bipush (v := 15) hx hb dX8_stepToExit_1 (by decide) ?_
  obtain ⟨σ2, hq1, ho⟩ := bnd_ ho
  refine k_vV (As := [.int 15]) (rest := []) S F B (c_X8_measureFrom l G σ _ 15 hq1) (kq (by decide) : kd 158 = 11 ∧ 158 < NN) rfl rfl (cwV 1 hts gX8_stepToExit_X8_measureFrom rfl rfl rfl (by decide +kernel) ⟨Nat.le_of_ble_eq_true rfl, Nat.le_of_ble_eq_true rfl⟩) rfl hl.1 rfl (Nat.le_of_ble_eq_true rfl) dX8_stepToExit_3 ⟨Nat.le_of_ble_eq_true rfl, Nat.le_of_ble_eq_true rfl⟩ (fun H locs B => ?_)
  refine lv_aload_n hx hb dX8_stepToExit_6 rfl (lv_at hl 0 rfl) ?_
  refine lv_iload_n hx hb dX8_stepToExit_7 rfl (lv_at hl 1 rfl) ?_
  obtain ⟨q3, hq3, ho⟩ := bnd_ ho
  refine k_iV (As := [.int a0]) (rest := []) S F B (c_X8_distanceOf l G σ2 _ a0 hq3) (kq (by decide) : kd 158 = 11 ∧ 158 < NN) rfl rfl (cwV 1 hts gX8_stepToExit_X8_distanceOf rfl rfl rfl (by decide +kernel) ⟨Nat.le_of_ble_eq_true rfl, Nat.le_of_ble_eq_true rfl⟩) rfl hl.1 rfl (Nat.le_of_ble_eq_true rfl) dX8_stepToExit_8 ⟨Nat.le_of_ble_eq_true rfl, Nat.le_of_ble_eq_true rfl⟩ (fun H locs B => ?_)
  refine lv_istore_n (lv' := [(2, .int q3), (0, .ref (G.2.2 158)), (1, .int a0)]) hx hb dX8_stepToExit_11 rfl hl (by decide) rfl (fun ls hl => ?_)
  refine lv_iconst (v := (-1)) hx hb dX8_stepToExit_12 (by decide) ?_
  refine lv_istore_n (lv' := [(3, .int (-1)), (2, .int q3), (0, .ref (G.2.2 158)), (1, .int a0)]) hx hb dX8_stepToExit_13 rfl hl (by decide) rfl (fun ls hl => ?_)
  refine lv_iload_n hx hb dX8_stepToExit_14 rfl (lv_at hl 1 rfl) ?_
  refine lv_sipush (v := 1000) hx hb dX8_stepToExit_15 (by decide) ?_
  refine lv_icmp_ne (tgt := 23) hx hb dX8_stepToExit_18 (by decide) (fun c4 => ?_) (fun c4 => ?_)
  · have ho := in_ c4 ho
    refine lv_iconst (v := 0) hx hb dX8_stepToExit_23 (by decide) ?_
    refine lv_istore (lv' := [(4, .int 0), (3, .int (-1)), (2, .int q3), (0, .ref (G.2.2 158)), (1, .int a0)]) hx hb dX8_stepToExit_24 hl (by decide) rfl (fun ls hl => ?_)
    have hloop26 : ∀ (n : Nat) (v8 : Int32) (v9 : Int32) (H : Heap) (locs : List Loc) (ls : Array Slot), f_X8_stepToExit_l26  q3 a0 σ2 n v8 v9 = some out → Bd G σ2 s H locs → lv_has ls 7 [(4, .int v8), (3, .int v9), (2, .int q3), (0, .ref (G.2.2 158)), (1, .int a0)] → W p l e (headSpec wsX8_stepToExit { frames := 3, cells := 0, slots := 0, locals := 71 }).room s m #[.ref (G.2.2 158), .int a0] below meth c H locs 0 0 (MQ below (Qi G s.heap.size out.1 out.2) #[.ref (G.2.2 158), .int a0] s 0 0 (AA G s.heap.size)) (F0 m 26 ls []) := by
      intro n
      induction n with
      | zero => intro v8 v9 H locs ls ho B hl; cases ho
      | succ n ih =>
        intro v8 v9 H locs ls ho B hl
        refine lv_iload hx hb dX8_stepToExit_26 (lv_at hl 0 rfl) ?_
        refine lv_bipush (v := 24) hx hb dX8_stepToExit_28 (by decide) ?_
        refine lv_icmp_ge (tgt := 103) hx hb dX8_stepToExit_30 (by decide) (fun c10 => ?_) (fun c10 => ?_)
        · have ho := ip_ c10 ho
          refine lv_iload_n hx hb dX8_stepToExit_103 rfl (lv_at hl 1 rfl) ?_
          cases ho
          exact e_i B hx hb hr hlocks rfl rfl dX8_stepToExit_104
        · have ho := in_ c10 ho
          refine lv_iload hx hb dX8_stepToExit_33 (lv_at hl 0 rfl) ?_
          refine lv_iload_n hx hb dX8_stepToExit_35 rfl (lv_at hl 4 rfl) ?_
          obtain ⟨q11, hq11, ho⟩ := bnd_ ho
          refine k_iS (As := [.int v8, .int a0]) (rest := []) S F B (c_X4_cellAcross l G σ2 _ v8 a0 hq11) (va_cwS 2 hts gX8_stepToExit_X4_cellAcross rfl rfl rfl (by decide +kernel) ⟨Nat.le_of_ble_eq_true rfl, Nat.le_of_ble_eq_true rfl⟩) rfl hl.1 rfl (Nat.le_of_ble_eq_true rfl) dX8_stepToExit_36 ⟨Nat.le_of_ble_eq_true rfl, Nat.le_of_ble_eq_true rfl⟩ (fun H locs B => ?_)
          refine lv_istore (lv' := [(5, .int q11), (4, .int v8), (3, .int v9), (2, .int q3), (0, .ref (G.2.2 158)), (1, .int a0)]) hx hb dX8_stepToExit_39 hl (by decide) rfl (fun ls hl => ?_)
          refine lv_iload hx hb dX8_stepToExit_41 (lv_at hl 0 rfl) ?_
          refine lv_iconst (v := (-1)) hx hb dX8_stepToExit_43 (by decide) ?_
          refine lv_icmp_eq (tgt := 75) hx hb dX8_stepToExit_44 (by decide) (fun c12 => ?_) (fun c12 => ?_)
          · have ho := ip_ c12 ho
            refine lv_iconst (v := 0) hx hb dX8_stepToExit_75 (by decide) ?_
            refine lv_istore (lv' := [(6, .int 0), (5, .int q11), (4, .int v8), (3, .int v9), (2, .int q3), (0, .ref (G.2.2 158)), (1, .int a0)]) hx hb dX8_stepToExit_76 hl (by decide) rfl (fun ls hl => ?_)
            refine lv_iload hx hb dX8_stepToExit_78 (lv_at hl 0 rfl) ?_
            refine lv_if_eq (tgt := 97) hx hb dX8_stepToExit_80 (by decide) (fun _ => ?_) (fun h => absurd h (by decide))
            obtain ⟨x13, ex13, ho⟩ := lt_ ho
            refine lv_iinc (v := x13) (lv' := [(4, .int x13), (6, .int 0), (5, .int q11), (3, .int v9), (2, .int q3), (0, .ref (G.2.2 158)), (1, .int a0)]) hx hb dX8_stepToExit_97 hl (k := 2) rfl (by rw [ex13]; rfl) (by decide) rfl (fun ls hl => ?_)
            refine lv_goto (tgt := 26) hx hb dX8_stepToExit_100 (by decide) ?_
            exact ih _ _  _ _ _ ho B (lv_sub hl [0, 3, 4, 5, 6] rfl)
          · have ho := in_ c12 ho
            refine lv_aload_n hx hb dX8_stepToExit_47 rfl (lv_at hl 4 rfl) ?_
            refine r_get (ci := 12) (C := RX8) (T := TX8) (N := 3) S F B (kq (by decide) : kd 158 = 11 ∧ 158 < NN) rfl rfl hiX8 0 (by decide) (by decide +kernel) rfl dX8_stepToExit_48 ?_
            refine lv_iload hx hb dX8_stepToExit_51 (lv_at hl 1 rfl) ?_
            obtain ⟨q14, hq14, ho⟩ := bnd_ ho
            refine k_iV (As := [.int v8]) (rest := []) S F B (c_X4_isOpen l G σ2 _ v8 hq14) (kq (by decide) : kd 1 = 1 ∧ 1 < NN) rfl rfl (cwV 1 hts gX8_stepToExit_X4_isOpen rfl rfl rfl (by decide +kernel) ⟨Nat.le_of_ble_eq_true rfl, Nat.le_of_ble_eq_true rfl⟩) rfl hl.1 rfl (Nat.le_of_ble_eq_true rfl) dX8_stepToExit_53 ⟨Nat.le_of_ble_eq_true rfl, Nat.le_of_ble_eq_true rfl⟩ (fun H locs B => ?_)
            refine lv_if_eq (tgt := 75) hx hb dX8_stepToExit_56 (by decide) (fun c15 => ?_) (fun c15 => ?_)
            · have ho := ip_ c15 ho
              refine lv_iconst (v := 0) hx hb dX8_stepToExit_75 (by decide) ?_
              refine lv_istore (lv' := [(6, .int 0), (5, .int q11), (4, .int v8), (3, .int v9), (2, .int q3), (0, .ref (G.2.2 158)), (1, .int a0)]) hx hb dX8_stepToExit_76 hl (by decide) rfl (fun ls hl => ?_)
              refine lv_iload hx hb dX8_stepToExit_78 (lv_at hl 0 rfl) ?_
              refine lv_if_eq (tgt := 97) hx hb dX8_stepToExit_80 (by decide) (fun _ => ?_) (fun h => absurd h (by decide))
              obtain ⟨x16, ex16, ho⟩ := lt_ ho
              refine lv_iinc (v := x16) (lv' := [(4, .int x16), (6, .int 0), (5, .int q11), (3, .int v9), (2, .int q3), (0, .ref (G.2.2 158)), (1, .int a0)]) hx hb dX8_stepToExit_97 hl (k := 2) rfl (by rw [ex16]; rfl) (by decide) rfl (fun ls hl => ?_)
              refine lv_goto (tgt := 26) hx hb dX8_stepToExit_100 (by decide) ?_
              exact ih _ _  _ _ _ ho B (lv_sub hl [0, 3, 4, 5, 6] rfl)
            · have ho := in_ c15 ho
              refine lv_aload_n hx hb dX8_stepToExit_59 rfl (lv_at hl 4 rfl) ?_
              refine lv_iload hx hb dX8_stepToExit_60 (lv_at hl 0 rfl) ?_
              obtain ⟨q17, hq17, ho⟩ := bnd_ ho
              refine k_iV (As := [.int q11]) (rest := []) S F B (c_X8_distanceOf l G σ2 _ q11 hq17) (kq (by decide) : kd 158 = 11 ∧ 158 < NN) rfl rfl (cwV 1 hts gX8_stepToExit_X8_distanceOf rfl rfl rfl (by decide +kernel) ⟨Nat.le_of_ble_eq_true rfl, Nat.le_of_ble_eq_true rfl⟩) rfl hl.1 rfl (Nat.le_of_ble_eq_true rfl) dX8_stepToExit_62 ⟨Nat.le_of_ble_eq_true rfl, Nat.le_of_ble_eq_true rfl⟩ (fun H locs B => ?_)
              refine lv_iload_n hx hb dX8_stepToExit_65 rfl (lv_at hl 3 rfl) ?_
              refine lv_iconst (v := 1) hx hb dX8_stepToExit_66 (by decide) ?_
              refine lv_isub hx hb dX8_stepToExit_67 ?_
              refine lv_icmp_ne (tgt := 75) hx hb dX8_stepToExit_68 (by decide) (fun c18 => ?_) (fun c18 => ?_)
              · have ho := in_ c18 ho
                refine lv_iconst (v := 0) hx hb dX8_stepToExit_75 (by decide) ?_
                refine lv_istore (lv' := [(6, .int 0), (5, .int q11), (4, .int v8), (3, .int v9), (2, .int q3), (0, .ref (G.2.2 158)), (1, .int a0)]) hx hb dX8_stepToExit_76 hl (by decide) rfl (fun ls hl => ?_)
                refine lv_iload hx hb dX8_stepToExit_78 (lv_at hl 0 rfl) ?_
                refine lv_if_eq (tgt := 97) hx hb dX8_stepToExit_80 (by decide) (fun _ => ?_) (fun h => absurd h (by decide))
                obtain ⟨x19, ex19, ho⟩ := lt_ ho
                refine lv_iinc (v := x19) (lv' := [(4, .int x19), (6, .int 0), (5, .int q11), (3, .int v9), (2, .int q3), (0, .ref (G.2.2 158)), (1, .int a0)]) hx hb dX8_stepToExit_97 hl (k := 2) rfl (by rw [ex19]; rfl) (by decide) rfl (fun ls hl => ?_)
                refine lv_goto (tgt := 26) hx hb dX8_stepToExit_100 (by decide) ?_
                exact ih _ _  _ _ _ ho B (lv_sub hl [0, 3, 4, 5, 6] rfl)
              · have ho := ip_ c18 ho
                refine lv_iconst (v := 1) hx hb dX8_stepToExit_71 (by decide) ?_
                refine lv_goto (tgt := 76) hx hb dX8_stepToExit_72 (by decide) ?_
                refine lv_istore (lv' := [(6, .int 1), (5, .int q11), (4, .int v8), (3, .int v9), (2, .int q3), (0, .ref (G.2.2 158)), (1, .int a0)]) hx hb dX8_stepToExit_76 hl (by decide) rfl (fun ls hl => ?_)
                refine lv_iload hx hb dX8_stepToExit_78 (lv_at hl 0 rfl) ?_
                refine lv_if_eq (tgt := 97) hx hb dX8_stepToExit_80 (by decide) (fun h => absurd h (by decide)) (fun _ => ?_)
                refine lv_iload_n hx hb dX8_stepToExit_83 rfl (lv_at hl 3 rfl) ?_
                refine lv_iconst (v := (-1)) hx hb dX8_stepToExit_84 (by decide) ?_
                refine lv_icmp_eq (tgt := 94) hx hb dX8_stepToExit_85 (by decide) (fun c20 => ?_) (fun c20 => ?_)
                · have ho := ip_ c20 ho
                  refine lv_iload hx hb dX8_stepToExit_94 (lv_at hl 1 rfl) ?_
                  refine lv_istore_n (lv' := [(3, .int q11), (6, .int 1), (5, .int q11), (4, .int v8), (2, .int q3), (0, .ref (G.2.2 158)), (1, .int a0)]) hx hb dX8_stepToExit_96 rfl hl (by decide) rfl (fun ls hl => ?_)
                  obtain ⟨x21, ex21, ho⟩ := lt_ ho
                  refine lv_iinc (v := x21) (lv' := [(4, .int x21), (3, .int q11), (6, .int 1), (5, .int q11), (2, .int q3), (0, .ref (G.2.2 158)), (1, .int a0)]) hx hb dX8_stepToExit_97 hl (k := 3) rfl (by rw [ex21]; rfl) (by decide) rfl (fun ls hl => ?_)
                  refine lv_goto (tgt := 26) hx hb dX8_stepToExit_100 (by decide) ?_
                  exact ih _ _  _ _ _ ho B (lv_sub hl [0, 1, 4, 5, 6] rfl)
                · have ho := in_ c20 ho
                  refine lv_iload hx hb dX8_stepToExit_88 (lv_at hl 1 rfl) ?_
                  refine lv_iload_n hx hb dX8_stepToExit_90 rfl (lv_at hl 3 rfl) ?_
                  refine lv_icmp_ge (tgt := 97) hx hb dX8_stepToExit_91 (by decide) (fun c22 => ?_) (fun c22 => ?_)
                  · have ho := ip_ c22 ho
                    obtain ⟨x23, ex23, ho⟩ := lt_ ho
                    refine lv_iinc (v := x23) (lv' := [(4, .int x23), (6, .int 1), (5, .int q11), (3, .int v9), (2, .int q3), (0, .ref (G.2.2 158)), (1, .int a0)]) hx hb dX8_stepToExit_97 hl (k := 2) rfl (by rw [ex23]; rfl) (by decide) rfl (fun ls hl => ?_)
                    refine lv_goto (tgt := 26) hx hb dX8_stepToExit_100 (by decide) ?_
                    exact ih _ _  _ _ _ ho B (lv_sub hl [0, 3, 4, 5, 6] rfl)
                  · have ho := in_ c22 ho
                    refine lv_iload hx hb dX8_stepToExit_94 (lv_at hl 1 rfl) ?_
                    refine lv_istore_n (lv' := [(3, .int q11), (6, .int 1), (5, .int q11), (4, .int v8), (2, .int q3), (0, .ref (G.2.2 158)), (1, .int a0)]) hx hb dX8_stepToExit_96 rfl hl (by decide) rfl (fun ls hl => ?_)
                    obtain ⟨x24, ex24, ho⟩ := lt_ ho
                    refine lv_iinc (v := x24) (lv' := [(4, .int x24), (3, .int q11), (6, .int 1), (5, .int q11), (2, .int q3), (0, .ref (G.2.2 158)), (1, .int a0)]) hx hb dX8_stepToExit_97 hl (k := 3) rfl (by rw [ex24]; rfl) (by decide) rfl (fun ls hl => ?_)
                    refine lv_goto (tgt := 26) hx hb dX8_stepToExit_100 (by decide) ?_
                    exact ih _ _  _ _ _ ho B (lv_sub hl [0, 1, 4, 5, 6] rfl)
    exact hloop26 30 _ _  _ _ _ ho B hl
  · have ho := ip_ c4 ho
    refine lv_iload_n hx hb dX8_stepToExit_21 rfl (lv_at hl 0 rfl) ?_
    cases ho
    exact e_i B hx hb hr hlocks rfl rfl dX8_stepToExit_22

set_option maxHeartbeats 4000000 in
set_option maxRecDepth 100000 in
theorem c_X8_joinedBy (l : Launch) (G : Gd) (σ : Mm) (sz : Nat) (a0 : Int32) (a1 : Int32) {out : Int32} (ho : f_X8_joinedBy a0 a1 σ = some out) : Met l yX8_joinedBy wsX8_joinedBy { frames := 0, cells := 0, slots := 0, locals := 0 } (va_Pc [.int a0, .int a1] (PW G σ sz)) (Qi G sz out σ) 0 0 (AA G sz) := by
  refine Met.ofW (cc := cX8_joinedBy) (maxL := 3) (ret := (some .int)) (by decide) rfl ?_
  intro p e s m args below meth c s₁ B0 hml hv
  obtain ⟨rfl, hpw⟩ := hv
  have hsz := hpw.1
  subst hsz
  obtain ⟨F, B⟩ := hpw.to
  have hx := B0.exec
  have hb := B0.bytes
  have hr := B0.returns
  have hts := atoms_spec (ws := wsX8_joinedBy) B0.pre
  have hown : s.vm.findClass RX8 = some m.cls := findClass_of_methodNamed B0.named
  have hlocks := B0.notSynchronized
  have S : CallFix p m c cX8_joinedBy 3 s _ wsX8_joinedBy RX8 := ⟨hx, hb, hml, hown, hts⟩
  have hl := lv_entry [.int a0, .int a1] (n := 3) (Nat.le_of_ble_eq_true rfl)
  rw [lg_entry_eq]
  generalize (lg_sl [.int a0, .int a1] ++ List.replicate (3 - (lg_sl [.int a0, .int a1]).length) Slot.unset).toArray = ls at hl ⊢
  have hl : lv_has ls 3 [(0, .int a0), (1, .int a1)] := hl
  unfold f_X8_joinedBy at ho
  refine lv_iconst (v := 1) hx hb dX8_joinedBy_0 (by decide) ?_
  refine r_getsN S F B F.low.1 (by decide) dX8_joinedBy_1 ?_
  refine lv_iload_n hx hb dX8_joinedBy_4 rfl (lv_at hl 0 rfl) ?_
  obtain ⟨hi, ho⟩ := gd_ ho
  refine r_ti S B F.low.2 hi dX8_joinedBy_5 ?_
  refine lv_ishl hx hb dX8_joinedBy_6 ?_
  refine lv_iconst (v := 1) hx hb dX8_joinedBy_7 (by decide) ?_
  refine r_getsN S F B F.upp.1 (by decide) dX8_joinedBy_8 ?_
  refine lv_iload_n hx hb dX8_joinedBy_11 rfl (lv_at hl 0 rfl) ?_
  obtain ⟨hi, ho⟩ := gd_ ho
  refine r_ti S B F.upp.2 hi dX8_joinedBy_12 ?_
  refine lv_ishl hx hb dX8_joinedBy_13 ?_
  refine lv_ior hx hb dX8_joinedBy_14 ?_
  obtain ⟨x1, ex1, ho⟩ := lt_ ho
  refine lv_nm ex1 ?_
  refine lv_istore_n (lv' := [(2, .int x1), (0, .int a0), (1, .int a1)]) hx hb dX8_joinedBy_15 rfl hl (by decide) rfl (fun ls hl => ?_)
  refine lv_iload_n hx hb dX8_joinedBy_16 rfl (lv_at hl 2 rfl) ?_
  refine lv_iload_n hx hb dX8_joinedBy_17 rfl (lv_at hl 0 rfl) ?_
  refine lv_iand hx hb dX8_joinedBy_18 ?_
  refine lv_if_eq (tgt := 26) hx hb dX8_joinedBy_19 (by decide) (fun c2 => ?_) (fun c2 => ?_)
  · have ho := ip_ c2 ho
    refine lv_iconst (v := 0) hx hb dX8_joinedBy_26 (by decide) ?_
    cases ho
    exact e_i B hx hb hr hlocks rfl rfl dX8_joinedBy_27
  · have ho := in_ c2 ho
    refine lv_iload_n hx hb dX8_joinedBy_22 rfl (lv_at hl 0 rfl) ?_
    refine lv_goto (tgt := 27) hx hb dX8_joinedBy_23 (by decide) ?_
    cases ho
    exact e_i B hx hb hr hlocks rfl rfl dX8_joinedBy_27

set_option maxHeartbeats 4000000 in
set_option maxRecDepth 100000 in
theorem c_X8_widened (l : Launch) (G : Gd) (σ : Mm) (sz : Nat) (a0 : Int32) {out : Int32} (ho : f_X8_widened a0 σ = some out) : Met l yX8_widened wsX8_widened { frames := 1, cells := 0, slots := 0, locals := 22 } (va_Pc [.int a0] (PW G σ sz)) (Qi G sz out σ) 0 0 (AA G sz) := by
  refine Met.ofW (cc := cX8_widened) (maxL := 3) (ret := (some .int)) (by decide) rfl ?_
  intro p e s m args below meth c s₁ B0 hml hv
  obtain ⟨rfl, hpw⟩ := hv
  have hsz := hpw.1
  subst hsz
  obtain ⟨F, B⟩ := hpw.to
  have hx := B0.exec
  have hb := B0.bytes
  have hr := B0.returns
  have hts := atoms_spec (ws := wsX8_widened) B0.pre
  have hown : s.vm.findClass RX8 = some m.cls := findClass_of_methodNamed B0.named
  have hlocks := B0.notSynchronized
  have S : CallFix p m c cX8_widened 3 s _ wsX8_widened RX8 := ⟨hx, hb, hml, hown, hts⟩
  have hl := lv_entry [.int a0] (n := 3) (Nat.le_of_ble_eq_true rfl)
  rw [lg_entry_eq]
  generalize (lg_sl [.int a0] ++ List.replicate (3 - (lg_sl [.int a0]).length) Slot.unset).toArray = ls at hl ⊢
  have hl : lv_has ls 3 [(0, .int a0)] := hl
  unfold f_X8_widened at ho
  skip
  refine lv_iload_n hx hb dX8_widened_0 rfl (lv_at hl 0 rfl) ?_
  refine lv_istore_n (lv' := [(1, .int a0), (0, .int a0)]) hx hb dX8_widened_1 rfl hl (by decide) rfl (fun ls hl => ?_)
  refine lv_iconst (v := 0) hx hb dX8_widened_2 (by decide) ?_
  refine lv_istore_n (lv' := [(2, .int 0), (1, .int a0), (0, .int a0)]) hx hb dX8_widened_3 rfl hl (by decide) rfl (fun ls hl => ?_)
  have hloop4 : ∀ (n : Nat) (v4 : Int32) (v5 : Int32) (H : Heap) (locs : List Loc) (ls : Array Slot), f_X8_widened_l4  a0 σ n v4 v5 = some out → Bd G σ s H locs → lv_has ls 3 [(2, .int v4), (1, .int v5), (0, .int a0)] → W p l e (headSpec wsX8_widened { frames := 1, cells := 0, slots := 0, locals := 22 }).room s m #[.int a0] below meth c H locs 0 0 (MQ below (Qi G s.heap.size out σ) #[.int a0] s 0 0 (AA G s.heap.size)) (F0 m 4 ls []) := by
    intro n
    induction n with
    | zero => intro v4 v5 H locs ls ho B hl; cases ho
    | succ n ih =>
      intro v4 v5 H locs ls ho B hl
      refine lv_iload_n hx hb dX8_widened_4 rfl (lv_at hl 0 rfl) ?_
      refine lv_bipush (v := 24) hx hb dX8_widened_5 (by decide) ?_
      refine lv_icmp_ge (tgt := 24) hx hb dX8_widened_7 (by decide) (fun c6 => ?_) (fun c6 => ?_)
      · have ho := ip_ c6 ho
        refine lv_iload_n hx hb dX8_widened_24 rfl (lv_at hl 1 rfl) ?_
        cases ho
        exact e_i B hx hb hr hlocks rfl rfl dX8_widened_25
      · have ho := in_ c6 ho
        refine lv_iload_n hx hb dX8_widened_10 rfl (lv_at hl 1 rfl) ?_
        refine lv_iload_n hx hb dX8_widened_11 rfl (lv_at hl 0 rfl) ?_
        refine lv_iload_n hx hb dX8_widened_12 rfl (lv_at hl 2 rfl) ?_
        obtain ⟨q7, hq7, ho⟩ := bnd_ ho
        refine k_iS (As := [.int v4, .int a0]) (rest := [.int v5]) S F B (c_X8_joinedBy l G σ _ v4 a0 hq7) (va_cwS 2 hts gX8_widened_X8_joinedBy rfl rfl rfl (by decide +kernel) ⟨Nat.le_of_ble_eq_true rfl, Nat.le_of_ble_eq_true rfl⟩) rfl hl.1 rfl (Nat.le_of_ble_eq_true rfl) dX8_widened_13 ⟨Nat.le_of_ble_eq_true rfl, Nat.le_of_ble_eq_true rfl⟩ (fun H locs B => ?_)
        refine lv_ior hx hb dX8_widened_16 ?_
        obtain ⟨x8, ex8, ho⟩ := lt_ ho
        refine lv_nm ex8 ?_
        refine lv_istore_n (lv' := [(1, .int x8), (2, .int v4), (0, .int a0)]) hx hb dX8_widened_17 rfl hl (by decide) rfl (fun ls hl => ?_)
        obtain ⟨x9, ex9, ho⟩ := lt_ ho
        refine lv_iinc (v := x9) (lv' := [(2, .int x9), (1, .int x8), (0, .int a0)]) hx hb dX8_widened_18 hl (k := 1) rfl (by rw [ex9]; rfl) (by decide) rfl (fun ls hl => ?_)
        refine lv_goto (tgt := 4) hx hb dX8_widened_21 (by decide) ?_
        exact ih _ _  _ _ _ ho B (lv_sub hl [0, 1, 2] rfl)
  exact hloop4 30 _ _  _ _ _ ho B hl

set_option maxHeartbeats 4000000 in
set_option maxRecDepth 100000 in
theorem c_X8_holdsExit (l : Launch) (G : Gd) (σ : Mm) (sz : Nat) (a0 : Int32) {out : Int32} (ho : f_X8_holdsExit a0 σ = some out) : Met l yX8_holdsExit wsX8_holdsExit { frames := 0, cells := 0, slots := 0, locals := 0 } (va_Pc [.int a0] (PW G σ sz)) (Qi G sz out σ) 0 0 (AA G sz) := by
  refine Met.ofW (cc := cX8_holdsExit) (maxL := 1) (ret := (some .boolean)) (by decide) rfl ?_
  intro p e s m args below meth c s₁ B0 hml hv
  obtain ⟨rfl, hpw⟩ := hv
  have hsz := hpw.1
  subst hsz
  obtain ⟨F, B⟩ := hpw.to
  have hx := B0.exec
  have hb := B0.bytes
  have hr := B0.returns
  have hts := atoms_spec (ws := wsX8_holdsExit) B0.pre
  have hown : s.vm.findClass RX8 = some m.cls := findClass_of_methodNamed B0.named
  have hlocks := B0.notSynchronized
  have S : CallFix p m c cX8_holdsExit 1 s _ wsX8_holdsExit RX8 := ⟨hx, hb, hml, hown, hts⟩
  have hl := lv_entry [.int a0] (n := 1) (Nat.le_of_ble_eq_true rfl)
  rw [lg_entry_eq]
  generalize (lg_sl [.int a0] ++ List.replicate (1 - (lg_sl [.int a0]).length) Slot.unset).toArray = ls at hl ⊢
  have hl : lv_has ls 1 [(0, .int a0)] := hl
  unfold f_X8_holdsExit at ho
  refine lv_iload_n hx hb dX8_holdsExit_0 rfl (lv_at hl 0 rfl) ?_
  refine lv_ldc (v := 32768) hx hb hown (hts _ (by decide +kernel)) dX8_holdsExit_1 ?_
  refine lv_iand hx hb dX8_holdsExit_3 ?_
  refine lv_if_eq (tgt := 11) hx hb dX8_holdsExit_4 (by decide) (fun c1 => ?_) (fun c1 => ?_)
  · have ho := ip_ c1 ho
    refine lv_iconst (v := 0) hx hb dX8_holdsExit_11 (by decide) ?_
    cases ho
    exact e_i B hx hb hr hlocks rfl rfl dX8_holdsExit_12
  · have ho := in_ c1 ho
    refine lv_iconst (v := 1) hx hb dX8_holdsExit_7 (by decide) ?_
    refine lv_goto (tgt := 12) hx hb dX8_holdsExit_8 (by decide) ?_
    cases ho
    exact e_i B hx hb hr hlocks rfl rfl dX8_holdsExit_12

set_option maxHeartbeats 4000000 in
set_option maxRecDepth 100000 in
theorem c_X8_flood (l : Launch) (G : Gd) (σ : Mm) (sz : Nat) (a0 : Int32) (a1 : Int32) (a2 : Int32) {out : Int32} (ho : f_X8_flood a0 a1 a2 σ = some out) : Met l yX8_flood wsX8_flood { frames := 1, cells := 0, slots := 0, locals := 22 } (va_Pc [.ref (G.2.2 158), .int a0, .int a1, .int a2] (PW G σ sz)) (Qi G sz out σ) 0 0 (AA G sz) := by
  refine Met.ofW (cc := cX8_flood) (maxL := 8) (ret := (some .int)) (by decide) rfl ?_
  intro p e s m args below meth c s₁ B0 hml hv
  obtain ⟨rfl, hpw⟩ := hv
  have hsz := hpw.1
  subst hsz
  obtain ⟨F, B⟩ := hpw.to
  have hx := B0.exec
  have hb := B0.bytes
  have hr := B0.returns
  have hts := atoms_spec (ws := wsX8_flood) B0.pre
  have hown : s.vm.findClass RX8 = some m.cls := findClass_of_methodNamed B0.named
  have hlocks := B0.notSynchronized
  have S : CallFix p m c cX8_flood 8 s _ wsX8_flood RX8 := ⟨hx, hb, hml, hown, hts⟩
  have hiX8 : ∀ w ∈ u_ws RX8 TX8 3, w ∈ wsX8_flood := by decide +kernel
  have hl := lv_entry [.ref (G.2.2 158), .int a0, .int a1, .int a2] (n := 8) (Nat.le_of_ble_eq_true rfl)
  rw [lg_entry_eq]
  generalize (lg_sl [.ref (G.2.2 158), .int a0, .int a1, .int a2] ++ List.replicate (8 - (lg_sl [.ref (G.2.2 158), .int a0, .int a1, .int a2]).length) Slot.unset).toArray = ls at hl ⊢
  have hl : lv_has ls 8 [(0, .ref (G.2.2 158)), (1, .int a0), (2, .int a1), (3, .int a2)] := hl
  unfold f_X8_flood at ho
  skip
  refine lv_iload_n hx hb dX8_flood_0 rfl (lv_at hl 1 rfl) ?_
  refine lv_istore (lv' := [(4, .int a0), (0, .ref (G.2.2 158)), (1, .int a0), (2, .int a1), (3, .int a2)]) hx hb dX8_flood_1 hl (by decide) rfl (fun ls hl => ?_)
  refine lv_iconst (v := 0) hx hb dX8_flood_3 (by decide) ?_
  refine lv_istore (lv' := [(5, .int 0), (4, .int a0), (0, .ref (G.2.2 158)), (1, .int a0), (2, .int a1), (3, .int a2)]) hx hb dX8_flood_4 hl (by decide) rfl (fun ls hl => ?_)
  refine lv_iconst (v := 0) hx hb dX8_flood_6 (by decide) ?_
  refine lv_istore (lv' := [(6, .int 0), (5, .int 0), (4, .int a0), (0, .ref (G.2.2 158)), (1, .int a0), (2, .int a1), (3, .int a2)]) hx hb dX8_flood_7 hl (by decide) rfl (fun ls hl => ?_)
  have hloop9 : ∀ (n : Nat) (v5 : Int32) (v6 : Int32) (v7 : Int32) (H : Heap) (locs : List Loc) (ls : Array Slot), f_X8_flood_l9  a0 a1 a2 σ n v5 v6 v7 = some out → Bd G σ s H locs → lv_has ls 8 [(6, .int v5), (5, .int v6), (4, .int v7), (0, .ref (G.2.2 158)), (1, .int a0), (2, .int a1), (3, .int a2)] → W p l e (headSpec wsX8_flood { frames := 1, cells := 0, slots := 0, locals := 22 }).room s m #[.ref (G.2.2 158), .int a0, .int a1, .int a2] below meth c H locs 0 0 (MQ below (Qi G s.heap.size out σ) #[.ref (G.2.2 158), .int a0, .int a1, .int a2] s 0 0 (AA G s.heap.size)) (F0 m 9 ls []) := by
    intro n
    induction n with
    | zero => intro v5 v6 v7 H locs ls ho B hl; cases ho
    | succ n ih =>
      intro v5 v6 v7 H locs ls ho B hl
      refine lv_iload hx hb dX8_flood_9 (lv_at hl 0 rfl) ?_
      refine lv_bipush (v := 16) hx hb dX8_flood_11 (by decide) ?_
      refine lv_icmp_ge (tgt := 80) hx hb dX8_flood_13 (by decide) (fun c8 => ?_) (fun c8 => ?_)
      · have ho := ip_ c8 ho
        refine lv_iload hx hb dX8_flood_80 (lv_at hl 2 rfl) ?_
        cases ho
        exact e_i B hx hb hr hlocks rfl rfl dX8_flood_82
      · have ho := in_ c8 ho
        refine lv_iload hx hb dX8_flood_16 (lv_at hl 2 rfl) ?_
        refine lv_iload hx hb dX8_flood_18 (lv_at hl 1 rfl) ?_
        refine lv_icmp_eq (tgt := 80) hx hb dX8_flood_20 (by decide) (fun c9 => ?_) (fun c9 => ?_)
        · have ho := ip_ c9 ho
          refine lv_iload hx hb dX8_flood_80 (lv_at hl 2 rfl) ?_
          cases ho
          exact e_i B hx hb hr hlocks rfl rfl dX8_flood_82
        · have ho := in_ c9 ho
          refine lv_iload hx hb dX8_flood_23 (lv_at hl 2 rfl) ?_
          refine lv_istore (lv' := [(5, .int v7), (6, .int v5), (4, .int v7), (0, .ref (G.2.2 158)), (1, .int a0), (2, .int a1), (3, .int a2)]) hx hb dX8_flood_25 hl (by decide) rfl (fun ls hl => ?_)
          refine lv_iconst (v := 0) hx hb dX8_flood_27 (by decide) ?_
          refine lv_istore (lv' := [(7, .int 0), (5, .int v7), (6, .int v5), (4, .int v7), (0, .ref (G.2.2 158)), (1, .int a0), (2, .int a1), (3, .int a2)]) hx hb dX8_flood_28 hl (by decide) rfl (fun ls hl => ?_)
          obtain ⟨K, hK, ho⟩ := lt_ ho
          have hexit30 : ∀ (v10 : Int32) (v11 : Int32) (H : Heap) (locs : List Loc) (ls : Array Slot), K v10 v11 = some out → Bd G σ s H locs → lv_has ls 8 [(7, .int v10), (5, .int v7), (6, .int v5), (4, .int v11), (0, .ref (G.2.2 158)), (1, .int a0), (2, .int a1), (3, .int a2)] → W p l e (headSpec wsX8_flood { frames := 1, cells := 0, slots := 0, locals := 22 }).room s m #[.ref (G.2.2 158), .int a0, .int a1, .int a2] below meth c H locs 0 0 (MQ below (Qi G s.heap.size out σ) #[.ref (G.2.2 158), .int a0, .int a1, .int a2] s 0 0 (AA G s.heap.size)) (F0 m 74 ls []) := by
            intro v10 v11 H locs ls ho B hl
            subst hK
            obtain ⟨x13, ex13, ho⟩ := lt_ ho
            refine lv_iinc (v := x13) (lv' := [(6, .int x13), (7, .int v10), (5, .int v7), (4, .int v11), (0, .ref (G.2.2 158)), (1, .int a0), (2, .int a1), (3, .int a2)]) hx hb dX8_flood_74 hl (k := 2) rfl (by rw [ex13]; rfl) (by decide) rfl (fun ls hl => ?_)
            refine lv_goto (tgt := 9) hx hb dX8_flood_77 (by decide) ?_
            exact ih _ _ _  _ _ _ ho B (lv_sub hl [0, 2, 3, 4, 5, 6, 7] rfl)
          have hloop30 : ∀ (n : Nat) (v14 : Int32) (v15 : Int32) (H : Heap) (locs : List Loc) (ls : Array Slot), f_X8_flood_l30 K v7 v5 a0 a1 a2 σ n v14 v15 = some out → Bd G σ s H locs → lv_has ls 8 [(7, .int v14), (5, .int v7), (6, .int v5), (4, .int v15), (0, .ref (G.2.2 158)), (1, .int a0), (2, .int a1), (3, .int a2)] → W p l e (headSpec wsX8_flood { frames := 1, cells := 0, slots := 0, locals := 22 }).room s m #[.ref (G.2.2 158), .int a0, .int a1, .int a2] below meth c H locs 0 0 (MQ below (Qi G s.heap.size out σ) #[.ref (G.2.2 158), .int a0, .int a1, .int a2] s 0 0 (AA G s.heap.size)) (F0 m 30 ls []) := by
            intro n
            induction n with
            | zero => intro v14 v15 H locs ls ho B hl; cases ho
            | succ n ih =>
              intro v14 v15 H locs ls ho B hl
              refine lv_iload hx hb dX8_flood_30 (lv_at hl 0 rfl) ?_
              refine lv_bipush (v := 24) hx hb dX8_flood_32 (by decide) ?_
              refine lv_icmp_ge (tgt := 74) hx hb dX8_flood_34 (by decide) (fun c16 => ?_) (fun c16 => ?_)
              · have ho := ip_ c16 ho
                exact hexit30 _ _  _ _ _ ho B (lv_sub hl [0, 1, 2, 3, 4, 5, 6, 7] rfl)
              · have ho := in_ c16 ho
                refine lv_iload hx hb dX8_flood_37 (lv_at hl 0 rfl) ?_
                refine lv_iload_n hx hb dX8_flood_39 rfl (lv_at hl 7 rfl) ?_
                refine lv_icmp_eq (tgt := 68) hx hb dX8_flood_40 (by decide) (fun c17 => ?_) (fun c17 => ?_)
                · have ho := ip_ c17 ho
                  obtain ⟨x18, ex18, ho⟩ := lt_ ho
                  refine lv_iinc (v := x18) (lv' := [(7, .int x18), (5, .int v7), (6, .int v5), (4, .int v15), (0, .ref (G.2.2 158)), (1, .int a0), (2, .int a1), (3, .int a2)]) hx hb dX8_flood_68 hl (k := 0) rfl (by rw [ex18]; rfl) (by decide) rfl (fun ls hl => ?_)
                  refine lv_goto (tgt := 30) hx hb dX8_flood_71 (by decide) ?_
                  exact ih _ _  _ _ _ ho B (lv_sub hl [0, 1, 2, 3, 4, 5, 6, 7] rfl)
                · have ho := in_ c17 ho
                  refine lv_aload_n hx hb dX8_flood_43 rfl (lv_at hl 4 rfl) ?_
                  refine r_get (ci := 12) (C := RX8) (T := TX8) (N := 3) S F B (kq (by decide) : kd 158 = 11 ∧ 158 < NN) rfl rfl hiX8 0 (by decide) (by decide +kernel) rfl dX8_flood_44 ?_
                  refine lv_iload hx hb dX8_flood_47 (lv_at hl 0 rfl) ?_
                  obtain ⟨q19, hq19, ho⟩ := bnd_ ho
                  refine k_iV (As := [.int v14]) (rest := []) S F B (c_X4_leavesOf l G σ _ v14 hq19) (kq (by decide) : kd 1 = 1 ∧ 1 < NN) rfl rfl (cwV 1 hts gX8_flood_X4_leavesOf rfl rfl rfl (by decide +kernel) ⟨Nat.le_of_ble_eq_true rfl, Nat.le_of_ble_eq_true rfl⟩) rfl hl.1 rfl (Nat.le_of_ble_eq_true rfl) dX8_flood_49 ⟨Nat.le_of_ble_eq_true rfl, Nat.le_of_ble_eq_true rfl⟩ (fun H locs B => ?_)
                  refine lv_iload_n hx hb dX8_flood_52 rfl (lv_at hl 6 rfl) ?_
                  refine lv_icmp_ge (tgt := 68) hx hb dX8_flood_53 (by decide) (fun c20 => ?_) (fun c20 => ?_)
                  · have ho := ip_ c20 ho
                    obtain ⟨x21, ex21, ho⟩ := lt_ ho
                    refine lv_iinc (v := x21) (lv' := [(7, .int x21), (5, .int v7), (6, .int v5), (4, .int v15), (0, .ref (G.2.2 158)), (1, .int a0), (2, .int a1), (3, .int a2)]) hx hb dX8_flood_68 hl (k := 0) rfl (by rw [ex21]; rfl) (by decide) rfl (fun ls hl => ?_)
                    refine lv_goto (tgt := 30) hx hb dX8_flood_71 (by decide) ?_
                    exact ih _ _  _ _ _ ho B (lv_sub hl [0, 1, 2, 3, 4, 5, 6, 7] rfl)
                  · have ho := in_ c20 ho
                    refine lv_iload hx hb dX8_flood_56 (lv_at hl 3 rfl) ?_
                    refine lv_iload hx hb dX8_flood_58 (lv_at hl 0 rfl) ?_
                    refine lv_iload hx hb dX8_flood_60 (lv_at hl 3 rfl) ?_
                    obtain ⟨q22, hq22, ho⟩ := bnd_ ho
                    refine k_iS (As := [.int v14, .int v15]) (rest := [.int v15]) S F B (c_X8_joinedBy l G σ _ v14 v15 hq22) (va_cwS 2 hts gX8_flood_X8_joinedBy rfl rfl rfl (by decide +kernel) ⟨Nat.le_of_ble_eq_true rfl, Nat.le_of_ble_eq_true rfl⟩) rfl hl.1 rfl (Nat.le_of_ble_eq_true rfl) dX8_flood_62 ⟨Nat.le_of_ble_eq_true rfl, Nat.le_of_ble_eq_true rfl⟩ (fun H locs B => ?_)
                    refine lv_ior hx hb dX8_flood_65 ?_
                    obtain ⟨x23, ex23, ho⟩ := lt_ ho
                    refine lv_nm ex23 ?_
                    refine lv_istore (lv' := [(4, .int x23), (7, .int v14), (5, .int v7), (6, .int v5), (0, .ref (G.2.2 158)), (1, .int a0), (2, .int a1), (3, .int a2)]) hx hb dX8_flood_66 hl (by decide) rfl (fun ls hl => ?_)
                    obtain ⟨x24, ex24, ho⟩ := lt_ ho
                    refine lv_iinc (v := x24) (lv' := [(7, .int x24), (4, .int x23), (5, .int v7), (6, .int v5), (0, .ref (G.2.2 158)), (1, .int a0), (2, .int a1), (3, .int a2)]) hx hb dX8_flood_68 hl (k := 1) rfl (by rw [ex24]; rfl) (by decide) rfl (fun ls hl => ?_)
                    refine lv_goto (tgt := 30) hx hb dX8_flood_71 (by decide) ?_
                    exact ih _ _  _ _ _ ho B (lv_sub hl [0, 2, 3, 1, 4, 5, 6, 7] rfl)
          exact hloop30 30 _ _  _ _ _ ho B hl
  exact hloop9 30 _ _ _  _ _ _ ho B hl

set_option maxHeartbeats 4000000 in
set_option maxRecDepth 100000 in
theorem c_X8_cellsReached (l : Launch) (G : Gd) (σ : Mm) (sz : Nat) (a0 : Int32) {out : Int32} (ho : f_X8_cellsReached a0 σ = some out) : Met l yX8_cellsReached wsX8_cellsReached { frames := 2, cells := 0, slots := 0, locals := 49 } (va_Pc [.ref (G.2.2 158), .int a0] (PW G σ sz)) (Qi G sz out σ) 0 0 (AA G sz) := by
  refine Met.ofW (cc := cX8_cellsReached) (maxL := 2) (ret := (some .int)) (by decide) rfl ?_
  intro p e s m args below meth c s₁ B0 hml hv
  obtain ⟨rfl, hpw⟩ := hv
  have hsz := hpw.1
  subst hsz
  obtain ⟨F, B⟩ := hpw.to
  have hx := B0.exec
  have hb := B0.bytes
  have hr := B0.returns
  have hts := atoms_spec (ws := wsX8_cellsReached) B0.pre
  have hown : s.vm.findClass RX8 = some m.cls := findClass_of_methodNamed B0.named
  have hlocks := B0.notSynchronized
  have S : CallFix p m c cX8_cellsReached 2 s _ wsX8_cellsReached RX8 := ⟨hx, hb, hml, hown, hts⟩
  have hl := lv_entry [.ref (G.2.2 158), .int a0] (n := 2) (Nat.le_of_ble_eq_true rfl)
  rw [lg_entry_eq]
  generalize (lg_sl [.ref (G.2.2 158), .int a0] ++ List.replicate (2 - (lg_sl [.ref (G.2.2 158), .int a0]).length) Slot.unset).toArray = ls at hl ⊢
  have hl : lv_has ls 2 [(0, .ref (G.2.2 158)), (1, .int a0)] := hl
  unfold f_X8_cellsReached at ho
  refine lv_aload_n hx hb dX8_cellsReached_0 rfl (lv_at hl 0 rfl) ?_
  refine lv_iconst (v := 1) hx hb dX8_cellsReached_1 (by decide) ?_
  refine lv_iload_n hx hb dX8_cellsReached_2 rfl (lv_at hl 1 rfl) ?_
  refine lv_ishl hx hb dX8_cellsReached_3 ?_
  refine lv_iconst (v := 5) hx hb dX8_cellsReached_4 (by decide) ?_
  refine lv_iconst (v := (-1)) hx hb dX8_cellsReached_5 (by decide) ?_
  obtain ⟨q1, hq1, ho⟩ := bnd_ ho
  refine k_iV (As := [.int (1 <<< (a0 &&& 31)), .int 5, .int (-1)]) (rest := []) S F B (c_X8_flood l G σ _ (1 <<< (a0 &&& 31)) 5 (-1) hq1) (kq (by decide) : kd 158 = 11 ∧ 158 < NN) rfl rfl (cwV 3 hts gX8_cellsReached_X8_flood rfl rfl rfl (by decide +kernel) ⟨Nat.le_of_ble_eq_true rfl, Nat.le_of_ble_eq_true rfl⟩) rfl hl.1 rfl (Nat.le_of_ble_eq_true rfl) dX8_cellsReached_6 ⟨Nat.le_of_ble_eq_true rfl, Nat.le_of_ble_eq_true rfl⟩ (fun H locs B => ?_)
  cases ho
  exact e_i B hx hb hr hlocks rfl rfl dX8_cellsReached_9

set_option maxHeartbeats 4000000 in
set_option maxRecDepth 100000 in
theorem c_X8_leadsThrough (l : Launch) (G : Gd) (σ : Mm) (sz : Nat) (a0 : Int32) (a1 : Int32) {out : Int32} (ho : f_X8_leadsThrough a0 a1 σ = some out) : Met l yX8_leadsThrough wsX8_leadsThrough { frames := 2, cells := 0, slots := 0, locals := 49 } (va_Pc [.ref (G.2.2 158), .int a0, .int a1] (PW G σ sz)) (Qi G sz out σ) 0 0 (AA G sz) := by
  refine Met.ofW (cc := cX8_leadsThrough) (maxL := 3) (ret := (some .boolean)) (by decide) rfl ?_
  intro p e s m args below meth c s₁ B0 hml hv
  obtain ⟨rfl, hpw⟩ := hv
  have hsz := hpw.1
  subst hsz
  obtain ⟨F, B⟩ := hpw.to
  have hx := B0.exec
  have hb := B0.bytes
  have hr := B0.returns
  have hts := atoms_spec (ws := wsX8_leadsThrough) B0.pre
  have hown : s.vm.findClass RX8 = some m.cls := findClass_of_methodNamed B0.named
  have hlocks := B0.notSynchronized
  have S : CallFix p m c cX8_leadsThrough 3 s _ wsX8_leadsThrough RX8 := ⟨hx, hb, hml, hown, hts⟩
  have hl := lv_entry [.ref (G.2.2 158), .int a0, .int a1] (n := 3) (Nat.le_of_ble_eq_true rfl)
  rw [lg_entry_eq]
  generalize (lg_sl [.ref (G.2.2 158), .int a0, .int a1] ++ List.replicate (3 - (lg_sl [.ref (G.2.2 158), .int a0, .int a1]).length) Slot.unset).toArray = ls at hl ⊢
  have hl : lv_has ls 3 [(0, .ref (G.2.2 158)), (1, .int a0), (2, .int a1)] := hl
  unfold f_X8_leadsThrough at ho
  refine lv_aload_n hx hb dX8_leadsThrough_0 rfl (lv_at hl 0 rfl) ?_
  refine lv_iconst (v := 1) hx hb dX8_leadsThrough_1 (by decide) ?_
  refine lv_iload_n hx hb dX8_leadsThrough_2 rfl (lv_at hl 1 rfl) ?_
  refine lv_iload_n hx hb dX8_leadsThrough_3 rfl (lv_at hl 2 rfl) ?_
  obtain ⟨q1, hq1, ho⟩ := bnd_ ho
  refine k_iV (As := [.int 1, .int a0, .int a1]) (rest := []) S F B (c_X8_flood l G σ _ 1 a0 a1 hq1) (kq (by decide) : kd 158 = 11 ∧ 158 < NN) rfl rfl (cwV 3 hts gX8_leadsThrough_X8_flood rfl rfl rfl (by decide +kernel) ⟨Nat.le_of_ble_eq_true rfl, Nat.le_of_ble_eq_true rfl⟩) rfl hl.1 rfl (Nat.le_of_ble_eq_true rfl) dX8_leadsThrough_4 ⟨Nat.le_of_ble_eq_true rfl, Nat.le_of_ble_eq_true rfl⟩ (fun H locs B => ?_)
  obtain ⟨q2, hq2, ho⟩ := bnd_ ho
  refine k_iS (As := [.int q1]) (rest := []) S F B (c_X8_holdsExit l G σ _ q1 hq2) (va_cwS 1 hts gX8_leadsThrough_X8_holdsExit rfl rfl rfl (by decide +kernel) ⟨Nat.le_of_ble_eq_true rfl, Nat.le_of_ble_eq_true rfl⟩) rfl hl.1 rfl (Nat.le_of_ble_eq_true rfl) dX8_leadsThrough_7 ⟨Nat.le_of_ble_eq_true rfl, Nat.le_of_ble_eq_true rfl⟩ (fun H locs B => ?_)
  obtain ⟨hz, ho⟩ := bz_ ho
  cases ho
  exact e_i B hx hb hr hlocks hz rfl dX8_leadsThrough_10

set_option maxHeartbeats 4000000 in
set_option maxRecDepth 100000 in
theorem c_X8_trimsByNumber (l : Launch) (G : Gd) (σ : Mm) (sz : Nat) (a0 : Int32) {out : Int32} (ho : f_X8_trimsByNumber a0 σ = some out) : Met l yX8_trimsByNumber wsX8_trimsByNumber { frames := 3, cells := 0, slots := 0, locals := 70 } (va_Pc [.ref (G.2.2 158), .int a0] (PW G σ sz)) (Qi G sz out σ) 0 0 (AA G sz) := by
  refine Met.ofW (cc := cX8_trimsByNumber) (maxL := 4) (ret := (some .int)) (by decide) rfl ?_
  intro p e s m args below meth c s₁ B0 hml hv
  obtain ⟨rfl, hpw⟩ := hv
  have hsz := hpw.1
  subst hsz
  obtain ⟨F, B⟩ := hpw.to
  have hx := B0.exec
  have hb := B0.bytes
  have hr := B0.returns
  have hts := atoms_spec (ws := wsX8_trimsByNumber) B0.pre
  have hown : s.vm.findClass RX8 = some m.cls := findClass_of_methodNamed B0.named
  have hlocks := B0.notSynchronized
  have S : CallFix p m c cX8_trimsByNumber 4 s _ wsX8_trimsByNumber RX8 := ⟨hx, hb, hml, hown, hts⟩
  have hl := lv_entry [.ref (G.2.2 158), .int a0] (n := 4) (Nat.le_of_ble_eq_true rfl)
  rw [lg_entry_eq]
  generalize (lg_sl [.ref (G.2.2 158), .int a0] ++ List.replicate (4 - (lg_sl [.ref (G.2.2 158), .int a0]).length) Slot.unset).toArray = ls at hl ⊢
  have hl : lv_has ls 4 [(0, .ref (G.2.2 158)), (1, .int a0)] := hl
  unfold f_X8_trimsByNumber at ho
  skip
  refine lv_aload_n hx hb dX8_trimsByNumber_0 rfl (lv_at hl 0 rfl) ?_
  refine lv_iload_n hx hb dX8_trimsByNumber_1 rfl (lv_at hl 1 rfl) ?_
  obtain ⟨q1, hq1, ho⟩ := bnd_ ho
  refine k_iV (As := [.int a0]) (rest := []) S F B (c_X8_cellsReached l G σ _ a0 hq1) (kq (by decide) : kd 158 = 11 ∧ 158 < NN) rfl rfl (cwV 1 hts gX8_trimsByNumber_X8_cellsReached rfl rfl rfl (by decide +kernel) ⟨Nat.le_of_ble_eq_true rfl, Nat.le_of_ble_eq_true rfl⟩) rfl hl.1 rfl (Nat.le_of_ble_eq_true rfl) dX8_trimsByNumber_2 ⟨Nat.le_of_ble_eq_true rfl, Nat.le_of_ble_eq_true rfl⟩ (fun H locs B => ?_)
  refine lv_istore_n (lv' := [(2, .int q1), (0, .ref (G.2.2 158)), (1, .int a0)]) hx hb dX8_trimsByNumber_5 rfl hl (by decide) rfl (fun ls hl => ?_)
  refine lv_iconst (v := 0) hx hb dX8_trimsByNumber_6 (by decide) ?_
  refine lv_istore_n (lv' := [(3, .int 0), (2, .int q1), (0, .ref (G.2.2 158)), (1, .int a0)]) hx hb dX8_trimsByNumber_7 rfl hl (by decide) rfl (fun ls hl => ?_)
  have hloop8 : ∀ (n : Nat) (v5 : Int32) (v6 : Int32) (H : Heap) (locs : List Loc) (ls : Array Slot), f_X8_trimsByNumber_l8  a0 σ n v5 v6 = some out → Bd G σ s H locs → lv_has ls 4 [(3, .int v5), (2, .int v6), (0, .ref (G.2.2 158)), (1, .int a0)] → W p l e (headSpec wsX8_trimsByNumber { frames := 3, cells := 0, slots := 0, locals := 70 }).room s m #[.ref (G.2.2 158), .int a0] below meth c H locs 0 0 (MQ below (Qi G s.heap.size out σ) #[.ref (G.2.2 158), .int a0] s 0 0 (AA G s.heap.size)) (F0 m 8 ls []) := by
    intro n
    induction n with
    | zero => intro v5 v6 H locs ls ho B hl; cases ho
    | succ n ih =>
      intro v5 v6 H locs ls ho B hl
      refine lv_iload_n hx hb dX8_trimsByNumber_8 rfl (lv_at hl 0 rfl) ?_
      refine lv_bipush (v := 24) hx hb dX8_trimsByNumber_9 (by decide) ?_
      refine lv_icmp_ge (tgt := 38) hx hb dX8_trimsByNumber_11 (by decide) (fun c7 => ?_) (fun c7 => ?_)
      · have ho := ip_ c7 ho
        refine lv_iload_n hx hb dX8_trimsByNumber_38 rfl (lv_at hl 0 rfl) ?_
        cases ho
        exact e_i B hx hb hr hlocks rfl rfl dX8_trimsByNumber_39
      · have ho := in_ c7 ho
        refine lv_iload_n hx hb dX8_trimsByNumber_14 rfl (lv_at hl 1 rfl) ?_
        obtain ⟨q8, hq8, ho⟩ := bnd_ ho
        refine k_iS (As := [.int v6]) (rest := []) S F B (c_X8_holdsExit l G σ _ v6 hq8) (va_cwS 1 hts gX8_trimsByNumber_X8_holdsExit rfl rfl rfl (by decide +kernel) ⟨Nat.le_of_ble_eq_true rfl, Nat.le_of_ble_eq_true rfl⟩) rfl hl.1 rfl (Nat.le_of_ble_eq_true rfl) dX8_trimsByNumber_15 ⟨Nat.le_of_ble_eq_true rfl, Nat.le_of_ble_eq_true rfl⟩ (fun H locs B => ?_)
        refine lv_if_ne (tgt := 38) hx hb dX8_trimsByNumber_18 (by decide) (fun c9 => ?_) (fun c9 => ?_)
        · have ho := in_ c9 ho
          refine lv_iload_n hx hb dX8_trimsByNumber_38 rfl (lv_at hl 0 rfl) ?_
          cases ho
          exact e_i B hx hb hr hlocks rfl rfl dX8_trimsByNumber_39
        · have ho := ip_ c9 ho
          refine lv_aload_n hx hb dX8_trimsByNumber_21 rfl (lv_at hl 2 rfl) ?_
          refine lv_iload_n hx hb dX8_trimsByNumber_22 rfl (lv_at hl 1 rfl) ?_
          obtain ⟨q10, hq10, ho⟩ := bnd_ ho
          refine k_iS (As := [.int v6]) (rest := [.ref (G.2.2 158)]) S F B (c_X8_widened l G σ _ v6 hq10) (va_cwS 1 hts gX8_trimsByNumber_X8_widened rfl rfl rfl (by decide +kernel) ⟨Nat.le_of_ble_eq_true rfl, Nat.le_of_ble_eq_true rfl⟩) rfl hl.1 rfl (Nat.le_of_ble_eq_true rfl) dX8_trimsByNumber_23 ⟨Nat.le_of_ble_eq_true rfl, Nat.le_of_ble_eq_true rfl⟩ (fun H locs B => ?_)
          refine lv_iconst (v := 5) hx hb dX8_trimsByNumber_26 (by decide) ?_
          refine lv_iconst (v := (-1)) hx hb dX8_trimsByNumber_27 (by decide) ?_
          obtain ⟨q11, hq11, ho⟩ := bnd_ ho
          refine k_iV (As := [.int q10, .int 5, .int (-1)]) (rest := []) S F B (c_X8_flood l G σ _ q10 5 (-1) hq11) (kq (by decide) : kd 158 = 11 ∧ 158 < NN) rfl rfl (cwV 3 hts gX8_trimsByNumber_X8_flood rfl rfl rfl (by decide +kernel) ⟨Nat.le_of_ble_eq_true rfl, Nat.le_of_ble_eq_true rfl⟩) rfl hl.1 rfl (Nat.le_of_ble_eq_true rfl) dX8_trimsByNumber_28 ⟨Nat.le_of_ble_eq_true rfl, Nat.le_of_ble_eq_true rfl⟩ (fun H locs B => ?_)
          refine lv_istore_n (lv' := [(2, .int q11), (3, .int v5), (0, .ref (G.2.2 158)), (1, .int a0)]) hx hb dX8_trimsByNumber_31 rfl hl (by decide) rfl (fun ls hl => ?_)
          obtain ⟨x12, ex12, ho⟩ := lt_ ho
          refine lv_iinc (v := x12) (lv' := [(3, .int x12), (2, .int q11), (0, .ref (G.2.2 158)), (1, .int a0)]) hx hb dX8_trimsByNumber_32 hl (k := 1) rfl (by rw [ex12]; rfl) (by decide) rfl (fun ls hl => ?_)
          refine lv_goto (tgt := 8) hx hb dX8_trimsByNumber_35 (by decide) ?_
          exact ih _ _  _ _ _ ho B (lv_sub hl [0, 1, 2, 3] rfl)
  exact hloop8 30 _ _  _ _ _ ho B hl
