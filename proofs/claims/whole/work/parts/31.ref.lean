set_option maxHeartbeats 4000000 in
set_option maxRecDepth 100000 in
theorem c_X10_thrown (l : Launch) (G : Gd) (σ : Mm) (sz : Nat) {out : Int32} (ho : f_X10_thrown σ = some out) : Met l yX10_thrown wsX10_thrown { frames := 0, cells := 0, slots := 0, locals := 0 } (va_Pc [.ref (G.2.2 198)] (PW G σ sz)) (Qi G sz out σ) 0 0 (AA G sz) := by
  refine Met.ofW (cc := cX10_thrown) (maxL := 1) (ret := (some .int)) (by decide) rfl ?_
  intro p e s m args below meth c s₁ B0 hml hv
  obtain ⟨rfl, hpw⟩ := hv
  have hsz := hpw.1
  subst hsz
  obtain ⟨F, B⟩ := hpw.to
  have hx := B0.exec
  have hb := B0.bytes
  have hr := B0.returns
  have hts := atoms_spec (ws := wsX10_thrown) B0.pre
  have hown : s.vm.findClass RX10 = some m.cls := findClass_of_methodNamed B0.named
  have hlocks := B0.notSynchronized
  have S : CallFix p m c cX10_thrown 1 s _ wsX10_thrown RX10 := ⟨hx, hb, hml, hown, hts⟩
  have hiX10 : ∀ w ∈ u_ws RX10 TX10 21, w ∈ wsX10_thrown := by decide +kernel
  have hl := lv_entry [.ref (G.2.2 198)] (n := 1) (Nat.le_of_ble_eq_true rfl)
  rw [lg_entry_eq]
  generalize (lg_sl [.ref (G.2.2 198)] ++ List.replicate (1 - (lg_sl [.ref (G.2.2 198)]).length) Slot.unset).toArray = ls at hl ⊢
  have hl : lv_has ls 1 [(0, .ref (G.2.2 198))] := hl
  unfold f_X10_thrown at ho
  refine lv_aload_n hx hb dX10_thrown_0 rfl (lv_at hl 0 rfl) ?_
  refine r_get (ci := 14) (C := RX10) (T := TX10) (N := 21) S F B (kq (by decide) : kd 198 = 21 ∧ 198 < NN) rfl rfl hiX10 12 (by decide) (by decide +kernel) rfl dX10_thrown_1 ?_
  cases ho
  exact e_i B hx hb hr hlocks rfl rfl dX10_thrown_4

set_option maxHeartbeats 4000000 in
set_option maxRecDepth 100000 in
theorem c_X10_throwing (l : Launch) (G : Gd) (σ : Mm) (sz : Nat) (a0 : Int32) {out : Int32 × Mm} (ho : f_X10_throwing a0 σ = some out) : Met l yX10_throwing wsX10_throwing { frames := 0, cells := 0, slots := 0, locals := 0 } (va_Pc [.ref (G.2.2 198), .int a0] (PW G σ sz)) (Qi G sz out.1 out.2) 0 0 (AA G sz) := by
  refine Met.ofW (cc := cX10_throwing) (maxL := 2) (ret := (some .int)) (by decide) rfl ?_
  intro p e s m args below meth c s₁ B0 hml hv
  obtain ⟨rfl, hpw⟩ := hv
  have hsz := hpw.1
  subst hsz
  obtain ⟨F, B⟩ := hpw.to
  have hx := B0.exec
  have hb := B0.bytes
  have hr := B0.returns
  have hts := atoms_spec (ws := wsX10_throwing) B0.pre
  have hown : s.vm.findClass RX10 = some m.cls := findClass_of_methodNamed B0.named
  have hlocks := B0.notSynchronized
  have S : CallFix p m c cX10_throwing 2 s _ wsX10_throwing RX10 := ⟨hx, hb, hml, hown, hts⟩
  have hiX10 : ∀ w ∈ u_ws RX10 TX10 21, w ∈ wsX10_throwing := by decide +kernel
  have hl := lv_entry [.ref (G.2.2 198), .int a0] (n := 2) (Nat.le_of_ble_eq_true rfl)
  rw [lg_entry_eq]
  generalize (lg_sl [.ref (G.2.2 198), .int a0] ++ List.replicate (2 - (lg_sl [.ref (G.2.2 198), .int a0]).length) Slot.unset).toArray = ls at hl ⊢
  have hl : lv_has ls 2 [(0, .ref (G.2.2 198)), (1, .int a0)] := hl
  unfold f_X10_throwing at ho
  refine lv_aload_n hx hb dX10_throwing_0 rfl (lv_at hl 0 rfl) ?_
  refine lv_iload_n hx hb dX10_throwing_1 rfl (lv_at hl 1 rfl) ?_
  refine r_put (ci := 14) (C := RX10) (T := TX10) (N := 21) (ty := .int) S F B tyX10 tyX10_ok nmX10 (kq (by decide) : kd 198 = 21 ∧ 198 < NN) (fun _ => rfl) rfl hiX10 12 (by decide) (by decide +kernel) rfl rfl rfl rfl (fun _ => Nat.le_of_ble_eq_true rfl) (fun _ => rfl) dX10_throwing_2 (fun H locs B => ?_)
  obtain ⟨σ1, eσ1, ho⟩ := lt_ ho
  rw [← eσ1] at B
  refine lv_iconst (v := (-1)) hx hb dX10_throwing_5 (by decide) ?_
  cases ho
  exact e_i B hx hb hr hlocks rfl rfl dX10_throwing_6

set_option maxHeartbeats 4000000 in
set_option maxRecDepth 100000 in
theorem c_X10_in (l : Launch) (G : Gd) (σ : Mm) (sz : Nat) (a0 : Int64) (a1 : Int64) (a2 : Int64) {out : Int32} (ho : f_X10_in a0 a1 a2 σ = some out) : Met l yX10_in wsX10_in { frames := 0, cells := 0, slots := 0, locals := 0 } (va_Pc [.long a0, .long a1, .long a2] (PW G σ sz)) (Qi G sz out σ) 0 0 (AA G sz) := by
  refine Met.ofW (cc := cX10_in) (maxL := 6) (ret := (some .boolean)) (by decide) rfl ?_
  intro p e s m args below meth c s₁ B0 hml hv
  obtain ⟨rfl, hpw⟩ := hv
  have hsz := hpw.1
  subst hsz
  obtain ⟨F, B⟩ := hpw.to
  have hx := B0.exec
  have hb := B0.bytes
  have hr := B0.returns
  have hts := atoms_spec (ws := wsX10_in) B0.pre
  have hown : s.vm.findClass RX10 = some m.cls := findClass_of_methodNamed B0.named
  have hlocks := B0.notSynchronized
  have S : CallFix p m c cX10_in 6 s _ wsX10_in RX10 := ⟨hx, hb, hml, hown, hts⟩
  have hl := lv_entry [.long a0, .long a1, .long a2] (n := 6) (Nat.le_of_ble_eq_true rfl)
  rw [lg_entry_eq]
  generalize (lg_sl [.long a0, .long a1, .long a2] ++ List.replicate (6 - (lg_sl [.long a0, .long a1, .long a2]).length) Slot.unset).toArray = ls at hl ⊢
  have hl : lv_has ls 6 [(0, .long a0), (2, .long a1), (4, .long a2)] := hl
  unfold f_X10_in at ho
  refine lv_lload_n hx hb dX10_in_0 rfl (lv_at hl 0 rfl) ?_
  refine lv_lload_n hx hb dX10_in_1 rfl (lv_at hl 1 rfl) ?_
  refine W.lcmp hx hb dX10_in_2 ?_
  refine lv_if_lt (tgt := 17) hx hb dX10_in_3 (by decide) (fun c1 => ?_) (fun c1 => ?_)
  · have ho := ip_ c1 ho
    refine lv_iconst (v := 0) hx hb dX10_in_17 (by decide) ?_
    cases ho
    exact e_i B hx hb hr hlocks rfl rfl dX10_in_18
  · have ho := in_ c1 ho
    refine lv_lload_n hx hb dX10_in_6 rfl (lv_at hl 0 rfl) ?_
    refine lv_lload hx hb dX10_in_7 (lv_at hl 2 rfl) ?_
    refine W.lcmp hx hb dX10_in_9 ?_
    refine lv_if_gt (tgt := 17) hx hb dX10_in_10 (by decide) (fun c2 => ?_) (fun c2 => ?_)
    · have ho := ip_ c2 ho
      refine lv_iconst (v := 0) hx hb dX10_in_17 (by decide) ?_
      cases ho
      exact e_i B hx hb hr hlocks rfl rfl dX10_in_18
    · have ho := in_ c2 ho
      refine lv_iconst (v := 1) hx hb dX10_in_13 (by decide) ?_
      refine lv_goto (tgt := 18) hx hb dX10_in_14 (by decide) ?_
      cases ho
      exact e_i B hx hb hr hlocks rfl rfl dX10_in_18

set_option maxHeartbeats 4000000 in
set_option maxRecDepth 100000 in
theorem c_X10_refuse (l : Launch) (G : Gd) (σ : Mm) (sz : Nat) (a0 : Int32) (a1 : Int32) {out : Int32 × Mm} (ho : f_X10_refuse a0 a1 σ = some out) : Met l yX10_refuse wsX10_refuse { frames := 1, cells := 0, slots := 0, locals := 21 } (va_Pc [.ref (G.2.2 198), .int a0, .int a1] (PW G σ sz)) (Qi G sz out.1 out.2) 0 0 (AA G sz) := by
  refine Met.ofW (cc := cX10_refuse) (maxL := 3) (ret := (some .int)) (by decide) rfl ?_
  intro p e s m args below meth c s₁ B0 hml hv
  obtain ⟨rfl, hpw⟩ := hv
  have hsz := hpw.1
  subst hsz
  obtain ⟨F, B⟩ := hpw.to
  have hx := B0.exec
  have hb := B0.bytes
  have hr := B0.returns
  have hts := atoms_spec (ws := wsX10_refuse) B0.pre
  have hown : s.vm.findClass RX10 = some m.cls := findClass_of_methodNamed B0.named
  have hlocks := B0.notSynchronized
  have S : CallFix p m c cX10_refuse 3 s _ wsX10_refuse RX10 := ⟨hx, hb, hml, hown, hts⟩
  have hiX10 : ∀ w ∈ u_ws RX10 TX10 21, w ∈ wsX10_refuse := by decide +kernel
  have hl := lv_entry [.ref (G.2.2 198), .int a0, .int a1] (n := 3) (Nat.le_of_ble_eq_true rfl)
  rw [lg_entry_eq]
  generalize (lg_sl [.ref (G.2.2 198), .int a0, .int a1] ++ List.replicate (3 - (lg_sl [.ref (G.2.2 198), .int a0, .int a1]).length) Slot.unset).toArray = ls at hl ⊢
  have hl : lv_has ls 3 [(0, .ref (G.2.2 198)), (1, .int a0), (2, .int a1)] := hl
  unfold f_X10_refuse at ho
  refine lv_aload_n hx hb dX10_refuse_0 rfl (lv_at hl 0 rfl) ?_
  refine lv_iload_n hx hb dX10_refuse_1 rfl (lv_at hl 1 rfl) ?_
  refine r_put (ci := 14) (C := RX10) (T := TX10) (N := 21) (ty := .int) S F B tyX10 tyX10_ok nmX10 (kq (by decide) : kd 198 = 21 ∧ 198 < NN) (fun _ => rfl) rfl hiX10 6 (by decide) (by decide +kernel) rfl rfl rfl rfl (fun _ => Nat.le_of_ble_eq_true rfl) (fun _ => rfl) dX10_refuse_2 (fun H locs B => ?_)
  obtain ⟨σ1, eσ1, ho⟩ := lt_ ho
  rw [← eσ1] at B
  refine lv_aload_n hx hb dX10_refuse_5 rfl (lv_at hl 0 rfl) ?_
  refine lv_iload_n hx hb dX10_refuse_6 rfl (lv_at hl 2 rfl) ?_
  refine r_put (ci := 14) (C := RX10) (T := TX10) (N := 21) (ty := .int) S F B tyX10 tyX10_ok nmX10 (kq (by decide) : kd 198 = 21 ∧ 198 < NN) (fun _ => rfl) rfl hiX10 7 (by decide) (by decide +kernel) rfl rfl rfl rfl (fun _ => Nat.le_of_ble_eq_true rfl) (fun _ => rfl) dX10_refuse_7 (fun H locs B => ?_)
  obtain ⟨σ2, eσ2, ho⟩ := lt_ ho
  rw [← eσ2] at B
  refine lv_aload_n hx hb dX10_refuse_10 rfl (lv_at hl 0 rfl) ?_
  refine lv_iconst (v := 0) hx hb dX10_refuse_11 (by decide) ?_
  refine r_put (ci := 14) (C := RX10) (T := TX10) (N := 21) (ty := .int) S F B tyX10 tyX10_ok nmX10 (kq (by decide) : kd 198 = 21 ∧ 198 < NN) (fun _ => rfl) rfl hiX10 8 (by decide) (by decide +kernel) rfl rfl rfl rfl (fun _ => Nat.le_of_ble_eq_true rfl) (fun _ => rfl) dX10_refuse_12 (fun H locs B => ?_)
  obtain ⟨σ3, eσ3, ho⟩ := lt_ ho
  rw [← eσ3] at B
  refine lv_aload_n hx hb dX10_refuse_15 rfl (lv_at hl 0 rfl) ?_
  refine lv_iconst (v := 1) hx hb dX10_refuse_16 (by decide) ?_
  obtain ⟨q4, σ5, hq4, ho⟩ := bnm_ ho
  refine k_iV (As := [.int 1]) (rest := []) S F B (c_X10_throwing l G σ3 _ 1 hq4) (kq (by decide) : kd 198 = 21 ∧ 198 < NN) rfl rfl (cwV 1 hts gX10_refuse_X10_throwing rfl rfl rfl (by decide +kernel) ⟨Nat.le_of_ble_eq_true rfl, Nat.le_of_ble_eq_true rfl⟩) rfl hl.1 rfl (Nat.le_of_ble_eq_true rfl) dX10_refuse_17 ⟨Nat.le_of_ble_eq_true rfl, Nat.le_of_ble_eq_true rfl⟩ (fun H locs B => ?_)
  cases ho
  exact e_i B hx hb hr hlocks rfl rfl dX10_refuse_20

set_option maxHeartbeats 4000000 in
set_option maxRecDepth 100000 in
theorem c_X10_starts (l : Launch) (G : Gd) (σ : Mm) (sz : Nat) {out : Mm} (ho : f_X10_starts σ = some out) : Met l yX10_starts wsX10_starts { frames := 0, cells := 0, slots := 0, locals := 0 } (va_Pc [.ref (G.2.2 198)] (PW G σ sz)) (Qv G sz out) 0 0 (AA G sz) := by
  refine Met.ofW (cc := cX10_starts) (maxL := 2) (ret := none) (by decide) rfl ?_
  intro p e s m args below meth c s₁ B0 hml hv
  obtain ⟨rfl, hpw⟩ := hv
  have hsz := hpw.1
  subst hsz
  obtain ⟨F, B⟩ := hpw.to
  have hx := B0.exec
  have hb := B0.bytes
  have hr := B0.returns
  have hts := atoms_spec (ws := wsX10_starts) B0.pre
  have hown : s.vm.findClass RX10 = some m.cls := findClass_of_methodNamed B0.named
  have hlocks := B0.notSynchronized
  have S : CallFix p m c cX10_starts 2 s _ wsX10_starts RX10 := ⟨hx, hb, hml, hown, hts⟩
  have hiX10 : ∀ w ∈ u_ws RX10 TX10 21, w ∈ wsX10_starts := by decide +kernel
  have hl := lv_entry [.ref (G.2.2 198)] (n := 2) (Nat.le_of_ble_eq_true rfl)
  rw [lg_entry_eq]
  generalize (lg_sl [.ref (G.2.2 198)] ++ List.replicate (2 - (lg_sl [.ref (G.2.2 198)]).length) Slot.unset).toArray = ls at hl ⊢
  have hl : lv_has ls 2 [(0, .ref (G.2.2 198))] := hl
  unfold f_X10_starts at ho
  skip
  refine lv_aload_n hx hb dX10_starts_0 rfl (lv_at hl 0 rfl) ?_
  refine lv_iconst (v := 0) hx hb dX10_starts_1 (by decide) ?_
  refine r_put (ci := 14) (C := RX10) (T := TX10) (N := 21) (ty := .int) S F B tyX10 tyX10_ok nmX10 (kq (by decide) : kd 198 = 21 ∧ 198 < NN) (fun _ => rfl) rfl hiX10 12 (by decide) (by decide +kernel) rfl rfl rfl rfl (fun _ => Nat.le_of_ble_eq_true rfl) (fun _ => rfl) dX10_starts_2 (fun H locs B => ?_)
  obtain ⟨σ1, eσ1, ho⟩ := lt_ ho
  rw [← eσ1] at B
  refine lv_iconst (v := 0) hx hb dX10_starts_5 (by decide) ?_
  refine lv_istore_n (lv' := [(1, .int 0), (0, .ref (G.2.2 198))]) hx hb dX10_starts_6 rfl hl (by decide) rfl (fun ls hl => ?_)
  have hloop7 : ∀ (n : Nat) (v5 : Int32) (σ6 : Mm) (H : Heap) (locs : List Loc) (ls : Array Slot), f_X10_starts_l7   n v5 σ6 = some out → Bd G σ6 s H locs → lv_has ls 2 [(1, .int v5), (0, .ref (G.2.2 198))] → W p l e (headSpec wsX10_starts { frames := 0, cells := 0, slots := 0, locals := 0 }).room s m #[.ref (G.2.2 198)] below meth c H locs 0 0 (MQ below (Qv G s.heap.size out) #[.ref (G.2.2 198)] s 0 0 (AA G s.heap.size)) (F0 m 7 ls []) := by
    intro n
    induction n with
    | zero => intro v5 σ6 H locs ls ho B hl; cases ho
    | succ n ih =>
      intro v5 σ6 H locs ls ho B hl
      refine lv_iload_n hx hb dX10_starts_7 rfl (lv_at hl 0 rfl) ?_
      refine lv_bipush (v := 86) hx hb dX10_starts_8 (by decide) ?_
      refine lv_icmp_ge (tgt := 31) hx hb dX10_starts_10 (by decide) (fun c7 => ?_) (fun c7 => ?_)
      · have ho := ip_ c7 ho
        cases ho
        exact e_v B hx hb hr hlocks dX10_starts_31
      · have ho := in_ c7 ho
        refine lv_aload_n hx hb dX10_starts_13 rfl (lv_at hl 1 rfl) ?_
        refine r_get (ci := 14) (C := RX10) (T := TX10) (N := 21) S F B (kq (by decide) : kd 198 = 21 ∧ 198 < NN) rfl rfl hiX10 1 (by decide) (by decide +kernel) rfl dX10_starts_14 ?_
        refine lv_iload_n hx hb dX10_starts_17 rfl (lv_at hl 0 rfl) ?_
        refine lv_aload_n hx hb dX10_starts_18 rfl (lv_at hl 1 rfl) ?_
        refine r_get (ci := 14) (C := RX10) (T := TX10) (N := 21) S F B (kq (by decide) : kd 198 = 21 ∧ 198 < NN) rfl rfl hiX10 0 (by decide) (by decide +kernel) rfl dX10_starts_19 ?_
        refine lv_iload_n hx hb dX10_starts_22 rfl (lv_at hl 0 rfl) ?_
        obtain ⟨hi, ho⟩ := gd_ ho
        refine r_iald S F B (kq (by decide) : kd 199 = 22 ∧ 199 < NN) rfl hi dX10_starts_23 ?_
        obtain ⟨hi, ho⟩ := gd_ ho
        refine r_iast S F B (kq (by decide) : kd 200 = 22 ∧ 200 < NN) (fun _ => rfl) hi dX10_starts_24 (fun H locs B => ?_)
        obtain ⟨σ8, eσ8, ho⟩ := lt_ ho
        rw [← eσ8] at B
        obtain ⟨x9, ex9, ho⟩ := lt_ ho
        refine lv_iinc (v := x9) (lv' := [(1, .int x9), (0, .ref (G.2.2 198))]) hx hb dX10_starts_25 hl (k := 0) rfl (by rw [ex9]; rfl) (by decide) rfl (fun ls hl => ?_)
        refine lv_goto (tgt := 7) hx hb dX10_starts_28 (by decide) ?_
        exact ih _ _ _ _ _ ho B (lv_sub hl [0, 1] rfl)
  exact hloop7 90 _ _ _ _ _ ho B hl

set_option maxHeartbeats 4000000 in
set_option maxRecDepth 100000 in
theorem c_X10_changed (l : Launch) (G : Gd) (σ : Mm) (sz : Nat) (a0 : Int32) {out : Int32 × Mm} (ho : f_X10_changed a0 σ = some out) : Met l yX10_changed wsX10_changed { frames := 0, cells := 0, slots := 0, locals := 0 } (va_Pc [.ref (G.2.2 198), .int a0] (PW G σ sz)) (Qi G sz out.1 out.2) 0 0 (AA G sz) := by
  refine Met.ofW (cc := cX10_changed) (maxL := 3) (ret := (some .int)) (by decide) rfl ?_
  intro p e s m args below meth c s₁ B0 hml hv
  obtain ⟨rfl, hpw⟩ := hv
  have hsz := hpw.1
  subst hsz
  obtain ⟨F, B⟩ := hpw.to
  have hx := B0.exec
  have hb := B0.bytes
  have hr := B0.returns
  have hts := atoms_spec (ws := wsX10_changed) B0.pre
  have hown : s.vm.findClass RX10 = some m.cls := findClass_of_methodNamed B0.named
  have hlocks := B0.notSynchronized
  have S : CallFix p m c cX10_changed 3 s _ wsX10_changed RX10 := ⟨hx, hb, hml, hown, hts⟩
  have hiX10 : ∀ w ∈ u_ws RX10 TX10 21, w ∈ wsX10_changed := by decide +kernel
  have hl := lv_entry [.ref (G.2.2 198), .int a0] (n := 3) (Nat.le_of_ble_eq_true rfl)
  rw [lg_entry_eq]
  generalize (lg_sl [.ref (G.2.2 198), .int a0] ++ List.replicate (3 - (lg_sl [.ref (G.2.2 198), .int a0]).length) Slot.unset).toArray = ls at hl ⊢
  have hl : lv_has ls 3 [(0, .ref (G.2.2 198)), (1, .int a0)] := hl
  unfold f_X10_changed at ho
  skip
  refine lv_aload_n hx hb dX10_changed_0 rfl (lv_at hl 0 rfl) ?_
  refine r_get (ci := 14) (C := RX10) (T := TX10) (N := 21) S F B (kq (by decide) : kd 198 = 21 ∧ 198 < NN) rfl rfl hiX10 12 (by decide) (by decide +kernel) rfl dX10_changed_1 ?_
  refine lv_if_le (tgt := 9) hx hb dX10_changed_4 (by decide) (fun c1 => ?_) (fun c1 => ?_)
  · have ho := ip_ c1 ho
    refine lv_aload_n hx hb dX10_changed_9 rfl (lv_at hl 0 rfl) ?_
    refine r_get (ci := 14) (C := RX10) (T := TX10) (N := 21) S F B (kq (by decide) : kd 198 = 21 ∧ 198 < NN) rfl rfl hiX10 5 (by decide) (by decide +kernel) rfl dX10_changed_10 ?_
    refine lv_bipush (v := 8) hx hb dX10_changed_13 (by decide) ?_
    refine lv_icmp_ne (tgt := 58) hx hb dX10_changed_15 (by decide) (fun c2 => ?_) (fun c2 => ?_)
    · have ho := in_ c2 ho
      refine lv_iconst (v := 0) hx hb dX10_changed_58 (by decide) ?_
      refine lv_istore_n (lv' := [(2, .int 0), (0, .ref (G.2.2 198)), (1, .int a0)]) hx hb dX10_changed_59 rfl hl (by decide) rfl (fun ls hl => ?_)
      have hloop60 : ∀ (n : Nat) (v6 : Int32) (σ7 : Mm) (H : Heap) (locs : List Loc) (ls : Array Slot), f_X10_changed_l60  a0 n v6 σ7 = some out → Bd G σ7 s H locs → lv_has ls 3 [(2, .int v6), (0, .ref (G.2.2 198)), (1, .int a0)] → W p l e (headSpec wsX10_changed { frames := 0, cells := 0, slots := 0, locals := 0 }).room s m #[.ref (G.2.2 198), .int a0] below meth c H locs 0 0 (MQ below (Qi G s.heap.size out.1 out.2) #[.ref (G.2.2 198), .int a0] s 0 0 (AA G s.heap.size)) (F0 m 60 ls []) := by
        intro n
        induction n with
        | zero => intro v6 σ7 H locs ls ho B hl; cases ho
        | succ n ih =>
          intro v6 σ7 H locs ls ho B hl
          refine lv_iload_n hx hb dX10_changed_60 rfl (lv_at hl 0 rfl) ?_
          refine lv_bipush (v := 86) hx hb dX10_changed_61 (by decide) ?_
          refine lv_icmp_ge (tgt := 92) hx hb dX10_changed_63 (by decide) (fun c8 => ?_) (fun c8 => ?_)
          · have ho := ip_ c8 ho
            refine lv_aload_n hx hb dX10_changed_92 rfl (lv_at hl 1 rfl) ?_
            refine lv_dup hx hb dX10_changed_93 rfl ?_
            refine r_get (ci := 14) (C := RX10) (T := TX10) (N := 21) S F B (kq (by decide) : kd 198 = 21 ∧ 198 < NN) rfl rfl hiX10 5 (by decide) (by decide +kernel) rfl dX10_changed_94 ?_
            refine lv_iconst (v := 1) hx hb dX10_changed_97 (by decide) ?_
            refine lv_iadd hx hb dX10_changed_98 ?_
            refine r_put (ci := 14) (C := RX10) (T := TX10) (N := 21) (ty := .int) S F B tyX10 tyX10_ok nmX10 (kq (by decide) : kd 198 = 21 ∧ 198 < NN) (fun _ => rfl) rfl hiX10 5 (by decide) (by decide +kernel) rfl rfl rfl rfl (fun _ => Nat.le_of_ble_eq_true rfl) (fun _ => rfl) dX10_changed_99 (fun H locs B => ?_)
            obtain ⟨σ9, eσ9, ho⟩ := lt_ ho
            rw [← eσ9] at B
            refine lv_iload_n hx hb dX10_changed_102 rfl (lv_at hl 2 rfl) ?_
            cases ho
            exact e_i B hx hb hr hlocks rfl rfl dX10_changed_103
          · have ho := in_ c8 ho
            refine lv_aload_n hx hb dX10_changed_66 rfl (lv_at hl 1 rfl) ?_
            refine r_get (ci := 14) (C := RX10) (T := TX10) (N := 21) S F B (kq (by decide) : kd 198 = 21 ∧ 198 < NN) rfl rfl hiX10 4 (by decide) (by decide +kernel) rfl dX10_changed_67 ?_
            refine lv_bipush (v := 86) hx hb dX10_changed_70 (by decide) ?_
            refine lv_aload_n hx hb dX10_changed_72 rfl (lv_at hl 1 rfl) ?_
            refine r_get (ci := 14) (C := RX10) (T := TX10) (N := 21) S F B (kq (by decide) : kd 198 = 21 ∧ 198 < NN) rfl rfl hiX10 5 (by decide) (by decide +kernel) rfl dX10_changed_73 ?_
            refine lv_imul hx hb dX10_changed_76 ?_
            refine lv_iload_n hx hb dX10_changed_77 rfl (lv_at hl 0 rfl) ?_
            refine lv_iadd hx hb dX10_changed_78 ?_
            refine lv_aload_n hx hb dX10_changed_79 rfl (lv_at hl 1 rfl) ?_
            refine r_get (ci := 14) (C := RX10) (T := TX10) (N := 21) S F B (kq (by decide) : kd 198 = 21 ∧ 198 < NN) rfl rfl hiX10 1 (by decide) (by decide +kernel) rfl dX10_changed_80 ?_
            refine lv_iload_n hx hb dX10_changed_83 rfl (lv_at hl 0 rfl) ?_
            obtain ⟨hi, ho⟩ := gd_ ho
            refine r_iald S F B (kq (by decide) : kd 200 = 22 ∧ 200 < NN) rfl hi dX10_changed_84 ?_
            obtain ⟨hi, ho⟩ := gd_ ho
            refine r_iast S F B (kq (by decide) : kd 202 = 23 ∧ 202 < NN) (fun _ => rfl) hi dX10_changed_85 (fun H locs B => ?_)
            obtain ⟨σ10, eσ10, ho⟩ := lt_ ho
            rw [← eσ10] at B
            obtain ⟨x11, ex11, ho⟩ := lt_ ho
            refine lv_iinc (v := x11) (lv' := [(2, .int x11), (0, .ref (G.2.2 198)), (1, .int a0)]) hx hb dX10_changed_86 hl (k := 0) rfl (by rw [ex11]; rfl) (by decide) rfl (fun ls hl => ?_)
            refine lv_goto (tgt := 60) hx hb dX10_changed_89 (by decide) ?_
            exact ih _ _ _ _ _ ho B (lv_sub hl [0, 1, 2] rfl)
      exact hloop60 700 _ _ _ _ _ ho B hl
    · have ho := ip_ c2 ho
      refine lv_iconst (v := 0) hx hb dX10_changed_18 (by decide) ?_
      refine lv_istore_n (lv' := [(2, .int 0), (0, .ref (G.2.2 198)), (1, .int a0)]) hx hb dX10_changed_19 rfl hl (by decide) rfl (fun ls hl => ?_)
      obtain ⟨K, hK, ho⟩ := lt_ ho
      have hexit20 : ∀ (v12 : Int32) (σ13 : Mm) (H : Heap) (locs : List Loc) (ls : Array Slot), K v12 σ13 = some out → Bd G σ13 s H locs → lv_has ls 3 [(2, .int v12), (0, .ref (G.2.2 198)), (1, .int a0)] → W p l e (headSpec wsX10_changed { frames := 0, cells := 0, slots := 0, locals := 0 }).room s m #[.ref (G.2.2 198), .int a0] below meth c H locs 0 0 (MQ below (Qi G s.heap.size out.1 out.2) #[.ref (G.2.2 198), .int a0] s 0 0 (AA G s.heap.size)) (F0 m 48 ls []) := by
        intro v12 σ13 H locs ls ho B hl
        subst hK
        refine lv_aload_n hx hb dX10_changed_48 rfl (lv_at hl 1 rfl) ?_
        refine lv_dup hx hb dX10_changed_49 rfl ?_
        refine r_get (ci := 14) (C := RX10) (T := TX10) (N := 21) S F B (kq (by decide) : kd 198 = 21 ∧ 198 < NN) rfl rfl hiX10 5 (by decide) (by decide +kernel) rfl dX10_changed_50 ?_
        refine lv_iconst (v := 1) hx hb dX10_changed_53 (by decide) ?_
        refine lv_isub hx hb dX10_changed_54 ?_
        refine r_put (ci := 14) (C := RX10) (T := TX10) (N := 21) (ty := .int) S F B tyX10 tyX10_ok nmX10 (kq (by decide) : kd 198 = 21 ∧ 198 < NN) (fun _ => rfl) rfl hiX10 5 (by decide) (by decide +kernel) rfl rfl rfl rfl (fun _ => Nat.le_of_ble_eq_true rfl) (fun _ => rfl) dX10_changed_55 (fun H locs B => ?_)
        obtain ⟨σ15, eσ15, ho⟩ := lt_ ho
        rw [← eσ15] at B
        refine lv_iconst (v := 0) hx hb dX10_changed_58 (by decide) ?_
        refine lv_istore_n (lv' := [(2, .int 0), (0, .ref (G.2.2 198)), (1, .int a0)]) hx hb dX10_changed_59 rfl hl (by decide) rfl (fun ls hl => ?_)
        have hloop60 : ∀ (n : Nat) (v19 : Int32) (σ20 : Mm) (H : Heap) (locs : List Loc) (ls : Array Slot), f_X10_changed_l60b  a0 n v19 σ20 = some out → Bd G σ20 s H locs → lv_has ls 3 [(2, .int v19), (0, .ref (G.2.2 198)), (1, .int a0)] → W p l e (headSpec wsX10_changed { frames := 0, cells := 0, slots := 0, locals := 0 }).room s m #[.ref (G.2.2 198), .int a0] below meth c H locs 0 0 (MQ below (Qi G s.heap.size out.1 out.2) #[.ref (G.2.2 198), .int a0] s 0 0 (AA G s.heap.size)) (F0 m 60 ls []) := by
          intro n
          induction n with
          | zero => intro v19 σ20 H locs ls ho B hl; cases ho
          | succ n ih =>
            intro v19 σ20 H locs ls ho B hl
            refine lv_iload_n hx hb dX10_changed_60 rfl (lv_at hl 0 rfl) ?_
            refine lv_bipush (v := 86) hx hb dX10_changed_61 (by decide) ?_
            refine lv_icmp_ge (tgt := 92) hx hb dX10_changed_63 (by decide) (fun c21 => ?_) (fun c21 => ?_)
            · have ho := ip_ c21 ho
              refine lv_aload_n hx hb dX10_changed_92 rfl (lv_at hl 1 rfl) ?_
              refine lv_dup hx hb dX10_changed_93 rfl ?_
              refine r_get (ci := 14) (C := RX10) (T := TX10) (N := 21) S F B (kq (by decide) : kd 198 = 21 ∧ 198 < NN) rfl rfl hiX10 5 (by decide) (by decide +kernel) rfl dX10_changed_94 ?_
              refine lv_iconst (v := 1) hx hb dX10_changed_97 (by decide) ?_
              refine lv_iadd hx hb dX10_changed_98 ?_
              refine r_put (ci := 14) (C := RX10) (T := TX10) (N := 21) (ty := .int) S F B tyX10 tyX10_ok nmX10 (kq (by decide) : kd 198 = 21 ∧ 198 < NN) (fun _ => rfl) rfl hiX10 5 (by decide) (by decide +kernel) rfl rfl rfl rfl (fun _ => Nat.le_of_ble_eq_true rfl) (fun _ => rfl) dX10_changed_99 (fun H locs B => ?_)
              obtain ⟨σ22, eσ22, ho⟩ := lt_ ho
              rw [← eσ22] at B
              refine lv_iload_n hx hb dX10_changed_102 rfl (lv_at hl 2 rfl) ?_
              cases ho
              exact e_i B hx hb hr hlocks rfl rfl dX10_changed_103
            · have ho := in_ c21 ho
              refine lv_aload_n hx hb dX10_changed_66 rfl (lv_at hl 1 rfl) ?_
              refine r_get (ci := 14) (C := RX10) (T := TX10) (N := 21) S F B (kq (by decide) : kd 198 = 21 ∧ 198 < NN) rfl rfl hiX10 4 (by decide) (by decide +kernel) rfl dX10_changed_67 ?_
              refine lv_bipush (v := 86) hx hb dX10_changed_70 (by decide) ?_
              refine lv_aload_n hx hb dX10_changed_72 rfl (lv_at hl 1 rfl) ?_
              refine r_get (ci := 14) (C := RX10) (T := TX10) (N := 21) S F B (kq (by decide) : kd 198 = 21 ∧ 198 < NN) rfl rfl hiX10 5 (by decide) (by decide +kernel) rfl dX10_changed_73 ?_
              refine lv_imul hx hb dX10_changed_76 ?_
              refine lv_iload_n hx hb dX10_changed_77 rfl (lv_at hl 0 rfl) ?_
              refine lv_iadd hx hb dX10_changed_78 ?_
              refine lv_aload_n hx hb dX10_changed_79 rfl (lv_at hl 1 rfl) ?_
              refine r_get (ci := 14) (C := RX10) (T := TX10) (N := 21) S F B (kq (by decide) : kd 198 = 21 ∧ 198 < NN) rfl rfl hiX10 1 (by decide) (by decide +kernel) rfl dX10_changed_80 ?_
              refine lv_iload_n hx hb dX10_changed_83 rfl (lv_at hl 0 rfl) ?_
              obtain ⟨hi, ho⟩ := gd_ ho
              refine r_iald S F B (kq (by decide) : kd 200 = 22 ∧ 200 < NN) rfl hi dX10_changed_84 ?_
              obtain ⟨hi, ho⟩ := gd_ ho
              refine r_iast S F B (kq (by decide) : kd 202 = 23 ∧ 202 < NN) (fun _ => rfl) hi dX10_changed_85 (fun H locs B => ?_)
              obtain ⟨σ23, eσ23, ho⟩ := lt_ ho
              rw [← eσ23] at B
              obtain ⟨x24, ex24, ho⟩ := lt_ ho
              refine lv_iinc (v := x24) (lv' := [(2, .int x24), (0, .ref (G.2.2 198)), (1, .int a0)]) hx hb dX10_changed_86 hl (k := 0) rfl (by rw [ex24]; rfl) (by decide) rfl (fun ls hl => ?_)
              refine lv_goto (tgt := 60) hx hb dX10_changed_89 (by decide) ?_
              exact ih _ _ _ _ _ ho B (lv_sub hl [0, 1, 2] rfl)
        exact hloop60 700 _ _ _ _ _ ho B hl
      have hloop20 : ∀ (n : Nat) (v25 : Int32) (σ26 : Mm) (H : Heap) (locs : List Loc) (ls : Array Slot), f_X10_changed_l20 K a0 n v25 σ26 = some out → Bd G σ26 s H locs → lv_has ls 3 [(2, .int v25), (0, .ref (G.2.2 198)), (1, .int a0)] → W p l e (headSpec wsX10_changed { frames := 0, cells := 0, slots := 0, locals := 0 }).room s m #[.ref (G.2.2 198), .int a0] below meth c H locs 0 0 (MQ below (Qi G s.heap.size out.1 out.2) #[.ref (G.2.2 198), .int a0] s 0 0 (AA G s.heap.size)) (F0 m 20 ls []) := by
        intro n
        induction n with
        | zero => intro v25 σ26 H locs ls ho B hl; cases ho
        | succ n ih =>
          intro v25 σ26 H locs ls ho B hl
          refine lv_iload_n hx hb dX10_changed_20 rfl (lv_at hl 0 rfl) ?_
          refine lv_sipush (v := 602) hx hb dX10_changed_21 (by decide) ?_
          refine lv_icmp_ge (tgt := 48) hx hb dX10_changed_24 (by decide) (fun c27 => ?_) (fun c27 => ?_)
          · have ho := ip_ c27 ho
            exact hexit20 _ _ _ _ _ ho B (lv_sub hl [0, 1, 2] rfl)
          · have ho := in_ c27 ho
            refine lv_aload_n hx hb dX10_changed_27 rfl (lv_at hl 1 rfl) ?_
            refine r_get (ci := 14) (C := RX10) (T := TX10) (N := 21) S F B (kq (by decide) : kd 198 = 21 ∧ 198 < NN) rfl rfl hiX10 4 (by decide) (by decide +kernel) rfl dX10_changed_28 ?_
            refine lv_iload_n hx hb dX10_changed_31 rfl (lv_at hl 0 rfl) ?_
            refine lv_aload_n hx hb dX10_changed_32 rfl (lv_at hl 1 rfl) ?_
            refine r_get (ci := 14) (C := RX10) (T := TX10) (N := 21) S F B (kq (by decide) : kd 198 = 21 ∧ 198 < NN) rfl rfl hiX10 4 (by decide) (by decide +kernel) rfl dX10_changed_33 ?_
            refine lv_iload_n hx hb dX10_changed_36 rfl (lv_at hl 0 rfl) ?_
            refine lv_bipush (v := 86) hx hb dX10_changed_37 (by decide) ?_
            refine lv_iadd hx hb dX10_changed_39 ?_
            obtain ⟨hi, ho⟩ := gd_ ho
            refine r_iald S F B (kq (by decide) : kd 202 = 23 ∧ 202 < NN) rfl hi dX10_changed_40 ?_
            obtain ⟨hi, ho⟩ := gd_ ho
            refine r_iast S F B (kq (by decide) : kd 202 = 23 ∧ 202 < NN) (fun _ => rfl) hi dX10_changed_41 (fun H locs B => ?_)
            obtain ⟨σ28, eσ28, ho⟩ := lt_ ho
            rw [← eσ28] at B
            obtain ⟨x29, ex29, ho⟩ := lt_ ho
            refine lv_iinc (v := x29) (lv' := [(2, .int x29), (0, .ref (G.2.2 198)), (1, .int a0)]) hx hb dX10_changed_42 hl (k := 0) rfl (by rw [ex29]; rfl) (by decide) rfl (fun ls hl => ?_)
            refine lv_goto (tgt := 20) hx hb dX10_changed_45 (by decide) ?_
            exact ih _ _ _ _ _ ho B (lv_sub hl [0, 1, 2] rfl)
      exact hloop20 700 _ _ _ _ _ ho B hl
  · have ho := in_ c1 ho
    refine lv_iload_n hx hb dX10_changed_7 rfl (lv_at hl 1 rfl) ?_
    cases ho
    exact e_i B hx hb hr hlocks rfl rfl dX10_changed_8

set_option maxHeartbeats 4000000 in
set_option maxRecDepth 100000 in
theorem c_X10_isCell (l : Launch) (G : Gd) (σ : Mm) (sz : Nat) (a0 : Int32) {out : Int32} (ho : f_X10_isCell a0 σ = some out) : Met l yX10_isCell wsX10_isCell { frames := 1, cells := 0, slots := 0, locals := 25 } (va_Pc [.int a0] (PW G σ sz)) (Qi G sz out σ) 0 0 (AA G sz) := by
  refine Met.ofW (cc := cX10_isCell) (maxL := 1) (ret := (some .boolean)) (by decide) rfl ?_
  intro p e s m args below meth c s₁ B0 hml hv
  obtain ⟨rfl, hpw⟩ := hv
  have hsz := hpw.1
  subst hsz
  obtain ⟨F, B⟩ := hpw.to
  have hx := B0.exec
  have hb := B0.bytes
  have hr := B0.returns
  have hts := atoms_spec (ws := wsX10_isCell) B0.pre
  have hown : s.vm.findClass RX10 = some m.cls := findClass_of_methodNamed B0.named
  have hlocks := B0.notSynchronized
  have S : CallFix p m c cX10_isCell 1 s _ wsX10_isCell RX10 := ⟨hx, hb, hml, hown, hts⟩
  have hl := lv_entry [.int a0] (n := 1) (Nat.le_of_ble_eq_true rfl)
  rw [lg_entry_eq]
  generalize (lg_sl [.int a0] ++ List.replicate (1 - (lg_sl [.int a0]).length) Slot.unset).toArray = ls at hl ⊢
  have hl : lv_has ls 1 [(0, .int a0)] := hl
  unfold f_X10_isCell at ho
  refine lv_iload_n hx hb dX10_isCell_0 rfl (lv_at hl 0 rfl) ?_
  refine lv_i2l hx hb dX10_isCell_1 rfl ?_
  refine lv_lconst (v := 0) hx hb dX10_isCell_2 (by decide) ?_
  refine lv_ldc2 (v := 15) hx hb hown (hts _ (by decide +kernel)) dX10_isCell_3 ?_
  obtain ⟨q1, hq1, ho⟩ := bnd_ ho
  refine k_iS (As := [.long a0.toInt64, .long 0, .long 15]) (rest := []) S F B (c_X10_in l G σ _ a0.toInt64 0 15 hq1) (va_cwS 3 hts gX10_isCell_X10_in rfl rfl rfl (by decide +kernel) ⟨Nat.le_of_ble_eq_true rfl, Nat.le_of_ble_eq_true rfl⟩) rfl hl.1 rfl (Nat.le_of_ble_eq_true rfl) dX10_isCell_6 ⟨Nat.le_of_ble_eq_true rfl, Nat.le_of_ble_eq_true rfl⟩ (fun H locs B => ?_)
  obtain ⟨hz, ho⟩ := bz_ ho
  cases ho
  exact e_i B hx hb hr hlocks hz rfl dX10_isCell_9

set_option maxHeartbeats 4000000 in
set_option maxRecDepth 100000 in
theorem c_X10_nextTo (l : Launch) (G : Gd) (σ : Mm) (sz : Nat) (a0 : Int32) (a1 : Int32) {out : Int32} (ho : f_X10_nextTo a0 a1 σ = some out) : Met l yX10_nextTo wsX10_nextTo { frames := 1, cells := 0, slots := 0, locals := 25 } (va_Pc [.int a0, .int a1] (PW G σ sz)) (Qi G sz out σ) 0 0 (AA G sz) := by
  refine Met.ofW (cc := cX10_nextTo) (maxL := 4) (ret := (some .int)) (by decide) rfl ?_
  intro p e s m args below meth c s₁ B0 hml hv
  obtain ⟨rfl, hpw⟩ := hv
  have hsz := hpw.1
  subst hsz
  obtain ⟨F, B⟩ := hpw.to
  have hx := B0.exec
  have hb := B0.bytes
  have hr := B0.returns
  have hts := atoms_spec (ws := wsX10_nextTo) B0.pre
  have hown : s.vm.findClass RX10 = some m.cls := findClass_of_methodNamed B0.named
  have hlocks := B0.notSynchronized
  have S : CallFix p m c cX10_nextTo 4 s _ wsX10_nextTo RX10 := ⟨hx, hb, hml, hown, hts⟩
  have hl := lv_entry [.int a0, .int a1] (n := 4) (Nat.le_of_ble_eq_true rfl)
  rw [lg_entry_eq]
  generalize (lg_sl [.int a0, .int a1] ++ List.replicate (4 - (lg_sl [.int a0, .int a1]).length) Slot.unset).toArray = ls at hl ⊢
  have hl : lv_has ls 4 [(0, .int a0), (1, .int a1)] := hl
  unfold f_X10_nextTo at ho
  refine lv_iload_n hx hb dX10_nextTo_0 rfl (lv_at hl 0 rfl) ?_
  refine lv_iconst (v := 4) hx hb dX10_nextTo_1 (by decide) ?_
  refine lv_idiv hx hb dX10_nextTo_2 (by decide) ?_
  refine lv_iload_n hx hb dX10_nextTo_3 rfl (lv_at hl 1 rfl) ?_
  refine lv_if_ne (tgt := 11) hx hb dX10_nextTo_4 (by decide) (fun c1 => ?_) (fun c1 => ?_)
  · have ho := in_ c1 ho
    refine lv_iload_n hx hb dX10_nextTo_11 rfl (lv_at hl 1 rfl) ?_
    refine lv_iconst (v := 2) hx hb dX10_nextTo_12 (by decide) ?_
    refine lv_icmp_ne (tgt := 20) hx hb dX10_nextTo_13 (by decide) (fun c2 => ?_) (fun c2 => ?_)
    · have ho := in_ c2 ho
      refine lv_iconst (v := 0) hx hb dX10_nextTo_20 (by decide) ?_
      refine lv_iadd hx hb dX10_nextTo_21 ?_
      obtain ⟨x3, ex3, ho⟩ := lt_ ho
      refine lv_nm ex3 ?_
      refine lv_istore_n (lv' := [(2, .int x3), (0, .int a0), (1, .int a1)]) hx hb dX10_nextTo_22 rfl hl (by decide) rfl (fun ls hl => ?_)
      refine lv_iload_n hx hb dX10_nextTo_23 rfl (lv_at hl 1 rfl) ?_
      refine lv_iconst (v := 4) hx hb dX10_nextTo_24 (by decide) ?_
      refine lv_irem hx hb dX10_nextTo_25 (by decide) ?_
      refine lv_iload_n hx hb dX10_nextTo_26 rfl (lv_at hl 2 rfl) ?_
      refine lv_iconst (v := 1) hx hb dX10_nextTo_27 (by decide) ?_
      refine lv_icmp_ne (tgt := 35) hx hb dX10_nextTo_28 (by decide) (fun c4 => ?_) (fun c4 => ?_)
      · have ho := in_ c4 ho
        refine lv_iload_n hx hb dX10_nextTo_35 rfl (lv_at hl 2 rfl) ?_
        refine lv_iconst (v := 3) hx hb dX10_nextTo_36 (by decide) ?_
        refine lv_icmp_ne (tgt := 44) hx hb dX10_nextTo_37 (by decide) (fun c5 => ?_) (fun c5 => ?_)
        · have ho := in_ c5 ho
          refine lv_iconst (v := 0) hx hb dX10_nextTo_44 (by decide) ?_
          refine lv_iadd hx hb dX10_nextTo_45 ?_
          obtain ⟨x6, ex6, ho⟩ := lt_ ho
          refine lv_nm ex6 ?_
          refine lv_istore_n (lv' := [(3, .int x6), (2, .int x3), (0, .int a0), (1, .int a1)]) hx hb dX10_nextTo_46 rfl hl (by decide) rfl (fun ls hl => ?_)
          refine lv_iload_n hx hb dX10_nextTo_47 rfl (lv_at hl 1 rfl) ?_
          refine lv_i2l hx hb dX10_nextTo_48 rfl ?_
          refine lv_lconst (v := 0) hx hb dX10_nextTo_49 (by decide) ?_
          refine lv_ldc2 (v := 3) hx hb hown (hts _ (by decide +kernel)) dX10_nextTo_50 ?_
          obtain ⟨q7, hq7, ho⟩ := bnd_ ho
          refine k_iS (As := [.long x3.toInt64, .long 0, .long 3]) (rest := []) S F B (c_X10_in l G σ _ x3.toInt64 0 3 hq7) (va_cwS 3 hts gX10_nextTo_X10_in rfl rfl rfl (by decide +kernel) ⟨Nat.le_of_ble_eq_true rfl, Nat.le_of_ble_eq_true rfl⟩) rfl hl.1 rfl (Nat.le_of_ble_eq_true rfl) dX10_nextTo_53 ⟨Nat.le_of_ble_eq_true rfl, Nat.le_of_ble_eq_true rfl⟩ (fun H locs B => ?_)
          refine lv_if_eq (tgt := 79) hx hb dX10_nextTo_56 (by decide) (fun c8 => ?_) (fun c8 => ?_)
          · have ho := ip_ c8 ho
            refine lv_iconst (v := (-1)) hx hb dX10_nextTo_79 (by decide) ?_
            cases ho
            exact e_i B hx hb hr hlocks rfl rfl dX10_nextTo_80
          · have ho := in_ c8 ho
            refine lv_iload_n hx hb dX10_nextTo_59 rfl (lv_at hl 0 rfl) ?_
            refine lv_i2l hx hb dX10_nextTo_60 rfl ?_
            refine lv_lconst (v := 0) hx hb dX10_nextTo_61 (by decide) ?_
            refine lv_ldc2 (v := 3) hx hb hown (hts _ (by decide +kernel)) dX10_nextTo_62 ?_
            obtain ⟨q9, hq9, ho⟩ := bnd_ ho
            refine k_iS (As := [.long x6.toInt64, .long 0, .long 3]) (rest := []) S F B (c_X10_in l G σ _ x6.toInt64 0 3 hq9) (va_cwS 3 hts gX10_nextTo_X10_in rfl rfl rfl (by decide +kernel) ⟨Nat.le_of_ble_eq_true rfl, Nat.le_of_ble_eq_true rfl⟩) rfl hl.1 rfl (Nat.le_of_ble_eq_true rfl) dX10_nextTo_65 ⟨Nat.le_of_ble_eq_true rfl, Nat.le_of_ble_eq_true rfl⟩ (fun H locs B => ?_)
            refine lv_if_eq (tgt := 79) hx hb dX10_nextTo_68 (by decide) (fun c10 => ?_) (fun c10 => ?_)
            · have ho := ip_ c10 ho
              refine lv_iconst (v := (-1)) hx hb dX10_nextTo_79 (by decide) ?_
              cases ho
              exact e_i B hx hb hr hlocks rfl rfl dX10_nextTo_80
            · have ho := in_ c10 ho
              refine lv_iconst (v := 4) hx hb dX10_nextTo_71 (by decide) ?_
              refine lv_iload_n hx hb dX10_nextTo_72 rfl (lv_at hl 1 rfl) ?_
              refine lv_imul hx hb dX10_nextTo_73 ?_
              refine lv_iload_n hx hb dX10_nextTo_74 rfl (lv_at hl 0 rfl) ?_
              refine lv_iadd hx hb dX10_nextTo_75 ?_
              refine lv_goto (tgt := 80) hx hb dX10_nextTo_76 (by decide) ?_
              cases ho
              exact e_i B hx hb hr hlocks rfl rfl dX10_nextTo_80
        · have ho := ip_ c5 ho
          refine lv_iconst (v := (-1)) hx hb dX10_nextTo_40 (by decide) ?_
          refine lv_goto (tgt := 45) hx hb dX10_nextTo_41 (by decide) ?_
          refine lv_iadd hx hb dX10_nextTo_45 ?_
          obtain ⟨x11, ex11, ho⟩ := lt_ ho
          refine lv_nm ex11 ?_
          refine lv_istore_n (lv' := [(3, .int x11), (2, .int x3), (0, .int a0), (1, .int a1)]) hx hb dX10_nextTo_46 rfl hl (by decide) rfl (fun ls hl => ?_)
          refine lv_iload_n hx hb dX10_nextTo_47 rfl (lv_at hl 1 rfl) ?_
          refine lv_i2l hx hb dX10_nextTo_48 rfl ?_
          refine lv_lconst (v := 0) hx hb dX10_nextTo_49 (by decide) ?_
          refine lv_ldc2 (v := 3) hx hb hown (hts _ (by decide +kernel)) dX10_nextTo_50 ?_
          obtain ⟨q12, hq12, ho⟩ := bnd_ ho
          refine k_iS (As := [.long x3.toInt64, .long 0, .long 3]) (rest := []) S F B (c_X10_in l G σ _ x3.toInt64 0 3 hq12) (va_cwS 3 hts gX10_nextTo_X10_in rfl rfl rfl (by decide +kernel) ⟨Nat.le_of_ble_eq_true rfl, Nat.le_of_ble_eq_true rfl⟩) rfl hl.1 rfl (Nat.le_of_ble_eq_true rfl) dX10_nextTo_53 ⟨Nat.le_of_ble_eq_true rfl, Nat.le_of_ble_eq_true rfl⟩ (fun H locs B => ?_)
          refine lv_if_eq (tgt := 79) hx hb dX10_nextTo_56 (by decide) (fun c13 => ?_) (fun c13 => ?_)
          · have ho := ip_ c13 ho
            refine lv_iconst (v := (-1)) hx hb dX10_nextTo_79 (by decide) ?_
            cases ho
            exact e_i B hx hb hr hlocks rfl rfl dX10_nextTo_80
          · have ho := in_ c13 ho
            refine lv_iload_n hx hb dX10_nextTo_59 rfl (lv_at hl 0 rfl) ?_
            refine lv_i2l hx hb dX10_nextTo_60 rfl ?_
            refine lv_lconst (v := 0) hx hb dX10_nextTo_61 (by decide) ?_
            refine lv_ldc2 (v := 3) hx hb hown (hts _ (by decide +kernel)) dX10_nextTo_62 ?_
            obtain ⟨q14, hq14, ho⟩ := bnd_ ho
            refine k_iS (As := [.long x11.toInt64, .long 0, .long 3]) (rest := []) S F B (c_X10_in l G σ _ x11.toInt64 0 3 hq14) (va_cwS 3 hts gX10_nextTo_X10_in rfl rfl rfl (by decide +kernel) ⟨Nat.le_of_ble_eq_true rfl, Nat.le_of_ble_eq_true rfl⟩) rfl hl.1 rfl (Nat.le_of_ble_eq_true rfl) dX10_nextTo_65 ⟨Nat.le_of_ble_eq_true rfl, Nat.le_of_ble_eq_true rfl⟩ (fun H locs B => ?_)
            refine lv_if_eq (tgt := 79) hx hb dX10_nextTo_68 (by decide) (fun c15 => ?_) (fun c15 => ?_)
            · have ho := ip_ c15 ho
              refine lv_iconst (v := (-1)) hx hb dX10_nextTo_79 (by decide) ?_
              cases ho
              exact e_i B hx hb hr hlocks rfl rfl dX10_nextTo_80
            · have ho := in_ c15 ho
              refine lv_iconst (v := 4) hx hb dX10_nextTo_71 (by decide) ?_
              refine lv_iload_n hx hb dX10_nextTo_72 rfl (lv_at hl 1 rfl) ?_
              refine lv_imul hx hb dX10_nextTo_73 ?_
              refine lv_iload_n hx hb dX10_nextTo_74 rfl (lv_at hl 0 rfl) ?_
              refine lv_iadd hx hb dX10_nextTo_75 ?_
              refine lv_goto (tgt := 80) hx hb dX10_nextTo_76 (by decide) ?_
              cases ho
              exact e_i B hx hb hr hlocks rfl rfl dX10_nextTo_80
      · have ho := ip_ c4 ho
        refine lv_iconst (v := 1) hx hb dX10_nextTo_31 (by decide) ?_
        refine lv_goto (tgt := 45) hx hb dX10_nextTo_32 (by decide) ?_
        refine lv_iadd hx hb dX10_nextTo_45 ?_
        obtain ⟨x16, ex16, ho⟩ := lt_ ho
        refine lv_nm ex16 ?_
        refine lv_istore_n (lv' := [(3, .int x16), (2, .int x3), (0, .int a0), (1, .int a1)]) hx hb dX10_nextTo_46 rfl hl (by decide) rfl (fun ls hl => ?_)
        refine lv_iload_n hx hb dX10_nextTo_47 rfl (lv_at hl 1 rfl) ?_
        refine lv_i2l hx hb dX10_nextTo_48 rfl ?_
        refine lv_lconst (v := 0) hx hb dX10_nextTo_49 (by decide) ?_
        refine lv_ldc2 (v := 3) hx hb hown (hts _ (by decide +kernel)) dX10_nextTo_50 ?_
        obtain ⟨q17, hq17, ho⟩ := bnd_ ho
        refine k_iS (As := [.long x3.toInt64, .long 0, .long 3]) (rest := []) S F B (c_X10_in l G σ _ x3.toInt64 0 3 hq17) (va_cwS 3 hts gX10_nextTo_X10_in rfl rfl rfl (by decide +kernel) ⟨Nat.le_of_ble_eq_true rfl, Nat.le_of_ble_eq_true rfl⟩) rfl hl.1 rfl (Nat.le_of_ble_eq_true rfl) dX10_nextTo_53 ⟨Nat.le_of_ble_eq_true rfl, Nat.le_of_ble_eq_true rfl⟩ (fun H locs B => ?_)
        refine lv_if_eq (tgt := 79) hx hb dX10_nextTo_56 (by decide) (fun c18 => ?_) (fun c18 => ?_)
        · have ho := ip_ c18 ho
          refine lv_iconst (v := (-1)) hx hb dX10_nextTo_79 (by decide) ?_
          cases ho
          exact e_i B hx hb hr hlocks rfl rfl dX10_nextTo_80
        · have ho := in_ c18 ho
          refine lv_iload_n hx hb dX10_nextTo_59 rfl (lv_at hl 0 rfl) ?_
          refine lv_i2l hx hb dX10_nextTo_60 rfl ?_
          refine lv_lconst (v := 0) hx hb dX10_nextTo_61 (by decide) ?_
          refine lv_ldc2 (v := 3) hx hb hown (hts _ (by decide +kernel)) dX10_nextTo_62 ?_
          obtain ⟨q19, hq19, ho⟩ := bnd_ ho
          refine k_iS (As := [.long x16.toInt64, .long 0, .long 3]) (rest := []) S F B (c_X10_in l G σ _ x16.toInt64 0 3 hq19) (va_cwS 3 hts gX10_nextTo_X10_in rfl rfl rfl (by decide +kernel) ⟨Nat.le_of_ble_eq_true rfl, Nat.le_of_ble_eq_true rfl⟩) rfl hl.1 rfl (Nat.le_of_ble_eq_true rfl) dX10_nextTo_65 ⟨Nat.le_of_ble_eq_true rfl, Nat.le_of_ble_eq_true rfl⟩ (fun H locs B => ?_)
          refine lv_if_eq (tgt := 79) hx hb dX10_nextTo_68 (by decide) (fun c20 => ?_) (fun c20 => ?_)
          · have ho := ip_ c20 ho
            refine lv_iconst (v := (-1)) hx hb dX10_nextTo_79 (by decide) ?_
            cases ho
            exact e_i B hx hb hr hlocks rfl rfl dX10_nextTo_80
          · have ho := in_ c20 ho
            refine lv_iconst (v := 4) hx hb dX10_nextTo_71 (by decide) ?_
            refine lv_iload_n hx hb dX10_nextTo_72 rfl (lv_at hl 1 rfl) ?_
            refine lv_imul hx hb dX10_nextTo_73 ?_
            refine lv_iload_n hx hb dX10_nextTo_74 rfl (lv_at hl 0 rfl) ?_
            refine lv_iadd hx hb dX10_nextTo_75 ?_
            refine lv_goto (tgt := 80) hx hb dX10_nextTo_76 (by decide) ?_
            cases ho
            exact e_i B hx hb hr hlocks rfl rfl dX10_nextTo_80
    · have ho := ip_ c2 ho
      refine lv_iconst (v := 1) hx hb dX10_nextTo_16 (by decide) ?_
      refine lv_goto (tgt := 21) hx hb dX10_nextTo_17 (by decide) ?_
      refine lv_iadd hx hb dX10_nextTo_21 ?_
      obtain ⟨x21, ex21, ho⟩ := lt_ ho
      refine lv_nm ex21 ?_
      refine lv_istore_n (lv' := [(2, .int x21), (0, .int a0), (1, .int a1)]) hx hb dX10_nextTo_22 rfl hl (by decide) rfl (fun ls hl => ?_)
      refine lv_iload_n hx hb dX10_nextTo_23 rfl (lv_at hl 1 rfl) ?_
      refine lv_iconst (v := 4) hx hb dX10_nextTo_24 (by decide) ?_
      refine lv_irem hx hb dX10_nextTo_25 (by decide) ?_
      refine lv_iload_n hx hb dX10_nextTo_26 rfl (lv_at hl 2 rfl) ?_
      refine lv_iconst (v := 1) hx hb dX10_nextTo_27 (by decide) ?_
      refine lv_icmp_ne (tgt := 35) hx hb dX10_nextTo_28 (by decide) (fun c22 => ?_) (fun c22 => ?_)
      · have ho := in_ c22 ho
        refine lv_iload_n hx hb dX10_nextTo_35 rfl (lv_at hl 2 rfl) ?_
        refine lv_iconst (v := 3) hx hb dX10_nextTo_36 (by decide) ?_
        refine lv_icmp_ne (tgt := 44) hx hb dX10_nextTo_37 (by decide) (fun c23 => ?_) (fun c23 => ?_)
        · have ho := in_ c23 ho
          refine lv_iconst (v := 0) hx hb dX10_nextTo_44 (by decide) ?_
          refine lv_iadd hx hb dX10_nextTo_45 ?_
          obtain ⟨x24, ex24, ho⟩ := lt_ ho
          refine lv_nm ex24 ?_
          refine lv_istore_n (lv' := [(3, .int x24), (2, .int x21), (0, .int a0), (1, .int a1)]) hx hb dX10_nextTo_46 rfl hl (by decide) rfl (fun ls hl => ?_)
          refine lv_iload_n hx hb dX10_nextTo_47 rfl (lv_at hl 1 rfl) ?_
          refine lv_i2l hx hb dX10_nextTo_48 rfl ?_
          refine lv_lconst (v := 0) hx hb dX10_nextTo_49 (by decide) ?_
          refine lv_ldc2 (v := 3) hx hb hown (hts _ (by decide +kernel)) dX10_nextTo_50 ?_
          obtain ⟨q25, hq25, ho⟩ := bnd_ ho
          refine k_iS (As := [.long x21.toInt64, .long 0, .long 3]) (rest := []) S F B (c_X10_in l G σ _ x21.toInt64 0 3 hq25) (va_cwS 3 hts gX10_nextTo_X10_in rfl rfl rfl (by decide +kernel) ⟨Nat.le_of_ble_eq_true rfl, Nat.le_of_ble_eq_true rfl⟩) rfl hl.1 rfl (Nat.le_of_ble_eq_true rfl) dX10_nextTo_53 ⟨Nat.le_of_ble_eq_true rfl, Nat.le_of_ble_eq_true rfl⟩ (fun H locs B => ?_)
          refine lv_if_eq (tgt := 79) hx hb dX10_nextTo_56 (by decide) (fun c26 => ?_) (fun c26 => ?_)
          · have ho := ip_ c26 ho
            refine lv_iconst (v := (-1)) hx hb dX10_nextTo_79 (by decide) ?_
            cases ho
            exact e_i B hx hb hr hlocks rfl rfl dX10_nextTo_80
          · have ho := in_ c26 ho
            refine lv_iload_n hx hb dX10_nextTo_59 rfl (lv_at hl 0 rfl) ?_
            refine lv_i2l hx hb dX10_nextTo_60 rfl ?_
            refine lv_lconst (v := 0) hx hb dX10_nextTo_61 (by decide) ?_
            refine lv_ldc2 (v := 3) hx hb hown (hts _ (by decide +kernel)) dX10_nextTo_62 ?_
            obtain ⟨q27, hq27, ho⟩ := bnd_ ho
            refine k_iS (As := [.long x24.toInt64, .long 0, .long 3]) (rest := []) S F B (c_X10_in l G σ _ x24.toInt64 0 3 hq27) (va_cwS 3 hts gX10_nextTo_X10_in rfl rfl rfl (by decide +kernel) ⟨Nat.le_of_ble_eq_true rfl, Nat.le_of_ble_eq_true rfl⟩) rfl hl.1 rfl (Nat.le_of_ble_eq_true rfl) dX10_nextTo_65 ⟨Nat.le_of_ble_eq_true rfl, Nat.le_of_ble_eq_true rfl⟩ (fun H locs B => ?_)
            refine lv_if_eq (tgt := 79) hx hb dX10_nextTo_68 (by decide) (fun c28 => ?_) (fun c28 => ?_)
            · have ho := ip_ c28 ho
              refine lv_iconst (v := (-1)) hx hb dX10_nextTo_79 (by decide) ?_
              cases ho
              exact e_i B hx hb hr hlocks rfl rfl dX10_nextTo_80
            · have ho := in_ c28 ho
              refine lv_iconst (v := 4) hx hb dX10_nextTo_71 (by decide) ?_
              refine lv_iload_n hx hb dX10_nextTo_72 rfl (lv_at hl 1 rfl) ?_
              refine lv_imul hx hb dX10_nextTo_73 ?_
              refine lv_iload_n hx hb dX10_nextTo_74 rfl (lv_at hl 0 rfl) ?_
              refine lv_iadd hx hb dX10_nextTo_75 ?_
              refine lv_goto (tgt := 80) hx hb dX10_nextTo_76 (by decide) ?_
              cases ho
              exact e_i B hx hb hr hlocks rfl rfl dX10_nextTo_80
        · have ho := ip_ c23 ho
          refine lv_iconst (v := (-1)) hx hb dX10_nextTo_40 (by decide) ?_
          refine lv_goto (tgt := 45) hx hb dX10_nextTo_41 (by decide) ?_
          refine lv_iadd hx hb dX10_nextTo_45 ?_
          obtain ⟨x29, ex29, ho⟩ := lt_ ho
          refine lv_nm ex29 ?_
          refine lv_istore_n (lv' := [(3, .int x29), (2, .int x21), (0, .int a0), (1, .int a1)]) hx hb dX10_nextTo_46 rfl hl (by decide) rfl (fun ls hl => ?_)
          refine lv_iload_n hx hb dX10_nextTo_47 rfl (lv_at hl 1 rfl) ?_
          refine lv_i2l hx hb dX10_nextTo_48 rfl ?_
          refine lv_lconst (v := 0) hx hb dX10_nextTo_49 (by decide) ?_
          refine lv_ldc2 (v := 3) hx hb hown (hts _ (by decide +kernel)) dX10_nextTo_50 ?_
          obtain ⟨q30, hq30, ho⟩ := bnd_ ho
          refine k_iS (As := [.long x21.toInt64, .long 0, .long 3]) (rest := []) S F B (c_X10_in l G σ _ x21.toInt64 0 3 hq30) (va_cwS 3 hts gX10_nextTo_X10_in rfl rfl rfl (by decide +kernel) ⟨Nat.le_of_ble_eq_true rfl, Nat.le_of_ble_eq_true rfl⟩) rfl hl.1 rfl (Nat.le_of_ble_eq_true rfl) dX10_nextTo_53 ⟨Nat.le_of_ble_eq_true rfl, Nat.le_of_ble_eq_true rfl⟩ (fun H locs B => ?_)
          refine lv_if_eq (tgt := 79) hx hb dX10_nextTo_56 (by decide) (fun c31 => ?_) (fun c31 => ?_)
          · have ho := ip_ c31 ho
            refine lv_iconst (v := (-1)) hx hb dX10_nextTo_79 (by decide) ?_
            cases ho
            exact e_i B hx hb hr hlocks rfl rfl dX10_nextTo_80
          · have ho := in_ c31 ho
            refine lv_iload_n hx hb dX10_nextTo_59 rfl (lv_at hl 0 rfl) ?_
            refine lv_i2l hx hb dX10_nextTo_60 rfl ?_
            refine lv_lconst (v := 0) hx hb dX10_nextTo_61 (by decide) ?_
            refine lv_ldc2 (v := 3) hx hb hown (hts _ (by decide +kernel)) dX10_nextTo_62 ?_
            obtain ⟨q32, hq32, ho⟩ := bnd_ ho
            refine k_iS (As := [.long x29.toInt64, .long 0, .long 3]) (rest := []) S F B (c_X10_in l G σ _ x29.toInt64 0 3 hq32) (va_cwS 3 hts gX10_nextTo_X10_in rfl rfl rfl (by decide +kernel) ⟨Nat.le_of_ble_eq_true rfl, Nat.le_of_ble_eq_true rfl⟩) rfl hl.1 rfl (Nat.le_of_ble_eq_true rfl) dX10_nextTo_65 ⟨Nat.le_of_ble_eq_true rfl, Nat.le_of_ble_eq_true rfl⟩ (fun H locs B => ?_)
            refine lv_if_eq (tgt := 79) hx hb dX10_nextTo_68 (by decide) (fun c33 => ?_) (fun c33 => ?_)
            · have ho := ip_ c33 ho
              refine lv_iconst (v := (-1)) hx hb dX10_nextTo_79 (by decide) ?_
              cases ho
              exact e_i B hx hb hr hlocks rfl rfl dX10_nextTo_80
            · have ho := in_ c33 ho
              refine lv_iconst (v := 4) hx hb dX10_nextTo_71 (by decide) ?_
              refine lv_iload_n hx hb dX10_nextTo_72 rfl (lv_at hl 1 rfl) ?_
              refine lv_imul hx hb dX10_nextTo_73 ?_
              refine lv_iload_n hx hb dX10_nextTo_74 rfl (lv_at hl 0 rfl) ?_
              refine lv_iadd hx hb dX10_nextTo_75 ?_
              refine lv_goto (tgt := 80) hx hb dX10_nextTo_76 (by decide) ?_
              cases ho
              exact e_i B hx hb hr hlocks rfl rfl dX10_nextTo_80
      · have ho := ip_ c22 ho
        refine lv_iconst (v := 1) hx hb dX10_nextTo_31 (by decide) ?_
        refine lv_goto (tgt := 45) hx hb dX10_nextTo_32 (by decide) ?_
        refine lv_iadd hx hb dX10_nextTo_45 ?_
        obtain ⟨x34, ex34, ho⟩ := lt_ ho
        refine lv_nm ex34 ?_
        refine lv_istore_n (lv' := [(3, .int x34), (2, .int x21), (0, .int a0), (1, .int a1)]) hx hb dX10_nextTo_46 rfl hl (by decide) rfl (fun ls hl => ?_)
        refine lv_iload_n hx hb dX10_nextTo_47 rfl (lv_at hl 1 rfl) ?_
        refine lv_i2l hx hb dX10_nextTo_48 rfl ?_
        refine lv_lconst (v := 0) hx hb dX10_nextTo_49 (by decide) ?_
        refine lv_ldc2 (v := 3) hx hb hown (hts _ (by decide +kernel)) dX10_nextTo_50 ?_
        obtain ⟨q35, hq35, ho⟩ := bnd_ ho
        refine k_iS (As := [.long x21.toInt64, .long 0, .long 3]) (rest := []) S F B (c_X10_in l G σ _ x21.toInt64 0 3 hq35) (va_cwS 3 hts gX10_nextTo_X10_in rfl rfl rfl (by decide +kernel) ⟨Nat.le_of_ble_eq_true rfl, Nat.le_of_ble_eq_true rfl⟩) rfl hl.1 rfl (Nat.le_of_ble_eq_true rfl) dX10_nextTo_53 ⟨Nat.le_of_ble_eq_true rfl, Nat.le_of_ble_eq_true rfl⟩ (fun H locs B => ?_)
        refine lv_if_eq (tgt := 79) hx hb dX10_nextTo_56 (by decide) (fun c36 => ?_) (fun c36 => ?_)
        · have ho := ip_ c36 ho
          refine lv_iconst (v := (-1)) hx hb dX10_nextTo_79 (by decide) ?_
          cases ho
          exact e_i B hx hb hr hlocks rfl rfl dX10_nextTo_80
        · have ho := in_ c36 ho
          refine lv_iload_n hx hb dX10_nextTo_59 rfl (lv_at hl 0 rfl) ?_
          refine lv_i2l hx hb dX10_nextTo_60 rfl ?_
          refine lv_lconst (v := 0) hx hb dX10_nextTo_61 (by decide) ?_
          refine lv_ldc2 (v := 3) hx hb hown (hts _ (by decide +kernel)) dX10_nextTo_62 ?_
          obtain ⟨q37, hq37, ho⟩ := bnd_ ho
          refine k_iS (As := [.long x34.toInt64, .long 0, .long 3]) (rest := []) S F B (c_X10_in l G σ _ x34.toInt64 0 3 hq37) (va_cwS 3 hts gX10_nextTo_X10_in rfl rfl rfl (by decide +kernel) ⟨Nat.le_of_ble_eq_true rfl, Nat.le_of_ble_eq_true rfl⟩) rfl hl.1 rfl (Nat.le_of_ble_eq_true rfl) dX10_nextTo_65 ⟨Nat.le_of_ble_eq_true rfl, Nat.le_of_ble_eq_true rfl⟩ (fun H locs B => ?_)
          refine lv_if_eq (tgt := 79) hx hb dX10_nextTo_68 (by decide) (fun c38 => ?_) (fun c38 => ?_)
          · have ho := ip_ c38 ho
            refine lv_iconst (v := (-1)) hx hb dX10_nextTo_79 (by decide) ?_
            cases ho
            exact e_i B hx hb hr hlocks rfl rfl dX10_nextTo_80
          · have ho := in_ c38 ho
            refine lv_iconst (v := 4) hx hb dX10_nextTo_71 (by decide) ?_
            refine lv_iload_n hx hb dX10_nextTo_72 rfl (lv_at hl 1 rfl) ?_
            refine lv_imul hx hb dX10_nextTo_73 ?_
            refine lv_iload_n hx hb dX10_nextTo_74 rfl (lv_at hl 0 rfl) ?_
            refine lv_iadd hx hb dX10_nextTo_75 ?_
            refine lv_goto (tgt := 80) hx hb dX10_nextTo_76 (by decide) ?_
            cases ho
            exact e_i B hx hb hr hlocks rfl rfl dX10_nextTo_80
  · have ho := ip_ c1 ho
    refine lv_iconst (v := (-1)) hx hb dX10_nextTo_7 (by decide) ?_
    refine lv_goto (tgt := 21) hx hb dX10_nextTo_8 (by decide) ?_
    refine lv_iadd hx hb dX10_nextTo_21 ?_
    obtain ⟨x39, ex39, ho⟩ := lt_ ho
    refine lv_nm ex39 ?_
    refine lv_istore_n (lv' := [(2, .int x39), (0, .int a0), (1, .int a1)]) hx hb dX10_nextTo_22 rfl hl (by decide) rfl (fun ls hl => ?_)
    refine lv_iload_n hx hb dX10_nextTo_23 rfl (lv_at hl 1 rfl) ?_
    refine lv_iconst (v := 4) hx hb dX10_nextTo_24 (by decide) ?_
    refine lv_irem hx hb dX10_nextTo_25 (by decide) ?_
    refine lv_iload_n hx hb dX10_nextTo_26 rfl (lv_at hl 2 rfl) ?_
    refine lv_iconst (v := 1) hx hb dX10_nextTo_27 (by decide) ?_
    refine lv_icmp_ne (tgt := 35) hx hb dX10_nextTo_28 (by decide) (fun c40 => ?_) (fun c40 => ?_)
    · have ho := in_ c40 ho
      refine lv_iload_n hx hb dX10_nextTo_35 rfl (lv_at hl 2 rfl) ?_
      refine lv_iconst (v := 3) hx hb dX10_nextTo_36 (by decide) ?_
      refine lv_icmp_ne (tgt := 44) hx hb dX10_nextTo_37 (by decide) (fun c41 => ?_) (fun c41 => ?_)
      · have ho := in_ c41 ho
        refine lv_iconst (v := 0) hx hb dX10_nextTo_44 (by decide) ?_
        refine lv_iadd hx hb dX10_nextTo_45 ?_
        obtain ⟨x42, ex42, ho⟩ := lt_ ho
        refine lv_nm ex42 ?_
        refine lv_istore_n (lv' := [(3, .int x42), (2, .int x39), (0, .int a0), (1, .int a1)]) hx hb dX10_nextTo_46 rfl hl (by decide) rfl (fun ls hl => ?_)
        refine lv_iload_n hx hb dX10_nextTo_47 rfl (lv_at hl 1 rfl) ?_
        refine lv_i2l hx hb dX10_nextTo_48 rfl ?_
        refine lv_lconst (v := 0) hx hb dX10_nextTo_49 (by decide) ?_
        refine lv_ldc2 (v := 3) hx hb hown (hts _ (by decide +kernel)) dX10_nextTo_50 ?_
        obtain ⟨q43, hq43, ho⟩ := bnd_ ho
        refine k_iS (As := [.long x39.toInt64, .long 0, .long 3]) (rest := []) S F B (c_X10_in l G σ _ x39.toInt64 0 3 hq43) (va_cwS 3 hts gX10_nextTo_X10_in rfl rfl rfl (by decide +kernel) ⟨Nat.le_of_ble_eq_true rfl, Nat.le_of_ble_eq_true rfl⟩) rfl hl.1 rfl (Nat.le_of_ble_eq_true rfl) dX10_nextTo_53 ⟨Nat.le_of_ble_eq_true rfl, Nat.le_of_ble_eq_true rfl⟩ (fun H locs B => ?_)
        refine lv_if_eq (tgt := 79) hx hb dX10_nextTo_56 (by decide) (fun c44 => ?_) (fun c44 => ?_)
        · have ho := ip_ c44 ho
          refine lv_iconst (v := (-1)) hx hb dX10_nextTo_79 (by decide) ?_
          cases ho
          exact e_i B hx hb hr hlocks rfl rfl dX10_nextTo_80
        · have ho := in_ c44 ho
          refine lv_iload_n hx hb dX10_nextTo_59 rfl (lv_at hl 0 rfl) ?_
          refine lv_i2l hx hb dX10_nextTo_60 rfl ?_
          refine lv_lconst (v := 0) hx hb dX10_nextTo_61 (by decide) ?_
          refine lv_ldc2 (v := 3) hx hb hown (hts _ (by decide +kernel)) dX10_nextTo_62 ?_
          obtain ⟨q45, hq45, ho⟩ := bnd_ ho
          refine k_iS (As := [.long x42.toInt64, .long 0, .long 3]) (rest := []) S F B (c_X10_in l G σ _ x42.toInt64 0 3 hq45) (va_cwS 3 hts gX10_nextTo_X10_in rfl rfl rfl (by decide +kernel) ⟨Nat.le_of_ble_eq_true rfl, Nat.le_of_ble_eq_true rfl⟩) rfl hl.1 rfl (Nat.le_of_ble_eq_true rfl) dX10_nextTo_65 ⟨Nat.le_of_ble_eq_true rfl, Nat.le_of_ble_eq_true rfl⟩ (fun H locs B => ?_)
          refine lv_if_eq (tgt := 79) hx hb dX10_nextTo_68 (by decide) (fun c46 => ?_) (fun c46 => ?_)
          · have ho := ip_ c46 ho
            refine lv_iconst (v := (-1)) hx hb dX10_nextTo_79 (by decide) ?_
            cases ho
            exact e_i B hx hb hr hlocks rfl rfl dX10_nextTo_80
          · have ho := in_ c46 ho
            refine lv_iconst (v := 4) hx hb dX10_nextTo_71 (by decide) ?_
            refine lv_iload_n hx hb dX10_nextTo_72 rfl (lv_at hl 1 rfl) ?_
            refine lv_imul hx hb dX10_nextTo_73 ?_
            refine lv_iload_n hx hb dX10_nextTo_74 rfl (lv_at hl 0 rfl) ?_
            refine lv_iadd hx hb dX10_nextTo_75 ?_
            refine lv_goto (tgt := 80) hx hb dX10_nextTo_76 (by decide) ?_
            cases ho
            exact e_i B hx hb hr hlocks rfl rfl dX10_nextTo_80
      · have ho := ip_ c41 ho
        refine lv_iconst (v := (-1)) hx hb dX10_nextTo_40 (by decide) ?_
        refine lv_goto (tgt := 45) hx hb dX10_nextTo_41 (by decide) ?_
        refine lv_iadd hx hb dX10_nextTo_45 ?_
        obtain ⟨x47, ex47, ho⟩ := lt_ ho
        refine lv_nm ex47 ?_
        refine lv_istore_n (lv' := [(3, .int x47), (2, .int x39), (0, .int a0), (1, .int a1)]) hx hb dX10_nextTo_46 rfl hl (by decide) rfl (fun ls hl => ?_)
        refine lv_iload_n hx hb dX10_nextTo_47 rfl (lv_at hl 1 rfl) ?_
        refine lv_i2l hx hb dX10_nextTo_48 rfl ?_
        refine lv_lconst (v := 0) hx hb dX10_nextTo_49 (by decide) ?_
        refine lv_ldc2 (v := 3) hx hb hown (hts _ (by decide +kernel)) dX10_nextTo_50 ?_
        obtain ⟨q48, hq48, ho⟩ := bnd_ ho
        refine k_iS (As := [.long x39.toInt64, .long 0, .long 3]) (rest := []) S F B (c_X10_in l G σ _ x39.toInt64 0 3 hq48) (va_cwS 3 hts gX10_nextTo_X10_in rfl rfl rfl (by decide +kernel) ⟨Nat.le_of_ble_eq_true rfl, Nat.le_of_ble_eq_true rfl⟩) rfl hl.1 rfl (Nat.le_of_ble_eq_true rfl) dX10_nextTo_53 ⟨Nat.le_of_ble_eq_true rfl, Nat.le_of_ble_eq_true rfl⟩ (fun H locs B => ?_)
        refine lv_if_eq (tgt := 79) hx hb dX10_nextTo_56 (by decide) (fun c49 => ?_) (fun c49 => ?_)
        · have ho := ip_ c49 ho
          refine lv_iconst (v := (-1)) hx hb dX10_nextTo_79 (by decide) ?_
          cases ho
          exact e_i B hx hb hr hlocks rfl rfl dX10_nextTo_80
        · have ho := in_ c49 ho
          refine lv_iload_n hx hb dX10_nextTo_59 rfl (lv_at hl 0 rfl) ?_
          refine lv_i2l hx hb dX10_nextTo_60 rfl ?_
          refine lv_lconst (v := 0) hx hb dX10_nextTo_61 (by decide) ?_
          refine lv_ldc2 (v := 3) hx hb hown (hts _ (by decide +kernel)) dX10_nextTo_62 ?_
          obtain ⟨q50, hq50, ho⟩ := bnd_ ho
          refine k_iS (As := [.long x47.toInt64, .long 0, .long 3]) (rest := []) S F B (c_X10_in l G σ _ x47.toInt64 0 3 hq50) (va_cwS 3 hts gX10_nextTo_X10_in rfl rfl rfl (by decide +kernel) ⟨Nat.le_of_ble_eq_true rfl, Nat.le_of_ble_eq_true rfl⟩) rfl hl.1 rfl (Nat.le_of_ble_eq_true rfl) dX10_nextTo_65 ⟨Nat.le_of_ble_eq_true rfl, Nat.le_of_ble_eq_true rfl⟩ (fun H locs B => ?_)
          refine lv_if_eq (tgt := 79) hx hb dX10_nextTo_68 (by decide) (fun c51 => ?_) (fun c51 => ?_)
          · have ho := ip_ c51 ho
            refine lv_iconst (v := (-1)) hx hb dX10_nextTo_79 (by decide) ?_
            cases ho
            exact e_i B hx hb hr hlocks rfl rfl dX10_nextTo_80
          · have ho := in_ c51 ho
            refine lv_iconst (v := 4) hx hb dX10_nextTo_71 (by decide) ?_
            refine lv_iload_n hx hb dX10_nextTo_72 rfl (lv_at hl 1 rfl) ?_
            refine lv_imul hx hb dX10_nextTo_73 ?_
            refine lv_iload_n hx hb dX10_nextTo_74 rfl (lv_at hl 0 rfl) ?_
            refine lv_iadd hx hb dX10_nextTo_75 ?_
            refine lv_goto (tgt := 80) hx hb dX10_nextTo_76 (by decide) ?_
            cases ho
            exact e_i B hx hb hr hlocks rfl rfl dX10_nextTo_80
    · have ho := ip_ c40 ho
      refine lv_iconst (v := 1) hx hb dX10_nextTo_31 (by decide) ?_
      refine lv_goto (tgt := 45) hx hb dX10_nextTo_32 (by decide) ?_
      refine lv_iadd hx hb dX10_nextTo_45 ?_
      obtain ⟨x52, ex52, ho⟩ := lt_ ho
      refine lv_nm ex52 ?_
      refine lv_istore_n (lv' := [(3, .int x52), (2, .int x39), (0, .int a0), (1, .int a1)]) hx hb dX10_nextTo_46 rfl hl (by decide) rfl (fun ls hl => ?_)
      refine lv_iload_n hx hb dX10_nextTo_47 rfl (lv_at hl 1 rfl) ?_
      refine lv_i2l hx hb dX10_nextTo_48 rfl ?_
      refine lv_lconst (v := 0) hx hb dX10_nextTo_49 (by decide) ?_
      refine lv_ldc2 (v := 3) hx hb hown (hts _ (by decide +kernel)) dX10_nextTo_50 ?_
      obtain ⟨q53, hq53, ho⟩ := bnd_ ho
      refine k_iS (As := [.long x39.toInt64, .long 0, .long 3]) (rest := []) S F B (c_X10_in l G σ _ x39.toInt64 0 3 hq53) (va_cwS 3 hts gX10_nextTo_X10_in rfl rfl rfl (by decide +kernel) ⟨Nat.le_of_ble_eq_true rfl, Nat.le_of_ble_eq_true rfl⟩) rfl hl.1 rfl (Nat.le_of_ble_eq_true rfl) dX10_nextTo_53 ⟨Nat.le_of_ble_eq_true rfl, Nat.le_of_ble_eq_true rfl⟩ (fun H locs B => ?_)
      refine lv_if_eq (tgt := 79) hx hb dX10_nextTo_56 (by decide) (fun c54 => ?_) (fun c54 => ?_)
      · have ho := ip_ c54 ho
        refine lv_iconst (v := (-1)) hx hb dX10_nextTo_79 (by decide) ?_
        cases ho
        exact e_i B hx hb hr hlocks rfl rfl dX10_nextTo_80
      · have ho := in_ c54 ho
        refine lv_iload_n hx hb dX10_nextTo_59 rfl (lv_at hl 0 rfl) ?_
        refine lv_i2l hx hb dX10_nextTo_60 rfl ?_
        refine lv_lconst (v := 0) hx hb dX10_nextTo_61 (by decide) ?_
        refine lv_ldc2 (v := 3) hx hb hown (hts _ (by decide +kernel)) dX10_nextTo_62 ?_
        obtain ⟨q55, hq55, ho⟩ := bnd_ ho
        refine k_iS (As := [.long x52.toInt64, .long 0, .long 3]) (rest := []) S F B (c_X10_in l G σ _ x52.toInt64 0 3 hq55) (va_cwS 3 hts gX10_nextTo_X10_in rfl rfl rfl (by decide +kernel) ⟨Nat.le_of_ble_eq_true rfl, Nat.le_of_ble_eq_true rfl⟩) rfl hl.1 rfl (Nat.le_of_ble_eq_true rfl) dX10_nextTo_65 ⟨Nat.le_of_ble_eq_true rfl, Nat.le_of_ble_eq_true rfl⟩ (fun H locs B => ?_)
        refine lv_if_eq (tgt := 79) hx hb dX10_nextTo_68 (by decide) (fun c56 => ?_) (fun c56 => ?_)
        · have ho := ip_ c56 ho
          refine lv_iconst (v := (-1)) hx hb dX10_nextTo_79 (by decide) ?_
          cases ho
          exact e_i B hx hb hr hlocks rfl rfl dX10_nextTo_80
        · have ho := in_ c56 ho
          refine lv_iconst (v := 4) hx hb dX10_nextTo_71 (by decide) ?_
          refine lv_iload_n hx hb dX10_nextTo_72 rfl (lv_at hl 1 rfl) ?_
          refine lv_imul hx hb dX10_nextTo_73 ?_
          refine lv_iload_n hx hb dX10_nextTo_74 rfl (lv_at hl 0 rfl) ?_
          refine lv_iadd hx hb dX10_nextTo_75 ?_
          refine lv_goto (tgt := 80) hx hb dX10_nextTo_76 (by decide) ?_
          cases ho
          exact e_i B hx hb hr hlocks rfl rfl dX10_nextTo_80

set_option maxHeartbeats 4000000 in
set_option maxRecDepth 100000 in
theorem c_X10_hedgeAt (l : Launch) (G : Gd) (σ : Mm) (sz : Nat) (a0 : Int32) (a1 : Int32) {out : Int32} (ho : f_X10_hedgeAt a0 a1 σ = some out) : Met l yX10_hedgeAt wsX10_hedgeAt { frames := 1, cells := 0, slots := 0, locals := 32 } (va_Pc [.int a0, .int a1] (PW G σ sz)) (Qi G sz out σ) 0 0 (AA G sz) := by
  refine Met.ofW (cc := cX10_hedgeAt) (maxL := 4) (ret := (some .int)) (by decide) rfl ?_
  intro p e s m args below meth c s₁ B0 hml hv
  obtain ⟨rfl, hpw⟩ := hv
  have hsz := hpw.1
  subst hsz
  obtain ⟨F, B⟩ := hpw.to
  have hx := B0.exec
  have hb := B0.bytes
  have hr := B0.returns
  have hts := atoms_spec (ws := wsX10_hedgeAt) B0.pre
  have hown : s.vm.findClass RX10 = some m.cls := findClass_of_methodNamed B0.named
  have hlocks := B0.notSynchronized
  have S : CallFix p m c cX10_hedgeAt 4 s _ wsX10_hedgeAt RX10 := ⟨hx, hb, hml, hown, hts⟩
  have hl := lv_entry [.int a0, .int a1] (n := 4) (Nat.le_of_ble_eq_true rfl)
  rw [lg_entry_eq]
  generalize (lg_sl [.int a0, .int a1] ++ List.replicate (4 - (lg_sl [.int a0, .int a1]).length) Slot.unset).toArray = ls at hl ⊢
  have hl : lv_has ls 4 [(0, .int a0), (1, .int a1)] := hl
  unfold f_X10_hedgeAt at ho
  refine lv_iload_n hx hb dX10_hedgeAt_0 rfl (lv_at hl 0 rfl) ?_
  refine lv_iload_n hx hb dX10_hedgeAt_1 rfl (lv_at hl 1 rfl) ?_
  refine va_mmin hx hb (hml.trans hl.1.symm) hown (hts _ (by decide +kernel)) (hts _ (by decide +kernel)) (hts _ (by decide +kernel)) (hts _ (by decide +kernel)) (Nat.le_of_ble_eq_true rfl) (Nat.le_of_ble_eq_true rfl) (Nat.le_of_ble_eq_true rfl) (Nat.le_of_ble_eq_true rfl) dX10_hedgeAt_2 ?_
  obtain ⟨x1, ex1, ho⟩ := lt_ ho
  refine lv_nm ex1 ?_
  refine lv_istore_n (lv' := [(2, .int x1), (0, .int a0), (1, .int a1)]) hx hb dX10_hedgeAt_5 rfl hl (by decide) rfl (fun ls hl => ?_)
  refine lv_iload_n hx hb dX10_hedgeAt_6 rfl (lv_at hl 1 rfl) ?_
  refine lv_iload_n hx hb dX10_hedgeAt_7 rfl (lv_at hl 2 rfl) ?_
  refine va_mmax hx hb (hml.trans hl.1.symm) hown (hts _ (by decide +kernel)) (hts _ (by decide +kernel)) (hts _ (by decide +kernel)) (hts _ (by decide +kernel)) (Nat.le_of_ble_eq_true rfl) (Nat.le_of_ble_eq_true rfl) (Nat.le_of_ble_eq_true rfl) (Nat.le_of_ble_eq_true rfl) dX10_hedgeAt_8 ?_
  obtain ⟨x2, ex2, ho⟩ := lt_ ho
  refine lv_nm ex2 ?_
  refine lv_istore_n (lv' := [(3, .int x2), (2, .int x1), (0, .int a0), (1, .int a1)]) hx hb dX10_hedgeAt_11 rfl hl (by decide) rfl (fun ls hl => ?_)
  refine lv_iload_n hx hb dX10_hedgeAt_12 rfl (lv_at hl 0 rfl) ?_
  refine lv_iload_n hx hb dX10_hedgeAt_13 rfl (lv_at hl 1 rfl) ?_
  refine lv_isub hx hb dX10_hedgeAt_14 ?_
  refine lv_iconst (v := 4) hx hb dX10_hedgeAt_15 (by decide) ?_
  refine lv_icmp_ne (tgt := 24) hx hb dX10_hedgeAt_16 (by decide) (fun c3 => ?_) (fun c3 => ?_)
  · have ho := in_ c3 ho
    refine lv_iload_n hx hb dX10_hedgeAt_24 rfl (lv_at hl 0 rfl) ?_
    refine lv_iload_n hx hb dX10_hedgeAt_25 rfl (lv_at hl 1 rfl) ?_
    refine lv_isub hx hb dX10_hedgeAt_26 ?_
    refine lv_iconst (v := 1) hx hb dX10_hedgeAt_27 (by decide) ?_
    refine lv_icmp_ne (tgt := 53) hx hb dX10_hedgeAt_28 (by decide) (fun c4 => ?_) (fun c4 => ?_)
    · have ho := in_ c4 ho
      refine lv_iconst (v := (-1)) hx hb dX10_hedgeAt_53 (by decide) ?_
      cases ho
      exact e_i B hx hb hr hlocks rfl rfl dX10_hedgeAt_54
    · have ho := ip_ c4 ho
      refine lv_iload_n hx hb dX10_hedgeAt_31 rfl (lv_at hl 1 rfl) ?_
      refine lv_iconst (v := 4) hx hb dX10_hedgeAt_32 (by decide) ?_
      refine lv_irem hx hb dX10_hedgeAt_33 (by decide) ?_
      refine lv_iconst (v := 3) hx hb dX10_hedgeAt_34 (by decide) ?_
      refine lv_icmp_ge (tgt := 53) hx hb dX10_hedgeAt_35 (by decide) (fun c5 => ?_) (fun c5 => ?_)
      · have ho := ip_ c5 ho
        refine lv_iconst (v := (-1)) hx hb dX10_hedgeAt_53 (by decide) ?_
        cases ho
        exact e_i B hx hb hr hlocks rfl rfl dX10_hedgeAt_54
      · have ho := in_ c5 ho
        refine lv_bipush (v := 6) hx hb dX10_hedgeAt_38 (by decide) ?_
        refine lv_iconst (v := 3) hx hb dX10_hedgeAt_40 (by decide) ?_
        refine lv_iload_n hx hb dX10_hedgeAt_41 rfl (lv_at hl 1 rfl) ?_
        refine lv_iconst (v := 4) hx hb dX10_hedgeAt_42 (by decide) ?_
        refine lv_idiv hx hb dX10_hedgeAt_43 (by decide) ?_
        refine lv_imul hx hb dX10_hedgeAt_44 ?_
        refine lv_iadd hx hb dX10_hedgeAt_45 ?_
        refine lv_iload_n hx hb dX10_hedgeAt_46 rfl (lv_at hl 1 rfl) ?_
        refine lv_iconst (v := 4) hx hb dX10_hedgeAt_47 (by decide) ?_
        refine lv_irem hx hb dX10_hedgeAt_48 (by decide) ?_
        refine lv_iadd hx hb dX10_hedgeAt_49 ?_
        refine lv_goto (tgt := 54) hx hb dX10_hedgeAt_50 (by decide) ?_
        cases ho
        exact e_i B hx hb hr hlocks rfl rfl dX10_hedgeAt_54
  · have ho := ip_ c3 ho
    refine lv_bipush (v := 18) hx hb dX10_hedgeAt_19 (by decide) ?_
    refine lv_iload_n hx hb dX10_hedgeAt_21 rfl (lv_at hl 1 rfl) ?_
    refine lv_iadd hx hb dX10_hedgeAt_22 ?_
    cases ho
    exact e_i B hx hb hr hlocks rfl rfl dX10_hedgeAt_23

set_option maxHeartbeats 4000000 in
set_option maxRecDepth 100000 in
theorem c_X10_isGapAt (l : Launch) (G : Gd) (σ : Mm) (sz : Nat) (a0 : Int32) {out : Int32} (ho : f_X10_isGapAt a0 σ = some out) : Met l yX10_isGapAt wsX10_isGapAt { frames := 0, cells := 0, slots := 0, locals := 0 } (va_Pc [.ref (G.2.2 198), .int a0] (PW G σ sz)) (Qi G sz out σ) 0 0 (AA G sz) := by
  refine Met.ofW (cc := cX10_isGapAt) (maxL := 2) (ret := (some .boolean)) (by decide) rfl ?_
  intro p e s m args below meth c s₁ B0 hml hv
  obtain ⟨rfl, hpw⟩ := hv
  have hsz := hpw.1
  subst hsz
  obtain ⟨F, B⟩ := hpw.to
  have hx := B0.exec
  have hb := B0.bytes
  have hr := B0.returns
  have hts := atoms_spec (ws := wsX10_isGapAt) B0.pre
  have hown : s.vm.findClass RX10 = some m.cls := findClass_of_methodNamed B0.named
  have hlocks := B0.notSynchronized
  have S : CallFix p m c cX10_isGapAt 2 s _ wsX10_isGapAt RX10 := ⟨hx, hb, hml, hown, hts⟩
  have hiX10 : ∀ w ∈ u_ws RX10 TX10 21, w ∈ wsX10_isGapAt := by decide +kernel
  have hl := lv_entry [.ref (G.2.2 198), .int a0] (n := 2) (Nat.le_of_ble_eq_true rfl)
  rw [lg_entry_eq]
  generalize (lg_sl [.ref (G.2.2 198), .int a0] ++ List.replicate (2 - (lg_sl [.ref (G.2.2 198), .int a0]).length) Slot.unset).toArray = ls at hl ⊢
  have hl : lv_has ls 2 [(0, .ref (G.2.2 198)), (1, .int a0)] := hl
  unfold f_X10_isGapAt at ho
  refine lv_iload_n hx hb dX10_isGapAt_0 rfl (lv_at hl 1 rfl) ?_
  refine lv_iconst (v := (-1)) hx hb dX10_isGapAt_1 (by decide) ?_
  refine lv_icmp_eq (tgt := 19) hx hb dX10_isGapAt_2 (by decide) (fun c1 => ?_) (fun c1 => ?_)
  · have ho := ip_ c1 ho
    refine lv_iconst (v := 0) hx hb dX10_isGapAt_19 (by decide) ?_
    cases ho
    exact e_i B hx hb hr hlocks rfl rfl dX10_isGapAt_20
  · have ho := in_ c1 ho
    refine lv_aload_n hx hb dX10_isGapAt_5 rfl (lv_at hl 0 rfl) ?_
    refine r_get (ci := 14) (C := RX10) (T := TX10) (N := 21) S F B (kq (by decide) : kd 198 = 21 ∧ 198 < NN) rfl rfl hiX10 0 (by decide) (by decide +kernel) rfl dX10_isGapAt_6 ?_
    refine lv_iload_n hx hb dX10_isGapAt_9 rfl (lv_at hl 1 rfl) ?_
    obtain ⟨hi, ho⟩ := gd_ ho
    refine r_iald S F B (kq (by decide) : kd 199 = 22 ∧ 199 < NN) rfl hi dX10_isGapAt_10 ?_
    refine lv_iconst (v := 5) hx hb dX10_isGapAt_11 (by decide) ?_
    refine lv_icmp_ge (tgt := 19) hx hb dX10_isGapAt_12 (by decide) (fun c2 => ?_) (fun c2 => ?_)
    · have ho := ip_ c2 ho
      refine lv_iconst (v := 0) hx hb dX10_isGapAt_19 (by decide) ?_
      cases ho
      exact e_i B hx hb hr hlocks rfl rfl dX10_isGapAt_20
    · have ho := in_ c2 ho
      refine lv_iconst (v := 1) hx hb dX10_isGapAt_15 (by decide) ?_
      refine lv_goto (tgt := 20) hx hb dX10_isGapAt_16 (by decide) ?_
      cases ho
      exact e_i B hx hb hr hlocks rfl rfl dX10_isGapAt_20

set_option maxHeartbeats 4000000 in
set_option maxRecDepth 100000 in
theorem c_X10_gardenerAt (l : Launch) (G : Gd) (σ : Mm) (sz : Nat) (a0 : Int32) {out : Int32} (ho : f_X10_gardenerAt a0 σ = some out) : Met l yX10_gardenerAt wsX10_gardenerAt { frames := 0, cells := 0, slots := 0, locals := 0 } (va_Pc [.int a0] (PW G σ sz)) (Qi G sz out σ) 0 0 (AA G sz) := by
  refine Met.ofW (cc := cX10_gardenerAt) (maxL := 1) (ret := (some .int)) (by decide) rfl ?_
  intro p e s m args below meth c s₁ B0 hml hv
  obtain ⟨rfl, hpw⟩ := hv
  have hsz := hpw.1
  subst hsz
  obtain ⟨F, B⟩ := hpw.to
  have hx := B0.exec
  have hb := B0.bytes
  have hr := B0.returns
  have hts := atoms_spec (ws := wsX10_gardenerAt) B0.pre
  have hown : s.vm.findClass RX10 = some m.cls := findClass_of_methodNamed B0.named
  have hlocks := B0.notSynchronized
  have S : CallFix p m c cX10_gardenerAt 1 s _ wsX10_gardenerAt RX10 := ⟨hx, hb, hml, hown, hts⟩
  have hl := lv_entry [.int a0] (n := 1) (Nat.le_of_ble_eq_true rfl)
  rw [lg_entry_eq]
  generalize (lg_sl [.int a0] ++ List.replicate (1 - (lg_sl [.int a0]).length) Slot.unset).toArray = ls at hl ⊢
  have hl : lv_has ls 1 [(0, .int a0)] := hl
  unfold f_X10_gardenerAt at ho
  refine lv_bipush (v := 30) hx hb dX10_gardenerAt_0 (by decide) ?_
  refine lv_iconst (v := 4) hx hb dX10_gardenerAt_2 (by decide) ?_
  refine lv_iload_n hx hb dX10_gardenerAt_3 rfl (lv_at hl 0 rfl) ?_
  refine lv_imul hx hb dX10_gardenerAt_4 ?_
  refine lv_iadd hx hb dX10_gardenerAt_5 ?_
  cases ho
  exact e_i B hx hb hr hlocks rfl rfl dX10_gardenerAt_6

set_option maxHeartbeats 4000000 in
set_option maxRecDepth 100000 in
theorem c_X10_visitorAt (l : Launch) (G : Gd) (σ : Mm) (sz : Nat) (a0 : Int32) {out : Int32} (ho : f_X10_visitorAt a0 σ = some out) : Met l yX10_visitorAt wsX10_visitorAt { frames := 0, cells := 0, slots := 0, locals := 0 } (va_Pc [.int a0] (PW G σ sz)) (Qi G sz out σ) 0 0 (AA G sz) := by
  refine Met.ofW (cc := cX10_visitorAt) (maxL := 1) (ret := (some .int)) (by decide) rfl ?_
  intro p e s m args below meth c s₁ B0 hml hv
  obtain ⟨rfl, hpw⟩ := hv
  have hsz := hpw.1
  subst hsz
  obtain ⟨F, B⟩ := hpw.to
  have hx := B0.exec
  have hb := B0.bytes
  have hr := B0.returns
  have hts := atoms_spec (ws := wsX10_visitorAt) B0.pre
  have hown : s.vm.findClass RX10 = some m.cls := findClass_of_methodNamed B0.named
  have hlocks := B0.notSynchronized
  have S : CallFix p m c cX10_visitorAt 1 s _ wsX10_visitorAt RX10 := ⟨hx, hb, hml, hown, hts⟩
  have hl := lv_entry [.int a0] (n := 1) (Nat.le_of_ble_eq_true rfl)
  rw [lg_entry_eq]
  generalize (lg_sl [.int a0] ++ List.replicate (1 - (lg_sl [.int a0]).length) Slot.unset).toArray = ls at hl ⊢
  have hl : lv_has ls 1 [(0, .int a0)] := hl
  unfold f_X10_visitorAt at ho
  refine lv_bipush (v := 46) hx hb dX10_visitorAt_0 (by decide) ?_
  refine lv_bipush (v := 8) hx hb dX10_visitorAt_2 (by decide) ?_
  refine lv_iload_n hx hb dX10_visitorAt_4 rfl (lv_at hl 0 rfl) ?_
  refine lv_imul hx hb dX10_visitorAt_5 ?_
  refine lv_iadd hx hb dX10_visitorAt_6 ?_
  cases ho
  exact e_i B hx hb hr hlocks rfl rfl dX10_visitorAt_7

set_option maxHeartbeats 4000000 in
set_option maxRecDepth 100000 in
theorem c_X10_isGardener (l : Launch) (G : Gd) (σ : Mm) (sz : Nat) (a0 : Int32) {out : Int32} (ho : f_X10_isGardener a0 σ = some out) : Met l yX10_isGardener wsX10_isGardener { frames := 1, cells := 0, slots := 0, locals := 25 } (va_Pc [.ref (G.2.2 198), .int a0] (PW G σ sz)) (Qi G sz out σ) 0 0 (AA G sz) := by
  refine Met.ofW (cc := cX10_isGardener) (maxL := 2) (ret := (some .boolean)) (by decide) rfl ?_
  intro p e s m args below meth c s₁ B0 hml hv
  obtain ⟨rfl, hpw⟩ := hv
  have hsz := hpw.1
  subst hsz
  obtain ⟨F, B⟩ := hpw.to
  have hx := B0.exec
  have hb := B0.bytes
  have hr := B0.returns
  have hts := atoms_spec (ws := wsX10_isGardener) B0.pre
  have hown : s.vm.findClass RX10 = some m.cls := findClass_of_methodNamed B0.named
  have hlocks := B0.notSynchronized
  have S : CallFix p m c cX10_isGardener 2 s _ wsX10_isGardener RX10 := ⟨hx, hb, hml, hown, hts⟩
  have hiX10 : ∀ w ∈ u_ws RX10 TX10 21, w ∈ wsX10_isGardener := by decide +kernel
  have hl := lv_entry [.ref (G.2.2 198), .int a0] (n := 2) (Nat.le_of_ble_eq_true rfl)
  rw [lg_entry_eq]
  generalize (lg_sl [.ref (G.2.2 198), .int a0] ++ List.replicate (2 - (lg_sl [.ref (G.2.2 198), .int a0]).length) Slot.unset).toArray = ls at hl ⊢
  have hl : lv_has ls 2 [(0, .ref (G.2.2 198)), (1, .int a0)] := hl
  unfold f_X10_isGardener at ho
  refine lv_iload_n hx hb dX10_isGardener_0 rfl (lv_at hl 1 rfl) ?_
  refine lv_i2l hx hb dX10_isGardener_1 rfl ?_
  refine lv_lconst (v := 0) hx hb dX10_isGardener_2 (by decide) ?_
  refine lv_aload_n hx hb dX10_isGardener_3 rfl (lv_at hl 0 rfl) ?_
  refine r_get (ci := 14) (C := RX10) (T := TX10) (N := 21) S F B (kq (by decide) : kd 198 = 21 ∧ 198 < NN) rfl rfl hiX10 0 (by decide) (by decide +kernel) rfl dX10_isGardener_4 ?_
  refine lv_iconst (v := 0) hx hb dX10_isGardener_7 (by decide) ?_
  refine r_ialdc (j := 0) S F B (kq (by decide) : kd 199 = 22 ∧ 199 < NN) rfl (vpc (by decide)) (by decide) dX10_isGardener_8 ?_
  refine lv_iconst (v := 1) hx hb dX10_isGardener_9 (by decide) ?_
  refine lv_isub hx hb dX10_isGardener_10 ?_
  refine lv_i2l hx hb dX10_isGardener_11 rfl ?_
  obtain ⟨q1, hq1, ho⟩ := bnd_ ho
  refine k_iS (As := [.long a0.toInt64, .long 0, .long (((σ 199 0) - 1).toInt64)]) (rest := []) S F B (c_X10_in l G σ _ a0.toInt64 0 (((σ 199 0) - 1).toInt64) hq1) (va_cwS 3 hts gX10_isGardener_X10_in rfl rfl rfl (by decide +kernel) ⟨Nat.le_of_ble_eq_true rfl, Nat.le_of_ble_eq_true rfl⟩) rfl hl.1 rfl (Nat.le_of_ble_eq_true rfl) dX10_isGardener_12 ⟨Nat.le_of_ble_eq_true rfl, Nat.le_of_ble_eq_true rfl⟩ (fun H locs B => ?_)
  obtain ⟨hz, ho⟩ := bz_ ho
  cases ho
  exact e_i B hx hb hr hlocks hz rfl dX10_isGardener_15

set_option maxHeartbeats 4000000 in
set_option maxRecDepth 100000 in
theorem c_X10_isVisitor (l : Launch) (G : Gd) (σ : Mm) (sz : Nat) (a0 : Int32) {out : Int32} (ho : f_X10_isVisitor a0 σ = some out) : Met l yX10_isVisitor wsX10_isVisitor { frames := 1, cells := 0, slots := 0, locals := 25 } (va_Pc [.ref (G.2.2 198), .int a0] (PW G σ sz)) (Qi G sz out σ) 0 0 (AA G sz) := by
  refine Met.ofW (cc := cX10_isVisitor) (maxL := 2) (ret := (some .boolean)) (by decide) rfl ?_
  intro p e s m args below meth c s₁ B0 hml hv
  obtain ⟨rfl, hpw⟩ := hv
  have hsz := hpw.1
  subst hsz
  obtain ⟨F, B⟩ := hpw.to
  have hx := B0.exec
  have hb := B0.bytes
  have hr := B0.returns
  have hts := atoms_spec (ws := wsX10_isVisitor) B0.pre
  have hown : s.vm.findClass RX10 = some m.cls := findClass_of_methodNamed B0.named
  have hlocks := B0.notSynchronized
  have S : CallFix p m c cX10_isVisitor 2 s _ wsX10_isVisitor RX10 := ⟨hx, hb, hml, hown, hts⟩
  have hiX10 : ∀ w ∈ u_ws RX10 TX10 21, w ∈ wsX10_isVisitor := by decide +kernel
  have hl := lv_entry [.ref (G.2.2 198), .int a0] (n := 2) (Nat.le_of_ble_eq_true rfl)
  rw [lg_entry_eq]
  generalize (lg_sl [.ref (G.2.2 198), .int a0] ++ List.replicate (2 - (lg_sl [.ref (G.2.2 198), .int a0]).length) Slot.unset).toArray = ls at hl ⊢
  have hl : lv_has ls 2 [(0, .ref (G.2.2 198)), (1, .int a0)] := hl
  unfold f_X10_isVisitor at ho
  refine lv_iload_n hx hb dX10_isVisitor_0 rfl (lv_at hl 1 rfl) ?_
  refine lv_i2l hx hb dX10_isVisitor_1 rfl ?_
  refine lv_lconst (v := 0) hx hb dX10_isVisitor_2 (by decide) ?_
  refine lv_aload_n hx hb dX10_isVisitor_3 rfl (lv_at hl 0 rfl) ?_
  refine r_get (ci := 14) (C := RX10) (T := TX10) (N := 21) S F B (kq (by decide) : kd 198 = 21 ∧ 198 < NN) rfl rfl hiX10 0 (by decide) (by decide +kernel) rfl dX10_isVisitor_4 ?_
  refine lv_iconst (v := 1) hx hb dX10_isVisitor_7 (by decide) ?_
  refine r_ialdc (j := 1) S F B (kq (by decide) : kd 199 = 22 ∧ 199 < NN) rfl (vpc (by decide)) (by decide) dX10_isVisitor_8 ?_
  refine lv_iconst (v := 1) hx hb dX10_isVisitor_9 (by decide) ?_
  refine lv_isub hx hb dX10_isVisitor_10 ?_
  refine lv_i2l hx hb dX10_isVisitor_11 rfl ?_
  obtain ⟨q1, hq1, ho⟩ := bnd_ ho
  refine k_iS (As := [.long a0.toInt64, .long 0, .long (((σ 199 1) - 1).toInt64)]) (rest := []) S F B (c_X10_in l G σ _ a0.toInt64 0 (((σ 199 1) - 1).toInt64) hq1) (va_cwS 3 hts gX10_isVisitor_X10_in rfl rfl rfl (by decide +kernel) ⟨Nat.le_of_ble_eq_true rfl, Nat.le_of_ble_eq_true rfl⟩) rfl hl.1 rfl (Nat.le_of_ble_eq_true rfl) dX10_isVisitor_12 ⟨Nat.le_of_ble_eq_true rfl, Nat.le_of_ble_eq_true rfl⟩ (fun H locs B => ?_)
  obtain ⟨hz, ho⟩ := bz_ ho
  cases ho
  exact e_i B hx hb hr hlocks hz rfl dX10_isVisitor_15

set_option maxHeartbeats 4000000 in
set_option maxRecDepth 100000 in
theorem c_X10_laysWays (l : Launch) (G : Gd) (σ : Mm) (sz : Nat) (a0 : Int32) (a1 : Int32) {out : Mm} (ho : f_X10_laysWays a0 a1 σ = some out) : Met l yX10_laysWays wsX10_laysWays { frames := 2, cells := 0, slots := 0, locals := 55 } (va_Pc [.ref (G.2.2 198), .int a0, .int a1] (PW G σ sz)) (Qv G sz out) 0 0 (AA G sz) := by
  refine Met.ofW (cc := cX10_laysWays) (maxL := 9) (ret := none) (by decide) rfl ?_
  intro p e s m args below meth c s₁ B0 hml hv
  obtain ⟨rfl, hpw⟩ := hv
  have hsz := hpw.1
  subst hsz
  obtain ⟨F, B⟩ := hpw.to
  have hx := B0.exec
  have hb := B0.bytes
  have hr := B0.returns
  have hts := atoms_spec (ws := wsX10_laysWays) B0.pre
  have hown : s.vm.findClass RX10 = some m.cls := findClass_of_methodNamed B0.named
  have hlocks := B0.notSynchronized
  have S : CallFix p m c cX10_laysWays 9 s _ wsX10_laysWays RX10 := ⟨hx, hb, hml, hown, hts⟩
  have hiX10 : ∀ w ∈ u_ws RX10 TX10 21, w ∈ wsX10_laysWays := by decide +kernel
  have hl := lv_entry [.ref (G.2.2 198), .int a0, .int a1] (n := 9) (Nat.le_of_ble_eq_true rfl)
  rw [lg_entry_eq]
  generalize (lg_sl [.ref (G.2.2 198), .int a0, .int a1] ++ List.replicate (9 - (lg_sl [.ref (G.2.2 198), .int a0, .int a1]).length) Slot.unset).toArray = ls at hl ⊢
  have hl : lv_has ls 9 [(0, .ref (G.2.2 198)), (1, .int a0), (2, .int a1)] := hl
  unfold f_X10_laysWays at ho
  skip
  refine lv_iconst (v := 0) hx hb dX10_laysWays_0 (by decide) ?_
  refine lv_istore_n (lv' := [(3, .int 0), (0, .ref (G.2.2 198)), (1, .int a0), (2, .int a1)]) hx hb dX10_laysWays_1 rfl hl (by decide) rfl (fun ls hl => ?_)
  obtain ⟨K, hK, ho⟩ := lt_ ho
  have hexit2 : ∀ (v1 : Int32) (σ2 : Mm) (H : Heap) (locs : List Loc) (ls : Array Slot), K v1 σ2 = some out → Bd G σ2 s H locs → lv_has ls 9 [(3, .int v1), (0, .ref (G.2.2 198)), (1, .int a0), (2, .int a1)] → W p l e (headSpec wsX10_laysWays { frames := 2, cells := 0, slots := 0, locals := 55 }).room s m #[.ref (G.2.2 198), .int a0, .int a1] below meth c H locs 0 0 (MQ below (Qv G s.heap.size out) #[.ref (G.2.2 198), .int a0, .int a1] s 0 0 (AA G s.heap.size)) (F0 m 31 ls []) := by
    intro v1 σ2 H locs ls ho B hl
    subst hK
    refine lv_iconst (v := 0) hx hb dX10_laysWays_31 (by decide) ?_
    refine lv_istore_n (lv' := [(3, .int 0), (0, .ref (G.2.2 198)), (1, .int a0), (2, .int a1)]) hx hb dX10_laysWays_32 rfl hl (by decide) rfl (fun ls hl => ?_)
    have hloop33 : ∀ (n : Nat) (v7 : Int32) (σ8 : Mm) (H : Heap) (locs : List Loc) (ls : Array Slot), f_X10_laysWays_l33  a0 a1 n v7 σ8 = some out → Bd G σ8 s H locs → lv_has ls 9 [(3, .int v7), (0, .ref (G.2.2 198)), (1, .int a0), (2, .int a1)] → W p l e (headSpec wsX10_laysWays { frames := 2, cells := 0, slots := 0, locals := 55 }).room s m #[.ref (G.2.2 198), .int a0, .int a1] below meth c H locs 0 0 (MQ below (Qv G s.heap.size out) #[.ref (G.2.2 198), .int a0, .int a1] s 0 0 (AA G s.heap.size)) (F0 m 33 ls []) := by
      intro n
      induction n with
      | zero => intro v7 σ8 H locs ls ho B hl; cases ho
      | succ n ih =>
        intro v7 σ8 H locs ls ho B hl
        refine lv_iload_n hx hb dX10_laysWays_33 rfl (lv_at hl 0 rfl) ?_
        refine lv_bipush (v := 16) hx hb dX10_laysWays_34 (by decide) ?_
        refine lv_icmp_ge (tgt := 175) hx hb dX10_laysWays_36 (by decide) (fun c9 => ?_) (fun c9 => ?_)
        · have ho := ip_ c9 ho
          cases ho
          exact e_v B hx hb hr hlocks dX10_laysWays_175
        · have ho := in_ c9 ho
          refine lv_iconst (v := 0) hx hb dX10_laysWays_39 (by decide) ?_
          refine lv_istore (lv' := [(4, .int 0), (3, .int v7), (0, .ref (G.2.2 198)), (1, .int a0), (2, .int a1)]) hx hb dX10_laysWays_40 hl (by decide) rfl (fun ls hl => ?_)
          obtain ⟨K, hK, ho⟩ := lt_ ho
          have hexit42 : ∀ (v10 : Int32) (σ11 : Mm) (H : Heap) (locs : List Loc) (ls : Array Slot), K v10 σ11 = some out → Bd G σ11 s H locs → lv_has ls 9 [(4, .int v10), (3, .int v7), (0, .ref (G.2.2 198)), (1, .int a0), (2, .int a1)] → W p l e (headSpec wsX10_laysWays { frames := 2, cells := 0, slots := 0, locals := 55 }).room s m #[.ref (G.2.2 198), .int a0, .int a1] below meth c H locs 0 0 (MQ below (Qv G s.heap.size out) #[.ref (G.2.2 198), .int a0, .int a1] s 0 0 (AA G s.heap.size)) (F0 m 169 ls []) := by
            intro v10 σ11 H locs ls ho B hl
            subst hK
            obtain ⟨x13, ex13, ho⟩ := lt_ ho
            refine lv_iinc (v := x13) (lv' := [(3, .int x13), (4, .int v10), (0, .ref (G.2.2 198)), (1, .int a0), (2, .int a1)]) hx hb dX10_laysWays_169 hl (k := 1) rfl (by rw [ex13]; rfl) (by decide) rfl (fun ls hl => ?_)
            refine lv_goto (tgt := 33) hx hb dX10_laysWays_172 (by decide) ?_
            exact ih _ _ _ _ _ ho B (lv_sub hl [0, 2, 3, 4] rfl)
          have hloop42 : ∀ (n : Nat) (v14 : Int32) (σ15 : Mm) (H : Heap) (locs : List Loc) (ls : Array Slot), f_X10_laysWays_l42 K v7 a0 a1 n v14 σ15 = some out → Bd G σ15 s H locs → lv_has ls 9 [(4, .int v14), (3, .int v7), (0, .ref (G.2.2 198)), (1, .int a0), (2, .int a1)] → W p l e (headSpec wsX10_laysWays { frames := 2, cells := 0, slots := 0, locals := 55 }).room s m #[.ref (G.2.2 198), .int a0, .int a1] below meth c H locs 0 0 (MQ below (Qv G s.heap.size out) #[.ref (G.2.2 198), .int a0, .int a1] s 0 0 (AA G s.heap.size)) (F0 m 42 ls []) := by
            intro n
            induction n with
            | zero => intro v14 σ15 H locs ls ho B hl; cases ho
            | succ n ih =>
              intro v14 σ15 H locs ls ho B hl
              refine lv_iload hx hb dX10_laysWays_42 (lv_at hl 0 rfl) ?_
              refine lv_bipush (v := 16) hx hb dX10_laysWays_44 (by decide) ?_
              refine lv_icmp_ge (tgt := 169) hx hb dX10_laysWays_46 (by decide) (fun c16 => ?_) (fun c16 => ?_)
              · have ho := ip_ c16 ho
                exact hexit42 _ _ _ _ _ ho B (lv_sub hl [0, 1, 2, 3, 4] rfl)
              · have ho := in_ c16 ho
                refine lv_iconst (v := 0) hx hb dX10_laysWays_49 (by decide) ?_
                refine lv_istore (lv' := [(5, .int 0), (4, .int v14), (3, .int v7), (0, .ref (G.2.2 198)), (1, .int a0), (2, .int a1)]) hx hb dX10_laysWays_50 hl (by decide) rfl (fun ls hl => ?_)
                obtain ⟨K, hK, ho⟩ := lt_ ho
                have hexit52 : ∀ (v17 : Int32) (σ18 : Mm) (H : Heap) (locs : List Loc) (ls : Array Slot), K v17 σ18 = some out → Bd G σ18 s H locs → lv_has ls 9 [(5, .int v17), (4, .int v14), (3, .int v7), (0, .ref (G.2.2 198)), (1, .int a0), (2, .int a1)] → W p l e (headSpec wsX10_laysWays { frames := 2, cells := 0, slots := 0, locals := 55 }).room s m #[.ref (G.2.2 198), .int a0, .int a1] below meth c H locs 0 0 (MQ below (Qv G s.heap.size out) #[.ref (G.2.2 198), .int a0, .int a1] s 0 0 (AA G s.heap.size)) (F0 m 163 ls []) := by
                  intro v17 σ18 H locs ls ho B hl
                  subst hK
                  obtain ⟨x20, ex20, ho⟩ := lt_ ho
                  refine lv_iinc (v := x20) (lv' := [(4, .int x20), (5, .int v17), (3, .int v7), (0, .ref (G.2.2 198)), (1, .int a0), (2, .int a1)]) hx hb dX10_laysWays_163 hl (k := 1) rfl (by rw [ex20]; rfl) (by decide) rfl (fun ls hl => ?_)
                  refine lv_goto (tgt := 42) hx hb dX10_laysWays_166 (by decide) ?_
                  exact ih _ _ _ _ _ ho B (lv_sub hl [0, 2, 3, 4, 5] rfl)
                have hloop52 : ∀ (n : Nat) (v21 : Int32) (σ22 : Mm) (H : Heap) (locs : List Loc) (ls : Array Slot), f_X10_laysWays_l52 K v14 v7 a0 a1 n v21 σ22 = some out → Bd G σ22 s H locs → lv_has ls 9 [(5, .int v21), (4, .int v14), (3, .int v7), (0, .ref (G.2.2 198)), (1, .int a0), (2, .int a1)] → W p l e (headSpec wsX10_laysWays { frames := 2, cells := 0, slots := 0, locals := 55 }).room s m #[.ref (G.2.2 198), .int a0, .int a1] below meth c H locs 0 0 (MQ below (Qv G s.heap.size out) #[.ref (G.2.2 198), .int a0, .int a1] s 0 0 (AA G s.heap.size)) (F0 m 52 ls []) := by
                  intro n
                  induction n with
                  | zero => intro v21 σ22 H locs ls ho B hl; cases ho
                  | succ n ih =>
                    intro v21 σ22 H locs ls ho B hl
                    refine lv_iload hx hb dX10_laysWays_52 (lv_at hl 0 rfl) ?_
                    refine lv_iconst (v := 4) hx hb dX10_laysWays_54 (by decide) ?_
                    refine lv_icmp_ge (tgt := 163) hx hb dX10_laysWays_55 (by decide) (fun c23 => ?_) (fun c23 => ?_)
                    · have ho := ip_ c23 ho
                      exact hexit52 _ _ _ _ _ ho B (lv_sub hl [0, 1, 2, 3, 4, 5] rfl)
                    · have ho := in_ c23 ho
                      refine lv_iload hx hb dX10_laysWays_58 (lv_at hl 1 rfl) ?_
                      refine lv_iload hx hb dX10_laysWays_60 (lv_at hl 0 rfl) ?_
                      obtain ⟨q24, hq24, ho⟩ := bnd_ ho
                      refine k_iS (As := [.int v14, .int v21]) (rest := []) S F B (c_X10_nextTo l G σ22 _ v14 v21 hq24) (va_cwS 2 hts gX10_laysWays_X10_nextTo rfl rfl rfl (by decide +kernel) ⟨Nat.le_of_ble_eq_true rfl, Nat.le_of_ble_eq_true rfl⟩) rfl hl.1 rfl (Nat.le_of_ble_eq_true rfl) dX10_laysWays_62 ⟨Nat.le_of_ble_eq_true rfl, Nat.le_of_ble_eq_true rfl⟩ (fun H locs B => ?_)
                      refine lv_istore (lv' := [(6, .int q24), (5, .int v21), (4, .int v14), (3, .int v7), (0, .ref (G.2.2 198)), (1, .int a0), (2, .int a1)]) hx hb dX10_laysWays_65 hl (by decide) rfl (fun ls hl => ?_)
                      refine lv_iload hx hb dX10_laysWays_67 (lv_at hl 0 rfl) ?_
                      refine lv_iconst (v := (-1)) hx hb dX10_laysWays_69 (by decide) ?_
                      refine lv_icmp_eq (tgt := 91) hx hb dX10_laysWays_70 (by decide) (fun c25 => ?_) (fun c25 => ?_)
                      · have ho := ip_ c25 ho
                        refine lv_iconst (v := 0) hx hb dX10_laysWays_91 (by decide) ?_
                        refine lv_istore (lv' := [(7, .int 0), (6, .int q24), (5, .int v21), (4, .int v14), (3, .int v7), (0, .ref (G.2.2 198)), (1, .int a0), (2, .int a1)]) hx hb dX10_laysWays_92 hl (by decide) rfl (fun ls hl => ?_)
                        refine lv_iload_n hx hb dX10_laysWays_94 rfl (lv_at hl 7 rfl) ?_
                        refine lv_if_eq (tgt := 111) hx hb dX10_laysWays_95 (by decide) (fun c26 => ?_) (fun c26 => ?_)
                        · have ho := ip_ c26 ho
                          refine lv_iload hx hb dX10_laysWays_111 (lv_at hl 0 rfl) ?_
                          refine lv_if_eq (tgt := 120) hx hb dX10_laysWays_113 (by decide) (fun _ => ?_) (fun h => absurd h (by decide))
                          refine lv_bipush (v := 99) hx hb dX10_laysWays_120 (by decide) ?_
                          refine lv_istore (lv' := [(8, .int 99), (7, .int 0), (6, .int q24), (5, .int v21), (4, .int v14), (3, .int v7), (0, .ref (G.2.2 198)), (1, .int a0), (2, .int a1)]) hx hb dX10_laysWays_122 hl (by decide) rfl (fun ls hl => ?_)
                          refine lv_iload hx hb dX10_laysWays_124 (lv_at hl 2 rfl) ?_
                          refine lv_iconst (v := (-1)) hx hb dX10_laysWays_126 (by decide) ?_
                          refine lv_icmp_eq (tgt := 157) hx hb dX10_laysWays_127 (by decide) (fun c27 => ?_) (fun c27 => ?_)
                          · have ho := ip_ c27 ho
                            obtain ⟨x28, ex28, ho⟩ := lt_ ho
                            refine lv_iinc (v := x28) (lv' := [(5, .int x28), (8, .int 99), (7, .int 0), (6, .int q24), (4, .int v14), (3, .int v7), (0, .ref (G.2.2 198)), (1, .int a0), (2, .int a1)]) hx hb dX10_laysWays_157 hl (k := 3) rfl (by rw [ex28]; rfl) (by decide) rfl (fun ls hl => ?_)
                            refine lv_goto (tgt := 52) hx hb dX10_laysWays_160 (by decide) ?_
                            exact ih _ _ _ _ _ ho B (lv_sub hl [0, 4, 5, 6, 7, 8] rfl)
                          · have ho := in_ c27 ho
                            refine lv_aload_n hx hb dX10_laysWays_130 rfl (lv_at hl 6 rfl) ?_
                            refine r_get (ci := 14) (C := RX10) (T := TX10) (N := 21) S F B (kq (by decide) : kd 198 = 21 ∧ 198 < NN) rfl rfl hiX10 13 (by decide) (by decide +kernel) rfl dX10_laysWays_131 ?_
                            refine lv_iload hx hb dX10_laysWays_134 (lv_at hl 2 rfl) ?_
                            refine lv_aload_n hx hb dX10_laysWays_136 rfl (lv_at hl 6 rfl) ?_
                            refine r_get (ci := 14) (C := RX10) (T := TX10) (N := 21) S F B (kq (by decide) : kd 198 = 21 ∧ 198 < NN) rfl rfl hiX10 13 (by decide) (by decide +kernel) rfl dX10_laysWays_137 ?_
                            refine lv_iload hx hb dX10_laysWays_140 (lv_at hl 2 rfl) ?_
                            obtain ⟨hi, ho⟩ := gd_ ho
                            refine r_iald S F B (kq (by decide) : kd 204 = 12 ∧ 204 < NN) rfl hi dX10_laysWays_142 ?_
                            refine lv_aload_n hx hb dX10_laysWays_143 rfl (lv_at hl 6 rfl) ?_
                            refine r_get (ci := 14) (C := RX10) (T := TX10) (N := 21) S F B (kq (by decide) : kd 198 = 21 ∧ 198 < NN) rfl rfl hiX10 13 (by decide) (by decide +kernel) rfl dX10_laysWays_144 ?_
                            refine lv_iload hx hb dX10_laysWays_147 (lv_at hl 4 rfl) ?_
                            obtain ⟨hi, ho⟩ := gd_ ho
                            refine r_iald S F B (kq (by decide) : kd 204 = 12 ∧ 204 < NN) rfl hi dX10_laysWays_149 ?_
                            refine lv_iload hx hb dX10_laysWays_150 (lv_at hl 0 rfl) ?_
                            refine lv_iadd hx hb dX10_laysWays_152 ?_
                            refine va_mmin hx hb (hml.trans hl.1.symm) hown (hts _ (by decide +kernel)) (hts _ (by decide +kernel)) (hts _ (by decide +kernel)) (hts _ (by decide +kernel)) (Nat.le_of_ble_eq_true rfl) (Nat.le_of_ble_eq_true rfl) (Nat.le_of_ble_eq_true rfl) (Nat.le_of_ble_eq_true rfl) dX10_laysWays_153 ?_
                            obtain ⟨hi, ho⟩ := gd_ ho
                            refine r_iast S F B (kq (by decide) : kd 204 = 12 ∧ 204 < NN) (fun _ => rfl) hi dX10_laysWays_156 (fun H locs B => ?_)
                            obtain ⟨σ29, eσ29, ho⟩ := lt_ ho
                            rw [← eσ29] at B
                            obtain ⟨x30, ex30, ho⟩ := lt_ ho
                            refine lv_iinc (v := x30) (lv' := [(5, .int x30), (8, .int 99), (7, .int 0), (6, .int q24), (4, .int v14), (3, .int v7), (0, .ref (G.2.2 198)), (1, .int a0), (2, .int a1)]) hx hb dX10_laysWays_157 hl (k := 3) rfl (by rw [ex30]; rfl) (by decide) rfl (fun ls hl => ?_)
                            refine lv_goto (tgt := 52) hx hb dX10_laysWays_160 (by decide) ?_
                            exact ih _ _ _ _ _ ho B (lv_sub hl [0, 4, 5, 6, 7, 8] rfl)
                        · have ho := in_ c26 ho
                          refine lv_iload hx hb dX10_laysWays_98 (lv_at hl 0 rfl) ?_
                          refine lv_if_eq (tgt := 107) hx hb dX10_laysWays_100 (by decide) (fun _ => ?_) (fun h => absurd h (by decide))
                          refine lv_iconst (v := 1) hx hb dX10_laysWays_107 (by decide) ?_
                          refine lv_goto (tgt := 122) hx hb dX10_laysWays_108 (by decide) ?_
                          refine lv_istore (lv' := [(8, .int 1), (7, .int 0), (6, .int q24), (5, .int v21), (4, .int v14), (3, .int v7), (0, .ref (G.2.2 198)), (1, .int a0), (2, .int a1)]) hx hb dX10_laysWays_122 hl (by decide) rfl (fun ls hl => ?_)
                          refine lv_iload hx hb dX10_laysWays_124 (lv_at hl 2 rfl) ?_
                          refine lv_iconst (v := (-1)) hx hb dX10_laysWays_126 (by decide) ?_
                          refine lv_icmp_eq (tgt := 157) hx hb dX10_laysWays_127 (by decide) (fun c31 => ?_) (fun c31 => ?_)
                          · have ho := ip_ c31 ho
                            obtain ⟨x32, ex32, ho⟩ := lt_ ho
                            refine lv_iinc (v := x32) (lv' := [(5, .int x32), (8, .int 1), (7, .int 0), (6, .int q24), (4, .int v14), (3, .int v7), (0, .ref (G.2.2 198)), (1, .int a0), (2, .int a1)]) hx hb dX10_laysWays_157 hl (k := 3) rfl (by rw [ex32]; rfl) (by decide) rfl (fun ls hl => ?_)
                            refine lv_goto (tgt := 52) hx hb dX10_laysWays_160 (by decide) ?_
                            exact ih _ _ _ _ _ ho B (lv_sub hl [0, 4, 5, 6, 7, 8] rfl)
                          · have ho := in_ c31 ho
                            refine lv_aload_n hx hb dX10_laysWays_130 rfl (lv_at hl 6 rfl) ?_
                            refine r_get (ci := 14) (C := RX10) (T := TX10) (N := 21) S F B (kq (by decide) : kd 198 = 21 ∧ 198 < NN) rfl rfl hiX10 13 (by decide) (by decide +kernel) rfl dX10_laysWays_131 ?_
                            refine lv_iload hx hb dX10_laysWays_134 (lv_at hl 2 rfl) ?_
                            refine lv_aload_n hx hb dX10_laysWays_136 rfl (lv_at hl 6 rfl) ?_
                            refine r_get (ci := 14) (C := RX10) (T := TX10) (N := 21) S F B (kq (by decide) : kd 198 = 21 ∧ 198 < NN) rfl rfl hiX10 13 (by decide) (by decide +kernel) rfl dX10_laysWays_137 ?_
                            refine lv_iload hx hb dX10_laysWays_140 (lv_at hl 2 rfl) ?_
                            obtain ⟨hi, ho⟩ := gd_ ho
                            refine r_iald S F B (kq (by decide) : kd 204 = 12 ∧ 204 < NN) rfl hi dX10_laysWays_142 ?_
                            refine lv_aload_n hx hb dX10_laysWays_143 rfl (lv_at hl 6 rfl) ?_
                            refine r_get (ci := 14) (C := RX10) (T := TX10) (N := 21) S F B (kq (by decide) : kd 198 = 21 ∧ 198 < NN) rfl rfl hiX10 13 (by decide) (by decide +kernel) rfl dX10_laysWays_144 ?_
                            refine lv_iload hx hb dX10_laysWays_147 (lv_at hl 4 rfl) ?_
                            obtain ⟨hi, ho⟩ := gd_ ho
                            refine r_iald S F B (kq (by decide) : kd 204 = 12 ∧ 204 < NN) rfl hi dX10_laysWays_149 ?_
                            refine lv_iload hx hb dX10_laysWays_150 (lv_at hl 0 rfl) ?_
                            refine lv_iadd hx hb dX10_laysWays_152 ?_
                            refine va_mmin hx hb (hml.trans hl.1.symm) hown (hts _ (by decide +kernel)) (hts _ (by decide +kernel)) (hts _ (by decide +kernel)) (hts _ (by decide +kernel)) (Nat.le_of_ble_eq_true rfl) (Nat.le_of_ble_eq_true rfl) (Nat.le_of_ble_eq_true rfl) (Nat.le_of_ble_eq_true rfl) dX10_laysWays_153 ?_
                            obtain ⟨hi, ho⟩ := gd_ ho
                            refine r_iast S F B (kq (by decide) : kd 204 = 12 ∧ 204 < NN) (fun _ => rfl) hi dX10_laysWays_156 (fun H locs B => ?_)
                            obtain ⟨σ33, eσ33, ho⟩ := lt_ ho
                            rw [← eσ33] at B
                            obtain ⟨x34, ex34, ho⟩ := lt_ ho
                            refine lv_iinc (v := x34) (lv' := [(5, .int x34), (8, .int 1), (7, .int 0), (6, .int q24), (4, .int v14), (3, .int v7), (0, .ref (G.2.2 198)), (1, .int a0), (2, .int a1)]) hx hb dX10_laysWays_157 hl (k := 3) rfl (by rw [ex34]; rfl) (by decide) rfl (fun ls hl => ?_)
                            refine lv_goto (tgt := 52) hx hb dX10_laysWays_160 (by decide) ?_
                            exact ih _ _ _ _ _ ho B (lv_sub hl [0, 4, 5, 6, 7, 8] rfl)
                      · have ho := in_ c25 ho
                        refine lv_aload_n hx hb dX10_laysWays_73 rfl (lv_at hl 4 rfl) ?_
                        refine lv_iload hx hb dX10_laysWays_74 (lv_at hl 2 rfl) ?_
                        refine lv_iload hx hb dX10_laysWays_76 (lv_at hl 0 rfl) ?_
                        obtain ⟨q35, hq35, ho⟩ := bnd_ ho
                        refine k_iS (As := [.int v14, .int q24]) (rest := [.ref (G.2.2 198)]) S F B (c_X10_hedgeAt l G σ22 _ v14 q24 hq35) (va_cwS 2 hts gX10_laysWays_X10_hedgeAt rfl rfl rfl (by decide +kernel) ⟨Nat.le_of_ble_eq_true rfl, Nat.le_of_ble_eq_true rfl⟩) rfl hl.1 rfl (Nat.le_of_ble_eq_true rfl) dX10_laysWays_78 ⟨Nat.le_of_ble_eq_true rfl, Nat.le_of_ble_eq_true rfl⟩ (fun H locs B => ?_)
                        obtain ⟨q36, hq36, ho⟩ := bnd_ ho
                        refine k_iV (As := [.int q35]) (rest := []) S F B (c_X10_isGapAt l G σ22 _ q35 hq36) (kq (by decide) : kd 198 = 21 ∧ 198 < NN) rfl rfl (cwV 1 hts gX10_laysWays_X10_isGapAt rfl rfl rfl (by decide +kernel) ⟨Nat.le_of_ble_eq_true rfl, Nat.le_of_ble_eq_true rfl⟩) rfl hl.1 rfl (Nat.le_of_ble_eq_true rfl) dX10_laysWays_81 ⟨Nat.le_of_ble_eq_true rfl, Nat.le_of_ble_eq_true rfl⟩ (fun H locs B => ?_)
                        refine lv_if_eq (tgt := 91) hx hb dX10_laysWays_84 (by decide) (fun c37 => ?_) (fun c37 => ?_)
                        · have ho := ip_ c37 ho
                          refine lv_iconst (v := 0) hx hb dX10_laysWays_91 (by decide) ?_
                          refine lv_istore (lv' := [(7, .int 0), (6, .int q24), (5, .int v21), (4, .int v14), (3, .int v7), (0, .ref (G.2.2 198)), (1, .int a0), (2, .int a1)]) hx hb dX10_laysWays_92 hl (by decide) rfl (fun ls hl => ?_)
                          refine lv_iload_n hx hb dX10_laysWays_94 rfl (lv_at hl 7 rfl) ?_
                          refine lv_if_eq (tgt := 111) hx hb dX10_laysWays_95 (by decide) (fun c38 => ?_) (fun c38 => ?_)
                          · have ho := ip_ c38 ho
                            refine lv_iload hx hb dX10_laysWays_111 (lv_at hl 0 rfl) ?_
                            refine lv_if_eq (tgt := 120) hx hb dX10_laysWays_113 (by decide) (fun _ => ?_) (fun h => absurd h (by decide))
                            refine lv_bipush (v := 99) hx hb dX10_laysWays_120 (by decide) ?_
                            refine lv_istore (lv' := [(8, .int 99), (7, .int 0), (6, .int q24), (5, .int v21), (4, .int v14), (3, .int v7), (0, .ref (G.2.2 198)), (1, .int a0), (2, .int a1)]) hx hb dX10_laysWays_122 hl (by decide) rfl (fun ls hl => ?_)
                            refine lv_iload hx hb dX10_laysWays_124 (lv_at hl 2 rfl) ?_
                            refine lv_iconst (v := (-1)) hx hb dX10_laysWays_126 (by decide) ?_
                            refine lv_icmp_eq (tgt := 157) hx hb dX10_laysWays_127 (by decide) (fun c39 => ?_) (fun c39 => ?_)
                            · have ho := ip_ c39 ho
                              obtain ⟨x40, ex40, ho⟩ := lt_ ho
                              refine lv_iinc (v := x40) (lv' := [(5, .int x40), (8, .int 99), (7, .int 0), (6, .int q24), (4, .int v14), (3, .int v7), (0, .ref (G.2.2 198)), (1, .int a0), (2, .int a1)]) hx hb dX10_laysWays_157 hl (k := 3) rfl (by rw [ex40]; rfl) (by decide) rfl (fun ls hl => ?_)
                              refine lv_goto (tgt := 52) hx hb dX10_laysWays_160 (by decide) ?_
                              exact ih _ _ _ _ _ ho B (lv_sub hl [0, 4, 5, 6, 7, 8] rfl)
                            · have ho := in_ c39 ho
                              refine lv_aload_n hx hb dX10_laysWays_130 rfl (lv_at hl 6 rfl) ?_
                              refine r_get (ci := 14) (C := RX10) (T := TX10) (N := 21) S F B (kq (by decide) : kd 198 = 21 ∧ 198 < NN) rfl rfl hiX10 13 (by decide) (by decide +kernel) rfl dX10_laysWays_131 ?_
                              refine lv_iload hx hb dX10_laysWays_134 (lv_at hl 2 rfl) ?_
                              refine lv_aload_n hx hb dX10_laysWays_136 rfl (lv_at hl 6 rfl) ?_
                              refine r_get (ci := 14) (C := RX10) (T := TX10) (N := 21) S F B (kq (by decide) : kd 198 = 21 ∧ 198 < NN) rfl rfl hiX10 13 (by decide) (by decide +kernel) rfl dX10_laysWays_137 ?_
                              refine lv_iload hx hb dX10_laysWays_140 (lv_at hl 2 rfl) ?_
                              obtain ⟨hi, ho⟩ := gd_ ho
                              refine r_iald S F B (kq (by decide) : kd 204 = 12 ∧ 204 < NN) rfl hi dX10_laysWays_142 ?_
                              refine lv_aload_n hx hb dX10_laysWays_143 rfl (lv_at hl 6 rfl) ?_
                              refine r_get (ci := 14) (C := RX10) (T := TX10) (N := 21) S F B (kq (by decide) : kd 198 = 21 ∧ 198 < NN) rfl rfl hiX10 13 (by decide) (by decide +kernel) rfl dX10_laysWays_144 ?_
                              refine lv_iload hx hb dX10_laysWays_147 (lv_at hl 4 rfl) ?_
                              obtain ⟨hi, ho⟩ := gd_ ho
                              refine r_iald S F B (kq (by decide) : kd 204 = 12 ∧ 204 < NN) rfl hi dX10_laysWays_149 ?_
                              refine lv_iload hx hb dX10_laysWays_150 (lv_at hl 0 rfl) ?_
                              refine lv_iadd hx hb dX10_laysWays_152 ?_
                              refine va_mmin hx hb (hml.trans hl.1.symm) hown (hts _ (by decide +kernel)) (hts _ (by decide +kernel)) (hts _ (by decide +kernel)) (hts _ (by decide +kernel)) (Nat.le_of_ble_eq_true rfl) (Nat.le_of_ble_eq_true rfl) (Nat.le_of_ble_eq_true rfl) (Nat.le_of_ble_eq_true rfl) dX10_laysWays_153 ?_
                              obtain ⟨hi, ho⟩ := gd_ ho
                              refine r_iast S F B (kq (by decide) : kd 204 = 12 ∧ 204 < NN) (fun _ => rfl) hi dX10_laysWays_156 (fun H locs B => ?_)
                              obtain ⟨σ41, eσ41, ho⟩ := lt_ ho
                              rw [← eσ41] at B
                              obtain ⟨x42, ex42, ho⟩ := lt_ ho
                              refine lv_iinc (v := x42) (lv' := [(5, .int x42), (8, .int 99), (7, .int 0), (6, .int q24), (4, .int v14), (3, .int v7), (0, .ref (G.2.2 198)), (1, .int a0), (2, .int a1)]) hx hb dX10_laysWays_157 hl (k := 3) rfl (by rw [ex42]; rfl) (by decide) rfl (fun ls hl => ?_)
                              refine lv_goto (tgt := 52) hx hb dX10_laysWays_160 (by decide) ?_
                              exact ih _ _ _ _ _ ho B (lv_sub hl [0, 4, 5, 6, 7, 8] rfl)
                          · have ho := in_ c38 ho
                            refine lv_iload hx hb dX10_laysWays_98 (lv_at hl 0 rfl) ?_
                            refine lv_if_eq (tgt := 107) hx hb dX10_laysWays_100 (by decide) (fun _ => ?_) (fun h => absurd h (by decide))
                            refine lv_iconst (v := 1) hx hb dX10_laysWays_107 (by decide) ?_
                            refine lv_goto (tgt := 122) hx hb dX10_laysWays_108 (by decide) ?_
                            refine lv_istore (lv' := [(8, .int 1), (7, .int 0), (6, .int q24), (5, .int v21), (4, .int v14), (3, .int v7), (0, .ref (G.2.2 198)), (1, .int a0), (2, .int a1)]) hx hb dX10_laysWays_122 hl (by decide) rfl (fun ls hl => ?_)
                            refine lv_iload hx hb dX10_laysWays_124 (lv_at hl 2 rfl) ?_
                            refine lv_iconst (v := (-1)) hx hb dX10_laysWays_126 (by decide) ?_
                            refine lv_icmp_eq (tgt := 157) hx hb dX10_laysWays_127 (by decide) (fun c43 => ?_) (fun c43 => ?_)
                            · have ho := ip_ c43 ho
                              obtain ⟨x44, ex44, ho⟩ := lt_ ho
                              refine lv_iinc (v := x44) (lv' := [(5, .int x44), (8, .int 1), (7, .int 0), (6, .int q24), (4, .int v14), (3, .int v7), (0, .ref (G.2.2 198)), (1, .int a0), (2, .int a1)]) hx hb dX10_laysWays_157 hl (k := 3) rfl (by rw [ex44]; rfl) (by decide) rfl (fun ls hl => ?_)
                              refine lv_goto (tgt := 52) hx hb dX10_laysWays_160 (by decide) ?_
                              exact ih _ _ _ _ _ ho B (lv_sub hl [0, 4, 5, 6, 7, 8] rfl)
                            · have ho := in_ c43 ho
                              refine lv_aload_n hx hb dX10_laysWays_130 rfl (lv_at hl 6 rfl) ?_
                              refine r_get (ci := 14) (C := RX10) (T := TX10) (N := 21) S F B (kq (by decide) : kd 198 = 21 ∧ 198 < NN) rfl rfl hiX10 13 (by decide) (by decide +kernel) rfl dX10_laysWays_131 ?_
                              refine lv_iload hx hb dX10_laysWays_134 (lv_at hl 2 rfl) ?_
                              refine lv_aload_n hx hb dX10_laysWays_136 rfl (lv_at hl 6 rfl) ?_
                              refine r_get (ci := 14) (C := RX10) (T := TX10) (N := 21) S F B (kq (by decide) : kd 198 = 21 ∧ 198 < NN) rfl rfl hiX10 13 (by decide) (by decide +kernel) rfl dX10_laysWays_137 ?_
                              refine lv_iload hx hb dX10_laysWays_140 (lv_at hl 2 rfl) ?_
                              obtain ⟨hi, ho⟩ := gd_ ho
                              refine r_iald S F B (kq (by decide) : kd 204 = 12 ∧ 204 < NN) rfl hi dX10_laysWays_142 ?_
                              refine lv_aload_n hx hb dX10_laysWays_143 rfl (lv_at hl 6 rfl) ?_
                              refine r_get (ci := 14) (C := RX10) (T := TX10) (N := 21) S F B (kq (by decide) : kd 198 = 21 ∧ 198 < NN) rfl rfl hiX10 13 (by decide) (by decide +kernel) rfl dX10_laysWays_144 ?_
                              refine lv_iload hx hb dX10_laysWays_147 (lv_at hl 4 rfl) ?_
                              obtain ⟨hi, ho⟩ := gd_ ho
                              refine r_iald S F B (kq (by decide) : kd 204 = 12 ∧ 204 < NN) rfl hi dX10_laysWays_149 ?_
                              refine lv_iload hx hb dX10_laysWays_150 (lv_at hl 0 rfl) ?_
                              refine lv_iadd hx hb dX10_laysWays_152 ?_
                              refine va_mmin hx hb (hml.trans hl.1.symm) hown (hts _ (by decide +kernel)) (hts _ (by decide +kernel)) (hts _ (by decide +kernel)) (hts _ (by decide +kernel)) (Nat.le_of_ble_eq_true rfl) (Nat.le_of_ble_eq_true rfl) (Nat.le_of_ble_eq_true rfl) (Nat.le_of_ble_eq_true rfl) dX10_laysWays_153 ?_
                              obtain ⟨hi, ho⟩ := gd_ ho
                              refine r_iast S F B (kq (by decide) : kd 204 = 12 ∧ 204 < NN) (fun _ => rfl) hi dX10_laysWays_156 (fun H locs B => ?_)
                              obtain ⟨σ45, eσ45, ho⟩ := lt_ ho
                              rw [← eσ45] at B
                              obtain ⟨x46, ex46, ho⟩ := lt_ ho
                              refine lv_iinc (v := x46) (lv' := [(5, .int x46), (8, .int 1), (7, .int 0), (6, .int q24), (4, .int v14), (3, .int v7), (0, .ref (G.2.2 198)), (1, .int a0), (2, .int a1)]) hx hb dX10_laysWays_157 hl (k := 3) rfl (by rw [ex46]; rfl) (by decide) rfl (fun ls hl => ?_)
                              refine lv_goto (tgt := 52) hx hb dX10_laysWays_160 (by decide) ?_
                              exact ih _ _ _ _ _ ho B (lv_sub hl [0, 4, 5, 6, 7, 8] rfl)
                        · have ho := in_ c37 ho
                          refine lv_iconst (v := 1) hx hb dX10_laysWays_87 (by decide) ?_
                          refine lv_goto (tgt := 92) hx hb dX10_laysWays_88 (by decide) ?_
                          refine lv_istore (lv' := [(7, .int 1), (6, .int q24), (5, .int v21), (4, .int v14), (3, .int v7), (0, .ref (G.2.2 198)), (1, .int a0), (2, .int a1)]) hx hb dX10_laysWays_92 hl (by decide) rfl (fun ls hl => ?_)
                          refine lv_iload_n hx hb dX10_laysWays_94 rfl (lv_at hl 7 rfl) ?_
                          refine lv_if_eq (tgt := 111) hx hb dX10_laysWays_95 (by decide) (fun c47 => ?_) (fun c47 => ?_)
                          · have ho := ip_ c47 ho
                            refine lv_iload hx hb dX10_laysWays_111 (lv_at hl 0 rfl) ?_
                            refine lv_if_eq (tgt := 120) hx hb dX10_laysWays_113 (by decide) (fun h => absurd h (by decide)) (fun _ => ?_)
                            refine lv_iconst (v := 1) hx hb dX10_laysWays_116 (by decide) ?_
                            refine lv_goto (tgt := 122) hx hb dX10_laysWays_117 (by decide) ?_
                            refine lv_istore (lv' := [(8, .int 1), (7, .int 1), (6, .int q24), (5, .int v21), (4, .int v14), (3, .int v7), (0, .ref (G.2.2 198)), (1, .int a0), (2, .int a1)]) hx hb dX10_laysWays_122 hl (by decide) rfl (fun ls hl => ?_)
                            refine lv_iload hx hb dX10_laysWays_124 (lv_at hl 2 rfl) ?_
                            refine lv_iconst (v := (-1)) hx hb dX10_laysWays_126 (by decide) ?_
                            refine lv_icmp_eq (tgt := 157) hx hb dX10_laysWays_127 (by decide) (fun c48 => ?_) (fun c48 => ?_)
                            · have ho := ip_ c48 ho
                              obtain ⟨x49, ex49, ho⟩ := lt_ ho
                              refine lv_iinc (v := x49) (lv' := [(5, .int x49), (8, .int 1), (7, .int 1), (6, .int q24), (4, .int v14), (3, .int v7), (0, .ref (G.2.2 198)), (1, .int a0), (2, .int a1)]) hx hb dX10_laysWays_157 hl (k := 3) rfl (by rw [ex49]; rfl) (by decide) rfl (fun ls hl => ?_)
                              refine lv_goto (tgt := 52) hx hb dX10_laysWays_160 (by decide) ?_
                              exact ih _ _ _ _ _ ho B (lv_sub hl [0, 4, 5, 6, 7, 8] rfl)
                            · have ho := in_ c48 ho
                              refine lv_aload_n hx hb dX10_laysWays_130 rfl (lv_at hl 6 rfl) ?_
                              refine r_get (ci := 14) (C := RX10) (T := TX10) (N := 21) S F B (kq (by decide) : kd 198 = 21 ∧ 198 < NN) rfl rfl hiX10 13 (by decide) (by decide +kernel) rfl dX10_laysWays_131 ?_
                              refine lv_iload hx hb dX10_laysWays_134 (lv_at hl 2 rfl) ?_
                              refine lv_aload_n hx hb dX10_laysWays_136 rfl (lv_at hl 6 rfl) ?_
                              refine r_get (ci := 14) (C := RX10) (T := TX10) (N := 21) S F B (kq (by decide) : kd 198 = 21 ∧ 198 < NN) rfl rfl hiX10 13 (by decide) (by decide +kernel) rfl dX10_laysWays_137 ?_
                              refine lv_iload hx hb dX10_laysWays_140 (lv_at hl 2 rfl) ?_
                              obtain ⟨hi, ho⟩ := gd_ ho
                              refine r_iald S F B (kq (by decide) : kd 204 = 12 ∧ 204 < NN) rfl hi dX10_laysWays_142 ?_
                              refine lv_aload_n hx hb dX10_laysWays_143 rfl (lv_at hl 6 rfl) ?_
                              refine r_get (ci := 14) (C := RX10) (T := TX10) (N := 21) S F B (kq (by decide) : kd 198 = 21 ∧ 198 < NN) rfl rfl hiX10 13 (by decide) (by decide +kernel) rfl dX10_laysWays_144 ?_
                              refine lv_iload hx hb dX10_laysWays_147 (lv_at hl 4 rfl) ?_
                              obtain ⟨hi, ho⟩ := gd_ ho
                              refine r_iald S F B (kq (by decide) : kd 204 = 12 ∧ 204 < NN) rfl hi dX10_laysWays_149 ?_
                              refine lv_iload hx hb dX10_laysWays_150 (lv_at hl 0 rfl) ?_
                              refine lv_iadd hx hb dX10_laysWays_152 ?_
                              refine va_mmin hx hb (hml.trans hl.1.symm) hown (hts _ (by decide +kernel)) (hts _ (by decide +kernel)) (hts _ (by decide +kernel)) (hts _ (by decide +kernel)) (Nat.le_of_ble_eq_true rfl) (Nat.le_of_ble_eq_true rfl) (Nat.le_of_ble_eq_true rfl) (Nat.le_of_ble_eq_true rfl) dX10_laysWays_153 ?_
                              obtain ⟨hi, ho⟩ := gd_ ho
                              refine r_iast S F B (kq (by decide) : kd 204 = 12 ∧ 204 < NN) (fun _ => rfl) hi dX10_laysWays_156 (fun H locs B => ?_)
                              obtain ⟨σ50, eσ50, ho⟩ := lt_ ho
                              rw [← eσ50] at B
                              obtain ⟨x51, ex51, ho⟩ := lt_ ho
                              refine lv_iinc (v := x51) (lv' := [(5, .int x51), (8, .int 1), (7, .int 1), (6, .int q24), (4, .int v14), (3, .int v7), (0, .ref (G.2.2 198)), (1, .int a0), (2, .int a1)]) hx hb dX10_laysWays_157 hl (k := 3) rfl (by rw [ex51]; rfl) (by decide) rfl (fun ls hl => ?_)
                              refine lv_goto (tgt := 52) hx hb dX10_laysWays_160 (by decide) ?_
                              exact ih _ _ _ _ _ ho B (lv_sub hl [0, 4, 5, 6, 7, 8] rfl)
                          · have ho := in_ c47 ho
                            refine lv_iload hx hb dX10_laysWays_98 (lv_at hl 0 rfl) ?_
                            refine lv_if_eq (tgt := 107) hx hb dX10_laysWays_100 (by decide) (fun h => absurd h (by decide)) (fun _ => ?_)
                            refine lv_iconst (v := 0) hx hb dX10_laysWays_103 (by decide) ?_
                            refine lv_goto (tgt := 122) hx hb dX10_laysWays_104 (by decide) ?_
                            refine lv_istore (lv' := [(8, .int 0), (7, .int 1), (6, .int q24), (5, .int v21), (4, .int v14), (3, .int v7), (0, .ref (G.2.2 198)), (1, .int a0), (2, .int a1)]) hx hb dX10_laysWays_122 hl (by decide) rfl (fun ls hl => ?_)
                            refine lv_iload hx hb dX10_laysWays_124 (lv_at hl 2 rfl) ?_
                            refine lv_iconst (v := (-1)) hx hb dX10_laysWays_126 (by decide) ?_
                            refine lv_icmp_eq (tgt := 157) hx hb dX10_laysWays_127 (by decide) (fun c52 => ?_) (fun c52 => ?_)
                            · have ho := ip_ c52 ho
                              obtain ⟨x53, ex53, ho⟩ := lt_ ho
                              refine lv_iinc (v := x53) (lv' := [(5, .int x53), (8, .int 0), (7, .int 1), (6, .int q24), (4, .int v14), (3, .int v7), (0, .ref (G.2.2 198)), (1, .int a0), (2, .int a1)]) hx hb dX10_laysWays_157 hl (k := 3) rfl (by rw [ex53]; rfl) (by decide) rfl (fun ls hl => ?_)
                              refine lv_goto (tgt := 52) hx hb dX10_laysWays_160 (by decide) ?_
                              exact ih _ _ _ _ _ ho B (lv_sub hl [0, 4, 5, 6, 7, 8] rfl)
                            · have ho := in_ c52 ho
                              refine lv_aload_n hx hb dX10_laysWays_130 rfl (lv_at hl 6 rfl) ?_
                              refine r_get (ci := 14) (C := RX10) (T := TX10) (N := 21) S F B (kq (by decide) : kd 198 = 21 ∧ 198 < NN) rfl rfl hiX10 13 (by decide) (by decide +kernel) rfl dX10_laysWays_131 ?_
                              refine lv_iload hx hb dX10_laysWays_134 (lv_at hl 2 rfl) ?_
                              refine lv_aload_n hx hb dX10_laysWays_136 rfl (lv_at hl 6 rfl) ?_
                              refine r_get (ci := 14) (C := RX10) (T := TX10) (N := 21) S F B (kq (by decide) : kd 198 = 21 ∧ 198 < NN) rfl rfl hiX10 13 (by decide) (by decide +kernel) rfl dX10_laysWays_137 ?_
                              refine lv_iload hx hb dX10_laysWays_140 (lv_at hl 2 rfl) ?_
                              obtain ⟨hi, ho⟩ := gd_ ho
                              refine r_iald S F B (kq (by decide) : kd 204 = 12 ∧ 204 < NN) rfl hi dX10_laysWays_142 ?_
                              refine lv_aload_n hx hb dX10_laysWays_143 rfl (lv_at hl 6 rfl) ?_
                              refine r_get (ci := 14) (C := RX10) (T := TX10) (N := 21) S F B (kq (by decide) : kd 198 = 21 ∧ 198 < NN) rfl rfl hiX10 13 (by decide) (by decide +kernel) rfl dX10_laysWays_144 ?_
                              refine lv_iload hx hb dX10_laysWays_147 (lv_at hl 4 rfl) ?_
                              obtain ⟨hi, ho⟩ := gd_ ho
                              refine r_iald S F B (kq (by decide) : kd 204 = 12 ∧ 204 < NN) rfl hi dX10_laysWays_149 ?_
                              refine lv_iload hx hb dX10_laysWays_150 (lv_at hl 0 rfl) ?_
                              refine lv_iadd hx hb dX10_laysWays_152 ?_
                              refine va_mmin hx hb (hml.trans hl.1.symm) hown (hts _ (by decide +kernel)) (hts _ (by decide +kernel)) (hts _ (by decide +kernel)) (hts _ (by decide +kernel)) (Nat.le_of_ble_eq_true rfl) (Nat.le_of_ble_eq_true rfl) (Nat.le_of_ble_eq_true rfl) (Nat.le_of_ble_eq_true rfl) dX10_laysWays_153 ?_
                              obtain ⟨hi, ho⟩ := gd_ ho
                              refine r_iast S F B (kq (by decide) : kd 204 = 12 ∧ 204 < NN) (fun _ => rfl) hi dX10_laysWays_156 (fun H locs B => ?_)
                              obtain ⟨σ54, eσ54, ho⟩ := lt_ ho
                              rw [← eσ54] at B
                              obtain ⟨x55, ex55, ho⟩ := lt_ ho
                              refine lv_iinc (v := x55) (lv' := [(5, .int x55), (8, .int 0), (7, .int 1), (6, .int q24), (4, .int v14), (3, .int v7), (0, .ref (G.2.2 198)), (1, .int a0), (2, .int a1)]) hx hb dX10_laysWays_157 hl (k := 3) rfl (by rw [ex55]; rfl) (by decide) rfl (fun ls hl => ?_)
                              refine lv_goto (tgt := 52) hx hb dX10_laysWays_160 (by decide) ?_
                              exact ih _ _ _ _ _ ho B (lv_sub hl [0, 4, 5, 6, 7, 8] rfl)
                exact hloop52 20 _ _ _ _ _ ho B hl
          exact hloop42 20 _ _ _ _ _ ho B hl
    exact hloop33 20 _ _ _ _ _ ho B hl
  have hloop2 : ∀ (n : Nat) (v56 : Int32) (σ57 : Mm) (H : Heap) (locs : List Loc) (ls : Array Slot), f_X10_laysWays_l2 K a0 a1 n v56 σ57 = some out → Bd G σ57 s H locs → lv_has ls 9 [(3, .int v56), (0, .ref (G.2.2 198)), (1, .int a0), (2, .int a1)] → W p l e (headSpec wsX10_laysWays { frames := 2, cells := 0, slots := 0, locals := 55 }).room s m #[.ref (G.2.2 198), .int a0, .int a1] below meth c H locs 0 0 (MQ below (Qv G s.heap.size out) #[.ref (G.2.2 198), .int a0, .int a1] s 0 0 (AA G s.heap.size)) (F0 m 2 ls []) := by
    intro n
    induction n with
    | zero => intro v56 σ57 H locs ls ho B hl; cases ho
    | succ n ih =>
      intro v56 σ57 H locs ls ho B hl
      refine lv_iload_n hx hb dX10_laysWays_2 rfl (lv_at hl 0 rfl) ?_
      refine lv_bipush (v := 16) hx hb dX10_laysWays_3 (by decide) ?_
      refine lv_icmp_ge (tgt := 31) hx hb dX10_laysWays_5 (by decide) (fun c58 => ?_) (fun c58 => ?_)
      · have ho := ip_ c58 ho
        exact hexit2 _ _ _ _ _ ho B (lv_sub hl [0, 1, 2, 3] rfl)
      · have ho := in_ c58 ho
        refine lv_aload_n hx hb dX10_laysWays_8 rfl (lv_at hl 1 rfl) ?_
        refine r_get (ci := 14) (C := RX10) (T := TX10) (N := 21) S F B (kq (by decide) : kd 198 = 21 ∧ 198 < NN) rfl rfl hiX10 13 (by decide) (by decide +kernel) rfl dX10_laysWays_9 ?_
        refine lv_iload_n hx hb dX10_laysWays_12 rfl (lv_at hl 0 rfl) ?_
        refine lv_iload_n hx hb dX10_laysWays_13 rfl (lv_at hl 0 rfl) ?_
        refine lv_iload_n hx hb dX10_laysWays_14 rfl (lv_at hl 2 rfl) ?_
        refine lv_icmp_ne (tgt := 22) hx hb dX10_laysWays_15 (by decide) (fun c59 => ?_) (fun c59 => ?_)
        · have ho := in_ c59 ho
          refine lv_bipush (v := 99) hx hb dX10_laysWays_22 (by decide) ?_
          obtain ⟨hi, ho⟩ := gd_ ho
          refine r_iast S F B (kq (by decide) : kd 204 = 12 ∧ 204 < NN) (fun _ => rfl) hi dX10_laysWays_24 (fun H locs B => ?_)
          obtain ⟨σ60, eσ60, ho⟩ := lt_ ho
          rw [← eσ60] at B
          obtain ⟨x61, ex61, ho⟩ := lt_ ho
          refine lv_iinc (v := x61) (lv' := [(3, .int x61), (0, .ref (G.2.2 198)), (1, .int a0), (2, .int a1)]) hx hb dX10_laysWays_25 hl (k := 0) rfl (by rw [ex61]; rfl) (by decide) rfl (fun ls hl => ?_)
          refine lv_goto (tgt := 2) hx hb dX10_laysWays_28 (by decide) ?_
          exact ih _ _ _ _ _ ho B (lv_sub hl [0, 1, 2, 3] rfl)
        · have ho := ip_ c59 ho
          refine lv_iconst (v := 0) hx hb dX10_laysWays_18 (by decide) ?_
          refine lv_goto (tgt := 24) hx hb dX10_laysWays_19 (by decide) ?_
          obtain ⟨hi, ho⟩ := gd_ ho
          refine r_iast S F B (kq (by decide) : kd 204 = 12 ∧ 204 < NN) (fun _ => rfl) hi dX10_laysWays_24 (fun H locs B => ?_)
          obtain ⟨σ62, eσ62, ho⟩ := lt_ ho
          rw [← eσ62] at B
          obtain ⟨x63, ex63, ho⟩ := lt_ ho
          refine lv_iinc (v := x63) (lv' := [(3, .int x63), (0, .ref (G.2.2 198)), (1, .int a0), (2, .int a1)]) hx hb dX10_laysWays_25 hl (k := 0) rfl (by rw [ex63]; rfl) (by decide) rfl (fun ls hl => ?_)
          refine lv_goto (tgt := 2) hx hb dX10_laysWays_28 (by decide) ?_
          exact ih _ _ _ _ _ ho B (lv_sub hl [0, 1, 2, 3] rfl)
  exact hloop2 20 _ _ _ _ _ ho B hl

set_option maxHeartbeats 4000000 in
set_option maxRecDepth 100000 in
theorem c_X10_hoursOf (l : Launch) (G : Gd) (σ : Mm) (sz : Nat) (a0 : Int32) (a1 : Int32) {out : Int32 × Mm} (ho : f_X10_hoursOf a0 a1 σ = some out) : Met l yX10_hoursOf wsX10_hoursOf { frames := 3, cells := 0, slots := 0, locals := 83 } (va_Pc [.ref (G.2.2 198), .int a0, .int a1] (PW G σ sz)) (Qi G sz out.1 out.2) 0 0 (AA G sz) := by
  refine Met.ofW (cc := cX10_hoursOf) (maxL := 3) (ret := (some .int)) (by decide) rfl ?_
  intro p e s m args below meth c s₁ B0 hml hv
  obtain ⟨rfl, hpw⟩ := hv
  have hsz := hpw.1
  subst hsz
  obtain ⟨F, B⟩ := hpw.to
  have hx := B0.exec
  have hb := B0.bytes
  have hr := B0.returns
  have hts := atoms_spec (ws := wsX10_hoursOf) B0.pre
  have hown : s.vm.findClass RX10 = some m.cls := findClass_of_methodNamed B0.named
  have hlocks := B0.notSynchronized
  have S : CallFix p m c cX10_hoursOf 3 s _ wsX10_hoursOf RX10 := ⟨hx, hb, hml, hown, hts⟩
  have hiX10 : ∀ w ∈ u_ws RX10 TX10 21, w ∈ wsX10_hoursOf := by decide +kernel
  have hl := lv_entry [.ref (G.2.2 198), .int a0, .int a1] (n := 3) (Nat.le_of_ble_eq_true rfl)
  rw [lg_entry_eq]
  generalize (lg_sl [.ref (G.2.2 198), .int a0, .int a1] ++ List.replicate (3 - (lg_sl [.ref (G.2.2 198), .int a0, .int a1]).length) Slot.unset).toArray = ls at hl ⊢
  have hl : lv_has ls 3 [(0, .ref (G.2.2 198)), (1, .int a0), (2, .int a1)] := hl
  unfold f_X10_hoursOf at ho
  refine lv_aload_n hx hb dX10_hoursOf_0 rfl (lv_at hl 0 rfl) ?_
  refine lv_iload_n hx hb dX10_hoursOf_1 rfl (lv_at hl 1 rfl) ?_
  refine lv_iconst (v := 0) hx hb dX10_hoursOf_2 (by decide) ?_
  obtain ⟨σ2, hq1, ho⟩ := bnd_ ho
  refine k_vV (As := [.int a0, .int 0]) (rest := []) S F B (c_X10_laysWays l G σ _ a0 0 hq1) (kq (by decide) : kd 198 = 21 ∧ 198 < NN) rfl rfl (cwV 2 hts gX10_hoursOf_X10_laysWays rfl rfl rfl (by decide +kernel) ⟨Nat.le_of_ble_eq_true rfl, Nat.le_of_ble_eq_true rfl⟩) rfl hl.1 rfl (Nat.le_of_ble_eq_true rfl) dX10_hoursOf_3 ⟨Nat.le_of_ble_eq_true rfl, Nat.le_of_ble_eq_true rfl⟩ (fun H locs B => ?_)
  refine lv_aload_n hx hb dX10_hoursOf_6 rfl (lv_at hl 0 rfl) ?_
  refine r_get (ci := 14) (C := RX10) (T := TX10) (N := 21) S F B (kq (by decide) : kd 198 = 21 ∧ 198 < NN) rfl rfl hiX10 13 (by decide) (by decide +kernel) rfl dX10_hoursOf_7 ?_
  refine lv_iload_n hx hb dX10_hoursOf_10 rfl (lv_at hl 2 rfl) ?_
  obtain ⟨hi, ho⟩ := gd_ ho
  refine r_iald S F B (kq (by decide) : kd 204 = 12 ∧ 204 < NN) rfl hi dX10_hoursOf_11 ?_
  refine lv_bipush (v := 99) hx hb dX10_hoursOf_12 (by decide) ?_
  refine lv_icmp_lt (tgt := 21) hx hb dX10_hoursOf_14 (by decide) (fun c3 => ?_) (fun c3 => ?_)
  · have ho := ip_ c3 ho
    refine lv_aload_n hx hb dX10_hoursOf_21 rfl (lv_at hl 0 rfl) ?_
    refine r_get (ci := 14) (C := RX10) (T := TX10) (N := 21) S F B (kq (by decide) : kd 198 = 21 ∧ 198 < NN) rfl rfl hiX10 13 (by decide) (by decide +kernel) rfl dX10_hoursOf_22 ?_
    refine lv_iload_n hx hb dX10_hoursOf_25 rfl (lv_at hl 2 rfl) ?_
    obtain ⟨hi, ho⟩ := gd_ ho
    refine r_iald S F B (kq (by decide) : kd 204 = 12 ∧ 204 < NN) rfl hi dX10_hoursOf_26 ?_
    cases ho
    exact e_i B hx hb hr hlocks rfl rfl dX10_hoursOf_27
  · have ho := in_ c3 ho
    refine lv_iconst (v := (-1)) hx hb dX10_hoursOf_17 (by decide) ?_
    refine lv_goto (tgt := 27) hx hb dX10_hoursOf_18 (by decide) ?_
    cases ho
    exact e_i B hx hb hr hlocks rfl rfl dX10_hoursOf_27

set_option maxHeartbeats 4000000 in
set_option maxRecDepth 100000 in
theorem c_X10_reachedFrom (l : Launch) (G : Gd) (σ : Mm) (sz : Nat) (a0 : Int32) {out : Int32 × Mm} (ho : f_X10_reachedFrom a0 σ = some out) : Met l yX10_reachedFrom wsX10_reachedFrom { frames := 3, cells := 0, slots := 0, locals := 83 } (va_Pc [.ref (G.2.2 198), .int a0] (PW G σ sz)) (Qi G sz out.1 out.2) 0 0 (AA G sz) := by
  refine Met.ofW (cc := cX10_reachedFrom) (maxL := 4) (ret := (some .int)) (by decide) rfl ?_
  intro p e s m args below meth c s₁ B0 hml hv
  obtain ⟨rfl, hpw⟩ := hv
  have hsz := hpw.1
  subst hsz
  obtain ⟨F, B⟩ := hpw.to
  have hx := B0.exec
  have hb := B0.bytes
  have hr := B0.returns
  have hts := atoms_spec (ws := wsX10_reachedFrom) B0.pre
  have hown : s.vm.findClass RX10 = some m.cls := findClass_of_methodNamed B0.named
  have hlocks := B0.notSynchronized
  have S : CallFix p m c cX10_reachedFrom 4 s _ wsX10_reachedFrom RX10 := ⟨hx, hb, hml, hown, hts⟩
  have hiX10 : ∀ w ∈ u_ws RX10 TX10 21, w ∈ wsX10_reachedFrom := by decide +kernel
  have hl := lv_entry [.ref (G.2.2 198), .int a0] (n := 4) (Nat.le_of_ble_eq_true rfl)
  rw [lg_entry_eq]
  generalize (lg_sl [.ref (G.2.2 198), .int a0] ++ List.replicate (4 - (lg_sl [.ref (G.2.2 198), .int a0]).length) Slot.unset).toArray = ls at hl ⊢
  have hl : lv_has ls 4 [(0, .ref (G.2.2 198)), (1, .int a0)] := hl
  unfold f_X10_reachedFrom at ho
  skip
  refine lv_aload_n hx hb dX10_reachedFrom_0 rfl (lv_at hl 0 rfl) ?_
  refine lv_iload_n hx hb dX10_reachedFrom_1 rfl (lv_at hl 1 rfl) ?_
  refine lv_iconst (v := 0) hx hb dX10_reachedFrom_2 (by decide) ?_
  obtain ⟨σ2, hq1, ho⟩ := bnd_ ho
  refine k_vV (As := [.int a0, .int 0]) (rest := []) S F B (c_X10_laysWays l G σ _ a0 0 hq1) (kq (by decide) : kd 198 = 21 ∧ 198 < NN) rfl rfl (cwV 2 hts gX10_reachedFrom_X10_laysWays rfl rfl rfl (by decide +kernel) ⟨Nat.le_of_ble_eq_true rfl, Nat.le_of_ble_eq_true rfl⟩) rfl hl.1 rfl (Nat.le_of_ble_eq_true rfl) dX10_reachedFrom_3 ⟨Nat.le_of_ble_eq_true rfl, Nat.le_of_ble_eq_true rfl⟩ (fun H locs B => ?_)
  refine lv_iconst (v := 0) hx hb dX10_reachedFrom_6 (by decide) ?_
  refine lv_istore_n (lv' := [(2, .int 0), (0, .ref (G.2.2 198)), (1, .int a0)]) hx hb dX10_reachedFrom_7 rfl hl (by decide) rfl (fun ls hl => ?_)
  refine lv_iconst (v := 0) hx hb dX10_reachedFrom_8 (by decide) ?_
  refine lv_istore_n (lv' := [(3, .int 0), (2, .int 0), (0, .ref (G.2.2 198)), (1, .int a0)]) hx hb dX10_reachedFrom_9 rfl hl (by decide) rfl (fun ls hl => ?_)
  have hloop10 : ∀ (n : Nat) (v6 : Int32) (v7 : Int32) (H : Heap) (locs : List Loc) (ls : Array Slot), f_X10_reachedFrom_l10  a0 σ2 n v6 v7 = some out → Bd G σ2 s H locs → lv_has ls 4 [(3, .int v6), (2, .int v7), (0, .ref (G.2.2 198)), (1, .int a0)] → W p l e (headSpec wsX10_reachedFrom { frames := 3, cells := 0, slots := 0, locals := 83 }).room s m #[.ref (G.2.2 198), .int a0] below meth c H locs 0 0 (MQ below (Qi G s.heap.size out.1 out.2) #[.ref (G.2.2 198), .int a0] s 0 0 (AA G s.heap.size)) (F0 m 10 ls []) := by
    intro n
    induction n with
    | zero => intro v6 v7 H locs ls ho B hl; cases ho
    | succ n ih =>
      intro v6 v7 H locs ls ho B hl
      refine lv_iload_n hx hb dX10_reachedFrom_10 rfl (lv_at hl 0 rfl) ?_
      refine lv_bipush (v := 16) hx hb dX10_reachedFrom_11 (by decide) ?_
      refine lv_icmp_ge (tgt := 43) hx hb dX10_reachedFrom_13 (by decide) (fun c8 => ?_) (fun c8 => ?_)
      · have ho := ip_ c8 ho
        refine lv_iload_n hx hb dX10_reachedFrom_43 rfl (lv_at hl 1 rfl) ?_
        cases ho
        exact e_i B hx hb hr hlocks rfl rfl dX10_reachedFrom_44
      · have ho := in_ c8 ho
        refine lv_iload_n hx hb dX10_reachedFrom_16 rfl (lv_at hl 1 rfl) ?_
        refine lv_aload_n hx hb dX10_reachedFrom_17 rfl (lv_at hl 2 rfl) ?_
        refine r_get (ci := 14) (C := RX10) (T := TX10) (N := 21) S F B (kq (by decide) : kd 198 = 21 ∧ 198 < NN) rfl rfl hiX10 13 (by decide) (by decide +kernel) rfl dX10_reachedFrom_18 ?_
        refine lv_iload_n hx hb dX10_reachedFrom_21 rfl (lv_at hl 0 rfl) ?_
        obtain ⟨hi, ho⟩ := gd_ ho
        refine r_iald S F B (kq (by decide) : kd 204 = 12 ∧ 204 < NN) rfl hi dX10_reachedFrom_22 ?_
        refine lv_bipush (v := 99) hx hb dX10_reachedFrom_23 (by decide) ?_
        refine lv_icmp_ge (tgt := 34) hx hb dX10_reachedFrom_25 (by decide) (fun c9 => ?_) (fun c9 => ?_)
        · have ho := ip_ c9 ho
          refine lv_iconst (v := 0) hx hb dX10_reachedFrom_34 (by decide) ?_
          refine lv_ior hx hb dX10_reachedFrom_35 ?_
          obtain ⟨x10, ex10, ho⟩ := lt_ ho
          refine lv_nm ex10 ?_
          refine lv_istore_n (lv' := [(2, .int x10), (3, .int v6), (0, .ref (G.2.2 198)), (1, .int a0)]) hx hb dX10_reachedFrom_36 rfl hl (by decide) rfl (fun ls hl => ?_)
          obtain ⟨x11, ex11, ho⟩ := lt_ ho
          refine lv_iinc (v := x11) (lv' := [(3, .int x11), (2, .int x10), (0, .ref (G.2.2 198)), (1, .int a0)]) hx hb dX10_reachedFrom_37 hl (k := 1) rfl (by rw [ex11]; rfl) (by decide) rfl (fun ls hl => ?_)
          refine lv_goto (tgt := 10) hx hb dX10_reachedFrom_40 (by decide) ?_
          exact ih _ _  _ _ _ ho B (lv_sub hl [0, 1, 2, 3] rfl)
        · have ho := in_ c9 ho
          refine lv_iconst (v := 1) hx hb dX10_reachedFrom_28 (by decide) ?_
          refine lv_iload_n hx hb dX10_reachedFrom_29 rfl (lv_at hl 0 rfl) ?_
          refine lv_ishl hx hb dX10_reachedFrom_30 ?_
          refine lv_goto (tgt := 35) hx hb dX10_reachedFrom_31 (by decide) ?_
          refine lv_ior hx hb dX10_reachedFrom_35 ?_
          obtain ⟨x12, ex12, ho⟩ := lt_ ho
          refine lv_nm ex12 ?_
          refine lv_istore_n (lv' := [(2, .int x12), (3, .int v6), (0, .ref (G.2.2 198)), (1, .int a0)]) hx hb dX10_reachedFrom_36 rfl hl (by decide) rfl (fun ls hl => ?_)
          obtain ⟨x13, ex13, ho⟩ := lt_ ho
          refine lv_iinc (v := x13) (lv' := [(3, .int x13), (2, .int x12), (0, .ref (G.2.2 198)), (1, .int a0)]) hx hb dX10_reachedFrom_37 hl (k := 1) rfl (by rw [ex13]; rfl) (by decide) rfl (fun ls hl => ?_)
          refine lv_goto (tgt := 10) hx hb dX10_reachedFrom_40 (by decide) ?_
          exact ih _ _  _ _ _ ho B (lv_sub hl [0, 1, 2, 3] rfl)
  exact hloop10 20 _ _  _ _ _ ho B hl

set_option maxHeartbeats 4000000 in
set_option maxRecDepth 100000 in
theorem c_X10_ones (l : Launch) (G : Gd) (σ : Mm) (sz : Nat) (a0 : Int32) {out : Int32} (ho : f_X10_ones a0 σ = some out) : Met l yX10_ones wsX10_ones { frames := 0, cells := 0, slots := 0, locals := 0 } (va_Pc [.int a0] (PW G σ sz)) (Qi G sz out σ) 0 0 (AA G sz) := by
  refine Met.ofW (cc := cX10_ones) (maxL := 3) (ret := (some .int)) (by decide) rfl ?_
  intro p e s m args below meth c s₁ B0 hml hv
  obtain ⟨rfl, hpw⟩ := hv
  have hsz := hpw.1
  subst hsz
  obtain ⟨F, B⟩ := hpw.to
  have hx := B0.exec
  have hb := B0.bytes
  have hr := B0.returns
  have hts := atoms_spec (ws := wsX10_ones) B0.pre
  have hown : s.vm.findClass RX10 = some m.cls := findClass_of_methodNamed B0.named
  have hlocks := B0.notSynchronized
  have S : CallFix p m c cX10_ones 3 s _ wsX10_ones RX10 := ⟨hx, hb, hml, hown, hts⟩
  have hl := lv_entry [.int a0] (n := 3) (Nat.le_of_ble_eq_true rfl)
  rw [lg_entry_eq]
  generalize (lg_sl [.int a0] ++ List.replicate (3 - (lg_sl [.int a0]).length) Slot.unset).toArray = ls at hl ⊢
  have hl : lv_has ls 3 [(0, .int a0)] := hl
  unfold f_X10_ones at ho
  skip
  refine lv_iconst (v := 0) hx hb dX10_ones_0 (by decide) ?_
  refine lv_istore_n (lv' := [(1, .int 0), (0, .int a0)]) hx hb dX10_ones_1 rfl hl (by decide) rfl (fun ls hl => ?_)
  refine lv_iconst (v := 0) hx hb dX10_ones_2 (by decide) ?_
  refine lv_istore_n (lv' := [(2, .int 0), (1, .int 0), (0, .int a0)]) hx hb dX10_ones_3 rfl hl (by decide) rfl (fun ls hl => ?_)
  have hloop4 : ∀ (n : Nat) (v4 : Int32) (v5 : Int32) (H : Heap) (locs : List Loc) (ls : Array Slot), f_X10_ones_l4  a0 σ n v4 v5 = some out → Bd G σ s H locs → lv_has ls 3 [(2, .int v4), (1, .int v5), (0, .int a0)] → W p l e (headSpec wsX10_ones { frames := 0, cells := 0, slots := 0, locals := 0 }).room s m #[.int a0] below meth c H locs 0 0 (MQ below (Qi G s.heap.size out σ) #[.int a0] s 0 0 (AA G s.heap.size)) (F0 m 4 ls []) := by
    intro n
    induction n with
    | zero => intro v4 v5 H locs ls ho B hl; cases ho
    | succ n ih =>
      intro v4 v5 H locs ls ho B hl
      refine lv_iload_n hx hb dX10_ones_4 rfl (lv_at hl 0 rfl) ?_
      refine lv_bipush (v := 16) hx hb dX10_ones_5 (by decide) ?_
      refine lv_icmp_ge (tgt := 24) hx hb dX10_ones_7 (by decide) (fun c6 => ?_) (fun c6 => ?_)
      · have ho := ip_ c6 ho
        refine lv_iload_n hx hb dX10_ones_24 rfl (lv_at hl 1 rfl) ?_
        cases ho
        exact e_i B hx hb hr hlocks rfl rfl dX10_ones_25
      · have ho := in_ c6 ho
        refine lv_iload_n hx hb dX10_ones_10 rfl (lv_at hl 1 rfl) ?_
        refine lv_iload_n hx hb dX10_ones_11 rfl (lv_at hl 2 rfl) ?_
        refine lv_iload_n hx hb dX10_ones_12 rfl (lv_at hl 0 rfl) ?_
        refine lv_ishr hx hb dX10_ones_13 ?_
        refine lv_iconst (v := 1) hx hb dX10_ones_14 (by decide) ?_
        refine lv_iand hx hb dX10_ones_15 ?_
        refine lv_iadd hx hb dX10_ones_16 ?_
        obtain ⟨x7, ex7, ho⟩ := lt_ ho
        refine lv_nm ex7 ?_
        refine lv_istore_n (lv' := [(1, .int x7), (2, .int v4), (0, .int a0)]) hx hb dX10_ones_17 rfl hl (by decide) rfl (fun ls hl => ?_)
        obtain ⟨x8, ex8, ho⟩ := lt_ ho
        refine lv_iinc (v := x8) (lv' := [(2, .int x8), (1, .int x7), (0, .int a0)]) hx hb dX10_ones_18 hl (k := 1) rfl (by rw [ex8]; rfl) (by decide) rfl (fun ls hl => ?_)
        refine lv_goto (tgt := 4) hx hb dX10_ones_21 (by decide) ?_
        exact ih _ _  _ _ _ ho B (lv_sub hl [0, 1, 2] rfl)
  exact hloop4 20 _ _  _ _ _ ho B hl

set_option maxHeartbeats 4000000 in
set_option maxRecDepth 100000 in
theorem c_X10_gaps (l : Launch) (G : Gd) (σ : Mm) (sz : Nat) {out : Int32} (ho : f_X10_gaps σ = some out) : Met l yX10_gaps wsX10_gaps { frames := 1, cells := 0, slots := 0, locals := 21 } (va_Pc [.ref (G.2.2 198)] (PW G σ sz)) (Qi G sz out σ) 0 0 (AA G sz) := by
  refine Met.ofW (cc := cX10_gaps) (maxL := 3) (ret := (some .int)) (by decide) rfl ?_
  intro p e s m args below meth c s₁ B0 hml hv
  obtain ⟨rfl, hpw⟩ := hv
  have hsz := hpw.1
  subst hsz
  obtain ⟨F, B⟩ := hpw.to
  have hx := B0.exec
  have hb := B0.bytes
  have hr := B0.returns
  have hts := atoms_spec (ws := wsX10_gaps) B0.pre
  have hown : s.vm.findClass RX10 = some m.cls := findClass_of_methodNamed B0.named
  have hlocks := B0.notSynchronized
  have S : CallFix p m c cX10_gaps 3 s _ wsX10_gaps RX10 := ⟨hx, hb, hml, hown, hts⟩
  have hl := lv_entry [.ref (G.2.2 198)] (n := 3) (Nat.le_of_ble_eq_true rfl)
  rw [lg_entry_eq]
  generalize (lg_sl [.ref (G.2.2 198)] ++ List.replicate (3 - (lg_sl [.ref (G.2.2 198)]).length) Slot.unset).toArray = ls at hl ⊢
  have hl : lv_has ls 3 [(0, .ref (G.2.2 198))] := hl
  unfold f_X10_gaps at ho
  skip
  refine lv_iconst (v := 0) hx hb dX10_gaps_0 (by decide) ?_
  refine lv_istore_n (lv' := [(1, .int 0), (0, .ref (G.2.2 198))]) hx hb dX10_gaps_1 rfl hl (by decide) rfl (fun ls hl => ?_)
  refine lv_iconst (v := 0) hx hb dX10_gaps_2 (by decide) ?_
  refine lv_istore_n (lv' := [(2, .int 0), (1, .int 0), (0, .ref (G.2.2 198))]) hx hb dX10_gaps_3 rfl hl (by decide) rfl (fun ls hl => ?_)
  have hloop4 : ∀ (n : Nat) (v4 : Int32) (v5 : Int32) (H : Heap) (locs : List Loc) (ls : Array Slot), f_X10_gaps_l4  σ n v4 v5 = some out → Bd G σ s H locs → lv_has ls 3 [(2, .int v4), (1, .int v5), (0, .ref (G.2.2 198))] → W p l e (headSpec wsX10_gaps { frames := 1, cells := 0, slots := 0, locals := 21 }).room s m #[.ref (G.2.2 198)] below meth c H locs 0 0 (MQ below (Qi G s.heap.size out σ) #[.ref (G.2.2 198)] s 0 0 (AA G s.heap.size)) (F0 m 4 ls []) := by
    intro n
    induction n with
    | zero => intro v4 v5 H locs ls ho B hl; cases ho
    | succ n ih =>
      intro v4 v5 H locs ls ho B hl
      refine lv_iload_n hx hb dX10_gaps_4 rfl (lv_at hl 0 rfl) ?_
      refine lv_bipush (v := 24) hx hb dX10_gaps_5 (by decide) ?_
      refine lv_icmp_ge (tgt := 35) hx hb dX10_gaps_7 (by decide) (fun c6 => ?_) (fun c6 => ?_)
      · have ho := ip_ c6 ho
        refine lv_iload_n hx hb dX10_gaps_35 rfl (lv_at hl 1 rfl) ?_
        cases ho
        exact e_i B hx hb hr hlocks rfl rfl dX10_gaps_36
      · have ho := in_ c6 ho
        refine lv_iload_n hx hb dX10_gaps_10 rfl (lv_at hl 1 rfl) ?_
        refine lv_aload_n hx hb dX10_gaps_11 rfl (lv_at hl 2 rfl) ?_
        refine lv_bipush (v := 6) hx hb dX10_gaps_12 (by decide) ?_
        refine lv_iload_n hx hb dX10_gaps_14 rfl (lv_at hl 0 rfl) ?_
        refine lv_iadd hx hb dX10_gaps_15 ?_
        obtain ⟨q7, hq7, ho⟩ := bnd_ ho
        refine k_iV (As := [.int (6 + v4)]) (rest := [.int v5]) S F B (c_X10_isGapAt l G σ _ (6 + v4) hq7) (kq (by decide) : kd 198 = 21 ∧ 198 < NN) rfl rfl (cwV 1 hts gX10_gaps_X10_isGapAt rfl rfl rfl (by decide +kernel) ⟨Nat.le_of_ble_eq_true rfl, Nat.le_of_ble_eq_true rfl⟩) rfl hl.1 rfl (Nat.le_of_ble_eq_true rfl) dX10_gaps_16 ⟨Nat.le_of_ble_eq_true rfl, Nat.le_of_ble_eq_true rfl⟩ (fun H locs B => ?_)
        refine lv_if_eq (tgt := 26) hx hb dX10_gaps_19 (by decide) (fun c8 => ?_) (fun c8 => ?_)
        · have ho := ip_ c8 ho
          refine lv_iconst (v := 0) hx hb dX10_gaps_26 (by decide) ?_
          refine lv_iadd hx hb dX10_gaps_27 ?_
          obtain ⟨x9, ex9, ho⟩ := lt_ ho
          refine lv_nm ex9 ?_
          refine lv_istore_n (lv' := [(1, .int x9), (2, .int v4), (0, .ref (G.2.2 198))]) hx hb dX10_gaps_28 rfl hl (by decide) rfl (fun ls hl => ?_)
          obtain ⟨x10, ex10, ho⟩ := lt_ ho
          refine lv_iinc (v := x10) (lv' := [(2, .int x10), (1, .int x9), (0, .ref (G.2.2 198))]) hx hb dX10_gaps_29 hl (k := 1) rfl (by rw [ex10]; rfl) (by decide) rfl (fun ls hl => ?_)
          refine lv_goto (tgt := 4) hx hb dX10_gaps_32 (by decide) ?_
          exact ih _ _  _ _ _ ho B (lv_sub hl [0, 1, 2] rfl)
        · have ho := in_ c8 ho
          refine lv_iconst (v := 1) hx hb dX10_gaps_22 (by decide) ?_
          refine lv_goto (tgt := 27) hx hb dX10_gaps_23 (by decide) ?_
          refine lv_iadd hx hb dX10_gaps_27 ?_
          obtain ⟨x11, ex11, ho⟩ := lt_ ho
          refine lv_nm ex11 ?_
          refine lv_istore_n (lv' := [(1, .int x11), (2, .int v4), (0, .ref (G.2.2 198))]) hx hb dX10_gaps_28 rfl hl (by decide) rfl (fun ls hl => ?_)
          obtain ⟨x12, ex12, ho⟩ := lt_ ho
          refine lv_iinc (v := x12) (lv' := [(2, .int x12), (1, .int x11), (0, .ref (G.2.2 198))]) hx hb dX10_gaps_29 hl (k := 1) rfl (by rw [ex12]; rfl) (by decide) rfl (fun ls hl => ?_)
          refine lv_goto (tgt := 4) hx hb dX10_gaps_32 (by decide) ?_
          exact ih _ _  _ _ _ ho B (lv_sub hl [0, 1, 2] rfl)
  exact hloop4 30 _ _  _ _ _ ho B hl

set_option maxHeartbeats 4000000 in
set_option maxRecDepth 100000 in
theorem c_X10_areNeighbours (l : Launch) (G : Gd) (σ : Mm) (sz : Nat) (a0 : Int32) (a1 : Int32) {out : Int32 × Mm} (ho : f_X10_areNeighbours a0 a1 σ = some out) : Met l yX10_areNeighbours wsX10_areNeighbours { frames := 2, cells := 0, slots := 0, locals := 55 } (va_Pc [.ref (G.2.2 198), .int a0, .int a1] (PW G σ sz)) (Qi G sz out.1 out.2) 0 0 (AA G sz) := by
  refine Met.ofW (cc := cX10_areNeighbours) (maxL := 3) (ret := (some .boolean)) (by decide) rfl ?_
  intro p e s m args below meth c s₁ B0 hml hv
  obtain ⟨rfl, hpw⟩ := hv
  have hsz := hpw.1
  subst hsz
  obtain ⟨F, B⟩ := hpw.to
  have hx := B0.exec
  have hb := B0.bytes
  have hr := B0.returns
  have hts := atoms_spec (ws := wsX10_areNeighbours) B0.pre
  have hown : s.vm.findClass RX10 = some m.cls := findClass_of_methodNamed B0.named
  have hlocks := B0.notSynchronized
  have S : CallFix p m c cX10_areNeighbours 3 s _ wsX10_areNeighbours RX10 := ⟨hx, hb, hml, hown, hts⟩
  have hl := lv_entry [.ref (G.2.2 198), .int a0, .int a1] (n := 3) (Nat.le_of_ble_eq_true rfl)
  rw [lg_entry_eq]
  generalize (lg_sl [.ref (G.2.2 198), .int a0, .int a1] ++ List.replicate (3 - (lg_sl [.ref (G.2.2 198), .int a0, .int a1]).length) Slot.unset).toArray = ls at hl ⊢
  have hl : lv_has ls 3 [(0, .ref (G.2.2 198)), (1, .int a0), (2, .int a1)] := hl
  unfold f_X10_areNeighbours at ho
  refine lv_iload_n hx hb dX10_areNeighbours_0 rfl (lv_at hl 1 rfl) ?_
  obtain ⟨q1, hq1, ho⟩ := bnd_ ho
  refine k_iS (As := [.int a0]) (rest := []) S F B (c_X10_isCell l G σ _ a0 hq1) (va_cwS 1 hts gX10_areNeighbours_X10_isCell rfl rfl rfl (by decide +kernel) ⟨Nat.le_of_ble_eq_true rfl, Nat.le_of_ble_eq_true rfl⟩) rfl hl.1 rfl (Nat.le_of_ble_eq_true rfl) dX10_areNeighbours_1 ⟨Nat.le_of_ble_eq_true rfl, Nat.le_of_ble_eq_true rfl⟩ (fun H locs B => ?_)
  refine lv_if_eq (tgt := 14) hx hb dX10_areNeighbours_4 (by decide) (fun c2 => ?_) (fun c2 => ?_)
  · have ho := ip_ c2 ho
    refine lv_aload_n hx hb dX10_areNeighbours_14 rfl (lv_at hl 0 rfl) ?_
    refine lv_iconst (v := 1) hx hb dX10_areNeighbours_15 (by decide) ?_
    refine lv_iconst (v := 0) hx hb dX10_areNeighbours_16 (by decide) ?_
    obtain ⟨q3, σ4, hq3, ho⟩ := bnm_ ho
    refine k_iV (As := [.int 1, .int 0]) (rest := []) S F B (c_X10_refuse l G σ _ 1 0 hq3) (kq (by decide) : kd 198 = 21 ∧ 198 < NN) rfl rfl (cwV 2 hts gX10_areNeighbours_X10_refuse rfl rfl rfl (by decide +kernel) ⟨Nat.le_of_ble_eq_true rfl, Nat.le_of_ble_eq_true rfl⟩) rfl hl.1 rfl (Nat.le_of_ble_eq_true rfl) dX10_areNeighbours_17 ⟨Nat.le_of_ble_eq_true rfl, Nat.le_of_ble_eq_true rfl⟩ (fun H locs B => ?_)
    refine lv_pop hx hb dX10_areNeighbours_20 rfl ?_
    refine lv_iconst (v := 0) hx hb dX10_areNeighbours_21 (by decide) ?_
    cases ho
    exact e_i B hx hb hr hlocks rfl rfl dX10_areNeighbours_22
  · have ho := in_ c2 ho
    refine lv_iload_n hx hb dX10_areNeighbours_7 rfl (lv_at hl 2 rfl) ?_
    obtain ⟨q5, hq5, ho⟩ := bnd_ ho
    refine k_iS (As := [.int a1]) (rest := []) S F B (c_X10_isCell l G σ _ a1 hq5) (va_cwS 1 hts gX10_areNeighbours_X10_isCell rfl rfl rfl (by decide +kernel) ⟨Nat.le_of_ble_eq_true rfl, Nat.le_of_ble_eq_true rfl⟩) rfl hl.1 rfl (Nat.le_of_ble_eq_true rfl) dX10_areNeighbours_8 ⟨Nat.le_of_ble_eq_true rfl, Nat.le_of_ble_eq_true rfl⟩ (fun H locs B => ?_)
    refine lv_if_ne (tgt := 23) hx hb dX10_areNeighbours_11 (by decide) (fun c6 => ?_) (fun c6 => ?_)
    · have ho := in_ c6 ho
      refine lv_iload_n hx hb dX10_areNeighbours_23 rfl (lv_at hl 1 rfl) ?_
      refine lv_iload_n hx hb dX10_areNeighbours_24 rfl (lv_at hl 2 rfl) ?_
      obtain ⟨q7, hq7, ho⟩ := bnd_ ho
      refine k_iS (As := [.int a0, .int a1]) (rest := []) S F B (c_X10_hedgeAt l G σ _ a0 a1 hq7) (va_cwS 2 hts gX10_areNeighbours_X10_hedgeAt rfl rfl rfl (by decide +kernel) ⟨Nat.le_of_ble_eq_true rfl, Nat.le_of_ble_eq_true rfl⟩) rfl hl.1 rfl (Nat.le_of_ble_eq_true rfl) dX10_areNeighbours_25 ⟨Nat.le_of_ble_eq_true rfl, Nat.le_of_ble_eq_true rfl⟩ (fun H locs B => ?_)
      refine lv_iconst (v := (-1)) hx hb dX10_areNeighbours_28 (by decide) ?_
      refine lv_icmp_ne (tgt := 45) hx hb dX10_areNeighbours_29 (by decide) (fun c8 => ?_) (fun c8 => ?_)
      · have ho := in_ c8 ho
        refine lv_iconst (v := 1) hx hb dX10_areNeighbours_45 (by decide) ?_
        cases ho
        exact e_i B hx hb hr hlocks rfl rfl dX10_areNeighbours_46
      · have ho := ip_ c8 ho
        refine lv_aload_n hx hb dX10_areNeighbours_32 rfl (lv_at hl 0 rfl) ?_
        refine lv_iconst (v := 2) hx hb dX10_areNeighbours_33 (by decide) ?_
        refine lv_iload_n hx hb dX10_areNeighbours_34 rfl (lv_at hl 1 rfl) ?_
        refine lv_iload_n hx hb dX10_areNeighbours_35 rfl (lv_at hl 2 rfl) ?_
        refine va_mmax hx hb (hml.trans hl.1.symm) hown (hts _ (by decide +kernel)) (hts _ (by decide +kernel)) (hts _ (by decide +kernel)) (hts _ (by decide +kernel)) (Nat.le_of_ble_eq_true rfl) (Nat.le_of_ble_eq_true rfl) (Nat.le_of_ble_eq_true rfl) (Nat.le_of_ble_eq_true rfl) dX10_areNeighbours_36 ?_
        obtain ⟨q9, σ10, hq9, ho⟩ := bnm_ ho
        refine k_iV (As := [.int 2, .int (if a0 < a1 then a1 else a0)]) (rest := []) S F B (c_X10_refuse l G σ _ 2 (if a0 < a1 then a1 else a0) hq9) (kq (by decide) : kd 198 = 21 ∧ 198 < NN) rfl rfl (cwV 2 hts gX10_areNeighbours_X10_refuse rfl rfl rfl (by decide +kernel) ⟨Nat.le_of_ble_eq_true rfl, Nat.le_of_ble_eq_true rfl⟩) rfl hl.1 rfl (Nat.le_of_ble_eq_true rfl) dX10_areNeighbours_39 ⟨Nat.le_of_ble_eq_true rfl, Nat.le_of_ble_eq_true rfl⟩ (fun H locs B => ?_)
        refine lv_pop hx hb dX10_areNeighbours_42 rfl ?_
        refine lv_iconst (v := 0) hx hb dX10_areNeighbours_43 (by decide) ?_
        cases ho
        exact e_i B hx hb hr hlocks rfl rfl dX10_areNeighbours_44
    · have ho := ip_ c6 ho
      refine lv_aload_n hx hb dX10_areNeighbours_14 rfl (lv_at hl 0 rfl) ?_
      refine lv_iconst (v := 1) hx hb dX10_areNeighbours_15 (by decide) ?_
      refine lv_iconst (v := 0) hx hb dX10_areNeighbours_16 (by decide) ?_
      obtain ⟨q11, σ12, hq11, ho⟩ := bnm_ ho
      refine k_iV (As := [.int 1, .int 0]) (rest := []) S F B (c_X10_refuse l G σ _ 1 0 hq11) (kq (by decide) : kd 198 = 21 ∧ 198 < NN) rfl rfl (cwV 2 hts gX10_areNeighbours_X10_refuse rfl rfl rfl (by decide +kernel) ⟨Nat.le_of_ble_eq_true rfl, Nat.le_of_ble_eq_true rfl⟩) rfl hl.1 rfl (Nat.le_of_ble_eq_true rfl) dX10_areNeighbours_17 ⟨Nat.le_of_ble_eq_true rfl, Nat.le_of_ble_eq_true rfl⟩ (fun H locs B => ?_)
      refine lv_pop hx hb dX10_areNeighbours_20 rfl ?_
      refine lv_iconst (v := 0) hx hb dX10_areNeighbours_21 (by decide) ?_
      cases ho
      exact e_i B hx hb hr hlocks rfl rfl dX10_areNeighbours_22

set_option maxHeartbeats 4000000 in
set_option maxRecDepth 100000 in
theorem c_X10_hedgeIt (l : Launch) (G : Gd) (σ : Mm) (sz : Nat) (a0 : Int32) (a1 : Int32) (a2 : Int32) {out : Int32 × Mm} (ho : f_X10_hedgeIt a0 a1 a2 σ = some out) : Met l yX10_hedgeIt wsX10_hedgeIt { frames := 3, cells := 0, slots := 0, locals := 77 } (va_Pc [.ref (G.2.2 198), .int a0, .int a1, .int a2] (PW G σ sz)) (Qi G sz out.1 out.2) 0 0 (AA G sz) := by
  refine Met.ofW (cc := cX10_hedgeIt) (maxL := 6) (ret := (some .int)) (by decide) rfl ?_
  intro p e s m args below meth c s₁ B0 hml hv
  obtain ⟨rfl, hpw⟩ := hv
  have hsz := hpw.1
  subst hsz
  obtain ⟨F, B⟩ := hpw.to
  have hx := B0.exec
  have hb := B0.bytes
  have hr := B0.returns
  have hts := atoms_spec (ws := wsX10_hedgeIt) B0.pre
  have hown : s.vm.findClass RX10 = some m.cls := findClass_of_methodNamed B0.named
  have hlocks := B0.notSynchronized
  have S : CallFix p m c cX10_hedgeIt 6 s _ wsX10_hedgeIt RX10 := ⟨hx, hb, hml, hown, hts⟩
  have hiX10 : ∀ w ∈ u_ws RX10 TX10 21, w ∈ wsX10_hedgeIt := by decide +kernel
  have hl := lv_entry [.ref (G.2.2 198), .int a0, .int a1, .int a2] (n := 6) (Nat.le_of_ble_eq_true rfl)
  rw [lg_entry_eq]
  generalize (lg_sl [.ref (G.2.2 198), .int a0, .int a1, .int a2] ++ List.replicate (6 - (lg_sl [.ref (G.2.2 198), .int a0, .int a1, .int a2]).length) Slot.unset).toArray = ls at hl ⊢
  have hl : lv_has ls 6 [(0, .ref (G.2.2 198)), (1, .int a0), (2, .int a1), (3, .int a2)] := hl
  unfold f_X10_hedgeIt at ho
  refine lv_iload_n hx hb dX10_hedgeIt_0 rfl (lv_at hl 3 rfl) ?_
  refine lv_i2l hx hb dX10_hedgeIt_1 rfl ?_
  refine lv_lconst (v := 0) hx hb dX10_hedgeIt_2 (by decide) ?_
  refine lv_ldc2 (v := 9) hx hb hown (hts _ (by decide +kernel)) dX10_hedgeIt_3 ?_
  obtain ⟨q1, hq1, ho⟩ := bnd_ ho
  refine k_iS (As := [.long a2.toInt64, .long 0, .long 9]) (rest := []) S F B (c_X10_in l G σ _ a2.toInt64 0 9 hq1) (va_cwS 3 hts gX10_hedgeIt_X10_in rfl rfl rfl (by decide +kernel) ⟨Nat.le_of_ble_eq_true rfl, Nat.le_of_ble_eq_true rfl⟩) rfl hl.1 rfl (Nat.le_of_ble_eq_true rfl) dX10_hedgeIt_6 ⟨Nat.le_of_ble_eq_true rfl, Nat.le_of_ble_eq_true rfl⟩ (fun H locs B => ?_)
  refine lv_if_ne (tgt := 19) hx hb dX10_hedgeIt_9 (by decide) (fun c2 => ?_) (fun c2 => ?_)
  · have ho := in_ c2 ho
    refine lv_aload_n hx hb dX10_hedgeIt_19 rfl (lv_at hl 0 rfl) ?_
    refine lv_iload_n hx hb dX10_hedgeIt_20 rfl (lv_at hl 1 rfl) ?_
    refine lv_iload_n hx hb dX10_hedgeIt_21 rfl (lv_at hl 2 rfl) ?_
    obtain ⟨q3, σ4, hq3, ho⟩ := bnm_ ho
    refine k_iV (As := [.int a0, .int a1]) (rest := []) S F B (c_X10_areNeighbours l G σ _ a0 a1 hq3) (kq (by decide) : kd 198 = 21 ∧ 198 < NN) rfl rfl (cwV 2 hts gX10_hedgeIt_X10_areNeighbours rfl rfl rfl (by decide +kernel) ⟨Nat.le_of_ble_eq_true rfl, Nat.le_of_ble_eq_true rfl⟩) rfl hl.1 rfl (Nat.le_of_ble_eq_true rfl) dX10_hedgeIt_22 ⟨Nat.le_of_ble_eq_true rfl, Nat.le_of_ble_eq_true rfl⟩ (fun H locs B => ?_)
    refine lv_if_ne (tgt := 30) hx hb dX10_hedgeIt_25 (by decide) (fun c5 => ?_) (fun c5 => ?_)
    · have ho := in_ c5 ho
      refine lv_iload_n hx hb dX10_hedgeIt_30 rfl (lv_at hl 1 rfl) ?_
      refine lv_iload_n hx hb dX10_hedgeIt_31 rfl (lv_at hl 2 rfl) ?_
      obtain ⟨q6, hq6, ho⟩ := bnd_ ho
      refine k_iS (As := [.int a0, .int a1]) (rest := []) S F B (c_X10_hedgeAt l G σ4 _ a0 a1 hq6) (va_cwS 2 hts gX10_hedgeIt_X10_hedgeAt rfl rfl rfl (by decide +kernel) ⟨Nat.le_of_ble_eq_true rfl, Nat.le_of_ble_eq_true rfl⟩) rfl hl.1 rfl (Nat.le_of_ble_eq_true rfl) dX10_hedgeIt_32 ⟨Nat.le_of_ble_eq_true rfl, Nat.le_of_ble_eq_true rfl⟩ (fun H locs B => ?_)
      refine lv_istore (lv' := [(4, .int q6), (0, .ref (G.2.2 198)), (1, .int a0), (2, .int a1), (3, .int a2)]) hx hb dX10_hedgeIt_35 hl (by decide) rfl (fun ls hl => ?_)
      refine lv_aload_n hx hb dX10_hedgeIt_37 rfl (lv_at hl 1 rfl) ?_
      refine r_get (ci := 14) (C := RX10) (T := TX10) (N := 21) S F B (kq (by decide) : kd 198 = 21 ∧ 198 < NN) rfl rfl hiX10 0 (by decide) (by decide +kernel) rfl dX10_hedgeIt_38 ?_
      refine lv_iload hx hb dX10_hedgeIt_41 (lv_at hl 0 rfl) ?_
      obtain ⟨hi, ho⟩ := gd_ ho
      refine r_iald S F B (kq (by decide) : kd 199 = 22 ∧ 199 < NN) rfl hi dX10_hedgeIt_43 ?_
      obtain ⟨x7, ex7, ho⟩ := lt_ ho
      refine lv_nm ex7 ?_
      refine lv_istore (lv' := [(5, .int x7), (4, .int q6), (0, .ref (G.2.2 198)), (1, .int a0), (2, .int a1), (3, .int a2)]) hx hb dX10_hedgeIt_44 hl (by decide) rfl (fun ls hl => ?_)
      refine lv_iload hx hb dX10_hedgeIt_46 (lv_at hl 0 rfl) ?_
      refine lv_iload_n hx hb dX10_hedgeIt_48 rfl (lv_at hl 5 rfl) ?_
      refine lv_icmp_ne (tgt := 59) hx hb dX10_hedgeIt_49 (by decide) (fun c8 => ?_) (fun c8 => ?_)
      · have ho := in_ c8 ho
        refine lv_aload_n hx hb dX10_hedgeIt_59 rfl (lv_at hl 2 rfl) ?_
        refine r_get (ci := 14) (C := RX10) (T := TX10) (N := 21) S F B (kq (by decide) : kd 198 = 21 ∧ 198 < NN) rfl rfl hiX10 0 (by decide) (by decide +kernel) rfl dX10_hedgeIt_60 ?_
        refine lv_iload hx hb dX10_hedgeIt_63 (lv_at hl 1 rfl) ?_
        refine lv_iload_n hx hb dX10_hedgeIt_65 rfl (lv_at hl 5 rfl) ?_
        obtain ⟨hi, ho⟩ := gd_ ho
        refine r_iast S F B (kq (by decide) : kd 199 = 22 ∧ 199 < NN) (fun _ => rfl) hi dX10_hedgeIt_66 (fun H locs B => ?_)
        obtain ⟨σ9, eσ9, ho⟩ := lt_ ho
        rw [← eσ9] at B
        refine lv_iload hx hb dX10_hedgeIt_67 (lv_at hl 0 rfl) ?_
        cases ho
        exact e_i B hx hb hr hlocks rfl rfl dX10_hedgeIt_69
      · have ho := ip_ c8 ho
        refine lv_aload_n hx hb dX10_hedgeIt_52 rfl (lv_at hl 2 rfl) ?_
        refine lv_iconst (v := 3) hx hb dX10_hedgeIt_53 (by decide) ?_
        refine lv_iload_n hx hb dX10_hedgeIt_54 rfl (lv_at hl 5 rfl) ?_
        obtain ⟨q10, σ11, hq10, ho⟩ := bnm_ ho
        refine k_iV (As := [.int 3, .int a2]) (rest := []) S F B (c_X10_refuse l G σ4 _ 3 a2 hq10) (kq (by decide) : kd 198 = 21 ∧ 198 < NN) rfl rfl (cwV 2 hts gX10_hedgeIt_X10_refuse rfl rfl rfl (by decide +kernel) ⟨Nat.le_of_ble_eq_true rfl, Nat.le_of_ble_eq_true rfl⟩) rfl hl.1 rfl (Nat.le_of_ble_eq_true rfl) dX10_hedgeIt_55 ⟨Nat.le_of_ble_eq_true rfl, Nat.le_of_ble_eq_true rfl⟩ (fun H locs B => ?_)
        cases ho
        exact e_i B hx hb hr hlocks rfl rfl dX10_hedgeIt_58
    · have ho := ip_ c5 ho
      refine lv_iconst (v := (-1)) hx hb dX10_hedgeIt_28 (by decide) ?_
      cases ho
      exact e_i B hx hb hr hlocks rfl rfl dX10_hedgeIt_29
  · have ho := ip_ c2 ho
    refine lv_aload_n hx hb dX10_hedgeIt_12 rfl (lv_at hl 0 rfl) ?_
    refine lv_iconst (v := 1) hx hb dX10_hedgeIt_13 (by decide) ?_
    refine lv_iconst (v := 0) hx hb dX10_hedgeIt_14 (by decide) ?_
    obtain ⟨q12, σ13, hq12, ho⟩ := bnm_ ho
    refine k_iV (As := [.int 1, .int 0]) (rest := []) S F B (c_X10_refuse l G σ _ 1 0 hq12) (kq (by decide) : kd 198 = 21 ∧ 198 < NN) rfl rfl (cwV 2 hts gX10_hedgeIt_X10_refuse rfl rfl rfl (by decide +kernel) ⟨Nat.le_of_ble_eq_true rfl, Nat.le_of_ble_eq_true rfl⟩) rfl hl.1 rfl (Nat.le_of_ble_eq_true rfl) dX10_hedgeIt_15 ⟨Nat.le_of_ble_eq_true rfl, Nat.le_of_ble_eq_true rfl⟩ (fun H locs B => ?_)
    cases ho
    exact e_i B hx hb hr hlocks rfl rfl dX10_hedgeIt_18

set_option maxHeartbeats 4000000 in
set_option maxRecDepth 100000 in
theorem c_X10_hedge (l : Launch) (G : Gd) (σ : Mm) (sz : Nat) (a0 : Int32) (a1 : Int32) (a2 : Int32) {out : Int32 × Mm} (ho : f_X10_hedge a0 a1 a2 σ = some out) : Met l yX10_hedge wsX10_hedge { frames := 4, cells := 0, slots := 0, locals := 102 } (va_Pc [.ref (G.2.2 198), .int a0, .int a1, .int a2] (PW G σ sz)) (Qi G sz out.1 out.2) 0 0 (AA G sz) := by
  refine Met.ofW (cc := cX10_hedge) (maxL := 4) (ret := (some .int)) (by decide) rfl ?_
  intro p e s m args below meth c s₁ B0 hml hv
  obtain ⟨rfl, hpw⟩ := hv
  have hsz := hpw.1
  subst hsz
  obtain ⟨F, B⟩ := hpw.to
  have hx := B0.exec
  have hb := B0.bytes
  have hr := B0.returns
  have hts := atoms_spec (ws := wsX10_hedge) B0.pre
  have hown : s.vm.findClass RX10 = some m.cls := findClass_of_methodNamed B0.named
  have hlocks := B0.notSynchronized
  have S : CallFix p m c cX10_hedge 4 s _ wsX10_hedge RX10 := ⟨hx, hb, hml, hown, hts⟩
  have hl := lv_entry [.ref (G.2.2 198), .int a0, .int a1, .int a2] (n := 4) (Nat.le_of_ble_eq_true rfl)
  rw [lg_entry_eq]
  generalize (lg_sl [.ref (G.2.2 198), .int a0, .int a1, .int a2] ++ List.replicate (4 - (lg_sl [.ref (G.2.2 198), .int a0, .int a1, .int a2]).length) Slot.unset).toArray = ls at hl ⊢
  have hl : lv_has ls 4 [(0, .ref (G.2.2 198)), (1, .int a0), (2, .int a1), (3, .int a2)] := hl
  unfold f_X10_hedge at ho
  refine lv_aload_n hx hb dX10_hedge_0 rfl (lv_at hl 0 rfl) ?_
  obtain ⟨σ2, hq1, ho⟩ := bnd_ ho
  refine k_vV (As := []) (rest := []) S F B (c_X10_starts l G σ _ hq1) (kq (by decide) : kd 198 = 21 ∧ 198 < NN) rfl rfl (cwV 0 hts gX10_hedge_X10_starts rfl rfl rfl (by decide +kernel) ⟨Nat.le_of_ble_eq_true rfl, Nat.le_of_ble_eq_true rfl⟩) rfl hl.1 rfl (Nat.le_of_ble_eq_true rfl) dX10_hedge_1 ⟨Nat.le_of_ble_eq_true rfl, Nat.le_of_ble_eq_true rfl⟩ (fun H locs B => ?_)
  refine lv_aload_n hx hb dX10_hedge_4 rfl (lv_at hl 0 rfl) ?_
  refine lv_aload_n hx hb dX10_hedge_5 rfl (lv_at hl 0 rfl) ?_
  refine lv_iload_n hx hb dX10_hedge_6 rfl (lv_at hl 1 rfl) ?_
  refine lv_iload_n hx hb dX10_hedge_7 rfl (lv_at hl 2 rfl) ?_
  refine lv_iload_n hx hb dX10_hedge_8 rfl (lv_at hl 3 rfl) ?_
  obtain ⟨q3, σ4, hq3, ho⟩ := bnm_ ho
  refine k_iV (As := [.int a0, .int a1, .int a2]) (rest := [.ref (G.2.2 198)]) S F B (c_X10_hedgeIt l G σ2 _ a0 a1 a2 hq3) (kq (by decide) : kd 198 = 21 ∧ 198 < NN) rfl rfl (cwV 3 hts gX10_hedge_X10_hedgeIt rfl rfl rfl (by decide +kernel) ⟨Nat.le_of_ble_eq_true rfl, Nat.le_of_ble_eq_true rfl⟩) rfl hl.1 rfl (Nat.le_of_ble_eq_true rfl) dX10_hedge_9 ⟨Nat.le_of_ble_eq_true rfl, Nat.le_of_ble_eq_true rfl⟩ (fun H locs B => ?_)
  obtain ⟨q5, σ6, hq5, ho⟩ := bnm_ ho
  refine k_iV (As := [.int q3]) (rest := []) S F B (c_X10_changed l G σ4 _ q3 hq5) (kq (by decide) : kd 198 = 21 ∧ 198 < NN) rfl rfl (cwV 1 hts gX10_hedge_X10_changed rfl rfl rfl (by decide +kernel) ⟨Nat.le_of_ble_eq_true rfl, Nat.le_of_ble_eq_true rfl⟩) rfl hl.1 rfl (Nat.le_of_ble_eq_true rfl) dX10_hedge_12 ⟨Nat.le_of_ble_eq_true rfl, Nat.le_of_ble_eq_true rfl⟩ (fun H locs B => ?_)
  cases ho
  exact e_i B hx hb hr hlocks rfl rfl dX10_hedge_15

set_option maxHeartbeats 4000000 in
set_option maxRecDepth 100000 in
theorem c_X10_summerIt (l : Launch) (G : Gd) (σ : Mm) (sz : Nat) {out : Int32 × Mm} (ho : f_X10_summerIt σ = some out) : Met l yX10_summerIt wsX10_summerIt { frames := 2, cells := 0, slots := 0, locals := 43 } (va_Pc [.ref (G.2.2 198)] (PW G σ sz)) (Qi G sz out.1 out.2) 0 0 (AA G sz) := by
  refine Met.ofW (cc := cX10_summerIt) (maxL := 3) (ret := (some .int)) (by decide) rfl ?_
  intro p e s m args below meth c s₁ B0 hml hv
  obtain ⟨rfl, hpw⟩ := hv
  have hsz := hpw.1
  subst hsz
  obtain ⟨F, B⟩ := hpw.to
  have hx := B0.exec
  have hb := B0.bytes
  have hr := B0.returns
  have hts := atoms_spec (ws := wsX10_summerIt) B0.pre
  have hown : s.vm.findClass RX10 = some m.cls := findClass_of_methodNamed B0.named
  have hlocks := B0.notSynchronized
  have S : CallFix p m c cX10_summerIt 3 s _ wsX10_summerIt RX10 := ⟨hx, hb, hml, hown, hts⟩
  have hiX10 : ∀ w ∈ u_ws RX10 TX10 21, w ∈ wsX10_summerIt := by decide +kernel
  have hl := lv_entry [.ref (G.2.2 198)] (n := 3) (Nat.le_of_ble_eq_true rfl)
  rw [lg_entry_eq]
  generalize (lg_sl [.ref (G.2.2 198)] ++ List.replicate (3 - (lg_sl [.ref (G.2.2 198)]).length) Slot.unset).toArray = ls at hl ⊢
  have hl : lv_has ls 3 [(0, .ref (G.2.2 198))] := hl
  unfold f_X10_summerIt at ho
  skip
  refine lv_aload_n hx hb dX10_summerIt_0 rfl (lv_at hl 0 rfl) ?_
  obtain ⟨q1, hq1, ho⟩ := bnd_ ho
  refine k_iV (As := []) (rest := []) S F B (c_X10_gaps l G σ _ hq1) (kq (by decide) : kd 198 = 21 ∧ 198 < NN) rfl rfl (cwV 0 hts gX10_summerIt_X10_gaps rfl rfl rfl (by decide +kernel) ⟨Nat.le_of_ble_eq_true rfl, Nat.le_of_ble_eq_true rfl⟩) rfl hl.1 rfl (Nat.le_of_ble_eq_true rfl) dX10_summerIt_1 ⟨Nat.le_of_ble_eq_true rfl, Nat.le_of_ble_eq_true rfl⟩ (fun H locs B => ?_)
  refine lv_istore_n (lv' := [(1, .int q1), (0, .ref (G.2.2 198))]) hx hb dX10_summerIt_4 rfl hl (by decide) rfl (fun ls hl => ?_)
  refine lv_iconst (v := 0) hx hb dX10_summerIt_5 (by decide) ?_
  refine lv_istore_n (lv' := [(2, .int 0), (1, .int q1), (0, .ref (G.2.2 198))]) hx hb dX10_summerIt_6 rfl hl (by decide) rfl (fun ls hl => ?_)
  have hloop7 : ∀ (n : Nat) (v5 : Int32) (σ6 : Mm) (H : Heap) (locs : List Loc) (ls : Array Slot), f_X10_summerIt_l7  q1 n v5 σ6 = some out → Bd G σ6 s H locs → lv_has ls 3 [(2, .int v5), (1, .int q1), (0, .ref (G.2.2 198))] → W p l e (headSpec wsX10_summerIt { frames := 2, cells := 0, slots := 0, locals := 43 }).room s m #[.ref (G.2.2 198)] below meth c H locs 0 0 (MQ below (Qi G s.heap.size out.1 out.2) #[.ref (G.2.2 198)] s 0 0 (AA G s.heap.size)) (F0 m 7 ls []) := by
    intro n
    induction n with
    | zero => intro v5 σ6 H locs ls ho B hl; cases ho
    | succ n ih =>
      intro v5 σ6 H locs ls ho B hl
      refine lv_iload_n hx hb dX10_summerIt_7 rfl (lv_at hl 0 rfl) ?_
      refine lv_bipush (v := 24) hx hb dX10_summerIt_8 (by decide) ?_
      refine lv_icmp_ge (tgt := 44) hx hb dX10_summerIt_10 (by decide) (fun c7 => ?_) (fun c7 => ?_)
      · have ho := ip_ c7 ho
        refine lv_aload_n hx hb dX10_summerIt_44 rfl (lv_at hl 2 rfl) ?_
        refine r_get (ci := 14) (C := RX10) (T := TX10) (N := 21) S F B (kq (by decide) : kd 198 = 21 ∧ 198 < NN) rfl rfl hiX10 0 (by decide) (by decide +kernel) rfl dX10_summerIt_45 ?_
        refine lv_iconst (v := 3) hx hb dX10_summerIt_48 (by decide) ?_
        refine lv_dup2_11 hx hb dX10_summerIt_49 rfl rfl ?_
        refine r_ialdc (j := 3) S F B (kq (by decide) : kd 199 = 22 ∧ 199 < NN) rfl (vpc (by decide)) (by decide) dX10_summerIt_50 ?_
        refine lv_iconst (v := 1) hx hb dX10_summerIt_51 (by decide) ?_
        refine lv_iadd hx hb dX10_summerIt_52 ?_
        refine r_iastc (j := 3) S F B (kq (by decide) : kd 199 = 22 ∧ 199 < NN) (fun _ => rfl) (vpc (by decide)) (by decide) dX10_summerIt_53 (fun H locs B => ?_)
        obtain ⟨σ8, eσ8, ho⟩ := lt_ ho
        rw [← eσ8] at B
        refine lv_iload_n hx hb dX10_summerIt_54 rfl (lv_at hl 1 rfl) ?_
        refine lv_aload_n hx hb dX10_summerIt_55 rfl (lv_at hl 2 rfl) ?_
        obtain ⟨q9, hq9, ho⟩ := bnd_ ho
        refine k_iV (As := []) (rest := [.int q1]) S F B (c_X10_gaps l G σ8 _ hq9) (kq (by decide) : kd 198 = 21 ∧ 198 < NN) rfl rfl (cwV 0 hts gX10_summerIt_X10_gaps rfl rfl rfl (by decide +kernel) ⟨Nat.le_of_ble_eq_true rfl, Nat.le_of_ble_eq_true rfl⟩) rfl hl.1 rfl (Nat.le_of_ble_eq_true rfl) dX10_summerIt_56 ⟨Nat.le_of_ble_eq_true rfl, Nat.le_of_ble_eq_true rfl⟩ (fun H locs B => ?_)
        refine lv_isub hx hb dX10_summerIt_59 ?_
        cases ho
        exact e_i B hx hb hr hlocks rfl rfl dX10_summerIt_60
      · have ho := in_ c7 ho
        refine lv_aload_n hx hb dX10_summerIt_13 rfl (lv_at hl 2 rfl) ?_
        refine r_get (ci := 14) (C := RX10) (T := TX10) (N := 21) S F B (kq (by decide) : kd 198 = 21 ∧ 198 < NN) rfl rfl hiX10 0 (by decide) (by decide +kernel) rfl dX10_summerIt_14 ?_
        refine lv_bipush (v := 6) hx hb dX10_summerIt_17 (by decide) ?_
        refine lv_iload_n hx hb dX10_summerIt_19 rfl (lv_at hl 0 rfl) ?_
        refine lv_iadd hx hb dX10_summerIt_20 ?_
        refine lv_bipush (v := 9) hx hb dX10_summerIt_21 (by decide) ?_
        refine lv_aload_n hx hb dX10_summerIt_23 rfl (lv_at hl 2 rfl) ?_
        refine r_get (ci := 14) (C := RX10) (T := TX10) (N := 21) S F B (kq (by decide) : kd 198 = 21 ∧ 198 < NN) rfl rfl hiX10 0 (by decide) (by decide +kernel) rfl dX10_summerIt_24 ?_
        refine lv_bipush (v := 6) hx hb dX10_summerIt_27 (by decide) ?_
        refine lv_iload_n hx hb dX10_summerIt_29 rfl (lv_at hl 0 rfl) ?_
        refine lv_iadd hx hb dX10_summerIt_30 ?_
        obtain ⟨hi, ho⟩ := gd_ ho
        refine r_iald S F B (kq (by decide) : kd 199 = 22 ∧ 199 < NN) rfl hi dX10_summerIt_31 ?_
        refine lv_iconst (v := 1) hx hb dX10_summerIt_32 (by decide) ?_
        refine lv_iadd hx hb dX10_summerIt_33 ?_
        refine va_mmin hx hb (hml.trans hl.1.symm) hown (hts _ (by decide +kernel)) (hts _ (by decide +kernel)) (hts _ (by decide +kernel)) (hts _ (by decide +kernel)) (Nat.le_of_ble_eq_true rfl) (Nat.le_of_ble_eq_true rfl) (Nat.le_of_ble_eq_true rfl) (Nat.le_of_ble_eq_true rfl) dX10_summerIt_34 ?_
        obtain ⟨hi, ho⟩ := gd_ ho
        refine r_iast S F B (kq (by decide) : kd 199 = 22 ∧ 199 < NN) (fun _ => rfl) hi dX10_summerIt_37 (fun H locs B => ?_)
        obtain ⟨σ10, eσ10, ho⟩ := lt_ ho
        rw [← eσ10] at B
        obtain ⟨x11, ex11, ho⟩ := lt_ ho
        refine lv_iinc (v := x11) (lv' := [(2, .int x11), (1, .int q1), (0, .ref (G.2.2 198))]) hx hb dX10_summerIt_38 hl (k := 0) rfl (by rw [ex11]; rfl) (by decide) rfl (fun ls hl => ?_)
        refine lv_goto (tgt := 7) hx hb dX10_summerIt_41 (by decide) ?_
        exact ih _ _ _ _ _ ho B (lv_sub hl [0, 1, 2] rfl)
  exact hloop7 30 _ _ _ _ _ ho B hl

set_option maxHeartbeats 4000000 in
set_option maxRecDepth 100000 in
theorem c_X10_summer (l : Launch) (G : Gd) (σ : Mm) (sz : Nat) {out : Int32 × Mm} (ho : f_X10_summer σ = some out) : Met l yX10_summer wsX10_summer { frames := 3, cells := 0, slots := 0, locals := 65 } (va_Pc [.ref (G.2.2 198)] (PW G σ sz)) (Qi G sz out.1 out.2) 0 0 (AA G sz) := by
  refine Met.ofW (cc := cX10_summer) (maxL := 1) (ret := (some .int)) (by decide) rfl ?_
  intro p e s m args below meth c s₁ B0 hml hv
  obtain ⟨rfl, hpw⟩ := hv
  have hsz := hpw.1
  subst hsz
  obtain ⟨F, B⟩ := hpw.to
  have hx := B0.exec
  have hb := B0.bytes
  have hr := B0.returns
  have hts := atoms_spec (ws := wsX10_summer) B0.pre
  have hown : s.vm.findClass RX10 = some m.cls := findClass_of_methodNamed B0.named
  have hlocks := B0.notSynchronized
  have S : CallFix p m c cX10_summer 1 s _ wsX10_summer RX10 := ⟨hx, hb, hml, hown, hts⟩
  have hl := lv_entry [.ref (G.2.2 198)] (n := 1) (Nat.le_of_ble_eq_true rfl)
  rw [lg_entry_eq]
  generalize (lg_sl [.ref (G.2.2 198)] ++ List.replicate (1 - (lg_sl [.ref (G.2.2 198)]).length) Slot.unset).toArray = ls at hl ⊢
  have hl : lv_has ls 1 [(0, .ref (G.2.2 198))] := hl
  unfold f_X10_summer at ho
  refine lv_aload_n hx hb dX10_summer_0 rfl (lv_at hl 0 rfl) ?_
  obtain ⟨σ2, hq1, ho⟩ := bnd_ ho
  refine k_vV (As := []) (rest := []) S F B (c_X10_starts l G σ _ hq1) (kq (by decide) : kd 198 = 21 ∧ 198 < NN) rfl rfl (cwV 0 hts gX10_summer_X10_starts rfl rfl rfl (by decide +kernel) ⟨Nat.le_of_ble_eq_true rfl, Nat.le_of_ble_eq_true rfl⟩) rfl hl.1 rfl (Nat.le_of_ble_eq_true rfl) dX10_summer_1 ⟨Nat.le_of_ble_eq_true rfl, Nat.le_of_ble_eq_true rfl⟩ (fun H locs B => ?_)
  refine lv_aload_n hx hb dX10_summer_4 rfl (lv_at hl 0 rfl) ?_
  refine lv_aload_n hx hb dX10_summer_5 rfl (lv_at hl 0 rfl) ?_
  obtain ⟨q3, σ4, hq3, ho⟩ := bnm_ ho
  refine k_iV (As := []) (rest := [.ref (G.2.2 198)]) S F B (c_X10_summerIt l G σ2 _ hq3) (kq (by decide) : kd 198 = 21 ∧ 198 < NN) rfl rfl (cwV 0 hts gX10_summer_X10_summerIt rfl rfl rfl (by decide +kernel) ⟨Nat.le_of_ble_eq_true rfl, Nat.le_of_ble_eq_true rfl⟩) rfl hl.1 rfl (Nat.le_of_ble_eq_true rfl) dX10_summer_6 ⟨Nat.le_of_ble_eq_true rfl, Nat.le_of_ble_eq_true rfl⟩ (fun H locs B => ?_)
  obtain ⟨q5, σ6, hq5, ho⟩ := bnm_ ho
  refine k_iV (As := [.int q3]) (rest := []) S F B (c_X10_changed l G σ4 _ q3 hq5) (kq (by decide) : kd 198 = 21 ∧ 198 < NN) rfl rfl (cwV 1 hts gX10_summer_X10_changed rfl rfl rfl (by decide +kernel) ⟨Nat.le_of_ble_eq_true rfl, Nat.le_of_ble_eq_true rfl⟩) rfl hl.1 rfl (Nat.le_of_ble_eq_true rfl) dX10_summer_9 ⟨Nat.le_of_ble_eq_true rfl, Nat.le_of_ble_eq_true rfl⟩ (fun H locs B => ?_)
  cases ho
  exact e_i B hx hb hr hlocks rfl rfl dX10_summer_12

set_option maxHeartbeats 4000000 in
set_option maxRecDepth 100000 in
theorem c_X10_trimIt (l : Launch) (G : Gd) (σ : Mm) (sz : Nat) (a0 : Int32) (a1 : Int32) (a2 : Int32) {out : Int32 × Mm} (ho : f_X10_trimIt a0 a1 a2 σ = some out) : Met l yX10_trimIt wsX10_trimIt { frames := 3, cells := 0, slots := 0, locals := 77 } (va_Pc [.ref (G.2.2 198), .int a0, .int a1, .int a2] (PW G σ sz)) (Qi G sz out.1 out.2) 0 0 (AA G sz) := by
  refine Met.ofW (cc := cX10_trimIt) (maxL := 6) (ret := (some .int)) (by decide) rfl ?_
  intro p e s m args below meth c s₁ B0 hml hv
  obtain ⟨rfl, hpw⟩ := hv
  have hsz := hpw.1
  subst hsz
  obtain ⟨F, B⟩ := hpw.to
  have hx := B0.exec
  have hb := B0.bytes
  have hr := B0.returns
  have hts := atoms_spec (ws := wsX10_trimIt) B0.pre
  have hown : s.vm.findClass RX10 = some m.cls := findClass_of_methodNamed B0.named
  have hlocks := B0.notSynchronized
  have S : CallFix p m c cX10_trimIt 6 s _ wsX10_trimIt RX10 := ⟨hx, hb, hml, hown, hts⟩
  have hiX10 : ∀ w ∈ u_ws RX10 TX10 21, w ∈ wsX10_trimIt := by decide +kernel
  have hl := lv_entry [.ref (G.2.2 198), .int a0, .int a1, .int a2] (n := 6) (Nat.le_of_ble_eq_true rfl)
  rw [lg_entry_eq]
  generalize (lg_sl [.ref (G.2.2 198), .int a0, .int a1, .int a2] ++ List.replicate (6 - (lg_sl [.ref (G.2.2 198), .int a0, .int a1, .int a2]).length) Slot.unset).toArray = ls at hl ⊢
  have hl : lv_has ls 6 [(0, .ref (G.2.2 198)), (1, .int a0), (2, .int a1), (3, .int a2)] := hl
  unfold f_X10_trimIt at ho
  refine lv_aload_n hx hb dX10_trimIt_0 rfl (lv_at hl 0 rfl) ?_
  refine lv_iload_n hx hb dX10_trimIt_1 rfl (lv_at hl 1 rfl) ?_
  obtain ⟨q1, hq1, ho⟩ := bnd_ ho
  refine k_iV (As := [.int a0]) (rest := []) S F B (c_X10_isGardener l G σ _ a0 hq1) (kq (by decide) : kd 198 = 21 ∧ 198 < NN) rfl rfl (cwV 1 hts gX10_trimIt_X10_isGardener rfl rfl rfl (by decide +kernel) ⟨Nat.le_of_ble_eq_true rfl, Nat.le_of_ble_eq_true rfl⟩) rfl hl.1 rfl (Nat.le_of_ble_eq_true rfl) dX10_trimIt_2 ⟨Nat.le_of_ble_eq_true rfl, Nat.le_of_ble_eq_true rfl⟩ (fun H locs B => ?_)
  refine lv_if_ne (tgt := 20) hx hb dX10_trimIt_5 (by decide) (fun c2 => ?_) (fun c2 => ?_)
  · have ho := in_ c2 ho
    refine lv_aload_n hx hb dX10_trimIt_20 rfl (lv_at hl 0 rfl) ?_
    refine lv_iload_n hx hb dX10_trimIt_21 rfl (lv_at hl 2 rfl) ?_
    refine lv_iload_n hx hb dX10_trimIt_22 rfl (lv_at hl 3 rfl) ?_
    obtain ⟨q3, σ4, hq3, ho⟩ := bnm_ ho
    refine k_iV (As := [.int a1, .int a2]) (rest := []) S F B (c_X10_areNeighbours l G σ _ a1 a2 hq3) (kq (by decide) : kd 198 = 21 ∧ 198 < NN) rfl rfl (cwV 2 hts gX10_trimIt_X10_areNeighbours rfl rfl rfl (by decide +kernel) ⟨Nat.le_of_ble_eq_true rfl, Nat.le_of_ble_eq_true rfl⟩) rfl hl.1 rfl (Nat.le_of_ble_eq_true rfl) dX10_trimIt_23 ⟨Nat.le_of_ble_eq_true rfl, Nat.le_of_ble_eq_true rfl⟩ (fun H locs B => ?_)
    refine lv_if_ne (tgt := 31) hx hb dX10_trimIt_26 (by decide) (fun c5 => ?_) (fun c5 => ?_)
    · have ho := in_ c5 ho
      refine lv_iload_n hx hb dX10_trimIt_31 rfl (lv_at hl 2 rfl) ?_
      refine lv_iload_n hx hb dX10_trimIt_32 rfl (lv_at hl 3 rfl) ?_
      obtain ⟨q6, hq6, ho⟩ := bnd_ ho
      refine k_iS (As := [.int a1, .int a2]) (rest := []) S F B (c_X10_hedgeAt l G σ4 _ a1 a2 hq6) (va_cwS 2 hts gX10_trimIt_X10_hedgeAt rfl rfl rfl (by decide +kernel) ⟨Nat.le_of_ble_eq_true rfl, Nat.le_of_ble_eq_true rfl⟩) rfl hl.1 rfl (Nat.le_of_ble_eq_true rfl) dX10_trimIt_33 ⟨Nat.le_of_ble_eq_true rfl, Nat.le_of_ble_eq_true rfl⟩ (fun H locs B => ?_)
      refine lv_istore (lv' := [(4, .int q6), (0, .ref (G.2.2 198)), (1, .int a0), (2, .int a1), (3, .int a2)]) hx hb dX10_trimIt_36 hl (by decide) rfl (fun ls hl => ?_)
      refine lv_iload_n hx hb dX10_trimIt_38 rfl (lv_at hl 2 rfl) ?_
      obtain ⟨q7, hq7, ho⟩ := bnd_ ho
      refine k_iS (As := [.int a0]) (rest := []) S F B (c_X10_gardenerAt l G σ4 _ a0 hq7) (va_cwS 1 hts gX10_trimIt_X10_gardenerAt rfl rfl rfl (by decide +kernel) ⟨Nat.le_of_ble_eq_true rfl, Nat.le_of_ble_eq_true rfl⟩) rfl hl.1 rfl (Nat.le_of_ble_eq_true rfl) dX10_trimIt_39 ⟨Nat.le_of_ble_eq_true rfl, Nat.le_of_ble_eq_true rfl⟩ (fun H locs B => ?_)
      refine lv_istore (lv' := [(5, .int q7), (4, .int q6), (0, .ref (G.2.2 198)), (1, .int a0), (2, .int a1), (3, .int a2)]) hx hb dX10_trimIt_42 hl (by decide) rfl (fun ls hl => ?_)
      refine lv_aload_n hx hb dX10_trimIt_44 rfl (lv_at hl 2 rfl) ?_
      refine r_get (ci := 14) (C := RX10) (T := TX10) (N := 21) S F B (kq (by decide) : kd 198 = 21 ∧ 198 < NN) rfl rfl hiX10 0 (by decide) (by decide +kernel) rfl dX10_trimIt_45 ?_
      refine lv_iload hx hb dX10_trimIt_48 (lv_at hl 1 rfl) ?_
      obtain ⟨hi, ho⟩ := gd_ ho
      refine r_iald S F B (kq (by decide) : kd 199 = 22 ∧ 199 < NN) rfl hi dX10_trimIt_50 ?_
      refine lv_if_ne (tgt := 61) hx hb dX10_trimIt_51 (by decide) (fun c8 => ?_) (fun c8 => ?_)
      · have ho := in_ c8 ho
        refine lv_aload_n hx hb dX10_trimIt_61 rfl (lv_at hl 2 rfl) ?_
        refine r_get (ci := 14) (C := RX10) (T := TX10) (N := 21) S F B (kq (by decide) : kd 198 = 21 ∧ 198 < NN) rfl rfl hiX10 0 (by decide) (by decide +kernel) rfl dX10_trimIt_62 ?_
        refine lv_iload hx hb dX10_trimIt_65 (lv_at hl 0 rfl) ?_
        obtain ⟨hi, ho⟩ := gd_ ho
        refine r_iald S F B (kq (by decide) : kd 199 = 22 ∧ 199 < NN) rfl hi dX10_trimIt_67 ?_
        refine lv_iconst (v := 2) hx hb dX10_trimIt_68 (by decide) ?_
        refine lv_icmp_ge (tgt := 87) hx hb dX10_trimIt_69 (by decide) (fun c9 => ?_) (fun c9 => ?_)
        · have ho := ip_ c9 ho
          refine lv_aload_n hx hb dX10_trimIt_87 rfl (lv_at hl 2 rfl) ?_
          refine r_get (ci := 14) (C := RX10) (T := TX10) (N := 21) S F B (kq (by decide) : kd 198 = 21 ∧ 198 < NN) rfl rfl hiX10 0 (by decide) (by decide +kernel) rfl dX10_trimIt_88 ?_
          refine lv_iload hx hb dX10_trimIt_91 (lv_at hl 1 rfl) ?_
          refine lv_iconst (v := 0) hx hb dX10_trimIt_93 (by decide) ?_
          obtain ⟨hi, ho⟩ := gd_ ho
          refine r_iast S F B (kq (by decide) : kd 199 = 22 ∧ 199 < NN) (fun _ => rfl) hi dX10_trimIt_94 (fun H locs B => ?_)
          obtain ⟨σ10, eσ10, ho⟩ := lt_ ho
          rw [← eσ10] at B
          refine lv_aload_n hx hb dX10_trimIt_95 rfl (lv_at hl 2 rfl) ?_
          refine r_get (ci := 14) (C := RX10) (T := TX10) (N := 21) S F B (kq (by decide) : kd 198 = 21 ∧ 198 < NN) rfl rfl hiX10 0 (by decide) (by decide +kernel) rfl dX10_trimIt_96 ?_
          refine lv_iload hx hb dX10_trimIt_99 (lv_at hl 0 rfl) ?_
          refine lv_dup2_11 hx hb dX10_trimIt_101 rfl rfl ?_
          obtain ⟨hi, ho⟩ := gd_ ho
          refine r_iald S F B (kq (by decide) : kd 199 = 22 ∧ 199 < NN) rfl hi dX10_trimIt_102 ?_
          refine lv_iconst (v := 2) hx hb dX10_trimIt_103 (by decide) ?_
          refine lv_isub hx hb dX10_trimIt_104 ?_
          obtain ⟨hi, ho⟩ := gd_ ho
          refine r_iast S F B (kq (by decide) : kd 199 = 22 ∧ 199 < NN) (fun _ => rfl) hi dX10_trimIt_105 (fun H locs B => ?_)
          obtain ⟨σ11, eσ11, ho⟩ := lt_ ho
          rw [← eσ11] at B
          refine lv_aload_n hx hb dX10_trimIt_106 rfl (lv_at hl 2 rfl) ?_
          refine r_get (ci := 14) (C := RX10) (T := TX10) (N := 21) S F B (kq (by decide) : kd 198 = 21 ∧ 198 < NN) rfl rfl hiX10 0 (by decide) (by decide +kernel) rfl dX10_trimIt_107 ?_
          refine lv_iload hx hb dX10_trimIt_110 (lv_at hl 0 rfl) ?_
          refine lv_iconst (v := 3) hx hb dX10_trimIt_112 (by decide) ?_
          refine lv_iadd hx hb dX10_trimIt_113 ?_
          refine lv_dup2_11 hx hb dX10_trimIt_114 rfl rfl ?_
          obtain ⟨hi, ho⟩ := gd_ ho
          refine r_iald S F B (kq (by decide) : kd 199 = 22 ∧ 199 < NN) rfl hi dX10_trimIt_115 ?_
          refine lv_iconst (v := 1) hx hb dX10_trimIt_116 (by decide) ?_
          refine lv_iadd hx hb dX10_trimIt_117 ?_
          obtain ⟨hi, ho⟩ := gd_ ho
          refine r_iast S F B (kq (by decide) : kd 199 = 22 ∧ 199 < NN) (fun _ => rfl) hi dX10_trimIt_118 (fun H locs B => ?_)
          obtain ⟨σ12, eσ12, ho⟩ := lt_ ho
          rw [← eσ12] at B
          refine lv_aload_n hx hb dX10_trimIt_119 rfl (lv_at hl 2 rfl) ?_
          refine r_get (ci := 14) (C := RX10) (T := TX10) (N := 21) S F B (kq (by decide) : kd 198 = 21 ∧ 198 < NN) rfl rfl hiX10 0 (by decide) (by decide +kernel) rfl dX10_trimIt_120 ?_
          refine lv_iconst (v := 5) hx hb dX10_trimIt_123 (by decide) ?_
          refine lv_dup2_11 hx hb dX10_trimIt_124 rfl rfl ?_
          refine r_ialdc (j := 5) S F B (kq (by decide) : kd 199 = 22 ∧ 199 < NN) rfl (vpc (by decide)) (by decide) dX10_trimIt_125 ?_
          refine lv_iconst (v := 2) hx hb dX10_trimIt_126 (by decide) ?_
          refine lv_iadd hx hb dX10_trimIt_127 ?_
          refine r_iastc (j := 5) S F B (kq (by decide) : kd 199 = 22 ∧ 199 < NN) (fun _ => rfl) (vpc (by decide)) (by decide) dX10_trimIt_128 (fun H locs B => ?_)
          obtain ⟨σ13, eσ13, ho⟩ := lt_ ho
          rw [← eσ13] at B
          refine lv_aload_n hx hb dX10_trimIt_129 rfl (lv_at hl 2 rfl) ?_
          refine r_get (ci := 14) (C := RX10) (T := TX10) (N := 21) S F B (kq (by decide) : kd 198 = 21 ∧ 198 < NN) rfl rfl hiX10 0 (by decide) (by decide +kernel) rfl dX10_trimIt_130 ?_
          refine lv_iload hx hb dX10_trimIt_133 (lv_at hl 0 rfl) ?_
          obtain ⟨hi, ho⟩ := gd_ ho
          refine r_iald S F B (kq (by decide) : kd 199 = 22 ∧ 199 < NN) rfl hi dX10_trimIt_135 ?_
          cases ho
          exact e_i B hx hb hr hlocks rfl rfl dX10_trimIt_136
        · have ho := in_ c9 ho
          refine lv_aload_n hx hb dX10_trimIt_72 rfl (lv_at hl 2 rfl) ?_
          refine lv_iconst (v := 5) hx hb dX10_trimIt_73 (by decide) ?_
          refine lv_iconst (v := 2) hx hb dX10_trimIt_74 (by decide) ?_
          refine lv_aload_n hx hb dX10_trimIt_75 rfl (lv_at hl 2 rfl) ?_
          refine r_get (ci := 14) (C := RX10) (T := TX10) (N := 21) S F B (kq (by decide) : kd 198 = 21 ∧ 198 < NN) rfl rfl hiX10 0 (by decide) (by decide +kernel) rfl dX10_trimIt_76 ?_
          refine lv_iload hx hb dX10_trimIt_79 (lv_at hl 0 rfl) ?_
          obtain ⟨hi, ho⟩ := gd_ ho
          refine r_iald S F B (kq (by decide) : kd 199 = 22 ∧ 199 < NN) rfl hi dX10_trimIt_81 ?_
          refine lv_isub hx hb dX10_trimIt_82 ?_
          obtain ⟨q14, σ15, hq14, ho⟩ := bnm_ ho
          refine k_iV (As := [.int 5, .int (2 - (σ4 199 q7.toNatClampNeg))]) (rest := []) S F B (c_X10_refuse l G σ4 _ 5 (2 - (σ4 199 q7.toNatClampNeg)) hq14) (kq (by decide) : kd 198 = 21 ∧ 198 < NN) rfl rfl (cwV 2 hts gX10_trimIt_X10_refuse rfl rfl rfl (by decide +kernel) ⟨Nat.le_of_ble_eq_true rfl, Nat.le_of_ble_eq_true rfl⟩) rfl hl.1 rfl (Nat.le_of_ble_eq_true rfl) dX10_trimIt_83 ⟨Nat.le_of_ble_eq_true rfl, Nat.le_of_ble_eq_true rfl⟩ (fun H locs B => ?_)
          cases ho
          exact e_i B hx hb hr hlocks rfl rfl dX10_trimIt_86
      · have ho := ip_ c8 ho
        refine lv_aload_n hx hb dX10_trimIt_54 rfl (lv_at hl 2 rfl) ?_
        refine lv_iconst (v := 3) hx hb dX10_trimIt_55 (by decide) ?_
        refine lv_iconst (v := 0) hx hb dX10_trimIt_56 (by decide) ?_
        obtain ⟨q16, σ17, hq16, ho⟩ := bnm_ ho
        refine k_iV (As := [.int 3, .int 0]) (rest := []) S F B (c_X10_refuse l G σ4 _ 3 0 hq16) (kq (by decide) : kd 198 = 21 ∧ 198 < NN) rfl rfl (cwV 2 hts gX10_trimIt_X10_refuse rfl rfl rfl (by decide +kernel) ⟨Nat.le_of_ble_eq_true rfl, Nat.le_of_ble_eq_true rfl⟩) rfl hl.1 rfl (Nat.le_of_ble_eq_true rfl) dX10_trimIt_57 ⟨Nat.le_of_ble_eq_true rfl, Nat.le_of_ble_eq_true rfl⟩ (fun H locs B => ?_)
        cases ho
        exact e_i B hx hb hr hlocks rfl rfl dX10_trimIt_60
    · have ho := ip_ c5 ho
      refine lv_iconst (v := (-1)) hx hb dX10_trimIt_29 (by decide) ?_
      cases ho
      exact e_i B hx hb hr hlocks rfl rfl dX10_trimIt_30
  · have ho := ip_ c2 ho
    refine lv_aload_n hx hb dX10_trimIt_8 rfl (lv_at hl 0 rfl) ?_
    refine lv_iconst (v := 4) hx hb dX10_trimIt_9 (by decide) ?_
    refine lv_aload_n hx hb dX10_trimIt_10 rfl (lv_at hl 0 rfl) ?_
    refine r_get (ci := 14) (C := RX10) (T := TX10) (N := 21) S F B (kq (by decide) : kd 198 = 21 ∧ 198 < NN) rfl rfl hiX10 0 (by decide) (by decide +kernel) rfl dX10_trimIt_11 ?_
    refine lv_iconst (v := 0) hx hb dX10_trimIt_14 (by decide) ?_
    refine r_ialdc (j := 0) S F B (kq (by decide) : kd 199 = 22 ∧ 199 < NN) rfl (vpc (by decide)) (by decide) dX10_trimIt_15 ?_
    obtain ⟨q18, σ19, hq18, ho⟩ := bnm_ ho
    refine k_iV (As := [.int 4, .int (σ 199 0)]) (rest := []) S F B (c_X10_refuse l G σ _ 4 (σ 199 0) hq18) (kq (by decide) : kd 198 = 21 ∧ 198 < NN) rfl rfl (cwV 2 hts gX10_trimIt_X10_refuse rfl rfl rfl (by decide +kernel) ⟨Nat.le_of_ble_eq_true rfl, Nat.le_of_ble_eq_true rfl⟩) rfl hl.1 rfl (Nat.le_of_ble_eq_true rfl) dX10_trimIt_16 ⟨Nat.le_of_ble_eq_true rfl, Nat.le_of_ble_eq_true rfl⟩ (fun H locs B => ?_)
    cases ho
    exact e_i B hx hb hr hlocks rfl rfl dX10_trimIt_19

set_option maxHeartbeats 4000000 in
set_option maxRecDepth 100000 in
theorem c_X10_trim (l : Launch) (G : Gd) (σ : Mm) (sz : Nat) (a0 : Int32) (a1 : Int32) (a2 : Int32) {out : Int32 × Mm} (ho : f_X10_trim a0 a1 a2 σ = some out) : Met l yX10_trim wsX10_trim { frames := 4, cells := 0, slots := 0, locals := 102 } (va_Pc [.ref (G.2.2 198), .int a0, .int a1, .int a2] (PW G σ sz)) (Qi G sz out.1 out.2) 0 0 (AA G sz) := by
  refine Met.ofW (cc := cX10_trim) (maxL := 4) (ret := (some .int)) (by decide) rfl ?_
  intro p e s m args below meth c s₁ B0 hml hv
  obtain ⟨rfl, hpw⟩ := hv
  have hsz := hpw.1
  subst hsz
  obtain ⟨F, B⟩ := hpw.to
  have hx := B0.exec
  have hb := B0.bytes
  have hr := B0.returns
  have hts := atoms_spec (ws := wsX10_trim) B0.pre
  have hown : s.vm.findClass RX10 = some m.cls := findClass_of_methodNamed B0.named
  have hlocks := B0.notSynchronized
  have S : CallFix p m c cX10_trim 4 s _ wsX10_trim RX10 := ⟨hx, hb, hml, hown, hts⟩
  have hl := lv_entry [.ref (G.2.2 198), .int a0, .int a1, .int a2] (n := 4) (Nat.le_of_ble_eq_true rfl)
  rw [lg_entry_eq]
  generalize (lg_sl [.ref (G.2.2 198), .int a0, .int a1, .int a2] ++ List.replicate (4 - (lg_sl [.ref (G.2.2 198), .int a0, .int a1, .int a2]).length) Slot.unset).toArray = ls at hl ⊢
  have hl : lv_has ls 4 [(0, .ref (G.2.2 198)), (1, .int a0), (2, .int a1), (3, .int a2)] := hl
  unfold f_X10_trim at ho
  refine lv_aload_n hx hb dX10_trim_0 rfl (lv_at hl 0 rfl) ?_
  obtain ⟨σ2, hq1, ho⟩ := bnd_ ho
  refine k_vV (As := []) (rest := []) S F B (c_X10_starts l G σ _ hq1) (kq (by decide) : kd 198 = 21 ∧ 198 < NN) rfl rfl (cwV 0 hts gX10_trim_X10_starts rfl rfl rfl (by decide +kernel) ⟨Nat.le_of_ble_eq_true rfl, Nat.le_of_ble_eq_true rfl⟩) rfl hl.1 rfl (Nat.le_of_ble_eq_true rfl) dX10_trim_1 ⟨Nat.le_of_ble_eq_true rfl, Nat.le_of_ble_eq_true rfl⟩ (fun H locs B => ?_)
  refine lv_aload_n hx hb dX10_trim_4 rfl (lv_at hl 0 rfl) ?_
  refine lv_aload_n hx hb dX10_trim_5 rfl (lv_at hl 0 rfl) ?_
  refine lv_iload_n hx hb dX10_trim_6 rfl (lv_at hl 1 rfl) ?_
  refine lv_iload_n hx hb dX10_trim_7 rfl (lv_at hl 2 rfl) ?_
  refine lv_iload_n hx hb dX10_trim_8 rfl (lv_at hl 3 rfl) ?_
  obtain ⟨q3, σ4, hq3, ho⟩ := bnm_ ho
  refine k_iV (As := [.int a0, .int a1, .int a2]) (rest := [.ref (G.2.2 198)]) S F B (c_X10_trimIt l G σ2 _ a0 a1 a2 hq3) (kq (by decide) : kd 198 = 21 ∧ 198 < NN) rfl rfl (cwV 3 hts gX10_trim_X10_trimIt rfl rfl rfl (by decide +kernel) ⟨Nat.le_of_ble_eq_true rfl, Nat.le_of_ble_eq_true rfl⟩) rfl hl.1 rfl (Nat.le_of_ble_eq_true rfl) dX10_trim_9 ⟨Nat.le_of_ble_eq_true rfl, Nat.le_of_ble_eq_true rfl⟩ (fun H locs B => ?_)
  obtain ⟨q5, σ6, hq5, ho⟩ := bnm_ ho
  refine k_iV (As := [.int q3]) (rest := []) S F B (c_X10_changed l G σ4 _ q3 hq5) (kq (by decide) : kd 198 = 21 ∧ 198 < NN) rfl rfl (cwV 1 hts gX10_trim_X10_changed rfl rfl rfl (by decide +kernel) ⟨Nat.le_of_ble_eq_true rfl, Nat.le_of_ble_eq_true rfl⟩) rfl hl.1 rfl (Nat.le_of_ble_eq_true rfl) dX10_trim_12 ⟨Nat.le_of_ble_eq_true rfl, Nat.le_of_ble_eq_true rfl⟩ (fun H locs B => ?_)
  cases ho
  exact e_i B hx hb hr hlocks rfl rfl dX10_trim_15

set_option maxHeartbeats 4000000 in
set_option maxRecDepth 100000 in
theorem c_X10_meets (l : Launch) (G : Gd) (σ : Mm) (sz : Nat) (a0 : Int32) {out : Int32} (ho : f_X10_meets a0 σ = some out) : Met l yX10_meets wsX10_meets { frames := 1, cells := 0, slots := 0, locals := 20 } (va_Pc [.ref (G.2.2 198), .int a0] (PW G σ sz)) (Qi G sz out σ) 0 0 (AA G sz) := by
  refine Met.ofW (cc := cX10_meets) (maxL := 3) (ret := (some .boolean)) (by decide) rfl ?_
  intro p e s m args below meth c s₁ B0 hml hv
  obtain ⟨rfl, hpw⟩ := hv
  have hsz := hpw.1
  subst hsz
  obtain ⟨F, B⟩ := hpw.to
  have hx := B0.exec
  have hb := B0.bytes
  have hr := B0.returns
  have hts := atoms_spec (ws := wsX10_meets) B0.pre
  have hown : s.vm.findClass RX10 = some m.cls := findClass_of_methodNamed B0.named
  have hlocks := B0.notSynchronized
  have S : CallFix p m c cX10_meets 3 s _ wsX10_meets RX10 := ⟨hx, hb, hml, hown, hts⟩
  have hiX10 : ∀ w ∈ u_ws RX10 TX10 21, w ∈ wsX10_meets := by decide +kernel
  have hl := lv_entry [.ref (G.2.2 198), .int a0] (n := 3) (Nat.le_of_ble_eq_true rfl)
  rw [lg_entry_eq]
  generalize (lg_sl [.ref (G.2.2 198), .int a0] ++ List.replicate (3 - (lg_sl [.ref (G.2.2 198), .int a0]).length) Slot.unset).toArray = ls at hl ⊢
  have hl : lv_has ls 3 [(0, .ref (G.2.2 198)), (1, .int a0)] := hl
  unfold f_X10_meets at ho
  refine lv_iload_n hx hb dX10_meets_0 rfl (lv_at hl 1 rfl) ?_
  obtain ⟨q1, hq1, ho⟩ := bnd_ ho
  refine k_iS (As := [.int a0]) (rest := []) S F B (c_X10_visitorAt l G σ _ a0 hq1) (va_cwS 1 hts gX10_meets_X10_visitorAt rfl rfl rfl (by decide +kernel) ⟨Nat.le_of_ble_eq_true rfl, Nat.le_of_ble_eq_true rfl⟩) rfl hl.1 rfl (Nat.le_of_ble_eq_true rfl) dX10_meets_1 ⟨Nat.le_of_ble_eq_true rfl, Nat.le_of_ble_eq_true rfl⟩ (fun H locs B => ?_)
  refine lv_istore_n (lv' := [(2, .int q1), (0, .ref (G.2.2 198)), (1, .int a0)]) hx hb dX10_meets_4 rfl hl (by decide) rfl (fun ls hl => ?_)
  refine lv_aload_n hx hb dX10_meets_5 rfl (lv_at hl 1 rfl) ?_
  refine r_get (ci := 14) (C := RX10) (T := TX10) (N := 21) S F B (kq (by decide) : kd 198 = 21 ∧ 198 < NN) rfl rfl hiX10 0 (by decide) (by decide +kernel) rfl dX10_meets_6 ?_
  refine lv_iload_n hx hb dX10_meets_9 rfl (lv_at hl 0 rfl) ?_
  refine lv_bipush (v := 7) hx hb dX10_meets_10 (by decide) ?_
  refine lv_iadd hx hb dX10_meets_12 ?_
  obtain ⟨hi, ho⟩ := gd_ ho
  refine r_iald S F B (kq (by decide) : kd 199 = 22 ∧ 199 < NN) rfl hi dX10_meets_13 ?_
  refine lv_if_ne (tgt := 38) hx hb dX10_meets_14 (by decide) (fun c2 => ?_) (fun c2 => ?_)
  · have ho := in_ c2 ho
    refine lv_iconst (v := 0) hx hb dX10_meets_38 (by decide) ?_
    cases ho
    exact e_i B hx hb hr hlocks rfl rfl dX10_meets_39
  · have ho := ip_ c2 ho
    refine lv_aload_n hx hb dX10_meets_17 rfl (lv_at hl 1 rfl) ?_
    refine r_get (ci := 14) (C := RX10) (T := TX10) (N := 21) S F B (kq (by decide) : kd 198 = 21 ∧ 198 < NN) rfl rfl hiX10 0 (by decide) (by decide +kernel) rfl dX10_meets_18 ?_
    refine lv_iload_n hx hb dX10_meets_21 rfl (lv_at hl 0 rfl) ?_
    refine lv_iconst (v := 1) hx hb dX10_meets_22 (by decide) ?_
    refine lv_iadd hx hb dX10_meets_23 ?_
    obtain ⟨hi, ho⟩ := gd_ ho
    refine r_iald S F B (kq (by decide) : kd 199 = 22 ∧ 199 < NN) rfl hi dX10_meets_24 ?_
    refine lv_aload_n hx hb dX10_meets_25 rfl (lv_at hl 1 rfl) ?_
    refine r_get (ci := 14) (C := RX10) (T := TX10) (N := 21) S F B (kq (by decide) : kd 198 = 21 ∧ 198 < NN) rfl rfl hiX10 0 (by decide) (by decide +kernel) rfl dX10_meets_26 ?_
    refine lv_iconst (v := 2) hx hb dX10_meets_29 (by decide) ?_
    refine r_ialdc (j := 2) S F B (kq (by decide) : kd 199 = 22 ∧ 199 < NN) rfl (vpc (by decide)) (by decide) dX10_meets_30 ?_
    refine lv_icmp_ne (tgt := 38) hx hb dX10_meets_31 (by decide) (fun c3 => ?_) (fun c3 => ?_)
    · have ho := in_ c3 ho
      refine lv_iconst (v := 0) hx hb dX10_meets_38 (by decide) ?_
      cases ho
      exact e_i B hx hb hr hlocks rfl rfl dX10_meets_39
    · have ho := ip_ c3 ho
      refine lv_iconst (v := 1) hx hb dX10_meets_34 (by decide) ?_
      refine lv_goto (tgt := 39) hx hb dX10_meets_35 (by decide) ?_
      cases ho
      exact e_i B hx hb hr hlocks rfl rfl dX10_meets_39

set_option maxHeartbeats 4000000 in
set_option maxRecDepth 100000 in
theorem c_X10_minotaurIt (l : Launch) (G : Gd) (σ : Mm) (sz : Nat) (a0 : Int32) {out : Int32 × Mm} (ho : f_X10_minotaurIt a0 σ = some out) : Met l yX10_minotaurIt wsX10_minotaurIt { frames := 2, cells := 0, slots := 0, locals := 43 } (va_Pc [.ref (G.2.2 198), .int a0] (PW G σ sz)) (Qi G sz out.1 out.2) 0 0 (AA G sz) := by
  refine Met.ofW (cc := cX10_minotaurIt) (maxL := 5) (ret := (some .int)) (by decide) rfl ?_
  intro p e s m args below meth c s₁ B0 hml hv
  obtain ⟨rfl, hpw⟩ := hv
  have hsz := hpw.1
  subst hsz
  obtain ⟨F, B⟩ := hpw.to
  have hx := B0.exec
  have hb := B0.bytes
  have hr := B0.returns
  have hts := atoms_spec (ws := wsX10_minotaurIt) B0.pre
  have hown : s.vm.findClass RX10 = some m.cls := findClass_of_methodNamed B0.named
  have hlocks := B0.notSynchronized
  have S : CallFix p m c cX10_minotaurIt 5 s _ wsX10_minotaurIt RX10 := ⟨hx, hb, hml, hown, hts⟩
  have hiX10 : ∀ w ∈ u_ws RX10 TX10 21, w ∈ wsX10_minotaurIt := by decide +kernel
  have hl := lv_entry [.ref (G.2.2 198), .int a0] (n := 5) (Nat.le_of_ble_eq_true rfl)
  rw [lg_entry_eq]
  generalize (lg_sl [.ref (G.2.2 198), .int a0] ++ List.replicate (5 - (lg_sl [.ref (G.2.2 198), .int a0]).length) Slot.unset).toArray = ls at hl ⊢
  have hl : lv_has ls 5 [(0, .ref (G.2.2 198)), (1, .int a0)] := hl
  unfold f_X10_minotaurIt at ho
  skip
  refine lv_iload_n hx hb dX10_minotaurIt_0 rfl (lv_at hl 1 rfl) ?_
  refine lv_i2l hx hb dX10_minotaurIt_1 rfl ?_
  refine lv_ldc2 (v := (-1)) hx hb hown (hts _ (by decide +kernel)) dX10_minotaurIt_2 ?_
  refine lv_ldc2 (v := 15) hx hb hown (hts _ (by decide +kernel)) dX10_minotaurIt_5 ?_
  obtain ⟨q1, hq1, ho⟩ := bnd_ ho
  refine k_iS (As := [.long a0.toInt64, .long (-1), .long 15]) (rest := []) S F B (c_X10_in l G σ _ a0.toInt64 (-1) 15 hq1) (va_cwS 3 hts gX10_minotaurIt_X10_in rfl rfl rfl (by decide +kernel) ⟨Nat.le_of_ble_eq_true rfl, Nat.le_of_ble_eq_true rfl⟩) rfl hl.1 rfl (Nat.le_of_ble_eq_true rfl) dX10_minotaurIt_8 ⟨Nat.le_of_ble_eq_true rfl, Nat.le_of_ble_eq_true rfl⟩ (fun H locs B => ?_)
  refine lv_if_ne (tgt := 21) hx hb dX10_minotaurIt_11 (by decide) (fun c2 => ?_) (fun c2 => ?_)
  · have ho := in_ c2 ho
    refine lv_aload_n hx hb dX10_minotaurIt_21 rfl (lv_at hl 0 rfl) ?_
    refine r_get (ci := 14) (C := RX10) (T := TX10) (N := 21) S F B (kq (by decide) : kd 198 = 21 ∧ 198 < NN) rfl rfl hiX10 0 (by decide) (by decide +kernel) rfl dX10_minotaurIt_22 ?_
    refine lv_iconst (v := 2) hx hb dX10_minotaurIt_25 (by decide) ?_
    refine r_ialdc (j := 2) S F B (kq (by decide) : kd 199 = 22 ∧ 199 < NN) rfl (vpc (by decide)) (by decide) dX10_minotaurIt_26 ?_
    refine lv_iload_n hx hb dX10_minotaurIt_27 rfl (lv_at hl 1 rfl) ?_
    refine lv_icmp_ne (tgt := 38) hx hb dX10_minotaurIt_28 (by decide) (fun c3 => ?_) (fun c3 => ?_)
    · have ho := in_ c3 ho
      refine lv_aload_n hx hb dX10_minotaurIt_38 rfl (lv_at hl 0 rfl) ?_
      refine r_get (ci := 14) (C := RX10) (T := TX10) (N := 21) S F B (kq (by decide) : kd 198 = 21 ∧ 198 < NN) rfl rfl hiX10 0 (by decide) (by decide +kernel) rfl dX10_minotaurIt_39 ?_
      refine lv_iconst (v := 2) hx hb dX10_minotaurIt_42 (by decide) ?_
      refine lv_iload_n hx hb dX10_minotaurIt_43 rfl (lv_at hl 1 rfl) ?_
      refine r_iastc (j := 2) S F B (kq (by decide) : kd 199 = 22 ∧ 199 < NN) (fun _ => rfl) (vpc (by decide)) (by decide) dX10_minotaurIt_44 (fun H locs B => ?_)
      obtain ⟨σ4, eσ4, ho⟩ := lt_ ho
      rw [← eσ4] at B
      refine lv_iconst (v := 0) hx hb dX10_minotaurIt_45 (by decide) ?_
      refine lv_istore_n (lv' := [(2, .int 0), (0, .ref (G.2.2 198)), (1, .int a0)]) hx hb dX10_minotaurIt_46 rfl hl (by decide) rfl (fun ls hl => ?_)
      refine lv_iconst (v := 0) hx hb dX10_minotaurIt_47 (by decide) ?_
      refine lv_istore_n (lv' := [(3, .int 0), (2, .int 0), (0, .ref (G.2.2 198)), (1, .int a0)]) hx hb dX10_minotaurIt_48 rfl hl (by decide) rfl (fun ls hl => ?_)
      have hloop49 : ∀ (n : Nat) (v9 : Int32) (v10 : Int32) (σ11 : Mm) (H : Heap) (locs : List Loc) (ls : Array Slot), f_X10_minotaurIt_l49  a0 n v9 v10 σ11 = some out → Bd G σ11 s H locs → lv_has ls 5 [(3, .int v9), (2, .int v10), (0, .ref (G.2.2 198)), (1, .int a0)] → W p l e (headSpec wsX10_minotaurIt { frames := 2, cells := 0, slots := 0, locals := 43 }).room s m #[.ref (G.2.2 198), .int a0] below meth c H locs 0 0 (MQ below (Qi G s.heap.size out.1 out.2) #[.ref (G.2.2 198), .int a0] s 0 0 (AA G s.heap.size)) (F0 m 49 ls []) := by
        intro n
        induction n with
        | zero => intro v9 v10 σ11 H locs ls ho B hl; cases ho
        | succ n ih =>
          intro v9 v10 σ11 H locs ls ho B hl
          refine lv_iload_n hx hb dX10_minotaurIt_49 rfl (lv_at hl 0 rfl) ?_
          refine lv_aload_n hx hb dX10_minotaurIt_50 rfl (lv_at hl 2 rfl) ?_
          refine r_get (ci := 14) (C := RX10) (T := TX10) (N := 21) S F B (kq (by decide) : kd 198 = 21 ∧ 198 < NN) rfl rfl hiX10 0 (by decide) (by decide +kernel) rfl dX10_minotaurIt_51 ?_
          refine lv_iconst (v := 1) hx hb dX10_minotaurIt_54 (by decide) ?_
          refine r_ialdc (j := 1) S F B (kq (by decide) : kd 199 = 22 ∧ 199 < NN) rfl (vpc (by decide)) (by decide) dX10_minotaurIt_55 ?_
          refine lv_icmp_ge (tgt := 132) hx hb dX10_minotaurIt_56 (by decide) (fun c12 => ?_) (fun c12 => ?_)
          · have ho := ip_ c12 ho
            refine lv_iload_n hx hb dX10_minotaurIt_132 rfl (lv_at hl 1 rfl) ?_
            cases ho
            exact e_i B hx hb hr hlocks rfl rfl dX10_minotaurIt_133
          · have ho := in_ c12 ho
            refine lv_aload_n hx hb dX10_minotaurIt_59 rfl (lv_at hl 2 rfl) ?_
            refine lv_iload_n hx hb dX10_minotaurIt_60 rfl (lv_at hl 0 rfl) ?_
            obtain ⟨q13, hq13, ho⟩ := bnd_ ho
            refine k_iV (As := [.int v9]) (rest := []) S F B (c_X10_meets l G σ11 _ v9 hq13) (kq (by decide) : kd 198 = 21 ∧ 198 < NN) rfl rfl (cwV 1 hts gX10_minotaurIt_X10_meets rfl rfl rfl (by decide +kernel) ⟨Nat.le_of_ble_eq_true rfl, Nat.le_of_ble_eq_true rfl⟩) rfl hl.1 rfl (Nat.le_of_ble_eq_true rfl) dX10_minotaurIt_61 ⟨Nat.le_of_ble_eq_true rfl, Nat.le_of_ble_eq_true rfl⟩ (fun H locs B => ?_)
            refine lv_istore (lv' := [(4, .int q13), (3, .int v9), (2, .int v10), (0, .ref (G.2.2 198)), (1, .int a0)]) hx hb dX10_minotaurIt_64 hl (by decide) rfl (fun ls hl => ?_)
            refine lv_aload_n hx hb dX10_minotaurIt_66 rfl (lv_at hl 3 rfl) ?_
            refine r_get (ci := 14) (C := RX10) (T := TX10) (N := 21) S F B (kq (by decide) : kd 198 = 21 ∧ 198 < NN) rfl rfl hiX10 0 (by decide) (by decide +kernel) rfl dX10_minotaurIt_67 ?_
            refine lv_iload_n hx hb dX10_minotaurIt_70 rfl (lv_at hl 1 rfl) ?_
            obtain ⟨q14, hq14, ho⟩ := bnd_ ho
            refine k_iS (As := [.int v9]) (rest := [.ref (G.2.2 199)]) S F B (c_X10_visitorAt l G σ11 _ v9 hq14) (va_cwS 1 hts gX10_minotaurIt_X10_visitorAt rfl rfl rfl (by decide +kernel) ⟨Nat.le_of_ble_eq_true rfl, Nat.le_of_ble_eq_true rfl⟩) rfl hl.1 rfl (Nat.le_of_ble_eq_true rfl) dX10_minotaurIt_71 ⟨Nat.le_of_ble_eq_true rfl, Nat.le_of_ble_eq_true rfl⟩ (fun H locs B => ?_)
            refine lv_bipush (v := 6) hx hb dX10_minotaurIt_74 (by decide) ?_
            refine lv_iadd hx hb dX10_minotaurIt_76 ?_
            refine lv_iload hx hb dX10_minotaurIt_77 (lv_at hl 0 rfl) ?_
            refine lv_if_eq (tgt := 100) hx hb dX10_minotaurIt_79 (by decide) (fun c15 => ?_) (fun c15 => ?_)
            · have ho := ip_ c15 ho
              refine lv_aload_n hx hb dX10_minotaurIt_100 rfl (lv_at hl 3 rfl) ?_
              refine r_get (ci := 14) (C := RX10) (T := TX10) (N := 21) S F B (kq (by decide) : kd 198 = 21 ∧ 198 < NN) rfl rfl hiX10 0 (by decide) (by decide +kernel) rfl dX10_minotaurIt_101 ?_
              refine lv_iload_n hx hb dX10_minotaurIt_104 rfl (lv_at hl 1 rfl) ?_
              obtain ⟨q16, hq16, ho⟩ := bnd_ ho
              refine k_iS (As := [.int v9]) (rest := [.ref (G.2.2 199), .int (q14 + 6), .ref (G.2.2 199)]) S F B (c_X10_visitorAt l G σ11 _ v9 hq16) (va_cwS 1 hts gX10_minotaurIt_X10_visitorAt rfl rfl rfl (by decide +kernel) ⟨Nat.le_of_ble_eq_true rfl, Nat.le_of_ble_eq_true rfl⟩) rfl hl.1 rfl (Nat.le_of_ble_eq_true rfl) dX10_minotaurIt_105 ⟨Nat.le_of_ble_eq_true rfl, Nat.le_of_ble_eq_true rfl⟩ (fun H locs B => ?_)
              refine lv_bipush (v := 6) hx hb dX10_minotaurIt_108 (by decide) ?_
              refine lv_iadd hx hb dX10_minotaurIt_110 ?_
              obtain ⟨hi, ho⟩ := gd_ ho
              refine r_iald S F B (kq (by decide) : kd 199 = 22 ∧ 199 < NN) rfl hi dX10_minotaurIt_111 ?_
              obtain ⟨hi, ho⟩ := gd_ ho
              refine r_iast S F B (kq (by decide) : kd 199 = 22 ∧ 199 < NN) (fun _ => rfl) hi dX10_minotaurIt_112 (fun H locs B => ?_)
              obtain ⟨σ17, eσ17, ho⟩ := lt_ ho
              rw [← eσ17] at B
              refine lv_iload_n hx hb dX10_minotaurIt_113 rfl (lv_at hl 2 rfl) ?_
              refine lv_iload hx hb dX10_minotaurIt_114 (lv_at hl 0 rfl) ?_
              refine lv_if_eq (tgt := 123) hx hb dX10_minotaurIt_116 (by decide) (fun c18 => ?_) (fun c18 => ?_)
              · have ho := ip_ c18 ho
                refine lv_iconst (v := 0) hx hb dX10_minotaurIt_123 (by decide) ?_
                refine lv_iadd hx hb dX10_minotaurIt_124 ?_
                obtain ⟨x19, ex19, ho⟩ := lt_ ho
                refine lv_nm ex19 ?_
                refine lv_istore_n (lv' := [(2, .int x19), (4, .int q13), (3, .int v9), (0, .ref (G.2.2 198)), (1, .int a0)]) hx hb dX10_minotaurIt_125 rfl hl (by decide) rfl (fun ls hl => ?_)
                obtain ⟨x20, ex20, ho⟩ := lt_ ho
                refine lv_iinc (v := x20) (lv' := [(3, .int x20), (2, .int x19), (4, .int q13), (0, .ref (G.2.2 198)), (1, .int a0)]) hx hb dX10_minotaurIt_126 hl (k := 2) rfl (by rw [ex20]; rfl) (by decide) rfl (fun ls hl => ?_)
                refine lv_goto (tgt := 49) hx hb dX10_minotaurIt_129 (by decide) ?_
                exact ih _ _ _ _ _ _ ho B (lv_sub hl [0, 1, 3, 4] rfl)
              · have ho := in_ c18 ho
                refine lv_iconst (v := 1) hx hb dX10_minotaurIt_119 (by decide) ?_
                refine lv_goto (tgt := 124) hx hb dX10_minotaurIt_120 (by decide) ?_
                refine lv_iadd hx hb dX10_minotaurIt_124 ?_
                obtain ⟨x21, ex21, ho⟩ := lt_ ho
                refine lv_nm ex21 ?_
                refine lv_istore_n (lv' := [(2, .int x21), (4, .int q13), (3, .int v9), (0, .ref (G.2.2 198)), (1, .int a0)]) hx hb dX10_minotaurIt_125 rfl hl (by decide) rfl (fun ls hl => ?_)
                obtain ⟨x22, ex22, ho⟩ := lt_ ho
                refine lv_iinc (v := x22) (lv' := [(3, .int x22), (2, .int x21), (4, .int q13), (0, .ref (G.2.2 198)), (1, .int a0)]) hx hb dX10_minotaurIt_126 hl (k := 2) rfl (by rw [ex22]; rfl) (by decide) rfl (fun ls hl => ?_)
                refine lv_goto (tgt := 49) hx hb dX10_minotaurIt_129 (by decide) ?_
                exact ih _ _ _ _ _ _ ho B (lv_sub hl [0, 1, 3, 4] rfl)
            · have ho := in_ c15 ho
              refine lv_aload_n hx hb dX10_minotaurIt_82 rfl (lv_at hl 3 rfl) ?_
              refine r_get (ci := 14) (C := RX10) (T := TX10) (N := 21) S F B (kq (by decide) : kd 198 = 21 ∧ 198 < NN) rfl rfl hiX10 0 (by decide) (by decide +kernel) rfl dX10_minotaurIt_83 ?_
              refine lv_iload_n hx hb dX10_minotaurIt_86 rfl (lv_at hl 1 rfl) ?_
              obtain ⟨q23, hq23, ho⟩ := bnd_ ho
              refine k_iS (As := [.int v9]) (rest := [.ref (G.2.2 199), .int (q14 + 6), .ref (G.2.2 199)]) S F B (c_X10_visitorAt l G σ11 _ v9 hq23) (va_cwS 1 hts gX10_minotaurIt_X10_visitorAt rfl rfl rfl (by decide +kernel) ⟨Nat.le_of_ble_eq_true rfl, Nat.le_of_ble_eq_true rfl⟩) rfl hl.1 rfl (Nat.le_of_ble_eq_true rfl) dX10_minotaurIt_87 ⟨Nat.le_of_ble_eq_true rfl, Nat.le_of_ble_eq_true rfl⟩ (fun H locs B => ?_)
              refine lv_iconst (v := 5) hx hb dX10_minotaurIt_90 (by decide) ?_
              refine lv_iadd hx hb dX10_minotaurIt_91 ?_
              obtain ⟨hi, ho⟩ := gd_ ho
              refine r_iald S F B (kq (by decide) : kd 199 = 22 ∧ 199 < NN) rfl hi dX10_minotaurIt_92 ?_
              refine lv_if_le (tgt := 100) hx hb dX10_minotaurIt_93 (by decide) (fun c24 => ?_) (fun c24 => ?_)
              · have ho := ip_ c24 ho
                refine lv_aload_n hx hb dX10_minotaurIt_100 rfl (lv_at hl 3 rfl) ?_
                refine r_get (ci := 14) (C := RX10) (T := TX10) (N := 21) S F B (kq (by decide) : kd 198 = 21 ∧ 198 < NN) rfl rfl hiX10 0 (by decide) (by decide +kernel) rfl dX10_minotaurIt_101 ?_
                refine lv_iload_n hx hb dX10_minotaurIt_104 rfl (lv_at hl 1 rfl) ?_
                obtain ⟨q25, hq25, ho⟩ := bnd_ ho
                refine k_iS (As := [.int v9]) (rest := [.ref (G.2.2 199), .int (q14 + 6), .ref (G.2.2 199)]) S F B (c_X10_visitorAt l G σ11 _ v9 hq25) (va_cwS 1 hts gX10_minotaurIt_X10_visitorAt rfl rfl rfl (by decide +kernel) ⟨Nat.le_of_ble_eq_true rfl, Nat.le_of_ble_eq_true rfl⟩) rfl hl.1 rfl (Nat.le_of_ble_eq_true rfl) dX10_minotaurIt_105 ⟨Nat.le_of_ble_eq_true rfl, Nat.le_of_ble_eq_true rfl⟩ (fun H locs B => ?_)
                refine lv_bipush (v := 6) hx hb dX10_minotaurIt_108 (by decide) ?_
                refine lv_iadd hx hb dX10_minotaurIt_110 ?_
                obtain ⟨hi, ho⟩ := gd_ ho
                refine r_iald S F B (kq (by decide) : kd 199 = 22 ∧ 199 < NN) rfl hi dX10_minotaurIt_111 ?_
                obtain ⟨hi, ho⟩ := gd_ ho
                refine r_iast S F B (kq (by decide) : kd 199 = 22 ∧ 199 < NN) (fun _ => rfl) hi dX10_minotaurIt_112 (fun H locs B => ?_)
                obtain ⟨σ26, eσ26, ho⟩ := lt_ ho
                rw [← eσ26] at B
                refine lv_iload_n hx hb dX10_minotaurIt_113 rfl (lv_at hl 2 rfl) ?_
                refine lv_iload hx hb dX10_minotaurIt_114 (lv_at hl 0 rfl) ?_
                refine lv_if_eq (tgt := 123) hx hb dX10_minotaurIt_116 (by decide) (fun c27 => ?_) (fun c27 => ?_)
                · have ho := ip_ c27 ho
                  refine lv_iconst (v := 0) hx hb dX10_minotaurIt_123 (by decide) ?_
                  refine lv_iadd hx hb dX10_minotaurIt_124 ?_
                  obtain ⟨x28, ex28, ho⟩ := lt_ ho
                  refine lv_nm ex28 ?_
                  refine lv_istore_n (lv' := [(2, .int x28), (4, .int q13), (3, .int v9), (0, .ref (G.2.2 198)), (1, .int a0)]) hx hb dX10_minotaurIt_125 rfl hl (by decide) rfl (fun ls hl => ?_)
                  obtain ⟨x29, ex29, ho⟩ := lt_ ho
                  refine lv_iinc (v := x29) (lv' := [(3, .int x29), (2, .int x28), (4, .int q13), (0, .ref (G.2.2 198)), (1, .int a0)]) hx hb dX10_minotaurIt_126 hl (k := 2) rfl (by rw [ex29]; rfl) (by decide) rfl (fun ls hl => ?_)
                  refine lv_goto (tgt := 49) hx hb dX10_minotaurIt_129 (by decide) ?_
                  exact ih _ _ _ _ _ _ ho B (lv_sub hl [0, 1, 3, 4] rfl)
                · have ho := in_ c27 ho
                  refine lv_iconst (v := 1) hx hb dX10_minotaurIt_119 (by decide) ?_
                  refine lv_goto (tgt := 124) hx hb dX10_minotaurIt_120 (by decide) ?_
                  refine lv_iadd hx hb dX10_minotaurIt_124 ?_
                  obtain ⟨x30, ex30, ho⟩ := lt_ ho
                  refine lv_nm ex30 ?_
                  refine lv_istore_n (lv' := [(2, .int x30), (4, .int q13), (3, .int v9), (0, .ref (G.2.2 198)), (1, .int a0)]) hx hb dX10_minotaurIt_125 rfl hl (by decide) rfl (fun ls hl => ?_)
                  obtain ⟨x31, ex31, ho⟩ := lt_ ho
                  refine lv_iinc (v := x31) (lv' := [(3, .int x31), (2, .int x30), (4, .int q13), (0, .ref (G.2.2 198)), (1, .int a0)]) hx hb dX10_minotaurIt_126 hl (k := 2) rfl (by rw [ex31]; rfl) (by decide) rfl (fun ls hl => ?_)
                  refine lv_goto (tgt := 49) hx hb dX10_minotaurIt_129 (by decide) ?_
                  exact ih _ _ _ _ _ _ ho B (lv_sub hl [0, 1, 3, 4] rfl)
              · have ho := in_ c24 ho
                refine lv_iconst (v := 1) hx hb dX10_minotaurIt_96 (by decide) ?_
                refine lv_goto (tgt := 112) hx hb dX10_minotaurIt_97 (by decide) ?_
                obtain ⟨hi, ho⟩ := gd_ ho
                refine r_iast S F B (kq (by decide) : kd 199 = 22 ∧ 199 < NN) (fun _ => rfl) hi dX10_minotaurIt_112 (fun H locs B => ?_)
                obtain ⟨σ32, eσ32, ho⟩ := lt_ ho
                rw [← eσ32] at B
                refine lv_iload_n hx hb dX10_minotaurIt_113 rfl (lv_at hl 2 rfl) ?_
                refine lv_iload hx hb dX10_minotaurIt_114 (lv_at hl 0 rfl) ?_
                refine lv_if_eq (tgt := 123) hx hb dX10_minotaurIt_116 (by decide) (fun c33 => ?_) (fun c33 => ?_)
                · have ho := ip_ c33 ho
                  refine lv_iconst (v := 0) hx hb dX10_minotaurIt_123 (by decide) ?_
                  refine lv_iadd hx hb dX10_minotaurIt_124 ?_
                  obtain ⟨x34, ex34, ho⟩ := lt_ ho
                  refine lv_nm ex34 ?_
                  refine lv_istore_n (lv' := [(2, .int x34), (4, .int q13), (3, .int v9), (0, .ref (G.2.2 198)), (1, .int a0)]) hx hb dX10_minotaurIt_125 rfl hl (by decide) rfl (fun ls hl => ?_)
                  obtain ⟨x35, ex35, ho⟩ := lt_ ho
                  refine lv_iinc (v := x35) (lv' := [(3, .int x35), (2, .int x34), (4, .int q13), (0, .ref (G.2.2 198)), (1, .int a0)]) hx hb dX10_minotaurIt_126 hl (k := 2) rfl (by rw [ex35]; rfl) (by decide) rfl (fun ls hl => ?_)
                  refine lv_goto (tgt := 49) hx hb dX10_minotaurIt_129 (by decide) ?_
                  exact ih _ _ _ _ _ _ ho B (lv_sub hl [0, 1, 3, 4] rfl)
                · have ho := in_ c33 ho
                  refine lv_iconst (v := 1) hx hb dX10_minotaurIt_119 (by decide) ?_
                  refine lv_goto (tgt := 124) hx hb dX10_minotaurIt_120 (by decide) ?_
                  refine lv_iadd hx hb dX10_minotaurIt_124 ?_
                  obtain ⟨x36, ex36, ho⟩ := lt_ ho
                  refine lv_nm ex36 ?_
                  refine lv_istore_n (lv' := [(2, .int x36), (4, .int q13), (3, .int v9), (0, .ref (G.2.2 198)), (1, .int a0)]) hx hb dX10_minotaurIt_125 rfl hl (by decide) rfl (fun ls hl => ?_)
                  obtain ⟨x37, ex37, ho⟩ := lt_ ho
                  refine lv_iinc (v := x37) (lv' := [(3, .int x37), (2, .int x36), (4, .int q13), (0, .ref (G.2.2 198)), (1, .int a0)]) hx hb dX10_minotaurIt_126 hl (k := 2) rfl (by rw [ex37]; rfl) (by decide) rfl (fun ls hl => ?_)
                  refine lv_goto (tgt := 49) hx hb dX10_minotaurIt_129 (by decide) ?_
                  exact ih _ _ _ _ _ _ ho B (lv_sub hl [0, 1, 3, 4] rfl)
      exact hloop49 8 _ _ _ _ _ _ ho B hl
    · have ho := ip_ c3 ho
      refine lv_aload_n hx hb dX10_minotaurIt_31 rfl (lv_at hl 0 rfl) ?_
      refine lv_iconst (v := 3) hx hb dX10_minotaurIt_32 (by decide) ?_
      refine lv_iload_n hx hb dX10_minotaurIt_33 rfl (lv_at hl 1 rfl) ?_
      obtain ⟨q38, σ39, hq38, ho⟩ := bnm_ ho
      refine k_iV (As := [.int 3, .int a0]) (rest := []) S F B (c_X10_refuse l G σ _ 3 a0 hq38) (kq (by decide) : kd 198 = 21 ∧ 198 < NN) rfl rfl (cwV 2 hts gX10_minotaurIt_X10_refuse rfl rfl rfl (by decide +kernel) ⟨Nat.le_of_ble_eq_true rfl, Nat.le_of_ble_eq_true rfl⟩) rfl hl.1 rfl (Nat.le_of_ble_eq_true rfl) dX10_minotaurIt_34 ⟨Nat.le_of_ble_eq_true rfl, Nat.le_of_ble_eq_true rfl⟩ (fun H locs B => ?_)
      cases ho
      exact e_i B hx hb hr hlocks rfl rfl dX10_minotaurIt_37
  · have ho := ip_ c2 ho
    refine lv_aload_n hx hb dX10_minotaurIt_14 rfl (lv_at hl 0 rfl) ?_
    refine lv_iconst (v := 1) hx hb dX10_minotaurIt_15 (by decide) ?_
    refine lv_iconst (v := 0) hx hb dX10_minotaurIt_16 (by decide) ?_
    obtain ⟨q40, σ41, hq40, ho⟩ := bnm_ ho
    refine k_iV (As := [.int 1, .int 0]) (rest := []) S F B (c_X10_refuse l G σ _ 1 0 hq40) (kq (by decide) : kd 198 = 21 ∧ 198 < NN) rfl rfl (cwV 2 hts gX10_minotaurIt_X10_refuse rfl rfl rfl (by decide +kernel) ⟨Nat.le_of_ble_eq_true rfl, Nat.le_of_ble_eq_true rfl⟩) rfl hl.1 rfl (Nat.le_of_ble_eq_true rfl) dX10_minotaurIt_17 ⟨Nat.le_of_ble_eq_true rfl, Nat.le_of_ble_eq_true rfl⟩ (fun H locs B => ?_)
    cases ho
    exact e_i B hx hb hr hlocks rfl rfl dX10_minotaurIt_20

set_option maxHeartbeats 4000000 in
set_option maxRecDepth 100000 in
theorem c_X10_minotaur (l : Launch) (G : Gd) (σ : Mm) (sz : Nat) (a0 : Int32) {out : Int32 × Mm} (ho : f_X10_minotaur a0 σ = some out) : Met l yX10_minotaur wsX10_minotaur { frames := 3, cells := 0, slots := 0, locals := 67 } (va_Pc [.ref (G.2.2 198), .int a0] (PW G σ sz)) (Qi G sz out.1 out.2) 0 0 (AA G sz) := by
  refine Met.ofW (cc := cX10_minotaur) (maxL := 2) (ret := (some .int)) (by decide) rfl ?_
  intro p e s m args below meth c s₁ B0 hml hv
  obtain ⟨rfl, hpw⟩ := hv
  have hsz := hpw.1
  subst hsz
  obtain ⟨F, B⟩ := hpw.to
  have hx := B0.exec
  have hb := B0.bytes
  have hr := B0.returns
  have hts := atoms_spec (ws := wsX10_minotaur) B0.pre
  have hown : s.vm.findClass RX10 = some m.cls := findClass_of_methodNamed B0.named
  have hlocks := B0.notSynchronized
  have S : CallFix p m c cX10_minotaur 2 s _ wsX10_minotaur RX10 := ⟨hx, hb, hml, hown, hts⟩
  have hl := lv_entry [.ref (G.2.2 198), .int a0] (n := 2) (Nat.le_of_ble_eq_true rfl)
  rw [lg_entry_eq]
  generalize (lg_sl [.ref (G.2.2 198), .int a0] ++ List.replicate (2 - (lg_sl [.ref (G.2.2 198), .int a0]).length) Slot.unset).toArray = ls at hl ⊢
  have hl : lv_has ls 2 [(0, .ref (G.2.2 198)), (1, .int a0)] := hl
  unfold f_X10_minotaur at ho
  refine lv_aload_n hx hb dX10_minotaur_0 rfl (lv_at hl 0 rfl) ?_
  obtain ⟨σ2, hq1, ho⟩ := bnd_ ho
  refine k_vV (As := []) (rest := []) S F B (c_X10_starts l G σ _ hq1) (kq (by decide) : kd 198 = 21 ∧ 198 < NN) rfl rfl (cwV 0 hts gX10_minotaur_X10_starts rfl rfl rfl (by decide +kernel) ⟨Nat.le_of_ble_eq_true rfl, Nat.le_of_ble_eq_true rfl⟩) rfl hl.1 rfl (Nat.le_of_ble_eq_true rfl) dX10_minotaur_1 ⟨Nat.le_of_ble_eq_true rfl, Nat.le_of_ble_eq_true rfl⟩ (fun H locs B => ?_)
  refine lv_aload_n hx hb dX10_minotaur_4 rfl (lv_at hl 0 rfl) ?_
  refine lv_aload_n hx hb dX10_minotaur_5 rfl (lv_at hl 0 rfl) ?_
  refine lv_iload_n hx hb dX10_minotaur_6 rfl (lv_at hl 1 rfl) ?_
  obtain ⟨q3, σ4, hq3, ho⟩ := bnm_ ho
  refine k_iV (As := [.int a0]) (rest := [.ref (G.2.2 198)]) S F B (c_X10_minotaurIt l G σ2 _ a0 hq3) (kq (by decide) : kd 198 = 21 ∧ 198 < NN) rfl rfl (cwV 1 hts gX10_minotaur_X10_minotaurIt rfl rfl rfl (by decide +kernel) ⟨Nat.le_of_ble_eq_true rfl, Nat.le_of_ble_eq_true rfl⟩) rfl hl.1 rfl (Nat.le_of_ble_eq_true rfl) dX10_minotaur_7 ⟨Nat.le_of_ble_eq_true rfl, Nat.le_of_ble_eq_true rfl⟩ (fun H locs B => ?_)
  obtain ⟨q5, σ6, hq5, ho⟩ := bnm_ ho
  refine k_iV (As := [.int q3]) (rest := []) S F B (c_X10_changed l G σ4 _ q3 hq5) (kq (by decide) : kd 198 = 21 ∧ 198 < NN) rfl rfl (cwV 1 hts gX10_minotaur_X10_changed rfl rfl rfl (by decide +kernel) ⟨Nat.le_of_ble_eq_true rfl, Nat.le_of_ble_eq_true rfl⟩) rfl hl.1 rfl (Nat.le_of_ble_eq_true rfl) dX10_minotaur_10 ⟨Nat.le_of_ble_eq_true rfl, Nat.le_of_ble_eq_true rfl⟩ (fun H locs B => ?_)
  cases ho
  exact e_i B hx hb hr hlocks rfl rfl dX10_minotaur_13

set_option maxHeartbeats 4000000 in
set_option maxRecDepth 100000 in
theorem c_X10_gardenerIt (l : Launch) (G : Gd) (σ : Mm) (sz : Nat) (a0 : Int32) {out : Int32 × Mm} (ho : f_X10_gardenerIt a0 σ = some out) : Met l yX10_gardenerIt wsX10_gardenerIt { frames := 2, cells := 0, slots := 0, locals := 43 } (va_Pc [.ref (G.2.2 198), .int a0] (PW G σ sz)) (Qi G sz out.1 out.2) 0 0 (AA G sz) := by
  refine Met.ofW (cc := cX10_gardenerIt) (maxL := 2) (ret := (some .int)) (by decide) rfl ?_
  intro p e s m args below meth c s₁ B0 hml hv
  obtain ⟨rfl, hpw⟩ := hv
  have hsz := hpw.1
  subst hsz
  obtain ⟨F, B⟩ := hpw.to
  have hx := B0.exec
  have hb := B0.bytes
  have hr := B0.returns
  have hts := atoms_spec (ws := wsX10_gardenerIt) B0.pre
  have hown : s.vm.findClass RX10 = some m.cls := findClass_of_methodNamed B0.named
  have hlocks := B0.notSynchronized
  have S : CallFix p m c cX10_gardenerIt 2 s _ wsX10_gardenerIt RX10 := ⟨hx, hb, hml, hown, hts⟩
  have hiX10 : ∀ w ∈ u_ws RX10 TX10 21, w ∈ wsX10_gardenerIt := by decide +kernel
  have hl := lv_entry [.ref (G.2.2 198), .int a0] (n := 2) (Nat.le_of_ble_eq_true rfl)
  rw [lg_entry_eq]
  generalize (lg_sl [.ref (G.2.2 198), .int a0] ++ List.replicate (2 - (lg_sl [.ref (G.2.2 198), .int a0]).length) Slot.unset).toArray = ls at hl ⊢
  have hl : lv_has ls 2 [(0, .ref (G.2.2 198)), (1, .int a0)] := hl
  unfold f_X10_gardenerIt at ho
  refine lv_iload_n hx hb dX10_gardenerIt_0 rfl (lv_at hl 1 rfl) ?_
  refine lv_i2l hx hb dX10_gardenerIt_1 rfl ?_
  refine lv_lconst (v := 0) hx hb dX10_gardenerIt_2 (by decide) ?_
  refine lv_ldc2 (v := 99) hx hb hown (hts _ (by decide +kernel)) dX10_gardenerIt_3 ?_
  obtain ⟨q1, hq1, ho⟩ := bnd_ ho
  refine k_iS (As := [.long a0.toInt64, .long 0, .long 99]) (rest := []) S F B (c_X10_in l G σ _ a0.toInt64 0 99 hq1) (va_cwS 3 hts gX10_gardenerIt_X10_in rfl rfl rfl (by decide +kernel) ⟨Nat.le_of_ble_eq_true rfl, Nat.le_of_ble_eq_true rfl⟩) rfl hl.1 rfl (Nat.le_of_ble_eq_true rfl) dX10_gardenerIt_6 ⟨Nat.le_of_ble_eq_true rfl, Nat.le_of_ble_eq_true rfl⟩ (fun H locs B => ?_)
  refine lv_if_ne (tgt := 19) hx hb dX10_gardenerIt_9 (by decide) (fun c2 => ?_) (fun c2 => ?_)
  · have ho := in_ c2 ho
    refine lv_aload_n hx hb dX10_gardenerIt_19 rfl (lv_at hl 0 rfl) ?_
    refine r_get (ci := 14) (C := RX10) (T := TX10) (N := 21) S F B (kq (by decide) : kd 198 = 21 ∧ 198 < NN) rfl rfl hiX10 0 (by decide) (by decide +kernel) rfl dX10_gardenerIt_20 ?_
    refine lv_iconst (v := 0) hx hb dX10_gardenerIt_23 (by decide) ?_
    refine r_ialdc (j := 0) S F B (kq (by decide) : kd 199 = 22 ∧ 199 < NN) rfl (vpc (by decide)) (by decide) dX10_gardenerIt_24 ?_
    refine lv_iconst (v := 4) hx hb dX10_gardenerIt_25 (by decide) ?_
    refine lv_icmp_ne (tgt := 37) hx hb dX10_gardenerIt_26 (by decide) (fun c3 => ?_) (fun c3 => ?_)
    · have ho := in_ c3 ho
      refine lv_aload_n hx hb dX10_gardenerIt_37 rfl (lv_at hl 0 rfl) ?_
      refine r_get (ci := 14) (C := RX10) (T := TX10) (N := 21) S F B (kq (by decide) : kd 198 = 21 ∧ 198 < NN) rfl rfl hiX10 0 (by decide) (by decide +kernel) rfl dX10_gardenerIt_38 ?_
      refine lv_aload_n hx hb dX10_gardenerIt_41 rfl (lv_at hl 0 rfl) ?_
      refine r_get (ci := 14) (C := RX10) (T := TX10) (N := 21) S F B (kq (by decide) : kd 198 = 21 ∧ 198 < NN) rfl rfl hiX10 0 (by decide) (by decide +kernel) rfl dX10_gardenerIt_42 ?_
      refine lv_iconst (v := 0) hx hb dX10_gardenerIt_45 (by decide) ?_
      refine r_ialdc (j := 0) S F B (kq (by decide) : kd 199 = 22 ∧ 199 < NN) rfl (vpc (by decide)) (by decide) dX10_gardenerIt_46 ?_
      obtain ⟨q4, hq4, ho⟩ := bnd_ ho
      refine k_iS (As := [.int (σ 199 0)]) (rest := [.ref (G.2.2 199)]) S F B (c_X10_gardenerAt l G σ _ (σ 199 0) hq4) (va_cwS 1 hts gX10_gardenerIt_X10_gardenerAt rfl rfl rfl (by decide +kernel) ⟨Nat.le_of_ble_eq_true rfl, Nat.le_of_ble_eq_true rfl⟩) rfl hl.1 rfl (Nat.le_of_ble_eq_true rfl) dX10_gardenerIt_47 ⟨Nat.le_of_ble_eq_true rfl, Nat.le_of_ble_eq_true rfl⟩ (fun H locs B => ?_)
      refine lv_iload_n hx hb dX10_gardenerIt_50 rfl (lv_at hl 1 rfl) ?_
      obtain ⟨hi, ho⟩ := gd_ ho
      refine r_iast S F B (kq (by decide) : kd 199 = 22 ∧ 199 < NN) (fun _ => rfl) hi dX10_gardenerIt_51 (fun H locs B => ?_)
      obtain ⟨σ5, eσ5, ho⟩ := lt_ ho
      rw [← eσ5] at B
      refine lv_aload_n hx hb dX10_gardenerIt_52 rfl (lv_at hl 0 rfl) ?_
      refine r_get (ci := 14) (C := RX10) (T := TX10) (N := 21) S F B (kq (by decide) : kd 198 = 21 ∧ 198 < NN) rfl rfl hiX10 0 (by decide) (by decide +kernel) rfl dX10_gardenerIt_53 ?_
      refine lv_iconst (v := 4) hx hb dX10_gardenerIt_56 (by decide) ?_
      refine lv_dup2_11 hx hb dX10_gardenerIt_57 rfl rfl ?_
      refine r_ialdc (j := 4) S F B (kq (by decide) : kd 199 = 22 ∧ 199 < NN) rfl (vpc (by decide)) (by decide) dX10_gardenerIt_58 ?_
      refine lv_iload_n hx hb dX10_gardenerIt_59 rfl (lv_at hl 1 rfl) ?_
      refine lv_iadd hx hb dX10_gardenerIt_60 ?_
      refine r_iastc (j := 4) S F B (kq (by decide) : kd 199 = 22 ∧ 199 < NN) (fun _ => rfl) (vpc (by decide)) (by decide) dX10_gardenerIt_61 (fun H locs B => ?_)
      obtain ⟨σ6, eσ6, ho⟩ := lt_ ho
      rw [← eσ6] at B
      refine lv_aload_n hx hb dX10_gardenerIt_62 rfl (lv_at hl 0 rfl) ?_
      refine r_get (ci := 14) (C := RX10) (T := TX10) (N := 21) S F B (kq (by decide) : kd 198 = 21 ∧ 198 < NN) rfl rfl hiX10 0 (by decide) (by decide +kernel) rfl dX10_gardenerIt_63 ?_
      refine lv_iconst (v := 0) hx hb dX10_gardenerIt_66 (by decide) ?_
      refine lv_dup2_11 hx hb dX10_gardenerIt_67 rfl rfl ?_
      refine r_ialdc (j := 0) S F B (kq (by decide) : kd 199 = 22 ∧ 199 < NN) rfl (vpc (by decide)) (by decide) dX10_gardenerIt_68 ?_
      refine lv_iconst (v := 1) hx hb dX10_gardenerIt_69 (by decide) ?_
      refine lv_iadd hx hb dX10_gardenerIt_70 ?_
      refine r_iastc (j := 0) S F B (kq (by decide) : kd 199 = 22 ∧ 199 < NN) (fun _ => rfl) (vpc (by decide)) (by decide) dX10_gardenerIt_71 (fun H locs B => ?_)
      obtain ⟨σ7, eσ7, ho⟩ := lt_ ho
      rw [← eσ7] at B
      refine lv_aload_n hx hb dX10_gardenerIt_72 rfl (lv_at hl 0 rfl) ?_
      refine r_get (ci := 14) (C := RX10) (T := TX10) (N := 21) S F B (kq (by decide) : kd 198 = 21 ∧ 198 < NN) rfl rfl hiX10 0 (by decide) (by decide +kernel) rfl dX10_gardenerIt_73 ?_
      refine lv_iconst (v := 0) hx hb dX10_gardenerIt_76 (by decide) ?_
      refine r_ialdc (j := 0) S F B (kq (by decide) : kd 199 = 22 ∧ 199 < NN) rfl (vpc (by decide)) (by decide) dX10_gardenerIt_77 ?_
      refine lv_iconst (v := 1) hx hb dX10_gardenerIt_78 (by decide) ?_
      refine lv_isub hx hb dX10_gardenerIt_79 ?_
      cases ho
      exact e_i B hx hb hr hlocks rfl rfl dX10_gardenerIt_80
    · have ho := ip_ c3 ho
      refine lv_aload_n hx hb dX10_gardenerIt_29 rfl (lv_at hl 0 rfl) ?_
      refine lv_bipush (v := 13) hx hb dX10_gardenerIt_30 (by decide) ?_
      refine lv_iconst (v := 4) hx hb dX10_gardenerIt_32 (by decide) ?_
      obtain ⟨q8, σ9, hq8, ho⟩ := bnm_ ho
      refine k_iV (As := [.int 13, .int 4]) (rest := []) S F B (c_X10_refuse l G σ _ 13 4 hq8) (kq (by decide) : kd 198 = 21 ∧ 198 < NN) rfl rfl (cwV 2 hts gX10_gardenerIt_X10_refuse rfl rfl rfl (by decide +kernel) ⟨Nat.le_of_ble_eq_true rfl, Nat.le_of_ble_eq_true rfl⟩) rfl hl.1 rfl (Nat.le_of_ble_eq_true rfl) dX10_gardenerIt_33 ⟨Nat.le_of_ble_eq_true rfl, Nat.le_of_ble_eq_true rfl⟩ (fun H locs B => ?_)
      cases ho
      exact e_i B hx hb hr hlocks rfl rfl dX10_gardenerIt_36
  · have ho := ip_ c2 ho
    refine lv_aload_n hx hb dX10_gardenerIt_12 rfl (lv_at hl 0 rfl) ?_
    refine lv_iconst (v := 1) hx hb dX10_gardenerIt_13 (by decide) ?_
    refine lv_iconst (v := 0) hx hb dX10_gardenerIt_14 (by decide) ?_
    obtain ⟨q10, σ11, hq10, ho⟩ := bnm_ ho
    refine k_iV (As := [.int 1, .int 0]) (rest := []) S F B (c_X10_refuse l G σ _ 1 0 hq10) (kq (by decide) : kd 198 = 21 ∧ 198 < NN) rfl rfl (cwV 2 hts gX10_gardenerIt_X10_refuse rfl rfl rfl (by decide +kernel) ⟨Nat.le_of_ble_eq_true rfl, Nat.le_of_ble_eq_true rfl⟩) rfl hl.1 rfl (Nat.le_of_ble_eq_true rfl) dX10_gardenerIt_15 ⟨Nat.le_of_ble_eq_true rfl, Nat.le_of_ble_eq_true rfl⟩ (fun H locs B => ?_)
    cases ho
    exact e_i B hx hb hr hlocks rfl rfl dX10_gardenerIt_18

set_option maxHeartbeats 4000000 in
set_option maxRecDepth 100000 in
theorem c_X10_gardener (l : Launch) (G : Gd) (σ : Mm) (sz : Nat) (a0 : Int32) {out : Int32 × Mm} (ho : f_X10_gardener a0 σ = some out) : Met l yX10_gardener wsX10_gardener { frames := 3, cells := 0, slots := 0, locals := 64 } (va_Pc [.ref (G.2.2 198), .int a0] (PW G σ sz)) (Qi G sz out.1 out.2) 0 0 (AA G sz) := by
  refine Met.ofW (cc := cX10_gardener) (maxL := 2) (ret := (some .int)) (by decide) rfl ?_
  intro p e s m args below meth c s₁ B0 hml hv
  obtain ⟨rfl, hpw⟩ := hv
  have hsz := hpw.1
  subst hsz
  obtain ⟨F, B⟩ := hpw.to
  have hx := B0.exec
  have hb := B0.bytes
  have hr := B0.returns
  have hts := atoms_spec (ws := wsX10_gardener) B0.pre
  have hown : s.vm.findClass RX10 = some m.cls := findClass_of_methodNamed B0.named
  have hlocks := B0.notSynchronized
  have S : CallFix p m c cX10_gardener 2 s _ wsX10_gardener RX10 := ⟨hx, hb, hml, hown, hts⟩
  have hl := lv_entry [.ref (G.2.2 198), .int a0] (n := 2) (Nat.le_of_ble_eq_true rfl)
  rw [lg_entry_eq]
  generalize (lg_sl [.ref (G.2.2 198), .int a0] ++ List.replicate (2 - (lg_sl [.ref (G.2.2 198), .int a0]).length) Slot.unset).toArray = ls at hl ⊢
  have hl : lv_has ls 2 [(0, .ref (G.2.2 198)), (1, .int a0)] := hl
  unfold f_X10_gardener at ho
  refine lv_aload_n hx hb dX10_gardener_0 rfl (lv_at hl 0 rfl) ?_
  obtain ⟨σ2, hq1, ho⟩ := bnd_ ho
  refine k_vV (As := []) (rest := []) S F B (c_X10_starts l G σ _ hq1) (kq (by decide) : kd 198 = 21 ∧ 198 < NN) rfl rfl (cwV 0 hts gX10_gardener_X10_starts rfl rfl rfl (by decide +kernel) ⟨Nat.le_of_ble_eq_true rfl, Nat.le_of_ble_eq_true rfl⟩) rfl hl.1 rfl (Nat.le_of_ble_eq_true rfl) dX10_gardener_1 ⟨Nat.le_of_ble_eq_true rfl, Nat.le_of_ble_eq_true rfl⟩ (fun H locs B => ?_)
  refine lv_aload_n hx hb dX10_gardener_4 rfl (lv_at hl 0 rfl) ?_
  refine lv_aload_n hx hb dX10_gardener_5 rfl (lv_at hl 0 rfl) ?_
  refine lv_iload_n hx hb dX10_gardener_6 rfl (lv_at hl 1 rfl) ?_
  obtain ⟨q3, σ4, hq3, ho⟩ := bnm_ ho
  refine k_iV (As := [.int a0]) (rest := [.ref (G.2.2 198)]) S F B (c_X10_gardenerIt l G σ2 _ a0 hq3) (kq (by decide) : kd 198 = 21 ∧ 198 < NN) rfl rfl (cwV 1 hts gX10_gardener_X10_gardenerIt rfl rfl rfl (by decide +kernel) ⟨Nat.le_of_ble_eq_true rfl, Nat.le_of_ble_eq_true rfl⟩) rfl hl.1 rfl (Nat.le_of_ble_eq_true rfl) dX10_gardener_7 ⟨Nat.le_of_ble_eq_true rfl, Nat.le_of_ble_eq_true rfl⟩ (fun H locs B => ?_)
  obtain ⟨q5, σ6, hq5, ho⟩ := bnm_ ho
  refine k_iV (As := [.int q3]) (rest := []) S F B (c_X10_changed l G σ4 _ q3 hq5) (kq (by decide) : kd 198 = 21 ∧ 198 < NN) rfl rfl (cwV 1 hts gX10_gardener_X10_changed rfl rfl rfl (by decide +kernel) ⟨Nat.le_of_ble_eq_true rfl, Nat.le_of_ble_eq_true rfl⟩) rfl hl.1 rfl (Nat.le_of_ble_eq_true rfl) dX10_gardener_10 ⟨Nat.le_of_ble_eq_true rfl, Nat.le_of_ble_eq_true rfl⟩ (fun H locs B => ?_)
  cases ho
  exact e_i B hx hb hr hlocks rfl rfl dX10_gardener_13

set_option maxHeartbeats 4000000 in
set_option maxRecDepth 100000 in
theorem c_X10_visitorIt (l : Launch) (G : Gd) (σ : Mm) (sz : Nat) (a0 : Int32) {out : Int32 × Mm} (ho : f_X10_visitorIt a0 σ = some out) : Met l yX10_visitorIt wsX10_visitorIt { frames := 4, cells := 0, slots := 0, locals := 106 } (va_Pc [.ref (G.2.2 198), .int a0] (PW G σ sz)) (Qi G sz out.1 out.2) 0 0 (AA G sz) := by
  refine Met.ofW (cc := cX10_visitorIt) (maxL := 4) (ret := (some .int)) (by decide) rfl ?_
  intro p e s m args below meth c s₁ B0 hml hv
  obtain ⟨rfl, hpw⟩ := hv
  have hsz := hpw.1
  subst hsz
  obtain ⟨F, B⟩ := hpw.to
  have hx := B0.exec
  have hb := B0.bytes
  have hr := B0.returns
  have hts := atoms_spec (ws := wsX10_visitorIt) B0.pre
  have hown : s.vm.findClass RX10 = some m.cls := findClass_of_methodNamed B0.named
  have hlocks := B0.notSynchronized
  have S : CallFix p m c cX10_visitorIt 4 s _ wsX10_visitorIt RX10 := ⟨hx, hb, hml, hown, hts⟩
  have hiX10 : ∀ w ∈ u_ws RX10 TX10 21, w ∈ wsX10_visitorIt := by decide +kernel
  have hl := lv_entry [.ref (G.2.2 198), .int a0] (n := 4) (Nat.le_of_ble_eq_true rfl)
  rw [lg_entry_eq]
  generalize (lg_sl [.ref (G.2.2 198), .int a0] ++ List.replicate (4 - (lg_sl [.ref (G.2.2 198), .int a0]).length) Slot.unset).toArray = ls at hl ⊢
  have hl : lv_has ls 4 [(0, .ref (G.2.2 198)), (1, .int a0)] := hl
  unfold f_X10_visitorIt at ho
  refine lv_iload_n hx hb dX10_visitorIt_0 rfl (lv_at hl 1 rfl) ?_
  refine lv_i2l hx hb dX10_visitorIt_1 rfl ?_
  refine lv_lconst (v := 0) hx hb dX10_visitorIt_2 (by decide) ?_
  refine lv_ldc2 (v := 99) hx hb hown (hts _ (by decide +kernel)) dX10_visitorIt_3 ?_
  obtain ⟨q1, hq1, ho⟩ := bnd_ ho
  refine k_iS (As := [.long a0.toInt64, .long 0, .long 99]) (rest := []) S F B (c_X10_in l G σ _ a0.toInt64 0 99 hq1) (va_cwS 3 hts gX10_visitorIt_X10_in rfl rfl rfl (by decide +kernel) ⟨Nat.le_of_ble_eq_true rfl, Nat.le_of_ble_eq_true rfl⟩) rfl hl.1 rfl (Nat.le_of_ble_eq_true rfl) dX10_visitorIt_6 ⟨Nat.le_of_ble_eq_true rfl, Nat.le_of_ble_eq_true rfl⟩ (fun H locs B => ?_)
  refine lv_if_ne (tgt := 19) hx hb dX10_visitorIt_9 (by decide) (fun c2 => ?_) (fun c2 => ?_)
  · have ho := in_ c2 ho
    refine lv_aload_n hx hb dX10_visitorIt_19 rfl (lv_at hl 0 rfl) ?_
    refine r_get (ci := 14) (C := RX10) (T := TX10) (N := 21) S F B (kq (by decide) : kd 198 = 21 ∧ 198 < NN) rfl rfl hiX10 0 (by decide) (by decide +kernel) rfl dX10_visitorIt_20 ?_
    refine lv_iconst (v := 1) hx hb dX10_visitorIt_23 (by decide) ?_
    refine r_ialdc (j := 1) S F B (kq (by decide) : kd 199 = 22 ∧ 199 < NN) rfl (vpc (by decide)) (by decide) dX10_visitorIt_24 ?_
    refine lv_iconst (v := 5) hx hb dX10_visitorIt_25 (by decide) ?_
    refine lv_icmp_ne (tgt := 37) hx hb dX10_visitorIt_26 (by decide) (fun c3 => ?_) (fun c3 => ?_)
    · have ho := in_ c3 ho
      refine lv_aload_n hx hb dX10_visitorIt_37 rfl (lv_at hl 0 rfl) ?_
      refine lv_iconst (v := 0) hx hb dX10_visitorIt_38 (by decide) ?_
      refine lv_bipush (v := 15) hx hb dX10_visitorIt_39 (by decide) ?_
      obtain ⟨q4, σ5, hq4, ho⟩ := bnm_ ho
      refine k_iV (As := [.int 0, .int 15]) (rest := []) S F B (c_X10_hoursOf l G σ _ 0 15 hq4) (kq (by decide) : kd 198 = 21 ∧ 198 < NN) rfl rfl (cwV 2 hts gX10_visitorIt_X10_hoursOf rfl rfl rfl (by decide +kernel) ⟨Nat.le_of_ble_eq_true rfl, Nat.le_of_ble_eq_true rfl⟩) rfl hl.1 rfl (Nat.le_of_ble_eq_true rfl) dX10_visitorIt_41 ⟨Nat.le_of_ble_eq_true rfl, Nat.le_of_ble_eq_true rfl⟩ (fun H locs B => ?_)
      refine lv_istore_n (lv' := [(2, .int q4), (0, .ref (G.2.2 198)), (1, .int a0)]) hx hb dX10_visitorIt_44 rfl hl (by decide) rfl (fun ls hl => ?_)
      refine lv_iload_n hx hb dX10_visitorIt_45 rfl (lv_at hl 0 rfl) ?_
      refine lv_iconst (v := (-1)) hx hb dX10_visitorIt_46 (by decide) ?_
      refine lv_icmp_ne (tgt := 65) hx hb dX10_visitorIt_47 (by decide) (fun c6 => ?_) (fun c6 => ?_)
      · have ho := in_ c6 ho
        refine lv_aload_n hx hb dX10_visitorIt_65 rfl (lv_at hl 1 rfl) ?_
        refine r_get (ci := 14) (C := RX10) (T := TX10) (N := 21) S F B (kq (by decide) : kd 198 = 21 ∧ 198 < NN) rfl rfl hiX10 0 (by decide) (by decide +kernel) rfl dX10_visitorIt_66 ?_
        refine lv_iconst (v := 1) hx hb dX10_visitorIt_69 (by decide) ?_
        refine r_ialdc (j := 1) S F B (kq (by decide) : kd 199 = 22 ∧ 199 < NN) rfl (vpc (by decide)) (by decide) dX10_visitorIt_70 ?_
        obtain ⟨q7, hq7, ho⟩ := bnd_ ho
        refine k_iS (As := [.int (σ5 199 1)]) (rest := []) S F B (c_X10_visitorAt l G σ5 _ (σ5 199 1) hq7) (va_cwS 1 hts gX10_visitorIt_X10_visitorAt rfl rfl rfl (by decide +kernel) ⟨Nat.le_of_ble_eq_true rfl, Nat.le_of_ble_eq_true rfl⟩) rfl hl.1 rfl (Nat.le_of_ble_eq_true rfl) dX10_visitorIt_71 ⟨Nat.le_of_ble_eq_true rfl, Nat.le_of_ble_eq_true rfl⟩ (fun H locs B => ?_)
        refine lv_istore_n (lv' := [(3, .int q7), (2, .int q4), (0, .ref (G.2.2 198)), (1, .int a0)]) hx hb dX10_visitorIt_74 rfl hl (by decide) rfl (fun ls hl => ?_)
        refine lv_aload_n hx hb dX10_visitorIt_75 rfl (lv_at hl 2 rfl) ?_
        refine r_get (ci := 14) (C := RX10) (T := TX10) (N := 21) S F B (kq (by decide) : kd 198 = 21 ∧ 198 < NN) rfl rfl hiX10 0 (by decide) (by decide +kernel) rfl dX10_visitorIt_76 ?_
        refine lv_iload_n hx hb dX10_visitorIt_79 rfl (lv_at hl 0 rfl) ?_
        refine lv_iload_n hx hb dX10_visitorIt_80 rfl (lv_at hl 3 rfl) ?_
        obtain ⟨hi, ho⟩ := gd_ ho
        refine r_iast S F B (kq (by decide) : kd 199 = 22 ∧ 199 < NN) (fun _ => rfl) hi dX10_visitorIt_81 (fun H locs B => ?_)
        obtain ⟨σ8, eσ8, ho⟩ := lt_ ho
        rw [← eσ8] at B
        refine lv_aload_n hx hb dX10_visitorIt_82 rfl (lv_at hl 2 rfl) ?_
        refine r_get (ci := 14) (C := RX10) (T := TX10) (N := 21) S F B (kq (by decide) : kd 198 = 21 ∧ 198 < NN) rfl rfl hiX10 0 (by decide) (by decide +kernel) rfl dX10_visitorIt_83 ?_
        refine lv_iload_n hx hb dX10_visitorIt_86 rfl (lv_at hl 0 rfl) ?_
        refine lv_iconst (v := 3) hx hb dX10_visitorIt_87 (by decide) ?_
        refine lv_iadd hx hb dX10_visitorIt_88 ?_
        refine lv_iload_n hx hb dX10_visitorIt_89 rfl (lv_at hl 1 rfl) ?_
        obtain ⟨hi, ho⟩ := gd_ ho
        refine r_iast S F B (kq (by decide) : kd 199 = 22 ∧ 199 < NN) (fun _ => rfl) hi dX10_visitorIt_90 (fun H locs B => ?_)
        obtain ⟨σ9, eσ9, ho⟩ := lt_ ho
        rw [← eσ9] at B
        refine lv_aload_n hx hb dX10_visitorIt_91 rfl (lv_at hl 2 rfl) ?_
        refine r_get (ci := 14) (C := RX10) (T := TX10) (N := 21) S F B (kq (by decide) : kd 198 = 21 ∧ 198 < NN) rfl rfl hiX10 0 (by decide) (by decide +kernel) rfl dX10_visitorIt_92 ?_
        refine lv_iload_n hx hb dX10_visitorIt_95 rfl (lv_at hl 0 rfl) ?_
        refine lv_iconst (v := 4) hx hb dX10_visitorIt_96 (by decide) ?_
        refine lv_iadd hx hb dX10_visitorIt_97 ?_
        refine lv_iconst (v := (-1)) hx hb dX10_visitorIt_98 (by decide) ?_
        obtain ⟨hi, ho⟩ := gd_ ho
        refine r_iast S F B (kq (by decide) : kd 199 = 22 ∧ 199 < NN) (fun _ => rfl) hi dX10_visitorIt_99 (fun H locs B => ?_)
        obtain ⟨σ10, eσ10, ho⟩ := lt_ ho
        rw [← eσ10] at B
        refine lv_aload_n hx hb dX10_visitorIt_100 rfl (lv_at hl 2 rfl) ?_
        refine r_get (ci := 14) (C := RX10) (T := TX10) (N := 21) S F B (kq (by decide) : kd 198 = 21 ∧ 198 < NN) rfl rfl hiX10 0 (by decide) (by decide +kernel) rfl dX10_visitorIt_101 ?_
        refine lv_iconst (v := 4) hx hb dX10_visitorIt_104 (by decide) ?_
        refine lv_dup2_11 hx hb dX10_visitorIt_105 rfl rfl ?_
        refine r_ialdc (j := 4) S F B (kq (by decide) : kd 199 = 22 ∧ 199 < NN) rfl (vpc (by decide)) (by decide) dX10_visitorIt_106 ?_
        refine lv_iload_n hx hb dX10_visitorIt_107 rfl (lv_at hl 3 rfl) ?_
        refine lv_iadd hx hb dX10_visitorIt_108 ?_
        refine r_iastc (j := 4) S F B (kq (by decide) : kd 199 = 22 ∧ 199 < NN) (fun _ => rfl) (vpc (by decide)) (by decide) dX10_visitorIt_109 (fun H locs B => ?_)
        obtain ⟨σ11, eσ11, ho⟩ := lt_ ho
        rw [← eσ11] at B
        refine lv_aload_n hx hb dX10_visitorIt_110 rfl (lv_at hl 2 rfl) ?_
        refine r_get (ci := 14) (C := RX10) (T := TX10) (N := 21) S F B (kq (by decide) : kd 198 = 21 ∧ 198 < NN) rfl rfl hiX10 0 (by decide) (by decide +kernel) rfl dX10_visitorIt_111 ?_
        refine lv_iconst (v := 1) hx hb dX10_visitorIt_114 (by decide) ?_
        refine lv_dup2_11 hx hb dX10_visitorIt_115 rfl rfl ?_
        refine r_ialdc (j := 1) S F B (kq (by decide) : kd 199 = 22 ∧ 199 < NN) rfl (vpc (by decide)) (by decide) dX10_visitorIt_116 ?_
        refine lv_iconst (v := 1) hx hb dX10_visitorIt_117 (by decide) ?_
        refine lv_iadd hx hb dX10_visitorIt_118 ?_
        refine r_iastc (j := 1) S F B (kq (by decide) : kd 199 = 22 ∧ 199 < NN) (fun _ => rfl) (vpc (by decide)) (by decide) dX10_visitorIt_119 (fun H locs B => ?_)
        obtain ⟨σ12, eσ12, ho⟩ := lt_ ho
        rw [← eσ12] at B
        refine lv_aload_n hx hb dX10_visitorIt_120 rfl (lv_at hl 2 rfl) ?_
        refine r_get (ci := 14) (C := RX10) (T := TX10) (N := 21) S F B (kq (by decide) : kd 198 = 21 ∧ 198 < NN) rfl rfl hiX10 0 (by decide) (by decide +kernel) rfl dX10_visitorIt_121 ?_
        refine lv_iconst (v := 1) hx hb dX10_visitorIt_124 (by decide) ?_
        refine r_ialdc (j := 1) S F B (kq (by decide) : kd 199 = 22 ∧ 199 < NN) rfl (vpc (by decide)) (by decide) dX10_visitorIt_125 ?_
        refine lv_iconst (v := 1) hx hb dX10_visitorIt_126 (by decide) ?_
        refine lv_isub hx hb dX10_visitorIt_127 ?_
        cases ho
        exact e_i B hx hb hr hlocks rfl rfl dX10_visitorIt_128
      · have ho := ip_ c6 ho
        refine lv_aload_n hx hb dX10_visitorIt_50 rfl (lv_at hl 1 rfl) ?_
        refine lv_bipush (v := 6) hx hb dX10_visitorIt_51 (by decide) ?_
        refine lv_aload_n hx hb dX10_visitorIt_53 rfl (lv_at hl 1 rfl) ?_
        refine lv_iconst (v := 0) hx hb dX10_visitorIt_54 (by decide) ?_
        obtain ⟨q13, σ14, hq13, ho⟩ := bnm_ ho
        refine k_iV (As := [.int 0]) (rest := [.int 6, .ref (G.2.2 198)]) S F B (c_X10_reachedFrom l G σ5 _ 0 hq13) (kq (by decide) : kd 198 = 21 ∧ 198 < NN) rfl rfl (cwV 1 hts gX10_visitorIt_X10_reachedFrom rfl rfl rfl (by decide +kernel) ⟨Nat.le_of_ble_eq_true rfl, Nat.le_of_ble_eq_true rfl⟩) rfl hl.1 rfl (Nat.le_of_ble_eq_true rfl) dX10_visitorIt_55 ⟨Nat.le_of_ble_eq_true rfl, Nat.le_of_ble_eq_true rfl⟩ (fun H locs B => ?_)
        obtain ⟨q15, hq15, ho⟩ := bnd_ ho
        refine k_iS (As := [.int q13]) (rest := [.int 6, .ref (G.2.2 198)]) S F B (c_X10_ones l G σ14 _ q13 hq15) (va_cwS 1 hts gX10_visitorIt_X10_ones rfl rfl rfl (by decide +kernel) ⟨Nat.le_of_ble_eq_true rfl, Nat.le_of_ble_eq_true rfl⟩) rfl hl.1 rfl (Nat.le_of_ble_eq_true rfl) dX10_visitorIt_58 ⟨Nat.le_of_ble_eq_true rfl, Nat.le_of_ble_eq_true rfl⟩ (fun H locs B => ?_)
        obtain ⟨q16, σ17, hq16, ho⟩ := bnm_ ho
        refine k_iV (As := [.int 6, .int q15]) (rest := []) S F B (c_X10_refuse l G σ14 _ 6 q15 hq16) (kq (by decide) : kd 198 = 21 ∧ 198 < NN) rfl rfl (cwV 2 hts gX10_visitorIt_X10_refuse rfl rfl rfl (by decide +kernel) ⟨Nat.le_of_ble_eq_true rfl, Nat.le_of_ble_eq_true rfl⟩) rfl hl.1 rfl (Nat.le_of_ble_eq_true rfl) dX10_visitorIt_61 ⟨Nat.le_of_ble_eq_true rfl, Nat.le_of_ble_eq_true rfl⟩ (fun H locs B => ?_)
        cases ho
        exact e_i B hx hb hr hlocks rfl rfl dX10_visitorIt_64
    · have ho := ip_ c3 ho
      refine lv_aload_n hx hb dX10_visitorIt_29 rfl (lv_at hl 0 rfl) ?_
      refine lv_bipush (v := 13) hx hb dX10_visitorIt_30 (by decide) ?_
      refine lv_iconst (v := 5) hx hb dX10_visitorIt_32 (by decide) ?_
      obtain ⟨q18, σ19, hq18, ho⟩ := bnm_ ho
      refine k_iV (As := [.int 13, .int 5]) (rest := []) S F B (c_X10_refuse l G σ _ 13 5 hq18) (kq (by decide) : kd 198 = 21 ∧ 198 < NN) rfl rfl (cwV 2 hts gX10_visitorIt_X10_refuse rfl rfl rfl (by decide +kernel) ⟨Nat.le_of_ble_eq_true rfl, Nat.le_of_ble_eq_true rfl⟩) rfl hl.1 rfl (Nat.le_of_ble_eq_true rfl) dX10_visitorIt_33 ⟨Nat.le_of_ble_eq_true rfl, Nat.le_of_ble_eq_true rfl⟩ (fun H locs B => ?_)
      cases ho
      exact e_i B hx hb hr hlocks rfl rfl dX10_visitorIt_36
  · have ho := ip_ c2 ho
    refine lv_aload_n hx hb dX10_visitorIt_12 rfl (lv_at hl 0 rfl) ?_
    refine lv_iconst (v := 1) hx hb dX10_visitorIt_13 (by decide) ?_
    refine lv_iconst (v := 0) hx hb dX10_visitorIt_14 (by decide) ?_
    obtain ⟨q20, σ21, hq20, ho⟩ := bnm_ ho
    refine k_iV (As := [.int 1, .int 0]) (rest := []) S F B (c_X10_refuse l G σ _ 1 0 hq20) (kq (by decide) : kd 198 = 21 ∧ 198 < NN) rfl rfl (cwV 2 hts gX10_visitorIt_X10_refuse rfl rfl rfl (by decide +kernel) ⟨Nat.le_of_ble_eq_true rfl, Nat.le_of_ble_eq_true rfl⟩) rfl hl.1 rfl (Nat.le_of_ble_eq_true rfl) dX10_visitorIt_15 ⟨Nat.le_of_ble_eq_true rfl, Nat.le_of_ble_eq_true rfl⟩ (fun H locs B => ?_)
    cases ho
    exact e_i B hx hb hr hlocks rfl rfl dX10_visitorIt_18

set_option maxHeartbeats 4000000 in
set_option maxRecDepth 100000 in
theorem c_X10_visitor (l : Launch) (G : Gd) (σ : Mm) (sz : Nat) (a0 : Int32) {out : Int32 × Mm} (ho : f_X10_visitor a0 σ = some out) : Met l yX10_visitor wsX10_visitor { frames := 5, cells := 0, slots := 0, locals := 129 } (va_Pc [.ref (G.2.2 198), .int a0] (PW G σ sz)) (Qi G sz out.1 out.2) 0 0 (AA G sz) := by
  refine Met.ofW (cc := cX10_visitor) (maxL := 2) (ret := (some .int)) (by decide) rfl ?_
  intro p e s m args below meth c s₁ B0 hml hv
  obtain ⟨rfl, hpw⟩ := hv
  have hsz := hpw.1
  subst hsz
  obtain ⟨F, B⟩ := hpw.to
  have hx := B0.exec
  have hb := B0.bytes
  have hr := B0.returns
  have hts := atoms_spec (ws := wsX10_visitor) B0.pre
  have hown : s.vm.findClass RX10 = some m.cls := findClass_of_methodNamed B0.named
  have hlocks := B0.notSynchronized
  have S : CallFix p m c cX10_visitor 2 s _ wsX10_visitor RX10 := ⟨hx, hb, hml, hown, hts⟩
  have hl := lv_entry [.ref (G.2.2 198), .int a0] (n := 2) (Nat.le_of_ble_eq_true rfl)
  rw [lg_entry_eq]
  generalize (lg_sl [.ref (G.2.2 198), .int a0] ++ List.replicate (2 - (lg_sl [.ref (G.2.2 198), .int a0]).length) Slot.unset).toArray = ls at hl ⊢
  have hl : lv_has ls 2 [(0, .ref (G.2.2 198)), (1, .int a0)] := hl
  unfold f_X10_visitor at ho
  refine lv_aload_n hx hb dX10_visitor_0 rfl (lv_at hl 0 rfl) ?_
  obtain ⟨σ2, hq1, ho⟩ := bnd_ ho
  refine k_vV (As := []) (rest := []) S F B (c_X10_starts l G σ _ hq1) (kq (by decide) : kd 198 = 21 ∧ 198 < NN) rfl rfl (cwV 0 hts gX10_visitor_X10_starts rfl rfl rfl (by decide +kernel) ⟨Nat.le_of_ble_eq_true rfl, Nat.le_of_ble_eq_true rfl⟩) rfl hl.1 rfl (Nat.le_of_ble_eq_true rfl) dX10_visitor_1 ⟨Nat.le_of_ble_eq_true rfl, Nat.le_of_ble_eq_true rfl⟩ (fun H locs B => ?_)
  refine lv_aload_n hx hb dX10_visitor_4 rfl (lv_at hl 0 rfl) ?_
  refine lv_aload_n hx hb dX10_visitor_5 rfl (lv_at hl 0 rfl) ?_
  refine lv_iload_n hx hb dX10_visitor_6 rfl (lv_at hl 1 rfl) ?_
  obtain ⟨q3, σ4, hq3, ho⟩ := bnm_ ho
  refine k_iV (As := [.int a0]) (rest := [.ref (G.2.2 198)]) S F B (c_X10_visitorIt l G σ2 _ a0 hq3) (kq (by decide) : kd 198 = 21 ∧ 198 < NN) rfl rfl (cwV 1 hts gX10_visitor_X10_visitorIt rfl rfl rfl (by decide +kernel) ⟨Nat.le_of_ble_eq_true rfl, Nat.le_of_ble_eq_true rfl⟩) rfl hl.1 rfl (Nat.le_of_ble_eq_true rfl) dX10_visitor_7 ⟨Nat.le_of_ble_eq_true rfl, Nat.le_of_ble_eq_true rfl⟩ (fun H locs B => ?_)
  obtain ⟨q5, σ6, hq5, ho⟩ := bnm_ ho
  refine k_iV (As := [.int q3]) (rest := []) S F B (c_X10_changed l G σ4 _ q3 hq5) (kq (by decide) : kd 198 = 21 ∧ 198 < NN) rfl rfl (cwV 1 hts gX10_visitor_X10_changed rfl rfl rfl (by decide +kernel) ⟨Nat.le_of_ble_eq_true rfl, Nat.le_of_ble_eq_true rfl⟩) rfl hl.1 rfl (Nat.le_of_ble_eq_true rfl) dX10_visitor_10 ⟨Nat.le_of_ble_eq_true rfl, Nat.le_of_ble_eq_true rfl⟩ (fun H locs B => ?_)
  cases ho
  exact e_i B hx hb hr hlocks rfl rfl dX10_visitor_13

set_option maxHeartbeats 4000000 in
set_option maxRecDepth 100000 in
theorem c_X10_bondIt (l : Launch) (G : Gd) (σ : Mm) (sz : Nat) (a0 : Int32) (a1 : Int32) (a2 : Int32) {out : Int32 × Mm} (ho : f_X10_bondIt a0 a1 a2 σ = some out) : Met l yX10_bondIt wsX10_bondIt { frames := 2, cells := 0, slots := 0, locals := 46 } (va_Pc [.ref (G.2.2 198), .int a0, .int a1, .int a2] (PW G σ sz)) (Qi G sz out.1 out.2) 0 0 (AA G sz) := by
  refine Met.ofW (cc := cX10_bondIt) (maxL := 5) (ret := (some .int)) (by decide) rfl ?_
  intro p e s m args below meth c s₁ B0 hml hv
  obtain ⟨rfl, hpw⟩ := hv
  have hsz := hpw.1
  subst hsz
  obtain ⟨F, B⟩ := hpw.to
  have hx := B0.exec
  have hb := B0.bytes
  have hr := B0.returns
  have hts := atoms_spec (ws := wsX10_bondIt) B0.pre
  have hown : s.vm.findClass RX10 = some m.cls := findClass_of_methodNamed B0.named
  have hlocks := B0.notSynchronized
  have S : CallFix p m c cX10_bondIt 5 s _ wsX10_bondIt RX10 := ⟨hx, hb, hml, hown, hts⟩
  have hiX10 : ∀ w ∈ u_ws RX10 TX10 21, w ∈ wsX10_bondIt := by decide +kernel
  have hl := lv_entry [.ref (G.2.2 198), .int a0, .int a1, .int a2] (n := 5) (Nat.le_of_ble_eq_true rfl)
  rw [lg_entry_eq]
  generalize (lg_sl [.ref (G.2.2 198), .int a0, .int a1, .int a2] ++ List.replicate (5 - (lg_sl [.ref (G.2.2 198), .int a0, .int a1, .int a2]).length) Slot.unset).toArray = ls at hl ⊢
  have hl : lv_has ls 5 [(0, .ref (G.2.2 198)), (1, .int a0), (2, .int a1), (3, .int a2)] := hl
  unfold f_X10_bondIt at ho
  refine lv_aload_n hx hb dX10_bondIt_0 rfl (lv_at hl 0 rfl) ?_
  refine lv_iload_n hx hb dX10_bondIt_1 rfl (lv_at hl 1 rfl) ?_
  obtain ⟨q1, hq1, ho⟩ := bnd_ ho
  refine k_iV (As := [.int a0]) (rest := []) S F B (c_X10_isGardener l G σ _ a0 hq1) (kq (by decide) : kd 198 = 21 ∧ 198 < NN) rfl rfl (cwV 1 hts gX10_bondIt_X10_isGardener rfl rfl rfl (by decide +kernel) ⟨Nat.le_of_ble_eq_true rfl, Nat.le_of_ble_eq_true rfl⟩) rfl hl.1 rfl (Nat.le_of_ble_eq_true rfl) dX10_bondIt_2 ⟨Nat.le_of_ble_eq_true rfl, Nat.le_of_ble_eq_true rfl⟩ (fun H locs B => ?_)
  refine lv_if_ne (tgt := 20) hx hb dX10_bondIt_5 (by decide) (fun c2 => ?_) (fun c2 => ?_)
  · have ho := in_ c2 ho
    refine lv_aload_n hx hb dX10_bondIt_20 rfl (lv_at hl 0 rfl) ?_
    refine lv_iload_n hx hb dX10_bondIt_21 rfl (lv_at hl 2 rfl) ?_
    obtain ⟨q3, hq3, ho⟩ := bnd_ ho
    refine k_iV (As := [.int a1]) (rest := []) S F B (c_X10_isVisitor l G σ _ a1 hq3) (kq (by decide) : kd 198 = 21 ∧ 198 < NN) rfl rfl (cwV 1 hts gX10_bondIt_X10_isVisitor rfl rfl rfl (by decide +kernel) ⟨Nat.le_of_ble_eq_true rfl, Nat.le_of_ble_eq_true rfl⟩) rfl hl.1 rfl (Nat.le_of_ble_eq_true rfl) dX10_bondIt_22 ⟨Nat.le_of_ble_eq_true rfl, Nat.le_of_ble_eq_true rfl⟩ (fun H locs B => ?_)
    refine lv_if_ne (tgt := 41) hx hb dX10_bondIt_25 (by decide) (fun c4 => ?_) (fun c4 => ?_)
    · have ho := in_ c4 ho
      refine lv_iload_n hx hb dX10_bondIt_41 rfl (lv_at hl 3 rfl) ?_
      refine lv_i2l hx hb dX10_bondIt_42 rfl ?_
      refine lv_lconst (v := 1) hx hb dX10_bondIt_43 (by decide) ?_
      refine lv_ldc2 (v := 5) hx hb hown (hts _ (by decide +kernel)) dX10_bondIt_44 ?_
      obtain ⟨q5, hq5, ho⟩ := bnd_ ho
      refine k_iS (As := [.long a2.toInt64, .long 1, .long 5]) (rest := []) S F B (c_X10_in l G σ _ a2.toInt64 1 5 hq5) (va_cwS 3 hts gX10_bondIt_X10_in rfl rfl rfl (by decide +kernel) ⟨Nat.le_of_ble_eq_true rfl, Nat.le_of_ble_eq_true rfl⟩) rfl hl.1 rfl (Nat.le_of_ble_eq_true rfl) dX10_bondIt_47 ⟨Nat.le_of_ble_eq_true rfl, Nat.le_of_ble_eq_true rfl⟩ (fun H locs B => ?_)
      refine lv_if_ne (tgt := 60) hx hb dX10_bondIt_50 (by decide) (fun c6 => ?_) (fun c6 => ?_)
      · have ho := in_ c6 ho
        refine lv_iload_n hx hb dX10_bondIt_60 rfl (lv_at hl 2 rfl) ?_
        obtain ⟨q7, hq7, ho⟩ := bnd_ ho
        refine k_iS (As := [.int a1]) (rest := []) S F B (c_X10_visitorAt l G σ _ a1 hq7) (va_cwS 1 hts gX10_bondIt_X10_visitorAt rfl rfl rfl (by decide +kernel) ⟨Nat.le_of_ble_eq_true rfl, Nat.le_of_ble_eq_true rfl⟩) rfl hl.1 rfl (Nat.le_of_ble_eq_true rfl) dX10_bondIt_61 ⟨Nat.le_of_ble_eq_true rfl, Nat.le_of_ble_eq_true rfl⟩ (fun H locs B => ?_)
        refine lv_istore (lv' := [(4, .int q7), (0, .ref (G.2.2 198)), (1, .int a0), (2, .int a1), (3, .int a2)]) hx hb dX10_bondIt_64 hl (by decide) rfl (fun ls hl => ?_)
        refine lv_aload_n hx hb dX10_bondIt_66 rfl (lv_at hl 1 rfl) ?_
        refine r_get (ci := 14) (C := RX10) (T := TX10) (N := 21) S F B (kq (by decide) : kd 198 = 21 ∧ 198 < NN) rfl rfl hiX10 0 (by decide) (by decide +kernel) rfl dX10_bondIt_67 ?_
        refine lv_iload hx hb dX10_bondIt_70 (lv_at hl 0 rfl) ?_
        refine lv_bipush (v := 7) hx hb dX10_bondIt_72 (by decide) ?_
        refine lv_iadd hx hb dX10_bondIt_74 ?_
        obtain ⟨hi, ho⟩ := gd_ ho
        refine r_iald S F B (kq (by decide) : kd 199 = 22 ∧ 199 < NN) rfl hi dX10_bondIt_75 ?_
        refine lv_iconst (v := 1) hx hb dX10_bondIt_76 (by decide) ?_
        refine lv_icmp_ne (tgt := 96) hx hb dX10_bondIt_77 (by decide) (fun c8 => ?_) (fun c8 => ?_)
        · have ho := in_ c8 ho
          refine lv_aload_n hx hb dX10_bondIt_96 rfl (lv_at hl 1 rfl) ?_
          refine r_get (ci := 14) (C := RX10) (T := TX10) (N := 21) S F B (kq (by decide) : kd 198 = 21 ∧ 198 < NN) rfl rfl hiX10 0 (by decide) (by decide +kernel) rfl dX10_bondIt_97 ?_
          refine lv_iload hx hb dX10_bondIt_100 (lv_at hl 0 rfl) ?_
          refine lv_iconst (v := 4) hx hb dX10_bondIt_102 (by decide) ?_
          refine lv_iadd hx hb dX10_bondIt_103 ?_
          obtain ⟨hi, ho⟩ := gd_ ho
          refine r_iald S F B (kq (by decide) : kd 199 = 22 ∧ 199 < NN) rfl hi dX10_bondIt_104 ?_
          refine lv_iconst (v := (-1)) hx hb dX10_bondIt_105 (by decide) ?_
          refine lv_icmp_eq (tgt := 125) hx hb dX10_bondIt_106 (by decide) (fun c9 => ?_) (fun c9 => ?_)
          · have ho := ip_ c9 ho
            refine lv_aload_n hx hb dX10_bondIt_125 rfl (lv_at hl 1 rfl) ?_
            refine lv_iload_n hx hb dX10_bondIt_126 rfl (lv_at hl 3 rfl) ?_
            obtain ⟨q10, hq10, ho⟩ := bnd_ ho
            refine k_iV (As := [.int a1]) (rest := []) S F B (c_X10_meets l G σ _ a1 hq10) (kq (by decide) : kd 198 = 21 ∧ 198 < NN) rfl rfl (cwV 1 hts gX10_bondIt_X10_meets rfl rfl rfl (by decide +kernel) ⟨Nat.le_of_ble_eq_true rfl, Nat.le_of_ble_eq_true rfl⟩) rfl hl.1 rfl (Nat.le_of_ble_eq_true rfl) dX10_bondIt_127 ⟨Nat.le_of_ble_eq_true rfl, Nat.le_of_ble_eq_true rfl⟩ (fun H locs B => ?_)
            refine lv_if_eq (tgt := 146) hx hb dX10_bondIt_130 (by decide) (fun c11 => ?_) (fun c11 => ?_)
            · have ho := ip_ c11 ho
              refine lv_aload_n hx hb dX10_bondIt_146 rfl (lv_at hl 1 rfl) ?_
              refine r_get (ci := 14) (C := RX10) (T := TX10) (N := 21) S F B (kq (by decide) : kd 198 = 21 ∧ 198 < NN) rfl rfl hiX10 0 (by decide) (by decide +kernel) rfl dX10_bondIt_147 ?_
              refine lv_iload hx hb dX10_bondIt_150 (lv_at hl 0 rfl) ?_
              obtain ⟨hi, ho⟩ := gd_ ho
              refine r_iald S F B (kq (by decide) : kd 199 = 22 ∧ 199 < NN) rfl hi dX10_bondIt_152 ?_
              refine lv_iconst (v := 2) hx hb dX10_bondIt_153 (by decide) ?_
              refine lv_iload_n hx hb dX10_bondIt_154 rfl (lv_at hl 4 rfl) ?_
              refine lv_imul hx hb dX10_bondIt_155 ?_
              refine lv_icmp_ge (tgt := 176) hx hb dX10_bondIt_156 (by decide) (fun c12 => ?_) (fun c12 => ?_)
              · have ho := ip_ c12 ho
                refine lv_aload_n hx hb dX10_bondIt_176 rfl (lv_at hl 1 rfl) ?_
                refine r_get (ci := 14) (C := RX10) (T := TX10) (N := 21) S F B (kq (by decide) : kd 198 = 21 ∧ 198 < NN) rfl rfl hiX10 0 (by decide) (by decide +kernel) rfl dX10_bondIt_177 ?_
                refine lv_iload hx hb dX10_bondIt_180 (lv_at hl 0 rfl) ?_
                refine lv_dup2_11 hx hb dX10_bondIt_182 rfl rfl ?_
                obtain ⟨hi, ho⟩ := gd_ ho
                refine r_iald S F B (kq (by decide) : kd 199 = 22 ∧ 199 < NN) rfl hi dX10_bondIt_183 ?_
                refine lv_iconst (v := 2) hx hb dX10_bondIt_184 (by decide) ?_
                refine lv_iload_n hx hb dX10_bondIt_185 rfl (lv_at hl 4 rfl) ?_
                refine lv_imul hx hb dX10_bondIt_186 ?_
                refine lv_isub hx hb dX10_bondIt_187 ?_
                obtain ⟨hi, ho⟩ := gd_ ho
                refine r_iast S F B (kq (by decide) : kd 199 = 22 ∧ 199 < NN) (fun _ => rfl) hi dX10_bondIt_188 (fun H locs B => ?_)
                obtain ⟨σ13, eσ13, ho⟩ := lt_ ho
                rw [← eσ13] at B
                refine lv_aload_n hx hb dX10_bondIt_189 rfl (lv_at hl 1 rfl) ?_
                refine r_get (ci := 14) (C := RX10) (T := TX10) (N := 21) S F B (kq (by decide) : kd 198 = 21 ∧ 198 < NN) rfl rfl hiX10 0 (by decide) (by decide +kernel) rfl dX10_bondIt_190 ?_
                refine lv_iload hx hb dX10_bondIt_193 (lv_at hl 0 rfl) ?_
                refine lv_iconst (v := 4) hx hb dX10_bondIt_195 (by decide) ?_
                refine lv_iadd hx hb dX10_bondIt_196 ?_
                refine lv_iload_n hx hb dX10_bondIt_197 rfl (lv_at hl 2 rfl) ?_
                obtain ⟨hi, ho⟩ := gd_ ho
                refine r_iast S F B (kq (by decide) : kd 199 = 22 ∧ 199 < NN) (fun _ => rfl) hi dX10_bondIt_198 (fun H locs B => ?_)
                obtain ⟨σ14, eσ14, ho⟩ := lt_ ho
                rw [← eσ14] at B
                refine lv_aload_n hx hb dX10_bondIt_199 rfl (lv_at hl 1 rfl) ?_
                refine r_get (ci := 14) (C := RX10) (T := TX10) (N := 21) S F B (kq (by decide) : kd 198 = 21 ∧ 198 < NN) rfl rfl hiX10 0 (by decide) (by decide +kernel) rfl dX10_bondIt_200 ?_
                refine lv_iload hx hb dX10_bondIt_203 (lv_at hl 0 rfl) ?_
                refine lv_iconst (v := 5) hx hb dX10_bondIt_205 (by decide) ?_
                refine lv_iadd hx hb dX10_bondIt_206 ?_
                refine lv_iload_n hx hb dX10_bondIt_207 rfl (lv_at hl 4 rfl) ?_
                obtain ⟨hi, ho⟩ := gd_ ho
                refine r_iast S F B (kq (by decide) : kd 199 = 22 ∧ 199 < NN) (fun _ => rfl) hi dX10_bondIt_208 (fun H locs B => ?_)
                obtain ⟨σ15, eσ15, ho⟩ := lt_ ho
                rw [← eσ15] at B
                refine lv_aload_n hx hb dX10_bondIt_209 rfl (lv_at hl 1 rfl) ?_
                refine r_get (ci := 14) (C := RX10) (T := TX10) (N := 21) S F B (kq (by decide) : kd 198 = 21 ∧ 198 < NN) rfl rfl hiX10 0 (by decide) (by decide +kernel) rfl dX10_bondIt_210 ?_
                refine lv_iload_n hx hb dX10_bondIt_213 rfl (lv_at hl 2 rfl) ?_
                obtain ⟨q16, hq16, ho⟩ := bnd_ ho
                refine k_iS (As := [.int a0]) (rest := [.ref (G.2.2 199)]) S F B (c_X10_gardenerAt l G σ15 _ a0 hq16) (va_cwS 1 hts gX10_bondIt_X10_gardenerAt rfl rfl rfl (by decide +kernel) ⟨Nat.le_of_ble_eq_true rfl, Nat.le_of_ble_eq_true rfl⟩) rfl hl.1 rfl (Nat.le_of_ble_eq_true rfl) dX10_bondIt_214 ⟨Nat.le_of_ble_eq_true rfl, Nat.le_of_ble_eq_true rfl⟩ (fun H locs B => ?_)
                refine lv_dup2_11 hx hb dX10_bondIt_217 rfl rfl ?_
                obtain ⟨hi, ho⟩ := gd_ ho
                refine r_iald S F B (kq (by decide) : kd 199 = 22 ∧ 199 < NN) rfl hi dX10_bondIt_218 ?_
                refine lv_iconst (v := 2) hx hb dX10_bondIt_219 (by decide) ?_
                refine lv_iload_n hx hb dX10_bondIt_220 rfl (lv_at hl 4 rfl) ?_
                refine lv_imul hx hb dX10_bondIt_221 ?_
                refine lv_iadd hx hb dX10_bondIt_222 ?_
                obtain ⟨hi, ho⟩ := gd_ ho
                refine r_iast S F B (kq (by decide) : kd 199 = 22 ∧ 199 < NN) (fun _ => rfl) hi dX10_bondIt_223 (fun H locs B => ?_)
                obtain ⟨σ17, eσ17, ho⟩ := lt_ ho
                rw [← eσ17] at B
                refine lv_aload_n hx hb dX10_bondIt_224 rfl (lv_at hl 1 rfl) ?_
                refine r_get (ci := 14) (C := RX10) (T := TX10) (N := 21) S F B (kq (by decide) : kd 198 = 21 ∧ 198 < NN) rfl rfl hiX10 0 (by decide) (by decide +kernel) rfl dX10_bondIt_225 ?_
                refine lv_iload_n hx hb dX10_bondIt_228 rfl (lv_at hl 2 rfl) ?_
                obtain ⟨q18, hq18, ho⟩ := bnd_ ho
                refine k_iS (As := [.int a0]) (rest := [.ref (G.2.2 199)]) S F B (c_X10_gardenerAt l G σ17 _ a0 hq18) (va_cwS 1 hts gX10_bondIt_X10_gardenerAt rfl rfl rfl (by decide +kernel) ⟨Nat.le_of_ble_eq_true rfl, Nat.le_of_ble_eq_true rfl⟩) rfl hl.1 rfl (Nat.le_of_ble_eq_true rfl) dX10_bondIt_229 ⟨Nat.le_of_ble_eq_true rfl, Nat.le_of_ble_eq_true rfl⟩ (fun H locs B => ?_)
                refine lv_iconst (v := 1) hx hb dX10_bondIt_232 (by decide) ?_
                refine lv_iadd hx hb dX10_bondIt_233 ?_
                refine lv_dup2_11 hx hb dX10_bondIt_234 rfl rfl ?_
                obtain ⟨hi, ho⟩ := gd_ ho
                refine r_iald S F B (kq (by decide) : kd 199 = 22 ∧ 199 < NN) rfl hi dX10_bondIt_235 ?_
                refine lv_iconst (v := 2) hx hb dX10_bondIt_236 (by decide) ?_
                refine lv_iload_n hx hb dX10_bondIt_237 rfl (lv_at hl 4 rfl) ?_
                refine lv_imul hx hb dX10_bondIt_238 ?_
                refine lv_iadd hx hb dX10_bondIt_239 ?_
                obtain ⟨hi, ho⟩ := gd_ ho
                refine r_iast S F B (kq (by decide) : kd 199 = 22 ∧ 199 < NN) (fun _ => rfl) hi dX10_bondIt_240 (fun H locs B => ?_)
                obtain ⟨σ19, eσ19, ho⟩ := lt_ ho
                rw [← eσ19] at B
                refine lv_aload_n hx hb dX10_bondIt_241 rfl (lv_at hl 1 rfl) ?_
                refine r_get (ci := 14) (C := RX10) (T := TX10) (N := 21) S F B (kq (by decide) : kd 198 = 21 ∧ 198 < NN) rfl rfl hiX10 0 (by decide) (by decide +kernel) rfl dX10_bondIt_242 ?_
                refine lv_iload hx hb dX10_bondIt_245 (lv_at hl 0 rfl) ?_
                obtain ⟨hi, ho⟩ := gd_ ho
                refine r_iald S F B (kq (by decide) : kd 199 = 22 ∧ 199 < NN) rfl hi dX10_bondIt_247 ?_
                cases ho
                exact e_i B hx hb hr hlocks rfl rfl dX10_bondIt_248
              · have ho := in_ c12 ho
                refine lv_aload_n hx hb dX10_bondIt_159 rfl (lv_at hl 1 rfl) ?_
                refine lv_iconst (v := 5) hx hb dX10_bondIt_160 (by decide) ?_
                refine lv_iconst (v := 2) hx hb dX10_bondIt_161 (by decide) ?_
                refine lv_iload_n hx hb dX10_bondIt_162 rfl (lv_at hl 4 rfl) ?_
                refine lv_imul hx hb dX10_bondIt_163 ?_
                refine lv_aload_n hx hb dX10_bondIt_164 rfl (lv_at hl 1 rfl) ?_
                refine r_get (ci := 14) (C := RX10) (T := TX10) (N := 21) S F B (kq (by decide) : kd 198 = 21 ∧ 198 < NN) rfl rfl hiX10 0 (by decide) (by decide +kernel) rfl dX10_bondIt_165 ?_
                refine lv_iload hx hb dX10_bondIt_168 (lv_at hl 0 rfl) ?_
                obtain ⟨hi, ho⟩ := gd_ ho
                refine r_iald S F B (kq (by decide) : kd 199 = 22 ∧ 199 < NN) rfl hi dX10_bondIt_170 ?_
                refine lv_isub hx hb dX10_bondIt_171 ?_
                obtain ⟨q20, σ21, hq20, ho⟩ := bnm_ ho
                refine k_iV (As := [.int 5, .int ((2 * a2) - (σ 199 q7.toNatClampNeg))]) (rest := []) S F B (c_X10_refuse l G σ _ 5 ((2 * a2) - (σ 199 q7.toNatClampNeg)) hq20) (kq (by decide) : kd 198 = 21 ∧ 198 < NN) rfl rfl (cwV 2 hts gX10_bondIt_X10_refuse rfl rfl rfl (by decide +kernel) ⟨Nat.le_of_ble_eq_true rfl, Nat.le_of_ble_eq_true rfl⟩) rfl hl.1 rfl (Nat.le_of_ble_eq_true rfl) dX10_bondIt_172 ⟨Nat.le_of_ble_eq_true rfl, Nat.le_of_ble_eq_true rfl⟩ (fun H locs B => ?_)
                cases ho
                exact e_i B hx hb hr hlocks rfl rfl dX10_bondIt_175
            · have ho := in_ c11 ho
              refine lv_aload_n hx hb dX10_bondIt_133 rfl (lv_at hl 1 rfl) ?_
              refine lv_bipush (v := 10) hx hb dX10_bondIt_134 (by decide) ?_
              refine lv_aload_n hx hb dX10_bondIt_136 rfl (lv_at hl 1 rfl) ?_
              refine r_get (ci := 14) (C := RX10) (T := TX10) (N := 21) S F B (kq (by decide) : kd 198 = 21 ∧ 198 < NN) rfl rfl hiX10 0 (by decide) (by decide +kernel) rfl dX10_bondIt_137 ?_
              refine lv_iconst (v := 2) hx hb dX10_bondIt_140 (by decide) ?_
              refine r_ialdc (j := 2) S F B (kq (by decide) : kd 199 = 22 ∧ 199 < NN) rfl (vpc (by decide)) (by decide) dX10_bondIt_141 ?_
              obtain ⟨q22, σ23, hq22, ho⟩ := bnm_ ho
              refine k_iV (As := [.int 10, .int (σ 199 2)]) (rest := []) S F B (c_X10_refuse l G σ _ 10 (σ 199 2) hq22) (kq (by decide) : kd 198 = 21 ∧ 198 < NN) rfl rfl (cwV 2 hts gX10_bondIt_X10_refuse rfl rfl rfl (by decide +kernel) ⟨Nat.le_of_ble_eq_true rfl, Nat.le_of_ble_eq_true rfl⟩) rfl hl.1 rfl (Nat.le_of_ble_eq_true rfl) dX10_bondIt_142 ⟨Nat.le_of_ble_eq_true rfl, Nat.le_of_ble_eq_true rfl⟩ (fun H locs B => ?_)
              cases ho
              exact e_i B hx hb hr hlocks rfl rfl dX10_bondIt_145
          · have ho := in_ c9 ho
            refine lv_aload_n hx hb dX10_bondIt_109 rfl (lv_at hl 1 rfl) ?_
            refine lv_bipush (v := 8) hx hb dX10_bondIt_110 (by decide) ?_
            refine lv_aload_n hx hb dX10_bondIt_112 rfl (lv_at hl 1 rfl) ?_
            refine r_get (ci := 14) (C := RX10) (T := TX10) (N := 21) S F B (kq (by decide) : kd 198 = 21 ∧ 198 < NN) rfl rfl hiX10 0 (by decide) (by decide +kernel) rfl dX10_bondIt_113 ?_
            refine lv_iload hx hb dX10_bondIt_116 (lv_at hl 0 rfl) ?_
            refine lv_iconst (v := 4) hx hb dX10_bondIt_118 (by decide) ?_
            refine lv_iadd hx hb dX10_bondIt_119 ?_
            obtain ⟨hi, ho⟩ := gd_ ho
            refine r_iald S F B (kq (by decide) : kd 199 = 22 ∧ 199 < NN) rfl hi dX10_bondIt_120 ?_
            obtain ⟨q24, σ25, hq24, ho⟩ := bnm_ ho
            refine k_iV (As := [.int 8, .int (σ 199 (q7 + 4).toNatClampNeg)]) (rest := []) S F B (c_X10_refuse l G σ _ 8 (σ 199 (q7 + 4).toNatClampNeg) hq24) (kq (by decide) : kd 198 = 21 ∧ 198 < NN) rfl rfl (cwV 2 hts gX10_bondIt_X10_refuse rfl rfl rfl (by decide +kernel) ⟨Nat.le_of_ble_eq_true rfl, Nat.le_of_ble_eq_true rfl⟩) rfl hl.1 rfl (Nat.le_of_ble_eq_true rfl) dX10_bondIt_121 ⟨Nat.le_of_ble_eq_true rfl, Nat.le_of_ble_eq_true rfl⟩ (fun H locs B => ?_)
            cases ho
            exact e_i B hx hb hr hlocks rfl rfl dX10_bondIt_124
        · have ho := ip_ c8 ho
          refine lv_aload_n hx hb dX10_bondIt_80 rfl (lv_at hl 1 rfl) ?_
          refine lv_bipush (v := 9) hx hb dX10_bondIt_81 (by decide) ?_
          refine lv_aload_n hx hb dX10_bondIt_83 rfl (lv_at hl 1 rfl) ?_
          refine r_get (ci := 14) (C := RX10) (T := TX10) (N := 21) S F B (kq (by decide) : kd 198 = 21 ∧ 198 < NN) rfl rfl hiX10 0 (by decide) (by decide +kernel) rfl dX10_bondIt_84 ?_
          refine lv_iload hx hb dX10_bondIt_87 (lv_at hl 0 rfl) ?_
          refine lv_iconst (v := 2) hx hb dX10_bondIt_89 (by decide) ?_
          refine lv_iadd hx hb dX10_bondIt_90 ?_
          obtain ⟨hi, ho⟩ := gd_ ho
          refine r_iald S F B (kq (by decide) : kd 199 = 22 ∧ 199 < NN) rfl hi dX10_bondIt_91 ?_
          obtain ⟨q26, σ27, hq26, ho⟩ := bnm_ ho
          refine k_iV (As := [.int 9, .int (σ 199 (q7 + 2).toNatClampNeg)]) (rest := []) S F B (c_X10_refuse l G σ _ 9 (σ 199 (q7 + 2).toNatClampNeg) hq26) (kq (by decide) : kd 198 = 21 ∧ 198 < NN) rfl rfl (cwV 2 hts gX10_bondIt_X10_refuse rfl rfl rfl (by decide +kernel) ⟨Nat.le_of_ble_eq_true rfl, Nat.le_of_ble_eq_true rfl⟩) rfl hl.1 rfl (Nat.le_of_ble_eq_true rfl) dX10_bondIt_92 ⟨Nat.le_of_ble_eq_true rfl, Nat.le_of_ble_eq_true rfl⟩ (fun H locs B => ?_)
          cases ho
          exact e_i B hx hb hr hlocks rfl rfl dX10_bondIt_95
      · have ho := ip_ c6 ho
        refine lv_aload_n hx hb dX10_bondIt_53 rfl (lv_at hl 0 rfl) ?_
        refine lv_iconst (v := 1) hx hb dX10_bondIt_54 (by decide) ?_
        refine lv_iconst (v := 0) hx hb dX10_bondIt_55 (by decide) ?_
        obtain ⟨q28, σ29, hq28, ho⟩ := bnm_ ho
        refine k_iV (As := [.int 1, .int 0]) (rest := []) S F B (c_X10_refuse l G σ _ 1 0 hq28) (kq (by decide) : kd 198 = 21 ∧ 198 < NN) rfl rfl (cwV 2 hts gX10_bondIt_X10_refuse rfl rfl rfl (by decide +kernel) ⟨Nat.le_of_ble_eq_true rfl, Nat.le_of_ble_eq_true rfl⟩) rfl hl.1 rfl (Nat.le_of_ble_eq_true rfl) dX10_bondIt_56 ⟨Nat.le_of_ble_eq_true rfl, Nat.le_of_ble_eq_true rfl⟩ (fun H locs B => ?_)
        cases ho
        exact e_i B hx hb hr hlocks rfl rfl dX10_bondIt_59
    · have ho := ip_ c4 ho
      refine lv_aload_n hx hb dX10_bondIt_28 rfl (lv_at hl 0 rfl) ?_
      refine lv_bipush (v := 7) hx hb dX10_bondIt_29 (by decide) ?_
      refine lv_aload_n hx hb dX10_bondIt_31 rfl (lv_at hl 0 rfl) ?_
      refine r_get (ci := 14) (C := RX10) (T := TX10) (N := 21) S F B (kq (by decide) : kd 198 = 21 ∧ 198 < NN) rfl rfl hiX10 0 (by decide) (by decide +kernel) rfl dX10_bondIt_32 ?_
      refine lv_iconst (v := 1) hx hb dX10_bondIt_35 (by decide) ?_
      refine r_ialdc (j := 1) S F B (kq (by decide) : kd 199 = 22 ∧ 199 < NN) rfl (vpc (by decide)) (by decide) dX10_bondIt_36 ?_
      obtain ⟨q30, σ31, hq30, ho⟩ := bnm_ ho
      refine k_iV (As := [.int 7, .int (σ 199 1)]) (rest := []) S F B (c_X10_refuse l G σ _ 7 (σ 199 1) hq30) (kq (by decide) : kd 198 = 21 ∧ 198 < NN) rfl rfl (cwV 2 hts gX10_bondIt_X10_refuse rfl rfl rfl (by decide +kernel) ⟨Nat.le_of_ble_eq_true rfl, Nat.le_of_ble_eq_true rfl⟩) rfl hl.1 rfl (Nat.le_of_ble_eq_true rfl) dX10_bondIt_37 ⟨Nat.le_of_ble_eq_true rfl, Nat.le_of_ble_eq_true rfl⟩ (fun H locs B => ?_)
      cases ho
      exact e_i B hx hb hr hlocks rfl rfl dX10_bondIt_40
  · have ho := ip_ c2 ho
    refine lv_aload_n hx hb dX10_bondIt_8 rfl (lv_at hl 0 rfl) ?_
    refine lv_iconst (v := 4) hx hb dX10_bondIt_9 (by decide) ?_
    refine lv_aload_n hx hb dX10_bondIt_10 rfl (lv_at hl 0 rfl) ?_
    refine r_get (ci := 14) (C := RX10) (T := TX10) (N := 21) S F B (kq (by decide) : kd 198 = 21 ∧ 198 < NN) rfl rfl hiX10 0 (by decide) (by decide +kernel) rfl dX10_bondIt_11 ?_
    refine lv_iconst (v := 0) hx hb dX10_bondIt_14 (by decide) ?_
    refine r_ialdc (j := 0) S F B (kq (by decide) : kd 199 = 22 ∧ 199 < NN) rfl (vpc (by decide)) (by decide) dX10_bondIt_15 ?_
    obtain ⟨q32, σ33, hq32, ho⟩ := bnm_ ho
    refine k_iV (As := [.int 4, .int (σ 199 0)]) (rest := []) S F B (c_X10_refuse l G σ _ 4 (σ 199 0) hq32) (kq (by decide) : kd 198 = 21 ∧ 198 < NN) rfl rfl (cwV 2 hts gX10_bondIt_X10_refuse rfl rfl rfl (by decide +kernel) ⟨Nat.le_of_ble_eq_true rfl, Nat.le_of_ble_eq_true rfl⟩) rfl hl.1 rfl (Nat.le_of_ble_eq_true rfl) dX10_bondIt_16 ⟨Nat.le_of_ble_eq_true rfl, Nat.le_of_ble_eq_true rfl⟩ (fun H locs B => ?_)
    cases ho
    exact e_i B hx hb hr hlocks rfl rfl dX10_bondIt_19

set_option maxHeartbeats 4000000 in
set_option maxRecDepth 100000 in
theorem c_X10_bond (l : Launch) (G : Gd) (σ : Mm) (sz : Nat) (a0 : Int32) (a1 : Int32) (a2 : Int32) {out : Int32 × Mm} (ho : f_X10_bond a0 a1 a2 σ = some out) : Met l yX10_bond wsX10_bond { frames := 3, cells := 0, slots := 0, locals := 70 } (va_Pc [.ref (G.2.2 198), .int a0, .int a1, .int a2] (PW G σ sz)) (Qi G sz out.1 out.2) 0 0 (AA G sz) := by
  refine Met.ofW (cc := cX10_bond) (maxL := 4) (ret := (some .int)) (by decide) rfl ?_
  intro p e s m args below meth c s₁ B0 hml hv
  obtain ⟨rfl, hpw⟩ := hv
  have hsz := hpw.1
  subst hsz
  obtain ⟨F, B⟩ := hpw.to
  have hx := B0.exec
  have hb := B0.bytes
  have hr := B0.returns
  have hts := atoms_spec (ws := wsX10_bond) B0.pre
  have hown : s.vm.findClass RX10 = some m.cls := findClass_of_methodNamed B0.named
  have hlocks := B0.notSynchronized
  have S : CallFix p m c cX10_bond 4 s _ wsX10_bond RX10 := ⟨hx, hb, hml, hown, hts⟩
  have hl := lv_entry [.ref (G.2.2 198), .int a0, .int a1, .int a2] (n := 4) (Nat.le_of_ble_eq_true rfl)
  rw [lg_entry_eq]
  generalize (lg_sl [.ref (G.2.2 198), .int a0, .int a1, .int a2] ++ List.replicate (4 - (lg_sl [.ref (G.2.2 198), .int a0, .int a1, .int a2]).length) Slot.unset).toArray = ls at hl ⊢
  have hl : lv_has ls 4 [(0, .ref (G.2.2 198)), (1, .int a0), (2, .int a1), (3, .int a2)] := hl
  unfold f_X10_bond at ho
  refine lv_aload_n hx hb dX10_bond_0 rfl (lv_at hl 0 rfl) ?_
  obtain ⟨σ2, hq1, ho⟩ := bnd_ ho
  refine k_vV (As := []) (rest := []) S F B (c_X10_starts l G σ _ hq1) (kq (by decide) : kd 198 = 21 ∧ 198 < NN) rfl rfl (cwV 0 hts gX10_bond_X10_starts rfl rfl rfl (by decide +kernel) ⟨Nat.le_of_ble_eq_true rfl, Nat.le_of_ble_eq_true rfl⟩) rfl hl.1 rfl (Nat.le_of_ble_eq_true rfl) dX10_bond_1 ⟨Nat.le_of_ble_eq_true rfl, Nat.le_of_ble_eq_true rfl⟩ (fun H locs B => ?_)
  refine lv_aload_n hx hb dX10_bond_4 rfl (lv_at hl 0 rfl) ?_
  refine lv_aload_n hx hb dX10_bond_5 rfl (lv_at hl 0 rfl) ?_
  refine lv_iload_n hx hb dX10_bond_6 rfl (lv_at hl 1 rfl) ?_
  refine lv_iload_n hx hb dX10_bond_7 rfl (lv_at hl 2 rfl) ?_
  refine lv_iload_n hx hb dX10_bond_8 rfl (lv_at hl 3 rfl) ?_
  obtain ⟨q3, σ4, hq3, ho⟩ := bnm_ ho
  refine k_iV (As := [.int a0, .int a1, .int a2]) (rest := [.ref (G.2.2 198)]) S F B (c_X10_bondIt l G σ2 _ a0 a1 a2 hq3) (kq (by decide) : kd 198 = 21 ∧ 198 < NN) rfl rfl (cwV 3 hts gX10_bond_X10_bondIt rfl rfl rfl (by decide +kernel) ⟨Nat.le_of_ble_eq_true rfl, Nat.le_of_ble_eq_true rfl⟩) rfl hl.1 rfl (Nat.le_of_ble_eq_true rfl) dX10_bond_9 ⟨Nat.le_of_ble_eq_true rfl, Nat.le_of_ble_eq_true rfl⟩ (fun H locs B => ?_)
  obtain ⟨q5, σ6, hq5, ho⟩ := bnm_ ho
  refine k_iV (As := [.int q3]) (rest := []) S F B (c_X10_changed l G σ4 _ q3 hq5) (kq (by decide) : kd 198 = 21 ∧ 198 < NN) rfl rfl (cwV 1 hts gX10_bond_X10_changed rfl rfl rfl (by decide +kernel) ⟨Nat.le_of_ble_eq_true rfl, Nat.le_of_ble_eq_true rfl⟩) rfl hl.1 rfl (Nat.le_of_ble_eq_true rfl) dX10_bond_12 ⟨Nat.le_of_ble_eq_true rfl, Nat.le_of_ble_eq_true rfl⟩ (fun H locs B => ?_)
  cases ho
  exact e_i B hx hb hr hlocks rfl rfl dX10_bond_15

set_option maxHeartbeats 4000000 in
set_option maxRecDepth 100000 in
theorem c_X10_lostOf (l : Launch) (G : Gd) (σ : Mm) (sz : Nat) (a0 : Int32) {out : Int32} (ho : f_X10_lostOf a0 σ = some out) : Met l yX10_lostOf wsX10_lostOf { frames := 1, cells := 0, slots := 0, locals := 32 } (va_Pc [.ref (G.2.2 198), .int a0] (PW G σ sz)) (Qi G sz out σ) 0 0 (AA G sz) := by
  refine Met.ofW (cc := cX10_lostOf) (maxL := 3) (ret := (some .int)) (by decide) rfl ?_
  intro p e s m args below meth c s₁ B0 hml hv
  obtain ⟨rfl, hpw⟩ := hv
  have hsz := hpw.1
  subst hsz
  obtain ⟨F, B⟩ := hpw.to
  have hx := B0.exec
  have hb := B0.bytes
  have hr := B0.returns
  have hts := atoms_spec (ws := wsX10_lostOf) B0.pre
  have hown : s.vm.findClass RX10 = some m.cls := findClass_of_methodNamed B0.named
  have hlocks := B0.notSynchronized
  have S : CallFix p m c cX10_lostOf 3 s _ wsX10_lostOf RX10 := ⟨hx, hb, hml, hown, hts⟩
  have hiX10 : ∀ w ∈ u_ws RX10 TX10 21, w ∈ wsX10_lostOf := by decide +kernel
  have hl := lv_entry [.ref (G.2.2 198), .int a0] (n := 3) (Nat.le_of_ble_eq_true rfl)
  rw [lg_entry_eq]
  generalize (lg_sl [.ref (G.2.2 198), .int a0] ++ List.replicate (3 - (lg_sl [.ref (G.2.2 198), .int a0]).length) Slot.unset).toArray = ls at hl ⊢
  have hl : lv_has ls 3 [(0, .ref (G.2.2 198)), (1, .int a0)] := hl
  unfold f_X10_lostOf at ho
  refine lv_iload_n hx hb dX10_lostOf_0 rfl (lv_at hl 1 rfl) ?_
  obtain ⟨q1, hq1, ho⟩ := bnd_ ho
  refine k_iS (As := [.int a0]) (rest := []) S F B (c_X10_visitorAt l G σ _ a0 hq1) (va_cwS 1 hts gX10_lostOf_X10_visitorAt rfl rfl rfl (by decide +kernel) ⟨Nat.le_of_ble_eq_true rfl, Nat.le_of_ble_eq_true rfl⟩) rfl hl.1 rfl (Nat.le_of_ble_eq_true rfl) dX10_lostOf_1 ⟨Nat.le_of_ble_eq_true rfl, Nat.le_of_ble_eq_true rfl⟩ (fun H locs B => ?_)
  refine lv_istore_n (lv' := [(2, .int q1), (0, .ref (G.2.2 198)), (1, .int a0)]) hx hb dX10_lostOf_4 rfl hl (by decide) rfl (fun ls hl => ?_)
  refine lv_iconst (v := 0) hx hb dX10_lostOf_5 (by decide) ?_
  refine lv_aload_n hx hb dX10_lostOf_6 rfl (lv_at hl 1 rfl) ?_
  refine r_get (ci := 14) (C := RX10) (T := TX10) (N := 21) S F B (kq (by decide) : kd 198 = 21 ∧ 198 < NN) rfl rfl hiX10 0 (by decide) (by decide +kernel) rfl dX10_lostOf_7 ?_
  refine lv_iload_n hx hb dX10_lostOf_10 rfl (lv_at hl 0 rfl) ?_
  refine lv_iconst (v := 2) hx hb dX10_lostOf_11 (by decide) ?_
  refine lv_iadd hx hb dX10_lostOf_12 ?_
  obtain ⟨hi, ho⟩ := gd_ ho
  refine r_iald S F B (kq (by decide) : kd 199 = 22 ∧ 199 < NN) rfl hi dX10_lostOf_13 ?_
  refine lv_aload_n hx hb dX10_lostOf_14 rfl (lv_at hl 1 rfl) ?_
  refine r_get (ci := 14) (C := RX10) (T := TX10) (N := 21) S F B (kq (by decide) : kd 198 = 21 ∧ 198 < NN) rfl rfl hiX10 0 (by decide) (by decide +kernel) rfl dX10_lostOf_15 ?_
  refine lv_iload_n hx hb dX10_lostOf_18 rfl (lv_at hl 0 rfl) ?_
  refine lv_iconst (v := 3) hx hb dX10_lostOf_19 (by decide) ?_
  refine lv_iadd hx hb dX10_lostOf_20 ?_
  obtain ⟨hi, ho⟩ := gd_ ho
  refine r_iald S F B (kq (by decide) : kd 199 = 22 ∧ 199 < NN) rfl hi dX10_lostOf_21 ?_
  refine lv_isub hx hb dX10_lostOf_22 ?_
  refine va_mmax hx hb (hml.trans hl.1.symm) hown (hts _ (by decide +kernel)) (hts _ (by decide +kernel)) (hts _ (by decide +kernel)) (hts _ (by decide +kernel)) (Nat.le_of_ble_eq_true rfl) (Nat.le_of_ble_eq_true rfl) (Nat.le_of_ble_eq_true rfl) (Nat.le_of_ble_eq_true rfl) dX10_lostOf_23 ?_
  cases ho
  exact e_i B hx hb hr hlocks rfl rfl dX10_lostOf_26

set_option maxHeartbeats 4000000 in
set_option maxRecDepth 100000 in
theorem c_X10_pays (l : Launch) (G : Gd) (σ : Mm) (sz : Nat) (a0 : Int32) (a1 : Int32) {out : Int32} (ho : f_X10_pays a0 a1 σ = some out) : Met l yX10_pays wsX10_pays { frames := 1, cells := 0, slots := 0, locals := 32 } (va_Pc [.ref (G.2.2 198), .int a0, .int a1] (PW G σ sz)) (Qi G sz out σ) 0 0 (AA G sz) := by
  refine Met.ofW (cc := cX10_pays) (maxL := 5) (ret := (some .int)) (by decide) rfl ?_
  intro p e s m args below meth c s₁ B0 hml hv
  obtain ⟨rfl, hpw⟩ := hv
  have hsz := hpw.1
  subst hsz
  obtain ⟨F, B⟩ := hpw.to
  have hx := B0.exec
  have hb := B0.bytes
  have hr := B0.returns
  have hts := atoms_spec (ws := wsX10_pays) B0.pre
  have hown : s.vm.findClass RX10 = some m.cls := findClass_of_methodNamed B0.named
  have hlocks := B0.notSynchronized
  have S : CallFix p m c cX10_pays 5 s _ wsX10_pays RX10 := ⟨hx, hb, hml, hown, hts⟩
  have hiX10 : ∀ w ∈ u_ws RX10 TX10 21, w ∈ wsX10_pays := by decide +kernel
  have hl := lv_entry [.ref (G.2.2 198), .int a0, .int a1] (n := 5) (Nat.le_of_ble_eq_true rfl)
  rw [lg_entry_eq]
  generalize (lg_sl [.ref (G.2.2 198), .int a0, .int a1] ++ List.replicate (5 - (lg_sl [.ref (G.2.2 198), .int a0, .int a1]).length) Slot.unset).toArray = ls at hl ⊢
  have hl : lv_has ls 5 [(0, .ref (G.2.2 198)), (1, .int a0), (2, .int a1)] := hl
  unfold f_X10_pays at ho
  refine lv_iload_n hx hb dX10_pays_0 rfl (lv_at hl 1 rfl) ?_
  obtain ⟨q1, hq1, ho⟩ := bnd_ ho
  refine k_iS (As := [.int a0]) (rest := []) S F B (c_X10_visitorAt l G σ _ a0 hq1) (va_cwS 1 hts gX10_pays_X10_visitorAt rfl rfl rfl (by decide +kernel) ⟨Nat.le_of_ble_eq_true rfl, Nat.le_of_ble_eq_true rfl⟩) rfl hl.1 rfl (Nat.le_of_ble_eq_true rfl) dX10_pays_1 ⟨Nat.le_of_ble_eq_true rfl, Nat.le_of_ble_eq_true rfl⟩ (fun H locs B => ?_)
  refine lv_istore_n (lv' := [(3, .int q1), (0, .ref (G.2.2 198)), (1, .int a0), (2, .int a1)]) hx hb dX10_pays_4 rfl hl (by decide) rfl (fun ls hl => ?_)
  refine lv_aload_n hx hb dX10_pays_5 rfl (lv_at hl 1 rfl) ?_
  refine r_get (ci := 14) (C := RX10) (T := TX10) (N := 21) S F B (kq (by decide) : kd 198 = 21 ∧ 198 < NN) rfl rfl hiX10 0 (by decide) (by decide +kernel) rfl dX10_pays_6 ?_
  refine lv_iload_n hx hb dX10_pays_9 rfl (lv_at hl 0 rfl) ?_
  refine lv_iconst (v := 4) hx hb dX10_pays_10 (by decide) ?_
  refine lv_iadd hx hb dX10_pays_11 ?_
  obtain ⟨hi, ho⟩ := gd_ ho
  refine r_iald S F B (kq (by decide) : kd 199 = 22 ∧ 199 < NN) rfl hi dX10_pays_12 ?_
  refine lv_iconst (v := (-1)) hx hb dX10_pays_13 (by decide) ?_
  refine lv_icmp_eq (tgt := 30) hx hb dX10_pays_14 (by decide) (fun c2 => ?_) (fun c2 => ?_)
  · have ho := ip_ c2 ho
    refine lv_iconst (v := 1) hx hb dX10_pays_30 (by decide) ?_
    refine lv_goto (tgt := 35) hx hb dX10_pays_31 (by decide) ?_
    refine lv_istore (lv' := [(4, .int 1), (3, .int q1), (0, .ref (G.2.2 198)), (1, .int a0), (2, .int a1)]) hx hb dX10_pays_35 hl (by decide) rfl (fun ls hl => ?_)
    refine lv_iload hx hb dX10_pays_37 (lv_at hl 0 rfl) ?_
    refine lv_if_eq (tgt := 46) hx hb dX10_pays_39 (by decide) (fun h => absurd h (by decide)) (fun _ => ?_)
    refine lv_iconst (v := 0) hx hb dX10_pays_42 (by decide) ?_
    refine lv_goto (tgt := 75) hx hb dX10_pays_43 (by decide) ?_
    cases ho
    exact e_i B hx hb hr hlocks rfl rfl dX10_pays_75
  · have ho := in_ c2 ho
    refine lv_aload_n hx hb dX10_pays_17 rfl (lv_at hl 1 rfl) ?_
    refine r_get (ci := 14) (C := RX10) (T := TX10) (N := 21) S F B (kq (by decide) : kd 198 = 21 ∧ 198 < NN) rfl rfl hiX10 0 (by decide) (by decide +kernel) rfl dX10_pays_18 ?_
    refine lv_iload_n hx hb dX10_pays_21 rfl (lv_at hl 0 rfl) ?_
    refine lv_bipush (v := 6) hx hb dX10_pays_22 (by decide) ?_
    refine lv_iadd hx hb dX10_pays_24 ?_
    obtain ⟨hi, ho⟩ := gd_ ho
    refine r_iald S F B (kq (by decide) : kd 199 = 22 ∧ 199 < NN) rfl hi dX10_pays_25 ?_
    refine lv_iconst (v := 1) hx hb dX10_pays_26 (by decide) ?_
    refine lv_icmp_ne (tgt := 34) hx hb dX10_pays_27 (by decide) (fun c3 => ?_) (fun c3 => ?_)
    · have ho := in_ c3 ho
      refine lv_iconst (v := 0) hx hb dX10_pays_34 (by decide) ?_
      refine lv_istore (lv' := [(4, .int 0), (3, .int q1), (0, .ref (G.2.2 198)), (1, .int a0), (2, .int a1)]) hx hb dX10_pays_35 hl (by decide) rfl (fun ls hl => ?_)
      refine lv_iload hx hb dX10_pays_37 (lv_at hl 0 rfl) ?_
      refine lv_if_eq (tgt := 46) hx hb dX10_pays_39 (by decide) (fun _ => ?_) (fun h => absurd h (by decide))
      refine lv_aload_n hx hb dX10_pays_46 rfl (lv_at hl 2 rfl) ?_
      refine r_get (ci := 14) (C := RX10) (T := TX10) (N := 21) S F B (kq (by decide) : kd 198 = 21 ∧ 198 < NN) rfl rfl hiX10 0 (by decide) (by decide +kernel) rfl dX10_pays_47 ?_
      refine lv_iload_n hx hb dX10_pays_50 rfl (lv_at hl 1 rfl) ?_
      refine lv_iconst (v := 5) hx hb dX10_pays_51 (by decide) ?_
      refine lv_iadd hx hb dX10_pays_52 ?_
      obtain ⟨hi, ho⟩ := gd_ ho
      refine r_iald S F B (kq (by decide) : kd 199 = 22 ∧ 199 < NN) rfl hi dX10_pays_53 ?_
      refine lv_iload_n hx hb dX10_pays_54 rfl (lv_at hl 4 rfl) ?_
      refine lv_imul hx hb dX10_pays_55 ?_
      refine lv_aload_n hx hb dX10_pays_56 rfl (lv_at hl 2 rfl) ?_
      refine r_get (ci := 14) (C := RX10) (T := TX10) (N := 21) S F B (kq (by decide) : kd 198 = 21 ∧ 198 < NN) rfl rfl hiX10 0 (by decide) (by decide +kernel) rfl dX10_pays_57 ?_
      refine lv_aload_n hx hb dX10_pays_60 rfl (lv_at hl 2 rfl) ?_
      refine r_get (ci := 14) (C := RX10) (T := TX10) (N := 21) S F B (kq (by decide) : kd 198 = 21 ∧ 198 < NN) rfl rfl hiX10 0 (by decide) (by decide +kernel) rfl dX10_pays_61 ?_
      refine lv_iload_n hx hb dX10_pays_64 rfl (lv_at hl 1 rfl) ?_
      refine lv_iconst (v := 4) hx hb dX10_pays_65 (by decide) ?_
      refine lv_iadd hx hb dX10_pays_66 ?_
      obtain ⟨hi, ho⟩ := gd_ ho
      refine r_iald S F B (kq (by decide) : kd 199 = 22 ∧ 199 < NN) rfl hi dX10_pays_67 ?_
      obtain ⟨q4, hq4, ho⟩ := bnd_ ho
      refine k_iS (As := [.int (σ 199 (q1 + 4).toNatClampNeg)]) (rest := [.ref (G.2.2 199), .int ((σ 199 (q1 + 5).toNatClampNeg) * a1)]) S F B (c_X10_gardenerAt l G σ _ (σ 199 (q1 + 4).toNatClampNeg) hq4) (va_cwS 1 hts gX10_pays_X10_gardenerAt rfl rfl rfl (by decide +kernel) ⟨Nat.le_of_ble_eq_true rfl, Nat.le_of_ble_eq_true rfl⟩) rfl hl.1 rfl (Nat.le_of_ble_eq_true rfl) dX10_pays_68 ⟨Nat.le_of_ble_eq_true rfl, Nat.le_of_ble_eq_true rfl⟩ (fun H locs B => ?_)
      obtain ⟨hi, ho⟩ := gd_ ho
      refine r_iald S F B (kq (by decide) : kd 199 = 22 ∧ 199 < NN) rfl hi dX10_pays_71 ?_
      refine va_mmin hx hb (hml.trans hl.1.symm) hown (hts _ (by decide +kernel)) (hts _ (by decide +kernel)) (hts _ (by decide +kernel)) (hts _ (by decide +kernel)) (Nat.le_of_ble_eq_true rfl) (Nat.le_of_ble_eq_true rfl) (Nat.le_of_ble_eq_true rfl) (Nat.le_of_ble_eq_true rfl) dX10_pays_72 ?_
      cases ho
      exact e_i B hx hb hr hlocks rfl rfl dX10_pays_75
    · have ho := ip_ c3 ho
      refine lv_iconst (v := 1) hx hb dX10_pays_30 (by decide) ?_
      refine lv_goto (tgt := 35) hx hb dX10_pays_31 (by decide) ?_
      refine lv_istore (lv' := [(4, .int 1), (3, .int q1), (0, .ref (G.2.2 198)), (1, .int a0), (2, .int a1)]) hx hb dX10_pays_35 hl (by decide) rfl (fun ls hl => ?_)
      refine lv_iload hx hb dX10_pays_37 (lv_at hl 0 rfl) ?_
      refine lv_if_eq (tgt := 46) hx hb dX10_pays_39 (by decide) (fun h => absurd h (by decide)) (fun _ => ?_)
      refine lv_iconst (v := 0) hx hb dX10_pays_42 (by decide) ?_
      refine lv_goto (tgt := 75) hx hb dX10_pays_43 (by decide) ?_
      cases ho
      exact e_i B hx hb hr hlocks rfl rfl dX10_pays_75

set_option maxHeartbeats 4000000 in
set_option maxRecDepth 100000 in
theorem c_X10_walkIt (l : Launch) (G : Gd) (σ : Mm) (sz : Nat) (a0 : Int32) (a1 : Int32) {out : Int32 × Mm} (ho : f_X10_walkIt a0 a1 σ = some out) : Met l yX10_walkIt wsX10_walkIt { frames := 2, cells := 0, slots := 0, locals := 56 } (va_Pc [.ref (G.2.2 198), .int a0, .int a1] (PW G σ sz)) (Qi G sz out.1 out.2) 0 0 (AA G sz) := by
  refine Met.ofW (cc := cX10_walkIt) (maxL := 7) (ret := (some .int)) (by decide) rfl ?_
  intro p e s m args below meth c s₁ B0 hml hv
  obtain ⟨rfl, hpw⟩ := hv
  have hsz := hpw.1
  subst hsz
  obtain ⟨F, B⟩ := hpw.to
  have hx := B0.exec
  have hb := B0.bytes
  have hr := B0.returns
  have hts := atoms_spec (ws := wsX10_walkIt) B0.pre
  have hown : s.vm.findClass RX10 = some m.cls := findClass_of_methodNamed B0.named
  have hlocks := B0.notSynchronized
  have S : CallFix p m c cX10_walkIt 7 s _ wsX10_walkIt RX10 := ⟨hx, hb, hml, hown, hts⟩
  have hiX10 : ∀ w ∈ u_ws RX10 TX10 21, w ∈ wsX10_walkIt := by decide +kernel
  have hl := lv_entry [.ref (G.2.2 198), .int a0, .int a1] (n := 7) (Nat.le_of_ble_eq_true rfl)
  rw [lg_entry_eq]
  generalize (lg_sl [.ref (G.2.2 198), .int a0, .int a1] ++ List.replicate (7 - (lg_sl [.ref (G.2.2 198), .int a0, .int a1]).length) Slot.unset).toArray = ls at hl ⊢
  have hl : lv_has ls 7 [(0, .ref (G.2.2 198)), (1, .int a0), (2, .int a1)] := hl
  unfold f_X10_walkIt at ho
  refine lv_aload_n hx hb dX10_walkIt_0 rfl (lv_at hl 0 rfl) ?_
  refine lv_iload_n hx hb dX10_walkIt_1 rfl (lv_at hl 1 rfl) ?_
  obtain ⟨q1, hq1, ho⟩ := bnd_ ho
  refine k_iV (As := [.int a0]) (rest := []) S F B (c_X10_isVisitor l G σ _ a0 hq1) (kq (by decide) : kd 198 = 21 ∧ 198 < NN) rfl rfl (cwV 1 hts gX10_walkIt_X10_isVisitor rfl rfl rfl (by decide +kernel) ⟨Nat.le_of_ble_eq_true rfl, Nat.le_of_ble_eq_true rfl⟩) rfl hl.1 rfl (Nat.le_of_ble_eq_true rfl) dX10_walkIt_2 ⟨Nat.le_of_ble_eq_true rfl, Nat.le_of_ble_eq_true rfl⟩ (fun H locs B => ?_)
  refine lv_if_ne (tgt := 21) hx hb dX10_walkIt_5 (by decide) (fun c2 => ?_) (fun c2 => ?_)
  · have ho := in_ c2 ho
    refine lv_iload_n hx hb dX10_walkIt_21 rfl (lv_at hl 2 rfl) ?_
    refine lv_i2l hx hb dX10_walkIt_22 rfl ?_
    refine lv_lconst (v := 0) hx hb dX10_walkIt_23 (by decide) ?_
    refine lv_ldc2 (v := 3) hx hb hown (hts _ (by decide +kernel)) dX10_walkIt_24 ?_
    obtain ⟨q3, hq3, ho⟩ := bnd_ ho
    refine k_iS (As := [.long a1.toInt64, .long 0, .long 3]) (rest := []) S F B (c_X10_in l G σ _ a1.toInt64 0 3 hq3) (va_cwS 3 hts gX10_walkIt_X10_in rfl rfl rfl (by decide +kernel) ⟨Nat.le_of_ble_eq_true rfl, Nat.le_of_ble_eq_true rfl⟩) rfl hl.1 rfl (Nat.le_of_ble_eq_true rfl) dX10_walkIt_27 ⟨Nat.le_of_ble_eq_true rfl, Nat.le_of_ble_eq_true rfl⟩ (fun H locs B => ?_)
    refine lv_if_ne (tgt := 40) hx hb dX10_walkIt_30 (by decide) (fun c4 => ?_) (fun c4 => ?_)
    · have ho := in_ c4 ho
      refine lv_iload_n hx hb dX10_walkIt_40 rfl (lv_at hl 1 rfl) ?_
      obtain ⟨q5, hq5, ho⟩ := bnd_ ho
      refine k_iS (As := [.int a0]) (rest := []) S F B (c_X10_visitorAt l G σ _ a0 hq5) (va_cwS 1 hts gX10_walkIt_X10_visitorAt rfl rfl rfl (by decide +kernel) ⟨Nat.le_of_ble_eq_true rfl, Nat.le_of_ble_eq_true rfl⟩) rfl hl.1 rfl (Nat.le_of_ble_eq_true rfl) dX10_walkIt_41 ⟨Nat.le_of_ble_eq_true rfl, Nat.le_of_ble_eq_true rfl⟩ (fun H locs B => ?_)
      refine lv_istore_n (lv' := [(3, .int q5), (0, .ref (G.2.2 198)), (1, .int a0), (2, .int a1)]) hx hb dX10_walkIt_44 rfl hl (by decide) rfl (fun ls hl => ?_)
      refine lv_aload_n hx hb dX10_walkIt_45 rfl (lv_at hl 1 rfl) ?_
      refine r_get (ci := 14) (C := RX10) (T := TX10) (N := 21) S F B (kq (by decide) : kd 198 = 21 ∧ 198 < NN) rfl rfl hiX10 0 (by decide) (by decide +kernel) rfl dX10_walkIt_46 ?_
      refine lv_iload_n hx hb dX10_walkIt_49 rfl (lv_at hl 0 rfl) ?_
      refine lv_bipush (v := 7) hx hb dX10_walkIt_50 (by decide) ?_
      refine lv_iadd hx hb dX10_walkIt_52 ?_
      obtain ⟨hi, ho⟩ := gd_ ho
      refine r_iald S F B (kq (by decide) : kd 199 = 22 ∧ 199 < NN) rfl hi dX10_walkIt_53 ?_
      refine lv_iconst (v := 1) hx hb dX10_walkIt_54 (by decide) ?_
      refine lv_icmp_ne (tgt := 73) hx hb dX10_walkIt_55 (by decide) (fun c6 => ?_) (fun c6 => ?_)
      · have ho := in_ c6 ho
        refine lv_aload_n hx hb dX10_walkIt_73 rfl (lv_at hl 1 rfl) ?_
        refine r_get (ci := 14) (C := RX10) (T := TX10) (N := 21) S F B (kq (by decide) : kd 198 = 21 ∧ 198 < NN) rfl rfl hiX10 0 (by decide) (by decide +kernel) rfl dX10_walkIt_74 ?_
        refine lv_iload_n hx hb dX10_walkIt_77 rfl (lv_at hl 0 rfl) ?_
        refine lv_iconst (v := 1) hx hb dX10_walkIt_78 (by decide) ?_
        refine lv_iadd hx hb dX10_walkIt_79 ?_
        obtain ⟨hi, ho⟩ := gd_ ho
        refine r_iald S F B (kq (by decide) : kd 199 = 22 ∧ 199 < NN) rfl hi dX10_walkIt_80 ?_
        obtain ⟨x7, ex7, ho⟩ := lt_ ho
        refine lv_nm ex7 ?_
        refine lv_istore (lv' := [(4, .int x7), (3, .int q5), (0, .ref (G.2.2 198)), (1, .int a0), (2, .int a1)]) hx hb dX10_walkIt_81 hl (by decide) rfl (fun ls hl => ?_)
        refine lv_iload hx hb dX10_walkIt_83 (lv_at hl 0 rfl) ?_
        refine lv_iload_n hx hb dX10_walkIt_85 rfl (lv_at hl 4 rfl) ?_
        obtain ⟨q8, hq8, ho⟩ := bnd_ ho
        refine k_iS (As := [.int x7, .int a1]) (rest := []) S F B (c_X10_nextTo l G σ _ x7 a1 hq8) (va_cwS 2 hts gX10_walkIt_X10_nextTo rfl rfl rfl (by decide +kernel) ⟨Nat.le_of_ble_eq_true rfl, Nat.le_of_ble_eq_true rfl⟩) rfl hl.1 rfl (Nat.le_of_ble_eq_true rfl) dX10_walkIt_86 ⟨Nat.le_of_ble_eq_true rfl, Nat.le_of_ble_eq_true rfl⟩ (fun H locs B => ?_)
        refine lv_istore (lv' := [(5, .int q8), (4, .int x7), (3, .int q5), (0, .ref (G.2.2 198)), (1, .int a0), (2, .int a1)]) hx hb dX10_walkIt_89 hl (by decide) rfl (fun ls hl => ?_)
        refine lv_iload hx hb dX10_walkIt_91 (lv_at hl 0 rfl) ?_
        refine lv_iconst (v := (-1)) hx hb dX10_walkIt_93 (by decide) ?_
        refine lv_icmp_ne (tgt := 106) hx hb dX10_walkIt_94 (by decide) (fun c9 => ?_) (fun c9 => ?_)
        · have ho := in_ c9 ho
          refine lv_aload_n hx hb dX10_walkIt_106 rfl (lv_at hl 3 rfl) ?_
          refine lv_iload hx hb dX10_walkIt_107 (lv_at hl 1 rfl) ?_
          refine lv_iload hx hb dX10_walkIt_109 (lv_at hl 0 rfl) ?_
          obtain ⟨q10, hq10, ho⟩ := bnd_ ho
          refine k_iS (As := [.int x7, .int q8]) (rest := [.ref (G.2.2 198)]) S F B (c_X10_hedgeAt l G σ _ x7 q8 hq10) (va_cwS 2 hts gX10_walkIt_X10_hedgeAt rfl rfl rfl (by decide +kernel) ⟨Nat.le_of_ble_eq_true rfl, Nat.le_of_ble_eq_true rfl⟩) rfl hl.1 rfl (Nat.le_of_ble_eq_true rfl) dX10_walkIt_111 ⟨Nat.le_of_ble_eq_true rfl, Nat.le_of_ble_eq_true rfl⟩ (fun H locs B => ?_)
          obtain ⟨q11, hq11, ho⟩ := bnd_ ho
          refine k_iV (As := [.int q10]) (rest := []) S F B (c_X10_isGapAt l G σ _ q10 hq11) (kq (by decide) : kd 198 = 21 ∧ 198 < NN) rfl rfl (cwV 1 hts gX10_walkIt_X10_isGapAt rfl rfl rfl (by decide +kernel) ⟨Nat.le_of_ble_eq_true rfl, Nat.le_of_ble_eq_true rfl⟩) rfl hl.1 rfl (Nat.le_of_ble_eq_true rfl) dX10_walkIt_114 ⟨Nat.le_of_ble_eq_true rfl, Nat.le_of_ble_eq_true rfl⟩ (fun H locs B => ?_)
          refine lv_if_ne (tgt := 139) hx hb dX10_walkIt_117 (by decide) (fun c12 => ?_) (fun c12 => ?_)
          · have ho := in_ c12 ho
            refine lv_aload_n hx hb dX10_walkIt_139 rfl (lv_at hl 3 rfl) ?_
            refine r_get (ci := 14) (C := RX10) (T := TX10) (N := 21) S F B (kq (by decide) : kd 198 = 21 ∧ 198 < NN) rfl rfl hiX10 0 (by decide) (by decide +kernel) rfl dX10_walkIt_140 ?_
            refine lv_iload_n hx hb dX10_walkIt_143 rfl (lv_at hl 2 rfl) ?_
            refine lv_iconst (v := 1) hx hb dX10_walkIt_144 (by decide) ?_
            refine lv_iadd hx hb dX10_walkIt_145 ?_
            refine lv_iload hx hb dX10_walkIt_146 (lv_at hl 0 rfl) ?_
            obtain ⟨hi, ho⟩ := gd_ ho
            refine r_iast S F B (kq (by decide) : kd 199 = 22 ∧ 199 < NN) (fun _ => rfl) hi dX10_walkIt_148 (fun H locs B => ?_)
            obtain ⟨σ13, eσ13, ho⟩ := lt_ ho
            rw [← eσ13] at B
            refine lv_aload_n hx hb dX10_walkIt_149 rfl (lv_at hl 3 rfl) ?_
            refine r_get (ci := 14) (C := RX10) (T := TX10) (N := 21) S F B (kq (by decide) : kd 198 = 21 ∧ 198 < NN) rfl rfl hiX10 0 (by decide) (by decide +kernel) rfl dX10_walkIt_150 ?_
            refine lv_iload_n hx hb dX10_walkIt_153 rfl (lv_at hl 2 rfl) ?_
            refine lv_iconst (v := 2) hx hb dX10_walkIt_154 (by decide) ?_
            refine lv_iadd hx hb dX10_walkIt_155 ?_
            refine lv_dup2_11 hx hb dX10_walkIt_156 rfl rfl ?_
            obtain ⟨hi, ho⟩ := gd_ ho
            refine r_iald S F B (kq (by decide) : kd 199 = 22 ∧ 199 < NN) rfl hi dX10_walkIt_157 ?_
            refine lv_iconst (v := 1) hx hb dX10_walkIt_158 (by decide) ?_
            refine lv_iadd hx hb dX10_walkIt_159 ?_
            obtain ⟨hi, ho⟩ := gd_ ho
            refine r_iast S F B (kq (by decide) : kd 199 = 22 ∧ 199 < NN) (fun _ => rfl) hi dX10_walkIt_160 (fun H locs B => ?_)
            obtain ⟨σ14, eσ14, ho⟩ := lt_ ho
            rw [← eσ14] at B
            refine lv_aload_n hx hb dX10_walkIt_161 rfl (lv_at hl 3 rfl) ?_
            refine r_get (ci := 14) (C := RX10) (T := TX10) (N := 21) S F B (kq (by decide) : kd 198 = 21 ∧ 198 < NN) rfl rfl hiX10 0 (by decide) (by decide +kernel) rfl dX10_walkIt_162 ?_
            refine lv_iload_n hx hb dX10_walkIt_165 rfl (lv_at hl 2 rfl) ?_
            refine lv_bipush (v := 6) hx hb dX10_walkIt_166 (by decide) ?_
            refine lv_iadd hx hb dX10_walkIt_168 ?_
            refine lv_aload_n hx hb dX10_walkIt_169 rfl (lv_at hl 3 rfl) ?_
            refine lv_iload_n hx hb dX10_walkIt_170 rfl (lv_at hl 4 rfl) ?_
            obtain ⟨q15, hq15, ho⟩ := bnd_ ho
            refine k_iV (As := [.int a0]) (rest := [.int (q5 + 6), .ref (G.2.2 199)]) S F B (c_X10_meets l G σ14 _ a0 hq15) (kq (by decide) : kd 198 = 21 ∧ 198 < NN) rfl rfl (cwV 1 hts gX10_walkIt_X10_meets rfl rfl rfl (by decide +kernel) ⟨Nat.le_of_ble_eq_true rfl, Nat.le_of_ble_eq_true rfl⟩) rfl hl.1 rfl (Nat.le_of_ble_eq_true rfl) dX10_walkIt_171 ⟨Nat.le_of_ble_eq_true rfl, Nat.le_of_ble_eq_true rfl⟩ (fun H locs B => ?_)
            refine lv_if_eq (tgt := 192) hx hb dX10_walkIt_174 (by decide) (fun c16 => ?_) (fun c16 => ?_)
            · have ho := ip_ c16 ho
              refine lv_aload_n hx hb dX10_walkIt_192 rfl (lv_at hl 3 rfl) ?_
              refine r_get (ci := 14) (C := RX10) (T := TX10) (N := 21) S F B (kq (by decide) : kd 198 = 21 ∧ 198 < NN) rfl rfl hiX10 0 (by decide) (by decide +kernel) rfl dX10_walkIt_193 ?_
              refine lv_iload_n hx hb dX10_walkIt_196 rfl (lv_at hl 2 rfl) ?_
              refine lv_bipush (v := 6) hx hb dX10_walkIt_197 (by decide) ?_
              refine lv_iadd hx hb dX10_walkIt_199 ?_
              obtain ⟨hi, ho⟩ := gd_ ho
              refine r_iald S F B (kq (by decide) : kd 199 = 22 ∧ 199 < NN) rfl hi dX10_walkIt_200 ?_
              obtain ⟨hi, ho⟩ := gd_ ho
              refine r_iast S F B (kq (by decide) : kd 199 = 22 ∧ 199 < NN) (fun _ => rfl) hi dX10_walkIt_201 (fun H locs B => ?_)
              obtain ⟨σ17, eσ17, ho⟩ := lt_ ho
              rw [← eσ17] at B
              refine lv_iload hx hb dX10_walkIt_202 (lv_at hl 0 rfl) ?_
              refine lv_bipush (v := 15) hx hb dX10_walkIt_204 (by decide) ?_
              refine lv_icmp_ne (tgt := 326) hx hb dX10_walkIt_206 (by decide) (fun c18 => ?_) (fun c18 => ?_)
              · have ho := in_ c18 ho
                refine lv_iload hx hb dX10_walkIt_326 (lv_at hl 0 rfl) ?_
                cases ho
                exact e_i B hx hb hr hlocks rfl rfl dX10_walkIt_328
              · have ho := ip_ c18 ho
                refine lv_aload_n hx hb dX10_walkIt_209 rfl (lv_at hl 3 rfl) ?_
                refine lv_iload_n hx hb dX10_walkIt_210 rfl (lv_at hl 4 rfl) ?_
                refine lv_aload_n hx hb dX10_walkIt_211 rfl (lv_at hl 3 rfl) ?_
                refine lv_iload_n hx hb dX10_walkIt_212 rfl (lv_at hl 4 rfl) ?_
                obtain ⟨q19, hq19, ho⟩ := bnd_ ho
                refine k_iV (As := [.int a0]) (rest := [.int a0, .ref (G.2.2 198)]) S F B (c_X10_lostOf l G σ17 _ a0 hq19) (kq (by decide) : kd 198 = 21 ∧ 198 < NN) rfl rfl (cwV 1 hts gX10_walkIt_X10_lostOf rfl rfl rfl (by decide +kernel) ⟨Nat.le_of_ble_eq_true rfl, Nat.le_of_ble_eq_true rfl⟩) rfl hl.1 rfl (Nat.le_of_ble_eq_true rfl) dX10_walkIt_213 ⟨Nat.le_of_ble_eq_true rfl, Nat.le_of_ble_eq_true rfl⟩ (fun H locs B => ?_)
                obtain ⟨q20, hq20, ho⟩ := bnd_ ho
                refine k_iV (As := [.int a0, .int q19]) (rest := []) S F B (c_X10_pays l G σ17 _ a0 q19 hq20) (kq (by decide) : kd 198 = 21 ∧ 198 < NN) rfl rfl (cwV 2 hts gX10_walkIt_X10_pays rfl rfl rfl (by decide +kernel) ⟨Nat.le_of_ble_eq_true rfl, Nat.le_of_ble_eq_true rfl⟩) rfl hl.1 rfl (Nat.le_of_ble_eq_true rfl) dX10_walkIt_216 ⟨Nat.le_of_ble_eq_true rfl, Nat.le_of_ble_eq_true rfl⟩ (fun H locs B => ?_)
                refine lv_istore (lv' := [(6, .int q20), (5, .int q8), (4, .int x7), (3, .int q5), (0, .ref (G.2.2 198)), (1, .int a0), (2, .int a1)]) hx hb dX10_walkIt_219 hl (by decide) rfl (fun ls hl => ?_)
                refine lv_aload_n hx hb dX10_walkIt_221 rfl (lv_at hl 4 rfl) ?_
                refine r_get (ci := 14) (C := RX10) (T := TX10) (N := 21) S F B (kq (by decide) : kd 198 = 21 ∧ 198 < NN) rfl rfl hiX10 0 (by decide) (by decide +kernel) rfl dX10_walkIt_222 ?_
                refine lv_iload_n hx hb dX10_walkIt_225 rfl (lv_at hl 3 rfl) ?_
                refine lv_dup2_11 hx hb dX10_walkIt_226 rfl rfl ?_
                obtain ⟨hi, ho⟩ := gd_ ho
                refine r_iald S F B (kq (by decide) : kd 199 = 22 ∧ 199 < NN) rfl hi dX10_walkIt_227 ?_
                refine lv_iload hx hb dX10_walkIt_228 (lv_at hl 0 rfl) ?_
                refine lv_iadd hx hb dX10_walkIt_230 ?_
                obtain ⟨hi, ho⟩ := gd_ ho
                refine r_iast S F B (kq (by decide) : kd 199 = 22 ∧ 199 < NN) (fun _ => rfl) hi dX10_walkIt_231 (fun H locs B => ?_)
                obtain ⟨σ21, eσ21, ho⟩ := lt_ ho
                rw [← eσ21] at B
                refine lv_aload_n hx hb dX10_walkIt_232 rfl (lv_at hl 4 rfl) ?_
                refine r_get (ci := 14) (C := RX10) (T := TX10) (N := 21) S F B (kq (by decide) : kd 198 = 21 ∧ 198 < NN) rfl rfl hiX10 0 (by decide) (by decide +kernel) rfl dX10_walkIt_233 ?_
                refine lv_iload_n hx hb dX10_walkIt_236 rfl (lv_at hl 3 rfl) ?_
                refine lv_iconst (v := 4) hx hb dX10_walkIt_237 (by decide) ?_
                refine lv_iadd hx hb dX10_walkIt_238 ?_
                obtain ⟨hi, ho⟩ := gd_ ho
                refine r_iald S F B (kq (by decide) : kd 199 = 22 ∧ 199 < NN) rfl hi dX10_walkIt_239 ?_
                refine lv_iconst (v := (-1)) hx hb dX10_walkIt_240 (by decide) ?_
                refine lv_icmp_eq (tgt := 288) hx hb dX10_walkIt_241 (by decide) (fun c22 => ?_) (fun c22 => ?_)
                · have ho := ip_ c22 ho
                  refine lv_aload_n hx hb dX10_walkIt_288 rfl (lv_at hl 4 rfl) ?_
                  refine r_get (ci := 14) (C := RX10) (T := TX10) (N := 21) S F B (kq (by decide) : kd 198 = 21 ∧ 198 < NN) rfl rfl hiX10 0 (by decide) (by decide +kernel) rfl dX10_walkIt_289 ?_
                  refine lv_iload_n hx hb dX10_walkIt_292 rfl (lv_at hl 3 rfl) ?_
                  refine lv_bipush (v := 7) hx hb dX10_walkIt_293 (by decide) ?_
                  refine lv_iadd hx hb dX10_walkIt_295 ?_
                  refine lv_iconst (v := 1) hx hb dX10_walkIt_296 (by decide) ?_
                  obtain ⟨hi, ho⟩ := gd_ ho
                  refine r_iast S F B (kq (by decide) : kd 199 = 22 ∧ 199 < NN) (fun _ => rfl) hi dX10_walkIt_297 (fun H locs B => ?_)
                  obtain ⟨σ23, eσ23, ho⟩ := lt_ ho
                  rw [← eσ23] at B
                  refine lv_aload_n hx hb dX10_walkIt_298 rfl (lv_at hl 4 rfl) ?_
                  refine r_get (ci := 14) (C := RX10) (T := TX10) (N := 21) S F B (kq (by decide) : kd 198 = 21 ∧ 198 < NN) rfl rfl hiX10 0 (by decide) (by decide +kernel) rfl dX10_walkIt_299 ?_
                  refine lv_iload_n hx hb dX10_walkIt_302 rfl (lv_at hl 3 rfl) ?_
                  refine lv_iconst (v := 4) hx hb dX10_walkIt_303 (by decide) ?_
                  refine lv_iadd hx hb dX10_walkIt_304 ?_
                  refine lv_iconst (v := (-1)) hx hb dX10_walkIt_305 (by decide) ?_
                  obtain ⟨hi, ho⟩ := gd_ ho
                  refine r_iast S F B (kq (by decide) : kd 199 = 22 ∧ 199 < NN) (fun _ => rfl) hi dX10_walkIt_306 (fun H locs B => ?_)
                  obtain ⟨σ24, eσ24, ho⟩ := lt_ ho
                  rw [← eσ24] at B
                  refine lv_aload_n hx hb dX10_walkIt_307 rfl (lv_at hl 4 rfl) ?_
                  refine r_get (ci := 14) (C := RX10) (T := TX10) (N := 21) S F B (kq (by decide) : kd 198 = 21 ∧ 198 < NN) rfl rfl hiX10 0 (by decide) (by decide +kernel) rfl dX10_walkIt_308 ?_
                  refine lv_iload_n hx hb dX10_walkIt_311 rfl (lv_at hl 3 rfl) ?_
                  refine lv_iconst (v := 5) hx hb dX10_walkIt_312 (by decide) ?_
                  refine lv_iadd hx hb dX10_walkIt_313 ?_
                  refine lv_iconst (v := 0) hx hb dX10_walkIt_314 (by decide) ?_
                  obtain ⟨hi, ho⟩ := gd_ ho
                  refine r_iast S F B (kq (by decide) : kd 199 = 22 ∧ 199 < NN) (fun _ => rfl) hi dX10_walkIt_315 (fun H locs B => ?_)
                  obtain ⟨σ25, eσ25, ho⟩ := lt_ ho
                  rw [← eσ25] at B
                  refine lv_aload_n hx hb dX10_walkIt_316 rfl (lv_at hl 4 rfl) ?_
                  refine r_get (ci := 14) (C := RX10) (T := TX10) (N := 21) S F B (kq (by decide) : kd 198 = 21 ∧ 198 < NN) rfl rfl hiX10 0 (by decide) (by decide +kernel) rfl dX10_walkIt_317 ?_
                  refine lv_iload_n hx hb dX10_walkIt_320 rfl (lv_at hl 3 rfl) ?_
                  refine lv_bipush (v := 6) hx hb dX10_walkIt_321 (by decide) ?_
                  refine lv_iadd hx hb dX10_walkIt_323 ?_
                  refine lv_iconst (v := 0) hx hb dX10_walkIt_324 (by decide) ?_
                  obtain ⟨hi, ho⟩ := gd_ ho
                  refine r_iast S F B (kq (by decide) : kd 199 = 22 ∧ 199 < NN) (fun _ => rfl) hi dX10_walkIt_325 (fun H locs B => ?_)
                  obtain ⟨σ26, eσ26, ho⟩ := lt_ ho
                  rw [← eσ26] at B
                  refine lv_iload hx hb dX10_walkIt_326 (lv_at hl 1 rfl) ?_
                  cases ho
                  exact e_i B hx hb hr hlocks rfl rfl dX10_walkIt_328
                · have ho := in_ c22 ho
                  refine lv_aload_n hx hb dX10_walkIt_244 rfl (lv_at hl 4 rfl) ?_
                  refine r_get (ci := 14) (C := RX10) (T := TX10) (N := 21) S F B (kq (by decide) : kd 198 = 21 ∧ 198 < NN) rfl rfl hiX10 0 (by decide) (by decide +kernel) rfl dX10_walkIt_245 ?_
                  refine lv_aload_n hx hb dX10_walkIt_248 rfl (lv_at hl 4 rfl) ?_
                  refine r_get (ci := 14) (C := RX10) (T := TX10) (N := 21) S F B (kq (by decide) : kd 198 = 21 ∧ 198 < NN) rfl rfl hiX10 0 (by decide) (by decide +kernel) rfl dX10_walkIt_249 ?_
                  refine lv_iload_n hx hb dX10_walkIt_252 rfl (lv_at hl 3 rfl) ?_
                  refine lv_iconst (v := 4) hx hb dX10_walkIt_253 (by decide) ?_
                  refine lv_iadd hx hb dX10_walkIt_254 ?_
                  obtain ⟨hi, ho⟩ := gd_ ho
                  refine r_iald S F B (kq (by decide) : kd 199 = 22 ∧ 199 < NN) rfl hi dX10_walkIt_255 ?_
                  obtain ⟨q27, hq27, ho⟩ := bnd_ ho
                  refine k_iS (As := [.int (σ21 199 (q5 + 4).toNatClampNeg)]) (rest := [.ref (G.2.2 199)]) S F B (c_X10_gardenerAt l G σ21 _ (σ21 199 (q5 + 4).toNatClampNeg) hq27) (va_cwS 1 hts gX10_walkIt_X10_gardenerAt rfl rfl rfl (by decide +kernel) ⟨Nat.le_of_ble_eq_true rfl, Nat.le_of_ble_eq_true rfl⟩) rfl hl.1 rfl (Nat.le_of_ble_eq_true rfl) dX10_walkIt_256 ⟨Nat.le_of_ble_eq_true rfl, Nat.le_of_ble_eq_true rfl⟩ (fun H locs B => ?_)
                  refine lv_dup2_11 hx hb dX10_walkIt_259 rfl rfl ?_
                  obtain ⟨hi, ho⟩ := gd_ ho
                  refine r_iald S F B (kq (by decide) : kd 199 = 22 ∧ 199 < NN) rfl hi dX10_walkIt_260 ?_
                  refine lv_iload hx hb dX10_walkIt_261 (lv_at hl 0 rfl) ?_
                  refine lv_isub hx hb dX10_walkIt_263 ?_
                  obtain ⟨hi, ho⟩ := gd_ ho
                  refine r_iast S F B (kq (by decide) : kd 199 = 22 ∧ 199 < NN) (fun _ => rfl) hi dX10_walkIt_264 (fun H locs B => ?_)
                  obtain ⟨σ28, eσ28, ho⟩ := lt_ ho
                  rw [← eσ28] at B
                  refine lv_aload_n hx hb dX10_walkIt_265 rfl (lv_at hl 4 rfl) ?_
                  refine r_get (ci := 14) (C := RX10) (T := TX10) (N := 21) S F B (kq (by decide) : kd 198 = 21 ∧ 198 < NN) rfl rfl hiX10 0 (by decide) (by decide +kernel) rfl dX10_walkIt_266 ?_
                  refine lv_aload_n hx hb dX10_walkIt_269 rfl (lv_at hl 4 rfl) ?_
                  refine r_get (ci := 14) (C := RX10) (T := TX10) (N := 21) S F B (kq (by decide) : kd 198 = 21 ∧ 198 < NN) rfl rfl hiX10 0 (by decide) (by decide +kernel) rfl dX10_walkIt_270 ?_
                  refine lv_iload_n hx hb dX10_walkIt_273 rfl (lv_at hl 3 rfl) ?_
                  refine lv_iconst (v := 4) hx hb dX10_walkIt_274 (by decide) ?_
                  refine lv_iadd hx hb dX10_walkIt_275 ?_
                  obtain ⟨hi, ho⟩ := gd_ ho
                  refine r_iald S F B (kq (by decide) : kd 199 = 22 ∧ 199 < NN) rfl hi dX10_walkIt_276 ?_
                  obtain ⟨q29, hq29, ho⟩ := bnd_ ho
                  refine k_iS (As := [.int (σ28 199 (q5 + 4).toNatClampNeg)]) (rest := [.ref (G.2.2 199)]) S F B (c_X10_gardenerAt l G σ28 _ (σ28 199 (q5 + 4).toNatClampNeg) hq29) (va_cwS 1 hts gX10_walkIt_X10_gardenerAt rfl rfl rfl (by decide +kernel) ⟨Nat.le_of_ble_eq_true rfl, Nat.le_of_ble_eq_true rfl⟩) rfl hl.1 rfl (Nat.le_of_ble_eq_true rfl) dX10_walkIt_277 ⟨Nat.le_of_ble_eq_true rfl, Nat.le_of_ble_eq_true rfl⟩ (fun H locs B => ?_)
                  refine lv_iconst (v := 2) hx hb dX10_walkIt_280 (by decide) ?_
                  refine lv_iadd hx hb dX10_walkIt_281 ?_
                  refine lv_dup2_11 hx hb dX10_walkIt_282 rfl rfl ?_
                  obtain ⟨hi, ho⟩ := gd_ ho
                  refine r_iald S F B (kq (by decide) : kd 199 = 22 ∧ 199 < NN) rfl hi dX10_walkIt_283 ?_
                  refine lv_iload hx hb dX10_walkIt_284 (lv_at hl 0 rfl) ?_
                  refine lv_iadd hx hb dX10_walkIt_286 ?_
                  obtain ⟨hi, ho⟩ := gd_ ho
                  refine r_iast S F B (kq (by decide) : kd 199 = 22 ∧ 199 < NN) (fun _ => rfl) hi dX10_walkIt_287 (fun H locs B => ?_)
                  obtain ⟨σ30, eσ30, ho⟩ := lt_ ho
                  rw [← eσ30] at B
                  refine lv_aload_n hx hb dX10_walkIt_288 rfl (lv_at hl 4 rfl) ?_
                  refine r_get (ci := 14) (C := RX10) (T := TX10) (N := 21) S F B (kq (by decide) : kd 198 = 21 ∧ 198 < NN) rfl rfl hiX10 0 (by decide) (by decide +kernel) rfl dX10_walkIt_289 ?_
                  refine lv_iload_n hx hb dX10_walkIt_292 rfl (lv_at hl 3 rfl) ?_
                  refine lv_bipush (v := 7) hx hb dX10_walkIt_293 (by decide) ?_
                  refine lv_iadd hx hb dX10_walkIt_295 ?_
                  refine lv_iconst (v := 1) hx hb dX10_walkIt_296 (by decide) ?_
                  obtain ⟨hi, ho⟩ := gd_ ho
                  refine r_iast S F B (kq (by decide) : kd 199 = 22 ∧ 199 < NN) (fun _ => rfl) hi dX10_walkIt_297 (fun H locs B => ?_)
                  obtain ⟨σ31, eσ31, ho⟩ := lt_ ho
                  rw [← eσ31] at B
                  refine lv_aload_n hx hb dX10_walkIt_298 rfl (lv_at hl 4 rfl) ?_
                  refine r_get (ci := 14) (C := RX10) (T := TX10) (N := 21) S F B (kq (by decide) : kd 198 = 21 ∧ 198 < NN) rfl rfl hiX10 0 (by decide) (by decide +kernel) rfl dX10_walkIt_299 ?_
                  refine lv_iload_n hx hb dX10_walkIt_302 rfl (lv_at hl 3 rfl) ?_
                  refine lv_iconst (v := 4) hx hb dX10_walkIt_303 (by decide) ?_
                  refine lv_iadd hx hb dX10_walkIt_304 ?_
                  refine lv_iconst (v := (-1)) hx hb dX10_walkIt_305 (by decide) ?_
                  obtain ⟨hi, ho⟩ := gd_ ho
                  refine r_iast S F B (kq (by decide) : kd 199 = 22 ∧ 199 < NN) (fun _ => rfl) hi dX10_walkIt_306 (fun H locs B => ?_)
                  obtain ⟨σ32, eσ32, ho⟩ := lt_ ho
                  rw [← eσ32] at B
                  refine lv_aload_n hx hb dX10_walkIt_307 rfl (lv_at hl 4 rfl) ?_
                  refine r_get (ci := 14) (C := RX10) (T := TX10) (N := 21) S F B (kq (by decide) : kd 198 = 21 ∧ 198 < NN) rfl rfl hiX10 0 (by decide) (by decide +kernel) rfl dX10_walkIt_308 ?_
                  refine lv_iload_n hx hb dX10_walkIt_311 rfl (lv_at hl 3 rfl) ?_
                  refine lv_iconst (v := 5) hx hb dX10_walkIt_312 (by decide) ?_
                  refine lv_iadd hx hb dX10_walkIt_313 ?_
                  refine lv_iconst (v := 0) hx hb dX10_walkIt_314 (by decide) ?_
                  obtain ⟨hi, ho⟩ := gd_ ho
                  refine r_iast S F B (kq (by decide) : kd 199 = 22 ∧ 199 < NN) (fun _ => rfl) hi dX10_walkIt_315 (fun H locs B => ?_)
                  obtain ⟨σ33, eσ33, ho⟩ := lt_ ho
                  rw [← eσ33] at B
                  refine lv_aload_n hx hb dX10_walkIt_316 rfl (lv_at hl 4 rfl) ?_
                  refine r_get (ci := 14) (C := RX10) (T := TX10) (N := 21) S F B (kq (by decide) : kd 198 = 21 ∧ 198 < NN) rfl rfl hiX10 0 (by decide) (by decide +kernel) rfl dX10_walkIt_317 ?_
                  refine lv_iload_n hx hb dX10_walkIt_320 rfl (lv_at hl 3 rfl) ?_
                  refine lv_bipush (v := 6) hx hb dX10_walkIt_321 (by decide) ?_
                  refine lv_iadd hx hb dX10_walkIt_323 ?_
                  refine lv_iconst (v := 0) hx hb dX10_walkIt_324 (by decide) ?_
                  obtain ⟨hi, ho⟩ := gd_ ho
                  refine r_iast S F B (kq (by decide) : kd 199 = 22 ∧ 199 < NN) (fun _ => rfl) hi dX10_walkIt_325 (fun H locs B => ?_)
                  obtain ⟨σ34, eσ34, ho⟩ := lt_ ho
                  rw [← eσ34] at B
                  refine lv_iload hx hb dX10_walkIt_326 (lv_at hl 1 rfl) ?_
                  cases ho
                  exact e_i B hx hb hr hlocks rfl rfl dX10_walkIt_328
            · have ho := in_ c16 ho
              refine lv_aload_n hx hb dX10_walkIt_177 rfl (lv_at hl 3 rfl) ?_
              refine r_get (ci := 14) (C := RX10) (T := TX10) (N := 21) S F B (kq (by decide) : kd 198 = 21 ∧ 198 < NN) rfl rfl hiX10 0 (by decide) (by decide +kernel) rfl dX10_walkIt_178 ?_
              refine lv_iload_n hx hb dX10_walkIt_181 rfl (lv_at hl 2 rfl) ?_
              refine lv_iconst (v := 5) hx hb dX10_walkIt_182 (by decide) ?_
              refine lv_iadd hx hb dX10_walkIt_183 ?_
              obtain ⟨hi, ho⟩ := gd_ ho
              refine r_iald S F B (kq (by decide) : kd 199 = 22 ∧ 199 < NN) rfl hi dX10_walkIt_184 ?_
              refine lv_if_le (tgt := 192) hx hb dX10_walkIt_185 (by decide) (fun c35 => ?_) (fun c35 => ?_)
              · have ho := ip_ c35 ho
                refine lv_aload_n hx hb dX10_walkIt_192 rfl (lv_at hl 3 rfl) ?_
                refine r_get (ci := 14) (C := RX10) (T := TX10) (N := 21) S F B (kq (by decide) : kd 198 = 21 ∧ 198 < NN) rfl rfl hiX10 0 (by decide) (by decide +kernel) rfl dX10_walkIt_193 ?_
                refine lv_iload_n hx hb dX10_walkIt_196 rfl (lv_at hl 2 rfl) ?_
                refine lv_bipush (v := 6) hx hb dX10_walkIt_197 (by decide) ?_
                refine lv_iadd hx hb dX10_walkIt_199 ?_
                obtain ⟨hi, ho⟩ := gd_ ho
                refine r_iald S F B (kq (by decide) : kd 199 = 22 ∧ 199 < NN) rfl hi dX10_walkIt_200 ?_
                obtain ⟨hi, ho⟩ := gd_ ho
                refine r_iast S F B (kq (by decide) : kd 199 = 22 ∧ 199 < NN) (fun _ => rfl) hi dX10_walkIt_201 (fun H locs B => ?_)
                obtain ⟨σ36, eσ36, ho⟩ := lt_ ho
                rw [← eσ36] at B
                refine lv_iload hx hb dX10_walkIt_202 (lv_at hl 0 rfl) ?_
                refine lv_bipush (v := 15) hx hb dX10_walkIt_204 (by decide) ?_
                refine lv_icmp_ne (tgt := 326) hx hb dX10_walkIt_206 (by decide) (fun c37 => ?_) (fun c37 => ?_)
                · have ho := in_ c37 ho
                  refine lv_iload hx hb dX10_walkIt_326 (lv_at hl 0 rfl) ?_
                  cases ho
                  exact e_i B hx hb hr hlocks rfl rfl dX10_walkIt_328
                · have ho := ip_ c37 ho
                  refine lv_aload_n hx hb dX10_walkIt_209 rfl (lv_at hl 3 rfl) ?_
                  refine lv_iload_n hx hb dX10_walkIt_210 rfl (lv_at hl 4 rfl) ?_
                  refine lv_aload_n hx hb dX10_walkIt_211 rfl (lv_at hl 3 rfl) ?_
                  refine lv_iload_n hx hb dX10_walkIt_212 rfl (lv_at hl 4 rfl) ?_
                  obtain ⟨q38, hq38, ho⟩ := bnd_ ho
                  refine k_iV (As := [.int a0]) (rest := [.int a0, .ref (G.2.2 198)]) S F B (c_X10_lostOf l G σ36 _ a0 hq38) (kq (by decide) : kd 198 = 21 ∧ 198 < NN) rfl rfl (cwV 1 hts gX10_walkIt_X10_lostOf rfl rfl rfl (by decide +kernel) ⟨Nat.le_of_ble_eq_true rfl, Nat.le_of_ble_eq_true rfl⟩) rfl hl.1 rfl (Nat.le_of_ble_eq_true rfl) dX10_walkIt_213 ⟨Nat.le_of_ble_eq_true rfl, Nat.le_of_ble_eq_true rfl⟩ (fun H locs B => ?_)
                  obtain ⟨q39, hq39, ho⟩ := bnd_ ho
                  refine k_iV (As := [.int a0, .int q38]) (rest := []) S F B (c_X10_pays l G σ36 _ a0 q38 hq39) (kq (by decide) : kd 198 = 21 ∧ 198 < NN) rfl rfl (cwV 2 hts gX10_walkIt_X10_pays rfl rfl rfl (by decide +kernel) ⟨Nat.le_of_ble_eq_true rfl, Nat.le_of_ble_eq_true rfl⟩) rfl hl.1 rfl (Nat.le_of_ble_eq_true rfl) dX10_walkIt_216 ⟨Nat.le_of_ble_eq_true rfl, Nat.le_of_ble_eq_true rfl⟩ (fun H locs B => ?_)
                  refine lv_istore (lv' := [(6, .int q39), (5, .int q8), (4, .int x7), (3, .int q5), (0, .ref (G.2.2 198)), (1, .int a0), (2, .int a1)]) hx hb dX10_walkIt_219 hl (by decide) rfl (fun ls hl => ?_)
                  refine lv_aload_n hx hb dX10_walkIt_221 rfl (lv_at hl 4 rfl) ?_
                  refine r_get (ci := 14) (C := RX10) (T := TX10) (N := 21) S F B (kq (by decide) : kd 198 = 21 ∧ 198 < NN) rfl rfl hiX10 0 (by decide) (by decide +kernel) rfl dX10_walkIt_222 ?_
                  refine lv_iload_n hx hb dX10_walkIt_225 rfl (lv_at hl 3 rfl) ?_
                  refine lv_dup2_11 hx hb dX10_walkIt_226 rfl rfl ?_
                  obtain ⟨hi, ho⟩ := gd_ ho
                  refine r_iald S F B (kq (by decide) : kd 199 = 22 ∧ 199 < NN) rfl hi dX10_walkIt_227 ?_
                  refine lv_iload hx hb dX10_walkIt_228 (lv_at hl 0 rfl) ?_
                  refine lv_iadd hx hb dX10_walkIt_230 ?_
                  obtain ⟨hi, ho⟩ := gd_ ho
                  refine r_iast S F B (kq (by decide) : kd 199 = 22 ∧ 199 < NN) (fun _ => rfl) hi dX10_walkIt_231 (fun H locs B => ?_)
                  obtain ⟨σ40, eσ40, ho⟩ := lt_ ho
                  rw [← eσ40] at B
                  refine lv_aload_n hx hb dX10_walkIt_232 rfl (lv_at hl 4 rfl) ?_
                  refine r_get (ci := 14) (C := RX10) (T := TX10) (N := 21) S F B (kq (by decide) : kd 198 = 21 ∧ 198 < NN) rfl rfl hiX10 0 (by decide) (by decide +kernel) rfl dX10_walkIt_233 ?_
                  refine lv_iload_n hx hb dX10_walkIt_236 rfl (lv_at hl 3 rfl) ?_
                  refine lv_iconst (v := 4) hx hb dX10_walkIt_237 (by decide) ?_
                  refine lv_iadd hx hb dX10_walkIt_238 ?_
                  obtain ⟨hi, ho⟩ := gd_ ho
                  refine r_iald S F B (kq (by decide) : kd 199 = 22 ∧ 199 < NN) rfl hi dX10_walkIt_239 ?_
                  refine lv_iconst (v := (-1)) hx hb dX10_walkIt_240 (by decide) ?_
                  refine lv_icmp_eq (tgt := 288) hx hb dX10_walkIt_241 (by decide) (fun c41 => ?_) (fun c41 => ?_)
                  · have ho := ip_ c41 ho
                    refine lv_aload_n hx hb dX10_walkIt_288 rfl (lv_at hl 4 rfl) ?_
                    refine r_get (ci := 14) (C := RX10) (T := TX10) (N := 21) S F B (kq (by decide) : kd 198 = 21 ∧ 198 < NN) rfl rfl hiX10 0 (by decide) (by decide +kernel) rfl dX10_walkIt_289 ?_
                    refine lv_iload_n hx hb dX10_walkIt_292 rfl (lv_at hl 3 rfl) ?_
                    refine lv_bipush (v := 7) hx hb dX10_walkIt_293 (by decide) ?_
                    refine lv_iadd hx hb dX10_walkIt_295 ?_
                    refine lv_iconst (v := 1) hx hb dX10_walkIt_296 (by decide) ?_
                    obtain ⟨hi, ho⟩ := gd_ ho
                    refine r_iast S F B (kq (by decide) : kd 199 = 22 ∧ 199 < NN) (fun _ => rfl) hi dX10_walkIt_297 (fun H locs B => ?_)
                    obtain ⟨σ42, eσ42, ho⟩ := lt_ ho
                    rw [← eσ42] at B
                    refine lv_aload_n hx hb dX10_walkIt_298 rfl (lv_at hl 4 rfl) ?_
                    refine r_get (ci := 14) (C := RX10) (T := TX10) (N := 21) S F B (kq (by decide) : kd 198 = 21 ∧ 198 < NN) rfl rfl hiX10 0 (by decide) (by decide +kernel) rfl dX10_walkIt_299 ?_
                    refine lv_iload_n hx hb dX10_walkIt_302 rfl (lv_at hl 3 rfl) ?_
                    refine lv_iconst (v := 4) hx hb dX10_walkIt_303 (by decide) ?_
                    refine lv_iadd hx hb dX10_walkIt_304 ?_
                    refine lv_iconst (v := (-1)) hx hb dX10_walkIt_305 (by decide) ?_
                    obtain ⟨hi, ho⟩ := gd_ ho
                    refine r_iast S F B (kq (by decide) : kd 199 = 22 ∧ 199 < NN) (fun _ => rfl) hi dX10_walkIt_306 (fun H locs B => ?_)
                    obtain ⟨σ43, eσ43, ho⟩ := lt_ ho
                    rw [← eσ43] at B
                    refine lv_aload_n hx hb dX10_walkIt_307 rfl (lv_at hl 4 rfl) ?_
                    refine r_get (ci := 14) (C := RX10) (T := TX10) (N := 21) S F B (kq (by decide) : kd 198 = 21 ∧ 198 < NN) rfl rfl hiX10 0 (by decide) (by decide +kernel) rfl dX10_walkIt_308 ?_
                    refine lv_iload_n hx hb dX10_walkIt_311 rfl (lv_at hl 3 rfl) ?_
                    refine lv_iconst (v := 5) hx hb dX10_walkIt_312 (by decide) ?_
                    refine lv_iadd hx hb dX10_walkIt_313 ?_
                    refine lv_iconst (v := 0) hx hb dX10_walkIt_314 (by decide) ?_
                    obtain ⟨hi, ho⟩ := gd_ ho
                    refine r_iast S F B (kq (by decide) : kd 199 = 22 ∧ 199 < NN) (fun _ => rfl) hi dX10_walkIt_315 (fun H locs B => ?_)
                    obtain ⟨σ44, eσ44, ho⟩ := lt_ ho
                    rw [← eσ44] at B
                    refine lv_aload_n hx hb dX10_walkIt_316 rfl (lv_at hl 4 rfl) ?_
                    refine r_get (ci := 14) (C := RX10) (T := TX10) (N := 21) S F B (kq (by decide) : kd 198 = 21 ∧ 198 < NN) rfl rfl hiX10 0 (by decide) (by decide +kernel) rfl dX10_walkIt_317 ?_
                    refine lv_iload_n hx hb dX10_walkIt_320 rfl (lv_at hl 3 rfl) ?_
                    refine lv_bipush (v := 6) hx hb dX10_walkIt_321 (by decide) ?_
                    refine lv_iadd hx hb dX10_walkIt_323 ?_
                    refine lv_iconst (v := 0) hx hb dX10_walkIt_324 (by decide) ?_
                    obtain ⟨hi, ho⟩ := gd_ ho
                    refine r_iast S F B (kq (by decide) : kd 199 = 22 ∧ 199 < NN) (fun _ => rfl) hi dX10_walkIt_325 (fun H locs B => ?_)
                    obtain ⟨σ45, eσ45, ho⟩ := lt_ ho
                    rw [← eσ45] at B
                    refine lv_iload hx hb dX10_walkIt_326 (lv_at hl 1 rfl) ?_
                    cases ho
                    exact e_i B hx hb hr hlocks rfl rfl dX10_walkIt_328
                  · have ho := in_ c41 ho
                    refine lv_aload_n hx hb dX10_walkIt_244 rfl (lv_at hl 4 rfl) ?_
                    refine r_get (ci := 14) (C := RX10) (T := TX10) (N := 21) S F B (kq (by decide) : kd 198 = 21 ∧ 198 < NN) rfl rfl hiX10 0 (by decide) (by decide +kernel) rfl dX10_walkIt_245 ?_
                    refine lv_aload_n hx hb dX10_walkIt_248 rfl (lv_at hl 4 rfl) ?_
                    refine r_get (ci := 14) (C := RX10) (T := TX10) (N := 21) S F B (kq (by decide) : kd 198 = 21 ∧ 198 < NN) rfl rfl hiX10 0 (by decide) (by decide +kernel) rfl dX10_walkIt_249 ?_
                    refine lv_iload_n hx hb dX10_walkIt_252 rfl (lv_at hl 3 rfl) ?_
                    refine lv_iconst (v := 4) hx hb dX10_walkIt_253 (by decide) ?_
                    refine lv_iadd hx hb dX10_walkIt_254 ?_
                    obtain ⟨hi, ho⟩ := gd_ ho
                    refine r_iald S F B (kq (by decide) : kd 199 = 22 ∧ 199 < NN) rfl hi dX10_walkIt_255 ?_
                    obtain ⟨q46, hq46, ho⟩ := bnd_ ho
                    refine k_iS (As := [.int (σ40 199 (q5 + 4).toNatClampNeg)]) (rest := [.ref (G.2.2 199)]) S F B (c_X10_gardenerAt l G σ40 _ (σ40 199 (q5 + 4).toNatClampNeg) hq46) (va_cwS 1 hts gX10_walkIt_X10_gardenerAt rfl rfl rfl (by decide +kernel) ⟨Nat.le_of_ble_eq_true rfl, Nat.le_of_ble_eq_true rfl⟩) rfl hl.1 rfl (Nat.le_of_ble_eq_true rfl) dX10_walkIt_256 ⟨Nat.le_of_ble_eq_true rfl, Nat.le_of_ble_eq_true rfl⟩ (fun H locs B => ?_)
                    refine lv_dup2_11 hx hb dX10_walkIt_259 rfl rfl ?_
                    obtain ⟨hi, ho⟩ := gd_ ho
                    refine r_iald S F B (kq (by decide) : kd 199 = 22 ∧ 199 < NN) rfl hi dX10_walkIt_260 ?_
                    refine lv_iload hx hb dX10_walkIt_261 (lv_at hl 0 rfl) ?_
                    refine lv_isub hx hb dX10_walkIt_263 ?_
                    obtain ⟨hi, ho⟩ := gd_ ho
                    refine r_iast S F B (kq (by decide) : kd 199 = 22 ∧ 199 < NN) (fun _ => rfl) hi dX10_walkIt_264 (fun H locs B => ?_)
                    obtain ⟨σ47, eσ47, ho⟩ := lt_ ho
                    rw [← eσ47] at B
                    refine lv_aload_n hx hb dX10_walkIt_265 rfl (lv_at hl 4 rfl) ?_
                    refine r_get (ci := 14) (C := RX10) (T := TX10) (N := 21) S F B (kq (by decide) : kd 198 = 21 ∧ 198 < NN) rfl rfl hiX10 0 (by decide) (by decide +kernel) rfl dX10_walkIt_266 ?_
                    refine lv_aload_n hx hb dX10_walkIt_269 rfl (lv_at hl 4 rfl) ?_
                    refine r_get (ci := 14) (C := RX10) (T := TX10) (N := 21) S F B (kq (by decide) : kd 198 = 21 ∧ 198 < NN) rfl rfl hiX10 0 (by decide) (by decide +kernel) rfl dX10_walkIt_270 ?_
                    refine lv_iload_n hx hb dX10_walkIt_273 rfl (lv_at hl 3 rfl) ?_
                    refine lv_iconst (v := 4) hx hb dX10_walkIt_274 (by decide) ?_
                    refine lv_iadd hx hb dX10_walkIt_275 ?_
                    obtain ⟨hi, ho⟩ := gd_ ho
                    refine r_iald S F B (kq (by decide) : kd 199 = 22 ∧ 199 < NN) rfl hi dX10_walkIt_276 ?_
                    obtain ⟨q48, hq48, ho⟩ := bnd_ ho
                    refine k_iS (As := [.int (σ47 199 (q5 + 4).toNatClampNeg)]) (rest := [.ref (G.2.2 199)]) S F B (c_X10_gardenerAt l G σ47 _ (σ47 199 (q5 + 4).toNatClampNeg) hq48) (va_cwS 1 hts gX10_walkIt_X10_gardenerAt rfl rfl rfl (by decide +kernel) ⟨Nat.le_of_ble_eq_true rfl, Nat.le_of_ble_eq_true rfl⟩) rfl hl.1 rfl (Nat.le_of_ble_eq_true rfl) dX10_walkIt_277 ⟨Nat.le_of_ble_eq_true rfl, Nat.le_of_ble_eq_true rfl⟩ (fun H locs B => ?_)
                    refine lv_iconst (v := 2) hx hb dX10_walkIt_280 (by decide) ?_
                    refine lv_iadd hx hb dX10_walkIt_281 ?_
                    refine lv_dup2_11 hx hb dX10_walkIt_282 rfl rfl ?_
                    obtain ⟨hi, ho⟩ := gd_ ho
                    refine r_iald S F B (kq (by decide) : kd 199 = 22 ∧ 199 < NN) rfl hi dX10_walkIt_283 ?_
                    refine lv_iload hx hb dX10_walkIt_284 (lv_at hl 0 rfl) ?_
                    refine lv_iadd hx hb dX10_walkIt_286 ?_
                    obtain ⟨hi, ho⟩ := gd_ ho
                    refine r_iast S F B (kq (by decide) : kd 199 = 22 ∧ 199 < NN) (fun _ => rfl) hi dX10_walkIt_287 (fun H locs B => ?_)
                    obtain ⟨σ49, eσ49, ho⟩ := lt_ ho
                    rw [← eσ49] at B
                    refine lv_aload_n hx hb dX10_walkIt_288 rfl (lv_at hl 4 rfl) ?_
                    refine r_get (ci := 14) (C := RX10) (T := TX10) (N := 21) S F B (kq (by decide) : kd 198 = 21 ∧ 198 < NN) rfl rfl hiX10 0 (by decide) (by decide +kernel) rfl dX10_walkIt_289 ?_
                    refine lv_iload_n hx hb dX10_walkIt_292 rfl (lv_at hl 3 rfl) ?_
                    refine lv_bipush (v := 7) hx hb dX10_walkIt_293 (by decide) ?_
                    refine lv_iadd hx hb dX10_walkIt_295 ?_
                    refine lv_iconst (v := 1) hx hb dX10_walkIt_296 (by decide) ?_
                    obtain ⟨hi, ho⟩ := gd_ ho
                    refine r_iast S F B (kq (by decide) : kd 199 = 22 ∧ 199 < NN) (fun _ => rfl) hi dX10_walkIt_297 (fun H locs B => ?_)
                    obtain ⟨σ50, eσ50, ho⟩ := lt_ ho
                    rw [← eσ50] at B
                    refine lv_aload_n hx hb dX10_walkIt_298 rfl (lv_at hl 4 rfl) ?_
                    refine r_get (ci := 14) (C := RX10) (T := TX10) (N := 21) S F B (kq (by decide) : kd 198 = 21 ∧ 198 < NN) rfl rfl hiX10 0 (by decide) (by decide +kernel) rfl dX10_walkIt_299 ?_
                    refine lv_iload_n hx hb dX10_walkIt_302 rfl (lv_at hl 3 rfl) ?_
                    refine lv_iconst (v := 4) hx hb dX10_walkIt_303 (by decide) ?_
                    refine lv_iadd hx hb dX10_walkIt_304 ?_
                    refine lv_iconst (v := (-1)) hx hb dX10_walkIt_305 (by decide) ?_
                    obtain ⟨hi, ho⟩ := gd_ ho
                    refine r_iast S F B (kq (by decide) : kd 199 = 22 ∧ 199 < NN) (fun _ => rfl) hi dX10_walkIt_306 (fun H locs B => ?_)
                    obtain ⟨σ51, eσ51, ho⟩ := lt_ ho
                    rw [← eσ51] at B
                    refine lv_aload_n hx hb dX10_walkIt_307 rfl (lv_at hl 4 rfl) ?_
                    refine r_get (ci := 14) (C := RX10) (T := TX10) (N := 21) S F B (kq (by decide) : kd 198 = 21 ∧ 198 < NN) rfl rfl hiX10 0 (by decide) (by decide +kernel) rfl dX10_walkIt_308 ?_
                    refine lv_iload_n hx hb dX10_walkIt_311 rfl (lv_at hl 3 rfl) ?_
                    refine lv_iconst (v := 5) hx hb dX10_walkIt_312 (by decide) ?_
                    refine lv_iadd hx hb dX10_walkIt_313 ?_
                    refine lv_iconst (v := 0) hx hb dX10_walkIt_314 (by decide) ?_
                    obtain ⟨hi, ho⟩ := gd_ ho
                    refine r_iast S F B (kq (by decide) : kd 199 = 22 ∧ 199 < NN) (fun _ => rfl) hi dX10_walkIt_315 (fun H locs B => ?_)
                    obtain ⟨σ52, eσ52, ho⟩ := lt_ ho
                    rw [← eσ52] at B
                    refine lv_aload_n hx hb dX10_walkIt_316 rfl (lv_at hl 4 rfl) ?_
                    refine r_get (ci := 14) (C := RX10) (T := TX10) (N := 21) S F B (kq (by decide) : kd 198 = 21 ∧ 198 < NN) rfl rfl hiX10 0 (by decide) (by decide +kernel) rfl dX10_walkIt_317 ?_
                    refine lv_iload_n hx hb dX10_walkIt_320 rfl (lv_at hl 3 rfl) ?_
                    refine lv_bipush (v := 6) hx hb dX10_walkIt_321 (by decide) ?_
                    refine lv_iadd hx hb dX10_walkIt_323 ?_
                    refine lv_iconst (v := 0) hx hb dX10_walkIt_324 (by decide) ?_
                    obtain ⟨hi, ho⟩ := gd_ ho
                    refine r_iast S F B (kq (by decide) : kd 199 = 22 ∧ 199 < NN) (fun _ => rfl) hi dX10_walkIt_325 (fun H locs B => ?_)
                    obtain ⟨σ53, eσ53, ho⟩ := lt_ ho
                    rw [← eσ53] at B
                    refine lv_iload hx hb dX10_walkIt_326 (lv_at hl 1 rfl) ?_
                    cases ho
                    exact e_i B hx hb hr hlocks rfl rfl dX10_walkIt_328
              · have ho := in_ c35 ho
                refine lv_iconst (v := 1) hx hb dX10_walkIt_188 (by decide) ?_
                refine lv_goto (tgt := 201) hx hb dX10_walkIt_189 (by decide) ?_
                obtain ⟨hi, ho⟩ := gd_ ho
                refine r_iast S F B (kq (by decide) : kd 199 = 22 ∧ 199 < NN) (fun _ => rfl) hi dX10_walkIt_201 (fun H locs B => ?_)
                obtain ⟨σ54, eσ54, ho⟩ := lt_ ho
                rw [← eσ54] at B
                refine lv_iload hx hb dX10_walkIt_202 (lv_at hl 0 rfl) ?_
                refine lv_bipush (v := 15) hx hb dX10_walkIt_204 (by decide) ?_
                refine lv_icmp_ne (tgt := 326) hx hb dX10_walkIt_206 (by decide) (fun c55 => ?_) (fun c55 => ?_)
                · have ho := in_ c55 ho
                  refine lv_iload hx hb dX10_walkIt_326 (lv_at hl 0 rfl) ?_
                  cases ho
                  exact e_i B hx hb hr hlocks rfl rfl dX10_walkIt_328
                · have ho := ip_ c55 ho
                  refine lv_aload_n hx hb dX10_walkIt_209 rfl (lv_at hl 3 rfl) ?_
                  refine lv_iload_n hx hb dX10_walkIt_210 rfl (lv_at hl 4 rfl) ?_
                  refine lv_aload_n hx hb dX10_walkIt_211 rfl (lv_at hl 3 rfl) ?_
                  refine lv_iload_n hx hb dX10_walkIt_212 rfl (lv_at hl 4 rfl) ?_
                  obtain ⟨q56, hq56, ho⟩ := bnd_ ho
                  refine k_iV (As := [.int a0]) (rest := [.int a0, .ref (G.2.2 198)]) S F B (c_X10_lostOf l G σ54 _ a0 hq56) (kq (by decide) : kd 198 = 21 ∧ 198 < NN) rfl rfl (cwV 1 hts gX10_walkIt_X10_lostOf rfl rfl rfl (by decide +kernel) ⟨Nat.le_of_ble_eq_true rfl, Nat.le_of_ble_eq_true rfl⟩) rfl hl.1 rfl (Nat.le_of_ble_eq_true rfl) dX10_walkIt_213 ⟨Nat.le_of_ble_eq_true rfl, Nat.le_of_ble_eq_true rfl⟩ (fun H locs B => ?_)
                  obtain ⟨q57, hq57, ho⟩ := bnd_ ho
                  refine k_iV (As := [.int a0, .int q56]) (rest := []) S F B (c_X10_pays l G σ54 _ a0 q56 hq57) (kq (by decide) : kd 198 = 21 ∧ 198 < NN) rfl rfl (cwV 2 hts gX10_walkIt_X10_pays rfl rfl rfl (by decide +kernel) ⟨Nat.le_of_ble_eq_true rfl, Nat.le_of_ble_eq_true rfl⟩) rfl hl.1 rfl (Nat.le_of_ble_eq_true rfl) dX10_walkIt_216 ⟨Nat.le_of_ble_eq_true rfl, Nat.le_of_ble_eq_true rfl⟩ (fun H locs B => ?_)
                  refine lv_istore (lv' := [(6, .int q57), (5, .int q8), (4, .int x7), (3, .int q5), (0, .ref (G.2.2 198)), (1, .int a0), (2, .int a1)]) hx hb dX10_walkIt_219 hl (by decide) rfl (fun ls hl => ?_)
                  refine lv_aload_n hx hb dX10_walkIt_221 rfl (lv_at hl 4 rfl) ?_
                  refine r_get (ci := 14) (C := RX10) (T := TX10) (N := 21) S F B (kq (by decide) : kd 198 = 21 ∧ 198 < NN) rfl rfl hiX10 0 (by decide) (by decide +kernel) rfl dX10_walkIt_222 ?_
                  refine lv_iload_n hx hb dX10_walkIt_225 rfl (lv_at hl 3 rfl) ?_
                  refine lv_dup2_11 hx hb dX10_walkIt_226 rfl rfl ?_
                  obtain ⟨hi, ho⟩ := gd_ ho
                  refine r_iald S F B (kq (by decide) : kd 199 = 22 ∧ 199 < NN) rfl hi dX10_walkIt_227 ?_
                  refine lv_iload hx hb dX10_walkIt_228 (lv_at hl 0 rfl) ?_
                  refine lv_iadd hx hb dX10_walkIt_230 ?_
                  obtain ⟨hi, ho⟩ := gd_ ho
                  refine r_iast S F B (kq (by decide) : kd 199 = 22 ∧ 199 < NN) (fun _ => rfl) hi dX10_walkIt_231 (fun H locs B => ?_)
                  obtain ⟨σ58, eσ58, ho⟩ := lt_ ho
                  rw [← eσ58] at B
                  refine lv_aload_n hx hb dX10_walkIt_232 rfl (lv_at hl 4 rfl) ?_
                  refine r_get (ci := 14) (C := RX10) (T := TX10) (N := 21) S F B (kq (by decide) : kd 198 = 21 ∧ 198 < NN) rfl rfl hiX10 0 (by decide) (by decide +kernel) rfl dX10_walkIt_233 ?_
                  refine lv_iload_n hx hb dX10_walkIt_236 rfl (lv_at hl 3 rfl) ?_
                  refine lv_iconst (v := 4) hx hb dX10_walkIt_237 (by decide) ?_
                  refine lv_iadd hx hb dX10_walkIt_238 ?_
                  obtain ⟨hi, ho⟩ := gd_ ho
                  refine r_iald S F B (kq (by decide) : kd 199 = 22 ∧ 199 < NN) rfl hi dX10_walkIt_239 ?_
                  refine lv_iconst (v := (-1)) hx hb dX10_walkIt_240 (by decide) ?_
                  refine lv_icmp_eq (tgt := 288) hx hb dX10_walkIt_241 (by decide) (fun c59 => ?_) (fun c59 => ?_)
                  · have ho := ip_ c59 ho
                    refine lv_aload_n hx hb dX10_walkIt_288 rfl (lv_at hl 4 rfl) ?_
                    refine r_get (ci := 14) (C := RX10) (T := TX10) (N := 21) S F B (kq (by decide) : kd 198 = 21 ∧ 198 < NN) rfl rfl hiX10 0 (by decide) (by decide +kernel) rfl dX10_walkIt_289 ?_
                    refine lv_iload_n hx hb dX10_walkIt_292 rfl (lv_at hl 3 rfl) ?_
                    refine lv_bipush (v := 7) hx hb dX10_walkIt_293 (by decide) ?_
                    refine lv_iadd hx hb dX10_walkIt_295 ?_
                    refine lv_iconst (v := 1) hx hb dX10_walkIt_296 (by decide) ?_
                    obtain ⟨hi, ho⟩ := gd_ ho
                    refine r_iast S F B (kq (by decide) : kd 199 = 22 ∧ 199 < NN) (fun _ => rfl) hi dX10_walkIt_297 (fun H locs B => ?_)
                    obtain ⟨σ60, eσ60, ho⟩ := lt_ ho
                    rw [← eσ60] at B
                    refine lv_aload_n hx hb dX10_walkIt_298 rfl (lv_at hl 4 rfl) ?_
                    refine r_get (ci := 14) (C := RX10) (T := TX10) (N := 21) S F B (kq (by decide) : kd 198 = 21 ∧ 198 < NN) rfl rfl hiX10 0 (by decide) (by decide +kernel) rfl dX10_walkIt_299 ?_
                    refine lv_iload_n hx hb dX10_walkIt_302 rfl (lv_at hl 3 rfl) ?_
                    refine lv_iconst (v := 4) hx hb dX10_walkIt_303 (by decide) ?_
                    refine lv_iadd hx hb dX10_walkIt_304 ?_
                    refine lv_iconst (v := (-1)) hx hb dX10_walkIt_305 (by decide) ?_
                    obtain ⟨hi, ho⟩ := gd_ ho
                    refine r_iast S F B (kq (by decide) : kd 199 = 22 ∧ 199 < NN) (fun _ => rfl) hi dX10_walkIt_306 (fun H locs B => ?_)
                    obtain ⟨σ61, eσ61, ho⟩ := lt_ ho
                    rw [← eσ61] at B
                    refine lv_aload_n hx hb dX10_walkIt_307 rfl (lv_at hl 4 rfl) ?_
                    refine r_get (ci := 14) (C := RX10) (T := TX10) (N := 21) S F B (kq (by decide) : kd 198 = 21 ∧ 198 < NN) rfl rfl hiX10 0 (by decide) (by decide +kernel) rfl dX10_walkIt_308 ?_
                    refine lv_iload_n hx hb dX10_walkIt_311 rfl (lv_at hl 3 rfl) ?_
                    refine lv_iconst (v := 5) hx hb dX10_walkIt_312 (by decide) ?_
                    refine lv_iadd hx hb dX10_walkIt_313 ?_
                    refine lv_iconst (v := 0) hx hb dX10_walkIt_314 (by decide) ?_
                    obtain ⟨hi, ho⟩ := gd_ ho
                    refine r_iast S F B (kq (by decide) : kd 199 = 22 ∧ 199 < NN) (fun _ => rfl) hi dX10_walkIt_315 (fun H locs B => ?_)
                    obtain ⟨σ62, eσ62, ho⟩ := lt_ ho
                    rw [← eσ62] at B
                    refine lv_aload_n hx hb dX10_walkIt_316 rfl (lv_at hl 4 rfl) ?_
                    refine r_get (ci := 14) (C := RX10) (T := TX10) (N := 21) S F B (kq (by decide) : kd 198 = 21 ∧ 198 < NN) rfl rfl hiX10 0 (by decide) (by decide +kernel) rfl dX10_walkIt_317 ?_
                    refine lv_iload_n hx hb dX10_walkIt_320 rfl (lv_at hl 3 rfl) ?_
                    refine lv_bipush (v := 6) hx hb dX10_walkIt_321 (by decide) ?_
                    refine lv_iadd hx hb dX10_walkIt_323 ?_
                    refine lv_iconst (v := 0) hx hb dX10_walkIt_324 (by decide) ?_
                    obtain ⟨hi, ho⟩ := gd_ ho
                    refine r_iast S F B (kq (by decide) : kd 199 = 22 ∧ 199 < NN) (fun _ => rfl) hi dX10_walkIt_325 (fun H locs B => ?_)
                    obtain ⟨σ63, eσ63, ho⟩ := lt_ ho
                    rw [← eσ63] at B
                    refine lv_iload hx hb dX10_walkIt_326 (lv_at hl 1 rfl) ?_
                    cases ho
                    exact e_i B hx hb hr hlocks rfl rfl dX10_walkIt_328
                  · have ho := in_ c59 ho
                    refine lv_aload_n hx hb dX10_walkIt_244 rfl (lv_at hl 4 rfl) ?_
                    refine r_get (ci := 14) (C := RX10) (T := TX10) (N := 21) S F B (kq (by decide) : kd 198 = 21 ∧ 198 < NN) rfl rfl hiX10 0 (by decide) (by decide +kernel) rfl dX10_walkIt_245 ?_
                    refine lv_aload_n hx hb dX10_walkIt_248 rfl (lv_at hl 4 rfl) ?_
                    refine r_get (ci := 14) (C := RX10) (T := TX10) (N := 21) S F B (kq (by decide) : kd 198 = 21 ∧ 198 < NN) rfl rfl hiX10 0 (by decide) (by decide +kernel) rfl dX10_walkIt_249 ?_
                    refine lv_iload_n hx hb dX10_walkIt_252 rfl (lv_at hl 3 rfl) ?_
                    refine lv_iconst (v := 4) hx hb dX10_walkIt_253 (by decide) ?_
                    refine lv_iadd hx hb dX10_walkIt_254 ?_
                    obtain ⟨hi, ho⟩ := gd_ ho
                    refine r_iald S F B (kq (by decide) : kd 199 = 22 ∧ 199 < NN) rfl hi dX10_walkIt_255 ?_
                    obtain ⟨q64, hq64, ho⟩ := bnd_ ho
                    refine k_iS (As := [.int (σ58 199 (q5 + 4).toNatClampNeg)]) (rest := [.ref (G.2.2 199)]) S F B (c_X10_gardenerAt l G σ58 _ (σ58 199 (q5 + 4).toNatClampNeg) hq64) (va_cwS 1 hts gX10_walkIt_X10_gardenerAt rfl rfl rfl (by decide +kernel) ⟨Nat.le_of_ble_eq_true rfl, Nat.le_of_ble_eq_true rfl⟩) rfl hl.1 rfl (Nat.le_of_ble_eq_true rfl) dX10_walkIt_256 ⟨Nat.le_of_ble_eq_true rfl, Nat.le_of_ble_eq_true rfl⟩ (fun H locs B => ?_)
                    refine lv_dup2_11 hx hb dX10_walkIt_259 rfl rfl ?_
                    obtain ⟨hi, ho⟩ := gd_ ho
                    refine r_iald S F B (kq (by decide) : kd 199 = 22 ∧ 199 < NN) rfl hi dX10_walkIt_260 ?_
                    refine lv_iload hx hb dX10_walkIt_261 (lv_at hl 0 rfl) ?_
                    refine lv_isub hx hb dX10_walkIt_263 ?_
                    obtain ⟨hi, ho⟩ := gd_ ho
                    refine r_iast S F B (kq (by decide) : kd 199 = 22 ∧ 199 < NN) (fun _ => rfl) hi dX10_walkIt_264 (fun H locs B => ?_)
                    obtain ⟨σ65, eσ65, ho⟩ := lt_ ho
                    rw [← eσ65] at B
                    refine lv_aload_n hx hb dX10_walkIt_265 rfl (lv_at hl 4 rfl) ?_
                    refine r_get (ci := 14) (C := RX10) (T := TX10) (N := 21) S F B (kq (by decide) : kd 198 = 21 ∧ 198 < NN) rfl rfl hiX10 0 (by decide) (by decide +kernel) rfl dX10_walkIt_266 ?_
                    refine lv_aload_n hx hb dX10_walkIt_269 rfl (lv_at hl 4 rfl) ?_
                    refine r_get (ci := 14) (C := RX10) (T := TX10) (N := 21) S F B (kq (by decide) : kd 198 = 21 ∧ 198 < NN) rfl rfl hiX10 0 (by decide) (by decide +kernel) rfl dX10_walkIt_270 ?_
                    refine lv_iload_n hx hb dX10_walkIt_273 rfl (lv_at hl 3 rfl) ?_
                    refine lv_iconst (v := 4) hx hb dX10_walkIt_274 (by decide) ?_
                    refine lv_iadd hx hb dX10_walkIt_275 ?_
                    obtain ⟨hi, ho⟩ := gd_ ho
                    refine r_iald S F B (kq (by decide) : kd 199 = 22 ∧ 199 < NN) rfl hi dX10_walkIt_276 ?_
                    obtain ⟨q66, hq66, ho⟩ := bnd_ ho
                    refine k_iS (As := [.int (σ65 199 (q5 + 4).toNatClampNeg)]) (rest := [.ref (G.2.2 199)]) S F B (c_X10_gardenerAt l G σ65 _ (σ65 199 (q5 + 4).toNatClampNeg) hq66) (va_cwS 1 hts gX10_walkIt_X10_gardenerAt rfl rfl rfl (by decide +kernel) ⟨Nat.le_of_ble_eq_true rfl, Nat.le_of_ble_eq_true rfl⟩) rfl hl.1 rfl (Nat.le_of_ble_eq_true rfl) dX10_walkIt_277 ⟨Nat.le_of_ble_eq_true rfl, Nat.le_of_ble_eq_true rfl⟩ (fun H locs B => ?_)
                    refine lv_iconst (v := 2) hx hb dX10_walkIt_280 (by decide) ?_
                    refine lv_iadd hx hb dX10_walkIt_281 ?_
                    refine lv_dup2_11 hx hb dX10_walkIt_282 rfl rfl ?_
                    obtain ⟨hi, ho⟩ := gd_ ho
                    refine r_iald S F B (kq (by decide) : kd 199 = 22 ∧ 199 < NN) rfl hi dX10_walkIt_283 ?_
                    refine lv_iload hx hb dX10_walkIt_284 (lv_at hl 0 rfl) ?_
                    refine lv_iadd hx hb dX10_walkIt_286 ?_
                    obtain ⟨hi, ho⟩ := gd_ ho
                    refine r_iast S F B (kq (by decide) : kd 199 = 22 ∧ 199 < NN) (fun _ => rfl) hi dX10_walkIt_287 (fun H locs B => ?_)
                    obtain ⟨σ67, eσ67, ho⟩ := lt_ ho
                    rw [← eσ67] at B
                    refine lv_aload_n hx hb dX10_walkIt_288 rfl (lv_at hl 4 rfl) ?_
                    refine r_get (ci := 14) (C := RX10) (T := TX10) (N := 21) S F B (kq (by decide) : kd 198 = 21 ∧ 198 < NN) rfl rfl hiX10 0 (by decide) (by decide +kernel) rfl dX10_walkIt_289 ?_
                    refine lv_iload_n hx hb dX10_walkIt_292 rfl (lv_at hl 3 rfl) ?_
                    refine lv_bipush (v := 7) hx hb dX10_walkIt_293 (by decide) ?_
                    refine lv_iadd hx hb dX10_walkIt_295 ?_
                    refine lv_iconst (v := 1) hx hb dX10_walkIt_296 (by decide) ?_
                    obtain ⟨hi, ho⟩ := gd_ ho
                    refine r_iast S F B (kq (by decide) : kd 199 = 22 ∧ 199 < NN) (fun _ => rfl) hi dX10_walkIt_297 (fun H locs B => ?_)
                    obtain ⟨σ68, eσ68, ho⟩ := lt_ ho
                    rw [← eσ68] at B
                    refine lv_aload_n hx hb dX10_walkIt_298 rfl (lv_at hl 4 rfl) ?_
                    refine r_get (ci := 14) (C := RX10) (T := TX10) (N := 21) S F B (kq (by decide) : kd 198 = 21 ∧ 198 < NN) rfl rfl hiX10 0 (by decide) (by decide +kernel) rfl dX10_walkIt_299 ?_
                    refine lv_iload_n hx hb dX10_walkIt_302 rfl (lv_at hl 3 rfl) ?_
                    refine lv_iconst (v := 4) hx hb dX10_walkIt_303 (by decide) ?_
                    refine lv_iadd hx hb dX10_walkIt_304 ?_
                    refine lv_iconst (v := (-1)) hx hb dX10_walkIt_305 (by decide) ?_
                    obtain ⟨hi, ho⟩ := gd_ ho
                    refine r_iast S F B (kq (by decide) : kd 199 = 22 ∧ 199 < NN) (fun _ => rfl) hi dX10_walkIt_306 (fun H locs B => ?_)
                    obtain ⟨σ69, eσ69, ho⟩ := lt_ ho
                    rw [← eσ69] at B
                    refine lv_aload_n hx hb dX10_walkIt_307 rfl (lv_at hl 4 rfl) ?_
                    refine r_get (ci := 14) (C := RX10) (T := TX10) (N := 21) S F B (kq (by decide) : kd 198 = 21 ∧ 198 < NN) rfl rfl hiX10 0 (by decide) (by decide +kernel) rfl dX10_walkIt_308 ?_
                    refine lv_iload_n hx hb dX10_walkIt_311 rfl (lv_at hl 3 rfl) ?_
                    refine lv_iconst (v := 5) hx hb dX10_walkIt_312 (by decide) ?_
                    refine lv_iadd hx hb dX10_walkIt_313 ?_
                    refine lv_iconst (v := 0) hx hb dX10_walkIt_314 (by decide) ?_
                    obtain ⟨hi, ho⟩ := gd_ ho
                    refine r_iast S F B (kq (by decide) : kd 199 = 22 ∧ 199 < NN) (fun _ => rfl) hi dX10_walkIt_315 (fun H locs B => ?_)
                    obtain ⟨σ70, eσ70, ho⟩ := lt_ ho
                    rw [← eσ70] at B
                    refine lv_aload_n hx hb dX10_walkIt_316 rfl (lv_at hl 4 rfl) ?_
                    refine r_get (ci := 14) (C := RX10) (T := TX10) (N := 21) S F B (kq (by decide) : kd 198 = 21 ∧ 198 < NN) rfl rfl hiX10 0 (by decide) (by decide +kernel) rfl dX10_walkIt_317 ?_
                    refine lv_iload_n hx hb dX10_walkIt_320 rfl (lv_at hl 3 rfl) ?_
                    refine lv_bipush (v := 6) hx hb dX10_walkIt_321 (by decide) ?_
                    refine lv_iadd hx hb dX10_walkIt_323 ?_
                    refine lv_iconst (v := 0) hx hb dX10_walkIt_324 (by decide) ?_
                    obtain ⟨hi, ho⟩ := gd_ ho
                    refine r_iast S F B (kq (by decide) : kd 199 = 22 ∧ 199 < NN) (fun _ => rfl) hi dX10_walkIt_325 (fun H locs B => ?_)
                    obtain ⟨σ71, eσ71, ho⟩ := lt_ ho
                    rw [← eσ71] at B
                    refine lv_iload hx hb dX10_walkIt_326 (lv_at hl 1 rfl) ?_
                    cases ho
                    exact e_i B hx hb hr hlocks rfl rfl dX10_walkIt_328
          · have ho := ip_ c12 ho
            refine lv_aload_n hx hb dX10_walkIt_120 rfl (lv_at hl 3 rfl) ?_
            refine lv_bipush (v := 12) hx hb dX10_walkIt_121 (by decide) ?_
            refine lv_aload_n hx hb dX10_walkIt_123 rfl (lv_at hl 3 rfl) ?_
            refine r_get (ci := 14) (C := RX10) (T := TX10) (N := 21) S F B (kq (by decide) : kd 198 = 21 ∧ 198 < NN) rfl rfl hiX10 0 (by decide) (by decide +kernel) rfl dX10_walkIt_124 ?_
            refine lv_iload hx hb dX10_walkIt_127 (lv_at hl 1 rfl) ?_
            refine lv_iload hx hb dX10_walkIt_129 (lv_at hl 0 rfl) ?_
            obtain ⟨q72, hq72, ho⟩ := bnd_ ho
            refine k_iS (As := [.int x7, .int q8]) (rest := [.ref (G.2.2 199), .int 12, .ref (G.2.2 198)]) S F B (c_X10_hedgeAt l G σ _ x7 q8 hq72) (va_cwS 2 hts gX10_walkIt_X10_hedgeAt rfl rfl rfl (by decide +kernel) ⟨Nat.le_of_ble_eq_true rfl, Nat.le_of_ble_eq_true rfl⟩) rfl hl.1 rfl (Nat.le_of_ble_eq_true rfl) dX10_walkIt_131 ⟨Nat.le_of_ble_eq_true rfl, Nat.le_of_ble_eq_true rfl⟩ (fun H locs B => ?_)
            obtain ⟨hi, ho⟩ := gd_ ho
            refine r_iald S F B (kq (by decide) : kd 199 = 22 ∧ 199 < NN) rfl hi dX10_walkIt_134 ?_
            obtain ⟨q73, σ74, hq73, ho⟩ := bnm_ ho
            refine k_iV (As := [.int 12, .int (σ 199 q72.toNatClampNeg)]) (rest := []) S F B (c_X10_refuse l G σ _ 12 (σ 199 q72.toNatClampNeg) hq73) (kq (by decide) : kd 198 = 21 ∧ 198 < NN) rfl rfl (cwV 2 hts gX10_walkIt_X10_refuse rfl rfl rfl (by decide +kernel) ⟨Nat.le_of_ble_eq_true rfl, Nat.le_of_ble_eq_true rfl⟩) rfl hl.1 rfl (Nat.le_of_ble_eq_true rfl) dX10_walkIt_135 ⟨Nat.le_of_ble_eq_true rfl, Nat.le_of_ble_eq_true rfl⟩ (fun H locs B => ?_)
            cases ho
            exact e_i B hx hb hr hlocks rfl rfl dX10_walkIt_138
        · have ho := ip_ c9 ho
          refine lv_aload_n hx hb dX10_walkIt_97 rfl (lv_at hl 3 rfl) ?_
          refine lv_bipush (v := 11) hx hb dX10_walkIt_98 (by decide) ?_
          refine lv_iload hx hb dX10_walkIt_100 (lv_at hl 1 rfl) ?_
          obtain ⟨q75, σ76, hq75, ho⟩ := bnm_ ho
          refine k_iV (As := [.int 11, .int x7]) (rest := []) S F B (c_X10_refuse l G σ _ 11 x7 hq75) (kq (by decide) : kd 198 = 21 ∧ 198 < NN) rfl rfl (cwV 2 hts gX10_walkIt_X10_refuse rfl rfl rfl (by decide +kernel) ⟨Nat.le_of_ble_eq_true rfl, Nat.le_of_ble_eq_true rfl⟩) rfl hl.1 rfl (Nat.le_of_ble_eq_true rfl) dX10_walkIt_102 ⟨Nat.le_of_ble_eq_true rfl, Nat.le_of_ble_eq_true rfl⟩ (fun H locs B => ?_)
          cases ho
          exact e_i B hx hb hr hlocks rfl rfl dX10_walkIt_105
      · have ho := ip_ c6 ho
        refine lv_aload_n hx hb dX10_walkIt_58 rfl (lv_at hl 1 rfl) ?_
        refine lv_bipush (v := 9) hx hb dX10_walkIt_59 (by decide) ?_
        refine lv_aload_n hx hb dX10_walkIt_61 rfl (lv_at hl 1 rfl) ?_
        refine r_get (ci := 14) (C := RX10) (T := TX10) (N := 21) S F B (kq (by decide) : kd 198 = 21 ∧ 198 < NN) rfl rfl hiX10 0 (by decide) (by decide +kernel) rfl dX10_walkIt_62 ?_
        refine lv_iload_n hx hb dX10_walkIt_65 rfl (lv_at hl 0 rfl) ?_
        refine lv_iconst (v := 2) hx hb dX10_walkIt_66 (by decide) ?_
        refine lv_iadd hx hb dX10_walkIt_67 ?_
        obtain ⟨hi, ho⟩ := gd_ ho
        refine r_iald S F B (kq (by decide) : kd 199 = 22 ∧ 199 < NN) rfl hi dX10_walkIt_68 ?_
        obtain ⟨q77, σ78, hq77, ho⟩ := bnm_ ho
        refine k_iV (As := [.int 9, .int (σ 199 (q5 + 2).toNatClampNeg)]) (rest := []) S F B (c_X10_refuse l G σ _ 9 (σ 199 (q5 + 2).toNatClampNeg) hq77) (kq (by decide) : kd 198 = 21 ∧ 198 < NN) rfl rfl (cwV 2 hts gX10_walkIt_X10_refuse rfl rfl rfl (by decide +kernel) ⟨Nat.le_of_ble_eq_true rfl, Nat.le_of_ble_eq_true rfl⟩) rfl hl.1 rfl (Nat.le_of_ble_eq_true rfl) dX10_walkIt_69 ⟨Nat.le_of_ble_eq_true rfl, Nat.le_of_ble_eq_true rfl⟩ (fun H locs B => ?_)
        cases ho
        exact e_i B hx hb hr hlocks rfl rfl dX10_walkIt_72
    · have ho := ip_ c4 ho
      refine lv_aload_n hx hb dX10_walkIt_33 rfl (lv_at hl 0 rfl) ?_
      refine lv_iconst (v := 1) hx hb dX10_walkIt_34 (by decide) ?_
      refine lv_iconst (v := 0) hx hb dX10_walkIt_35 (by decide) ?_
      obtain ⟨q79, σ80, hq79, ho⟩ := bnm_ ho
      refine k_iV (As := [.int 1, .int 0]) (rest := []) S F B (c_X10_refuse l G σ _ 1 0 hq79) (kq (by decide) : kd 198 = 21 ∧ 198 < NN) rfl rfl (cwV 2 hts gX10_walkIt_X10_refuse rfl rfl rfl (by decide +kernel) ⟨Nat.le_of_ble_eq_true rfl, Nat.le_of_ble_eq_true rfl⟩) rfl hl.1 rfl (Nat.le_of_ble_eq_true rfl) dX10_walkIt_36 ⟨Nat.le_of_ble_eq_true rfl, Nat.le_of_ble_eq_true rfl⟩ (fun H locs B => ?_)
      cases ho
      exact e_i B hx hb hr hlocks rfl rfl dX10_walkIt_39
  · have ho := ip_ c2 ho
    refine lv_aload_n hx hb dX10_walkIt_8 rfl (lv_at hl 0 rfl) ?_
    refine lv_bipush (v := 7) hx hb dX10_walkIt_9 (by decide) ?_
    refine lv_aload_n hx hb dX10_walkIt_11 rfl (lv_at hl 0 rfl) ?_
    refine r_get (ci := 14) (C := RX10) (T := TX10) (N := 21) S F B (kq (by decide) : kd 198 = 21 ∧ 198 < NN) rfl rfl hiX10 0 (by decide) (by decide +kernel) rfl dX10_walkIt_12 ?_
    refine lv_iconst (v := 1) hx hb dX10_walkIt_15 (by decide) ?_
    refine r_ialdc (j := 1) S F B (kq (by decide) : kd 199 = 22 ∧ 199 < NN) rfl (vpc (by decide)) (by decide) dX10_walkIt_16 ?_
    obtain ⟨q81, σ82, hq81, ho⟩ := bnm_ ho
    refine k_iV (As := [.int 7, .int (σ 199 1)]) (rest := []) S F B (c_X10_refuse l G σ _ 7 (σ 199 1) hq81) (kq (by decide) : kd 198 = 21 ∧ 198 < NN) rfl rfl (cwV 2 hts gX10_walkIt_X10_refuse rfl rfl rfl (by decide +kernel) ⟨Nat.le_of_ble_eq_true rfl, Nat.le_of_ble_eq_true rfl⟩) rfl hl.1 rfl (Nat.le_of_ble_eq_true rfl) dX10_walkIt_17 ⟨Nat.le_of_ble_eq_true rfl, Nat.le_of_ble_eq_true rfl⟩ (fun H locs B => ?_)
    cases ho
    exact e_i B hx hb hr hlocks rfl rfl dX10_walkIt_20

set_option maxHeartbeats 4000000 in
set_option maxRecDepth 100000 in
theorem c_X10_walk (l : Launch) (G : Gd) (σ : Mm) (sz : Nat) (a0 : Int32) (a1 : Int32) {out : Int32 × Mm} (ho : f_X10_walk a0 a1 σ = some out) : Met l yX10_walk wsX10_walk { frames := 3, cells := 0, slots := 0, locals := 82 } (va_Pc [.ref (G.2.2 198), .int a0, .int a1] (PW G σ sz)) (Qi G sz out.1 out.2) 0 0 (AA G sz) := by
  refine Met.ofW (cc := cX10_walk) (maxL := 3) (ret := (some .int)) (by decide) rfl ?_
  intro p e s m args below meth c s₁ B0 hml hv
  obtain ⟨rfl, hpw⟩ := hv
  have hsz := hpw.1
  subst hsz
  obtain ⟨F, B⟩ := hpw.to
  have hx := B0.exec
  have hb := B0.bytes
  have hr := B0.returns
  have hts := atoms_spec (ws := wsX10_walk) B0.pre
  have hown : s.vm.findClass RX10 = some m.cls := findClass_of_methodNamed B0.named
  have hlocks := B0.notSynchronized
  have S : CallFix p m c cX10_walk 3 s _ wsX10_walk RX10 := ⟨hx, hb, hml, hown, hts⟩
  have hl := lv_entry [.ref (G.2.2 198), .int a0, .int a1] (n := 3) (Nat.le_of_ble_eq_true rfl)
  rw [lg_entry_eq]
  generalize (lg_sl [.ref (G.2.2 198), .int a0, .int a1] ++ List.replicate (3 - (lg_sl [.ref (G.2.2 198), .int a0, .int a1]).length) Slot.unset).toArray = ls at hl ⊢
  have hl : lv_has ls 3 [(0, .ref (G.2.2 198)), (1, .int a0), (2, .int a1)] := hl
  unfold f_X10_walk at ho
  refine lv_aload_n hx hb dX10_walk_0 rfl (lv_at hl 0 rfl) ?_
  obtain ⟨σ2, hq1, ho⟩ := bnd_ ho
  refine k_vV (As := []) (rest := []) S F B (c_X10_starts l G σ _ hq1) (kq (by decide) : kd 198 = 21 ∧ 198 < NN) rfl rfl (cwV 0 hts gX10_walk_X10_starts rfl rfl rfl (by decide +kernel) ⟨Nat.le_of_ble_eq_true rfl, Nat.le_of_ble_eq_true rfl⟩) rfl hl.1 rfl (Nat.le_of_ble_eq_true rfl) dX10_walk_1 ⟨Nat.le_of_ble_eq_true rfl, Nat.le_of_ble_eq_true rfl⟩ (fun H locs B => ?_)
  refine lv_aload_n hx hb dX10_walk_4 rfl (lv_at hl 0 rfl) ?_
  refine lv_aload_n hx hb dX10_walk_5 rfl (lv_at hl 0 rfl) ?_
  refine lv_iload_n hx hb dX10_walk_6 rfl (lv_at hl 1 rfl) ?_
  refine lv_iload_n hx hb dX10_walk_7 rfl (lv_at hl 2 rfl) ?_
  obtain ⟨q3, σ4, hq3, ho⟩ := bnm_ ho
  refine k_iV (As := [.int a0, .int a1]) (rest := [.ref (G.2.2 198)]) S F B (c_X10_walkIt l G σ2 _ a0 a1 hq3) (kq (by decide) : kd 198 = 21 ∧ 198 < NN) rfl rfl (cwV 2 hts gX10_walk_X10_walkIt rfl rfl rfl (by decide +kernel) ⟨Nat.le_of_ble_eq_true rfl, Nat.le_of_ble_eq_true rfl⟩) rfl hl.1 rfl (Nat.le_of_ble_eq_true rfl) dX10_walk_8 ⟨Nat.le_of_ble_eq_true rfl, Nat.le_of_ble_eq_true rfl⟩ (fun H locs B => ?_)
  obtain ⟨q5, σ6, hq5, ho⟩ := bnm_ ho
  refine k_iV (As := [.int q3]) (rest := []) S F B (c_X10_changed l G σ4 _ q3 hq5) (kq (by decide) : kd 198 = 21 ∧ 198 < NN) rfl rfl (cwV 1 hts gX10_walk_X10_changed rfl rfl rfl (by decide +kernel) ⟨Nat.le_of_ble_eq_true rfl, Nat.le_of_ble_eq_true rfl⟩) rfl hl.1 rfl (Nat.le_of_ble_eq_true rfl) dX10_walk_11 ⟨Nat.le_of_ble_eq_true rfl, Nat.le_of_ble_eq_true rfl⟩ (fun H locs B => ?_)
  cases ho
  exact e_i B hx hb hr hlocks rfl rfl dX10_walk_14

set_option maxHeartbeats 4000000 in
set_option maxRecDepth 100000 in
theorem c_X10_restIt (l : Launch) (G : Gd) (σ : Mm) (sz : Nat) (a0 : Int32) (a1 : Int32) {out : Int32 × Mm} (ho : f_X10_restIt a0 a1 σ = some out) : Met l yX10_restIt wsX10_restIt { frames := 2, cells := 0, slots := 0, locals := 46 } (va_Pc [.ref (G.2.2 198), .int a0, .int a1] (PW G σ sz)) (Qi G sz out.1 out.2) 0 0 (AA G sz) := by
  refine Met.ofW (cc := cX10_restIt) (maxL := 4) (ret := (some .int)) (by decide) rfl ?_
  intro p e s m args below meth c s₁ B0 hml hv
  obtain ⟨rfl, hpw⟩ := hv
  have hsz := hpw.1
  subst hsz
  obtain ⟨F, B⟩ := hpw.to
  have hx := B0.exec
  have hb := B0.bytes
  have hr := B0.returns
  have hts := atoms_spec (ws := wsX10_restIt) B0.pre
  have hown : s.vm.findClass RX10 = some m.cls := findClass_of_methodNamed B0.named
  have hlocks := B0.notSynchronized
  have S : CallFix p m c cX10_restIt 4 s _ wsX10_restIt RX10 := ⟨hx, hb, hml, hown, hts⟩
  have hiX10 : ∀ w ∈ u_ws RX10 TX10 21, w ∈ wsX10_restIt := by decide +kernel
  have hl := lv_entry [.ref (G.2.2 198), .int a0, .int a1] (n := 4) (Nat.le_of_ble_eq_true rfl)
  rw [lg_entry_eq]
  generalize (lg_sl [.ref (G.2.2 198), .int a0, .int a1] ++ List.replicate (4 - (lg_sl [.ref (G.2.2 198), .int a0, .int a1]).length) Slot.unset).toArray = ls at hl ⊢
  have hl : lv_has ls 4 [(0, .ref (G.2.2 198)), (1, .int a0), (2, .int a1)] := hl
  unfold f_X10_restIt at ho
  refine lv_aload_n hx hb dX10_restIt_0 rfl (lv_at hl 0 rfl) ?_
  refine lv_iload_n hx hb dX10_restIt_1 rfl (lv_at hl 1 rfl) ?_
  obtain ⟨q1, hq1, ho⟩ := bnd_ ho
  refine k_iV (As := [.int a0]) (rest := []) S F B (c_X10_isVisitor l G σ _ a0 hq1) (kq (by decide) : kd 198 = 21 ∧ 198 < NN) rfl rfl (cwV 1 hts gX10_restIt_X10_isVisitor rfl rfl rfl (by decide +kernel) ⟨Nat.le_of_ble_eq_true rfl, Nat.le_of_ble_eq_true rfl⟩) rfl hl.1 rfl (Nat.le_of_ble_eq_true rfl) dX10_restIt_2 ⟨Nat.le_of_ble_eq_true rfl, Nat.le_of_ble_eq_true rfl⟩ (fun H locs B => ?_)
  refine lv_if_ne (tgt := 21) hx hb dX10_restIt_5 (by decide) (fun c2 => ?_) (fun c2 => ?_)
  · have ho := in_ c2 ho
    refine lv_iload_n hx hb dX10_restIt_21 rfl (lv_at hl 2 rfl) ?_
    refine lv_i2l hx hb dX10_restIt_22 rfl ?_
    refine lv_lconst (v := 1) hx hb dX10_restIt_23 (by decide) ?_
    refine lv_ldc2 (v := 9) hx hb hown (hts _ (by decide +kernel)) dX10_restIt_24 ?_
    obtain ⟨q3, hq3, ho⟩ := bnd_ ho
    refine k_iS (As := [.long a1.toInt64, .long 1, .long 9]) (rest := []) S F B (c_X10_in l G σ _ a1.toInt64 1 9 hq3) (va_cwS 3 hts gX10_restIt_X10_in rfl rfl rfl (by decide +kernel) ⟨Nat.le_of_ble_eq_true rfl, Nat.le_of_ble_eq_true rfl⟩) rfl hl.1 rfl (Nat.le_of_ble_eq_true rfl) dX10_restIt_27 ⟨Nat.le_of_ble_eq_true rfl, Nat.le_of_ble_eq_true rfl⟩ (fun H locs B => ?_)
    refine lv_if_ne (tgt := 40) hx hb dX10_restIt_30 (by decide) (fun c4 => ?_) (fun c4 => ?_)
    · have ho := in_ c4 ho
      refine lv_iload_n hx hb dX10_restIt_40 rfl (lv_at hl 1 rfl) ?_
      obtain ⟨q5, hq5, ho⟩ := bnd_ ho
      refine k_iS (As := [.int a0]) (rest := []) S F B (c_X10_visitorAt l G σ _ a0 hq5) (va_cwS 1 hts gX10_restIt_X10_visitorAt rfl rfl rfl (by decide +kernel) ⟨Nat.le_of_ble_eq_true rfl, Nat.le_of_ble_eq_true rfl⟩) rfl hl.1 rfl (Nat.le_of_ble_eq_true rfl) dX10_restIt_41 ⟨Nat.le_of_ble_eq_true rfl, Nat.le_of_ble_eq_true rfl⟩ (fun H locs B => ?_)
      refine lv_istore_n (lv' := [(3, .int q5), (0, .ref (G.2.2 198)), (1, .int a0), (2, .int a1)]) hx hb dX10_restIt_44 rfl hl (by decide) rfl (fun ls hl => ?_)
      refine lv_aload_n hx hb dX10_restIt_45 rfl (lv_at hl 1 rfl) ?_
      refine r_get (ci := 14) (C := RX10) (T := TX10) (N := 21) S F B (kq (by decide) : kd 198 = 21 ∧ 198 < NN) rfl rfl hiX10 0 (by decide) (by decide +kernel) rfl dX10_restIt_46 ?_
      refine lv_iload_n hx hb dX10_restIt_49 rfl (lv_at hl 0 rfl) ?_
      refine lv_bipush (v := 7) hx hb dX10_restIt_50 (by decide) ?_
      refine lv_iadd hx hb dX10_restIt_52 ?_
      obtain ⟨hi, ho⟩ := gd_ ho
      refine r_iald S F B (kq (by decide) : kd 199 = 22 ∧ 199 < NN) rfl hi dX10_restIt_53 ?_
      refine lv_iconst (v := 1) hx hb dX10_restIt_54 (by decide) ?_
      refine lv_icmp_ne (tgt := 73) hx hb dX10_restIt_55 (by decide) (fun c6 => ?_) (fun c6 => ?_)
      · have ho := in_ c6 ho
        refine lv_aload_n hx hb dX10_restIt_73 rfl (lv_at hl 1 rfl) ?_
        refine r_get (ci := 14) (C := RX10) (T := TX10) (N := 21) S F B (kq (by decide) : kd 198 = 21 ∧ 198 < NN) rfl rfl hiX10 0 (by decide) (by decide +kernel) rfl dX10_restIt_74 ?_
        refine lv_iload_n hx hb dX10_restIt_77 rfl (lv_at hl 0 rfl) ?_
        refine lv_iconst (v := 2) hx hb dX10_restIt_78 (by decide) ?_
        refine lv_iadd hx hb dX10_restIt_79 ?_
        refine lv_dup2_11 hx hb dX10_restIt_80 rfl rfl ?_
        obtain ⟨hi, ho⟩ := gd_ ho
        refine r_iald S F B (kq (by decide) : kd 199 = 22 ∧ 199 < NN) rfl hi dX10_restIt_81 ?_
        refine lv_iload_n hx hb dX10_restIt_82 rfl (lv_at hl 3 rfl) ?_
        refine lv_iadd hx hb dX10_restIt_83 ?_
        obtain ⟨hi, ho⟩ := gd_ ho
        refine r_iast S F B (kq (by decide) : kd 199 = 22 ∧ 199 < NN) (fun _ => rfl) hi dX10_restIt_84 (fun H locs B => ?_)
        obtain ⟨σ7, eσ7, ho⟩ := lt_ ho
        rw [← eσ7] at B
        refine lv_aload_n hx hb dX10_restIt_85 rfl (lv_at hl 1 rfl) ?_
        refine r_get (ci := 14) (C := RX10) (T := TX10) (N := 21) S F B (kq (by decide) : kd 198 = 21 ∧ 198 < NN) rfl rfl hiX10 0 (by decide) (by decide +kernel) rfl dX10_restIt_86 ?_
        refine lv_iload_n hx hb dX10_restIt_89 rfl (lv_at hl 0 rfl) ?_
        refine lv_iconst (v := 2) hx hb dX10_restIt_90 (by decide) ?_
        refine lv_iadd hx hb dX10_restIt_91 ?_
        obtain ⟨hi, ho⟩ := gd_ ho
        refine r_iald S F B (kq (by decide) : kd 199 = 22 ∧ 199 < NN) rfl hi dX10_restIt_92 ?_
        cases ho
        exact e_i B hx hb hr hlocks rfl rfl dX10_restIt_93
      · have ho := ip_ c6 ho
        refine lv_aload_n hx hb dX10_restIt_58 rfl (lv_at hl 1 rfl) ?_
        refine lv_bipush (v := 9) hx hb dX10_restIt_59 (by decide) ?_
        refine lv_aload_n hx hb dX10_restIt_61 rfl (lv_at hl 1 rfl) ?_
        refine r_get (ci := 14) (C := RX10) (T := TX10) (N := 21) S F B (kq (by decide) : kd 198 = 21 ∧ 198 < NN) rfl rfl hiX10 0 (by decide) (by decide +kernel) rfl dX10_restIt_62 ?_
        refine lv_iload_n hx hb dX10_restIt_65 rfl (lv_at hl 0 rfl) ?_
        refine lv_iconst (v := 2) hx hb dX10_restIt_66 (by decide) ?_
        refine lv_iadd hx hb dX10_restIt_67 ?_
        obtain ⟨hi, ho⟩ := gd_ ho
        refine r_iald S F B (kq (by decide) : kd 199 = 22 ∧ 199 < NN) rfl hi dX10_restIt_68 ?_
        obtain ⟨q8, σ9, hq8, ho⟩ := bnm_ ho
        refine k_iV (As := [.int 9, .int (σ 199 (q5 + 2).toNatClampNeg)]) (rest := []) S F B (c_X10_refuse l G σ _ 9 (σ 199 (q5 + 2).toNatClampNeg) hq8) (kq (by decide) : kd 198 = 21 ∧ 198 < NN) rfl rfl (cwV 2 hts gX10_restIt_X10_refuse rfl rfl rfl (by decide +kernel) ⟨Nat.le_of_ble_eq_true rfl, Nat.le_of_ble_eq_true rfl⟩) rfl hl.1 rfl (Nat.le_of_ble_eq_true rfl) dX10_restIt_69 ⟨Nat.le_of_ble_eq_true rfl, Nat.le_of_ble_eq_true rfl⟩ (fun H locs B => ?_)
        cases ho
        exact e_i B hx hb hr hlocks rfl rfl dX10_restIt_72
    · have ho := ip_ c4 ho
      refine lv_aload_n hx hb dX10_restIt_33 rfl (lv_at hl 0 rfl) ?_
      refine lv_iconst (v := 1) hx hb dX10_restIt_34 (by decide) ?_
      refine lv_iconst (v := 0) hx hb dX10_restIt_35 (by decide) ?_
      obtain ⟨q10, σ11, hq10, ho⟩ := bnm_ ho
      refine k_iV (As := [.int 1, .int 0]) (rest := []) S F B (c_X10_refuse l G σ _ 1 0 hq10) (kq (by decide) : kd 198 = 21 ∧ 198 < NN) rfl rfl (cwV 2 hts gX10_restIt_X10_refuse rfl rfl rfl (by decide +kernel) ⟨Nat.le_of_ble_eq_true rfl, Nat.le_of_ble_eq_true rfl⟩) rfl hl.1 rfl (Nat.le_of_ble_eq_true rfl) dX10_restIt_36 ⟨Nat.le_of_ble_eq_true rfl, Nat.le_of_ble_eq_true rfl⟩ (fun H locs B => ?_)
      cases ho
      exact e_i B hx hb hr hlocks rfl rfl dX10_restIt_39
  · have ho := ip_ c2 ho
    refine lv_aload_n hx hb dX10_restIt_8 rfl (lv_at hl 0 rfl) ?_
    refine lv_bipush (v := 7) hx hb dX10_restIt_9 (by decide) ?_
    refine lv_aload_n hx hb dX10_restIt_11 rfl (lv_at hl 0 rfl) ?_
    refine r_get (ci := 14) (C := RX10) (T := TX10) (N := 21) S F B (kq (by decide) : kd 198 = 21 ∧ 198 < NN) rfl rfl hiX10 0 (by decide) (by decide +kernel) rfl dX10_restIt_12 ?_
    refine lv_iconst (v := 1) hx hb dX10_restIt_15 (by decide) ?_
    refine r_ialdc (j := 1) S F B (kq (by decide) : kd 199 = 22 ∧ 199 < NN) rfl (vpc (by decide)) (by decide) dX10_restIt_16 ?_
    obtain ⟨q12, σ13, hq12, ho⟩ := bnm_ ho
    refine k_iV (As := [.int 7, .int (σ 199 1)]) (rest := []) S F B (c_X10_refuse l G σ _ 7 (σ 199 1) hq12) (kq (by decide) : kd 198 = 21 ∧ 198 < NN) rfl rfl (cwV 2 hts gX10_restIt_X10_refuse rfl rfl rfl (by decide +kernel) ⟨Nat.le_of_ble_eq_true rfl, Nat.le_of_ble_eq_true rfl⟩) rfl hl.1 rfl (Nat.le_of_ble_eq_true rfl) dX10_restIt_17 ⟨Nat.le_of_ble_eq_true rfl, Nat.le_of_ble_eq_true rfl⟩ (fun H locs B => ?_)
    cases ho
    exact e_i B hx hb hr hlocks rfl rfl dX10_restIt_20

set_option maxHeartbeats 4000000 in
set_option maxRecDepth 100000 in
theorem c_X10_rest (l : Launch) (G : Gd) (σ : Mm) (sz : Nat) (a0 : Int32) (a1 : Int32) {out : Int32 × Mm} (ho : f_X10_rest a0 a1 σ = some out) : Met l yX10_rest wsX10_rest { frames := 3, cells := 0, slots := 0, locals := 69 } (va_Pc [.ref (G.2.2 198), .int a0, .int a1] (PW G σ sz)) (Qi G sz out.1 out.2) 0 0 (AA G sz) := by
  refine Met.ofW (cc := cX10_rest) (maxL := 3) (ret := (some .int)) (by decide) rfl ?_
  intro p e s m args below meth c s₁ B0 hml hv
  obtain ⟨rfl, hpw⟩ := hv
  have hsz := hpw.1
  subst hsz
  obtain ⟨F, B⟩ := hpw.to
  have hx := B0.exec
  have hb := B0.bytes
  have hr := B0.returns
  have hts := atoms_spec (ws := wsX10_rest) B0.pre
  have hown : s.vm.findClass RX10 = some m.cls := findClass_of_methodNamed B0.named
  have hlocks := B0.notSynchronized
  have S : CallFix p m c cX10_rest 3 s _ wsX10_rest RX10 := ⟨hx, hb, hml, hown, hts⟩
  have hl := lv_entry [.ref (G.2.2 198), .int a0, .int a1] (n := 3) (Nat.le_of_ble_eq_true rfl)
  rw [lg_entry_eq]
  generalize (lg_sl [.ref (G.2.2 198), .int a0, .int a1] ++ List.replicate (3 - (lg_sl [.ref (G.2.2 198), .int a0, .int a1]).length) Slot.unset).toArray = ls at hl ⊢
  have hl : lv_has ls 3 [(0, .ref (G.2.2 198)), (1, .int a0), (2, .int a1)] := hl
  unfold f_X10_rest at ho
  refine lv_aload_n hx hb dX10_rest_0 rfl (lv_at hl 0 rfl) ?_
  obtain ⟨σ2, hq1, ho⟩ := bnd_ ho
  refine k_vV (As := []) (rest := []) S F B (c_X10_starts l G σ _ hq1) (kq (by decide) : kd 198 = 21 ∧ 198 < NN) rfl rfl (cwV 0 hts gX10_rest_X10_starts rfl rfl rfl (by decide +kernel) ⟨Nat.le_of_ble_eq_true rfl, Nat.le_of_ble_eq_true rfl⟩) rfl hl.1 rfl (Nat.le_of_ble_eq_true rfl) dX10_rest_1 ⟨Nat.le_of_ble_eq_true rfl, Nat.le_of_ble_eq_true rfl⟩ (fun H locs B => ?_)
  refine lv_aload_n hx hb dX10_rest_4 rfl (lv_at hl 0 rfl) ?_
  refine lv_aload_n hx hb dX10_rest_5 rfl (lv_at hl 0 rfl) ?_
  refine lv_iload_n hx hb dX10_rest_6 rfl (lv_at hl 1 rfl) ?_
  refine lv_iload_n hx hb dX10_rest_7 rfl (lv_at hl 2 rfl) ?_
  obtain ⟨q3, σ4, hq3, ho⟩ := bnm_ ho
  refine k_iV (As := [.int a0, .int a1]) (rest := [.ref (G.2.2 198)]) S F B (c_X10_restIt l G σ2 _ a0 a1 hq3) (kq (by decide) : kd 198 = 21 ∧ 198 < NN) rfl rfl (cwV 2 hts gX10_rest_X10_restIt rfl rfl rfl (by decide +kernel) ⟨Nat.le_of_ble_eq_true rfl, Nat.le_of_ble_eq_true rfl⟩) rfl hl.1 rfl (Nat.le_of_ble_eq_true rfl) dX10_rest_8 ⟨Nat.le_of_ble_eq_true rfl, Nat.le_of_ble_eq_true rfl⟩ (fun H locs B => ?_)
  obtain ⟨q5, σ6, hq5, ho⟩ := bnm_ ho
  refine k_iV (As := [.int q3]) (rest := []) S F B (c_X10_changed l G σ4 _ q3 hq5) (kq (by decide) : kd 198 = 21 ∧ 198 < NN) rfl rfl (cwV 1 hts gX10_rest_X10_changed rfl rfl rfl (by decide +kernel) ⟨Nat.le_of_ble_eq_true rfl, Nat.le_of_ble_eq_true rfl⟩) rfl hl.1 rfl (Nat.le_of_ble_eq_true rfl) dX10_rest_11 ⟨Nat.le_of_ble_eq_true rfl, Nat.le_of_ble_eq_true rfl⟩ (fun H locs B => ?_)
  cases ho
  exact e_i B hx hb hr hlocks rfl rfl dX10_rest_14
