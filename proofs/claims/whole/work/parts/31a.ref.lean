set_option maxHeartbeats 4000000 in
set_option maxRecDepth 100000 in
theorem c_X10_thrown (l : Launch) (G : Gd) (σ : Mm) (sz : Nat) {out : Int32} (ho : f_X10_thrown σ = some out) : Met l yX10_thrown wsX10_thrown { frames := 0, cells := 0, slots := 0, locals := 0 } (va_Pc [.ref (G.2.2 198)] (PW G σ sz)) (Qi G sz out σ) 0 0 (AA G sz) := by
  refine Met.ofW (cc := cX10_thrown) (maxL := 1) (ret := (some .int)) (by decide) rfl ?_
  intro p e s m args below meth c s₁ B0 hml hv
  obtain ⟨rfl, hpw⟩ := hv
  have hsz := hpw.1
  subst hsz
  obtain ⟨F, B⟩ := hpw.to
  have hx := B0.exec
  have hb := B0.bytes
  have hr := B0.returns
  have hts := atoms_spec (ws := wsX10_thrown) B0.pre
  have hown : s.vm.findClass RX10 = some m.cls := findClass_of_methodNamed B0.named
  have hlocks := B0.notSynchronized
  have S : CallFix p m c cX10_thrown 1 s _ wsX10_thrown RX10 := ⟨hx, hb, hml, hown, hts⟩
  have hiX10 : ∀ w ∈ u_ws RX10 TX10 21, w ∈ wsX10_thrown := by decide +kernel
  have hl := lv_entry [.ref (G.2.2 198)] (n := 1) (Nat.le_of_ble_eq_true rfl)
  rw [lg_entry_eq]
  generalize (lg_sl [.ref (G.2.2 198)] ++ List.replicate (1 - (lg_sl [.ref (G.2.2 198)]).length) Slot.unset).toArray = ls at hl ⊢
  have hl : lv_has ls 1 [(0, .ref (G.2.2 198))] := hl
  unfold f_X10_thrown at ho
  refine lv_aload_n hx hb dX10_thrown_0 rfl (lv_at hl 0 rfl) ?_
  refine r_get (ci := 14) (C := RX10) (T := TX10) (N := 21) S F B (kq (by decide) : kd 198 = 21 ∧ 198 < NN) rfl rfl hiX10 12 (by decide) (by decide +kernel) rfl dX10_thrown_1 ?_
  cases ho
  exact e_i B hx hb hr hlocks rfl rfl dX10_thrown_4

set_option maxHeartbeats 4000000 in
set_option maxRecDepth 100000 in
theorem c_X10_throwing (l : Launch) (G : Gd) (σ : Mm) (sz : Nat) (a0 : Int32) {out : Int32 × Mm} (ho : f_X10_throwing a0 σ = some out) : Met l yX10_throwing wsX10_throwing { frames := 0, cells := 0, slots := 0, locals := 0 } (va_Pc [.ref (G.2.2 198), .int a0] (PW G σ sz)) (Qi G sz out.1 out.2) 0 0 (AA G sz) := by
  refine Met.ofW (cc := cX10_throwing) (maxL := 2) (ret := (some .int)) (by decide) rfl ?_
  intro p e s m args below meth c s₁ B0 hml hv
  obtain ⟨rfl, hpw⟩ := hv
  have hsz := hpw.1
  subst hsz
  obtain ⟨F, B⟩ := hpw.to
  have hx := B0.exec
  have hb := B0.bytes
  have hr := B0.returns
  have hts := atoms_spec (ws := wsX10_throwing) B0.pre
  have hown : s.vm.findClass RX10 = some m.cls := findClass_of_methodNamed B0.named
  have hlocks := B0.notSynchronized
  have S : CallFix p m c cX10_throwing 2 s _ wsX10_throwing RX10 := ⟨hx, hb, hml, hown, hts⟩
  have hiX10 : ∀ w ∈ u_ws RX10 TX10 21, w ∈ wsX10_throwing := by decide +kernel
  have hl := lv_entry [.ref (G.2.2 198), .int a0] (n := 2) (Nat.le_of_ble_eq_true rfl)
  rw [lg_entry_eq]
  generalize (lg_sl [.ref (G.2.2 198), .int a0] ++ List.replicate (2 - (lg_sl [.ref (G.2.2 198), .int a0]).length) Slot.unset).toArray = ls at hl ⊢
  have hl : lv_has ls 2 [(0, .ref (G.2.2 198)), (1, .int a0)] := hl
  unfold f_X10_throwing at ho
  refine lv_aload_n hx hb dX10_throwing_0 rfl (lv_at hl 0 rfl) ?_
  refine lv_iload_n hx hb dX10_throwing_1 rfl (lv_at hl 1 rfl) ?_
  refine r_put (ci := 14) (C := RX10) (T := TX10) (N := 21) (ty := .int) S F B tyX10 tyX10_ok nmX10 (kq (by decide) : kd 198 = 21 ∧ 198 < NN) (fun _ => rfl) rfl hiX10 12 (by decide) (by decide +kernel) rfl rfl rfl rfl (fun _ => Nat.le_of_ble_eq_true rfl) (fun _ => rfl) dX10_throwing_2 (fun H locs B => ?_)
  obtain ⟨σ1, eσ1, ho⟩ := lt_ ho
  rw [← eσ1] at B
  refine lv_iconst (v := (-1)) hx hb dX10_throwing_5 (by decide) ?_
  cases ho
  exact e_i B hx hb hr hlocks rfl rfl dX10_throwing_6

set_option maxHeartbeats 4000000 in
set_option maxRecDepth 100000 in
theorem c_X10_in (l : Launch) (G : Gd) (σ : Mm) (sz : Nat) (a0 : Int64) (a1 : Int64) (a2 : Int64) {out : Int32} (ho : f_X10_in a0 a1 a2 σ = some out) : Met l yX10_in wsX10_in { frames := 0, cells := 0, slots := 0, locals := 0 } (va_Pc [.long a0, .long a1, .long a2] (PW G σ sz)) (Qi G sz out σ) 0 0 (AA G sz) := by
  refine Met.ofW (cc := cX10_in) (maxL := 6) (ret := (some .boolean)) (by decide) rfl ?_
  intro p e s m args below meth c s₁ B0 hml hv
  obtain ⟨rfl, hpw⟩ := hv
  have hsz := hpw.1
  subst hsz
  obtain ⟨F, B⟩ := hpw.to
  have hx := B0.exec
  have hb := B0.bytes
  have hr := B0.returns
  have hts := atoms_spec (ws := wsX10_in) B0.pre
  have hown : s.vm.findClass RX10 = some m.cls := findClass_of_methodNamed B0.named
  have hlocks := B0.notSynchronized
  have S : CallFix p m c cX10_in 6 s _ wsX10_in RX10 := ⟨hx, hb, hml, hown, hts⟩
  have hl := lv_entry [.long a0, .long a1, .long a2] (n := 6) (Nat.le_of_ble_eq_true rfl)
  rw [lg_entry_eq]
  generalize (lg_sl [.long a0, .long a1, .long a2] ++ List.replicate (6 - (lg_sl [.long a0, .long a1, .long a2]).length) Slot.unset).toArray = ls at hl ⊢
  have hl : lv_has ls 6 [(0, .long a0), (2, .long a1), (4, .long a2)] := hl
  unfold f_X10_in at ho
  refine lv_lload_n hx hb dX10_in_0 rfl (lv_at hl 0 rfl) ?_
  refine lv_lload_n hx hb dX10_in_1 rfl (lv_at hl 1 rfl) ?_
  refine W.lcmp hx hb dX10_in_2 ?_
  refine lv_if_lt (tgt := 17) hx hb dX10_in_3 (by decide) (fun c1 => ?_) (fun c1 => ?_)
  · have ho := ip_ c1 ho
    refine lv_iconst (v := 0) hx hb dX10_in_17 (by decide) ?_
    cases ho
    exact e_i B hx hb hr hlocks rfl rfl dX10_in_18
  · have ho := in_ c1 ho
    refine lv_lload_n hx hb dX10_in_6 rfl (lv_at hl 0 rfl) ?_
    refine lv_lload hx hb dX10_in_7 (lv_at hl 2 rfl) ?_
    refine W.lcmp hx hb dX10_in_9 ?_
    refine lv_if_gt (tgt := 17) hx hb dX10_in_10 (by decide) (fun c2 => ?_) (fun c2 => ?_)
    · have ho := ip_ c2 ho
      refine lv_iconst (v := 0) hx hb dX10_in_17 (by decide) ?_
      cases ho
      exact e_i B hx hb hr hlocks rfl rfl dX10_in_18
    · have ho := in_ c2 ho
      refine lv_iconst (v := 1) hx hb dX10_in_13 (by decide) ?_
      refine lv_goto (tgt := 18) hx hb dX10_in_14 (by decide) ?_
      cases ho
      exact e_i B hx hb hr hlocks rfl rfl dX10_in_18

set_option maxHeartbeats 4000000 in
set_option maxRecDepth 100000 in
theorem c_X10_refuse (l : Launch) (G : Gd) (σ : Mm) (sz : Nat) (a0 : Int32) (a1 : Int32) {out : Int32 × Mm} (ho : f_X10_refuse a0 a1 σ = some out) : Met l yX10_refuse wsX10_refuse { frames := 1, cells := 0, slots := 0, locals := 21 } (va_Pc [.ref (G.2.2 198), .int a0, .int a1] (PW G σ sz)) (Qi G sz out.1 out.2) 0 0 (AA G sz) := by
  refine Met.ofW (cc := cX10_refuse) (maxL := 3) (ret := (some .int)) (by decide) rfl ?_
  intro p e s m args below meth c s₁ B0 hml hv
  obtain ⟨rfl, hpw⟩ := hv
  have hsz := hpw.1
  subst hsz
  obtain ⟨F, B⟩ := hpw.to
  have hx := B0.exec
  have hb := B0.bytes
  have hr := B0.returns
  have hts := atoms_spec (ws := wsX10_refuse) B0.pre
  have hown : s.vm.findClass RX10 = some m.cls := findClass_of_methodNamed B0.named
  have hlocks := B0.notSynchronized
  have S : CallFix p m c cX10_refuse 3 s _ wsX10_refuse RX10 := ⟨hx, hb, hml, hown, hts⟩
  have hiX10 : ∀ w ∈ u_ws RX10 TX10 21, w ∈ wsX10_refuse := by decide +kernel
  have hl := lv_entry [.ref (G.2.2 198), .int a0, .int a1] (n := 3) (Nat.le_of_ble_eq_true rfl)
  rw [lg_entry_eq]
  generalize (lg_sl [.ref (G.2.2 198), .int a0, .int a1] ++ List.replicate (3 - (lg_sl [.ref (G.2.2 198), .int a0, .int a1]).length) Slot.unset).toArray = ls at hl ⊢
  have hl : lv_has ls 3 [(0, .ref (G.2.2 198)), (1, .int a0), (2, .int a1)] := hl
  unfold f_X10_refuse at ho
  refine lv_aload_n hx hb dX10_refuse_0 rfl (lv_at hl 0 rfl) ?_
  refine lv_iload_n hx hb dX10_refuse_1 rfl (lv_at hl 1 rfl) ?_
  refine r_put (ci := 14) (C := RX10) (T := TX10) (N := 21) (ty := .int) S F B tyX10 tyX10_ok nmX10 (kq (by decide) : kd 198 = 21 ∧ 198 < NN) (fun _ => rfl) rfl hiX10 6 (by decide) (by decide +kernel) rfl rfl rfl rfl (fun _ => Nat.le_of_ble_eq_true rfl) (fun _ => rfl) dX10_refuse_2 (fun H locs B => ?_)
  obtain ⟨σ1, eσ1, ho⟩ := lt_ ho
  rw [← eσ1] at B
  refine lv_aload_n hx hb dX10_refuse_5 rfl (lv_at hl 0 rfl) ?_
  refine lv_iload_n hx hb dX10_refuse_6 rfl (lv_at hl 2 rfl) ?_
  refine r_put (ci := 14) (C := RX10) (T := TX10) (N := 21) (ty := .int) S F B tyX10 tyX10_ok nmX10 (kq (by decide) : kd 198 = 21 ∧ 198 < NN) (fun _ => rfl) rfl hiX10 7 (by decide) (by decide +kernel) rfl rfl rfl rfl (fun _ => Nat.le_of_ble_eq_true rfl) (fun _ => rfl) dX10_refuse_7 (fun H locs B => ?_)
  obtain ⟨σ2, eσ2, ho⟩ := lt_ ho
  rw [← eσ2] at B
  refine lv_aload_n hx hb dX10_refuse_10 rfl (lv_at hl 0 rfl) ?_
  refine lv_iconst (v := 0) hx hb dX10_refuse_11 (by decide) ?_
  refine r_put (ci := 14) (C := RX10) (T := TX10) (N := 21) (ty := .int) S F B tyX10 tyX10_ok nmX10 (kq (by decide) : kd 198 = 21 ∧ 198 < NN) (fun _ => rfl) rfl hiX10 8 (by decide) (by decide +kernel) rfl rfl rfl rfl (fun _ => Nat.le_of_ble_eq_true rfl) (fun _ => rfl) dX10_refuse_12 (fun H locs B => ?_)
  obtain ⟨σ3, eσ3, ho⟩ := lt_ ho
  rw [← eσ3] at B
  refine lv_aload_n hx hb dX10_refuse_15 rfl (lv_at hl 0 rfl) ?_
  refine lv_iconst (v := 1) hx hb dX10_refuse_16 (by decide) ?_
  obtain ⟨q4, σ5, hq4, ho⟩ := bnm_ ho
  refine k_iV (As := [.int 1]) (rest := []) S F B (c_X10_throwing l G σ3 _ 1 hq4) (kq (by decide) : kd 198 = 21 ∧ 198 < NN) rfl rfl (cwV 1 hts gX10_refuse_X10_throwing rfl rfl rfl (by decide +kernel) ⟨Nat.le_of_ble_eq_true rfl, Nat.le_of_ble_eq_true rfl⟩) rfl hl.1 rfl (Nat.le_of_ble_eq_true rfl) dX10_refuse_17 ⟨Nat.le_of_ble_eq_true rfl, Nat.le_of_ble_eq_true rfl⟩ (fun H locs B => ?_)
  cases ho
  exact e_i B hx hb hr hlocks rfl rfl dX10_refuse_20

set_option maxHeartbeats 4000000 in
set_option maxRecDepth 100000 in
theorem c_X10_starts (l : Launch) (G : Gd) (σ : Mm) (sz : Nat) {out : Mm} (ho : f_X10_starts σ = some out) : Met l yX10_starts wsX10_starts { frames := 0, cells := 0, slots := 0, locals := 0 } (va_Pc [.ref (G.2.2 198)] (PW G σ sz)) (Qv G sz out) 0 0 (AA G sz) := by
  refine Met.ofW (cc := cX10_starts) (maxL := 2) (ret := none) (by decide) rfl ?_
  intro p e s m args below meth c s₁ B0 hml hv
  obtain ⟨rfl, hpw⟩ := hv
  have hsz := hpw.1
  subst hsz
  obtain ⟨F, B⟩ := hpw.to
  have hx := B0.exec
  have hb := B0.bytes
  have hr := B0.returns
  have hts := atoms_spec (ws := wsX10_starts) B0.pre
  have hown : s.vm.findClass RX10 = some m.cls := findClass_of_methodNamed B0.named
  have hlocks := B0.notSynchronized
  have S : CallFix p m c cX10_starts 2 s _ wsX10_starts RX10 := ⟨hx, hb, hml, hown, hts⟩
  have hiX10 : ∀ w ∈ u_ws RX10 TX10 21, w ∈ wsX10_starts := by decide +kernel
  have hl := lv_entry [.ref (G.2.2 198)] (n := 2) (Nat.le_of_ble_eq_true rfl)
  rw [lg_entry_eq]
  generalize (lg_sl [.ref (G.2.2 198)] ++ List.replicate (2 - (lg_sl [.ref (G.2.2 198)]).length) Slot.unset).toArray = ls at hl ⊢
  have hl : lv_has ls 2 [(0, .ref (G.2.2 198))] := hl
  unfold f_X10_starts at ho
  skip
  refine lv_aload_n hx hb dX10_starts_0 rfl (lv_at hl 0 rfl) ?_
  refine lv_iconst (v := 0) hx hb dX10_starts_1 (by decide) ?_
  refine r_put (ci := 14) (C := RX10) (T := TX10) (N := 21) (ty := .int) S F B tyX10 tyX10_ok nmX10 (kq (by decide) : kd 198 = 21 ∧ 198 < NN) (fun _ => rfl) rfl hiX10 12 (by decide) (by decide +kernel) rfl rfl rfl rfl (fun _ => Nat.le_of_ble_eq_true rfl) (fun _ => rfl) dX10_starts_2 (fun H locs B => ?_)
  obtain ⟨σ1, eσ1, ho⟩ := lt_ ho
  rw [← eσ1] at B
  refine lv_iconst (v := 0) hx hb dX10_starts_5 (by decide) ?_
  refine lv_istore_n (lv' := [(1, .int 0), (0, .ref (G.2.2 198))]) hx hb dX10_starts_6 rfl hl (by decide) rfl (fun ls hl => ?_)
  have hloop7 : ∀ (n : Nat) (v5 : Int32) (σ6 : Mm) (H : Heap) (locs : List Loc) (ls : Array Slot), f_X10_starts_l7   n v5 σ6 = some out → Bd G σ6 s H locs → lv_has ls 2 [(1, .int v5), (0, .ref (G.2.2 198))] → W p l e (headSpec wsX10_starts { frames := 0, cells := 0, slots := 0, locals := 0 }).room s m #[.ref (G.2.2 198)] below meth c H locs 0 0 (MQ below (Qv G s.heap.size out) #[.ref (G.2.2 198)] s 0 0 (AA G s.heap.size)) (F0 m 7 ls []) := by
    intro n
    induction n with
    | zero => intro v5 σ6 H locs ls ho B hl; cases ho
    | succ n ih =>
      intro v5 σ6 H locs ls ho B hl
      refine lv_iload_n hx hb dX10_starts_7 rfl (lv_at hl 0 rfl) ?_
      refine lv_bipush (v := 86) hx hb dX10_starts_8 (by decide) ?_
      refine lv_icmp_ge (tgt := 31) hx hb dX10_starts_10 (by decide) (fun c7 => ?_) (fun c7 => ?_)
      · have ho := ip_ c7 ho
        cases ho
        exact e_v B hx hb hr hlocks dX10_starts_31
      · have ho := in_ c7 ho
        refine lv_aload_n hx hb dX10_starts_13 rfl (lv_at hl 1 rfl) ?_
        refine r_get (ci := 14) (C := RX10) (T := TX10) (N := 21) S F B (kq (by decide) : kd 198 = 21 ∧ 198 < NN) rfl rfl hiX10 1 (by decide) (by decide +kernel) rfl dX10_starts_14 ?_
        refine lv_iload_n hx hb dX10_starts_17 rfl (lv_at hl 0 rfl) ?_
        refine lv_aload_n hx hb dX10_starts_18 rfl (lv_at hl 1 rfl) ?_
        refine r_get (ci := 14) (C := RX10) (T := TX10) (N := 21) S F B (kq (by decide) : kd 198 = 21 ∧ 198 < NN) rfl rfl hiX10 0 (by decide) (by decide +kernel) rfl dX10_starts_19 ?_
        refine lv_iload_n hx hb dX10_starts_22 rfl (lv_at hl 0 rfl) ?_
        obtain ⟨hi, ho⟩ := gd_ ho
        refine r_iald S F B (kq (by decide) : kd 199 = 22 ∧ 199 < NN) rfl hi dX10_starts_23 ?_
        obtain ⟨hi, ho⟩ := gd_ ho
        refine r_iast S F B (kq (by decide) : kd 200 = 22 ∧ 200 < NN) (fun _ => rfl) hi dX10_starts_24 (fun H locs B => ?_)
        obtain ⟨σ8, eσ8, ho⟩ := lt_ ho
        rw [← eσ8] at B
        obtain ⟨x9, ex9, ho⟩ := lt_ ho
        refine lv_iinc (v := x9) (lv' := [(1, .int x9), (0, .ref (G.2.2 198))]) hx hb dX10_starts_25 hl (k := 0) rfl (by rw [ex9]; rfl) (by decide) rfl (fun ls hl => ?_)
        refine lv_goto (tgt := 7) hx hb dX10_starts_28 (by decide) ?_
        exact ih _ _ _ _ _ ho B (lv_sub hl [0, 1] rfl)
  exact hloop7 90 _ _ _ _ _ ho B hl

set_option maxHeartbeats 4000000 in
set_option maxRecDepth 100000 in
theorem c_X10_changed (l : Launch) (G : Gd) (σ : Mm) (sz : Nat) (a0 : Int32) {out : Int32 × Mm} (ho : f_X10_changed a0 σ = some out) : Met l yX10_changed wsX10_changed { frames := 0, cells := 0, slots := 0, locals := 0 } (va_Pc [.ref (G.2.2 198), .int a0] (PW G σ sz)) (Qi G sz out.1 out.2) 0 0 (AA G sz) := by
  refine Met.ofW (cc := cX10_changed) (maxL := 3) (ret := (some .int)) (by decide) rfl ?_
  intro p e s m args below meth c s₁ B0 hml hv
  obtain ⟨rfl, hpw⟩ := hv
  have hsz := hpw.1
  subst hsz
  obtain ⟨F, B⟩ := hpw.to
  have hx := B0.exec
  have hb := B0.bytes
  have hr := B0.returns
  have hts := atoms_spec (ws := wsX10_changed) B0.pre
  have hown : s.vm.findClass RX10 = some m.cls := findClass_of_methodNamed B0.named
  have hlocks := B0.notSynchronized
  have S : CallFix p m c cX10_changed 3 s _ wsX10_changed RX10 := ⟨hx, hb, hml, hown, hts⟩
  have hiX10 : ∀ w ∈ u_ws RX10 TX10 21, w ∈ wsX10_changed := by decide +kernel
  have hl := lv_entry [.ref (G.2.2 198), .int a0] (n := 3) (Nat.le_of_ble_eq_true rfl)
  rw [lg_entry_eq]
  generalize (lg_sl [.ref (G.2.2 198), .int a0] ++ List.replicate (3 - (lg_sl [.ref (G.2.2 198), .int a0]).length) Slot.unset).toArray = ls at hl ⊢
  have hl : lv_has ls 3 [(0, .ref (G.2.2 198)), (1, .int a0)] := hl
  unfold f_X10_changed at ho
  skip
  refine lv_aload_n hx hb dX10_changed_0 rfl (lv_at hl 0 rfl) ?_
  refine r_get (ci := 14) (C := RX10) (T := TX10) (N := 21) S F B (kq (by decide) : kd 198 = 21 ∧ 198 < NN) rfl rfl hiX10 12 (by decide) (by decide +kernel) rfl dX10_changed_1 ?_
  refine lv_if_le (tgt := 9) hx hb dX10_changed_4 (by decide) (fun c1 => ?_) (fun c1 => ?_)
  · have ho := ip_ c1 ho
    refine lv_aload_n hx hb dX10_changed_9 rfl (lv_at hl 0 rfl) ?_
    refine r_get (ci := 14) (C := RX10) (T := TX10) (N := 21) S F B (kq (by decide) : kd 198 = 21 ∧ 198 < NN) rfl rfl hiX10 5 (by decide) (by decide +kernel) rfl dX10_changed_10 ?_
    refine lv_bipush (v := 8) hx hb dX10_changed_13 (by decide) ?_
    refine lv_icmp_ne (tgt := 58) hx hb dX10_changed_15 (by decide) (fun c2 => ?_) (fun c2 => ?_)
    · have ho := in_ c2 ho
      refine lv_iconst (v := 0) hx hb dX10_changed_58 (by decide) ?_
      refine lv_istore_n (lv' := [(2, .int 0), (0, .ref (G.2.2 198)), (1, .int a0)]) hx hb dX10_changed_59 rfl hl (by decide) rfl (fun ls hl => ?_)
      have hloop60 : ∀ (n : Nat) (v6 : Int32) (σ7 : Mm) (H : Heap) (locs : List Loc) (ls : Array Slot), f_X10_changed_l60  a0 n v6 σ7 = some out → Bd G σ7 s H locs → lv_has ls 3 [(2, .int v6), (0, .ref (G.2.2 198)), (1, .int a0)] → W p l e (headSpec wsX10_changed { frames := 0, cells := 0, slots := 0, locals := 0 }).room s m #[.ref (G.2.2 198), .int a0] below meth c H locs 0 0 (MQ below (Qi G s.heap.size out.1 out.2) #[.ref (G.2.2 198), .int a0] s 0 0 (AA G s.heap.size)) (F0 m 60 ls []) := by
        intro n
        induction n with
        | zero => intro v6 σ7 H locs ls ho B hl; cases ho
        | succ n ih =>
          intro v6 σ7 H locs ls ho B hl
          refine lv_iload_n hx hb dX10_changed_60 rfl (lv_at hl 0 rfl) ?_
          refine lv_bipush (v := 86) hx hb dX10_changed_61 (by decide) ?_
          refine lv_icmp_ge (tgt := 92) hx hb dX10_changed_63 (by decide) (fun c8 => ?_) (fun c8 => ?_)
          · have ho := ip_ c8 ho
            refine lv_aload_n hx hb dX10_changed_92 rfl (lv_at hl 1 rfl) ?_
            refine lv_dup hx hb dX10_changed_93 rfl ?_
            refine r_get (ci := 14) (C := RX10) (T := TX10) (N := 21) S F B (kq (by decide) : kd 198 = 21 ∧ 198 < NN) rfl rfl hiX10 5 (by decide) (by decide +kernel) rfl dX10_changed_94 ?_
            refine lv_iconst (v := 1) hx hb dX10_changed_97 (by decide) ?_
            refine lv_iadd hx hb dX10_changed_98 ?_
            refine r_put (ci := 14) (C := RX10) (T := TX10) (N := 21) (ty := .int) S F B tyX10 tyX10_ok nmX10 (kq (by decide) : kd 198 = 21 ∧ 198 < NN) (fun _ => rfl) rfl hiX10 5 (by decide) (by decide +kernel) rfl rfl rfl rfl (fun _ => Nat.le_of_ble_eq_true rfl) (fun _ => rfl) dX10_changed_99 (fun H locs B => ?_)
            obtain ⟨σ9, eσ9, ho⟩ := lt_ ho
            rw [← eσ9] at B
            refine lv_iload_n hx hb dX10_changed_102 rfl (lv_at hl 2 rfl) ?_
            cases ho
            exact e_i B hx hb hr hlocks rfl rfl dX10_changed_103
          · have ho := in_ c8 ho
            refine lv_aload_n hx hb dX10_changed_66 rfl (lv_at hl 1 rfl) ?_
            refine r_get (ci := 14) (C := RX10) (T := TX10) (N := 21) S F B (kq (by decide) : kd 198 = 21 ∧ 198 < NN) rfl rfl hiX10 4 (by decide) (by decide +kernel) rfl dX10_changed_67 ?_
            refine lv_bipush (v := 86) hx hb dX10_changed_70 (by decide) ?_
            refine lv_aload_n hx hb dX10_changed_72 rfl (lv_at hl 1 rfl) ?_
            refine r_get (ci := 14) (C := RX10) (T := TX10) (N := 21) S F B (kq (by decide) : kd 198 = 21 ∧ 198 < NN) rfl rfl hiX10 5 (by decide) (by decide +kernel) rfl dX10_changed_73 ?_
            refine lv_imul hx hb dX10_changed_76 ?_
            refine lv_iload_n hx hb dX10_changed_77 rfl (lv_at hl 0 rfl) ?_
            refine lv_iadd hx hb dX10_changed_78 ?_
            refine lv_aload_n hx hb dX10_changed_79 rfl (lv_at hl 1 rfl) ?_
            refine r_get (ci := 14) (C := RX10) (T := TX10) (N := 21) S F B (kq (by decide) : kd 198 = 21 ∧ 198 < NN) rfl rfl hiX10 1 (by decide) (by decide +kernel) rfl dX10_changed_80 ?_
            refine lv_iload_n hx hb dX10_changed_83 rfl (lv_at hl 0 rfl) ?_
            obtain ⟨hi, ho⟩ := gd_ ho
            refine r_iald S F B (kq (by decide) : kd 200 = 22 ∧ 200 < NN) rfl hi dX10_changed_84 ?_
            obtain ⟨hi, ho⟩ := gd_ ho
            refine r_iast S F B (kq (by decide) : kd 202 = 23 ∧ 202 < NN) (fun _ => rfl) hi dX10_changed_85 (fun H locs B => ?_)
            obtain ⟨σ10, eσ10, ho⟩ := lt_ ho
            rw [← eσ10] at B
            obtain ⟨x11, ex11, ho⟩ := lt_ ho
            refine lv_iinc (v := x11) (lv' := [(2, .int x11), (0, .ref (G.2.2 198)), (1, .int a0)]) hx hb dX10_changed_86 hl (k := 0) rfl (by rw [ex11]; rfl) (by decide) rfl (fun ls hl => ?_)
            refine lv_goto (tgt := 60) hx hb dX10_changed_89 (by decide) ?_
            exact ih _ _ _ _ _ ho B (lv_sub hl [0, 1, 2] rfl)
      exact hloop60 700 _ _ _ _ _ ho B hl
    · have ho := ip_ c2 ho
      refine lv_iconst (v := 0) hx hb dX10_changed_18 (by decide) ?_
      refine lv_istore_n (lv' := [(2, .int 0), (0, .ref (G.2.2 198)), (1, .int a0)]) hx hb dX10_changed_19 rfl hl (by decide) rfl (fun ls hl => ?_)
      obtain ⟨K, hK, ho⟩ := lt_ ho
      have hexit20 : ∀ (v12 : Int32) (σ13 : Mm) (H : Heap) (locs : List Loc) (ls : Array Slot), K v12 σ13 = some out → Bd G σ13 s H locs → lv_has ls 3 [(2, .int v12), (0, .ref (G.2.2 198)), (1, .int a0)] → W p l e (headSpec wsX10_changed { frames := 0, cells := 0, slots := 0, locals := 0 }).room s m #[.ref (G.2.2 198), .int a0] below meth c H locs 0 0 (MQ below (Qi G s.heap.size out.1 out.2) #[.ref (G.2.2 198), .int a0] s 0 0 (AA G s.heap.size)) (F0 m 48 ls []) := by
        intro v12 σ13 H locs ls ho B hl
        subst hK
        refine lv_aload_n hx hb dX10_changed_48 rfl (lv_at hl 1 rfl) ?_
        refine lv_dup hx hb dX10_changed_49 rfl ?_
        refine r_get (ci := 14) (C := RX10) (T := TX10) (N := 21) S F B (kq (by decide) : kd 198 = 21 ∧ 198 < NN) rfl rfl hiX10 5 (by decide) (by decide +kernel) rfl dX10_changed_50 ?_
        refine lv_iconst (v := 1) hx hb dX10_changed_53 (by decide) ?_
        refine lv_isub hx hb dX10_changed_54 ?_
        refine r_put (ci := 14) (C := RX10) (T := TX10) (N := 21) (ty := .int) S F B tyX10 tyX10_ok nmX10 (kq (by decide) : kd 198 = 21 ∧ 198 < NN) (fun _ => rfl) rfl hiX10 5 (by decide) (by decide +kernel) rfl rfl rfl rfl (fun _ => Nat.le_of_ble_eq_true rfl) (fun _ => rfl) dX10_changed_55 (fun H locs B => ?_)
        obtain ⟨σ15, eσ15, ho⟩ := lt_ ho
        rw [← eσ15] at B
        refine lv_iconst (v := 0) hx hb dX10_changed_58 (by decide) ?_
        refine lv_istore_n (lv' := [(2, .int 0), (0, .ref (G.2.2 198)), (1, .int a0)]) hx hb dX10_changed_59 rfl hl (by decide) rfl (fun ls hl => ?_)
        have hloop60 : ∀ (n : Nat) (v19 : Int32) (σ20 : Mm) (H : Heap) (locs : List Loc) (ls : Array Slot), f_X10_changed_l60b  a0 n v19 σ20 = some out → Bd G σ20 s H locs → lv_has ls 3 [(2, .int v19), (0, .ref (G.2.2 198)), (1, .int a0)] → W p l e (headSpec wsX10_changed { frames := 0, cells := 0, slots := 0, locals := 0 }).room s m #[.ref (G.2.2 198), .int a0] below meth c H locs 0 0 (MQ below (Qi G s.heap.size out.1 out.2) #[.ref (G.2.2 198), .int a0] s 0 0 (AA G s.heap.size)) (F0 m 60 ls []) := by
          intro n
          induction n with
          | zero => intro v19 σ20 H locs ls ho B hl; cases ho
          | succ n ih =>
            intro v19 σ20 H locs ls ho B hl
            refine lv_iload_n hx hb dX10_changed_60 rfl (lv_at hl 0 rfl) ?_
            refine lv_bipush (v := 86) hx hb dX10_changed_61 (by decide) ?_
            refine lv_icmp_ge (tgt := 92) hx hb dX10_changed_63 (by decide) (fun c21 => ?_) (fun c21 => ?_)
            · have ho := ip_ c21 ho
              refine lv_aload_n hx hb dX10_changed_92 rfl (lv_at hl 1 rfl) ?_
              refine lv_dup hx hb dX10_changed_93 rfl ?_
              refine r_get (ci := 14) (C := RX10) (T := TX10) (N := 21) S F B (kq (by decide) : kd 198 = 21 ∧ 198 < NN) rfl rfl hiX10 5 (by decide) (by decide +kernel) rfl dX10_changed_94 ?_
              refine lv_iconst (v := 1) hx hb dX10_changed_97 (by decide) ?_
              refine lv_iadd hx hb dX10_changed_98 ?_
              refine r_put (ci := 14) (C := RX10) (T := TX10) (N := 21) (ty := .int) S F B tyX10 tyX10_ok nmX10 (kq (by decide) : kd 198 = 21 ∧ 198 < NN) (fun _ => rfl) rfl hiX10 5 (by decide) (by decide +kernel) rfl rfl rfl rfl (fun _ => Nat.le_of_ble_eq_true rfl) (fun _ => rfl) dX10_changed_99 (fun H locs B => ?_)
              obtain ⟨σ22, eσ22, ho⟩ := lt_ ho
              rw [← eσ22] at B
              refine lv_iload_n hx hb dX10_changed_102 rfl (lv_at hl 2 rfl) ?_
              cases ho
              exact e_i B hx hb hr hlocks rfl rfl dX10_changed_103
            · have ho := in_ c21 ho
              refine lv_aload_n hx hb dX10_changed_66 rfl (lv_at hl 1 rfl) ?_
              refine r_get (ci := 14) (C := RX10) (T := TX10) (N := 21) S F B (kq (by decide) : kd 198 = 21 ∧ 198 < NN) rfl rfl hiX10 4 (by decide) (by decide +kernel) rfl dX10_changed_67 ?_
              refine lv_bipush (v := 86) hx hb dX10_changed_70 (by decide) ?_
              refine lv_aload_n hx hb dX10_changed_72 rfl (lv_at hl 1 rfl) ?_
              refine r_get (ci := 14) (C := RX10) (T := TX10) (N := 21) S F B (kq (by decide) : kd 198 = 21 ∧ 198 < NN) rfl rfl hiX10 5 (by decide) (by decide +kernel) rfl dX10_changed_73 ?_
              refine lv_imul hx hb dX10_changed_76 ?_
              refine lv_iload_n hx hb dX10_changed_77 rfl (lv_at hl 0 rfl) ?_
              refine lv_iadd hx hb dX10_changed_78 ?_
              refine lv_aload_n hx hb dX10_changed_79 rfl (lv_at hl 1 rfl) ?_
              refine r_get (ci := 14) (C := RX10) (T := TX10) (N := 21) S F B (kq (by decide) : kd 198 = 21 ∧ 198 < NN) rfl rfl hiX10 1 (by decide) (by decide +kernel) rfl dX10_changed_80 ?_
              refine lv_iload_n hx hb dX10_changed_83 rfl (lv_at hl 0 rfl) ?_
              obtain ⟨hi, ho⟩ := gd_ ho
              refine r_iald S F B (kq (by decide) : kd 200 = 22 ∧ 200 < NN) rfl hi dX10_changed_84 ?_
              obtain ⟨hi, ho⟩ := gd_ ho
              refine r_iast S F B (kq (by decide) : kd 202 = 23 ∧ 202 < NN) (fun _ => rfl) hi dX10_changed_85 (fun H locs B => ?_)
              obtain ⟨σ23, eσ23, ho⟩ := lt_ ho
              rw [← eσ23] at B
              obtain ⟨x24, ex24, ho⟩ := lt_ ho
              refine lv_iinc (v := x24) (lv' := [(2, .int x24), (0, .ref (G.2.2 198)), (1, .int a0)]) hx hb dX10_changed_86 hl (k := 0) rfl (by rw [ex24]; rfl) (by decide) rfl (fun ls hl => ?_)
              refine lv_goto (tgt := 60) hx hb dX10_changed_89 (by decide) ?_
              exact ih _ _ _ _ _ ho B (lv_sub hl [0, 1, 2] rfl)
        exact hloop60 700 _ _ _ _ _ ho B hl
      have hloop20 : ∀ (n : Nat) (v25 : Int32) (σ26 : Mm) (H : Heap) (locs : List Loc) (ls : Array Slot), f_X10_changed_l20 K a0 n v25 σ26 = some out → Bd G σ26 s H locs → lv_has ls 3 [(2, .int v25), (0, .ref (G.2.2 198)), (1, .int a0)] → W p l e (headSpec wsX10_changed { frames := 0, cells := 0, slots := 0, locals := 0 }).room s m #[.ref (G.2.2 198), .int a0] below meth c H locs 0 0 (MQ below (Qi G s.heap.size out.1 out.2) #[.ref (G.2.2 198), .int a0] s 0 0 (AA G s.heap.size)) (F0 m 20 ls []) := by
        intro n
        induction n with
        | zero => intro v25 σ26 H locs ls ho B hl; cases ho
        | succ n ih =>
          intro v25 σ26 H locs ls ho B hl
          refine lv_iload_n hx hb dX10_changed_20 rfl (lv_at hl 0 rfl) ?_
          refine lv_sipush (v := 602) hx hb dX10_changed_21 (by decide) ?_
          refine lv_icmp_ge (tgt := 48) hx hb dX10_changed_24 (by decide) (fun c27 => ?_) (fun c27 => ?_)
          · have ho := ip_ c27 ho
            exact hexit20 _ _ _ _ _ ho B (lv_sub hl [0, 1, 2] rfl)
          · have ho := in_ c27 ho
            refine lv_aload_n hx hb dX10_changed_27 rfl (lv_at hl 1 rfl) ?_
            refine r_get (ci := 14) (C := RX10) (T := TX10) (N := 21) S F B (kq (by decide) : kd 198 = 21 ∧ 198 < NN) rfl rfl hiX10 4 (by decide) (by decide +kernel) rfl dX10_changed_28 ?_
            refine lv_iload_n hx hb dX10_changed_31 rfl (lv_at hl 0 rfl) ?_
            refine lv_aload_n hx hb dX10_changed_32 rfl (lv_at hl 1 rfl) ?_
            refine r_get (ci := 14) (C := RX10) (T := TX10) (N := 21) S F B (kq (by decide) : kd 198 = 21 ∧ 198 < NN) rfl rfl hiX10 4 (by decide) (by decide +kernel) rfl dX10_changed_33 ?_
            refine lv_iload_n hx hb dX10_changed_36 rfl (lv_at hl 0 rfl) ?_
            refine lv_bipush (v := 86) hx hb dX10_changed_37 (by decide) ?_
            refine lv_iadd hx hb dX10_changed_39 ?_
            obtain ⟨hi, ho⟩ := gd_ ho
            refine r_iald S F B (kq (by decide) : kd 202 = 23 ∧ 202 < NN) rfl hi dX10_changed_40 ?_
            obtain ⟨hi, ho⟩ := gd_ ho
            refine r_iast S F B (kq (by decide) : kd 202 = 23 ∧ 202 < NN) (fun _ => rfl) hi dX10_changed_41 (fun H locs B => ?_)
            obtain ⟨σ28, eσ28, ho⟩ := lt_ ho
            rw [← eσ28] at B
            obtain ⟨x29, ex29, ho⟩ := lt_ ho
            refine lv_iinc (v := x29) (lv' := [(2, .int x29), (0, .ref (G.2.2 198)), (1, .int a0)]) hx hb dX10_changed_42 hl (k := 0) rfl (by rw [ex29]; rfl) (by decide) rfl (fun ls hl => ?_)
            refine lv_goto (tgt := 20) hx hb dX10_changed_45 (by decide) ?_
            exact ih _ _ _ _ _ ho B (lv_sub hl [0, 1, 2] rfl)
      exact hloop20 700 _ _ _ _ _ ho B hl
  · have ho := in_ c1 ho
    refine lv_iload_n hx hb dX10_changed_7 rfl (lv_at hl 1 rfl) ?_
    cases ho
    exact e_i B hx hb hr hlocks rfl rfl dX10_changed_8

set_option maxHeartbeats 4000000 in
set_option maxRecDepth 100000 in
theorem c_X10_isCell (l : Launch) (G : Gd) (σ : Mm) (sz : Nat) (a0 : Int32) {out : Int32} (ho : f_X10_isCell a0 σ = some out) : Met l yX10_isCell wsX10_isCell { frames := 1, cells := 0, slots := 0, locals := 25 } (va_Pc [.int a0] (PW G σ sz)) (Qi G sz out σ) 0 0 (AA G sz) := by
  refine Met.ofW (cc := cX10_isCell) (maxL := 1) (ret := (some .boolean)) (by decide) rfl ?_
  intro p e s m args below meth c s₁ B0 hml hv
  obtain ⟨rfl, hpw⟩ := hv
  have hsz := hpw.1
  subst hsz
  obtain ⟨F, B⟩ := hpw.to
  have hx := B0.exec
  have hb := B0.bytes
  have hr := B0.returns
  have hts := atoms_spec (ws := wsX10_isCell) B0.pre
  have hown : s.vm.findClass RX10 = some m.cls := findClass_of_methodNamed B0.named
  have hlocks := B0.notSynchronized
  have S : CallFix p m c cX10_isCell 1 s _ wsX10_isCell RX10 := ⟨hx, hb, hml, hown, hts⟩
  have hl := lv_entry [.int a0] (n := 1) (Nat.le_of_ble_eq_true rfl)
  rw [lg_entry_eq]
  generalize (lg_sl [.int a0] ++ List.replicate (1 - (lg_sl [.int a0]).length) Slot.unset).toArray = ls at hl ⊢
  have hl : lv_has ls 1 [(0, .int a0)] := hl
  unfold f_X10_isCell at ho
  refine lv_iload_n hx hb dX10_isCell_0 rfl (lv_at hl 0 rfl) ?_
  refine lv_i2l hx hb dX10_isCell_1 rfl ?_
  refine lv_lconst (v := 0) hx hb dX10_isCell_2 (by decide) ?_
  refine lv_ldc2 (v := 15) hx hb hown (hts _ (by decide +kernel)) dX10_isCell_3 ?_
  obtain ⟨q1, hq1, ho⟩ := bnd_ ho
  refine k_iS (As := [.long a0.toInt64, .long 0, .long 15]) (rest := []) S F B (c_X10_in l G σ _ a0.toInt64 0 15 hq1) (va_cwS 3 hts gX10_isCell_X10_in rfl rfl rfl (by decide +kernel) ⟨Nat.le_of_ble_eq_true rfl, Nat.le_of_ble_eq_true rfl⟩) rfl hl.1 rfl (Nat.le_of_ble_eq_true rfl) dX10_isCell_6 ⟨Nat.le_of_ble_eq_true rfl, Nat.le_of_ble_eq_true rfl⟩ (fun H locs B => ?_)
  obtain ⟨hz, ho⟩ := bz_ ho
  cases ho
  exact e_i B hx hb hr hlocks hz rfl dX10_isCell_9

