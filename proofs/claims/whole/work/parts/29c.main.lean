set_option maxHeartbeats 4000000 in
set_option maxRecDepth 100000 in
theorem c_X9_wouldPay (l : Launch) (hl9 : l.stackTraces = false) (G : Gd) (σ : Mm) (sz : Nat) (a0 : Int32) {out : (Int32 ⊕ Nat) × Mm} (ho : f_X9_wouldPay a0 σ = some out) : vx_Met l yX9_wouldPay wsX9_wouldPay { frames := 7, cells := 2, slots := 12, locals := 132 } (va_Pc [.ref (G.2.2 154), .int a0] (PW G σ sz)) (Xi G sz out) (XX G sz out) 2 12 (AA G sz) := by
  refine vx_ofW (cc := cX9_wouldPay) (maxL := 5) (ret := (some .int)) (by decide) rfl ?_
  intro p e s m args below meth c s₁ B0 hml ht9 hv
  obtain ⟨rfl, hpw⟩ := hv
  have hsz := hpw.1
  subst hsz
  obtain ⟨F, B⟩ := hpw.to
  have hx := B0.exec
  have hb := B0.bytes
  have hr := B0.returns
  have hts := atoms_spec (ws := wsX9_wouldPay) B0.pre
  have hown : s.vm.findClass RX9 = some m.cls := findClass_of_methodNamed B0.named
  have hlocks := B0.notSynchronized
  have S : CallFix p m c cX9_wouldPay 5 s _ wsX9_wouldPay RX9 := ⟨hx, hb, hml, hown, hts⟩
  have hiX9 : ∀ w ∈ u_ws RX9 TX9 10, w ∈ wsX9_wouldPay := by decide +kernel
  have hiX1 : ∀ w ∈ u_ws RX1 TX1 4, w ∈ wsX9_wouldPay := by decide +kernel
  have hiX7 : ∀ w ∈ u_ws RX7 TX7 8, w ∈ wsX9_wouldPay := by decide +kernel
  have hl := lv_entry [.ref (G.2.2 154), .int a0] (n := 5) (Nat.le_of_ble_eq_true rfl)
  rw [lg_entry_eq]
  generalize (lg_sl [.ref (G.2.2 154), .int a0] ++ List.replicate (5 - (lg_sl [.ref (G.2.2 154), .int a0]).length) Slot.unset).toArray = ls at hl ⊢
  have hl : lv_has ls 5 [(0, .ref (G.2.2 154)), (1, .int a0)] := hl
  unfold f_X9_wouldPay at ho
  refine lv_aload_n hx hb dX9_wouldPay_0 rfl (lv_at hl 0 rfl) ?_
  refine lv_iload_n hx hb dX9_wouldPay_1 rfl (lv_at hl 1 rfl) ?_
  rcases xb_ ho with ⟨q1, σ2, hq1, ho⟩ | ⟨q1, σ2, hq1, rfl⟩
  rotate_left
  · exact xk_eV (As := [.int a0]) (rest := []) no_Xq S F B (c_X9_visitorAsked l hl9 G σ _ a0 hq1) (kq (by decide) : kd 154 = 7 ∧ 154 < NN) rfl rfl (cwV 1 hts gX9_wouldPay_X9_visitorAsked rfl rfl rfl (by decide +kernel) ⟨Nat.le_of_ble_eq_true rfl, Nat.le_of_ble_eq_true rfl⟩) rfl hl.1 rfl (Nat.le_of_ble_eq_true rfl) dX9_wouldPay_2 hlocks ht9 (Nat.le_of_ble_eq_true rfl) (Nat.le_of_ble_eq_true rfl) ⟨Nat.le_of_ble_eq_true rfl, Nat.le_of_ble_eq_true rfl⟩
  refine xk_qV (As := [.int a0]) (rest := []) S F B (c_X9_visitorAsked l hl9 G σ _ a0 hq1) (kq (by decide) : kd 154 = 7 ∧ 154 < NN) rfl rfl (cwV 1 hts gX9_wouldPay_X9_visitorAsked rfl rfl rfl (by decide +kernel) ⟨Nat.le_of_ble_eq_true rfl, Nat.le_of_ble_eq_true rfl⟩) rfl hl.1 rfl (Nat.le_of_ble_eq_true rfl) dX9_wouldPay_2 ⟨Nat.le_of_ble_eq_true rfl, Nat.le_of_ble_eq_true rfl⟩ (fun H locs B => ?_)
  cases q1 with
  | none =>
    have ho := oc_n ho
    cases ho
  | some j3 =>
    have ho := oc_s ho
    have hj3 : kd j3 = 6 ∧ j3 < NN := kf_vasked hq1
    refine lv_astore_n (lv' := [(2, .ref (G.2.2 j3)), (0, .ref (G.2.2 154)), (1, .int a0)]) hx hb dX9_wouldPay_5 rfl hl (by decide) rfl (fun ls hl => ?_)
    refine lv_aload_n hx hb dX9_wouldPay_6 rfl (lv_at hl 1 rfl) ?_
    refine r_get (ci := 13) (C := RX9) (T := TX9) (N := 10) S F B (kq (by decide) : kd 154 = 7 ∧ 154 < NN) rfl rfl hiX9 0 (by decide) (by decide +kernel) rfl dX9_wouldPay_7 ?_
    refine lv_aload_n hx hb dX9_wouldPay_10 rfl (lv_at hl 0 rfl) ?_
    refine r_getN (ci := 11) (C := RX7) (T := TX7) (N := 8) S F B hj3 rfl rfl hiX7 4 (by decide) (by decide) rfl dX9_wouldPay_11 ?_
    obtain ⟨q4, hq4, ho⟩ := bnd_ ho
    refine k_qV (As := [.int (σ2 j3 4)]) (rest := []) S F B (c_X6_findGardener l G σ2 _ (σ2 j3 4) hq4) (kq (by decide) : kd 0 = 0 ∧ 0 < NN) rfl rfl (cwV 1 hts gX9_wouldPay_X6_findGardener rfl rfl rfl (by decide +kernel) ⟨Nat.le_of_ble_eq_true rfl, Nat.le_of_ble_eq_true rfl⟩) rfl hl.1 rfl (Nat.le_of_ble_eq_true rfl) dX9_wouldPay_14 ⟨Nat.le_of_ble_eq_true rfl, Nat.le_of_ble_eq_true rfl⟩ (fun H locs B => ?_)
    cases q4 with
    | none =>
      have ho := oc_n ho
      refine lv_astore_nN (lv' := [(3, .null), (2, .ref (G.2.2 j3)), (0, .ref (G.2.2 154)), (1, .int a0)]) hx hb dX9_wouldPay_17 rfl hl (by decide) rfl (fun ls hl => ?_)
      refine lv_aload_n hx hb dX9_wouldPay_18 rfl (lv_at hl 1 rfl) ?_
      refine r_getN (ci := 11) (C := RX7) (T := TX7) (N := 8) S F B hj3 rfl rfl hiX7 7 (by decide) (by decide) rfl dX9_wouldPay_19 ?_
      refine lv_if_ne (tgt := 29) hx hb dX9_wouldPay_22 (by decide) (fun c6 => ?_) (fun c6 => ?_)
      · have ho := in_ c6 ho
        cases ho
        exact t_throwNg 2 9 (by decide) (by decide) S F B hl9 hlocks ht9 hl.1 rfl rfl (by decide +kernel) (by decide +kernel) (by decide +kernel) (by decide +kernel) (Nat.le_of_ble_eq_true rfl) (Nat.le_of_ble_eq_true rfl) (Nat.le_of_ble_eq_true rfl) (Nat.le_of_ble_eq_true rfl) (Nat.le_of_ble_eq_true rfl) (Nat.le_of_ble_eq_true rfl) dX9_wouldPay_29 dX9_wouldPay_32 dX9_wouldPay_33 dX9_wouldPay_35 dX9_wouldPay_38
      · have ho := ip_ c6 ho
        refine lv_aload_nN hx hb dX9_wouldPay_25 rfl (lv_at hl 0 rfl) ?_
        refine lv_ifnonnullN hx hb dX9_wouldPay_26 ?_
        cases ho
        exact t_throwNg 2 9 (by decide) (by decide) S F B hl9 hlocks ht9 hl.1 rfl rfl (by decide +kernel) (by decide +kernel) (by decide +kernel) (by decide +kernel) (Nat.le_of_ble_eq_true rfl) (Nat.le_of_ble_eq_true rfl) (Nat.le_of_ble_eq_true rfl) (Nat.le_of_ble_eq_true rfl) (Nat.le_of_ble_eq_true rfl) (Nat.le_of_ble_eq_true rfl) dX9_wouldPay_29 dX9_wouldPay_32 dX9_wouldPay_33 dX9_wouldPay_35 dX9_wouldPay_38
    | some j5 =>
      have ho := oc_s ho
      have hj5 : kd j5 = 4 ∧ j5 < NN := kf_gard hq4
      refine lv_astore_n (lv' := [(3, .ref (G.2.2 j5)), (2, .ref (G.2.2 j3)), (0, .ref (G.2.2 154)), (1, .int a0)]) hx hb dX9_wouldPay_17 rfl hl (by decide) rfl (fun ls hl => ?_)
      refine lv_aload_n hx hb dX9_wouldPay_18 rfl (lv_at hl 1 rfl) ?_
      refine r_getN (ci := 11) (C := RX7) (T := TX7) (N := 8) S F B hj3 rfl rfl hiX7 7 (by decide) (by decide) rfl dX9_wouldPay_19 ?_
      refine lv_if_ne (tgt := 29) hx hb dX9_wouldPay_22 (by decide) (fun c7 => ?_) (fun c7 => ?_)
      · have ho := in_ c7 ho
        cases ho
        exact t_throwNg 2 9 (by decide) (by decide) S F B hl9 hlocks ht9 hl.1 rfl rfl (by decide +kernel) (by decide +kernel) (by decide +kernel) (by decide +kernel) (Nat.le_of_ble_eq_true rfl) (Nat.le_of_ble_eq_true rfl) (Nat.le_of_ble_eq_true rfl) (Nat.le_of_ble_eq_true rfl) (Nat.le_of_ble_eq_true rfl) (Nat.le_of_ble_eq_true rfl) dX9_wouldPay_29 dX9_wouldPay_32 dX9_wouldPay_33 dX9_wouldPay_35 dX9_wouldPay_38
      · have ho := ip_ c7 ho
        refine lv_aload_n hx hb dX9_wouldPay_25 rfl (lv_at hl 0 rfl) ?_
        refine lv_ifnonnull (tgt := 39) hx hb dX9_wouldPay_26 (by decide) ?_
        refine lv_aload_n hx hb dX9_wouldPay_39 rfl (lv_at hl 2 rfl) ?_
        refine r_get (ci := 13) (C := RX9) (T := TX9) (N := 10) S F B (kq (by decide) : kd 154 = 7 ∧ 154 < NN) rfl rfl hiX9 6 (by decide) (by decide +kernel) rfl dX9_wouldPay_40 ?_
        refine lv_aload_n hx hb dX9_wouldPay_43 rfl (lv_at hl 1 rfl) ?_
        refine r_getN (ci := 11) (C := RX7) (T := TX7) (N := 8) S F B hj3 rfl rfl hiX7 1 (by decide) (by decide) rfl dX9_wouldPay_44 ?_
        refine lv_bipush (v := 15) hx hb dX9_wouldPay_47 (by decide) ?_
        obtain ⟨q8, σ9, hq8, ho⟩ := bnm_ ho
        refine k_iV (As := [.int (σ2 j3 1), .int 15]) (rest := []) S F B (c_X8_hoursByDistance l G σ2 _ (σ2 j3 1) 15 hq8) (kq (by decide) : kd 158 = 11 ∧ 158 < NN) rfl rfl (cwV 2 hts gX9_wouldPay_X8_hoursByDistance rfl rfl rfl (by decide +kernel) ⟨Nat.le_of_ble_eq_true rfl, Nat.le_of_ble_eq_true rfl⟩) rfl hl.1 rfl (Nat.le_of_ble_eq_true rfl) dX9_wouldPay_49 ⟨Nat.le_of_ble_eq_true rfl, Nat.le_of_ble_eq_true rfl⟩ (fun H locs B => ?_)
        rcases xb_ ho with ⟨q10, σ11, hq10, ho⟩ | ⟨q10, σ11, hq10, rfl⟩
        rotate_left
        · exact xk_eS (As := [.int q8]) (rest := []) no_Xi S F B (c_X9_demandWay l hl9 G σ9 _ q8 hq10) (va_cwS 1 hts gX9_wouldPay_X9_demandWay rfl rfl rfl (by decide +kernel) ⟨Nat.le_of_ble_eq_true rfl, Nat.le_of_ble_eq_true rfl⟩) rfl hl.1 rfl (Nat.le_of_ble_eq_true rfl) dX9_wouldPay_52 hlocks ht9 (Nat.le_of_ble_eq_true rfl) (Nat.le_of_ble_eq_true rfl) ⟨Nat.le_of_ble_eq_true rfl, Nat.le_of_ble_eq_true rfl⟩
        refine xk_iS (As := [.int q8]) (rest := []) S F B (c_X9_demandWay l hl9 G σ9 _ q8 hq10) (va_cwS 1 hts gX9_wouldPay_X9_demandWay rfl rfl rfl (by decide +kernel) ⟨Nat.le_of_ble_eq_true rfl, Nat.le_of_ble_eq_true rfl⟩) rfl hl.1 rfl (Nat.le_of_ble_eq_true rfl) dX9_wouldPay_52 ⟨Nat.le_of_ble_eq_true rfl, Nat.le_of_ble_eq_true rfl⟩ (fun H locs B => ?_)
        refine lv_istore (lv' := [(4, .int q10), (3, .ref (G.2.2 j5)), (2, .ref (G.2.2 j3)), (0, .ref (G.2.2 154)), (1, .int a0)]) hx hb dX9_wouldPay_55 hl (by decide) rfl (fun ls hl => ?_)
        refine lv_aload_n hx hb dX9_wouldPay_57 rfl (lv_at hl 2 rfl) ?_
        refine lv_iload hx hb dX9_wouldPay_58 (lv_at hl 0 rfl) ?_
        obtain ⟨q12, hq12, ho⟩ := bnd_ ho
        refine k_iV (As := [.int q10]) (rest := []) S F B (c_X7_dueAfter l G σ11 _ j3 q10 hj3 hq12) hj3 rfl rfl (cwV 1 hts gX9_wouldPay_X7_dueAfter rfl rfl rfl (by decide +kernel) ⟨Nat.le_of_ble_eq_true rfl, Nat.le_of_ble_eq_true rfl⟩) rfl hl.1 rfl (Nat.le_of_ble_eq_true rfl) dX9_wouldPay_60 ⟨Nat.le_of_ble_eq_true rfl, Nat.le_of_ble_eq_true rfl⟩ (fun H locs B => ?_)
        refine lv_aload_n hx hb dX9_wouldPay_63 rfl (lv_at hl 1 rfl) ?_
        refine r_getN (ci := 5) (C := RX1) (T := TX1) (N := 4) S F B hj5 rfl rfl hiX1 0 (by decide) (by decide) rfl dX9_wouldPay_64 ?_
        refine va_mmin hx hb (hml.trans hl.1.symm) hown (hts _ (by decide +kernel)) (hts _ (by decide +kernel)) (hts _ (by decide +kernel)) (hts _ (by decide +kernel)) (Nat.le_of_ble_eq_true rfl) (Nat.le_of_ble_eq_true rfl) (Nat.le_of_ble_eq_true rfl) (Nat.le_of_ble_eq_true rfl) dX9_wouldPay_67 ?_
        cases ho
        exact xe_i B hx hb hr hlocks rfl rfl rfl dX9_wouldPay_70

set_option maxHeartbeats 4000000 in
set_option maxRecDepth 100000 in
theorem c_X9_owed (l : Launch) (hl9 : l.stackTraces = false) (G : Gd) (σ : Mm) (sz : Nat) (a0 : Int32) {out : (Int32 ⊕ Nat) × Mm} (ho : f_X9_owed a0 σ = some out) : vx_Met l yX9_owed wsX9_owed { frames := 7, cells := 1, slots := 6, locals := 132 } (va_Pc [.ref (G.2.2 154), .int a0] (PW G σ sz)) (Xi G sz out) (XX G sz out) 1 6 (AA G sz) := by
  refine vx_ofW (cc := cX9_owed) (maxL := 2) (ret := (some .int)) (by decide) rfl ?_
  intro p e s m args below meth c s₁ B0 hml ht9 hv
  obtain ⟨rfl, hpw⟩ := hv
  have hsz := hpw.1
  subst hsz
  obtain ⟨F, B⟩ := hpw.to
  have hx := B0.exec
  have hb := B0.bytes
  have hr := B0.returns
  have hts := atoms_spec (ws := wsX9_owed) B0.pre
  have hown : s.vm.findClass RX9 = some m.cls := findClass_of_methodNamed B0.named
  have hlocks := B0.notSynchronized
  have S : CallFix p m c cX9_owed 2 s _ wsX9_owed RX9 := ⟨hx, hb, hml, hown, hts⟩
  have hiX9 : ∀ w ∈ u_ws RX9 TX9 10, w ∈ wsX9_owed := by decide +kernel
  have hl := lv_entry [.ref (G.2.2 154), .int a0] (n := 2) (Nat.le_of_ble_eq_true rfl)
  rw [lg_entry_eq]
  generalize (lg_sl [.ref (G.2.2 154), .int a0] ++ List.replicate (2 - (lg_sl [.ref (G.2.2 154), .int a0]).length) Slot.unset).toArray = ls at hl ⊢
  have hl : lv_has ls 2 [(0, .ref (G.2.2 154)), (1, .int a0)] := hl
  unfold f_X9_owed at ho
  refine lv_aload_n hx hb dX9_owed_0 rfl (lv_at hl 0 rfl) ?_
  refine lv_iload_n hx hb dX9_owed_1 rfl (lv_at hl 1 rfl) ?_
  rcases xb_ ho with ⟨q1, σ2, hq1, ho⟩ | ⟨q1, σ2, hq1, rfl⟩
  rotate_left
  · exact xk_eV (As := [.int a0]) (rest := []) no_Xq S F B (c_X9_gardenerAsked l hl9 G σ _ a0 hq1) (kq (by decide) : kd 154 = 7 ∧ 154 < NN) rfl rfl (cwV 1 hts gX9_owed_X9_gardenerAsked rfl rfl rfl (by decide +kernel) ⟨Nat.le_of_ble_eq_true rfl, Nat.le_of_ble_eq_true rfl⟩) rfl hl.1 rfl (Nat.le_of_ble_eq_true rfl) dX9_owed_2 hlocks ht9 (Nat.le_of_ble_eq_true rfl) (Nat.le_of_ble_eq_true rfl) ⟨Nat.le_of_ble_eq_true rfl, Nat.le_of_ble_eq_true rfl⟩
  refine xk_qV (As := [.int a0]) (rest := []) S F B (c_X9_gardenerAsked l hl9 G σ _ a0 hq1) (kq (by decide) : kd 154 = 7 ∧ 154 < NN) rfl rfl (cwV 1 hts gX9_owed_X9_gardenerAsked rfl rfl rfl (by decide +kernel) ⟨Nat.le_of_ble_eq_true rfl, Nat.le_of_ble_eq_true rfl⟩) rfl hl.1 rfl (Nat.le_of_ble_eq_true rfl) dX9_owed_2 ⟨Nat.le_of_ble_eq_true rfl, Nat.le_of_ble_eq_true rfl⟩ (fun H locs B => ?_)
  cases q1 with
  | none =>
    have ho := oc_n ho
    cases ho
  | some j3 =>
    have ho := oc_s ho
    have hj3 : kd j3 = 4 ∧ j3 < NN := kf_gasked hq1
    refine lv_pop hx hb dX9_owed_5 rfl ?_
    refine lv_aload_n hx hb dX9_owed_6 rfl (lv_at hl 0 rfl) ?_
    refine r_get (ci := 13) (C := RX9) (T := TX9) (N := 10) S F B (kq (by decide) : kd 154 = 7 ∧ 154 < NN) rfl rfl hiX9 0 (by decide) (by decide +kernel) rfl dX9_owed_7 ?_
    refine lv_iload_n hx hb dX9_owed_10 rfl (lv_at hl 1 rfl) ?_
    obtain ⟨q4, hq4, ho⟩ := bnd_ ho
    refine k_iV (As := [.int a0]) (rest := []) S F B (c_X6_debtOf l G σ2 _ a0 hq4) (kq (by decide) : kd 0 = 0 ∧ 0 < NN) rfl rfl (cwV 1 hts gX9_owed_X6_debtOf rfl rfl rfl (by decide +kernel) ⟨Nat.le_of_ble_eq_true rfl, Nat.le_of_ble_eq_true rfl⟩) rfl hl.1 rfl (Nat.le_of_ble_eq_true rfl) dX9_owed_11 ⟨Nat.le_of_ble_eq_true rfl, Nat.le_of_ble_eq_true rfl⟩ (fun H locs B => ?_)
    cases ho
    exact xe_i B hx hb hr hlocks rfl rfl rfl dX9_owed_14

set_option maxHeartbeats 4000000 in
set_option maxRecDepth 100000 in
theorem c_X9_visitorPlaced (l : Launch) (hl9 : l.stackTraces = false) (G : Gd) (σ : Mm) (sz : Nat) (a0 : Int32) (a1 : Int32) {out : (Int32 ⊕ Nat) × Mm} (ho : f_X9_visitorPlaced a0 a1 σ = some out) : vx_Met l yX9_visitorPlaced wsX9_visitorPlaced { frames := 6, cells := 1, slots := 6, locals := 110 } (va_Pc [.ref (G.2.2 154), .int a0, .int a1] (PW G σ sz)) (Xi G sz out) (XX G sz out) 1 6 (AA G sz) := by
  refine vx_ofW (cc := cX9_visitorPlaced) (maxL := 4) (ret := (some .int)) (by decide) rfl ?_
  intro p e s m args below meth c s₁ B0 hml ht9 hv
  obtain ⟨rfl, hpw⟩ := hv
  have hsz := hpw.1
  subst hsz
  obtain ⟨F, B⟩ := hpw.to
  have hx := B0.exec
  have hb := B0.bytes
  have hr := B0.returns
  have hts := atoms_spec (ws := wsX9_visitorPlaced) B0.pre
  have hown : s.vm.findClass RX9 = some m.cls := findClass_of_methodNamed B0.named
  have hlocks := B0.notSynchronized
  have S : CallFix p m c cX9_visitorPlaced 4 s _ wsX9_visitorPlaced RX9 := ⟨hx, hb, hml, hown, hts⟩
  have hiX9 : ∀ w ∈ u_ws RX9 TX9 10, w ∈ wsX9_visitorPlaced := by decide +kernel
  have hiX6 : ∀ w ∈ u_ws RX6 TX6 9, w ∈ wsX9_visitorPlaced := by decide +kernel
  have hl := lv_entry [.ref (G.2.2 154), .int a0, .int a1] (n := 4) (Nat.le_of_ble_eq_true rfl)
  rw [lg_entry_eq]
  generalize (lg_sl [.ref (G.2.2 154), .int a0, .int a1] ++ List.replicate (4 - (lg_sl [.ref (G.2.2 154), .int a0, .int a1]).length) Slot.unset).toArray = ls at hl ⊢
  have hl : lv_has ls 4 [(0, .ref (G.2.2 154)), (1, .int a0), (2, .int a1)] := hl
  unfold f_X9_visitorPlaced at ho
  skip
  refine lv_iconst (v := 0) hx hb dX9_visitorPlaced_0 (by decide) ?_
  refine lv_istore_n (lv' := [(3, .int 0), (0, .ref (G.2.2 154)), (1, .int a0), (2, .int a1)]) hx hb dX9_visitorPlaced_1 rfl hl (by decide) rfl (fun ls hl => ?_)
  have hloop2 : ∀ (n : Nat) (v3 : Int32) (H : Heap) (locs : List Loc) (ls : Array Slot), f_X9_visitorPlaced_l2  a0 a1 σ n v3 = some out → Bd G σ s H locs → lv_has ls 4 [(3, .int v3), (0, .ref (G.2.2 154)), (1, .int a0), (2, .int a1)] → W p l e (headSpec wsX9_visitorPlaced { frames := 6, cells := 1, slots := 6, locals := 110 }).room s m #[.ref (G.2.2 154), .int a0, .int a1] below meth c H locs 0 0 (vx_MQ below (Xi G s.heap.size out) (XX G s.heap.size out) #[.ref (G.2.2 154), .int a0, .int a1] s 1 6 (AA G s.heap.size)) (F0 m 2 ls []) := by
    intro n
    induction n with
    | zero => intro v3 H locs ls ho B hl; cases ho
    | succ n ih =>
      intro v3 H locs ls ho B hl
      refine lv_iload_n hx hb dX9_visitorPlaced_2 rfl (lv_at hl 0 rfl) ?_
      refine lv_aload_n hx hb dX9_visitorPlaced_3 rfl (lv_at hl 1 rfl) ?_
      refine r_get (ci := 13) (C := RX9) (T := TX9) (N := 10) S F B (kq (by decide) : kd 154 = 7 ∧ 154 < NN) rfl rfl hiX9 0 (by decide) (by decide +kernel) rfl dX9_visitorPlaced_4 ?_
      refine r_getN (ci := 10) (C := RX6) (T := TX6) (N := 9) S F B (kq (by decide) : kd 0 = 0 ∧ 0 < NN) rfl rfl hiX6 4 (by decide) (by decide) rfl dX9_visitorPlaced_7 ?_
      refine lv_icmp_ge (tgt := 34) hx hb dX9_visitorPlaced_10 (by decide) (fun c4 => ?_) (fun c4 => ?_)
      · have ho := ip_ c4 ho
        cases ho
        exact t_throwNW 2 10 (by decide) (by decide) S F B hl9 hlocks ht9 hl.1 rfl rfl (by decide +kernel) (by decide +kernel) (by decide +kernel) (by decide +kernel) (Nat.le_of_ble_eq_true rfl) (Nat.le_of_ble_eq_true rfl) (Nat.le_of_ble_eq_true rfl) (Nat.le_of_ble_eq_true rfl) (Nat.le_of_ble_eq_true rfl) (Nat.le_of_ble_eq_true rfl) dX9_visitorPlaced_34 dX9_visitorPlaced_37 dX9_visitorPlaced_38 dX9_visitorPlaced_41 dX9_visitorPlaced_44
      · have ho := in_ c4 ho
        refine lv_aload_n hx hb dX9_visitorPlaced_13 rfl (lv_at hl 1 rfl) ?_
        refine r_get (ci := 13) (C := RX9) (T := TX9) (N := 10) S F B (kq (by decide) : kd 154 = 7 ∧ 154 < NN) rfl rfl hiX9 0 (by decide) (by decide +kernel) rfl dX9_visitorPlaced_14 ?_
        refine lv_iload_n hx hb dX9_visitorPlaced_17 rfl (lv_at hl 0 rfl) ?_
        refine lv_iload_n hx hb dX9_visitorPlaced_18 rfl (lv_at hl 2 rfl) ?_
        obtain ⟨q5, hq5, ho⟩ := bnd_ ho
        refine k_iV (As := [.int v3, .int a0]) (rest := []) S F B (c_X6_visitorsAhead l G σ _ v3 a0 hq5) (kq (by decide) : kd 0 = 0 ∧ 0 < NN) rfl rfl (cwV 2 hts gX9_visitorPlaced_X6_visitorsAhead rfl rfl rfl (by decide +kernel) ⟨Nat.le_of_ble_eq_true rfl, Nat.le_of_ble_eq_true rfl⟩) rfl hl.1 rfl (Nat.le_of_ble_eq_true rfl) dX9_visitorPlaced_19 ⟨Nat.le_of_ble_eq_true rfl, Nat.le_of_ble_eq_true rfl⟩ (fun H locs B => ?_)
        refine lv_iload_n hx hb dX9_visitorPlaced_22 rfl (lv_at hl 3 rfl) ?_
        refine lv_icmp_ne (tgt := 28) hx hb dX9_visitorPlaced_23 (by decide) (fun c6 => ?_) (fun c6 => ?_)
        · have ho := in_ c6 ho
          obtain ⟨x7, ex7, ho⟩ := lt_ ho
          refine lv_iinc (v := x7) (lv' := [(3, .int x7), (0, .ref (G.2.2 154)), (1, .int a0), (2, .int a1)]) hx hb dX9_visitorPlaced_28 hl (k := 0) rfl (by rw [ex7]; rfl) (by decide) rfl (fun ls hl => ?_)
          refine lv_goto (tgt := 2) hx hb dX9_visitorPlaced_31 (by decide) ?_
          exact ih _  _ _ _ ho B (lv_sub hl [0, 1, 2, 3] rfl)
        · have ho := ip_ c6 ho
          refine lv_iload_n hx hb dX9_visitorPlaced_26 rfl (lv_at hl 0 rfl) ?_
          refine W.widen (k := 1) (n := 6) (by decide) (by decide) ?_
          cases ho
          exact xe_i B hx hb hr hlocks rfl rfl rfl dX9_visitorPlaced_27
  exact hloop2 8 _  _ _ _ ho B hl

set_option maxHeartbeats 4000000 in
set_option maxRecDepth 100000 in
theorem c_X9_ranked (l : Launch) (hl9 : l.stackTraces = false) (G : Gd) (σ : Mm) (sz : Nat) (a0 : Int32) (a1 : Int32) {out : (Int32 ⊕ Nat) × Mm} (ho : f_X9_ranked a0 a1 σ = some out) : vx_Met l yX9_ranked wsX9_ranked { frames := 7, cells := 1, slots := 6, locals := 133 } (va_Pc [.ref (G.2.2 154), .int a0, .int a1] (PW G σ sz)) (Xi G sz out) (XX G sz out) 1 6 (AA G sz) := by
  refine vx_ofW (cc := cX9_ranked) (maxL := 3) (ret := (some .int)) (by decide) rfl ?_
  intro p e s m args below meth c s₁ B0 hml ht9 hv
  obtain ⟨rfl, hpw⟩ := hv
  have hsz := hpw.1
  subst hsz
  obtain ⟨F, B⟩ := hpw.to
  have hx := B0.exec
  have hb := B0.bytes
  have hr := B0.returns
  have hts := atoms_spec (ws := wsX9_ranked) B0.pre
  have hown : s.vm.findClass RX9 = some m.cls := findClass_of_methodNamed B0.named
  have hlocks := B0.notSynchronized
  have S : CallFix p m c cX9_ranked 3 s _ wsX9_ranked RX9 := ⟨hx, hb, hml, hown, hts⟩
  have hl := lv_entry [.ref (G.2.2 154), .int a0, .int a1] (n := 3) (Nat.le_of_ble_eq_true rfl)
  rw [lg_entry_eq]
  generalize (lg_sl [.ref (G.2.2 154), .int a0, .int a1] ++ List.replicate (3 - (lg_sl [.ref (G.2.2 154), .int a0, .int a1]).length) Slot.unset).toArray = ls at hl ⊢
  have hl : lv_has ls 3 [(0, .ref (G.2.2 154)), (1, .int a0), (2, .int a1)] := hl
  unfold f_X9_ranked at ho
  refine lv_iload_n hx hb dX9_ranked_0 rfl (lv_at hl 1 rfl) ?_
  by_cases c1 : a0 = 0
  · have ho := ip_ c1 ho
    refine lv_tableIn (off := 31) (tgt := 32) hx hb dX9_ranked_1 (by rw [c1]; decide) (by rw [c1]; decide) (by rw [c1]; rfl) (by decide) ?_
    refine lv_aload_n hx hb dX9_ranked_32 rfl (lv_at hl 0 rfl) ?_
    refine lv_iconst (v := 0) hx hb dX9_ranked_33 (by decide) ?_
    refine lv_iload_n hx hb dX9_ranked_34 rfl (lv_at hl 2 rfl) ?_
    rcases xb_ ho with ⟨q2, σ3, hq2, ho⟩ | ⟨q2, σ3, hq2, rfl⟩
    rotate_left
    · exact xk_eV (As := [.int 0, .int a1]) (rest := []) no_Xi S F B (c_X9_visitorPlaced l hl9 G σ _ 0 a1 hq2) (kq (by decide) : kd 154 = 7 ∧ 154 < NN) rfl rfl (cwV 2 hts gX9_ranked_X9_visitorPlaced rfl rfl rfl (by decide +kernel) ⟨Nat.le_of_ble_eq_true rfl, Nat.le_of_ble_eq_true rfl⟩) rfl hl.1 rfl (Nat.le_of_ble_eq_true rfl) dX9_ranked_35 hlocks ht9 (Nat.le_of_ble_eq_true rfl) (Nat.le_of_ble_eq_true rfl) ⟨Nat.le_of_ble_eq_true rfl, Nat.le_of_ble_eq_true rfl⟩
    refine xk_iV (As := [.int 0, .int a1]) (rest := []) S F B (c_X9_visitorPlaced l hl9 G σ _ 0 a1 hq2) (kq (by decide) : kd 154 = 7 ∧ 154 < NN) rfl rfl (cwV 2 hts gX9_ranked_X9_visitorPlaced rfl rfl rfl (by decide +kernel) ⟨Nat.le_of_ble_eq_true rfl, Nat.le_of_ble_eq_true rfl⟩) rfl hl.1 rfl (Nat.le_of_ble_eq_true rfl) dX9_ranked_35 ⟨Nat.le_of_ble_eq_true rfl, Nat.le_of_ble_eq_true rfl⟩ (fun H locs B => ?_)
    cases ho
    exact xe_i B hx hb hr hlocks rfl rfl rfl dX9_ranked_38
  · have ho := in_ c1 ho
    by_cases c4 : a0 = 1
    · have ho := ip_ c4 ho
      refine lv_tableIn (off := 38) (tgt := 39) hx hb dX9_ranked_1 (by rw [c4]; decide) (by rw [c4]; decide) (by rw [c4]; rfl) (by decide) ?_
      refine lv_aload_n hx hb dX9_ranked_39 rfl (lv_at hl 0 rfl) ?_
      refine lv_iconst (v := 2) hx hb dX9_ranked_40 (by decide) ?_
      refine lv_iload_n hx hb dX9_ranked_41 rfl (lv_at hl 2 rfl) ?_
      rcases xb_ ho with ⟨q5, σ6, hq5, ho⟩ | ⟨q5, σ6, hq5, rfl⟩
      rotate_left
      · exact xk_eV (As := [.int 2, .int a1]) (rest := []) no_Xi S F B (c_X9_visitorPlaced l hl9 G σ _ 2 a1 hq5) (kq (by decide) : kd 154 = 7 ∧ 154 < NN) rfl rfl (cwV 2 hts gX9_ranked_X9_visitorPlaced rfl rfl rfl (by decide +kernel) ⟨Nat.le_of_ble_eq_true rfl, Nat.le_of_ble_eq_true rfl⟩) rfl hl.1 rfl (Nat.le_of_ble_eq_true rfl) dX9_ranked_42 hlocks ht9 (Nat.le_of_ble_eq_true rfl) (Nat.le_of_ble_eq_true rfl) ⟨Nat.le_of_ble_eq_true rfl, Nat.le_of_ble_eq_true rfl⟩
      refine xk_iV (As := [.int 2, .int a1]) (rest := []) S F B (c_X9_visitorPlaced l hl9 G σ _ 2 a1 hq5) (kq (by decide) : kd 154 = 7 ∧ 154 < NN) rfl rfl (cwV 2 hts gX9_ranked_X9_visitorPlaced rfl rfl rfl (by decide +kernel) ⟨Nat.le_of_ble_eq_true rfl, Nat.le_of_ble_eq_true rfl⟩) rfl hl.1 rfl (Nat.le_of_ble_eq_true rfl) dX9_ranked_42 ⟨Nat.le_of_ble_eq_true rfl, Nat.le_of_ble_eq_true rfl⟩ (fun H locs B => ?_)
      cases ho
      exact xe_i B hx hb hr hlocks rfl rfl rfl dX9_ranked_45
    · have ho := in_ c4 ho
      by_cases c7 : a0 = 2
      · have ho := ip_ c7 ho
        refine lv_tableIn (off := 45) (tgt := 46) hx hb dX9_ranked_1 (by rw [c7]; decide) (by rw [c7]; decide) (by rw [c7]; rfl) (by decide) ?_
        refine lv_aload_n hx hb dX9_ranked_46 rfl (lv_at hl 0 rfl) ?_
        refine lv_iconst (v := 4) hx hb dX9_ranked_47 (by decide) ?_
        refine lv_iload_n hx hb dX9_ranked_48 rfl (lv_at hl 2 rfl) ?_
        rcases xb_ ho with ⟨q8, σ9, hq8, ho⟩ | ⟨q8, σ9, hq8, rfl⟩
        rotate_left
        · exact xk_eV (As := [.int 4, .int a1]) (rest := []) no_Xi S F B (c_X9_visitorPlaced l hl9 G σ _ 4 a1 hq8) (kq (by decide) : kd 154 = 7 ∧ 154 < NN) rfl rfl (cwV 2 hts gX9_ranked_X9_visitorPlaced rfl rfl rfl (by decide +kernel) ⟨Nat.le_of_ble_eq_true rfl, Nat.le_of_ble_eq_true rfl⟩) rfl hl.1 rfl (Nat.le_of_ble_eq_true rfl) dX9_ranked_49 hlocks ht9 (Nat.le_of_ble_eq_true rfl) (Nat.le_of_ble_eq_true rfl) ⟨Nat.le_of_ble_eq_true rfl, Nat.le_of_ble_eq_true rfl⟩
        refine xk_iV (As := [.int 4, .int a1]) (rest := []) S F B (c_X9_visitorPlaced l hl9 G σ _ 4 a1 hq8) (kq (by decide) : kd 154 = 7 ∧ 154 < NN) rfl rfl (cwV 2 hts gX9_ranked_X9_visitorPlaced rfl rfl rfl (by decide +kernel) ⟨Nat.le_of_ble_eq_true rfl, Nat.le_of_ble_eq_true rfl⟩) rfl hl.1 rfl (Nat.le_of_ble_eq_true rfl) dX9_ranked_49 ⟨Nat.le_of_ble_eq_true rfl, Nat.le_of_ble_eq_true rfl⟩ (fun H locs B => ?_)
        cases ho
        exact xe_i B hx hb hr hlocks rfl rfl rfl dX9_ranked_52
      · have ho := in_ c7 ho
        by_cases c10 : a0 = 3
        · have ho := ip_ c10 ho
          refine lv_tableIn (off := 52) (tgt := 53) hx hb dX9_ranked_1 (by rw [c10]; decide) (by rw [c10]; decide) (by rw [c10]; rfl) (by decide) ?_
          refine lv_aload_n hx hb dX9_ranked_53 rfl (lv_at hl 0 rfl) ?_
          refine lv_bipush (v := 6) hx hb dX9_ranked_54 (by decide) ?_
          refine lv_iload_n hx hb dX9_ranked_56 rfl (lv_at hl 2 rfl) ?_
          rcases xb_ ho with ⟨q11, σ12, hq11, ho⟩ | ⟨q11, σ12, hq11, rfl⟩
          rotate_left
          · exact xk_eV (As := [.int 6, .int a1]) (rest := []) no_Xi S F B (c_X9_visitorPlaced l hl9 G σ _ 6 a1 hq11) (kq (by decide) : kd 154 = 7 ∧ 154 < NN) rfl rfl (cwV 2 hts gX9_ranked_X9_visitorPlaced rfl rfl rfl (by decide +kernel) ⟨Nat.le_of_ble_eq_true rfl, Nat.le_of_ble_eq_true rfl⟩) rfl hl.1 rfl (Nat.le_of_ble_eq_true rfl) dX9_ranked_57 hlocks ht9 (Nat.le_of_ble_eq_true rfl) (Nat.le_of_ble_eq_true rfl) ⟨Nat.le_of_ble_eq_true rfl, Nat.le_of_ble_eq_true rfl⟩
          refine xk_iV (As := [.int 6, .int a1]) (rest := []) S F B (c_X9_visitorPlaced l hl9 G σ _ 6 a1 hq11) (kq (by decide) : kd 154 = 7 ∧ 154 < NN) rfl rfl (cwV 2 hts gX9_ranked_X9_visitorPlaced rfl rfl rfl (by decide +kernel) ⟨Nat.le_of_ble_eq_true rfl, Nat.le_of_ble_eq_true rfl⟩) rfl hl.1 rfl (Nat.le_of_ble_eq_true rfl) dX9_ranked_57 ⟨Nat.le_of_ble_eq_true rfl, Nat.le_of_ble_eq_true rfl⟩ (fun H locs B => ?_)
          cases ho
          exact xe_i B hx hb hr hlocks rfl rfl rfl dX9_ranked_60
        · have ho := in_ c10 ho
          refine t_tableD (tgt := 61) hx hb dX9_ranked_1 rfl (fun j hj => ?_) (by decide) ?_
          · have hj : j < 4 := hj
            rcases (show j = 0 ∨ j = 1 ∨ j = 2 ∨ j = 3 by omega) with rfl | rfl | rfl | rfl
            · exact Or.inr (lv_neT c1 (by decide))
            · exact Or.inr (lv_neT c4 (by decide))
            · exact Or.inr (lv_neT c7 (by decide))
            · exact Or.inr (lv_neT c10 (by decide))
          · cases ho
            exact t_throwSW 3 11 (by decide) (by decide) S F B hl9 hlocks ht9 hl.1 rfl rfl (by decide +kernel) (by decide +kernel) (by decide +kernel) (by decide +kernel) (Nat.le_of_ble_eq_true rfl) (Nat.le_of_ble_eq_true rfl) (Nat.le_of_ble_eq_true rfl) (Nat.le_of_ble_eq_true rfl) (Nat.le_of_ble_eq_true rfl) (Nat.le_of_ble_eq_true rfl) dX9_ranked_61 dX9_ranked_64 dX9_ranked_65 dX9_ranked_68 dX9_ranked_71

set_option maxHeartbeats 4000000 in
set_option maxRecDepth 100000 in
theorem c_X9_richest (l : Launch) (hl9 : l.stackTraces = false) (G : Gd) (σ : Mm) (sz : Nat) (a0 : Int32) {out : (Int32 ⊕ Nat) × Mm} (ho : f_X9_richest a0 σ = some out) : vx_Met l yX9_richest wsX9_richest { frames := 6, cells := 1, slots := 6, locals := 145 } (va_Pc [.ref (G.2.2 154), .int a0] (PW G σ sz)) (Xi G sz out) (XX G sz out) 1 6 (AA G sz) := by
  refine vx_ofW (cc := cX9_richest) (maxL := 3) (ret := (some .int)) (by decide) rfl ?_
  intro p e s m args below meth c s₁ B0 hml ht9 hv
  obtain ⟨rfl, hpw⟩ := hv
  have hsz := hpw.1
  subst hsz
  obtain ⟨F, B⟩ := hpw.to
  have hx := B0.exec
  have hb := B0.bytes
  have hr := B0.returns
  have hts := atoms_spec (ws := wsX9_richest) B0.pre
  have hown : s.vm.findClass RX9 = some m.cls := findClass_of_methodNamed B0.named
  have hlocks := B0.notSynchronized
  have S : CallFix p m c cX9_richest 3 s _ wsX9_richest RX9 := ⟨hx, hb, hml, hown, hts⟩
  have hiX9 : ∀ w ∈ u_ws RX9 TX9 10, w ∈ wsX9_richest := by decide +kernel
  have hiX6 : ∀ w ∈ u_ws RX6 TX6 9, w ∈ wsX9_richest := by decide +kernel
  have hl := lv_entry [.ref (G.2.2 154), .int a0] (n := 3) (Nat.le_of_ble_eq_true rfl)
  rw [lg_entry_eq]
  generalize (lg_sl [.ref (G.2.2 154), .int a0] ++ List.replicate (3 - (lg_sl [.ref (G.2.2 154), .int a0]).length) Slot.unset).toArray = ls at hl ⊢
  have hl : lv_has ls 3 [(0, .ref (G.2.2 154)), (1, .int a0)] := hl
  unfold f_X9_richest at ho
  skip
  refine lv_iconst (v := 0) hx hb dX9_richest_0 (by decide) ?_
  refine lv_istore_n (lv' := [(2, .int 0), (0, .ref (G.2.2 154)), (1, .int a0)]) hx hb dX9_richest_1 rfl hl (by decide) rfl (fun ls hl => ?_)
  have hloop2 : ∀ (n : Nat) (v3 : Int32) (H : Heap) (locs : List Loc) (ls : Array Slot), f_X9_richest_l2  a0 σ n v3 = some out → Bd G σ s H locs → lv_has ls 3 [(2, .int v3), (0, .ref (G.2.2 154)), (1, .int a0)] → W p l e (headSpec wsX9_richest { frames := 6, cells := 1, slots := 6, locals := 145 }).room s m #[.ref (G.2.2 154), .int a0] below meth c H locs 0 0 (vx_MQ below (Xi G s.heap.size out) (XX G s.heap.size out) #[.ref (G.2.2 154), .int a0] s 1 6 (AA G s.heap.size)) (F0 m 2 ls []) := by
    intro n
    induction n with
    | zero => intro v3 H locs ls ho B hl; cases ho
    | succ n ih =>
      intro v3 H locs ls ho B hl
      refine lv_iload_n hx hb dX9_richest_2 rfl (lv_at hl 0 rfl) ?_
      refine lv_aload_n hx hb dX9_richest_3 rfl (lv_at hl 1 rfl) ?_
      refine r_get (ci := 13) (C := RX9) (T := TX9) (N := 10) S F B (kq (by decide) : kd 154 = 7 ∧ 154 < NN) rfl rfl hiX9 0 (by decide) (by decide +kernel) rfl dX9_richest_4 ?_
      refine r_getN (ci := 10) (C := RX6) (T := TX6) (N := 9) S F B (kq (by decide) : kd 0 = 0 ∧ 0 < NN) rfl rfl hiX6 3 (by decide) (by decide) rfl dX9_richest_7 ?_
      refine lv_icmp_ge (tgt := 33) hx hb dX9_richest_10 (by decide) (fun c4 => ?_) (fun c4 => ?_)
      · have ho := ip_ c4 ho
        cases ho
        exact t_throwNW 2 10 (by decide) (by decide) S F B hl9 hlocks ht9 hl.1 rfl rfl (by decide +kernel) (by decide +kernel) (by decide +kernel) (by decide +kernel) (Nat.le_of_ble_eq_true rfl) (Nat.le_of_ble_eq_true rfl) (Nat.le_of_ble_eq_true rfl) (Nat.le_of_ble_eq_true rfl) (Nat.le_of_ble_eq_true rfl) (Nat.le_of_ble_eq_true rfl) dX9_richest_33 dX9_richest_36 dX9_richest_37 dX9_richest_40 dX9_richest_43
      · have ho := in_ c4 ho
        refine lv_aload_n hx hb dX9_richest_13 rfl (lv_at hl 1 rfl) ?_
        refine r_get (ci := 13) (C := RX9) (T := TX9) (N := 10) S F B (kq (by decide) : kd 154 = 7 ∧ 154 < NN) rfl rfl hiX9 0 (by decide) (by decide +kernel) rfl dX9_richest_14 ?_
        refine lv_iload_n hx hb dX9_richest_17 rfl (lv_at hl 0 rfl) ?_
        obtain ⟨q5, hq5, ho⟩ := bnd_ ho
        refine k_iV (As := [.int v3]) (rest := []) S F B (c_X6_gardenersAhead l G σ _ v3 hq5) (kq (by decide) : kd 0 = 0 ∧ 0 < NN) rfl rfl (cwV 1 hts gX9_richest_X6_gardenersAhead rfl rfl rfl (by decide +kernel) ⟨Nat.le_of_ble_eq_true rfl, Nat.le_of_ble_eq_true rfl⟩) rfl hl.1 rfl (Nat.le_of_ble_eq_true rfl) dX9_richest_18 ⟨Nat.le_of_ble_eq_true rfl, Nat.le_of_ble_eq_true rfl⟩ (fun H locs B => ?_)
        refine lv_iload_n hx hb dX9_richest_21 rfl (lv_at hl 2 rfl) ?_
        refine lv_icmp_ne (tgt := 27) hx hb dX9_richest_22 (by decide) (fun c6 => ?_) (fun c6 => ?_)
        · have ho := in_ c6 ho
          obtain ⟨x7, ex7, ho⟩ := lt_ ho
          refine lv_iinc (v := x7) (lv' := [(2, .int x7), (0, .ref (G.2.2 154)), (1, .int a0)]) hx hb dX9_richest_27 hl (k := 0) rfl (by rw [ex7]; rfl) (by decide) rfl (fun ls hl => ?_)
          refine lv_goto (tgt := 2) hx hb dX9_richest_30 (by decide) ?_
          exact ih _  _ _ _ ho B (lv_sub hl [0, 1, 2] rfl)
        · have ho := ip_ c6 ho
          refine lv_iload_n hx hb dX9_richest_25 rfl (lv_at hl 0 rfl) ?_
          refine W.widen (k := 1) (n := 6) (by decide) (by decide) ?_
          cases ho
          exact xe_i B hx hb hr hlocks rfl rfl rfl dX9_richest_26
  exact hloop2 8 _  _ _ _ ho B hl
