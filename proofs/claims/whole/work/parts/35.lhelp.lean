/-! the law's own methods -/
theorem goodIn_more {a b c : List Cond} (h : GoodIn a b) : GoodIn (a ++ c) b := fun w hw => ⟨List.mem_append_left _ (h w hw).1, (h w hw).2⟩
set_option maxHeartbeats 4000000 in
set_option maxRecDepth 100000 in
theorem c_L_hedge (l : Launch) (hl9 : l.stackTraces = false) (G : Gd) (σ : Mm) (sz : Nat) (a0 : Int32) (a1 : Int32) (a2 : Int32) {out : (Int32 ⊕ Nat) × Mm} (ho : f_X9_hedge a0 a1 a2 σ = some out) (pl : Nat → Int32) (hn : ∀ n, out.1 = .inr n → (n = 0 ∧ pl n = 1)) : Met l yL_hedge wsL_hedge { frames := 8, cells := 1, slots := 6, locals := 154 } (va_Pc [.ref (G.2.2 154), .int a0, .int a1, .int a2, .ref (G.2.2 207)] (PW G σ sz)) (Ql G sz (hgL out G) (hp pl out) out.2) 1 6 (AA G sz) := by
  refine Met.ofWH (cc := cL_hedge) (maxL := 6) (ret := (some .int)) (hh := [(0, 12, 15, 13)]) (by decide) rfl ?_
  intro p e s m args below meth c s₁ B0 hml hv
  obtain ⟨rfl, hpw⟩ := hv
  have hsz := hpw.1
  subst hsz
  obtain ⟨F, B⟩ := hpw.to
  have hx := B0.exec
  have hb := B0.bytes
  have hr := B0.returns
  have hts := atoms_spec (ws := wsL_hedge) B0.pre
  have htab := vx_table (x := yL_hedge) B0 (hts _ List.mem_cons_self)
  have hown : s.vm.findClass RL = some m.cls := findClass_of_methodNamed B0.named
  have hlocks := B0.notSynchronized
  have S : CallFix p m c cL_hedge 6 s _ wsL_hedge RL := ⟨hx, hb, hml, hown, hts⟩
  have hl := lv_entry [.ref (G.2.2 154), .int a0, .int a1, .int a2, .ref (G.2.2 207)] (n := 6) (Nat.le_of_ble_eq_true rfl)
  rw [lg_entry_eq]
  generalize (lg_sl [.ref (G.2.2 154), .int a0, .int a1, .int a2, .ref (G.2.2 207)] ++ List.replicate (6 - (lg_sl [.ref (G.2.2 154), .int a0, .int a1, .int a2, .ref (G.2.2 207)]).length) Slot.unset).toArray = ls at hl ⊢
  have hl : lv_has ls 6 [(0, .ref (G.2.2 154)), (1, .int a0), (2, .int a1), (3, .int a2), (4, .ref (G.2.2 207))] := hl
  refine lv_aload hx hb dL_hedge_0 (lv_at hl 4 rfl) ?_
  refine lv_iconst (v := 0) hx hb dL_hedge_2 (by decide) ?_
  refine lv_aload_n hx hb dL_hedge_3 rfl (lv_at hl 0 rfl) ?_
  refine lv_iload_n hx hb dL_hedge_4 rfl (lv_at hl 1 rfl) ?_
  refine lv_iload_n hx hb dL_hedge_5 rfl (lv_at hl 2 rfl) ?_
  refine lv_iload_n hx hb dL_hedge_6 rfl (lv_at hl 3 rfl) ?_
  refine h_call (As := [.int a0, .int a1, .int a2]) (rest := [.int 0, .ref (G.2.2 207)]) S F B (c_X9_hedge l hl9 G σ _ a0 a1 a2 ho) (kq (by decide) : kd 154 = 7 ∧ 154 < NN) rfl rfl (cwV 3 hts gL_hedge_X9_hedge rfl rfl rfl (by decide +kernel) ⟨Nat.le_of_ble_eq_true rfl, Nat.le_of_ble_eq_true rfl⟩) rfl hl.1 rfl (Nat.le_of_ble_eq_true rfl) dL_hedge_7 ⟨Nat.le_of_ble_eq_true rfl, Nat.le_of_ble_eq_true rfl⟩ (fun k q9 ce H locs hk B hce hcv hcl => ?_) (fun v H locs hv B => ?_)
  · rw [hp_r pl hk, hgL_r hk]
    obtain ⟨rfl, h2⟩ := hn k hk
    rw [h2]
    refine h_catch (k := 0) (hp := 15) S F [] ⟨0, 12, 15, 13⟩ [] htab (fun _ h => (nomatch h)) rfl (by decide) rfl (by decide +kernel) (by decide) hce hcv hcl ?_
    refine lv_astore hx hb dL_hedge_15 hl (by decide) rfl (fun ls hl => ?_)
    refine lv_iconst (v := 1) hx hb dL_hedge_17 (by decide) ?_
    exact e_l B (fun _ => rfl) hx hb hr hlocks rfl dL_hedge_18
  · rw [hp_l pl hv, hgL_l hv]
    refine lv_i2l hx hb dL_hedge_10 rfl ?_
    refine r_last S F B dL_hedge_11 (fun H locs B => ?_)
    refine lv_goto (tgt := 19) hx hb dL_hedge_12 (by decide) ?_
    refine lv_iconst (v := 0) hx hb dL_hedge_19 (by decide) ?_
    exact e_l B gL_AA hx hb hr hlocks rfl dL_hedge_20

set_option maxHeartbeats 4000000 in
set_option maxRecDepth 100000 in
theorem c_L_trim (l : Launch) (hl9 : l.stackTraces = false) (G : Gd) (σ : Mm) (sz : Nat) (a0 : Int32) (a1 : Int32) (a2 : Int32) {out : (Int32 ⊕ Nat) × Mm} (ho : f_X9_trim a0 a1 a2 σ = some out) (pl : Nat → Int32) (hn : ∀ n, out.1 = .inr n → (n = 0 ∧ pl n = 1)) : Met l yL_trim wsL_trim { frames := 8, cells := 1, slots := 6, locals := 154 } (va_Pc [.ref (G.2.2 154), .int a0, .int a1, .int a2, .ref (G.2.2 207)] (PW G σ sz)) (Ql G sz (hgL out G) (hp pl out) out.2) 1 6 (AA G sz) := by
  refine Met.ofWH (cc := cL_trim) (maxL := 6) (ret := (some .int)) (hh := [(0, 12, 15, 13)]) (by decide) rfl ?_
  intro p e s m args below meth c s₁ B0 hml hv
  obtain ⟨rfl, hpw⟩ := hv
  have hsz := hpw.1
  subst hsz
  obtain ⟨F, B⟩ := hpw.to
  have hx := B0.exec
  have hb := B0.bytes
  have hr := B0.returns
  have hts := atoms_spec (ws := wsL_trim) B0.pre
  have htab := vx_table (x := yL_trim) B0 (hts _ List.mem_cons_self)
  have hown : s.vm.findClass RL = some m.cls := findClass_of_methodNamed B0.named
  have hlocks := B0.notSynchronized
  have S : CallFix p m c cL_trim 6 s _ wsL_trim RL := ⟨hx, hb, hml, hown, hts⟩
  have hl := lv_entry [.ref (G.2.2 154), .int a0, .int a1, .int a2, .ref (G.2.2 207)] (n := 6) (Nat.le_of_ble_eq_true rfl)
  rw [lg_entry_eq]
  generalize (lg_sl [.ref (G.2.2 154), .int a0, .int a1, .int a2, .ref (G.2.2 207)] ++ List.replicate (6 - (lg_sl [.ref (G.2.2 154), .int a0, .int a1, .int a2, .ref (G.2.2 207)]).length) Slot.unset).toArray = ls at hl ⊢
  have hl : lv_has ls 6 [(0, .ref (G.2.2 154)), (1, .int a0), (2, .int a1), (3, .int a2), (4, .ref (G.2.2 207))] := hl
  refine lv_aload hx hb dL_trim_0 (lv_at hl 4 rfl) ?_
  refine lv_iconst (v := 0) hx hb dL_trim_2 (by decide) ?_
  refine lv_aload_n hx hb dL_trim_3 rfl (lv_at hl 0 rfl) ?_
  refine lv_iload_n hx hb dL_trim_4 rfl (lv_at hl 1 rfl) ?_
  refine lv_iload_n hx hb dL_trim_5 rfl (lv_at hl 2 rfl) ?_
  refine lv_iload_n hx hb dL_trim_6 rfl (lv_at hl 3 rfl) ?_
  refine h_call (As := [.int a0, .int a1, .int a2]) (rest := [.int 0, .ref (G.2.2 207)]) S F B (c_X9_trim l hl9 G σ _ a0 a1 a2 ho) (kq (by decide) : kd 154 = 7 ∧ 154 < NN) rfl rfl (cwV 3 hts gL_trim_X9_trim rfl rfl rfl (by decide +kernel) ⟨Nat.le_of_ble_eq_true rfl, Nat.le_of_ble_eq_true rfl⟩) rfl hl.1 rfl (Nat.le_of_ble_eq_true rfl) dL_trim_7 ⟨Nat.le_of_ble_eq_true rfl, Nat.le_of_ble_eq_true rfl⟩ (fun k q9 ce H locs hk B hce hcv hcl => ?_) (fun v H locs hv B => ?_)
  · rw [hp_r pl hk, hgL_r hk]
    obtain ⟨rfl, h2⟩ := hn k hk
    rw [h2]
    refine h_catch (k := 0) (hp := 15) S F [] ⟨0, 12, 15, 13⟩ [] htab (fun _ h => (nomatch h)) rfl (by decide) rfl (by decide +kernel) (by decide) hce hcv hcl ?_
    refine lv_astore hx hb dL_trim_15 hl (by decide) rfl (fun ls hl => ?_)
    refine lv_iconst (v := 1) hx hb dL_trim_17 (by decide) ?_
    exact e_l B (fun _ => rfl) hx hb hr hlocks rfl dL_trim_18
  · rw [hp_l pl hv, hgL_l hv]
    refine lv_i2l hx hb dL_trim_10 rfl ?_
    refine r_last S F B dL_trim_11 (fun H locs B => ?_)
    refine lv_goto (tgt := 19) hx hb dL_trim_12 (by decide) ?_
    refine lv_iconst (v := 0) hx hb dL_trim_19 (by decide) ?_
    exact e_l B gL_AA hx hb hr hlocks rfl dL_trim_20

set_option maxHeartbeats 4000000 in
set_option maxRecDepth 100000 in
theorem c_L_minotaur (l : Launch) (hl9 : l.stackTraces = false) (G : Gd) (σ : Mm) (sz : Nat) (a0 : Int32) {out : (Int32 ⊕ Nat) × Mm} (ho : f_X9_minotaur a0 σ = some out) (pl : Nat → Int32) (hn : ∀ n, out.1 = .inr n → (n = 0 ∧ pl n = 1)) : Met l yL_minotaur wsL_minotaur { frames := 8, cells := 1, slots := 6, locals := 152 } (va_Pc [.ref (G.2.2 154), .int a0, .ref (G.2.2 207)] (PW G σ sz)) (Ql G sz (hgL out G) (hp pl out) out.2) 1 6 (AA G sz) := by
  refine Met.ofWH (cc := cL_minotaur) (maxL := 4) (ret := (some .int)) (hh := [(0, 9, 12, 13)]) (by decide) rfl ?_
  intro p e s m args below meth c s₁ B0 hml hv
  obtain ⟨rfl, hpw⟩ := hv
  have hsz := hpw.1
  subst hsz
  obtain ⟨F, B⟩ := hpw.to
  have hx := B0.exec
  have hb := B0.bytes
  have hr := B0.returns
  have hts := atoms_spec (ws := wsL_minotaur) B0.pre
  have htab := vx_table (x := yL_minotaur) B0 (hts _ List.mem_cons_self)
  have hown : s.vm.findClass RL = some m.cls := findClass_of_methodNamed B0.named
  have hlocks := B0.notSynchronized
  have S : CallFix p m c cL_minotaur 4 s _ wsL_minotaur RL := ⟨hx, hb, hml, hown, hts⟩
  have hl := lv_entry [.ref (G.2.2 154), .int a0, .ref (G.2.2 207)] (n := 4) (Nat.le_of_ble_eq_true rfl)
  rw [lg_entry_eq]
  generalize (lg_sl [.ref (G.2.2 154), .int a0, .ref (G.2.2 207)] ++ List.replicate (4 - (lg_sl [.ref (G.2.2 154), .int a0, .ref (G.2.2 207)]).length) Slot.unset).toArray = ls at hl ⊢
  have hl : lv_has ls 4 [(0, .ref (G.2.2 154)), (1, .int a0), (2, .ref (G.2.2 207))] := hl
  refine lv_aload_n hx hb dL_minotaur_0 rfl (lv_at hl 2 rfl) ?_
  refine lv_iconst (v := 0) hx hb dL_minotaur_1 (by decide) ?_
  refine lv_aload_n hx hb dL_minotaur_2 rfl (lv_at hl 0 rfl) ?_
  refine lv_iload_n hx hb dL_minotaur_3 rfl (lv_at hl 1 rfl) ?_
  refine h_call (As := [.int a0]) (rest := [.int 0, .ref (G.2.2 207)]) S F B (c_X9_minotaur l hl9 G σ _ a0 ho) (kq (by decide) : kd 154 = 7 ∧ 154 < NN) rfl rfl (cwV 1 hts gL_minotaur_X9_minotaur rfl rfl rfl (by decide +kernel) ⟨Nat.le_of_ble_eq_true rfl, Nat.le_of_ble_eq_true rfl⟩) rfl hl.1 rfl (Nat.le_of_ble_eq_true rfl) dL_minotaur_4 ⟨Nat.le_of_ble_eq_true rfl, Nat.le_of_ble_eq_true rfl⟩ (fun k q9 ce H locs hk B hce hcv hcl => ?_) (fun v H locs hv B => ?_)
  · rw [hp_r pl hk, hgL_r hk]
    obtain ⟨rfl, h2⟩ := hn k hk
    rw [h2]
    refine h_catch (k := 0) (hp := 12) S F [] ⟨0, 9, 12, 13⟩ [] htab (fun _ h => (nomatch h)) rfl (by decide) rfl (by decide +kernel) (by decide) hce hcv hcl ?_
    refine lv_astore_n hx hb dL_minotaur_12 rfl hl (by decide) rfl (fun ls hl => ?_)
    refine lv_iconst (v := 1) hx hb dL_minotaur_13 (by decide) ?_
    exact e_l B (fun _ => rfl) hx hb hr hlocks rfl dL_minotaur_14
  · rw [hp_l pl hv, hgL_l hv]
    refine lv_i2l hx hb dL_minotaur_7 rfl ?_
    refine r_last S F B dL_minotaur_8 (fun H locs B => ?_)
    refine lv_goto (tgt := 15) hx hb dL_minotaur_9 (by decide) ?_
    refine lv_iconst (v := 0) hx hb dL_minotaur_15 (by decide) ?_
    exact e_l B gL_AA hx hb hr hlocks rfl dL_minotaur_16

set_option maxHeartbeats 4000000 in
set_option maxRecDepth 100000 in
theorem c_L_gardener (l : Launch) (hl9 : l.stackTraces = false) (G : Gd) (σ : Mm) (sz : Nat) (a0 : Int32) {out : (Int32 ⊕ Nat) × Mm} (ho : f_X9_gardener a0 σ = some out) (pl : Nat → Int32) (hn : ∀ n, out.1 = .inr n → (n = 0 ∧ pl n = 1)) : Met l yL_gardener wsL_gardener { frames := 8, cells := 1, slots := 6, locals := 152 } (va_Pc [.ref (G.2.2 154), .int a0, .ref (G.2.2 207)] (PW G σ sz)) (Ql G sz (hgL out G) (hp pl out) out.2) 1 6 (AA G sz) := by
  refine Met.ofWH (cc := cL_gardener) (maxL := 4) (ret := (some .int)) (hh := [(0, 9, 12, 13)]) (by decide) rfl ?_
  intro p e s m args below meth c s₁ B0 hml hv
  obtain ⟨rfl, hpw⟩ := hv
  have hsz := hpw.1
  subst hsz
  obtain ⟨F, B⟩ := hpw.to
  have hx := B0.exec
  have hb := B0.bytes
  have hr := B0.returns
  have hts := atoms_spec (ws := wsL_gardener) B0.pre
  have htab := vx_table (x := yL_gardener) B0 (hts _ List.mem_cons_self)
  have hown : s.vm.findClass RL = some m.cls := findClass_of_methodNamed B0.named
  have hlocks := B0.notSynchronized
  have S : CallFix p m c cL_gardener 4 s _ wsL_gardener RL := ⟨hx, hb, hml, hown, hts⟩
  have hl := lv_entry [.ref (G.2.2 154), .int a0, .ref (G.2.2 207)] (n := 4) (Nat.le_of_ble_eq_true rfl)
  rw [lg_entry_eq]
  generalize (lg_sl [.ref (G.2.2 154), .int a0, .ref (G.2.2 207)] ++ List.replicate (4 - (lg_sl [.ref (G.2.2 154), .int a0, .ref (G.2.2 207)]).length) Slot.unset).toArray = ls at hl ⊢
  have hl : lv_has ls 4 [(0, .ref (G.2.2 154)), (1, .int a0), (2, .ref (G.2.2 207))] := hl
  refine lv_aload_n hx hb dL_gardener_0 rfl (lv_at hl 2 rfl) ?_
  refine lv_iconst (v := 0) hx hb dL_gardener_1 (by decide) ?_
  refine lv_aload_n hx hb dL_gardener_2 rfl (lv_at hl 0 rfl) ?_
  refine lv_iload_n hx hb dL_gardener_3 rfl (lv_at hl 1 rfl) ?_
  refine h_call (As := [.int a0]) (rest := [.int 0, .ref (G.2.2 207)]) S F B (c_X9_gardener l hl9 G σ _ a0 ho) (kq (by decide) : kd 154 = 7 ∧ 154 < NN) rfl rfl (cwV 1 hts gL_gardener_X9_gardener rfl rfl rfl (by decide +kernel) ⟨Nat.le_of_ble_eq_true rfl, Nat.le_of_ble_eq_true rfl⟩) rfl hl.1 rfl (Nat.le_of_ble_eq_true rfl) dL_gardener_4 ⟨Nat.le_of_ble_eq_true rfl, Nat.le_of_ble_eq_true rfl⟩ (fun k q9 ce H locs hk B hce hcv hcl => ?_) (fun v H locs hv B => ?_)
  · rw [hp_r pl hk, hgL_r hk]
    obtain ⟨rfl, h2⟩ := hn k hk
    rw [h2]
    refine h_catch (k := 0) (hp := 12) S F [] ⟨0, 9, 12, 13⟩ [] htab (fun _ h => (nomatch h)) rfl (by decide) rfl (by decide +kernel) (by decide) hce hcv hcl ?_
    refine lv_astore_n hx hb dL_gardener_12 rfl hl (by decide) rfl (fun ls hl => ?_)
    refine lv_iconst (v := 1) hx hb dL_gardener_13 (by decide) ?_
    exact e_l B (fun _ => rfl) hx hb hr hlocks rfl dL_gardener_14
  · rw [hp_l pl hv, hgL_l hv]
    refine lv_i2l hx hb dL_gardener_7 rfl ?_
    refine r_last S F B dL_gardener_8 (fun H locs B => ?_)
    refine lv_goto (tgt := 15) hx hb dL_gardener_9 (by decide) ?_
    refine lv_iconst (v := 0) hx hb dL_gardener_15 (by decide) ?_
    exact e_l B gL_AA hx hb hr hlocks rfl dL_gardener_16

set_option maxHeartbeats 4000000 in
set_option maxRecDepth 100000 in
theorem c_L_visitor (l : Launch) (hl9 : l.stackTraces = false) (G : Gd) (σ : Mm) (sz : Nat) (a0 : Int32) {out : (Int32 ⊕ Nat) × Mm} (ho : f_X9_visitor a0 σ = some out) (pl : Nat → Int32) (hn : ∀ n, out.1 = .inr n → (n = 0 ∧ pl n = 1)) : Met l yL_visitor wsL_visitor { frames := 8, cells := 1, slots := 6, locals := 152 } (va_Pc [.ref (G.2.2 154), .int a0, .ref (G.2.2 207)] (PW G σ sz)) (Ql G sz (hgL out G) (hp pl out) out.2) 1 6 (AA G sz) := by
  refine Met.ofWH (cc := cL_visitor) (maxL := 4) (ret := (some .int)) (hh := [(0, 9, 12, 13)]) (by decide) rfl ?_
  intro p e s m args below meth c s₁ B0 hml hv
  obtain ⟨rfl, hpw⟩ := hv
  have hsz := hpw.1
  subst hsz
  obtain ⟨F, B⟩ := hpw.to
  have hx := B0.exec
  have hb := B0.bytes
  have hr := B0.returns
  have hts := atoms_spec (ws := wsL_visitor) B0.pre
  have htab := vx_table (x := yL_visitor) B0 (hts _ List.mem_cons_self)
  have hown : s.vm.findClass RL = some m.cls := findClass_of_methodNamed B0.named
  have hlocks := B0.notSynchronized
  have S : CallFix p m c cL_visitor 4 s _ wsL_visitor RL := ⟨hx, hb, hml, hown, hts⟩
  have hl := lv_entry [.ref (G.2.2 154), .int a0, .ref (G.2.2 207)] (n := 4) (Nat.le_of_ble_eq_true rfl)
  rw [lg_entry_eq]
  generalize (lg_sl [.ref (G.2.2 154), .int a0, .ref (G.2.2 207)] ++ List.replicate (4 - (lg_sl [.ref (G.2.2 154), .int a0, .ref (G.2.2 207)]).length) Slot.unset).toArray = ls at hl ⊢
  have hl : lv_has ls 4 [(0, .ref (G.2.2 154)), (1, .int a0), (2, .ref (G.2.2 207))] := hl
  refine lv_aload_n hx hb dL_visitor_0 rfl (lv_at hl 2 rfl) ?_
  refine lv_iconst (v := 0) hx hb dL_visitor_1 (by decide) ?_
  refine lv_aload_n hx hb dL_visitor_2 rfl (lv_at hl 0 rfl) ?_
  refine lv_iload_n hx hb dL_visitor_3 rfl (lv_at hl 1 rfl) ?_
  refine h_call (As := [.int a0]) (rest := [.int 0, .ref (G.2.2 207)]) S F B (c_X9_visitor l hl9 G σ _ a0 ho) (kq (by decide) : kd 154 = 7 ∧ 154 < NN) rfl rfl (cwV 1 hts gL_visitor_X9_visitor rfl rfl rfl (by decide +kernel) ⟨Nat.le_of_ble_eq_true rfl, Nat.le_of_ble_eq_true rfl⟩) rfl hl.1 rfl (Nat.le_of_ble_eq_true rfl) dL_visitor_4 ⟨Nat.le_of_ble_eq_true rfl, Nat.le_of_ble_eq_true rfl⟩ (fun k q9 ce H locs hk B hce hcv hcl => ?_) (fun v H locs hv B => ?_)
  · rw [hp_r pl hk, hgL_r hk]
    obtain ⟨rfl, h2⟩ := hn k hk
    rw [h2]
    refine h_catch (k := 0) (hp := 12) S F [] ⟨0, 9, 12, 13⟩ [] htab (fun _ h => (nomatch h)) rfl (by decide) rfl (by decide +kernel) (by decide) hce hcv hcl ?_
    refine lv_astore_n hx hb dL_visitor_12 rfl hl (by decide) rfl (fun ls hl => ?_)
    refine lv_iconst (v := 1) hx hb dL_visitor_13 (by decide) ?_
    exact e_l B (fun _ => rfl) hx hb hr hlocks rfl dL_visitor_14
  · rw [hp_l pl hv, hgL_l hv]
    refine lv_i2l hx hb dL_visitor_7 rfl ?_
    refine r_last S F B dL_visitor_8 (fun H locs B => ?_)
    refine lv_goto (tgt := 15) hx hb dL_visitor_9 (by decide) ?_
    refine lv_iconst (v := 0) hx hb dL_visitor_15 (by decide) ?_
    exact e_l B gL_AA hx hb hr hlocks rfl dL_visitor_16

set_option maxHeartbeats 4000000 in
set_option maxRecDepth 100000 in
theorem c_L_bond (l : Launch) (hl9 : l.stackTraces = false) (G : Gd) (σ : Mm) (sz : Nat) (a0 : Int32) (a1 : Int32) (a2 : Int32) {out : (Int32 ⊕ Nat) × Mm} (ho : f_X9_bond a0 a1 a2 σ = some out) (pl : Nat → Int32) (hn : ∀ n, out.1 = .inr n → (n = 0 ∧ pl n = 1)) : Met l yL_bond wsL_bond { frames := 8, cells := 1, slots := 6, locals := 154 } (va_Pc [.ref (G.2.2 154), .int a0, .int a1, .int a2, .ref (G.2.2 207)] (PW G σ sz)) (Ql G sz (hgL out G) (hp pl out) out.2) 1 6 (AA G sz) := by
  refine Met.ofWH (cc := cL_bond) (maxL := 6) (ret := (some .int)) (hh := [(0, 12, 15, 13)]) (by decide) rfl ?_
  intro p e s m args below meth c s₁ B0 hml hv
  obtain ⟨rfl, hpw⟩ := hv
  have hsz := hpw.1
  subst hsz
  obtain ⟨F, B⟩ := hpw.to
  have hx := B0.exec
  have hb := B0.bytes
  have hr := B0.returns
  have hts := atoms_spec (ws := wsL_bond) B0.pre
  have htab := vx_table (x := yL_bond) B0 (hts _ List.mem_cons_self)
  have hown : s.vm.findClass RL = some m.cls := findClass_of_methodNamed B0.named
  have hlocks := B0.notSynchronized
  have S : CallFix p m c cL_bond 6 s _ wsL_bond RL := ⟨hx, hb, hml, hown, hts⟩
  have hl := lv_entry [.ref (G.2.2 154), .int a0, .int a1, .int a2, .ref (G.2.2 207)] (n := 6) (Nat.le_of_ble_eq_true rfl)
  rw [lg_entry_eq]
  generalize (lg_sl [.ref (G.2.2 154), .int a0, .int a1, .int a2, .ref (G.2.2 207)] ++ List.replicate (6 - (lg_sl [.ref (G.2.2 154), .int a0, .int a1, .int a2, .ref (G.2.2 207)]).length) Slot.unset).toArray = ls at hl ⊢
  have hl : lv_has ls 6 [(0, .ref (G.2.2 154)), (1, .int a0), (2, .int a1), (3, .int a2), (4, .ref (G.2.2 207))] := hl
  refine lv_aload hx hb dL_bond_0 (lv_at hl 4 rfl) ?_
  refine lv_iconst (v := 0) hx hb dL_bond_2 (by decide) ?_
  refine lv_aload_n hx hb dL_bond_3 rfl (lv_at hl 0 rfl) ?_
  refine lv_iload_n hx hb dL_bond_4 rfl (lv_at hl 1 rfl) ?_
  refine lv_iload_n hx hb dL_bond_5 rfl (lv_at hl 2 rfl) ?_
  refine lv_iload_n hx hb dL_bond_6 rfl (lv_at hl 3 rfl) ?_
  refine h_call (As := [.int a0, .int a1, .int a2]) (rest := [.int 0, .ref (G.2.2 207)]) S F B (c_X9_bond l hl9 G σ _ a0 a1 a2 ho) (kq (by decide) : kd 154 = 7 ∧ 154 < NN) rfl rfl (cwV 3 hts gL_bond_X9_bond rfl rfl rfl (by decide +kernel) ⟨Nat.le_of_ble_eq_true rfl, Nat.le_of_ble_eq_true rfl⟩) rfl hl.1 rfl (Nat.le_of_ble_eq_true rfl) dL_bond_7 ⟨Nat.le_of_ble_eq_true rfl, Nat.le_of_ble_eq_true rfl⟩ (fun k q9 ce H locs hk B hce hcv hcl => ?_) (fun v H locs hv B => ?_)
  · rw [hp_r pl hk, hgL_r hk]
    obtain ⟨rfl, h2⟩ := hn k hk
    rw [h2]
    refine h_catch (k := 0) (hp := 15) S F [] ⟨0, 12, 15, 13⟩ [] htab (fun _ h => (nomatch h)) rfl (by decide) rfl (by decide +kernel) (by decide) hce hcv hcl ?_
    refine lv_astore hx hb dL_bond_15 hl (by decide) rfl (fun ls hl => ?_)
    refine lv_iconst (v := 1) hx hb dL_bond_17 (by decide) ?_
    exact e_l B (fun _ => rfl) hx hb hr hlocks rfl dL_bond_18
  · rw [hp_l pl hv, hgL_l hv]
    refine lv_i2l hx hb dL_bond_10 rfl ?_
    refine r_last S F B dL_bond_11 (fun H locs B => ?_)
    refine lv_goto (tgt := 19) hx hb dL_bond_12 (by decide) ?_
    refine lv_iconst (v := 0) hx hb dL_bond_19 (by decide) ?_
    exact e_l B gL_AA hx hb hr hlocks rfl dL_bond_20

set_option maxHeartbeats 4000000 in
set_option maxRecDepth 100000 in
theorem c_L_walk (l : Launch) (hl9 : l.stackTraces = false) (G : Gd) (σ : Mm) (sz : Nat) (a0 : Int32) (a1 : Int32) {out : (Int32 ⊕ Nat) × Mm} (ho : f_X9_walk a0 a1 σ = some out) (pl : Nat → Int32) (hn : ∀ n, out.1 = .inr n → (n = 0 ∧ pl n = 1)) : Met l yL_walk wsL_walk { frames := 8, cells := 1, slots := 6, locals := 153 } (va_Pc [.ref (G.2.2 154), .int a0, .int a1, .ref (G.2.2 207)] (PW G σ sz)) (Ql G sz (hgL out G) (hp pl out) out.2) 1 6 (AA G sz) := by
  refine Met.ofWH (cc := cL_walk) (maxL := 5) (ret := (some .int)) (hh := [(0, 10, 13, 13)]) (by decide) rfl ?_
  intro p e s m args below meth c s₁ B0 hml hv
  obtain ⟨rfl, hpw⟩ := hv
  have hsz := hpw.1
  subst hsz
  obtain ⟨F, B⟩ := hpw.to
  have hx := B0.exec
  have hb := B0.bytes
  have hr := B0.returns
  have hts := atoms_spec (ws := wsL_walk) B0.pre
  have htab := vx_table (x := yL_walk) B0 (hts _ List.mem_cons_self)
  have hown : s.vm.findClass RL = some m.cls := findClass_of_methodNamed B0.named
  have hlocks := B0.notSynchronized
  have S : CallFix p m c cL_walk 5 s _ wsL_walk RL := ⟨hx, hb, hml, hown, hts⟩
  have hl := lv_entry [.ref (G.2.2 154), .int a0, .int a1, .ref (G.2.2 207)] (n := 5) (Nat.le_of_ble_eq_true rfl)
  rw [lg_entry_eq]
  generalize (lg_sl [.ref (G.2.2 154), .int a0, .int a1, .ref (G.2.2 207)] ++ List.replicate (5 - (lg_sl [.ref (G.2.2 154), .int a0, .int a1, .ref (G.2.2 207)]).length) Slot.unset).toArray = ls at hl ⊢
  have hl : lv_has ls 5 [(0, .ref (G.2.2 154)), (1, .int a0), (2, .int a1), (3, .ref (G.2.2 207))] := hl
  refine lv_aload_n hx hb dL_walk_0 rfl (lv_at hl 3 rfl) ?_
  refine lv_iconst (v := 0) hx hb dL_walk_1 (by decide) ?_
  refine lv_aload_n hx hb dL_walk_2 rfl (lv_at hl 0 rfl) ?_
  refine lv_iload_n hx hb dL_walk_3 rfl (lv_at hl 1 rfl) ?_
  refine lv_iload_n hx hb dL_walk_4 rfl (lv_at hl 2 rfl) ?_
  refine h_call (As := [.int a0, .int a1]) (rest := [.int 0, .ref (G.2.2 207)]) S F B (c_X9_walk l hl9 G σ _ a0 a1 ho) (kq (by decide) : kd 154 = 7 ∧ 154 < NN) rfl rfl (cwV 2 hts gL_walk_X9_walk rfl rfl rfl (by decide +kernel) ⟨Nat.le_of_ble_eq_true rfl, Nat.le_of_ble_eq_true rfl⟩) rfl hl.1 rfl (Nat.le_of_ble_eq_true rfl) dL_walk_5 ⟨Nat.le_of_ble_eq_true rfl, Nat.le_of_ble_eq_true rfl⟩ (fun k q9 ce H locs hk B hce hcv hcl => ?_) (fun v H locs hv B => ?_)
  · rw [hp_r pl hk, hgL_r hk]
    obtain ⟨rfl, h2⟩ := hn k hk
    rw [h2]
    refine h_catch (k := 0) (hp := 13) S F [] ⟨0, 10, 13, 13⟩ [] htab (fun _ h => (nomatch h)) rfl (by decide) rfl (by decide +kernel) (by decide) hce hcv hcl ?_
    refine lv_astore hx hb dL_walk_13 hl (by decide) rfl (fun ls hl => ?_)
    refine lv_iconst (v := 1) hx hb dL_walk_15 (by decide) ?_
    exact e_l B (fun _ => rfl) hx hb hr hlocks rfl dL_walk_16
  · rw [hp_l pl hv, hgL_l hv]
    refine lv_i2l hx hb dL_walk_8 rfl ?_
    refine r_last S F B dL_walk_9 (fun H locs B => ?_)
    refine lv_goto (tgt := 17) hx hb dL_walk_10 (by decide) ?_
    refine lv_iconst (v := 0) hx hb dL_walk_17 (by decide) ?_
    exact e_l B gL_AA hx hb hr hlocks rfl dL_walk_18

set_option maxHeartbeats 4000000 in
set_option maxRecDepth 100000 in
theorem c_L_rest (l : Launch) (hl9 : l.stackTraces = false) (G : Gd) (σ : Mm) (sz : Nat) (a0 : Int32) (a1 : Int32) {out : (Int32 ⊕ Nat) × Mm} (ho : f_X9_rest a0 a1 σ = some out) (pl : Nat → Int32) (hn : ∀ n, out.1 = .inr n → (n = 0 ∧ pl n = 1)) : Met l yL_rest wsL_rest { frames := 8, cells := 1, slots := 6, locals := 153 } (va_Pc [.ref (G.2.2 154), .int a0, .int a1, .ref (G.2.2 207)] (PW G σ sz)) (Ql G sz (hgL out G) (hp pl out) out.2) 1 6 (AA G sz) := by
  refine Met.ofWH (cc := cL_rest) (maxL := 5) (ret := (some .int)) (hh := [(0, 10, 13, 13)]) (by decide) rfl ?_
  intro p e s m args below meth c s₁ B0 hml hv
  obtain ⟨rfl, hpw⟩ := hv
  have hsz := hpw.1
  subst hsz
  obtain ⟨F, B⟩ := hpw.to
  have hx := B0.exec
  have hb := B0.bytes
  have hr := B0.returns
  have hts := atoms_spec (ws := wsL_rest) B0.pre
  have htab := vx_table (x := yL_rest) B0 (hts _ List.mem_cons_self)
  have hown : s.vm.findClass RL = some m.cls := findClass_of_methodNamed B0.named
  have hlocks := B0.notSynchronized
  have S : CallFix p m c cL_rest 5 s _ wsL_rest RL := ⟨hx, hb, hml, hown, hts⟩
  have hl := lv_entry [.ref (G.2.2 154), .int a0, .int a1, .ref (G.2.2 207)] (n := 5) (Nat.le_of_ble_eq_true rfl)
  rw [lg_entry_eq]
  generalize (lg_sl [.ref (G.2.2 154), .int a0, .int a1, .ref (G.2.2 207)] ++ List.replicate (5 - (lg_sl [.ref (G.2.2 154), .int a0, .int a1, .ref (G.2.2 207)]).length) Slot.unset).toArray = ls at hl ⊢
  have hl : lv_has ls 5 [(0, .ref (G.2.2 154)), (1, .int a0), (2, .int a1), (3, .ref (G.2.2 207))] := hl
  refine lv_aload_n hx hb dL_rest_0 rfl (lv_at hl 3 rfl) ?_
  refine lv_iconst (v := 0) hx hb dL_rest_1 (by decide) ?_
  refine lv_aload_n hx hb dL_rest_2 rfl (lv_at hl 0 rfl) ?_
  refine lv_iload_n hx hb dL_rest_3 rfl (lv_at hl 1 rfl) ?_
  refine lv_iload_n hx hb dL_rest_4 rfl (lv_at hl 2 rfl) ?_
  refine h_call (As := [.int a0, .int a1]) (rest := [.int 0, .ref (G.2.2 207)]) S F B (c_X9_rest l hl9 G σ _ a0 a1 ho) (kq (by decide) : kd 154 = 7 ∧ 154 < NN) rfl rfl (cwV 2 hts gL_rest_X9_rest rfl rfl rfl (by decide +kernel) ⟨Nat.le_of_ble_eq_true rfl, Nat.le_of_ble_eq_true rfl⟩) rfl hl.1 rfl (Nat.le_of_ble_eq_true rfl) dL_rest_5 ⟨Nat.le_of_ble_eq_true rfl, Nat.le_of_ble_eq_true rfl⟩ (fun k q9 ce H locs hk B hce hcv hcl => ?_) (fun v H locs hv B => ?_)
  · rw [hp_r pl hk, hgL_r hk]
    obtain ⟨rfl, h2⟩ := hn k hk
    rw [h2]
    refine h_catch (k := 0) (hp := 13) S F [] ⟨0, 10, 13, 13⟩ [] htab (fun _ h => (nomatch h)) rfl (by decide) rfl (by decide +kernel) (by decide) hce hcv hcl ?_
    refine lv_astore hx hb dL_rest_13 hl (by decide) rfl (fun ls hl => ?_)
    refine lv_iconst (v := 1) hx hb dL_rest_15 (by decide) ?_
    exact e_l B (fun _ => rfl) hx hb hr hlocks rfl dL_rest_16
  · rw [hp_l pl hv, hgL_l hv]
    refine lv_i2l hx hb dL_rest_8 rfl ?_
    refine r_last S F B dL_rest_9 (fun H locs B => ?_)
    refine lv_goto (tgt := 17) hx hb dL_rest_10 (by decide) ?_
    refine lv_iconst (v := 0) hx hb dL_rest_17 (by decide) ?_
    exact e_l B gL_AA hx hb hr hlocks rfl dL_rest_18

def ws2_leaves : List Cond := wsL_leaves ++ [Cond.classLink RL 41 "java/lang/IndexOutOfBoundsException", Cond.classLink RL 43 "java/util/NoSuchElementException"]
set_option maxHeartbeats 4000000 in
set_option maxRecDepth 100000 in
theorem c_L_leaves (l : Launch) (hl9 : l.stackTraces = false) (G : Gd) (σ : Mm) (sz : Nat) (a0 : Int32) (a1 : Int32) {out : (Int32 ⊕ Nat) × Mm} (ho : f_X9_leaves a0 a1 σ = some out) (pl : Nat → Int32) (hn : ∀ n, out.1 = .inr n → (n = 1 ∧ pl n = 1) ∨ (n = 2 ∧ pl n = 2)) : Met l yL_leaves ws2_leaves { frames := 9, cells := 2, slots := 12, locals := 175 } (va_Pc [.ref (G.2.2 154), .int a0, .int a1, .ref (G.2.2 207)] (PW G σ sz)) (Ql G sz (hgL out G) (hp pl out) out.2) 2 12 (AA G sz) := by
  refine Met.ofWH (cc := cL_leaves) (maxL := 5) (ret := (some .int)) (hh := [(0, 10, 13, 41), (0, 10, 17, 43)]) (by decide) rfl ?_
  intro p e s m args below meth c s₁ B0 hml hv
  obtain ⟨rfl, hpw⟩ := hv
  have hsz := hpw.1
  subst hsz
  obtain ⟨F, B⟩ := hpw.to
  have hx := B0.exec
  have hb := B0.bytes
  have hr := B0.returns
  have hts := atoms_spec (ws := ws2_leaves) B0.pre
  have htab := vx_table (x := yL_leaves) B0 (hts _ List.mem_cons_self)
  have hown : s.vm.findClass RL = some m.cls := findClass_of_methodNamed B0.named
  have hlocks := B0.notSynchronized
  have S : CallFix p m c cL_leaves 5 s _ ws2_leaves RL := ⟨hx, hb, hml, hown, hts⟩
  have hl := lv_entry [.ref (G.2.2 154), .int a0, .int a1, .ref (G.2.2 207)] (n := 5) (Nat.le_of_ble_eq_true rfl)
  rw [lg_entry_eq]
  generalize (lg_sl [.ref (G.2.2 154), .int a0, .int a1, .ref (G.2.2 207)] ++ List.replicate (5 - (lg_sl [.ref (G.2.2 154), .int a0, .int a1, .ref (G.2.2 207)]).length) Slot.unset).toArray = ls at hl ⊢
  have hl : lv_has ls 5 [(0, .ref (G.2.2 154)), (1, .int a0), (2, .int a1), (3, .ref (G.2.2 207))] := hl
  refine lv_aload_n hx hb dL_leaves_0 rfl (lv_at hl 3 rfl) ?_
  refine lv_iconst (v := 0) hx hb dL_leaves_1 (by decide) ?_
  refine lv_aload_n hx hb dL_leaves_2 rfl (lv_at hl 0 rfl) ?_
  refine lv_iload_n hx hb dL_leaves_3 rfl (lv_at hl 1 rfl) ?_
  refine lv_iload_n hx hb dL_leaves_4 rfl (lv_at hl 2 rfl) ?_
  refine h_call (As := [.int a0, .int a1]) (rest := [.int 0, .ref (G.2.2 207)]) S F B (c_X9_leaves l hl9 G σ _ a0 a1 ho) (kq (by decide) : kd 154 = 7 ∧ 154 < NN) rfl rfl (cwV 2 hts (goodIn_more gL_leaves_X9_leaves) rfl rfl rfl (by decide +kernel) ⟨Nat.le_of_ble_eq_true rfl, Nat.le_of_ble_eq_true rfl⟩) rfl hl.1 rfl (Nat.le_of_ble_eq_true rfl) dL_leaves_5 ⟨Nat.le_of_ble_eq_true rfl, Nat.le_of_ble_eq_true rfl⟩ (fun k q9 ce H locs hk B hce hcv hcl => ?_) (fun v H locs hv B => ?_)
  · rw [hp_r pl hk, hgL_r hk]
    rcases hn k hk with ⟨rfl, h2⟩ | ⟨rfl, h2⟩ <;> rw [h2]
    · refine h_catch (k := 1) (hp := 13) S F [] ⟨0, 10, 13, 41⟩ [⟨0, 10, 17, 43⟩] htab (fun _ h => (nomatch h)) rfl (by decide) rfl (by decide +kernel) (by decide) hce hcv hcl ?_
      refine lv_astore hx hb dL_leaves_13 hl (by decide) rfl (fun ls hl => ?_)
      refine lv_iconst (v := 1) hx hb dL_leaves_15 (by decide) ?_
      exact e_l B (fun _ => rfl) hx hb hr hlocks rfl dL_leaves_16
    · refine h_catch (k := 2) (hp := 17) S F [⟨0, 10, 13, 41⟩] ⟨0, 10, 17, 43⟩ [] htab (fun z hz => by
        have hz := List.mem_singleton.mp hz
        subst hz
        exact Or.inr ⟨by decide, exn 1, S.2.2.2.2 _ (show Cond.classLink RL 41 (exn 1) ∈ _ by decide +kernel), F.ncs (exn 2, exn 1) (by decide)⟩) rfl (by decide) rfl (by decide +kernel) (by decide) hce hcv hcl ?_
      refine lv_astore hx hb dL_leaves_17 hl (by decide) rfl (fun ls hl => ?_)
      refine lv_iconst (v := 2) hx hb dL_leaves_19 (by decide) ?_
      exact e_l B (fun _ => rfl) hx hb hr hlocks rfl dL_leaves_20
  · rw [hp_l pl hv, hgL_l hv]
    refine lv_i2l hx hb dL_leaves_8 rfl ?_
    refine r_last S F B dL_leaves_9 (fun H locs B => ?_)
    refine lv_goto (tgt := 21) hx hb dL_leaves_10 (by decide) ?_
    refine lv_iconst (v := 0) hx hb dL_leaves_21 (by decide) ?_
    exact e_l B gL_AA hx hb hr hlocks rfl dL_leaves_22

set_option maxHeartbeats 4000000 in
set_option maxRecDepth 100000 in
theorem c_L_isGap (l : Launch) (hl9 : l.stackTraces = false) (G : Gd) (σ : Mm) (sz : Nat) (a0 : Int32) (a1 : Int32) {out : (Int32 ⊕ Nat) × Mm} (ho : f_X9_isGap a0 a1 σ = some out) (pl : Nat → Int32) (hn : ∀ n, out.1 = .inr n → (n = 1 ∧ pl n = 1)) : Met l yL_isGap wsL_isGap { frames := 8, cells := 1, slots := 6, locals := 153 } (va_Pc [.ref (G.2.2 154), .int a0, .int a1, .ref (G.2.2 207)] (PW G σ sz)) (Ql G sz (hgB out G) (hp pl out) out.2) 1 6 (AA G sz) := by
  refine Met.ofWH (cc := cL_isGap) (maxL := 5) (ret := (some .int)) (hh := [(0, 17, 20, 41)]) (by decide) rfl ?_
  intro p e s m args below meth c s₁ B0 hml hv
  obtain ⟨rfl, hpw⟩ := hv
  have hsz := hpw.1
  subst hsz
  obtain ⟨F, B⟩ := hpw.to
  have hx := B0.exec
  have hb := B0.bytes
  have hr := B0.returns
  have hts := atoms_spec (ws := wsL_isGap) B0.pre
  have htab := vx_table (x := yL_isGap) B0 (hts _ List.mem_cons_self)
  have hown : s.vm.findClass RL = some m.cls := findClass_of_methodNamed B0.named
  have hlocks := B0.notSynchronized
  have S : CallFix p m c cL_isGap 5 s _ wsL_isGap RL := ⟨hx, hb, hml, hown, hts⟩
  have hl := lv_entry [.ref (G.2.2 154), .int a0, .int a1, .ref (G.2.2 207)] (n := 5) (Nat.le_of_ble_eq_true rfl)
  rw [lg_entry_eq]
  generalize (lg_sl [.ref (G.2.2 154), .int a0, .int a1, .ref (G.2.2 207)] ++ List.replicate (5 - (lg_sl [.ref (G.2.2 154), .int a0, .int a1, .ref (G.2.2 207)]).length) Slot.unset).toArray = ls at hl ⊢
  have hl : lv_has ls 5 [(0, .ref (G.2.2 154)), (1, .int a0), (2, .int a1), (3, .ref (G.2.2 207))] := hl
  refine lv_aload_n hx hb dL_isGap_0 rfl (lv_at hl 3 rfl) ?_
  refine lv_iconst (v := 0) hx hb dL_isGap_1 (by decide) ?_
  refine lv_aload_n hx hb dL_isGap_2 rfl (lv_at hl 0 rfl) ?_
  refine lv_iload_n hx hb dL_isGap_3 rfl (lv_at hl 1 rfl) ?_
  refine lv_iload_n hx hb dL_isGap_4 rfl (lv_at hl 2 rfl) ?_
  refine h_call (As := [.int a0, .int a1]) (rest := [.int 0, .ref (G.2.2 207)]) S F B (c_X9_isGap l hl9 G σ _ a0 a1 ho) (kq (by decide) : kd 154 = 7 ∧ 154 < NN) rfl rfl (cwV 2 hts gL_isGap_X9_isGap rfl rfl rfl (by decide +kernel) ⟨Nat.le_of_ble_eq_true rfl, Nat.le_of_ble_eq_true rfl⟩) rfl hl.1 rfl (Nat.le_of_ble_eq_true rfl) dL_isGap_5 ⟨Nat.le_of_ble_eq_true rfl, Nat.le_of_ble_eq_true rfl⟩ (fun k q9 ce H locs hk B hce hcv hcl => ?_) (fun v H locs hv B => ?_)
  · rw [hp_r pl hk, hgB_r hk]
    obtain ⟨rfl, h2⟩ := hn k hk
    rw [h2]
    refine h_catch (k := 1) (hp := 20) S F [] ⟨0, 17, 20, 41⟩ [] htab (fun _ h => (nomatch h)) rfl (by decide) rfl (by decide +kernel) (by decide) hce hcv hcl ?_
    refine lv_astore hx hb dL_isGap_20 hl (by decide) rfl (fun ls hl => ?_)
    refine lv_iconst (v := 1) hx hb dL_isGap_22 (by decide) ?_
    exact e_l B (fun _ => rfl) hx hb hr hlocks rfl dL_isGap_23
  · rw [hp_l pl hv, hgB_l hv]
    refine lv_if_eq (tgt := 15) hx hb dL_isGap_8 (by decide) (fun c1 => ?_) (fun c1 => ?_)
    · rw [if_pos c1]
      refine lv_lconst (v := 0) hx hb dL_isGap_15 (by decide) ?_
      refine r_last S F B dL_isGap_16 (fun H locs B => ?_)
      refine lv_goto (tgt := 24) hx hb dL_isGap_17 (by decide) ?_
      refine lv_iconst (v := 0) hx hb dL_isGap_24 (by decide) ?_
      exact e_l B gL_AA hx hb hr hlocks rfl dL_isGap_25
    · rw [if_neg c1]
      refine lv_lconst (v := 1) hx hb dL_isGap_11 (by decide) ?_
      refine lv_goto (tgt := 16) hx hb dL_isGap_12 (by decide) ?_
      refine r_last S F B dL_isGap_16 (fun H locs B => ?_)
      refine lv_goto (tgt := 24) hx hb dL_isGap_17 (by decide) ?_
      refine lv_iconst (v := 0) hx hb dL_isGap_24 (by decide) ?_
      exact e_l B gL_AA hx hb hr hlocks rfl dL_isGap_25

def ws2_hours : List Cond := wsL_hours ++ [Cond.classLink RL 41 "java/lang/IndexOutOfBoundsException", Cond.classLink RL 43 "java/util/NoSuchElementException"]
set_option maxHeartbeats 4000000 in
set_option maxRecDepth 100000 in
theorem c_L_hours (l : Launch) (hl9 : l.stackTraces = false) (G : Gd) (σ : Mm) (sz : Nat) (a0 : Int32) (a1 : Int32) {out : (Int32 ⊕ Nat) × Mm} (ho : f_X9_hours a0 a1 σ = some out) (pl : Nat → Int32) (hn : ∀ n, out.1 = .inr n → (n = 1 ∧ pl n = 1) ∨ (n = 2 ∧ pl n = 2)) : Met l yL_hours ws2_hours { frames := 8, cells := 2, slots := 12, locals := 153 } (va_Pc [.ref (G.2.2 154), .int a0, .int a1, .ref (G.2.2 207)] (PW G σ sz)) (Ql G sz (hgL out G) (hp pl out) out.2) 2 12 (AA G sz) := by
  refine Met.ofWH (cc := cL_hours) (maxL := 5) (ret := (some .int)) (hh := [(0, 10, 13, 41), (0, 10, 17, 43)]) (by decide) rfl ?_
  intro p e s m args below meth c s₁ B0 hml hv
  obtain ⟨rfl, hpw⟩ := hv
  have hsz := hpw.1
  subst hsz
  obtain ⟨F, B⟩ := hpw.to
  have hx := B0.exec
  have hb := B0.bytes
  have hr := B0.returns
  have hts := atoms_spec (ws := ws2_hours) B0.pre
  have htab := vx_table (x := yL_hours) B0 (hts _ List.mem_cons_self)
  have hown : s.vm.findClass RL = some m.cls := findClass_of_methodNamed B0.named
  have hlocks := B0.notSynchronized
  have S : CallFix p m c cL_hours 5 s _ ws2_hours RL := ⟨hx, hb, hml, hown, hts⟩
  have hl := lv_entry [.ref (G.2.2 154), .int a0, .int a1, .ref (G.2.2 207)] (n := 5) (Nat.le_of_ble_eq_true rfl)
  rw [lg_entry_eq]
  generalize (lg_sl [.ref (G.2.2 154), .int a0, .int a1, .ref (G.2.2 207)] ++ List.replicate (5 - (lg_sl [.ref (G.2.2 154), .int a0, .int a1, .ref (G.2.2 207)]).length) Slot.unset).toArray = ls at hl ⊢
  have hl : lv_has ls 5 [(0, .ref (G.2.2 154)), (1, .int a0), (2, .int a1), (3, .ref (G.2.2 207))] := hl
  refine lv_aload_n hx hb dL_hours_0 rfl (lv_at hl 3 rfl) ?_
  refine lv_iconst (v := 0) hx hb dL_hours_1 (by decide) ?_
  refine lv_aload_n hx hb dL_hours_2 rfl (lv_at hl 0 rfl) ?_
  refine lv_iload_n hx hb dL_hours_3 rfl (lv_at hl 1 rfl) ?_
  refine lv_iload_n hx hb dL_hours_4 rfl (lv_at hl 2 rfl) ?_
  refine h_call (As := [.int a0, .int a1]) (rest := [.int 0, .ref (G.2.2 207)]) S F B (c_X9_hours l hl9 G σ _ a0 a1 ho) (kq (by decide) : kd 154 = 7 ∧ 154 < NN) rfl rfl (cwV 2 hts (goodIn_more gL_hours_X9_hours) rfl rfl rfl (by decide +kernel) ⟨Nat.le_of_ble_eq_true rfl, Nat.le_of_ble_eq_true rfl⟩) rfl hl.1 rfl (Nat.le_of_ble_eq_true rfl) dL_hours_5 ⟨Nat.le_of_ble_eq_true rfl, Nat.le_of_ble_eq_true rfl⟩ (fun k q9 ce H locs hk B hce hcv hcl => ?_) (fun v H locs hv B => ?_)
  · rw [hp_r pl hk, hgL_r hk]
    rcases hn k hk with ⟨rfl, h2⟩ | ⟨rfl, h2⟩ <;> rw [h2]
    · refine h_catch (k := 1) (hp := 13) S F [] ⟨0, 10, 13, 41⟩ [⟨0, 10, 17, 43⟩] htab (fun _ h => (nomatch h)) rfl (by decide) rfl (by decide +kernel) (by decide) hce hcv hcl ?_
      refine lv_astore hx hb dL_hours_13 hl (by decide) rfl (fun ls hl => ?_)
      refine lv_iconst (v := 1) hx hb dL_hours_15 (by decide) ?_
      exact e_l B (fun _ => rfl) hx hb hr hlocks rfl dL_hours_16
    · refine h_catch (k := 2) (hp := 17) S F [⟨0, 10, 13, 41⟩] ⟨0, 10, 17, 43⟩ [] htab (fun z hz => by
        have hz := List.mem_singleton.mp hz
        subst hz
        exact Or.inr ⟨by decide, exn 1, S.2.2.2.2 _ (show Cond.classLink RL 41 (exn 1) ∈ _ by decide +kernel), F.ncs (exn 2, exn 1) (by decide)⟩) rfl (by decide) rfl (by decide +kernel) (by decide) hce hcv hcl ?_
      refine lv_astore hx hb dL_hours_17 hl (by decide) rfl (fun ls hl => ?_)
      refine lv_iconst (v := 2) hx hb dL_hours_19 (by decide) ?_
      exact e_l B (fun _ => rfl) hx hb hr hlocks rfl dL_hours_20
  · rw [hp_l pl hv, hgL_l hv]
    refine lv_i2l hx hb dL_hours_8 rfl ?_
    refine r_last S F B dL_hours_9 (fun H locs B => ?_)
    refine lv_goto (tgt := 21) hx hb dL_hours_10 (by decide) ?_
    refine lv_iconst (v := 0) hx hb dL_hours_21 (by decide) ?_
    exact e_l B gL_AA hx hb hr hlocks rfl dL_hours_22

def ws2_hoursAgain : List Cond := wsL_hoursAgain ++ [Cond.classLink RL 41 "java/lang/IndexOutOfBoundsException", Cond.classLink RL 43 "java/util/NoSuchElementException"]
set_option maxHeartbeats 4000000 in
set_option maxRecDepth 100000 in
theorem c_L_hoursAgain (l : Launch) (hl9 : l.stackTraces = false) (G : Gd) (σ : Mm) (sz : Nat) (a0 : Int32) (a1 : Int32) {out : (Int32 ⊕ Nat) × Mm} (ho : f_X9_hoursAgain a0 a1 σ = some out) (pl : Nat → Int32) (hn : ∀ n, out.1 = .inr n → (n = 1 ∧ pl n = 1) ∨ (n = 2 ∧ pl n = 2)) : Met l yL_hoursAgain ws2_hoursAgain { frames := 8, cells := 2, slots := 12, locals := 153 } (va_Pc [.ref (G.2.2 154), .int a0, .int a1, .ref (G.2.2 207)] (PW G σ sz)) (Ql G sz (hgL out G) (hp pl out) out.2) 2 12 (AA G sz) := by
  refine Met.ofWH (cc := cL_hoursAgain) (maxL := 5) (ret := (some .int)) (hh := [(0, 10, 13, 41), (0, 10, 17, 43)]) (by decide) rfl ?_
  intro p e s m args below meth c s₁ B0 hml hv
  obtain ⟨rfl, hpw⟩ := hv
  have hsz := hpw.1
  subst hsz
  obtain ⟨F, B⟩ := hpw.to
  have hx := B0.exec
  have hb := B0.bytes
  have hr := B0.returns
  have hts := atoms_spec (ws := ws2_hoursAgain) B0.pre
  have htab := vx_table (x := yL_hoursAgain) B0 (hts _ List.mem_cons_self)
  have hown : s.vm.findClass RL = some m.cls := findClass_of_methodNamed B0.named
  have hlocks := B0.notSynchronized
  have S : CallFix p m c cL_hoursAgain 5 s _ ws2_hoursAgain RL := ⟨hx, hb, hml, hown, hts⟩
  have hl := lv_entry [.ref (G.2.2 154), .int a0, .int a1, .ref (G.2.2 207)] (n := 5) (Nat.le_of_ble_eq_true rfl)
  rw [lg_entry_eq]
  generalize (lg_sl [.ref (G.2.2 154), .int a0, .int a1, .ref (G.2.2 207)] ++ List.replicate (5 - (lg_sl [.ref (G.2.2 154), .int a0, .int a1, .ref (G.2.2 207)]).length) Slot.unset).toArray = ls at hl ⊢
  have hl : lv_has ls 5 [(0, .ref (G.2.2 154)), (1, .int a0), (2, .int a1), (3, .ref (G.2.2 207))] := hl
  refine lv_aload_n hx hb dL_hoursAgain_0 rfl (lv_at hl 3 rfl) ?_
  refine lv_iconst (v := 0) hx hb dL_hoursAgain_1 (by decide) ?_
  refine lv_aload_n hx hb dL_hoursAgain_2 rfl (lv_at hl 0 rfl) ?_
  refine lv_iload_n hx hb dL_hoursAgain_3 rfl (lv_at hl 1 rfl) ?_
  refine lv_iload_n hx hb dL_hoursAgain_4 rfl (lv_at hl 2 rfl) ?_
  refine h_call (As := [.int a0, .int a1]) (rest := [.int 0, .ref (G.2.2 207)]) S F B (c_X9_hoursAgain l hl9 G σ _ a0 a1 ho) (kq (by decide) : kd 154 = 7 ∧ 154 < NN) rfl rfl (cwV 2 hts (goodIn_more gL_hoursAgain_X9_hoursAgain) rfl rfl rfl (by decide +kernel) ⟨Nat.le_of_ble_eq_true rfl, Nat.le_of_ble_eq_true rfl⟩) rfl hl.1 rfl (Nat.le_of_ble_eq_true rfl) dL_hoursAgain_5 ⟨Nat.le_of_ble_eq_true rfl, Nat.le_of_ble_eq_true rfl⟩ (fun k q9 ce H locs hk B hce hcv hcl => ?_) (fun v H locs hv B => ?_)
  · rw [hp_r pl hk, hgL_r hk]
    rcases hn k hk with ⟨rfl, h2⟩ | ⟨rfl, h2⟩ <;> rw [h2]
    · refine h_catch (k := 1) (hp := 13) S F [] ⟨0, 10, 13, 41⟩ [⟨0, 10, 17, 43⟩] htab (fun _ h => (nomatch h)) rfl (by decide) rfl (by decide +kernel) (by decide) hce hcv hcl ?_
      refine lv_astore hx hb dL_hoursAgain_13 hl (by decide) rfl (fun ls hl => ?_)
      refine lv_iconst (v := 1) hx hb dL_hoursAgain_15 (by decide) ?_
      exact e_l B (fun _ => rfl) hx hb hr hlocks rfl dL_hoursAgain_16
    · refine h_catch (k := 2) (hp := 17) S F [⟨0, 10, 13, 41⟩] ⟨0, 10, 17, 43⟩ [] htab (fun z hz => by
        have hz := List.mem_singleton.mp hz
        subst hz
        exact Or.inr ⟨by decide, exn 1, S.2.2.2.2 _ (show Cond.classLink RL 41 (exn 1) ∈ _ by decide +kernel), F.ncs (exn 2, exn 1) (by decide)⟩) rfl (by decide) rfl (by decide +kernel) (by decide) hce hcv hcl ?_
      refine lv_astore hx hb dL_hoursAgain_17 hl (by decide) rfl (fun ls hl => ?_)
      refine lv_iconst (v := 2) hx hb dL_hoursAgain_19 (by decide) ?_
      exact e_l B (fun _ => rfl) hx hb hr hlocks rfl dL_hoursAgain_20
  · rw [hp_l pl hv, hgL_l hv]
    refine lv_i2l hx hb dL_hoursAgain_8 rfl ?_
    refine r_last S F B dL_hoursAgain_9 (fun H locs B => ?_)
    refine lv_goto (tgt := 21) hx hb dL_hoursAgain_10 (by decide) ?_
    refine lv_iconst (v := 0) hx hb dL_hoursAgain_21 (by decide) ?_
    exact e_l B gL_AA hx hb hr hlocks rfl dL_hoursAgain_22

def ws2_next : List Cond := wsL_next ++ [Cond.classLink RL 41 "java/lang/IndexOutOfBoundsException", Cond.classLink RL 43 "java/util/NoSuchElementException"]
set_option maxHeartbeats 4000000 in
set_option maxRecDepth 100000 in
theorem c_L_next (l : Launch) (hl9 : l.stackTraces = false) (G : Gd) (σ : Mm) (sz : Nat) (a0 : Int32) {out : (Int32 ⊕ Nat) × Mm} (ho : f_X9_next a0 σ = some out) (pl : Nat → Int32) (hn : ∀ n, out.1 = .inr n → (n = 1 ∧ pl n = 1) ∨ (n = 2 ∧ pl n = 2)) : Met l yL_next ws2_next { frames := 8, cells := 2, slots := 12, locals := 153 } (va_Pc [.ref (G.2.2 154), .int a0, .ref (G.2.2 207)] (PW G σ sz)) (Ql G sz (hgL out G) (hp pl out) out.2) 2 12 (AA G sz) := by
  refine Met.ofWH (cc := cL_next) (maxL := 4) (ret := (some .int)) (hh := [(0, 9, 12, 41), (0, 9, 15, 43)]) (by decide) rfl ?_
  intro p e s m args below meth c s₁ B0 hml hv
  obtain ⟨rfl, hpw⟩ := hv
  have hsz := hpw.1
  subst hsz
  obtain ⟨F, B⟩ := hpw.to
  have hx := B0.exec
  have hb := B0.bytes
  have hr := B0.returns
  have hts := atoms_spec (ws := ws2_next) B0.pre
  have htab := vx_table (x := yL_next) B0 (hts _ List.mem_cons_self)
  have hown : s.vm.findClass RL = some m.cls := findClass_of_methodNamed B0.named
  have hlocks := B0.notSynchronized
  have S : CallFix p m c cL_next 4 s _ ws2_next RL := ⟨hx, hb, hml, hown, hts⟩
  have hl := lv_entry [.ref (G.2.2 154), .int a0, .ref (G.2.2 207)] (n := 4) (Nat.le_of_ble_eq_true rfl)
  rw [lg_entry_eq]
  generalize (lg_sl [.ref (G.2.2 154), .int a0, .ref (G.2.2 207)] ++ List.replicate (4 - (lg_sl [.ref (G.2.2 154), .int a0, .ref (G.2.2 207)]).length) Slot.unset).toArray = ls at hl ⊢
  have hl : lv_has ls 4 [(0, .ref (G.2.2 154)), (1, .int a0), (2, .ref (G.2.2 207))] := hl
  refine lv_aload_n hx hb dL_next_0 rfl (lv_at hl 2 rfl) ?_
  refine lv_iconst (v := 0) hx hb dL_next_1 (by decide) ?_
  refine lv_aload_n hx hb dL_next_2 rfl (lv_at hl 0 rfl) ?_
  refine lv_iload_n hx hb dL_next_3 rfl (lv_at hl 1 rfl) ?_
  refine h_call (As := [.int a0]) (rest := [.int 0, .ref (G.2.2 207)]) S F B (c_X9_next l hl9 G σ _ a0 ho) (kq (by decide) : kd 154 = 7 ∧ 154 < NN) rfl rfl (cwV 1 hts (goodIn_more gL_next_X9_next) rfl rfl rfl (by decide +kernel) ⟨Nat.le_of_ble_eq_true rfl, Nat.le_of_ble_eq_true rfl⟩) rfl hl.1 rfl (Nat.le_of_ble_eq_true rfl) dL_next_4 ⟨Nat.le_of_ble_eq_true rfl, Nat.le_of_ble_eq_true rfl⟩ (fun k q9 ce H locs hk B hce hcv hcl => ?_) (fun v H locs hv B => ?_)
  · rw [hp_r pl hk, hgL_r hk]
    rcases hn k hk with ⟨rfl, h2⟩ | ⟨rfl, h2⟩ <;> rw [h2]
    · refine h_catch (k := 1) (hp := 12) S F [] ⟨0, 9, 12, 41⟩ [⟨0, 9, 15, 43⟩] htab (fun _ h => (nomatch h)) rfl (by decide) rfl (by decide +kernel) (by decide) hce hcv hcl ?_
      refine lv_astore_n hx hb dL_next_12 rfl hl (by decide) rfl (fun ls hl => ?_)
      refine lv_iconst (v := 1) hx hb dL_next_13 (by decide) ?_
      exact e_l B (fun _ => rfl) hx hb hr hlocks rfl dL_next_14
    · refine h_catch (k := 2) (hp := 15) S F [⟨0, 9, 12, 41⟩] ⟨0, 9, 15, 43⟩ [] htab (fun z hz => by
        have hz := List.mem_singleton.mp hz
        subst hz
        exact Or.inr ⟨by decide, exn 1, S.2.2.2.2 _ (show Cond.classLink RL 41 (exn 1) ∈ _ by decide +kernel), F.ncs (exn 2, exn 1) (by decide)⟩) rfl (by decide) rfl (by decide +kernel) (by decide) hce hcv hcl ?_
      refine lv_astore_n hx hb dL_next_15 rfl hl (by decide) rfl (fun ls hl => ?_)
      refine lv_iconst (v := 2) hx hb dL_next_16 (by decide) ?_
      exact e_l B (fun _ => rfl) hx hb hr hlocks rfl dL_next_17
  · rw [hp_l pl hv, hgL_l hv]
    refine lv_i2l hx hb dL_next_7 rfl ?_
    refine r_last S F B dL_next_8 (fun H locs B => ?_)
    refine lv_goto (tgt := 18) hx hb dL_next_9 (by decide) ?_
    refine lv_iconst (v := 0) hx hb dL_next_18 (by decide) ?_
    exact e_l B gL_AA hx hb hr hlocks rfl dL_next_19

set_option maxHeartbeats 4000000 in
set_option maxRecDepth 100000 in
theorem c_L_reached (l : Launch) (hl9 : l.stackTraces = false) (G : Gd) (σ : Mm) (sz : Nat) (a0 : Int32) {out : (Int32 ⊕ Nat) × Mm} (ho : f_X9_reached a0 σ = some out) (pl : Nat → Int32) (hn : ∀ n, out.1 = .inr n → (n = 1 ∧ pl n = 1)) : Met l yL_reached wsL_reached { frames := 8, cells := 1, slots := 6, locals := 152 } (va_Pc [.ref (G.2.2 154), .int a0, .ref (G.2.2 207)] (PW G σ sz)) (Ql G sz (hgL out G) (hp pl out) out.2) 1 6 (AA G sz) := by
  refine Met.ofWH (cc := cL_reached) (maxL := 4) (ret := (some .int)) (hh := [(0, 9, 12, 41)]) (by decide) rfl ?_
  intro p e s m args below meth c s₁ B0 hml hv
  obtain ⟨rfl, hpw⟩ := hv
  have hsz := hpw.1
  subst hsz
  obtain ⟨F, B⟩ := hpw.to
  have hx := B0.exec
  have hb := B0.bytes
  have hr := B0.returns
  have hts := atoms_spec (ws := wsL_reached) B0.pre
  have htab := vx_table (x := yL_reached) B0 (hts _ List.mem_cons_self)
  have hown : s.vm.findClass RL = some m.cls := findClass_of_methodNamed B0.named
  have hlocks := B0.notSynchronized
  have S : CallFix p m c cL_reached 4 s _ wsL_reached RL := ⟨hx, hb, hml, hown, hts⟩
  have hl := lv_entry [.ref (G.2.2 154), .int a0, .ref (G.2.2 207)] (n := 4) (Nat.le_of_ble_eq_true rfl)
  rw [lg_entry_eq]
  generalize (lg_sl [.ref (G.2.2 154), .int a0, .ref (G.2.2 207)] ++ List.replicate (4 - (lg_sl [.ref (G.2.2 154), .int a0, .ref (G.2.2 207)]).length) Slot.unset).toArray = ls at hl ⊢
  have hl : lv_has ls 4 [(0, .ref (G.2.2 154)), (1, .int a0), (2, .ref (G.2.2 207))] := hl
  refine lv_aload_n hx hb dL_reached_0 rfl (lv_at hl 2 rfl) ?_
  refine lv_iconst (v := 0) hx hb dL_reached_1 (by decide) ?_
  refine lv_aload_n hx hb dL_reached_2 rfl (lv_at hl 0 rfl) ?_
  refine lv_iload_n hx hb dL_reached_3 rfl (lv_at hl 1 rfl) ?_
  refine h_call (As := [.int a0]) (rest := [.int 0, .ref (G.2.2 207)]) S F B (c_X9_reached l hl9 G σ _ a0 ho) (kq (by decide) : kd 154 = 7 ∧ 154 < NN) rfl rfl (cwV 1 hts gL_reached_X9_reached rfl rfl rfl (by decide +kernel) ⟨Nat.le_of_ble_eq_true rfl, Nat.le_of_ble_eq_true rfl⟩) rfl hl.1 rfl (Nat.le_of_ble_eq_true rfl) dL_reached_4 ⟨Nat.le_of_ble_eq_true rfl, Nat.le_of_ble_eq_true rfl⟩ (fun k q9 ce H locs hk B hce hcv hcl => ?_) (fun v H locs hv B => ?_)
  · rw [hp_r pl hk, hgL_r hk]
    obtain ⟨rfl, h2⟩ := hn k hk
    rw [h2]
    refine h_catch (k := 1) (hp := 12) S F [] ⟨0, 9, 12, 41⟩ [] htab (fun _ h => (nomatch h)) rfl (by decide) rfl (by decide +kernel) (by decide) hce hcv hcl ?_
    refine lv_astore_n hx hb dL_reached_12 rfl hl (by decide) rfl (fun ls hl => ?_)
    refine lv_iconst (v := 1) hx hb dL_reached_13 (by decide) ?_
    exact e_l B (fun _ => rfl) hx hb hr hlocks rfl dL_reached_14
  · rw [hp_l pl hv, hgL_l hv]
    refine lv_i2l hx hb dL_reached_7 rfl ?_
    refine r_last S F B dL_reached_8 (fun H locs B => ?_)
    refine lv_goto (tgt := 15) hx hb dL_reached_9 (by decide) ?_
    refine lv_iconst (v := 0) hx hb dL_reached_15 (by decide) ?_
    exact e_l B gL_AA hx hb hr hlocks rfl dL_reached_16

set_option maxHeartbeats 4000000 in
set_option maxRecDepth 100000 in
theorem c_L_trims (l : Launch) (hl9 : l.stackTraces = false) (G : Gd) (σ : Mm) (sz : Nat) (a0 : Int32) {out : (Int32 ⊕ Nat) × Mm} (ho : f_X9_trims a0 σ = some out) (pl : Nat → Int32) (hn : ∀ n, out.1 = .inr n → (n = 1 ∧ pl n = 1)) : Met l yL_trims wsL_trims { frames := 8, cells := 1, slots := 6, locals := 152 } (va_Pc [.ref (G.2.2 154), .int a0, .ref (G.2.2 207)] (PW G σ sz)) (Ql G sz (hgL out G) (hp pl out) out.2) 1 6 (AA G sz) := by
  refine Met.ofWH (cc := cL_trims) (maxL := 4) (ret := (some .int)) (hh := [(0, 9, 12, 41)]) (by decide) rfl ?_
  intro p e s m args below meth c s₁ B0 hml hv
  obtain ⟨rfl, hpw⟩ := hv
  have hsz := hpw.1
  subst hsz
  obtain ⟨F, B⟩ := hpw.to
  have hx := B0.exec
  have hb := B0.bytes
  have hr := B0.returns
  have hts := atoms_spec (ws := wsL_trims) B0.pre
  have htab := vx_table (x := yL_trims) B0 (hts _ List.mem_cons_self)
  have hown : s.vm.findClass RL = some m.cls := findClass_of_methodNamed B0.named
  have hlocks := B0.notSynchronized
  have S : CallFix p m c cL_trims 4 s _ wsL_trims RL := ⟨hx, hb, hml, hown, hts⟩
  have hl := lv_entry [.ref (G.2.2 154), .int a0, .ref (G.2.2 207)] (n := 4) (Nat.le_of_ble_eq_true rfl)
  rw [lg_entry_eq]
  generalize (lg_sl [.ref (G.2.2 154), .int a0, .ref (G.2.2 207)] ++ List.replicate (4 - (lg_sl [.ref (G.2.2 154), .int a0, .ref (G.2.2 207)]).length) Slot.unset).toArray = ls at hl ⊢
  have hl : lv_has ls 4 [(0, .ref (G.2.2 154)), (1, .int a0), (2, .ref (G.2.2 207))] := hl
  refine lv_aload_n hx hb dL_trims_0 rfl (lv_at hl 2 rfl) ?_
  refine lv_iconst (v := 0) hx hb dL_trims_1 (by decide) ?_
  refine lv_aload_n hx hb dL_trims_2 rfl (lv_at hl 0 rfl) ?_
  refine lv_iload_n hx hb dL_trims_3 rfl (lv_at hl 1 rfl) ?_
  refine h_call (As := [.int a0]) (rest := [.int 0, .ref (G.2.2 207)]) S F B (c_X9_trims l hl9 G σ _ a0 ho) (kq (by decide) : kd 154 = 7 ∧ 154 < NN) rfl rfl (cwV 1 hts gL_trims_X9_trims rfl rfl rfl (by decide +kernel) ⟨Nat.le_of_ble_eq_true rfl, Nat.le_of_ble_eq_true rfl⟩) rfl hl.1 rfl (Nat.le_of_ble_eq_true rfl) dL_trims_4 ⟨Nat.le_of_ble_eq_true rfl, Nat.le_of_ble_eq_true rfl⟩ (fun k q9 ce H locs hk B hce hcv hcl => ?_) (fun v H locs hv B => ?_)
  · rw [hp_r pl hk, hgL_r hk]
    obtain ⟨rfl, h2⟩ := hn k hk
    rw [h2]
    refine h_catch (k := 1) (hp := 12) S F [] ⟨0, 9, 12, 41⟩ [] htab (fun _ h => (nomatch h)) rfl (by decide) rfl (by decide +kernel) (by decide) hce hcv hcl ?_
    refine lv_astore_n hx hb dL_trims_12 rfl hl (by decide) rfl (fun ls hl => ?_)
    refine lv_iconst (v := 1) hx hb dL_trims_13 (by decide) ?_
    exact e_l B (fun _ => rfl) hx hb hr hlocks rfl dL_trims_14
  · rw [hp_l pl hv, hgL_l hv]
    refine lv_i2l hx hb dL_trims_7 rfl ?_
    refine r_last S F B dL_trims_8 (fun H locs B => ?_)
    refine lv_goto (tgt := 15) hx hb dL_trims_9 (by decide) ?_
    refine lv_iconst (v := 0) hx hb dL_trims_15 (by decide) ?_
    exact e_l B gL_AA hx hb hr hlocks rfl dL_trims_16

set_option maxHeartbeats 4000000 in
set_option maxRecDepth 100000 in
theorem c_L_trimsAgain (l : Launch) (hl9 : l.stackTraces = false) (G : Gd) (σ : Mm) (sz : Nat) (a0 : Int32) {out : (Int32 ⊕ Nat) × Mm} (ho : f_X9_trimsAgain a0 σ = some out) (pl : Nat → Int32) (hn : ∀ n, out.1 = .inr n → (n = 1 ∧ pl n = 1)) : Met l yL_trimsAgain wsL_trimsAgain { frames := 8, cells := 1, slots := 6, locals := 152 } (va_Pc [.ref (G.2.2 154), .int a0, .ref (G.2.2 207)] (PW G σ sz)) (Ql G sz (hgL out G) (hp pl out) out.2) 1 6 (AA G sz) := by
  refine Met.ofWH (cc := cL_trimsAgain) (maxL := 4) (ret := (some .int)) (hh := [(0, 9, 12, 41)]) (by decide) rfl ?_
  intro p e s m args below meth c s₁ B0 hml hv
  obtain ⟨rfl, hpw⟩ := hv
  have hsz := hpw.1
  subst hsz
  obtain ⟨F, B⟩ := hpw.to
  have hx := B0.exec
  have hb := B0.bytes
  have hr := B0.returns
  have hts := atoms_spec (ws := wsL_trimsAgain) B0.pre
  have htab := vx_table (x := yL_trimsAgain) B0 (hts _ List.mem_cons_self)
  have hown : s.vm.findClass RL = some m.cls := findClass_of_methodNamed B0.named
  have hlocks := B0.notSynchronized
  have S : CallFix p m c cL_trimsAgain 4 s _ wsL_trimsAgain RL := ⟨hx, hb, hml, hown, hts⟩
  have hl := lv_entry [.ref (G.2.2 154), .int a0, .ref (G.2.2 207)] (n := 4) (Nat.le_of_ble_eq_true rfl)
  rw [lg_entry_eq]
  generalize (lg_sl [.ref (G.2.2 154), .int a0, .ref (G.2.2 207)] ++ List.replicate (4 - (lg_sl [.ref (G.2.2 154), .int a0, .ref (G.2.2 207)]).length) Slot.unset).toArray = ls at hl ⊢
  have hl : lv_has ls 4 [(0, .ref (G.2.2 154)), (1, .int a0), (2, .ref (G.2.2 207))] := hl
  refine lv_aload_n hx hb dL_trimsAgain_0 rfl (lv_at hl 2 rfl) ?_
  refine lv_iconst (v := 0) hx hb dL_trimsAgain_1 (by decide) ?_
  refine lv_aload_n hx hb dL_trimsAgain_2 rfl (lv_at hl 0 rfl) ?_
  refine lv_iload_n hx hb dL_trimsAgain_3 rfl (lv_at hl 1 rfl) ?_
  refine h_call (As := [.int a0]) (rest := [.int 0, .ref (G.2.2 207)]) S F B (c_X9_trimsAgain l hl9 G σ _ a0 ho) (kq (by decide) : kd 154 = 7 ∧ 154 < NN) rfl rfl (cwV 1 hts gL_trimsAgain_X9_trimsAgain rfl rfl rfl (by decide +kernel) ⟨Nat.le_of_ble_eq_true rfl, Nat.le_of_ble_eq_true rfl⟩) rfl hl.1 rfl (Nat.le_of_ble_eq_true rfl) dL_trimsAgain_4 ⟨Nat.le_of_ble_eq_true rfl, Nat.le_of_ble_eq_true rfl⟩ (fun k q9 ce H locs hk B hce hcv hcl => ?_) (fun v H locs hv B => ?_)
  · rw [hp_r pl hk, hgL_r hk]
    obtain ⟨rfl, h2⟩ := hn k hk
    rw [h2]
    refine h_catch (k := 1) (hp := 12) S F [] ⟨0, 9, 12, 41⟩ [] htab (fun _ h => (nomatch h)) rfl (by decide) rfl (by decide +kernel) (by decide) hce hcv hcl ?_
    refine lv_astore_n hx hb dL_trimsAgain_12 rfl hl (by decide) rfl (fun ls hl => ?_)
    refine lv_iconst (v := 1) hx hb dL_trimsAgain_13 (by decide) ?_
    exact e_l B (fun _ => rfl) hx hb hr hlocks rfl dL_trimsAgain_14
  · rw [hp_l pl hv, hgL_l hv]
    refine lv_i2l hx hb dL_trimsAgain_7 rfl ?_
    refine r_last S F B dL_trimsAgain_8 (fun H locs B => ?_)
    refine lv_goto (tgt := 15) hx hb dL_trimsAgain_9 (by decide) ?_
    refine lv_iconst (v := 0) hx hb dL_trimsAgain_15 (by decide) ?_
    exact e_l B gL_AA hx hb hr hlocks rfl dL_trimsAgain_16

def ws2_isNeeded : List Cond := wsL_isNeeded ++ [Cond.classLink RL 41 "java/lang/IndexOutOfBoundsException", Cond.classLink RL 43 "java/util/NoSuchElementException"]
set_option maxHeartbeats 4000000 in
set_option maxRecDepth 100000 in
theorem c_L_isNeeded (l : Launch) (hl9 : l.stackTraces = false) (G : Gd) (σ : Mm) (sz : Nat) (a0 : Int32) (a1 : Int32) {out : (Int32 ⊕ Nat) × Mm} (ho : f_X9_isNeeded a0 a1 σ = some out) (pl : Nat → Int32) (hn : ∀ n, out.1 = .inr n → (n = 1 ∧ pl n = 1) ∨ (n = 2 ∧ pl n = 2)) : Met l yL_isNeeded ws2_isNeeded { frames := 9, cells := 2, slots := 12, locals := 176 } (va_Pc [.ref (G.2.2 154), .int a0, .int a1, .ref (G.2.2 207)] (PW G σ sz)) (Ql G sz (hgB out G) (hp pl out) out.2) 2 12 (AA G sz) := by
  refine Met.ofWH (cc := cL_isNeeded) (maxL := 5) (ret := (some .int)) (hh := [(0, 17, 20, 41), (0, 17, 24, 43)]) (by decide) rfl ?_
  intro p e s m args below meth c s₁ B0 hml hv
  obtain ⟨rfl, hpw⟩ := hv
  have hsz := hpw.1
  subst hsz
  obtain ⟨F, B⟩ := hpw.to
  have hx := B0.exec
  have hb := B0.bytes
  have hr := B0.returns
  have hts := atoms_spec (ws := ws2_isNeeded) B0.pre
  have htab := vx_table (x := yL_isNeeded) B0 (hts _ List.mem_cons_self)
  have hown : s.vm.findClass RL = some m.cls := findClass_of_methodNamed B0.named
  have hlocks := B0.notSynchronized
  have S : CallFix p m c cL_isNeeded 5 s _ ws2_isNeeded RL := ⟨hx, hb, hml, hown, hts⟩
  have hl := lv_entry [.ref (G.2.2 154), .int a0, .int a1, .ref (G.2.2 207)] (n := 5) (Nat.le_of_ble_eq_true rfl)
  rw [lg_entry_eq]
  generalize (lg_sl [.ref (G.2.2 154), .int a0, .int a1, .ref (G.2.2 207)] ++ List.replicate (5 - (lg_sl [.ref (G.2.2 154), .int a0, .int a1, .ref (G.2.2 207)]).length) Slot.unset).toArray = ls at hl ⊢
  have hl : lv_has ls 5 [(0, .ref (G.2.2 154)), (1, .int a0), (2, .int a1), (3, .ref (G.2.2 207))] := hl
  refine lv_aload_n hx hb dL_isNeeded_0 rfl (lv_at hl 3 rfl) ?_
  refine lv_iconst (v := 0) hx hb dL_isNeeded_1 (by decide) ?_
  refine lv_aload_n hx hb dL_isNeeded_2 rfl (lv_at hl 0 rfl) ?_
  refine lv_iload_n hx hb dL_isNeeded_3 rfl (lv_at hl 1 rfl) ?_
  refine lv_iload_n hx hb dL_isNeeded_4 rfl (lv_at hl 2 rfl) ?_
  refine h_call (As := [.int a0, .int a1]) (rest := [.int 0, .ref (G.2.2 207)]) S F B (c_X9_isNeeded l hl9 G σ _ a0 a1 ho) (kq (by decide) : kd 154 = 7 ∧ 154 < NN) rfl rfl (cwV 2 hts (goodIn_more gL_isNeeded_X9_isNeeded) rfl rfl rfl (by decide +kernel) ⟨Nat.le_of_ble_eq_true rfl, Nat.le_of_ble_eq_true rfl⟩) rfl hl.1 rfl (Nat.le_of_ble_eq_true rfl) dL_isNeeded_5 ⟨Nat.le_of_ble_eq_true rfl, Nat.le_of_ble_eq_true rfl⟩ (fun k q9 ce H locs hk B hce hcv hcl => ?_) (fun v H locs hv B => ?_)
  · rw [hp_r pl hk, hgB_r hk]
    rcases hn k hk with ⟨rfl, h2⟩ | ⟨rfl, h2⟩ <;> rw [h2]
    · refine h_catch (k := 1) (hp := 20) S F [] ⟨0, 17, 20, 41⟩ [⟨0, 17, 24, 43⟩] htab (fun _ h => (nomatch h)) rfl (by decide) rfl (by decide +kernel) (by decide) hce hcv hcl ?_
      refine lv_astore hx hb dL_isNeeded_20 hl (by decide) rfl (fun ls hl => ?_)
      refine lv_iconst (v := 1) hx hb dL_isNeeded_22 (by decide) ?_
      exact e_l B (fun _ => rfl) hx hb hr hlocks rfl dL_isNeeded_23
    · refine h_catch (k := 2) (hp := 24) S F [⟨0, 17, 20, 41⟩] ⟨0, 17, 24, 43⟩ [] htab (fun z hz => by
        have hz := List.mem_singleton.mp hz
        subst hz
        exact Or.inr ⟨by decide, exn 1, S.2.2.2.2 _ (show Cond.classLink RL 41 (exn 1) ∈ _ by decide +kernel), F.ncs (exn 2, exn 1) (by decide)⟩) rfl (by decide) rfl (by decide +kernel) (by decide) hce hcv hcl ?_
      refine lv_astore hx hb dL_isNeeded_24 hl (by decide) rfl (fun ls hl => ?_)
      refine lv_iconst (v := 2) hx hb dL_isNeeded_26 (by decide) ?_
      exact e_l B (fun _ => rfl) hx hb hr hlocks rfl dL_isNeeded_27
  · rw [hp_l pl hv, hgB_l hv]
    refine lv_if_eq (tgt := 15) hx hb dL_isNeeded_8 (by decide) (fun c1 => ?_) (fun c1 => ?_)
    · rw [if_pos c1]
      refine lv_lconst (v := 0) hx hb dL_isNeeded_15 (by decide) ?_
      refine r_last S F B dL_isNeeded_16 (fun H locs B => ?_)
      refine lv_goto (tgt := 28) hx hb dL_isNeeded_17 (by decide) ?_
      refine lv_iconst (v := 0) hx hb dL_isNeeded_28 (by decide) ?_
      exact e_l B gL_AA hx hb hr hlocks rfl dL_isNeeded_29
    · rw [if_neg c1]
      refine lv_lconst (v := 1) hx hb dL_isNeeded_11 (by decide) ?_
      refine lv_goto (tgt := 16) hx hb dL_isNeeded_12 (by decide) ?_
      refine r_last S F B dL_isNeeded_16 (fun H locs B => ?_)
      refine lv_goto (tgt := 28) hx hb dL_isNeeded_17 (by decide) ?_
      refine lv_iconst (v := 0) hx hb dL_isNeeded_28 (by decide) ?_
      exact e_l B gL_AA hx hb hr hlocks rfl dL_isNeeded_29

def ws2_closesIn : List Cond := wsL_closesIn ++ [Cond.classLink RL 41 "java/lang/IndexOutOfBoundsException", Cond.classLink RL 43 "java/util/NoSuchElementException"]
set_option maxHeartbeats 4000000 in
set_option maxRecDepth 100000 in
theorem c_L_closesIn (l : Launch) (hl9 : l.stackTraces = false) (G : Gd) (σ : Mm) (sz : Nat) (a0 : Int32) (a1 : Int32) {out : (Int32 ⊕ Nat) × Mm} (ho : f_X9_closesIn a0 a1 σ = some out) (pl : Nat → Int32) (hn : ∀ n, out.1 = .inr n → (n = 1 ∧ pl n = 1) ∨ (n = 2 ∧ pl n = 2)) : Met l yL_closesIn ws2_closesIn { frames := 9, cells := 2, slots := 12, locals := 176 } (va_Pc [.ref (G.2.2 154), .int a0, .int a1, .ref (G.2.2 207)] (PW G σ sz)) (Ql G sz (hgL out G) (hp pl out) out.2) 2 12 (AA G sz) := by
  refine Met.ofWH (cc := cL_closesIn) (maxL := 5) (ret := (some .int)) (hh := [(0, 10, 13, 41), (0, 10, 17, 43)]) (by decide) rfl ?_
  intro p e s m args below meth c s₁ B0 hml hv
  obtain ⟨rfl, hpw⟩ := hv
  have hsz := hpw.1
  subst hsz
  obtain ⟨F, B⟩ := hpw.to
  have hx := B0.exec
  have hb := B0.bytes
  have hr := B0.returns
  have hts := atoms_spec (ws := ws2_closesIn) B0.pre
  have htab := vx_table (x := yL_closesIn) B0 (hts _ List.mem_cons_self)
  have hown : s.vm.findClass RL = some m.cls := findClass_of_methodNamed B0.named
  have hlocks := B0.notSynchronized
  have S : CallFix p m c cL_closesIn 5 s _ ws2_closesIn RL := ⟨hx, hb, hml, hown, hts⟩
  have hl := lv_entry [.ref (G.2.2 154), .int a0, .int a1, .ref (G.2.2 207)] (n := 5) (Nat.le_of_ble_eq_true rfl)
  rw [lg_entry_eq]
  generalize (lg_sl [.ref (G.2.2 154), .int a0, .int a1, .ref (G.2.2 207)] ++ List.replicate (5 - (lg_sl [.ref (G.2.2 154), .int a0, .int a1, .ref (G.2.2 207)]).length) Slot.unset).toArray = ls at hl ⊢
  have hl : lv_has ls 5 [(0, .ref (G.2.2 154)), (1, .int a0), (2, .int a1), (3, .ref (G.2.2 207))] := hl
  refine lv_aload_n hx hb dL_closesIn_0 rfl (lv_at hl 3 rfl) ?_
  refine lv_iconst (v := 0) hx hb dL_closesIn_1 (by decide) ?_
  refine lv_aload_n hx hb dL_closesIn_2 rfl (lv_at hl 0 rfl) ?_
  refine lv_iload_n hx hb dL_closesIn_3 rfl (lv_at hl 1 rfl) ?_
  refine lv_iload_n hx hb dL_closesIn_4 rfl (lv_at hl 2 rfl) ?_
  refine h_call (As := [.int a0, .int a1]) (rest := [.int 0, .ref (G.2.2 207)]) S F B (c_X9_closesIn l hl9 G σ _ a0 a1 ho) (kq (by decide) : kd 154 = 7 ∧ 154 < NN) rfl rfl (cwV 2 hts (goodIn_more gL_closesIn_X9_closesIn) rfl rfl rfl (by decide +kernel) ⟨Nat.le_of_ble_eq_true rfl, Nat.le_of_ble_eq_true rfl⟩) rfl hl.1 rfl (Nat.le_of_ble_eq_true rfl) dL_closesIn_5 ⟨Nat.le_of_ble_eq_true rfl, Nat.le_of_ble_eq_true rfl⟩ (fun k q9 ce H locs hk B hce hcv hcl => ?_) (fun v H locs hv B => ?_)
  · rw [hp_r pl hk, hgL_r hk]
    rcases hn k hk with ⟨rfl, h2⟩ | ⟨rfl, h2⟩ <;> rw [h2]
    · refine h_catch (k := 1) (hp := 13) S F [] ⟨0, 10, 13, 41⟩ [⟨0, 10, 17, 43⟩] htab (fun _ h => (nomatch h)) rfl (by decide) rfl (by decide +kernel) (by decide) hce hcv hcl ?_
      refine lv_astore hx hb dL_closesIn_13 hl (by decide) rfl (fun ls hl => ?_)
      refine lv_iconst (v := 1) hx hb dL_closesIn_15 (by decide) ?_
      exact e_l B (fun _ => rfl) hx hb hr hlocks rfl dL_closesIn_16
    · refine h_catch (k := 2) (hp := 17) S F [⟨0, 10, 13, 41⟩] ⟨0, 10, 17, 43⟩ [] htab (fun z hz => by
        have hz := List.mem_singleton.mp hz
        subst hz
        exact Or.inr ⟨by decide, exn 1, S.2.2.2.2 _ (show Cond.classLink RL 41 (exn 1) ∈ _ by decide +kernel), F.ncs (exn 2, exn 1) (by decide)⟩) rfl (by decide) rfl (by decide +kernel) (by decide) hce hcv hcl ?_
      refine lv_astore hx hb dL_closesIn_17 hl (by decide) rfl (fun ls hl => ?_)
      refine lv_iconst (v := 2) hx hb dL_closesIn_19 (by decide) ?_
      exact e_l B (fun _ => rfl) hx hb hr hlocks rfl dL_closesIn_20
  · rw [hp_l pl hv, hgL_l hv]
    refine lv_i2l hx hb dL_closesIn_8 rfl ?_
    refine r_last S F B dL_closesIn_9 (fun H locs B => ?_)
    refine lv_goto (tgt := 21) hx hb dL_closesIn_10 (by decide) ?_
    refine lv_iconst (v := 0) hx hb dL_closesIn_21 (by decide) ?_
    exact e_l B gL_AA hx hb hr hlocks rfl dL_closesIn_22

def ws2_gardenerOf : List Cond := wsL_gardenerOf ++ [Cond.classLink RL 41 "java/lang/IndexOutOfBoundsException", Cond.classLink RL 76 "java/lang/IllegalArgumentException"]
set_option maxHeartbeats 4000000 in
set_option maxRecDepth 100000 in
theorem c_L_gardenerOf (l : Launch) (hl9 : l.stackTraces = false) (G : Gd) (σ : Mm) (sz : Nat) (a0 : Int32) (a1 : Int32) {out : (Int32 ⊕ Nat) × Mm} (ho : f_X9_gardenerOf a0 a1 σ = some out) (pl : Nat → Int32) (hn : ∀ n, out.1 = .inr n → (n = 1 ∧ pl n = 1) ∨ (n = 3 ∧ pl n = 2)) : Met l yL_gardenerOf ws2_gardenerOf { frames := 8, cells := 2, slots := 12, locals := 155 } (va_Pc [.ref (G.2.2 154), .int a0, .int a1, .ref (G.2.2 207)] (PW G σ sz)) (Ql G sz (hgL out G) (hp pl out) out.2) 2 12 (AA G sz) := by
  refine Met.ofWH (cc := cL_gardenerOf) (maxL := 5) (ret := (some .int)) (hh := [(0, 10, 13, 41), (0, 10, 17, 76)]) (by decide) rfl ?_
  intro p e s m args below meth c s₁ B0 hml hv
  obtain ⟨rfl, hpw⟩ := hv
  have hsz := hpw.1
  subst hsz
  obtain ⟨F, B⟩ := hpw.to
  have hx := B0.exec
  have hb := B0.bytes
  have hr := B0.returns
  have hts := atoms_spec (ws := ws2_gardenerOf) B0.pre
  have htab := vx_table (x := yL_gardenerOf) B0 (hts _ List.mem_cons_self)
  have hown : s.vm.findClass RL = some m.cls := findClass_of_methodNamed B0.named
  have hlocks := B0.notSynchronized
  have S : CallFix p m c cL_gardenerOf 5 s _ ws2_gardenerOf RL := ⟨hx, hb, hml, hown, hts⟩
  have hl := lv_entry [.ref (G.2.2 154), .int a0, .int a1, .ref (G.2.2 207)] (n := 5) (Nat.le_of_ble_eq_true rfl)
  rw [lg_entry_eq]
  generalize (lg_sl [.ref (G.2.2 154), .int a0, .int a1, .ref (G.2.2 207)] ++ List.replicate (5 - (lg_sl [.ref (G.2.2 154), .int a0, .int a1, .ref (G.2.2 207)]).length) Slot.unset).toArray = ls at hl ⊢
  have hl : lv_has ls 5 [(0, .ref (G.2.2 154)), (1, .int a0), (2, .int a1), (3, .ref (G.2.2 207))] := hl
  refine lv_aload_n hx hb dL_gardenerOf_0 rfl (lv_at hl 3 rfl) ?_
  refine lv_iconst (v := 0) hx hb dL_gardenerOf_1 (by decide) ?_
  refine lv_aload_n hx hb dL_gardenerOf_2 rfl (lv_at hl 0 rfl) ?_
  refine lv_iload_n hx hb dL_gardenerOf_3 rfl (lv_at hl 1 rfl) ?_
  refine lv_iload_n hx hb dL_gardenerOf_4 rfl (lv_at hl 2 rfl) ?_
  refine h_call (As := [.int a0, .int a1]) (rest := [.int 0, .ref (G.2.2 207)]) S F B (c_X9_gardenerOf l hl9 G σ _ a0 a1 ho) (kq (by decide) : kd 154 = 7 ∧ 154 < NN) rfl rfl (cwV 2 hts (goodIn_more gL_gardenerOf_X9_gardenerOf) rfl rfl rfl (by decide +kernel) ⟨Nat.le_of_ble_eq_true rfl, Nat.le_of_ble_eq_true rfl⟩) rfl hl.1 rfl (Nat.le_of_ble_eq_true rfl) dL_gardenerOf_5 ⟨Nat.le_of_ble_eq_true rfl, Nat.le_of_ble_eq_true rfl⟩ (fun k q9 ce H locs hk B hce hcv hcl => ?_) (fun v H locs hv B => ?_)
  · rw [hp_r pl hk, hgL_r hk]
    rcases hn k hk with ⟨rfl, h2⟩ | ⟨rfl, h2⟩ <;> rw [h2]
    · refine h_catch (k := 1) (hp := 13) S F [] ⟨0, 10, 13, 41⟩ [⟨0, 10, 17, 76⟩] htab (fun _ h => (nomatch h)) rfl (by decide) rfl (by decide +kernel) (by decide) hce hcv hcl ?_
      refine lv_astore hx hb dL_gardenerOf_13 hl (by decide) rfl (fun ls hl => ?_)
      refine lv_iconst (v := 1) hx hb dL_gardenerOf_15 (by decide) ?_
      exact e_l B (fun _ => rfl) hx hb hr hlocks rfl dL_gardenerOf_16
    · refine h_catch (k := 3) (hp := 17) S F [⟨0, 10, 13, 41⟩] ⟨0, 10, 17, 76⟩ [] htab (fun z hz => by
        have hz := List.mem_singleton.mp hz
        subst hz
        exact Or.inr ⟨by decide, exn 1, S.2.2.2.2 _ (show Cond.classLink RL 41 (exn 1) ∈ _ by decide +kernel), F.ncs (exn 3, exn 1) (by decide)⟩) rfl (by decide) rfl (by decide +kernel) (by decide) hce hcv hcl ?_
      refine lv_astore hx hb dL_gardenerOf_17 hl (by decide) rfl (fun ls hl => ?_)
      refine lv_iconst (v := 2) hx hb dL_gardenerOf_19 (by decide) ?_
      exact e_l B (fun _ => rfl) hx hb hr hlocks rfl dL_gardenerOf_20
  · rw [hp_l pl hv, hgL_l hv]
    refine lv_i2l hx hb dL_gardenerOf_8 rfl ?_
    refine r_last S F B dL_gardenerOf_9 (fun H locs B => ?_)
    refine lv_goto (tgt := 21) hx hb dL_gardenerOf_10 (by decide) ?_
    refine lv_iconst (v := 0) hx hb dL_gardenerOf_21 (by decide) ?_
    exact e_l B gL_AA hx hb hr hlocks rfl dL_gardenerOf_22

def ws2_visitorOf : List Cond := wsL_visitorOf ++ [Cond.classLink RL 41 "java/lang/IndexOutOfBoundsException", Cond.classLink RL 76 "java/lang/IllegalArgumentException"]
set_option maxHeartbeats 4000000 in
set_option maxRecDepth 100000 in
theorem c_L_visitorOf (l : Launch) (hl9 : l.stackTraces = false) (G : Gd) (σ : Mm) (sz : Nat) (a0 : Int32) (a1 : Int32) {out : (Int32 ⊕ Nat) × Mm} (ho : f_X9_visitorOf a0 a1 σ = some out) (pl : Nat → Int32) (hn : ∀ n, out.1 = .inr n → (n = 1 ∧ pl n = 1) ∨ (n = 3 ∧ pl n = 2)) : Met l yL_visitorOf ws2_visitorOf { frames := 8, cells := 2, slots := 12, locals := 155 } (va_Pc [.ref (G.2.2 154), .int a0, .int a1, .ref (G.2.2 207)] (PW G σ sz)) (Ql G sz (hgL out G) (hp pl out) out.2) 2 12 (AA G sz) := by
  refine Met.ofWH (cc := cL_visitorOf) (maxL := 5) (ret := (some .int)) (hh := [(0, 10, 13, 41), (0, 10, 17, 76)]) (by decide) rfl ?_
  intro p e s m args below meth c s₁ B0 hml hv
  obtain ⟨rfl, hpw⟩ := hv
  have hsz := hpw.1
  subst hsz
  obtain ⟨F, B⟩ := hpw.to
  have hx := B0.exec
  have hb := B0.bytes
  have hr := B0.returns
  have hts := atoms_spec (ws := ws2_visitorOf) B0.pre
  have htab := vx_table (x := yL_visitorOf) B0 (hts _ List.mem_cons_self)
  have hown : s.vm.findClass RL = some m.cls := findClass_of_methodNamed B0.named
  have hlocks := B0.notSynchronized
  have S : CallFix p m c cL_visitorOf 5 s _ ws2_visitorOf RL := ⟨hx, hb, hml, hown, hts⟩
  have hl := lv_entry [.ref (G.2.2 154), .int a0, .int a1, .ref (G.2.2 207)] (n := 5) (Nat.le_of_ble_eq_true rfl)
  rw [lg_entry_eq]
  generalize (lg_sl [.ref (G.2.2 154), .int a0, .int a1, .ref (G.2.2 207)] ++ List.replicate (5 - (lg_sl [.ref (G.2.2 154), .int a0, .int a1, .ref (G.2.2 207)]).length) Slot.unset).toArray = ls at hl ⊢
  have hl : lv_has ls 5 [(0, .ref (G.2.2 154)), (1, .int a0), (2, .int a1), (3, .ref (G.2.2 207))] := hl
  refine lv_aload_n hx hb dL_visitorOf_0 rfl (lv_at hl 3 rfl) ?_
  refine lv_iconst (v := 0) hx hb dL_visitorOf_1 (by decide) ?_
  refine lv_aload_n hx hb dL_visitorOf_2 rfl (lv_at hl 0 rfl) ?_
  refine lv_iload_n hx hb dL_visitorOf_3 rfl (lv_at hl 1 rfl) ?_
  refine lv_iload_n hx hb dL_visitorOf_4 rfl (lv_at hl 2 rfl) ?_
  refine h_call (As := [.int a0, .int a1]) (rest := [.int 0, .ref (G.2.2 207)]) S F B (c_X9_visitorOf l hl9 G σ _ a0 a1 ho) (kq (by decide) : kd 154 = 7 ∧ 154 < NN) rfl rfl (cwV 2 hts (goodIn_more gL_visitorOf_X9_visitorOf) rfl rfl rfl (by decide +kernel) ⟨Nat.le_of_ble_eq_true rfl, Nat.le_of_ble_eq_true rfl⟩) rfl hl.1 rfl (Nat.le_of_ble_eq_true rfl) dL_visitorOf_5 ⟨Nat.le_of_ble_eq_true rfl, Nat.le_of_ble_eq_true rfl⟩ (fun k q9 ce H locs hk B hce hcv hcl => ?_) (fun v H locs hv B => ?_)
  · rw [hp_r pl hk, hgL_r hk]
    rcases hn k hk with ⟨rfl, h2⟩ | ⟨rfl, h2⟩ <;> rw [h2]
    · refine h_catch (k := 1) (hp := 13) S F [] ⟨0, 10, 13, 41⟩ [⟨0, 10, 17, 76⟩] htab (fun _ h => (nomatch h)) rfl (by decide) rfl (by decide +kernel) (by decide) hce hcv hcl ?_
      refine lv_astore hx hb dL_visitorOf_13 hl (by decide) rfl (fun ls hl => ?_)
      refine lv_iconst (v := 1) hx hb dL_visitorOf_15 (by decide) ?_
      exact e_l B (fun _ => rfl) hx hb hr hlocks rfl dL_visitorOf_16
    · refine h_catch (k := 3) (hp := 17) S F [⟨0, 10, 13, 41⟩] ⟨0, 10, 17, 76⟩ [] htab (fun z hz => by
        have hz := List.mem_singleton.mp hz
        subst hz
        exact Or.inr ⟨by decide, exn 1, S.2.2.2.2 _ (show Cond.classLink RL 41 (exn 1) ∈ _ by decide +kernel), F.ncs (exn 3, exn 1) (by decide)⟩) rfl (by decide) rfl (by decide +kernel) (by decide) hce hcv hcl ?_
      refine lv_astore hx hb dL_visitorOf_17 hl (by decide) rfl (fun ls hl => ?_)
      refine lv_iconst (v := 2) hx hb dL_visitorOf_19 (by decide) ?_
      exact e_l B (fun _ => rfl) hx hb hr hlocks rfl dL_visitorOf_20
  · rw [hp_l pl hv, hgL_l hv]
    refine lv_i2l hx hb dL_visitorOf_8 rfl ?_
    refine r_last S F B dL_visitorOf_9 (fun H locs B => ?_)
    refine lv_goto (tgt := 21) hx hb dL_visitorOf_10 (by decide) ?_
    refine lv_iconst (v := 0) hx hb dL_visitorOf_21 (by decide) ?_
    exact e_l B gL_AA hx hb hr hlocks rfl dL_visitorOf_22

def ws2_wouldPay : List Cond := wsL_wouldPay ++ [Cond.classLink RL 41 "java/lang/IndexOutOfBoundsException", Cond.classLink RL 43 "java/util/NoSuchElementException"]
set_option maxHeartbeats 4000000 in
set_option maxRecDepth 100000 in
theorem c_L_wouldPay (l : Launch) (hl9 : l.stackTraces = false) (G : Gd) (σ : Mm) (sz : Nat) (a0 : Int32) {out : (Int32 ⊕ Nat) × Mm} (ho : f_X9_wouldPay a0 σ = some out) (pl : Nat → Int32) (hn : ∀ n, out.1 = .inr n → (n = 1 ∧ pl n = 1) ∨ (n = 2 ∧ pl n = 2)) : Met l yL_wouldPay ws2_wouldPay { frames := 8, cells := 2, slots := 12, locals := 156 } (va_Pc [.ref (G.2.2 154), .int a0, .ref (G.2.2 207)] (PW G σ sz)) (Ql G sz (hgL out G) (hp pl out) out.2) 2 12 (AA G sz) := by
  refine Met.ofWH (cc := cL_wouldPay) (maxL := 4) (ret := (some .int)) (hh := [(0, 9, 12, 41), (0, 9, 15, 43)]) (by decide) rfl ?_
  intro p e s m args below meth c s₁ B0 hml hv
  obtain ⟨rfl, hpw⟩ := hv
  have hsz := hpw.1
  subst hsz
  obtain ⟨F, B⟩ := hpw.to
  have hx := B0.exec
  have hb := B0.bytes
  have hr := B0.returns
  have hts := atoms_spec (ws := ws2_wouldPay) B0.pre
  have htab := vx_table (x := yL_wouldPay) B0 (hts _ List.mem_cons_self)
  have hown : s.vm.findClass RL = some m.cls := findClass_of_methodNamed B0.named
  have hlocks := B0.notSynchronized
  have S : CallFix p m c cL_wouldPay 4 s _ ws2_wouldPay RL := ⟨hx, hb, hml, hown, hts⟩
  have hl := lv_entry [.ref (G.2.2 154), .int a0, .ref (G.2.2 207)] (n := 4) (Nat.le_of_ble_eq_true rfl)
  rw [lg_entry_eq]
  generalize (lg_sl [.ref (G.2.2 154), .int a0, .ref (G.2.2 207)] ++ List.replicate (4 - (lg_sl [.ref (G.2.2 154), .int a0, .ref (G.2.2 207)]).length) Slot.unset).toArray = ls at hl ⊢
  have hl : lv_has ls 4 [(0, .ref (G.2.2 154)), (1, .int a0), (2, .ref (G.2.2 207))] := hl
  refine lv_aload_n hx hb dL_wouldPay_0 rfl (lv_at hl 2 rfl) ?_
  refine lv_iconst (v := 0) hx hb dL_wouldPay_1 (by decide) ?_
  refine lv_aload_n hx hb dL_wouldPay_2 rfl (lv_at hl 0 rfl) ?_
  refine lv_iload_n hx hb dL_wouldPay_3 rfl (lv_at hl 1 rfl) ?_
  refine h_call (As := [.int a0]) (rest := [.int 0, .ref (G.2.2 207)]) S F B (c_X9_wouldPay l hl9 G σ _ a0 ho) (kq (by decide) : kd 154 = 7 ∧ 154 < NN) rfl rfl (cwV 1 hts (goodIn_more gL_wouldPay_X9_wouldPay) rfl rfl rfl (by decide +kernel) ⟨Nat.le_of_ble_eq_true rfl, Nat.le_of_ble_eq_true rfl⟩) rfl hl.1 rfl (Nat.le_of_ble_eq_true rfl) dL_wouldPay_4 ⟨Nat.le_of_ble_eq_true rfl, Nat.le_of_ble_eq_true rfl⟩ (fun k q9 ce H locs hk B hce hcv hcl => ?_) (fun v H locs hv B => ?_)
  · rw [hp_r pl hk, hgL_r hk]
    rcases hn k hk with ⟨rfl, h2⟩ | ⟨rfl, h2⟩ <;> rw [h2]
    · refine h_catch (k := 1) (hp := 12) S F [] ⟨0, 9, 12, 41⟩ [⟨0, 9, 15, 43⟩] htab (fun _ h => (nomatch h)) rfl (by decide) rfl (by decide +kernel) (by decide) hce hcv hcl ?_
      refine lv_astore_n hx hb dL_wouldPay_12 rfl hl (by decide) rfl (fun ls hl => ?_)
      refine lv_iconst (v := 1) hx hb dL_wouldPay_13 (by decide) ?_
      exact e_l B (fun _ => rfl) hx hb hr hlocks rfl dL_wouldPay_14
    · refine h_catch (k := 2) (hp := 15) S F [⟨0, 9, 12, 41⟩] ⟨0, 9, 15, 43⟩ [] htab (fun z hz => by
        have hz := List.mem_singleton.mp hz
        subst hz
        exact Or.inr ⟨by decide, exn 1, S.2.2.2.2 _ (show Cond.classLink RL 41 (exn 1) ∈ _ by decide +kernel), F.ncs (exn 2, exn 1) (by decide)⟩) rfl (by decide) rfl (by decide +kernel) (by decide) hce hcv hcl ?_
      refine lv_astore_n hx hb dL_wouldPay_15 rfl hl (by decide) rfl (fun ls hl => ?_)
      refine lv_iconst (v := 2) hx hb dL_wouldPay_16 (by decide) ?_
      exact e_l B (fun _ => rfl) hx hb hr hlocks rfl dL_wouldPay_17
  · rw [hp_l pl hv, hgL_l hv]
    refine lv_i2l hx hb dL_wouldPay_7 rfl ?_
    refine r_last S F B dL_wouldPay_8 (fun H locs B => ?_)
    refine lv_goto (tgt := 18) hx hb dL_wouldPay_9 (by decide) ?_
    refine lv_iconst (v := 0) hx hb dL_wouldPay_18 (by decide) ?_
    exact e_l B gL_AA hx hb hr hlocks rfl dL_wouldPay_19

set_option maxHeartbeats 4000000 in
set_option maxRecDepth 100000 in
theorem c_L_owed (l : Launch) (hl9 : l.stackTraces = false) (G : Gd) (σ : Mm) (sz : Nat) (a0 : Int32) {out : (Int32 ⊕ Nat) × Mm} (ho : f_X9_owed a0 σ = some out) (pl : Nat → Int32) (hn : ∀ n, out.1 = .inr n → (n = 1 ∧ pl n = 1)) : Met l yL_owed wsL_owed { frames := 8, cells := 1, slots := 6, locals := 153 } (va_Pc [.ref (G.2.2 154), .int a0, .ref (G.2.2 207)] (PW G σ sz)) (Ql G sz (hgL out G) (hp pl out) out.2) 1 6 (AA G sz) := by
  refine Met.ofWH (cc := cL_owed) (maxL := 4) (ret := (some .int)) (hh := [(0, 9, 12, 41)]) (by decide) rfl ?_
  intro p e s m args below meth c s₁ B0 hml hv
  obtain ⟨rfl, hpw⟩ := hv
  have hsz := hpw.1
  subst hsz
  obtain ⟨F, B⟩ := hpw.to
  have hx := B0.exec
  have hb := B0.bytes
  have hr := B0.returns
  have hts := atoms_spec (ws := wsL_owed) B0.pre
  have htab := vx_table (x := yL_owed) B0 (hts _ List.mem_cons_self)
  have hown : s.vm.findClass RL = some m.cls := findClass_of_methodNamed B0.named
  have hlocks := B0.notSynchronized
  have S : CallFix p m c cL_owed 4 s _ wsL_owed RL := ⟨hx, hb, hml, hown, hts⟩
  have hl := lv_entry [.ref (G.2.2 154), .int a0, .ref (G.2.2 207)] (n := 4) (Nat.le_of_ble_eq_true rfl)
  rw [lg_entry_eq]
  generalize (lg_sl [.ref (G.2.2 154), .int a0, .ref (G.2.2 207)] ++ List.replicate (4 - (lg_sl [.ref (G.2.2 154), .int a0, .ref (G.2.2 207)]).length) Slot.unset).toArray = ls at hl ⊢
  have hl : lv_has ls 4 [(0, .ref (G.2.2 154)), (1, .int a0), (2, .ref (G.2.2 207))] := hl
  refine lv_aload_n hx hb dL_owed_0 rfl (lv_at hl 2 rfl) ?_
  refine lv_iconst (v := 0) hx hb dL_owed_1 (by decide) ?_
  refine lv_aload_n hx hb dL_owed_2 rfl (lv_at hl 0 rfl) ?_
  refine lv_iload_n hx hb dL_owed_3 rfl (lv_at hl 1 rfl) ?_
  refine h_call (As := [.int a0]) (rest := [.int 0, .ref (G.2.2 207)]) S F B (c_X9_owed l hl9 G σ _ a0 ho) (kq (by decide) : kd 154 = 7 ∧ 154 < NN) rfl rfl (cwV 1 hts gL_owed_X9_owed rfl rfl rfl (by decide +kernel) ⟨Nat.le_of_ble_eq_true rfl, Nat.le_of_ble_eq_true rfl⟩) rfl hl.1 rfl (Nat.le_of_ble_eq_true rfl) dL_owed_4 ⟨Nat.le_of_ble_eq_true rfl, Nat.le_of_ble_eq_true rfl⟩ (fun k q9 ce H locs hk B hce hcv hcl => ?_) (fun v H locs hv B => ?_)
  · rw [hp_r pl hk, hgL_r hk]
    obtain ⟨rfl, h2⟩ := hn k hk
    rw [h2]
    refine h_catch (k := 1) (hp := 12) S F [] ⟨0, 9, 12, 41⟩ [] htab (fun _ h => (nomatch h)) rfl (by decide) rfl (by decide +kernel) (by decide) hce hcv hcl ?_
    refine lv_astore_n hx hb dL_owed_12 rfl hl (by decide) rfl (fun ls hl => ?_)
    refine lv_iconst (v := 1) hx hb dL_owed_13 (by decide) ?_
    exact e_l B (fun _ => rfl) hx hb hr hlocks rfl dL_owed_14
  · rw [hp_l pl hv, hgL_l hv]
    refine lv_i2l hx hb dL_owed_7 rfl ?_
    refine r_last S F B dL_owed_8 (fun H locs B => ?_)
    refine lv_goto (tgt := 15) hx hb dL_owed_9 (by decide) ?_
    refine lv_iconst (v := 0) hx hb dL_owed_15 (by decide) ?_
    exact e_l B gL_AA hx hb hr hlocks rfl dL_owed_16

def ws2_ranked : List Cond := wsL_ranked ++ [Cond.classLink RL 76 "java/lang/IllegalArgumentException", Cond.classLink RL 43 "java/util/NoSuchElementException"]
set_option maxHeartbeats 4000000 in
set_option maxRecDepth 100000 in
theorem c_L_ranked (l : Launch) (hl9 : l.stackTraces = false) (G : Gd) (σ : Mm) (sz : Nat) (a0 : Int32) (a1 : Int32) {out : (Int32 ⊕ Nat) × Mm} (ho : f_X9_ranked a0 a1 σ = some out) (pl : Nat → Int32) (hn : ∀ n, out.1 = .inr n → (n = 3 ∧ pl n = 1) ∨ (n = 2 ∧ pl n = 2)) : Met l yL_ranked ws2_ranked { frames := 8, cells := 1, slots := 6, locals := 155 } (va_Pc [.ref (G.2.2 154), .int a0, .int a1, .ref (G.2.2 207)] (PW G σ sz)) (Ql G sz (hgL out G) (hp pl out) out.2) 1 6 (AA G sz) := by
  refine Met.ofWH (cc := cL_ranked) (maxL := 5) (ret := (some .int)) (hh := [(0, 10, 13, 76), (0, 10, 17, 43)]) (by decide) rfl ?_
  intro p e s m args below meth c s₁ B0 hml hv
  obtain ⟨rfl, hpw⟩ := hv
  have hsz := hpw.1
  subst hsz
  obtain ⟨F, B⟩ := hpw.to
  have hx := B0.exec
  have hb := B0.bytes
  have hr := B0.returns
  have hts := atoms_spec (ws := ws2_ranked) B0.pre
  have htab := vx_table (x := yL_ranked) B0 (hts _ List.mem_cons_self)
  have hown : s.vm.findClass RL = some m.cls := findClass_of_methodNamed B0.named
  have hlocks := B0.notSynchronized
  have S : CallFix p m c cL_ranked 5 s _ ws2_ranked RL := ⟨hx, hb, hml, hown, hts⟩
  have hl := lv_entry [.ref (G.2.2 154), .int a0, .int a1, .ref (G.2.2 207)] (n := 5) (Nat.le_of_ble_eq_true rfl)
  rw [lg_entry_eq]
  generalize (lg_sl [.ref (G.2.2 154), .int a0, .int a1, .ref (G.2.2 207)] ++ List.replicate (5 - (lg_sl [.ref (G.2.2 154), .int a0, .int a1, .ref (G.2.2 207)]).length) Slot.unset).toArray = ls at hl ⊢
  have hl : lv_has ls 5 [(0, .ref (G.2.2 154)), (1, .int a0), (2, .int a1), (3, .ref (G.2.2 207))] := hl
  refine lv_aload_n hx hb dL_ranked_0 rfl (lv_at hl 3 rfl) ?_
  refine lv_iconst (v := 0) hx hb dL_ranked_1 (by decide) ?_
  refine lv_aload_n hx hb dL_ranked_2 rfl (lv_at hl 0 rfl) ?_
  refine lv_iload_n hx hb dL_ranked_3 rfl (lv_at hl 1 rfl) ?_
  refine lv_iload_n hx hb dL_ranked_4 rfl (lv_at hl 2 rfl) ?_
  refine h_call (As := [.int a0, .int a1]) (rest := [.int 0, .ref (G.2.2 207)]) S F B (c_X9_ranked l hl9 G σ _ a0 a1 ho) (kq (by decide) : kd 154 = 7 ∧ 154 < NN) rfl rfl (cwV 2 hts (goodIn_more gL_ranked_X9_ranked) rfl rfl rfl (by decide +kernel) ⟨Nat.le_of_ble_eq_true rfl, Nat.le_of_ble_eq_true rfl⟩) rfl hl.1 rfl (Nat.le_of_ble_eq_true rfl) dL_ranked_5 ⟨Nat.le_of_ble_eq_true rfl, Nat.le_of_ble_eq_true rfl⟩ (fun k q9 ce H locs hk B hce hcv hcl => ?_) (fun v H locs hv B => ?_)
  · rw [hp_r pl hk, hgL_r hk]
    rcases hn k hk with ⟨rfl, h2⟩ | ⟨rfl, h2⟩ <;> rw [h2]
    · refine h_catch (k := 3) (hp := 13) S F [] ⟨0, 10, 13, 76⟩ [⟨0, 10, 17, 43⟩] htab (fun _ h => (nomatch h)) rfl (by decide) rfl (by decide +kernel) (by decide) hce hcv hcl ?_
      refine lv_astore hx hb dL_ranked_13 hl (by decide) rfl (fun ls hl => ?_)
      refine lv_iconst (v := 1) hx hb dL_ranked_15 (by decide) ?_
      exact e_l B (fun _ => rfl) hx hb hr hlocks rfl dL_ranked_16
    · refine h_catch (k := 2) (hp := 17) S F [⟨0, 10, 13, 76⟩] ⟨0, 10, 17, 43⟩ [] htab (fun z hz => by
        have hz := List.mem_singleton.mp hz
        subst hz
        exact Or.inr ⟨by decide, exn 3, S.2.2.2.2 _ (show Cond.classLink RL 76 (exn 3) ∈ _ by decide +kernel), F.ncs (exn 2, exn 3) (by decide)⟩) rfl (by decide) rfl (by decide +kernel) (by decide) hce hcv hcl ?_
      refine lv_astore hx hb dL_ranked_17 hl (by decide) rfl (fun ls hl => ?_)
      refine lv_iconst (v := 2) hx hb dL_ranked_19 (by decide) ?_
      exact e_l B (fun _ => rfl) hx hb hr hlocks rfl dL_ranked_20
  · rw [hp_l pl hv, hgL_l hv]
    refine lv_i2l hx hb dL_ranked_8 rfl ?_
    refine r_last S F B dL_ranked_9 (fun H locs B => ?_)
    refine lv_goto (tgt := 21) hx hb dL_ranked_10 (by decide) ?_
    refine lv_iconst (v := 0) hx hb dL_ranked_21 (by decide) ?_
    exact e_l B gL_AA hx hb hr hlocks rfl dL_ranked_22

set_option maxHeartbeats 4000000 in
set_option maxRecDepth 100000 in
theorem c_L_richest (l : Launch) (hl9 : l.stackTraces = false) (G : Gd) (σ : Mm) (sz : Nat) (a0 : Int32) {out : (Int32 ⊕ Nat) × Mm} (ho : f_X9_richest a0 σ = some out) (pl : Nat → Int32) (hn : ∀ n, out.1 = .inr n → (n = 2 ∧ pl n = 1)) : Met l yL_richest wsL_richest { frames := 7, cells := 1, slots := 6, locals := 167 } (va_Pc [.ref (G.2.2 154), .int a0, .ref (G.2.2 207)] (PW G σ sz)) (Ql G sz (hgL out G) (hp pl out) out.2) 1 6 (AA G sz) := by
  refine Met.ofWH (cc := cL_richest) (maxL := 4) (ret := (some .int)) (hh := [(0, 9, 12, 43)]) (by decide) rfl ?_
  intro p e s m args below meth c s₁ B0 hml hv
  obtain ⟨rfl, hpw⟩ := hv
  have hsz := hpw.1
  subst hsz
  obtain ⟨F, B⟩ := hpw.to
  have hx := B0.exec
  have hb := B0.bytes
  have hr := B0.returns
  have hts := atoms_spec (ws := wsL_richest) B0.pre
  have htab := vx_table (x := yL_richest) B0 (hts _ List.mem_cons_self)
  have hown : s.vm.findClass RL = some m.cls := findClass_of_methodNamed B0.named
  have hlocks := B0.notSynchronized
  have S : CallFix p m c cL_richest 4 s _ wsL_richest RL := ⟨hx, hb, hml, hown, hts⟩
  have hl := lv_entry [.ref (G.2.2 154), .int a0, .ref (G.2.2 207)] (n := 4) (Nat.le_of_ble_eq_true rfl)
  rw [lg_entry_eq]
  generalize (lg_sl [.ref (G.2.2 154), .int a0, .ref (G.2.2 207)] ++ List.replicate (4 - (lg_sl [.ref (G.2.2 154), .int a0, .ref (G.2.2 207)]).length) Slot.unset).toArray = ls at hl ⊢
  have hl : lv_has ls 4 [(0, .ref (G.2.2 154)), (1, .int a0), (2, .ref (G.2.2 207))] := hl
  refine lv_aload_n hx hb dL_richest_0 rfl (lv_at hl 2 rfl) ?_
  refine lv_iconst (v := 0) hx hb dL_richest_1 (by decide) ?_
  refine lv_aload_n hx hb dL_richest_2 rfl (lv_at hl 0 rfl) ?_
  refine lv_iload_n hx hb dL_richest_3 rfl (lv_at hl 1 rfl) ?_
  refine h_call (As := [.int a0]) (rest := [.int 0, .ref (G.2.2 207)]) S F B (c_X9_richest l hl9 G σ _ a0 ho) (kq (by decide) : kd 154 = 7 ∧ 154 < NN) rfl rfl (cwV 1 hts gL_richest_X9_richest rfl rfl rfl (by decide +kernel) ⟨Nat.le_of_ble_eq_true rfl, Nat.le_of_ble_eq_true rfl⟩) rfl hl.1 rfl (Nat.le_of_ble_eq_true rfl) dL_richest_4 ⟨Nat.le_of_ble_eq_true rfl, Nat.le_of_ble_eq_true rfl⟩ (fun k q9 ce H locs hk B hce hcv hcl => ?_) (fun v H locs hv B => ?_)
  · rw [hp_r pl hk, hgL_r hk]
    obtain ⟨rfl, h2⟩ := hn k hk
    rw [h2]
    refine h_catch (k := 2) (hp := 12) S F [] ⟨0, 9, 12, 43⟩ [] htab (fun _ h => (nomatch h)) rfl (by decide) rfl (by decide +kernel) (by decide) hce hcv hcl ?_
    refine lv_astore_n hx hb dL_richest_12 rfl hl (by decide) rfl (fun ls hl => ?_)
    refine lv_iconst (v := 1) hx hb dL_richest_13 (by decide) ?_
    exact e_l B (fun _ => rfl) hx hb hr hlocks rfl dL_richest_14
  · rw [hp_l pl hv, hgL_l hv]
    refine lv_i2l hx hb dL_richest_7 rfl ?_
    refine r_last S F B dL_richest_8 (fun H locs B => ?_)
    refine lv_goto (tgt := 15) hx hb dL_richest_9 (by decide) ?_
    refine lv_iconst (v := 0) hx hb dL_richest_15 (by decide) ?_
    exact e_l B gL_AA hx hb hr hlocks rfl dL_richest_16

set_option maxHeartbeats 4000000 in
set_option maxRecDepth 100000 in
theorem c_L_append (l : Launch) (hl9 : l.stackTraces = false) (G : Gd) (σ : Mm) (sz : Nat) (a0 : Int32) {out : (Int32 ⊕ Nat) × Mm} (ho : f_X9_append a0 σ = some out) (pl : Nat → Int32) (hn : ∀ n, out.1 = .inr n → (n = 4 ∧ pl n = 1)) : Met l yL_append wsL_append { frames := 7, cells := 1, slots := 6, locals := 131 } (va_Pc [.ref (G.2.2 154), .int a0, .ref (G.2.2 207)] (PW G σ sz)) (Ql G sz (hgL out G) (hp pl out) out.2) 1 6 (AA G sz) := by
  refine Met.ofWH (cc := cL_append) (maxL := 4) (ret := (some .int)) (hh := [(0, 9, 12, 97)]) (by decide) rfl ?_
  intro p e s m args below meth c s₁ B0 hml hv
  obtain ⟨rfl, hpw⟩ := hv
  have hsz := hpw.1
  subst hsz
  obtain ⟨F, B⟩ := hpw.to
  have hx := B0.exec
  have hb := B0.bytes
  have hr := B0.returns
  have hts := atoms_spec (ws := wsL_append) B0.pre
  have htab := vx_table (x := yL_append) B0 (hts _ List.mem_cons_self)
  have hown : s.vm.findClass RL = some m.cls := findClass_of_methodNamed B0.named
  have hlocks := B0.notSynchronized
  have S : CallFix p m c cL_append 4 s _ wsL_append RL := ⟨hx, hb, hml, hown, hts⟩
  have hl := lv_entry [.ref (G.2.2 154), .int a0, .ref (G.2.2 207)] (n := 4) (Nat.le_of_ble_eq_true rfl)
  rw [lg_entry_eq]
  generalize (lg_sl [.ref (G.2.2 154), .int a0, .ref (G.2.2 207)] ++ List.replicate (4 - (lg_sl [.ref (G.2.2 154), .int a0, .ref (G.2.2 207)]).length) Slot.unset).toArray = ls at hl ⊢
  have hl : lv_has ls 4 [(0, .ref (G.2.2 154)), (1, .int a0), (2, .ref (G.2.2 207))] := hl
  refine lv_aload_n hx hb dL_append_0 rfl (lv_at hl 2 rfl) ?_
  refine lv_iconst (v := 0) hx hb dL_append_1 (by decide) ?_
  refine lv_aload_n hx hb dL_append_2 rfl (lv_at hl 0 rfl) ?_
  refine lv_iload_n hx hb dL_append_3 rfl (lv_at hl 1 rfl) ?_
  refine h_call (As := [.int a0]) (rest := [.int 0, .ref (G.2.2 207)]) S F B (c_X9_append l hl9 G σ _ a0 ho) (kq (by decide) : kd 154 = 7 ∧ 154 < NN) rfl rfl (cwV 1 hts gL_append_X9_append rfl rfl rfl (by decide +kernel) ⟨Nat.le_of_ble_eq_true rfl, Nat.le_of_ble_eq_true rfl⟩) rfl hl.1 rfl (Nat.le_of_ble_eq_true rfl) dL_append_4 ⟨Nat.le_of_ble_eq_true rfl, Nat.le_of_ble_eq_true rfl⟩ (fun k q9 ce H locs hk B hce hcv hcl => ?_) (fun v H locs hv B => ?_)
  · rw [hp_r pl hk, hgL_r hk]
    obtain ⟨rfl, h2⟩ := hn k hk
    rw [h2]
    refine h_catch (k := 4) (hp := 12) S F [] ⟨0, 9, 12, 97⟩ [] htab (fun _ h => (nomatch h)) rfl (by decide) rfl (by decide +kernel) (by decide) hce hcv hcl ?_
    refine lv_astore_n hx hb dL_append_12 rfl hl (by decide) rfl (fun ls hl => ?_)
    refine lv_iconst (v := 1) hx hb dL_append_13 (by decide) ?_
    exact e_l B (fun _ => rfl) hx hb hr hlocks rfl dL_append_14
  · rw [hp_l pl hv, hgL_l hv]
    refine lv_i2l hx hb dL_append_7 rfl ?_
    refine r_last S F B dL_append_8 (fun H locs B => ?_)
    refine lv_goto (tgt := 15) hx hb dL_append_9 (by decide) ?_
    refine lv_iconst (v := 0) hx hb dL_append_15 (by decide) ?_
    exact e_l B gL_AA hx hb hr hlocks rfl dL_append_16

def ws2_commands : List Cond := wsL_commands ++ [Cond.classLink RL 76 "java/lang/IllegalArgumentException", Cond.classLink RL 13 "java/lang/UnsupportedOperationException"]
set_option maxHeartbeats 4000000 in
set_option maxRecDepth 100000 in
theorem c_L_commands (l : Launch) (hl9 : l.stackTraces = false) (G : Gd) (σ : Mm) (sz : Nat)  {out : (Int32 ⊕ Nat) × Mm} (ho : f_X9_commands σ = some out) (pl : Nat → Int32) (hn : ∀ n, out.1 = .inr n → (n = 3 ∧ pl n = 1) ∨ (n = 0 ∧ pl n = 2)) : Met l yL_commands ws2_commands { frames := 8, cells := 1, slots := 6, locals := 168 } (va_Pc [.ref (G.2.2 154), .ref (G.2.2 207)] (PW G σ sz)) (Ql G sz (hgL out G) (hp pl out) out.2) 1 6 (AA G sz) := by
  refine Met.ofWH (cc := cL_commands) (maxL := 3) (ret := (some .int)) (hh := [(0, 8, 11, 76), (0, 8, 14, 13)]) (by decide) rfl ?_
  intro p e s m args below meth c s₁ B0 hml hv
  obtain ⟨rfl, hpw⟩ := hv
  have hsz := hpw.1
  subst hsz
  obtain ⟨F, B⟩ := hpw.to
  have hx := B0.exec
  have hb := B0.bytes
  have hr := B0.returns
  have hts := atoms_spec (ws := ws2_commands) B0.pre
  have htab := vx_table (x := yL_commands) B0 (hts _ List.mem_cons_self)
  have hown : s.vm.findClass RL = some m.cls := findClass_of_methodNamed B0.named
  have hlocks := B0.notSynchronized
  have S : CallFix p m c cL_commands 3 s _ ws2_commands RL := ⟨hx, hb, hml, hown, hts⟩
  have hl := lv_entry [.ref (G.2.2 154), .ref (G.2.2 207)] (n := 3) (Nat.le_of_ble_eq_true rfl)
  rw [lg_entry_eq]
  generalize (lg_sl [.ref (G.2.2 154), .ref (G.2.2 207)] ++ List.replicate (3 - (lg_sl [.ref (G.2.2 154), .ref (G.2.2 207)]).length) Slot.unset).toArray = ls at hl ⊢
  have hl : lv_has ls 3 [(0, .ref (G.2.2 154)), (1, .ref (G.2.2 207))] := hl
  refine lv_aload_n hx hb dL_commands_0 rfl (lv_at hl 1 rfl) ?_
  refine lv_iconst (v := 0) hx hb dL_commands_1 (by decide) ?_
  refine lv_aload_n hx hb dL_commands_2 rfl (lv_at hl 0 rfl) ?_
  refine h_call (As := []) (rest := [.int 0, .ref (G.2.2 207)]) S F B (c_X9_commands l hl9 G σ _ ho) (kq (by decide) : kd 154 = 7 ∧ 154 < NN) rfl rfl (cwV 0 hts (goodIn_more gL_commands_X9_commands) rfl rfl rfl (by decide +kernel) ⟨Nat.le_of_ble_eq_true rfl, Nat.le_of_ble_eq_true rfl⟩) rfl hl.1 rfl (Nat.le_of_ble_eq_true rfl) dL_commands_3 ⟨Nat.le_of_ble_eq_true rfl, Nat.le_of_ble_eq_true rfl⟩ (fun k q9 ce H locs hk B hce hcv hcl => ?_) (fun v H locs hv B => ?_)
  · rw [hp_r pl hk, hgL_r hk]
    rcases hn k hk with ⟨rfl, h2⟩ | ⟨rfl, h2⟩ <;> rw [h2]
    · refine h_catch (k := 3) (hp := 11) S F [] ⟨0, 8, 11, 76⟩ [⟨0, 8, 14, 13⟩] htab (fun _ h => (nomatch h)) rfl (by decide) rfl (by decide +kernel) (by decide) hce hcv hcl ?_
      refine lv_astore_n hx hb dL_commands_11 rfl hl (by decide) rfl (fun ls hl => ?_)
      refine lv_iconst (v := 1) hx hb dL_commands_12 (by decide) ?_
      exact e_l B (fun _ => rfl) hx hb hr hlocks rfl dL_commands_13
    · refine h_catch (k := 0) (hp := 14) S F [⟨0, 8, 11, 76⟩] ⟨0, 8, 14, 13⟩ [] htab (fun z hz => by
        have hz := List.mem_singleton.mp hz
        subst hz
        exact Or.inr ⟨by decide, exn 3, S.2.2.2.2 _ (show Cond.classLink RL 76 (exn 3) ∈ _ by decide +kernel), F.ncs (exn 0, exn 3) (by decide)⟩) rfl (by decide) rfl (by decide +kernel) (by decide) hce hcv hcl ?_
      refine lv_astore_n hx hb dL_commands_14 rfl hl (by decide) rfl (fun ls hl => ?_)
      refine lv_iconst (v := 2) hx hb dL_commands_15 (by decide) ?_
      exact e_l B (fun _ => rfl) hx hb hr hlocks rfl dL_commands_16
  · rw [hp_l pl hv, hgL_l hv]
    refine lv_i2l hx hb dL_commands_6 rfl ?_
    refine r_last S F B dL_commands_7 (fun H locs B => ?_)
    refine lv_goto (tgt := 17) hx hb dL_commands_8 (by decide) ?_
    refine lv_iconst (v := 0) hx hb dL_commands_17 (by decide) ?_
    exact e_l B gL_AA hx hb hr hlocks rfl dL_commands_18

def ws2_reason : List Cond := wsL_reason ++ [Cond.classLink RL 76 "java/lang/IllegalArgumentException", Cond.classLink RL 43 "java/util/NoSuchElementException"]
set_option maxHeartbeats 4000000 in
set_option maxRecDepth 100000 in
theorem c_L_reason (l : Launch) (hl9 : l.stackTraces = false) (G : Gd) (σ : Mm) (sz : Nat) (a0 : Int32) {out : (Int32 ⊕ Nat) × Mm} (ho : f_X9_reason a0 σ = some out) (pl : Nat → Int32) (hn : ∀ n, out.1 = .inr n → (n = 3 ∧ pl n = 1) ∨ (n = 2 ∧ pl n = 2)) : Met l yL_reason ws2_reason { frames := 7, cells := 1, slots := 6, locals := 131 } (va_Pc [.ref (G.2.2 154), .int a0, .ref (G.2.2 207)] (PW G σ sz)) (Ql G sz (hgL out G) (hp pl out) out.2) 1 6 (AA G sz) := by
  refine Met.ofWH (cc := cL_reason) (maxL := 4) (ret := (some .int)) (hh := [(0, 9, 12, 76), (0, 9, 15, 43)]) (by decide) rfl ?_
  intro p e s m args below meth c s₁ B0 hml hv
  obtain ⟨rfl, hpw⟩ := hv
  have hsz := hpw.1
  subst hsz
  obtain ⟨F, B⟩ := hpw.to
  have hx := B0.exec
  have hb := B0.bytes
  have hr := B0.returns
  have hts := atoms_spec (ws := ws2_reason) B0.pre
  have htab := vx_table (x := yL_reason) B0 (hts _ List.mem_cons_self)
  have hown : s.vm.findClass RL = some m.cls := findClass_of_methodNamed B0.named
  have hlocks := B0.notSynchronized
  have S : CallFix p m c cL_reason 4 s _ ws2_reason RL := ⟨hx, hb, hml, hown, hts⟩
  have hl := lv_entry [.ref (G.2.2 154), .int a0, .ref (G.2.2 207)] (n := 4) (Nat.le_of_ble_eq_true rfl)
  rw [lg_entry_eq]
  generalize (lg_sl [.ref (G.2.2 154), .int a0, .ref (G.2.2 207)] ++ List.replicate (4 - (lg_sl [.ref (G.2.2 154), .int a0, .ref (G.2.2 207)]).length) Slot.unset).toArray = ls at hl ⊢
  have hl : lv_has ls 4 [(0, .ref (G.2.2 154)), (1, .int a0), (2, .ref (G.2.2 207))] := hl
  refine lv_aload_n hx hb dL_reason_0 rfl (lv_at hl 2 rfl) ?_
  refine lv_iconst (v := 0) hx hb dL_reason_1 (by decide) ?_
  refine lv_aload_n hx hb dL_reason_2 rfl (lv_at hl 0 rfl) ?_
  refine lv_iload_n hx hb dL_reason_3 rfl (lv_at hl 1 rfl) ?_
  refine h_call (As := [.int a0]) (rest := [.int 0, .ref (G.2.2 207)]) S F B (c_X9_reason l hl9 G σ _ a0 ho) (kq (by decide) : kd 154 = 7 ∧ 154 < NN) rfl rfl (cwV 1 hts (goodIn_more gL_reason_X9_reason) rfl rfl rfl (by decide +kernel) ⟨Nat.le_of_ble_eq_true rfl, Nat.le_of_ble_eq_true rfl⟩) rfl hl.1 rfl (Nat.le_of_ble_eq_true rfl) dL_reason_4 ⟨Nat.le_of_ble_eq_true rfl, Nat.le_of_ble_eq_true rfl⟩ (fun k q9 ce H locs hk B hce hcv hcl => ?_) (fun v H locs hv B => ?_)
  · rw [hp_r pl hk, hgL_r hk]
    rcases hn k hk with ⟨rfl, h2⟩ | ⟨rfl, h2⟩ <;> rw [h2]
    · refine h_catch (k := 3) (hp := 12) S F [] ⟨0, 9, 12, 76⟩ [⟨0, 9, 15, 43⟩] htab (fun _ h => (nomatch h)) rfl (by decide) rfl (by decide +kernel) (by decide) hce hcv hcl ?_
      refine lv_astore_n hx hb dL_reason_12 rfl hl (by decide) rfl (fun ls hl => ?_)
      refine lv_iconst (v := 1) hx hb dL_reason_13 (by decide) ?_
      exact e_l B (fun _ => rfl) hx hb hr hlocks rfl dL_reason_14
    · refine h_catch (k := 2) (hp := 15) S F [⟨0, 9, 12, 76⟩] ⟨0, 9, 15, 43⟩ [] htab (fun z hz => by
        have hz := List.mem_singleton.mp hz
        subst hz
        exact Or.inr ⟨by decide, exn 3, S.2.2.2.2 _ (show Cond.classLink RL 76 (exn 3) ∈ _ by decide +kernel), F.ncs (exn 2, exn 3) (by decide)⟩) rfl (by decide) rfl (by decide +kernel) (by decide) hce hcv hcl ?_
      refine lv_astore_n hx hb dL_reason_15 rfl hl (by decide) rfl (fun ls hl => ?_)
      refine lv_iconst (v := 2) hx hb dL_reason_16 (by decide) ?_
      exact e_l B (fun _ => rfl) hx hb hr hlocks rfl dL_reason_17
  · rw [hp_l pl hv, hgL_l hv]
    refine lv_i2l hx hb dL_reason_7 rfl ?_
    refine r_last S F B dL_reason_8 (fun H locs B => ?_)
    refine lv_goto (tgt := 18) hx hb dL_reason_9 (by decide) ?_
    refine lv_iconst (v := 0) hx hb dL_reason_18 (by decide) ?_
    exact e_l B gL_AA hx hb hr hlocks rfl dL_reason_19

set_option maxHeartbeats 4000000 in
set_option maxRecDepth 100000 in
theorem c_L_line (l : Launch) (hl9 : l.stackTraces = false) (G : Gd) (σ : Mm) (sz : Nat) (a0 : Int32) {out : (Int32 ⊕ Nat) × Mm} (ho : f_X9_line a0 σ = some out) (pl : Nat → Int32) (hn : ∀ n, out.1 = .inr n → (n = 1 ∧ pl n = 1)) : Met l yL_line wsL_line { frames := 8, cells := 1, slots := 6, locals := 154 } (va_Pc [.ref (G.2.2 154), .int a0, .ref (G.2.2 207)] (PW G σ sz)) (Ql G sz (hgL out G) (hp pl out) out.2) 1 6 (AA G sz) := by
  refine Met.ofWH (cc := cL_line) (maxL := 4) (ret := (some .int)) (hh := [(0, 9, 12, 41)]) (by decide) rfl ?_
  intro p e s m args below meth c s₁ B0 hml hv
  obtain ⟨rfl, hpw⟩ := hv
  have hsz := hpw.1
  subst hsz
  obtain ⟨F, B⟩ := hpw.to
  have hx := B0.exec
  have hb := B0.bytes
  have hr := B0.returns
  have hts := atoms_spec (ws := wsL_line) B0.pre
  have htab := vx_table (x := yL_line) B0 (hts _ List.mem_cons_self)
  have hown : s.vm.findClass RL = some m.cls := findClass_of_methodNamed B0.named
  have hlocks := B0.notSynchronized
  have S : CallFix p m c cL_line 4 s _ wsL_line RL := ⟨hx, hb, hml, hown, hts⟩
  have hl := lv_entry [.ref (G.2.2 154), .int a0, .ref (G.2.2 207)] (n := 4) (Nat.le_of_ble_eq_true rfl)
  rw [lg_entry_eq]
  generalize (lg_sl [.ref (G.2.2 154), .int a0, .ref (G.2.2 207)] ++ List.replicate (4 - (lg_sl [.ref (G.2.2 154), .int a0, .ref (G.2.2 207)]).length) Slot.unset).toArray = ls at hl ⊢
  have hl : lv_has ls 4 [(0, .ref (G.2.2 154)), (1, .int a0), (2, .ref (G.2.2 207))] := hl
  refine lv_aload_n hx hb dL_line_0 rfl (lv_at hl 2 rfl) ?_
  refine lv_iconst (v := 0) hx hb dL_line_1 (by decide) ?_
  refine lv_aload_n hx hb dL_line_2 rfl (lv_at hl 0 rfl) ?_
  refine lv_iload_n hx hb dL_line_3 rfl (lv_at hl 1 rfl) ?_
  refine h_call (As := [.int a0]) (rest := [.int 0, .ref (G.2.2 207)]) S F B (c_X9_line l hl9 G σ _ a0 ho) (kq (by decide) : kd 154 = 7 ∧ 154 < NN) rfl rfl (cwV 1 hts gL_line_X9_line rfl rfl rfl (by decide +kernel) ⟨Nat.le_of_ble_eq_true rfl, Nat.le_of_ble_eq_true rfl⟩) rfl hl.1 rfl (Nat.le_of_ble_eq_true rfl) dL_line_4 ⟨Nat.le_of_ble_eq_true rfl, Nat.le_of_ble_eq_true rfl⟩ (fun k q9 ce H locs hk B hce hcv hcl => ?_) (fun v H locs hv B => ?_)
  · rw [hp_r pl hk, hgL_r hk]
    obtain ⟨rfl, h2⟩ := hn k hk
    rw [h2]
    refine h_catch (k := 1) (hp := 12) S F [] ⟨0, 9, 12, 41⟩ [] htab (fun _ h => (nomatch h)) rfl (by decide) rfl (by decide +kernel) (by decide) hce hcv hcl ?_
    refine lv_astore_n hx hb dL_line_12 rfl hl (by decide) rfl (fun ls hl => ?_)
    refine lv_iconst (v := 1) hx hb dL_line_13 (by decide) ?_
    exact e_l B (fun _ => rfl) hx hb hr hlocks rfl dL_line_14
  · rw [hp_l pl hv, hgL_l hv]
    refine lv_i2l hx hb dL_line_7 rfl ?_
    refine r_last S F B dL_line_8 (fun H locs B => ?_)
    refine lv_goto (tgt := 15) hx hb dL_line_9 (by decide) ?_
    refine lv_iconst (v := 0) hx hb dL_line_15 (by decide) ?_
    exact e_l B gL_AA hx hb hr hlocks rfl dL_line_16

set_option maxHeartbeats 4000000 in
set_option maxRecDepth 100000 in
theorem c_L_row (l : Launch) (hl9 : l.stackTraces = false) (G : Gd) (σ : Mm) (sz : Nat) (a0 : Int32) {out : (Int32 ⊕ Nat) × Mm} (ho : f_X9_row a0 σ = some out) (pl : Nat → Int32) (hn : ∀ n, out.1 = .inr n → (n = 3 ∧ pl n = 1)) : Met l yL_row wsL_row { frames := 7, cells := 1, slots := 6, locals := 133 } (va_Pc [.ref (G.2.2 154), .int a0, .ref (G.2.2 207)] (PW G σ sz)) (Ql G sz (hgL out G) (hp pl out) out.2) 1 6 (AA G sz) := by
  refine Met.ofWH (cc := cL_row) (maxL := 4) (ret := (some .int)) (hh := [(0, 9, 12, 76)]) (by decide) rfl ?_
  intro p e s m args below meth c s₁ B0 hml hv
  obtain ⟨rfl, hpw⟩ := hv
  have hsz := hpw.1
  subst hsz
  obtain ⟨F, B⟩ := hpw.to
  have hx := B0.exec
  have hb := B0.bytes
  have hr := B0.returns
  have hts := atoms_spec (ws := wsL_row) B0.pre
  have htab := vx_table (x := yL_row) B0 (hts _ List.mem_cons_self)
  have hown : s.vm.findClass RL = some m.cls := findClass_of_methodNamed B0.named
  have hlocks := B0.notSynchronized
  have S : CallFix p m c cL_row 4 s _ wsL_row RL := ⟨hx, hb, hml, hown, hts⟩
  have hl := lv_entry [.ref (G.2.2 154), .int a0, .ref (G.2.2 207)] (n := 4) (Nat.le_of_ble_eq_true rfl)
  rw [lg_entry_eq]
  generalize (lg_sl [.ref (G.2.2 154), .int a0, .ref (G.2.2 207)] ++ List.replicate (4 - (lg_sl [.ref (G.2.2 154), .int a0, .ref (G.2.2 207)]).length) Slot.unset).toArray = ls at hl ⊢
  have hl : lv_has ls 4 [(0, .ref (G.2.2 154)), (1, .int a0), (2, .ref (G.2.2 207))] := hl
  refine lv_aload_n hx hb dL_row_0 rfl (lv_at hl 2 rfl) ?_
  refine lv_iconst (v := 0) hx hb dL_row_1 (by decide) ?_
  refine lv_aload_n hx hb dL_row_2 rfl (lv_at hl 0 rfl) ?_
  refine lv_iload_n hx hb dL_row_3 rfl (lv_at hl 1 rfl) ?_
  refine h_call (As := [.int a0]) (rest := [.int 0, .ref (G.2.2 207)]) S F B (c_X9_row l hl9 G σ _ a0 ho) (kq (by decide) : kd 154 = 7 ∧ 154 < NN) rfl rfl (cwV 1 hts gL_row_X9_row rfl rfl rfl (by decide +kernel) ⟨Nat.le_of_ble_eq_true rfl, Nat.le_of_ble_eq_true rfl⟩) rfl hl.1 rfl (Nat.le_of_ble_eq_true rfl) dL_row_4 ⟨Nat.le_of_ble_eq_true rfl, Nat.le_of_ble_eq_true rfl⟩ (fun k q9 ce H locs hk B hce hcv hcl => ?_) (fun v H locs hv B => ?_)
  · rw [hp_r pl hk, hgL_r hk]
    obtain ⟨rfl, h2⟩ := hn k hk
    rw [h2]
    refine h_catch (k := 3) (hp := 12) S F [] ⟨0, 9, 12, 76⟩ [] htab (fun _ h => (nomatch h)) rfl (by decide) rfl (by decide +kernel) (by decide) hce hcv hcl ?_
    refine lv_astore_n hx hb dL_row_12 rfl hl (by decide) rfl (fun ls hl => ?_)
    refine lv_iconst (v := 1) hx hb dL_row_13 (by decide) ?_
    exact e_l B (fun _ => rfl) hx hb hr hlocks rfl dL_row_14
  · rw [hp_l pl hv, hgL_l hv]
    refine lv_i2l hx hb dL_row_7 rfl ?_
    refine r_last S F B dL_row_8 (fun H locs B => ?_)
    refine lv_goto (tgt := 15) hx hb dL_row_9 (by decide) ?_
    refine lv_iconst (v := 0) hx hb dL_row_15 (by decide) ?_
    exact e_l B gL_AA hx hb hr hlocks rfl dL_row_16

set_option maxHeartbeats 4000000 in
set_option maxRecDepth 100000 in
theorem c_L_character (l : Launch) (hl9 : l.stackTraces = false) (G : Gd) (σ : Mm) (sz : Nat) (a0 : Int32) {out : (Int32 ⊕ Nat) × Mm} (ho : f_X9_character a0 σ = some out) (pl : Nat → Int32) (hn : ∀ n, out.1 = .inr n → (n = 1 ∧ pl n = 1)) : Met l yL_character wsL_character { frames := 7, cells := 1, slots := 6, locals := 131 } (va_Pc [.ref (G.2.2 154), .int a0, .ref (G.2.2 207)] (PW G σ sz)) (Ql G sz (hgL out G) (hp pl out) out.2) 1 6 (AA G sz) := by
  refine Met.ofWH (cc := cL_character) (maxL := 4) (ret := (some .int)) (hh := [(0, 9, 12, 41)]) (by decide) rfl ?_
  intro p e s m args below meth c s₁ B0 hml hv
  obtain ⟨rfl, hpw⟩ := hv
  have hsz := hpw.1
  subst hsz
  obtain ⟨F, B⟩ := hpw.to
  have hx := B0.exec
  have hb := B0.bytes
  have hr := B0.returns
  have hts := atoms_spec (ws := wsL_character) B0.pre
  have htab := vx_table (x := yL_character) B0 (hts _ List.mem_cons_self)
  have hown : s.vm.findClass RL = some m.cls := findClass_of_methodNamed B0.named
  have hlocks := B0.notSynchronized
  have S : CallFix p m c cL_character 4 s _ wsL_character RL := ⟨hx, hb, hml, hown, hts⟩
  have hl := lv_entry [.ref (G.2.2 154), .int a0, .ref (G.2.2 207)] (n := 4) (Nat.le_of_ble_eq_true rfl)
  rw [lg_entry_eq]
  generalize (lg_sl [.ref (G.2.2 154), .int a0, .ref (G.2.2 207)] ++ List.replicate (4 - (lg_sl [.ref (G.2.2 154), .int a0, .ref (G.2.2 207)]).length) Slot.unset).toArray = ls at hl ⊢
  have hl : lv_has ls 4 [(0, .ref (G.2.2 154)), (1, .int a0), (2, .ref (G.2.2 207))] := hl
  refine lv_aload_n hx hb dL_character_0 rfl (lv_at hl 2 rfl) ?_
  refine lv_iconst (v := 0) hx hb dL_character_1 (by decide) ?_
  refine lv_aload_n hx hb dL_character_2 rfl (lv_at hl 0 rfl) ?_
  refine lv_iload_n hx hb dL_character_3 rfl (lv_at hl 1 rfl) ?_
  refine h_call (As := [.int a0]) (rest := [.int 0, .ref (G.2.2 207)]) S F B (c_X9_character l hl9 G σ _ a0 ho) (kq (by decide) : kd 154 = 7 ∧ 154 < NN) rfl rfl (cwV 1 hts gL_character_X9_character rfl rfl rfl (by decide +kernel) ⟨Nat.le_of_ble_eq_true rfl, Nat.le_of_ble_eq_true rfl⟩) rfl hl.1 rfl (Nat.le_of_ble_eq_true rfl) dL_character_4 ⟨Nat.le_of_ble_eq_true rfl, Nat.le_of_ble_eq_true rfl⟩ (fun k q9 ce H locs hk B hce hcv hcl => ?_) (fun v H locs hv B => ?_)
  · rw [hp_r pl hk, hgL_r hk]
    obtain ⟨rfl, h2⟩ := hn k hk
    rw [h2]
    refine h_catch (k := 1) (hp := 12) S F [] ⟨0, 9, 12, 41⟩ [] htab (fun _ h => (nomatch h)) rfl (by decide) rfl (by decide +kernel) (by decide) hce hcv hcl ?_
    refine lv_astore_n hx hb dL_character_12 rfl hl (by decide) rfl (fun ls hl => ?_)
    refine lv_iconst (v := 1) hx hb dL_character_13 (by decide) ?_
    exact e_l B (fun _ => rfl) hx hb hr hlocks rfl dL_character_14
  · rw [hp_l pl hv, hgL_l hv]
    refine lv_i2l hx hb dL_character_7 rfl ?_
    refine r_last S F B dL_character_8 (fun H locs B => ?_)
    refine lv_goto (tgt := 15) hx hb dL_character_9 (by decide) ?_
    refine lv_iconst (v := 0) hx hb dL_character_15 (by decide) ?_
    exact e_l B gL_AA hx hb hr hlocks rfl dL_character_16

set_option maxHeartbeats 4000000 in
set_option maxRecDepth 100000 in
theorem c_L_account (l : Launch) (hl9 : l.stackTraces = false) (G : Gd) (σ : Mm) (sz : Nat) (a0 : Int32) {out : (Int32 ⊕ Nat) × Mm} (ho : f_X9_account a0 σ = some out) (pl : Nat → Int32) (hn : ∀ n, out.1 = .inr n → (n = 3 ∧ pl n = 1)) : Met l yL_account wsL_account { frames := 7, cells := 1, slots := 6, locals := 140 } (va_Pc [.ref (G.2.2 154), .int a0, .ref (G.2.2 207)] (PW G σ sz)) (Ql G sz (hgL out G) (hp pl out) out.2) 1 6 (AA G sz) := by
  refine Met.ofWH (cc := cL_account) (maxL := 4) (ret := (some .int)) (hh := [(0, 9, 12, 76)]) (by decide) rfl ?_
  intro p e s m args below meth c s₁ B0 hml hv
  obtain ⟨rfl, hpw⟩ := hv
  have hsz := hpw.1
  subst hsz
  obtain ⟨F, B⟩ := hpw.to
  have hx := B0.exec
  have hb := B0.bytes
  have hr := B0.returns
  have hts := atoms_spec (ws := wsL_account) B0.pre
  have htab := vx_table (x := yL_account) B0 (hts _ List.mem_cons_self)
  have hown : s.vm.findClass RL = some m.cls := findClass_of_methodNamed B0.named
  have hlocks := B0.notSynchronized
  have S : CallFix p m c cL_account 4 s _ wsL_account RL := ⟨hx, hb, hml, hown, hts⟩
  have hl := lv_entry [.ref (G.2.2 154), .int a0, .ref (G.2.2 207)] (n := 4) (Nat.le_of_ble_eq_true rfl)
  rw [lg_entry_eq]
  generalize (lg_sl [.ref (G.2.2 154), .int a0, .ref (G.2.2 207)] ++ List.replicate (4 - (lg_sl [.ref (G.2.2 154), .int a0, .ref (G.2.2 207)]).length) Slot.unset).toArray = ls at hl ⊢
  have hl : lv_has ls 4 [(0, .ref (G.2.2 154)), (1, .int a0), (2, .ref (G.2.2 207))] := hl
  refine lv_aload_n hx hb dL_account_0 rfl (lv_at hl 2 rfl) ?_
  refine lv_iconst (v := 0) hx hb dL_account_1 (by decide) ?_
  refine lv_aload_n hx hb dL_account_2 rfl (lv_at hl 0 rfl) ?_
  refine lv_iload_n hx hb dL_account_3 rfl (lv_at hl 1 rfl) ?_
  refine h_call (As := [.int a0]) (rest := [.int 0, .ref (G.2.2 207)]) S F B (c_X9_account l hl9 G σ _ a0 ho) (kq (by decide) : kd 154 = 7 ∧ 154 < NN) rfl rfl (cwV 1 hts gL_account_X9_account rfl rfl rfl (by decide +kernel) ⟨Nat.le_of_ble_eq_true rfl, Nat.le_of_ble_eq_true rfl⟩) rfl hl.1 rfl (Nat.le_of_ble_eq_true rfl) dL_account_4 ⟨Nat.le_of_ble_eq_true rfl, Nat.le_of_ble_eq_true rfl⟩ (fun k q9 ce H locs hk B hce hcv hcl => ?_) (fun v H locs hv B => ?_)
  · rw [hp_r pl hk, hgL_r hk]
    obtain ⟨rfl, h2⟩ := hn k hk
    rw [h2]
    refine h_catch (k := 3) (hp := 12) S F [] ⟨0, 9, 12, 76⟩ [] htab (fun _ h => (nomatch h)) rfl (by decide) rfl (by decide +kernel) (by decide) hce hcv hcl ?_
    refine lv_astore_n hx hb dL_account_12 rfl hl (by decide) rfl (fun ls hl => ?_)
    refine lv_iconst (v := 1) hx hb dL_account_13 (by decide) ?_
    exact e_l B (fun _ => rfl) hx hb hr hlocks rfl dL_account_14
  · rw [hp_l pl hv, hgL_l hv]
    refine lv_i2l hx hb dL_account_7 rfl ?_
    refine r_last S F B dL_account_8 (fun H locs B => ?_)
    refine lv_goto (tgt := 15) hx hb dL_account_9 (by decide) ?_
    refine lv_iconst (v := 0) hx hb dL_account_15 (by decide) ?_
    exact e_l B gL_AA hx hb hr hlocks rfl dL_account_16

set_option maxHeartbeats 4000000 in
set_option maxRecDepth 100000 in
theorem c_L_undo (l : Launch) (hl9 : l.stackTraces = false) (G : Gd) (σ : Mm) (sz : Nat)  {out : (Int32 ⊕ Nat) × Mm} (ho : f_X9_undo σ = some out) (pl : Nat → Int32) (hn : ∀ n, out.1 = .inr n → (n = 4 ∧ pl n = 1)) : Met l yL_undo wsL_undo { frames := 7, cells := 1, slots := 6, locals := 130 } (va_Pc [.ref (G.2.2 154), .ref (G.2.2 207)] (PW G σ sz)) (Ql G sz (hgL out G) (hp pl out) out.2) 1 6 (AA G sz) := by
  refine Met.ofWH (cc := cL_undo) (maxL := 3) (ret := (some .int)) (hh := [(0, 8, 11, 97)]) (by decide) rfl ?_
  intro p e s m args below meth c s₁ B0 hml hv
  obtain ⟨rfl, hpw⟩ := hv
  have hsz := hpw.1
  subst hsz
  obtain ⟨F, B⟩ := hpw.to
  have hx := B0.exec
  have hb := B0.bytes
  have hr := B0.returns
  have hts := atoms_spec (ws := wsL_undo) B0.pre
  have htab := vx_table (x := yL_undo) B0 (hts _ List.mem_cons_self)
  have hown : s.vm.findClass RL = some m.cls := findClass_of_methodNamed B0.named
  have hlocks := B0.notSynchronized
  have S : CallFix p m c cL_undo 3 s _ wsL_undo RL := ⟨hx, hb, hml, hown, hts⟩
  have hl := lv_entry [.ref (G.2.2 154), .ref (G.2.2 207)] (n := 3) (Nat.le_of_ble_eq_true rfl)
  rw [lg_entry_eq]
  generalize (lg_sl [.ref (G.2.2 154), .ref (G.2.2 207)] ++ List.replicate (3 - (lg_sl [.ref (G.2.2 154), .ref (G.2.2 207)]).length) Slot.unset).toArray = ls at hl ⊢
  have hl : lv_has ls 3 [(0, .ref (G.2.2 154)), (1, .ref (G.2.2 207))] := hl
  refine lv_aload_n hx hb dL_undo_0 rfl (lv_at hl 1 rfl) ?_
  refine lv_iconst (v := 0) hx hb dL_undo_1 (by decide) ?_
  refine lv_aload_n hx hb dL_undo_2 rfl (lv_at hl 0 rfl) ?_
  refine h_call (As := []) (rest := [.int 0, .ref (G.2.2 207)]) S F B (c_X9_undo l hl9 G σ _ ho) (kq (by decide) : kd 154 = 7 ∧ 154 < NN) rfl rfl (cwV 0 hts gL_undo_X9_undo rfl rfl rfl (by decide +kernel) ⟨Nat.le_of_ble_eq_true rfl, Nat.le_of_ble_eq_true rfl⟩) rfl hl.1 rfl (Nat.le_of_ble_eq_true rfl) dL_undo_3 ⟨Nat.le_of_ble_eq_true rfl, Nat.le_of_ble_eq_true rfl⟩ (fun k q9 ce H locs hk B hce hcv hcl => ?_) (fun v H locs hv B => ?_)
  · rw [hp_r pl hk, hgL_r hk]
    obtain ⟨rfl, h2⟩ := hn k hk
    rw [h2]
    refine h_catch (k := 4) (hp := 11) S F [] ⟨0, 8, 11, 97⟩ [] htab (fun _ h => (nomatch h)) rfl (by decide) rfl (by decide +kernel) (by decide) hce hcv hcl ?_
    refine lv_astore_n hx hb dL_undo_11 rfl hl (by decide) rfl (fun ls hl => ?_)
    refine lv_iconst (v := 1) hx hb dL_undo_12 (by decide) ?_
    exact e_l B (fun _ => rfl) hx hb hr hlocks rfl dL_undo_13
  · rw [hp_l pl hv, hgL_l hv]
    refine lv_i2l hx hb dL_undo_6 rfl ?_
    refine r_last S F B dL_undo_7 (fun H locs B => ?_)
    refine lv_goto (tgt := 14) hx hb dL_undo_8 (by decide) ?_
    refine lv_iconst (v := 0) hx hb dL_undo_14 (by decide) ?_
    exact e_l B gL_AA hx hb hr hlocks rfl dL_undo_15

set_option maxHeartbeats 4000000 in
set_option maxRecDepth 100000 in
theorem c_L_restore (l : Launch) (hl9 : l.stackTraces = false) (G : Gd) (σ : Mm) (sz : Nat)  {out : (Int32 ⊕ Nat) × Mm} (ho : f_X9_restore σ = some out) (pl : Nat → Int32) (hn : ∀ n, out.1 = .inr n → (n = 4 ∧ pl n = 1)) : Met l yL_restore wsL_restore { frames := 7, cells := 1, slots := 6, locals := 130 } (va_Pc [.ref (G.2.2 154), .ref (G.2.2 207)] (PW G σ sz)) (Ql G sz (hgL out G) (hp pl out) out.2) 1 6 (AA G sz) := by
  refine Met.ofWH (cc := cL_restore) (maxL := 3) (ret := (some .int)) (hh := [(0, 8, 11, 97)]) (by decide) rfl ?_
  intro p e s m args below meth c s₁ B0 hml hv
  obtain ⟨rfl, hpw⟩ := hv
  have hsz := hpw.1
  subst hsz
  obtain ⟨F, B⟩ := hpw.to
  have hx := B0.exec
  have hb := B0.bytes
  have hr := B0.returns
  have hts := atoms_spec (ws := wsL_restore) B0.pre
  have htab := vx_table (x := yL_restore) B0 (hts _ List.mem_cons_self)
  have hown : s.vm.findClass RL = some m.cls := findClass_of_methodNamed B0.named
  have hlocks := B0.notSynchronized
  have S : CallFix p m c cL_restore 3 s _ wsL_restore RL := ⟨hx, hb, hml, hown, hts⟩
  have hl := lv_entry [.ref (G.2.2 154), .ref (G.2.2 207)] (n := 3) (Nat.le_of_ble_eq_true rfl)
  rw [lg_entry_eq]
  generalize (lg_sl [.ref (G.2.2 154), .ref (G.2.2 207)] ++ List.replicate (3 - (lg_sl [.ref (G.2.2 154), .ref (G.2.2 207)]).length) Slot.unset).toArray = ls at hl ⊢
  have hl : lv_has ls 3 [(0, .ref (G.2.2 154)), (1, .ref (G.2.2 207))] := hl
  refine lv_aload_n hx hb dL_restore_0 rfl (lv_at hl 1 rfl) ?_
  refine lv_iconst (v := 0) hx hb dL_restore_1 (by decide) ?_
  refine lv_aload_n hx hb dL_restore_2 rfl (lv_at hl 0 rfl) ?_
  refine h_call (As := []) (rest := [.int 0, .ref (G.2.2 207)]) S F B (c_X9_restore l hl9 G σ _ ho) (kq (by decide) : kd 154 = 7 ∧ 154 < NN) rfl rfl (cwV 0 hts gL_restore_X9_restore rfl rfl rfl (by decide +kernel) ⟨Nat.le_of_ble_eq_true rfl, Nat.le_of_ble_eq_true rfl⟩) rfl hl.1 rfl (Nat.le_of_ble_eq_true rfl) dL_restore_3 ⟨Nat.le_of_ble_eq_true rfl, Nat.le_of_ble_eq_true rfl⟩ (fun k q9 ce H locs hk B hce hcv hcl => ?_) (fun v H locs hv B => ?_)
  · rw [hp_r pl hk, hgL_r hk]
    obtain ⟨rfl, h2⟩ := hn k hk
    rw [h2]
    refine h_catch (k := 4) (hp := 11) S F [] ⟨0, 8, 11, 97⟩ [] htab (fun _ h => (nomatch h)) rfl (by decide) rfl (by decide +kernel) (by decide) hce hcv hcl ?_
    refine lv_astore_n hx hb dL_restore_11 rfl hl (by decide) rfl (fun ls hl => ?_)
    refine lv_iconst (v := 1) hx hb dL_restore_12 (by decide) ?_
    exact e_l B (fun _ => rfl) hx hb hr hlocks rfl dL_restore_13
  · rw [hp_l pl hv, hgL_l hv]
    refine lv_i2l hx hb dL_restore_6 rfl ?_
    refine r_last S F B dL_restore_7 (fun H locs B => ?_)
    refine lv_goto (tgt := 14) hx hb dL_restore_8 (by decide) ?_
    refine lv_iconst (v := 0) hx hb dL_restore_14 (by decide) ?_
    exact e_l B gL_AA hx hb hr hlocks rfl dL_restore_15
