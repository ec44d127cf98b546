set_option maxHeartbeats 4000000 in
set_option maxRecDepth 100000 in
theorem c_L_meanLost (l : Launch) (hl9 : l.stackTraces = false) (G : Gd) (σ : Mm) (sz : Nat) {out : (UInt64 ⊕ Nat) × Mm} (ho : f_X9_meanLost σ = some out) (pl : Nat → Int32) (hn : ∀ n, out.1 = .inr n → (n = 5 ∧ pl n = 1)) : Met l yL_meanLost wsL_meanLost { frames := 7, cells := 1, slots := 6, locals := 130 } (va_Pc [.ref (G.2.2 154), .ref (G.2.2 208)] (PW G σ sz)) (Ql G sz (hgD out G) (hp pl out) out.2) 1 6 (AA G sz) := by
  refine Met.ofWH (cc := cL_meanLost) (maxL := 3) (ret := (some .int)) (hh := [(0, 7, 10, 120)]) (by decide) rfl ?_
  intro p e s m args below meth c s₁ B0 hml hv
  obtain ⟨rfl, hpw⟩ := hv
  have hsz := hpw.1
  subst hsz
  obtain ⟨F, B⟩ := hpw.to
  have hx := B0.exec
  have hb := B0.bytes
  have hr := B0.returns
  have hts := atoms_spec (ws := wsL_meanLost) B0.pre
  have htab := vx_table (x := yL_meanLost) B0 (hts _ List.mem_cons_self)
  have hown : s.vm.findClass RL = some m.cls := findClass_of_methodNamed B0.named
  have hlocks := B0.notSynchronized
  have S : CallFix p m c cL_meanLost 3 s _ wsL_meanLost RL := ⟨hx, hb, hml, hown, hts⟩
  have hl := lv_entry [.ref (G.2.2 154), .ref (G.2.2 208)] (n := 3) (Nat.le_of_ble_eq_true rfl)
  rw [lg_entry_eq]
  generalize (lg_sl [.ref (G.2.2 154), .ref (G.2.2 208)] ++ List.replicate (3 - (lg_sl [.ref (G.2.2 154), .ref (G.2.2 208)]).length) Slot.unset).toArray = ls at hl ⊢
  have hl : lv_has ls 3 [(0, .ref (G.2.2 154)), (1, .ref (G.2.2 208))] := hl
  refine lv_aload_n hx hb dL_meanLost_0 rfl (lv_at hl 1 rfl) ?_
  refine lv_iconst (v := 0) hx hb dL_meanLost_1 (by decide) ?_
  refine lv_aload_n hx hb dL_meanLost_2 rfl (lv_at hl 0 rfl) ?_
  refine h_callD (As := []) (rest := [.int 0, .ref (G.2.2 208)]) S F B (c_X9_meanLost l hl9 G σ _ ho) (kq (by decide) : kd 154 = 7 ∧ 154 < NN) rfl rfl (cwV 0 hts gL_meanLost_X9_meanLost rfl rfl rfl (by decide +kernel) ⟨Nat.le_of_ble_eq_true rfl, Nat.le_of_ble_eq_true rfl⟩) rfl hl.1 rfl (Nat.le_of_ble_eq_true rfl) dL_meanLost_3 ⟨Nat.le_of_ble_eq_true rfl, Nat.le_of_ble_eq_true rfl⟩ (fun k q9 ce H locs hk B hce hcv hcl => ?_) (fun v H locs hv B => ?_)
  · rw [hp_r pl hk, hgD_r hk]
    obtain ⟨rfl, h2⟩ := hn k hk
    rw [h2]
    refine h_catch (k := 5) (hp := 10) S F [] ⟨0, 7, 10, 120⟩ [] htab (fun _ h => (nomatch h)) rfl (by decide) rfl (by decide +kernel) (by decide) hce hcv hcl ?_
    refine lv_astore_n hx hb dL_meanLost_10 rfl hl (by decide) rfl (fun ls hl => ?_)
    refine lv_iconst (v := 1) hx hb dL_meanLost_11 (by decide) ?_
    exact e_l B (fun _ => rfl) hx hb hr hlocks rfl dL_meanLost_12
  · rw [hp_l pl hv, hgD_l hv]
    refine r_dast S F B dL_meanLost_6 (fun H locs B => ?_)
    refine lv_goto (tgt := 13) hx hb dL_meanLost_7 (by decide) ?_
    refine lv_iconst (v := 0) hx hb dL_meanLost_13 (by decide) ?_
    exact e_l B gD_AA hx hb hr hlocks rfl dL_meanLost_14
