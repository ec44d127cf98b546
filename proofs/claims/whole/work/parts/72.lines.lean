/-! LINE, ROW, CHARACTER -/
theorem c_clear {σ : Mm} (h : lin σ) : ∃ τ, f_J4_setLength_d00df 0 σ = some τ ∧ BL σ (0, fun _ => 0) τ := by
  obtain ⟨h1, K, k1, k2, -, -⟩ := h
  unfold f_J4_setLength_d00df f_J5_setLength_d00df
  rw [if_pos (Int32.le_refl _), show f_J5_ensureCapacityInternal_d00df 0 σ = some () from cap_ok (k := 0) h1 (by omega), bnd_d, k2, if_pos (Int32.not_lt.mp (I_n0 (by omega)))]
  by_cases q : K = 0
  · subst q
    rw [if_pos (show I 0 ≤ 0 by decide), lt_d, bnd_d]
    exact ⟨_, rfl, by rw [up_e, upd_n _ _ (by omega)]; exact h1, by rw [up_e, upd_e]; rfl, by show 0 ≤ 16; omega, fun j hj => absurd hj (Nat.not_lt_zero _), fun a z1 _ => up_n _ _ _ z1⟩
  · rw [if_neg (show ¬ I K ≤ 0 from fun z => by have := (I_le (b := 0) (by omega) (by omega)).mp z; omega), lt_d, lt_d, bnd_d]
    exact ⟨_, rfl, by rw [up_e, upd_n _ _ (by omega), up_e, upd_n _ _ (by omega)]; exact h1, by rw [up_e, upd_e]; rfl, by show 0 ≤ 16; omega, fun j hj => absurd hj (Nat.not_lt_zero _), fun a z1 _ => by rw [up_n _ _ _ z1, up_n _ _ _ z1]⟩
theorem c_len {σ0 σ : Mm} {p : Tx} (h : BL σ0 p σ) : f_J4_length_8abf5 σ = some (I p.1) := by
  unfold f_J4_length_8abf5 f_J5_length_8abf5
  rw [h.2.1, bnd_d]
/-- "out" -/
theorem c_out {σ0 σ : Mm} {s : Nat → Nat} (h : BL σ0 (0, s) σ) : ∃ τ, f_J4_append_15ec4 σ = some τ ∧ BL σ0 (tc 116 (tc 117 (tc 111 (0, s)))) τ := by
  obtain ⟨h1, h3, hk, hs, hf⟩ := h
  have h3 : σ 196 3 = 0 := h3
  have en : txN 425 = 3 := by decide +kernel
  have e3 : f_J0_length_8abf5 425 σ = some 3 := by rw [tx_len 425 (by rw [en]; omega), en]; rfl
  have e0 : txC 425 0 = I 111 := by decide +kernel
  have e1 : txC 425 1 = I 117 := by decide +kernel
  have e2 : txC 425 2 = I 116 := by decide +kernel
  unfold f_J4_append_15ec4 f_J5_append_cf1ce f_J5_putStringAt_47b60 f_J5_inflateIfNeededFor_a7421 f_J0_getBytes_840e7 f_J0_coder_7d493
  rw [e3, bnd_d, h3, show f_J5_ensureCapacityInternal_d00df (0 + 3) σ = some () from cap_ok (k := 3) h1 (by omega), bnd_d, bnd_d, h1, if_pos rfl, bnd_d, bnd_d, if_pos rfl, show ((0 : Int32) <<< ((0 : Int32) &&& 31)) = 0 by decide]
  unfold cg
  rw [if_neg (by decide), show Int32.toNatClampNeg 0 = 0 from rfl, lt_d, bnd_d, bnd_d]
  obtain ⟨τ, hτ⟩ : ∃ τ, τ = cpt σ 425 197 0 3 := ⟨_, rfl⟩
  have f1 : ∀ a, a ≠ 197 → τ a = σ a := fun a z => by rw [hτ]; unfold cpt; rw [if_neg z]
  have f2 : ∀ j, τ 197 j = if j < 3 then txC 425 j else σ 197 j := fun j => by
    rw [hτ]; unfold cpt; rw [if_pos rfl]; unfold va_cpy
    by_cases q : j < 3
    · rw [if_pos q, if_pos ⟨Nat.zero_le _, by omega⟩, Nat.zero_add, Nat.sub_zero]
    · rw [if_neg q, if_neg (by omega)]
  rw [← hτ, f1 196 (by omega), h3, lt_d, bnd_d]
  refine ⟨_, rfl, by rw [up_e, upd_n _ _ (by omega), f1 196 (by omega)]; exact h1, by rw [up_e, upd_e]; rfl, by show 3 ≤ 16; omega, fun j hj => ?_, fun a z1 z2 => by rw [up_n _ _ _ z1, f1 a z2]; exact hf a z1 z2⟩
  have hj : j < 3 := hj
  rw [up_n _ _ _ (show 197 ≠ 196 by omega), f2, if_pos hj]
  rcases (show j = 0 ∨ j = 1 ∨ j = 2 by omega) with rfl | rfl | rfl
  · exact ⟨by show 111 < 128; omega, e0⟩
  · exact ⟨by show 117 < 128; omega, e1⟩
  · exact ⟨by show 116 < 128; omega, e2⟩
/-- a line, behind its place -/
def lineP (h : Nat) (b : Option (Nat × Nat × Bool)) (p : Tx) : Tx := match b with
  | none => tn h (tc 43 p)
  | some (g, r, w) => if w = true then tc 33 (tn r (tc 42 (tn g (tc 35 (tn h (tc 43 p)))))) else tn r (tc 42 (tn g (tc 35 (tn h (tc 43 p)))))
theorem tc_1 (c : Nat) (p : Tx) : (tc c p).1 = p.1 + 1 := rfl
theorem nd_1 {x : Nat} (h : x < 10) : nd x = 1 := by unfold nd; rw [if_pos h]
theorem lineP_le {h : Nat} {b : Option (Nat × Nat × Bool)} {p : Tx} (hp : p.1 ≤ 3) (hb : ∀ g r w, b = some (g, r, w) → g < 10 ∧ r < 10) : (lineP h b p).1 ≤ 16 := by
  have := nd_le h
  unfold lineP
  cases b with
  | none => dsimp only; rw [tn_1, tc_1]; omega
  | some q =>
    obtain ⟨g, r, w⟩ := q
    obtain ⟨h1, h2⟩ := hb g r w rfl
    have e1 := nd_1 h1
    have e2 := nd_1 h2
    dsimp only
    split
    · rw [tc_1, tn_1, tc_1, tn_1, tc_1, tn_1, tc_1]; omega
    · rw [tn_1, tc_1, tn_1, tc_1, tn_1, tc_1]; omega
/-- what a visitor's numbers say of the bond -/
def bondV (v : Nat) (f : Fm) : Option (Nat × Nat × Bool) := if f (46 + 8 * v + 4) = -1 then none else some ((f (46 + 8 * v + 4)).toNatClampNeg, (f (46 + 8 * v + 5)).toNatClampNeg, decide (f (46 + 8 * v + 6) = 1))
theorem c_tail {σ0 σ : Mm} {f : Fm} {B n m v h : Nat} {p : Tx} (hp : p.1 ≤ 3) (r : rep 0 σ0 f) (ho : okC B n m f) (hv : v < m) (hh : f (46 + 8 * v + 2) = I h) (h6 : h < 1000000) (Z : BL σ0 p σ) :
    ∃ τ, (bnd (f_J4_append_cf468 43 σ) fun σ10 => bnd (f_J4_append_bf812 (σ10 (9 + v) 2) σ10) fun σ12 => bnd (f_X7_hasBond (9 + v) σ12) fun q13 => if q13 = 0 then (bnd (f_J4_length_8abf5 σ12) fun q15 => some ((Sum.inl q15 : Int32 ⊕ Nat), σ12)) else (bnd (f_J4_append_cf468 35 σ12) fun σ17 => bnd (f_J4_append_bf812 (σ17 (9 + v) 4) σ17) fun σ19 => bnd (f_J4_append_cf468 42 σ19) fun σ21 => bnd (f_J4_append_bf812 (σ21 (9 + v) 5) σ21) fun σ23 => if (σ23 (9 + v) 6) = 0 then (bnd (f_J4_length_8abf5 σ23) fun q25 => some (Sum.inl q25, σ23)) else (bnd (f_J4_append_cf468 33 σ23) fun σ27 => bnd (f_J4_length_8abf5 σ27) fun q28 => some (Sum.inl q28, σ27)))) = some (Sum.inl (I (lineP h (bondV v f) p).1), τ) ∧ BL σ0 (lineP h (bondV v f) p) τ := by
  have ov := ho.2.2.2.2.1 v hv
  have hfv := hfI ho.2.1.2 ho.2.1.1 hv
  have hm := ho.2.1.1
  have hd := nd_le h
  have G : ∀ {q : Tx} {ρ : Mm} {k : Nat}, BL σ0 q ρ → k < 8 → ρ (9 + v) k = f (46 + 8 * v + k) := fun {q ρ k} z hk => by
    rw [z.2.2.2.2 (9 + v) (by omega) (by omega)]; exact r.getV (by omega) hk hfv
  obtain ⟨σ1, a1, A1⟩ := c_chr (c := 43) Z (by omega) (by omega)
  obtain ⟨σ2, a2, A2⟩ := c_num (x := h) A1 (by rw [tc_1]; omega) h6
  rw [show f_J4_append_cf468 43 σ = some σ1 from a1, bnd_d, G A1 (by omega), hh, a2, bnd_d]
  unfold f_X7_hasBond
  rw [G A2 (by omega)]
  rcases ov.2.2.2 with ⟨b1, -⟩ | ⟨⟨g, g1, g2⟩, ⟨rr, r1, r2, r3⟩, v01, w0⟩
  · have e : bondV v f = none := by unfold bondV; rw [if_pos b1]
    rw [if_pos b1, bnd_d, if_pos rfl, c_len A2, bnd_d, e]
    exact ⟨σ2, rfl, A2⟩
  · have hn := ho.1.1
    have nb1 : ¬ f (46 + 8 * v + 4) = -1 := by rw [g2]; exact nm1 (by omega)
    have dg := nd_1 (x := g) (by omega)
    have dr := nd_1 (x := rr) (by omega)
    obtain ⟨σ3, a3, A3⟩ := c_chr (c := 35) A2 (by rw [tn_1, tc_1]; omega) (by omega)
    obtain ⟨σ4, a4, A4⟩ := c_num (x := g) A3 (by rw [tc_1, tn_1, tc_1]; omega) (by omega)
    obtain ⟨σ5, a5, A5⟩ := c_chr (c := 42) A4 (by rw [tn_1, tc_1, tn_1, tc_1]; omega) (by omega)
    obtain ⟨σ6, a6, A6⟩ := c_num (x := rr) A5 (by rw [tc_1, tn_1, tc_1, tn_1, tc_1]; omega) (by omega)
    rw [if_neg nb1, bnd_d, if_neg one_ne, show f_J4_append_cf468 35 σ2 = some σ3 from a3, bnd_d, G A3 (by omega), g2, a4, bnd_d, show f_J4_append_cf468 42 σ4 = some σ5 from a5, bnd_d, G A5 (by omega), r3, a6, bnd_d, G A6 (by omega)]
    rcases v01 with z | z
    · have e : bondV v f = some (g, rr, false) := by
        unfold bondV; rw [if_neg nb1, g2, r3, z, I_clamp (by omega), I_clamp (by omega)]; rfl
      rw [z, if_pos rfl, c_len A6, bnd_d, e]
      exact ⟨σ6, rfl, A6⟩
    · have e : bondV v f = some (g, rr, true) := by
        unfold bondV; rw [if_neg nb1, g2, r3, z, I_clamp (by omega), I_clamp (by omega)]; rfl
      obtain ⟨σ7, a7, A7⟩ := c_chr (c := 33) A6 (by rw [tn_1, tc_1, tn_1, tc_1, tn_1, tc_1]; omega) (by omega)
      rw [z, if_neg one_ne, show f_J4_append_cf468 33 σ6 = some σ7 from a7, bnd_d, c_len A7, bnd_d, e]
      exact ⟨σ7, rfl, A7⟩
theorem r_tail {σ0 σ : Mm} {f : Fm} {B n m v h : Nat} {p : Tx} (hp : p.1 ≤ 3) (r : σ0 199 = f) (ho : okC B n m f) (hv : v < m) (hh : f (46 + 8 * v + 2) = I h) (h6 : h < 1000000) (Z : RLn σ0 p σ) :
    ∃ τ, (bnd (f_X10_sign 43 σ) fun σ32 => gd (I (46 + 8 * v) + 2) 86 (bnd (f_X10_writesNumber (σ32 199 (I (46 + 8 * v) + 2).toNatClampNeg) σ32) fun σ34 => gd (I (46 + 8 * v) + 4) 86 (if (σ34 199 (I (46 + 8 * v) + 4).toNatClampNeg) = (-1) then (some ((σ34 198 20), σ34)) else (bnd (f_X10_sign 35 σ34) fun σ37 => gd (I (46 + 8 * v) + 4) 86 (bnd (f_X10_writesNumber (σ37 199 (I (46 + 8 * v) + 4).toNatClampNeg) σ37) fun σ39 => bnd (f_X10_sign 42 σ39) fun σ41 => gd (I (46 + 8 * v) + 5) 86 (bnd (f_X10_writesNumber (σ41 199 (I (46 + 8 * v) + 5).toNatClampNeg) σ41) fun σ43 => gd (I (46 + 8 * v) + 6) 86 (if (σ43 199 (I (46 + 8 * v) + 6).toNatClampNeg) = 1 then (bnd (f_X10_sign 33 σ43) fun σ46 => some ((σ46 198 20), σ46)) else (some ((σ43 198 20), σ43))))))))) = some (I (lineP h (bondV v f) p).1, τ) ∧ RLn σ0 (lineP h (bondV v f) p) τ := by
  have ov := ho.2.2.2.2.1 v hv
  have hm := ho.2.1.1
  have hd := nd_le h
  have G : ∀ {q : Tx} {ρ : Mm}, RLn σ0 q ρ → ρ 199 = f := fun {q ρ} z => by
    rw [z.2.2.2.1 199 (by omega) (by omega)]; exact r
  obtain ⟨σ1, a1, A1⟩ := r_sgn (c := 43) Z (by omega)
  obtain ⟨σ2, a2, A2⟩ := r_num (x := h) A1 (by rw [tc_1]; omega) h6
  rw [I_a2, I_a4, I_a5, I_a6, I_clamp (show 46 + 8 * v + 2 < 2147483648 by omega), I_clamp (show 46 + 8 * v + 4 < 2147483648 by omega), I_clamp (show 46 + 8 * v + 5 < 2147483648 by omega), I_clamp (show 46 + 8 * v + 6 < 2147483648 by omega), show f_X10_sign 43 σ = some σ1 from a1, bnd_d, G A1, hh, gd_I (show 46 + 8 * v + 2 < 86 by omega) (by omega), a2, bnd_d, gd_I (show 46 + 8 * v + 4 < 86 by omega) (by omega), G A2]
  rcases ov.2.2.2 with ⟨b1, -⟩ | ⟨⟨g, g1, g2⟩, ⟨rr, r1, r2, r3⟩, v01, w0⟩
  · have e : bondV v f = none := by unfold bondV; rw [if_pos b1]
    rw [if_pos b1, A2.1, e]
    exact ⟨σ2, rfl, A2⟩
  · have hn := ho.1.1
    have nb1 : ¬ f (46 + 8 * v + 4) = -1 := by rw [g2]; exact nm1 (by omega)
    have dg := nd_1 (x := g) (by omega)
    have dr := nd_1 (x := rr) (by omega)
    obtain ⟨σ3, a3, A3⟩ := r_sgn (c := 35) A2 (by rw [tn_1, tc_1]; omega)
    obtain ⟨σ4, a4, A4⟩ := r_num (x := g) A3 (by rw [tc_1, tn_1, tc_1]; omega) (by omega)
    obtain ⟨σ5, a5, A5⟩ := r_sgn (c := 42) A4 (by rw [tn_1, tc_1, tn_1, tc_1]; omega)
    obtain ⟨σ6, a6, A6⟩ := r_num (x := rr) A5 (by rw [tc_1, tn_1, tc_1, tn_1, tc_1]; omega) (by omega)
    rw [if_neg nb1, show f_X10_sign 35 σ2 = some σ3 from a3, bnd_d, gd_I (show 46 + 8 * v + 4 < 86 by omega) (by omega), G A3, g2, a4, bnd_d, show f_X10_sign 42 σ4 = some σ5 from a5, bnd_d, gd_I (show 46 + 8 * v + 5 < 86 by omega) (by omega), G A5, r3, a6, bnd_d, gd_I (show 46 + 8 * v + 6 < 86 by omega) (by omega), G A6]
    rcases v01 with z | z
    · have e : bondV v f = some (g, rr, false) := by
        unfold bondV; rw [if_neg nb1, g2, r3, z, I_clamp (by omega), I_clamp (by omega)]; rfl
      rw [z, if_neg zero_ne, A6.1, e]
      exact ⟨σ6, rfl, A6⟩
    · have e : bondV v f = some (g, rr, true) := by
        unfold bondV; rw [if_neg nb1, g2, r3, z, I_clamp (by omega), I_clamp (by omega)]; rfl
      obtain ⟨σ7, a7, A7⟩ := r_sgn (c := 33) A6 (by rw [tn_1, tc_1, tn_1, tc_1, tn_1, tc_1]; omega)
      rw [z, if_pos rfl, show f_X10_sign 33 σ6 = some σ7 from a7, bnd_d, A7.1, e]
      exact ⟨σ7, rfl, A7⟩
/-- a line on both sides: all holds again -/
theorem RR.line {B : Nat} {σ τ ρ : Mm} {p : Tx} (R : RR B σ) (h1 : BL σ p τ) (h2 : RLn (up (up τ 198 12 0) 198 20 0) p ρ) : RR B ρ ∧ ρ 198 12 = 0 := by
  obtain ⟨r1, r2, r3, r4, r5, r6, r7⟩ := R
  obtain ⟨b1, b2, b3, b4, b5⟩ := h1
  obtain ⟨c1, c2, c3, c4, c5⟩ := h2
  have z : ∀ a, a ≠ 196 → a ≠ 197 → a ≠ 198 → a ≠ 206 → ρ a = σ a := fun a h1 h2 h3 h4 => by rw [c4 a h3 h4, up_n _ _ _ h3, up_n _ _ _ h3, b5 a h1 h2]
  have z198 : ∀ k, k ≠ 12 → k ≠ 20 → ρ 198 k = σ 198 k := fun k h1 h2 => by rw [c5 k h2, up_e, upd_n _ _ h2, up_e, upd_n _ _ h1, b5 198 (by omega) (by omega)]
  have z199 : ρ 199 = σ 199 := z 199 (by omega) (by omega) (by omega) (by omega)
  have zt : ∀ a, a ≠ 198 → a ≠ 206 → ρ a = τ a := fun a h3 h4 => by rw [c4 a h3 h4, up_n _ _ _ h3, up_n _ _ _ h3]
  refine ⟨⟨?_, ?_, ?_, ?_, ?_, ?_, ?_⟩, by rw [c5 12 (by omega), up_e, upd_n _ _ (by omega), up_e, upd_e]⟩
  · rw [z199]; exact r1.move (fun a _ h => z a (by omega) (by omega) (by omega) (by omega))
  · rw [z199]; exact r2
  · exact r3.move (fun a h1 h2 => z a (by omega) (by omega) (by omega) (by omega)) (z 155 (by omega) (by omega) (by omega) (by omega)) (z198 5 (by omega) (by omega)) (z 202 (by omega) (by omega) (by omega) (by omega))
  · exact r4.move (fun a h1 h2 => z a (by omega) (by omega) (by omega) (by omega)) (z 154 (by omega) (by omega) (by omega) (by omega)) (z198 3 (by omega) (by omega)) (z 201 (by omega) (by omega) (by omega) (by omega))
  · unfold refu
    rw [z 157 (by omega) (by omega) (by omega) (by omega), z198 6 (by omega) (by omega), z198 7 (by omega) (by omega), z198 8 (by omega) (by omega)]
    exact r5
  · exact r6.move (by rw [z 162 (by omega) (by omega) (by omega) (by omega)]) (by rw [z 162 (by omega) (by omega) (by omega) (by omega)]) (z 163 (by omega) (by omega) (by omega) (by omega)) (z 203 (by omega) (by omega) (by omega) (by omega)) (z198 11 (by omega) (by omega)) (z198 9 (by omega) (by omega))
  · exact ⟨by rw [zt 196 (by omega) (by omega)]; exact b1, p.1, b3, by rw [zt 196 (by omega) (by omega)]; exact b2, c1, fun j hj => ⟨p.2 j, (b4 j hj).1, by rw [zt 197 (by omega) (by omega)]; exact (b4 j hj).2, c3 j hj⟩⟩
theorem RLn.start (σ : Mm) (s : Nat → Nat) : RLn (up σ 198 20 0) (0, s) (up σ 198 20 0) := ⟨by rw [up_e, upd_e]; rfl, by show 0 ≤ 30; omega, fun j hj => absurd hj (Nat.not_lt_zero _), fun _ _ _ => rfl, fun _ _ => rfl⟩
theorem q_line {σ : Mm} {B : Nat} (e2 : Nat) (hB : B < 1000000) (R : RR B σ) (a : Int32) : ∃ out τ, f_X9_line a σ = some (out, τ) ∧ ∃ r ρ, f_X10_line a τ = some (r, ρ) ∧ RR B ρ ∧ same2 out 1 e2 r (ρ 198 12) := by
  obtain ⟨f, hf⟩ : ∃ f, f = σ 199 := ⟨_, rfl⟩
  have h : rep 0 σ f := by rw [hf]; exact R.1
  obtain ⟨n, m, ho⟩ : ok B f := by rw [hf]; exact R.2.1
  have hm := ho.2.1.1
  unfold f_X9_line f_X10_line
  rw [c_vask h ho]
  cases e : ix a m with
  | none =>
    dsimp only
    rw [xb_n]
    refine ⟨_, _, rfl, ?_⟩
    rw [lt_d, n_isV hm (by rw [thr199, ← hf]; exact ho.2.1.2), e, bnd_d]
    dsimp only
    rw [if_pos rfl, r_thr, bnm_d]
    exact ⟨_, _, rfl, (R.thr 0).thr 1, Or.inl ⟨rfl, thr12 _ _⟩⟩
  | some v =>
    obtain ⟨v1, rfl⟩ := ix_lt (by omega) e
    have ov := ho.2.2.2.2.1 v v1
    have hfv := hfI ho.2.1.2 hm v1
    obtain ⟨c, c1, c2⟩ := ov.1
    obtain ⟨hh, h6, hhe⟩ := ov.2.1
    dsimp only
    rw [xb_d, oc_e]
    obtain ⟨σ1, s1, S1⟩ := c_clear R.2.2.2.2.2.2
    rw [s1, bnd_d, S1.2.2.2.2 (9 + v) (by omega) (by omega), h.getV (v := v) (k := 7) (by omega) (by omega) hfv, h.getV (v := v) (k := 1) (by omega) (by omega) hfv, c2]
    -- the reference
    have ref : ∀ (τ : Mm) (p : Tx) (P : Option (Int32 × Mm) → Prop), (∀ a, a ≠ 196 → a ≠ 197 → τ a = σ a) →
        (∀ {σ5 : Mm}, σ5 199 = f → P (if f (46 + 8 * v + 7) = 1 then (bnd (f_X10_sign 111 (up (up τ 198 12 0) 198 20 0)) fun σ26 => bnd (f_X10_sign 117 σ26) fun σ28 => bnd (f_X10_sign 116 σ28) fun σ30 => bnd (f_X10_sign 43 σ30) fun σ32 => gd (I (46 + 8 * v) + 2) 86 (bnd (f_X10_writesNumber (σ32 199 (I (46 + 8 * v) + 2).toNatClampNeg) σ32) fun σ34 => gd (I (46 + 8 * v) + 4) 86 (if (σ34 199 (I (46 + 8 * v) + 4).toNatClampNeg) = (-1) then (some ((σ34 198 20), σ34)) else (bnd (f_X10_sign 35 σ34) fun σ37 => gd (I (46 + 8 * v) + 4) 86 (bnd (f_X10_writesNumber (σ37 199 (I (46 + 8 * v) + 4).toNatClampNeg) σ37) fun σ39 => bnd (f_X10_sign 42 σ39) fun σ41 => gd (I (46 + 8 * v) + 5) 86 (bnd (f_X10_writesNumber (σ41 199 (I (46 + 8 * v) + 5).toNatClampNeg) σ41) fun σ43 => gd (I (46 + 8 * v) + 6) 86 (if (σ43 199 (I (46 + 8 * v) + 6).toNatClampNeg) = 1 then (bnd (f_X10_sign 33 σ43) fun σ46 => some ((σ46 198 20), σ46)) else (some ((σ43 198 20), σ43))))))))) else (bnd (f_X10_writesNumber (I c) (up (up τ 198 12 0) 198 20 0)) fun σ8 => bnd (f_X10_sign 43 σ8) fun σ10 => gd (I (46 + 8 * v) + 2) 86 (bnd (f_X10_writesNumber (σ10 199 (I (46 + 8 * v) + 2).toNatClampNeg) σ10) fun σ12 => gd (I (46 + 8 * v) + 4) 86 (if (σ12 199 (I (46 + 8 * v) + 4).toNatClampNeg) = (-1) then (some ((σ12 198 20), σ12)) else (bnd (f_X10_sign 35 σ12) fun σ15 => gd (I (46 + 8 * v) + 4) 86 (bnd (f_X10_writesNumber (σ15 199 (I (46 + 8 * v) + 4).toNatClampNeg) σ15) fun σ17 => bnd (f_X10_sign 42 σ17) fun σ19 => gd (I (46 + 8 * v) + 5) 86 (bnd (f_X10_writesNumber (σ19 199 (I (46 + 8 * v) + 5).toNatClampNeg) σ19) fun σ21 => gd (I (46 + 8 * v) + 6) 86 (if (σ21 199 (I (46 + 8 * v) + 6).toNatClampNeg) = 1 then (bnd (f_X10_sign 33 σ21) fun σ24 => some ((σ24 198 20), σ24)) else (some ((σ21 198 20), σ21))))))))))) →
        P (lt (up τ 198 12 0) fun σ1 => bnd (f_X10_isVisitor (I v) σ1) fun q2 => if q2 = 0 then (bnm (f_X10_throwing 1 σ1) fun q47 σ48 => some (q47, σ48)) else (bnd (f_X10_visitorAt (I v) σ1) fun q4 => lt (up σ1 198 20 0) fun σ5 => gd (q4 + 7) 86 (if (σ5 199 (q4 + 7).toNatClampNeg) = 1 then (bnd (f_X10_sign 111 σ5) fun σ26 => bnd (f_X10_sign 117 σ26) fun σ28 => bnd (f_X10_sign 116 σ28) fun σ30 => bnd (f_X10_sign 43 σ30) fun σ32 => gd (q4 + 2) 86 (bnd (f_X10_writesNumber (σ32 199 (q4 + 2).toNatClampNeg) σ32) fun σ34 => gd (q4 + 4) 86 (if (σ34 199 (q4 + 4).toNatClampNeg) = (-1) then (some ((σ34 198 20), σ34)) else (bnd (f_X10_sign 35 σ34) fun σ37 => gd (q4 + 4) 86 (bnd (f_X10_writesNumber (σ37 199 (q4 + 4).toNatClampNeg) σ37) fun σ39 => bnd (f_X10_sign 42 σ39) fun σ41 => gd (q4 + 5) 86 (bnd (f_X10_writesNumber (σ41 199 (q4 + 5).toNatClampNeg) σ41) fun σ43 => gd (q4 + 6) 86 (if (σ43 199 (q4 + 6).toNatClampNeg) = 1 then (bnd (f_X10_sign 33 σ43) fun σ46 => some ((σ46 198 20), σ46)) else (some ((σ43 198 20), σ43))))))))) else (gd (q4 + 1) 86 (bnd (f_X10_writesNumber (σ5 199 (q4 + 1).toNatClampNeg) σ5) fun σ8 => bnd (f_X10_sign 43 σ8) fun σ10 => gd (q4 + 2) 86 (bnd (f_X10_writesNumber (σ10 199 (q4 + 2).toNatClampNeg) σ10) fun σ12 => gd (q4 + 4) 86 (if (σ12 199 (q4 + 4).toNatClampNeg) = (-1) then (some ((σ12 198 20), σ12)) else (bnd (f_X10_sign 35 σ12) fun σ15 => gd (q4 + 4) 86 (bnd (f_X10_writesNumber (σ15 199 (q4 + 4).toNatClampNeg) σ15) fun σ17 => bnd (f_X10_sign 42 σ17) fun σ19 => gd (q4 + 5) 86 (bnd (f_X10_writesNumber (σ19 199 (q4 + 5).toNatClampNeg) σ19) fun σ21 => gd (q4 + 6) 86 (if (σ21 199 (q4 + 6).toNatClampNeg) = 1 then (bnd (f_X10_sign 33 σ21) fun σ24 => some ((σ24 198 20), σ24)) else (some ((σ21 198 20), σ21))))))))))))) := by
      intro τ p P ht k
      have e199 : (up τ 198 12 0) 199 = f := by rw [thr199, ht 199 (by omega) (by omega), hf]
      rw [lt_d, n_isV hm (by rw [e199]; exact ho.2.1.2), e, bnd_d]
      dsimp only
      rw [if_neg one_ne, n_vAt, bnd_d, lt_d, show I (46 + 8 * v) + 7 = I (46 + 8 * v + 7) from I_a7 _, show I (46 + 8 * v) + 1 = I (46 + 8 * v + 1) from I_a1 _, gd_I (show 46 + 8 * v + 7 < 86 by omega) (by omega), gd_I (show 46 + 8 * v + 1 < 86 by omega) (by omega), I_clamp (show 46 + 8 * v + 7 < 2147483648 by omega), I_clamp (show 46 + 8 * v + 1 < 2147483648 by omega), up_n (up τ 198 12 0) 20 0 (show 199 ≠ 198 by omega), e199, c2]
      exact k e199
    by_cases q : f (46 + 8 * v + 7) = 0
    · have q1 : ¬ f (46 + 8 * v + 7) = 1 := by rw [q]; exact zero_ne
      have dc : nd c ≤ 2 := by unfold nd; rw [show ∀ x y : Nat, (if c < 100 then x else y) = x from fun x y => if_pos (by omega)]; split <;> omega
      obtain ⟨σ2, s2, S2⟩ := c_num (x := c) S1 (by show 0 + nd c ≤ 16; omega) (by omega)
      obtain ⟨τ, t1, t2⟩ := c_tail (h := hh) (by rw [tn_1]; show 0 + nd c ≤ 3; omega) h ho v1 hhe (by omega) S2
      rw [if_pos q, s2, bnd_d, t1]
      refine ⟨_, τ, rfl, ?_⟩
      refine ref τ (lineP hh (bondV v f) (tn c (0, fun _ => 0))) (fun o => ∃ r ρ, o = some (r, ρ) ∧ RR B ρ ∧ same2 (Sum.inl (I (lineP hh (bondV v f) (tn c (0, fun _ => 0))).1)) 1 e2 r (ρ 198 12)) t2.2.2.2.2 (fun {σ5} _ => ?_)
      obtain ⟨ρ2, w2, W2⟩ := r_num (x := c) (RLn.start (up τ 198 12 0) (fun _ => 0)) (by show 0 + nd c ≤ 30; omega) (by omega)
      obtain ⟨ρ, w3, W3⟩ := r_tail (f := f) (h := hh) (by rw [tn_1]; show 0 + nd c ≤ 3; omega) (by rw [up_n _ _ _ (by omega), up_n _ _ _ (by omega), t2.2.2.2.2 199 (by omega) (by omega), hf]) ho v1 hhe (by omega) W2
      obtain ⟨x1, x2⟩ := R.line t2 W3
      rw [if_neg q1, w2, bnd_d, w3]
      exact ⟨_, ρ, rfl, x1, x2, rfl⟩
    · have q1 : f (46 + 8 * v + 7) = 1 := (okV.out ov).resolve_left q
      obtain ⟨σ2, s2, S2⟩ := c_out S1
      obtain ⟨τ, t1, t2⟩ := c_tail (h := hh) (by show 3 ≤ 3; omega) h ho v1 hhe (by omega) S2
      rw [if_neg q, s2, bnd_d, t1]
      refine ⟨_, τ, rfl, ?_⟩
      refine ref τ (lineP hh (bondV v f) (tc 116 (tc 117 (tc 111 (0, fun _ => 0))))) (fun o => ∃ r ρ, o = some (r, ρ) ∧ RR B ρ ∧ same2 (Sum.inl (I (lineP hh (bondV v f) (tc 116 (tc 117 (tc 111 (0, fun _ => 0))))).1)) 1 e2 r (ρ 198 12)) t2.2.2.2.2 (fun {σ5} _ => ?_)
      obtain ⟨ρ1, y1, Y1⟩ := r_sgn (c := 111) (RLn.start (up τ 198 12 0) (fun _ => 0)) (by show 0 < 30; omega)
      obtain ⟨ρ2, y2, Y2⟩ := r_sgn (c := 117) Y1 (by show 1 < 30; omega)
      obtain ⟨ρ3, y3, Y3⟩ := r_sgn (c := 116) Y2 (by show 2 < 30; omega)
      obtain ⟨ρ, w3, W3⟩ := r_tail (f := f) (h := hh) (by show 3 ≤ 3; omega) (by rw [up_n _ _ _ (by omega), up_n _ _ _ (by omega), t2.2.2.2.2 199 (by omega) (by omega), hf]) ho v1 hhe (by omega) Y3
      obtain ⟨x1, x2⟩ := R.line t2 W3
      rw [if_pos q1, show f_X10_sign 111 _ = some ρ1 from y1, bnd_d, show f_X10_sign 117 ρ1 = some ρ2 from y2, bnd_d, show f_X10_sign 116 ρ2 = some ρ3 from y3, bnd_d, w3]
      exact ⟨_, ρ, rfl, x1, x2, rfl⟩
