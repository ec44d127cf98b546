/-! TEXTS: the class reads a command -/
theorem bz_if {α : Type} (c : Prop) [Decidable c] (a : Option α) : bz (if c then 0 else 1) a = a := by
  by_cases h : c
  · rw [if_pos h]; rfl
  · rw [if_neg h]; rfl
theorem ff : ¬ false = true := by decide
theorem cz_I {α : Type} {c : Nat} (h : c < 65536) (a : Option α) : cz (I c) a = a := by
  unfold cz
  exact if_pos (show vp_nar .char (I c) = I c from nar_ch h)
section
variable {t : Nat → Nat} {L n p k : Nat} {V : Nat → Int32} {σ : Mm}
theorem z_tk (hn : n < 30) (hk : k < 3) (x : Int32) (Z : CZ t L n (p, false, k, V) σ) : ∃ τ, f_X0_keepNumber x (up σ 162 4 (I (p + 1))) = some (1, τ) ∧ CZ t L n (p + 1, false, k + 1, upd V k x) τ ∧ frC n σ τ := by
  obtain ⟨h3, h4, h5, h6, hs⟩ := id Z
  obtain ⟨h6, hV⟩ := h6 rfl
  obtain ⟨τ, t1, t2, t3⟩ := z_kept (t := t) (L := L) (V := V) (p1 := p + 1) (σ := up σ 162 4 (I (p + 1))) hn hk x (by rw [up_e, upd_n _ _ (by omega)]; exact h3) (by rw [up_e, upd_n _ _ (by omega)]; exact h5) (by rw [up_e, upd_n _ _ (by omega)]; exact h6) (fun i hi => by rw [up_n _ _ _ (by omega)]; exact hV i hi) (fun j hj => by rw [up_n _ _ _ (by omega)]; exact hs j hj) (by rw [up_e, upd_e])
  exact ⟨τ, t1, t2, frC.trans ⟨fun a z _ => up_n _ _ _ z, fun j z _ => by rw [up_e, upd_n _ _ z]⟩ t3⟩
theorem z_dir (hL : L ≤ 60) (ht : ∀ j, j < L → t j < 65536) (hp : p ≤ L) (hn : n < 30) (hk : k < 3) (Z : CZ t L n (p, false, k, V) σ) :
    ∃ τ, f_X0_readDirection σ = some (if (rdW t L (p, false, k, V)).2.1 = true then 0 else 1, τ) ∧ CZ t L n (rdW t L (p, false, k, V)) τ ∧ frC n σ τ := by
  obtain ⟨h3, h4, h5, h6, hs⟩ := id Z
  have T := fun c hc => z_take hL ht hp c hc h3 h4 hs
  have T1 : f_X0_takeSign 110 σ = some (if p < L ∧ t p = 110 then (1, up σ 162 4 (I (p + 1))) else (0, σ)) := T 110 (by omega)
  have T2 : f_X0_takeSign 101 σ = some (if p < L ∧ t p = 101 then (1, up σ 162 4 (I (p + 1))) else (0, σ)) := T 101 (by omega)
  have T3 : f_X0_takeSign 115 σ = some (if p < L ∧ t p = 115 then (1, up σ 162 4 (I (p + 1))) else (0, σ)) := T 115 (by omega)
  have T4 : f_X0_takeSign 119 σ = some (if p < L ∧ t p = 119 then (1, up σ 162 4 (I (p + 1))) else (0, σ)) := T 119 (by omega)
  unfold f_X0_readDirection rdW
  dsimp only
  rw [if_neg ff, T1]
  by_cases q1 : p < L ∧ t p = 110
  · obtain ⟨τ, t1, t2, t3⟩ := z_tk hn hk 0 Z
    rw [if_pos q1, bnm_d, if_neg one_ne, t1, bnm_d, bz_i1, if_pos q1.1, show dirN (t p) = some 0 by rw [q1.2]; rfl]
    exact ⟨τ, rfl, t2, t3⟩
  rw [if_neg q1, bnm_d, if_pos rfl, T2]
  by_cases q2 : p < L ∧ t p = 101
  · obtain ⟨τ, t1, t2, t3⟩ := z_tk hn hk 1 Z
    rw [if_pos q2, bnm_d, if_neg one_ne, t1, bnm_d, bz_i1, if_pos q2.1, show dirN (t p) = some 1 by rw [q2.2]; rfl]
    exact ⟨τ, rfl, t2, t3⟩
  rw [if_neg q2, bnm_d, if_pos rfl, T3]
  by_cases q3 : p < L ∧ t p = 115
  · obtain ⟨τ, t1, t2, t3⟩ := z_tk hn hk 2 Z
    rw [if_pos q3, bnm_d, if_neg one_ne, t1, bnm_d, bz_i1, if_pos q3.1, show dirN (t p) = some 2 by rw [q3.2]; rfl]
    exact ⟨τ, rfl, t2, t3⟩
  rw [if_neg q3, bnm_d, if_pos rfl, T4]
  by_cases q4 : p < L ∧ t p = 119
  · obtain ⟨τ, t1, t2, t3⟩ := z_tk hn hk 3 Z
    rw [if_pos q4, bnm_d, if_neg one_ne, t1, bnm_d, if_neg one_ne, if_pos q4.1, show dirN (t p) = some 3 by rw [q4.2]; rfl]
    exact ⟨τ, rfl, t2, t3⟩
  rw [if_neg q4, bnm_d, if_pos rfl]
  have e : (if p < L then dirN (t p) else none) = none := by
    by_cases q : p < L
    · rw [if_pos q]; unfold dirN
      rw [if_neg (fun z => q1 ⟨q, z⟩), if_neg (fun z => q2 ⟨q, z⟩), if_neg (fun z => q3 ⟨q, z⟩), if_neg (fun z => q4 ⟨q, z⟩)]
    · rw [if_neg q]
  rw [e]
  exact ⟨σ, rfl, ⟨h3, h4, h5, fun z => (by cases z), hs⟩, frC.refl n σ⟩
theorem z_part (hL : L ≤ 60) (ht : ∀ j, j < L → t j < 65536) (hp : p ≤ L) (hn : n < 30) {c : Nat} (hc : c < 65536) (hk : isNum c = true → k < 3) (Z : CZ t L n (p, false, k, V) σ) :
    ∃ τ, f_X0_readPart (I c) σ = some (if (rdP t L c (p, false, k, V)).2.1 = true then 0 else 1, τ) ∧ CZ t L n (rdP t L c (p, false, k, V)) τ ∧ frC n σ τ := by
  obtain ⟨h3, h4, h5, h6, hs⟩ := id Z
  have ne : ∀ {d : Nat}, d < 65536 → c ≠ d → ¬ I c = I d := fun hd h => I_beq (by omega) (by omega) h
  unfold f_X0_readPart rdP
  by_cases q1 : c = 68
  · subst q1
    obtain ⟨τ, t1, t2, t3⟩ := z_numD hL ht hp hn (hk rfl) Z
    rw [if_pos (show I 68 = 68 from rfl), if_pos rfl, t1, bnm_d, bz_if]
    exact ⟨τ, rfl, t2, t3⟩
  rw [if_neg (show ¬ I c = 68 from ne (d := 68) (by omega) q1), if_neg q1]
  by_cases q2 : c = 78
  · subst q2
    obtain ⟨τ, t1, t2, t3⟩ := z_numN hL ht hp hn (hk rfl) Z
    rw [if_pos (show I 78 = 78 from rfl), if_pos rfl, t1, bnm_d, bz_if]
    exact ⟨τ, rfl, t2, t3⟩
  rw [if_neg (show ¬ I c = 78 from ne (d := 78) (by omega) q2), if_neg q2]
  by_cases q3 : c = 87
  · subst q3
    obtain ⟨τ, t1, t2, t3⟩ := z_dir hL ht hp hn (hk rfl) Z
    rw [if_pos (show I 87 = 87 from rfl), if_pos rfl, t1, bnm_d, bz_if]
    exact ⟨τ, rfl, t2, t3⟩
  rw [if_neg (show ¬ I c = 87 from ne (d := 87) (by omega) q3), if_neg q3]
  by_cases q4 : c = 88
  · subst q4
    rw [if_pos (show I 88 = 88 from rfl), if_pos rfl, show f_X0_takeSign 120 σ = some (if p < L ∧ t p = 120 then (1, up σ 162 4 (I (p + 1))) else (0, σ)) from z_take hL ht hp 120 (by omega) h3 h4 hs]
    unfold rdX
    dsimp only
    rw [if_neg ff]
    by_cases q : p < L ∧ t p = 120
    · obtain ⟨τ, t1, t2, t3⟩ := z_tk hn (hk rfl) (-1) Z
      rw [if_pos q, bnm_d, if_neg one_ne, t1, bnm_d, bz_i1, if_pos q]
      exact ⟨τ, rfl, t2, t3⟩
    · obtain ⟨τ, t1, t2, t3⟩ := z_numN hL ht hp hn (hk rfl) Z
      rw [if_neg q, bnm_d, if_pos rfl, t1, bnm_d, bz_if, if_neg q]
      exact ⟨τ, rfl, t2, t3⟩
  rw [if_neg (show ¬ I c = 88 from ne (d := 88) (by omega) q4), if_neg q4, z_take hL ht hp c hc h3 h4 hs]
  unfold rdS
  dsimp only
  rw [if_neg ff]
  by_cases q : p < L ∧ t p = c
  · rw [if_pos q, bnm_d, bz_i1, if_pos q]
    obtain ⟨h6, hV⟩ := h6 rfl
    exact ⟨_, rfl, ⟨by rw [up_e, upd_n _ _ (by omega)]; exact h3, by rw [up_e, upd_e], by rw [up_e, upd_n _ _ (by omega)]; exact h5, fun _ => ⟨by rw [up_e, upd_n _ _ (by omega)]; exact h6, fun i hi => by rw [up_n _ _ _ (by omega)]; exact hV i hi⟩, fun j hj => by rw [up_n _ _ _ (by omega)]; exact hs j hj⟩, ⟨fun a z _ => up_n _ _ _ z, fun j z _ => by rw [up_e, upd_n _ _ z]⟩⟩
  · rw [if_neg q, bnm_d, bz_i0, if_neg q]
    exact ⟨σ, rfl, ⟨h3, h4, h5, fun z => (by cases z), hs⟩, frC.refl n σ⟩
end
def numL (r : List Nat) : Nat := (r.filter isNum).length
theorem rdP_k {t : Nat → Nat} {L c : Nat} {s : Rd} (h : (rdP t L c s).2.1 = false) : (rdP t L c s).2.2.1 = s.2.2.1 + (if isNum c = true then 1 else 0) := by
  obtain ⟨p, w, k, V⟩ := s
  cases w with
  | true => rw [rdP_w t L c _ rfl] at h; cases h
  | false =>
    have eD : ∀ s : Rd, s.2.1 = false → (rdD t L s).2.1 = false → (rdD t L s).2.2.1 = s.2.2.1 + 1 := by
      intro s hs
      unfold rdD
      rw [if_neg (by rw [hs]; exact ff)]
      split
      · intro _; rfl
      · intro z; cases z
    have eN : ∀ s : Rd, s.2.1 = false → (rdN t L s).2.1 = false → (rdN t L s).2.2.1 = s.2.2.1 + 1 := by
      intro s hs
      unfold rdN
      rw [if_neg (by rw [hs]; exact ff)]
      split
      · split <;> (intro _; rfl)
      · intro z; cases z
    have eW : ∀ s : Rd, s.2.1 = false → (rdW t L s).2.1 = false → (rdW t L s).2.2.1 = s.2.2.1 + 1 := by
      intro s hs
      unfold rdW
      rw [if_neg (by rw [hs]; exact ff)]
      cases (if s.1 < L then dirN (t s.1) else none) with
      | none => intro z; cases z
      | some d => intro _; rfl
    have eX : ∀ s : Rd, s.2.1 = false → (rdX t L s).2.1 = false → (rdX t L s).2.2.1 = s.2.2.1 + 1 := by
      intro s hs
      unfold rdX
      rw [if_neg (by rw [hs]; exact ff)]
      split
      · intro _; rfl
      · exact eN s hs
    have eS : ∀ s : Rd, s.2.1 = false → (rdS t L c s).2.1 = false → (rdS t L c s).2.2.1 = s.2.2.1 + 0 := by
      intro s hs
      unfold rdS
      rw [if_neg (by rw [hs]; exact ff)]
      split
      · intro _; rfl
      · intro z; cases z
    unfold rdP at h ⊢
    by_cases q1 : c = 68
    · subst q1; rw [if_pos rfl] at h ⊢; exact eD _ rfl h
    rw [if_neg q1] at h ⊢
    by_cases q2 : c = 78
    · subst q2; rw [if_pos rfl] at h ⊢; exact eN _ rfl h
    rw [if_neg q2] at h ⊢
    by_cases q3 : c = 87
    · subst q3; rw [if_pos rfl] at h ⊢; exact eW _ rfl h
    rw [if_neg q3] at h ⊢
    by_cases q4 : c = 88
    · subst q4; rw [if_pos rfl] at h ⊢; exact eX _ rfl h
    rw [if_neg q4] at h ⊢
    rw [eS _ rfl h, if_neg]
    unfold isNum
    simp [q1, q2, q3, q4]
theorem rdF_k {t : Nat → Nat} {L : Nat} : ∀ (r : List Nat) (s : Rd), (rdF t L r s).2.1 = false → (rdF t L r s).2.2.1 = s.2.2.1 + numL r := by
  intro r
  induction r with
  | nil => intro s _; rfl
  | cons c r ih =>
    intro s h
    unfold rdF at h ⊢
    have h1 : (rdP t L c s).2.1 = false := by
      cases e : (rdP t L c s).2.1 with
      | false => rfl
      | true => rw [rdF_w t L r _ e, e] at h; cases h
    rw [ih _ h, rdP_k h1]
    unfold numL
    by_cases q : isNum c = true
    · rw [if_pos q, List.filter_cons_of_pos q, List.length_cons]; omega
    · rw [if_neg q, List.filter_cons_of_neg q]; omega
theorem rdF_le {t : Nat → Nat} {L : Nat} : ∀ (r : List Nat) (s : Rd), s.1 ≤ L → (rdF t L r s).1 ≤ L := by
  intro r
  induction r with
  | nil => intro s h; exact h
  | cons c r ih => intro s h; exact ih _ (rdP_le h)
theorem rdP_ge {t : Nat → Nat} {L c : Nat} {s : Rd} : s.1 ≤ (rdP t L c s).1 := by
  obtain ⟨p, w, k, V⟩ := s
  have eN : p ≤ (rdN t L (p, w, k, V)).1 := by
    unfold rdN
    repeat' split
    all_goals (dsimp only; omega)
  unfold rdP rdD rdW rdX rdS
  repeat' split
  all_goals first
    | exact eN
    | (dsimp only; omega)
theorem rdF_ge {t : Nat → Nat} {L : Nat} : ∀ (r : List Nat) (s : Rd), s.1 ≤ (rdF t L r s).1 := by
  intro r
  induction r with
  | nil => intro s; exact Nat.le_refl _
  | cons c r ih => intro s; exact Nat.le_trans rdP_ge (ih _)
theorem tx_len (j : Nat) (hj : txN j < 8) (σ : Mm) : f_J0_length_8abf5 j σ = some (I (txN j)) := by
  unfold f_J0_length_8abf5 f_J0_coder_7d493
  rw [bnd_d]
  exact congrArg some ((by decide +kernel : ∀ a, a < 8 → (Int32.ofNat a) >>> ((0 : Int32) &&& 31) = I a) _ hj)
theorem tx_at {j i c : Nat} (hj : txN j < 8) (hi : i < txN j) (hc : c < 128) (h : txC j i = I c) (σ : Mm) : f_J0_charAt_5068e j (I i) σ = some (I c) := by
  unfold f_J0_charAt_5068e f_J0_isLatin1_aae02 f_J1_charAt_3b067 f_J0_checkIndex_df160 f_J3_checkIndex_8e157
  have e : ((((I c) &&& 255).toUInt32 % 65536).toInt32) = I c := (by decide +kernel : ∀ c, c < 128 → ((((I c) &&& 255).toUInt32 % 65536).toInt32) = I c) c hc
  rw [bnd_d, if_neg one_ne, if_neg (I_n0 (by omega)), if_pos ((I_lt (a := i) (b := txN j) (by omega) (by omega)).mpr hi), bnd_d, bnd_d, gd_I hi (by omega), I_clamp (by omega), h, e, cz_I (by omega), bnd_d, cz_I (by omega)]
/-- the form's rest is read -/
theorem z_loop {t : Nat → Nat} {L n j : Nat} {x3 : Int32} (hL : L ≤ 60) (ht : ∀ j, j < L → t j < 65536) (hn : n < 30) (hj : txN j < 8) : ∀ (r : List Nat) (i m : Nat) (s : Rd) (σ : Mm), i + r.length = txN j → (∀ q, q < r.length → txC j (i + q) = I (r.getD q 0)) → (∀ c, c ∈ r → c < 128) → r.length < m → s.2.1 = false → s.1 ≤ L → s.2.2.1 + numL r ≤ 3 → CZ t L n s σ →
    ∃ τ, f_X0_readCommand_l70 j x3 m (I i) σ = (if (rdF t L r s).2.1 = true then some (0, τ) else some (1, up τ 162 5 (I (n + 1)))) ∧ CZ t L n (rdF t L r s) τ ∧ frC n σ τ := by
  intro r
  induction r with
  | nil =>
    intro i m s σ h1 h2 h3 h4 h5 h6 h7 Z
    obtain ⟨m, rfl⟩ : ∃ k, m = k + 1 := ⟨m - 1, by simp at h4; omega⟩
    have e : i = txN j := by simpa using h1
    rw [e, f_X0_readCommand_l70, tx_len j hj, bnd_d, if_pos (Int32.le_refl _), Z.2.2.1, I_a1, lt_d]
    refine ⟨σ, ?_, Z, frC.refl n σ⟩
    rw [show rdF t L [] s = s from rfl, if_neg (by rw [h5]; exact ff)]
  | cons c r ih =>
    intro i m s σ h1 h2 h3 h4 h5 h6 h7 Z
    obtain ⟨m, rfl⟩ : ∃ k, m = k + 1 := ⟨m - 1, by simp at h4; omega⟩
    rw [List.length_cons] at h1 h4
    have hi : i < txN j := by omega
    have hc : c < 128 := h3 c List.mem_cons_self
    have c0 : txC j i = I c := h2 0 (by rw [List.length_cons]; omega)
    have hnum : isNum c = true → s.2.2.1 < 3 := fun z => by
      unfold numL at h7; rw [List.filter_cons_of_pos z, List.length_cons] at h7; omega
    obtain ⟨p, w, k, V⟩ := s
    dsimp only at h5 h6 h7 hnum
    subst h5
    obtain ⟨τ1, t1, t2, t3⟩ := z_part hL ht h6 hn (c := c) (by omega) hnum Z
    rw [f_X0_readCommand_l70, tx_len j hj, bnd_d, if_neg (nle hi (by omega)), tx_at hj hi hc c0, bnd_d, t1, bnm_d]
    by_cases q : (rdP t L c (p, false, k, V)).2.1 = true
    · have e2 : rdF t L (c :: r) (p, false, k, V) = rdP t L c (p, false, k, V) := rdF_w t L r _ q
      rw [if_pos q, if_pos rfl, e2]
      exact ⟨τ1, by rw [if_pos q], t2, t3⟩
    · rw [if_neg q, if_neg one_ne, I_a1, lt_d]
      have q' : (rdP t L c (p, false, k, V)).2.1 = false := by cases e : (rdP t L c (p, false, k, V)).2.1 with | false => rfl | true => exact absurd e q
      have hk := rdP_k q'
      dsimp only at hk
      have h7' : (rdP t L c (p, false, k, V)).2.2.1 + numL r ≤ 3 := by
        rw [hk]
        unfold numL at h7 ⊢
        by_cases z : isNum c = true
        · rw [List.filter_cons_of_pos z, List.length_cons] at h7; rw [if_pos z]; omega
        · rw [List.filter_cons_of_neg z] at h7; rw [if_neg z]; omega
      obtain ⟨τ, u1, u2, u3⟩ := ih (i + 1) m _ τ1 (by omega) (fun q hq => by rw [show i + 1 + q = i + (q + 1) by omega, h2 (q + 1) (by rw [List.length_cons]; omega)]; rfl) (fun d hd => h3 d (List.mem_cons_of_mem _ hd)) (by omega) q' (rdP_le h6) h7' t2
      exact ⟨τ, u1, u2, t3.trans u3⟩
