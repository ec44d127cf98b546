/-! VISITORS: rest, bond -/
theorem m_isIn {σ : Mm} {f : Fm} {v : Nat} (h : rep 0 σ f) (hv : v < 5) (hf : ¬ f 1 ≤ I v) (a : Int32) : f_X7_isIn (9 + v) a σ = some (if f (46 + 8 * v + 7) = 0 ∧ f (46 + 8 * v + 1) = a then 1 else 0) := by
  unfold f_X7_isIn
  rw [h.getV hv (by omega) hf, h.getV hv (by omega) hf]
  by_cases q : f (46 + 8 * v + 7) = 0
  · rw [if_pos q]
    by_cases w : f (46 + 8 * v + 1) = a
    · rw [if_pos w, if_pos ⟨q, w⟩]
    · rw [if_neg w, if_neg (fun z => w z.2)]
  · rw [if_neg q, if_neg (fun z => q z.1)]
theorem hfI {f : Fm} {m v : Nat} (h : f 1 = I m) (hm : m ≤ 5) (hv : v < m) : ¬ f 1 ≤ I v := by rw [h]; exact nle hv (by omega)
theorem okV.out {B n : Nat} {f : Fm} {v : Nat} (h : okV B n f v) : f (46 + 8 * v + 7) = 0 ∨ f (46 + 8 * v + 7) = 1 := by
  rcases h.2.2.2 with ⟨-, -, -, h⟩ | ⟨-, -, -, h⟩
  · exact h
  · exact Or.inl h
def S_rest (x t : Int32) (f : Fm) : Rs := match ix x (f 1).toNatClampNeg with
  | none => no 7 (f 1)
  | some v => if 1 ≤ t ∧ t ≤ 9 then (if f (46 + 8 * v + 7) = 0 then yes (f (46 + 8 * v + 2) + t) (upd f (46 + 8 * v + 2) (f (46 + 8 * v + 2) + t)) else no 9 (f (46 + 8 * v + 2))) else no 1 0
theorem rng {t : Int32} {a b : Nat} (h1 : I a ≤ t) (h2 : t ≤ I b) (hb : b < 2147483648) (ha : a < 2147483648) : ∃ n, a ≤ n ∧ n ≤ b ∧ t = I n := by
  have k1 := Int32.le_iff_toInt_le.mp h1
  have k2 := Int32.le_iff_toInt_le.mp h2
  rw [I_toInt ha] at k1
  rw [I_toInt hb] at k2
  refine ⟨t.toInt.toNat, by omega, by omega, ?_⟩
  rw [← Int32.toInt_inj, I_toInt (by omega)]
  omega
theorem c_rest {σ : Mm} {f : Fm} {B : Nat} (hB : B ≤ 1000000) (x t : Int32) (h : rep 0 σ f) (ho : ok B f) : cOk σ (f_X3_restVisitor x t σ) (S_rest x t f) := by
  obtain ⟨n, m, ⟨a1, a2⟩, ⟨b1, b2⟩, hc, hd, hv, mi, le, mo⟩ := ho
  unfold f_X3_restVisitor S_rest
  rw [m_findV h b1 b2, bnd_d, f0c b2 b1 (by omega)]
  cases e0 : ix x m with
  | none =>
    dsimp only
    rw [oc_d, show σ 0 4 = f 1 from h.get0 (k := 1) (by omega)]
    exact c_refuse 7 _ (fun _ _ _ => rfl)
  | some v =>
    obtain ⟨v1, rfl⟩ := ix_lt (by omega) e0
    have hf := hfI b2 b1 v1
    dsimp only
    rw [oc_e]
    by_cases q1 : t < 1
    · rw [if_pos q1, if_neg (fun z => absurd q1 (Int32.not_lt.mpr z.1))]; exact c_refuse 1 0 (fun _ _ _ => rfl)
    · rw [if_neg q1]
      by_cases q2 : t ≤ 9
      · rw [if_pos q2, if_pos (show (1 : Int32) ≤ t ∧ t ≤ 9 from ⟨Int32.not_lt.mp q1, q2⟩), h.getV (by omega) (by omega) hf]
        have g2 : σ (9 + v) 2 = f (46 + 8 * v + 2) := h.getV (by omega) (by omega) hf
        by_cases q3 : f (46 + 8 * v + 7) = 0
        · rw [if_pos q3, if_pos q3, lt_d, g2]
          obtain ⟨-, ⟨y, y1, y2⟩, -⟩ := hv v v1
          obtain ⟨z, z1, z2, z3⟩ := rng (a := 1) (b := 9) (Int32.not_lt.mp q1) q2 (by omega) (by omega)
          refine ⟨_, by rw [up_e, upd_e], ?_, h.vis (by omega) (by omega) hf _, fun i hi _ _ => up_n _ _ _ (by omega)⟩
          rw [y2, z3, I_add]; exact nm1 (by omega)
        · rw [if_neg q3, if_neg q3, g2]; exact c_refuse 9 _ (fun _ _ _ => rfl)
      · rw [if_neg q2, if_neg (fun z => q2 z.2)]; exact c_refuse 1 0 (fun _ _ _ => rfl)
theorem r_rest {σ : Mm} {B : Nat} (x t : Int32) (ho : ok B (σ 199)) : rOk σ (f_X10_restIt x t σ) (S_rest x t (σ 199)) := by
  obtain ⟨n, m, ⟨a1, a2⟩, ⟨b1, b2⟩, hc, hd, hv, mi, le, mo⟩ := ho
  unfold f_X10_restIt S_rest
  rw [n_isV b1 b2, bnd_d, f0c b2 b1 (by omega)]
  cases e0 : ix x m with
  | none => dsimp only; rw [if_pos rfl]; exact r_refuse 7 _ (fun _ _ => rfl)
  | some v =>
    obtain ⟨v1, rfl⟩ := ix_lt (by omega) e0
    dsimp only
    rw [if_neg (by decide), n_in (lo := 1) (hi := 9) rfl rfl, bnd_d]
    by_cases q : (1 : Int32) ≤ t ∧ t ≤ 9
    · rw [if_pos q, if_neg (by decide), if_pos q, n_vAt, bnd_d, I_addL, I_addL]
      simp only [gd_I (show 46 + 8 * v + 7 < 86 by omega) (show 86 < 2147483648 by omega), gd_I (show 46 + 8 * v + 2 < 86 by omega) (show 86 < 2147483648 by omega), I_clamp (show 46 + 8 * v + 7 < 2147483648 by omega), I_clamp (show 46 + 8 * v + 2 < 2147483648 by omega), lt_d]
      rcases (hv v v1).out with w | w
      · rw [if_neg (by rw [w]; decide), if_pos w]
        exact ⟨_, by rw [up_e, upd_e], up_e _ _ _ _, fun i hi _ => up_n _ _ _ hi⟩
      · rw [if_pos w, if_neg (by rw [w]; decide)]; exact r_refuse 9 _ (fun _ _ => rfl)
    · rw [if_neg q, if_pos rfl, if_neg q]; exact r_refuse 1 0 (fun _ _ => rfl)
/-- a visitor's numbers change, the coins don't -/
theorem okC.vis {B B1 n m : Nat} {f g : Fm} (ho : okC B n m f) (hB : B ≤ B1) {v : Nat} (hv : v < m) (e : ∀ k, k < 86 → (∀ j, 1 ≤ j → j < 8 → k ≠ 46 + 8 * v + j) → g k = f k) (hn : okV B1 n g v) : okC B1 n m g := by
  obtain ⟨⟨a1, a2⟩, ⟨b1, b2⟩, c, d, vv, mi, le, mo⟩ := ho
  refine ⟨⟨a1, by rw [e 0 (by omega) (by omega)]; exact a2⟩, ⟨b1, by rw [e 1 (by omega) (by omega)]; exact b2⟩, fun j h1 h2 k hk => by rw [e _ (by omega) (by omega)]; exact c j h1 h2 k hk, fun j h1 h2 k hk => by rw [e _ (by omega) (by omega)]; exact d j h1 h2 k hk, fun j hj => ?_, by rw [e 2 (by omega) (by omega)]; exact mi, fun j hj => by rw [e _ (by omega) (by omega)]; exact le j hj, mo.same (fun j hj => e _ (by omega) (by omega)) (fun j hj => e _ (by omega) (by omega))⟩
  by_cases q : j = v
  · subst q; exact hn
  · exact ((vv j hj).mono hB (Nat.le_refl _)).same (fun k h1 h2 => e _ (by omega) (by omega))
theorem ok_rest {B : Nat} {f g : Fm} {x t r : Int32} (ho : ok B f) (h : S_rest x t f = .inl (r, g)) : ok (B + 9) g := by
  obtain ⟨n, m, hok⟩ := ho
  obtain ⟨⟨a1, a2⟩, ⟨b1, b2⟩, hc, hd, hv, mi, le, mo⟩ := id hok
  unfold S_rest at h
  rw [f0c b2 b1 (by omega)] at h
  cases e0 : ix x m with
  | none => rw [e0] at h; cases h
  | some v =>
    obtain ⟨v1, rfl⟩ := ix_lt (by omega) e0
    rw [e0] at h
    dsimp only at h
    split at h
    · rename_i q
      split at h
      · cases h
        obtain ⟨z, z1, z2, rfl⟩ := rng (a := 1) (b := 9) q.1 q.2 (by omega) (by omega)
        obtain ⟨p1, ⟨y, y1, y2⟩, p3, p4⟩ := hv v v1
        refine ⟨n, m, hok.vis (by omega) v1 (fun k hk hne => upd_n _ _ (hne 2 (by omega) (by omega))) ?_⟩
        unfold okV
        simp (disch := omega) only [upd_n, upd_e]
        exact ⟨p1, ⟨y + z, by omega, by rw [y2, I_add]⟩, p3, p4⟩
      · cases h
    · cases h
/-! bonds -/
def S_bond (x y r : Int32) (f : Fm) : Rs := match ix x (f 0).toNatClampNeg with
  | none => no 4 (f 0)
  | some g => match ix y (f 1).toNatClampNeg with
    | none => no 7 (f 1)
    | some v => if 1 ≤ r ∧ r ≤ 5 then (if f (46 + 8 * v + 7) = 0 then (if f (46 + 8 * v + 4) = -1 then (if f (46 + 8 * v + 1) = f 2 then no 10 (f 2) else
      if 2 * r ≤ f (46 + 8 * v) then yes (f (46 + 8 * v) - 2 * r) (upd (upd (upd (upd (upd f (46 + 8 * v) (f (46 + 8 * v) - 2 * r)) (46 + 8 * v + 4) x) (46 + 8 * v + 5) r) (30 + 4 * g) (f (30 + 4 * g) + 2 * r)) (30 + 4 * g + 1) (f (30 + 4 * g + 1) + 2 * r))
      else no 5 (2 * r - f (46 + 8 * v))) else no 8 (f (46 + 8 * v + 4))) else no 9 (f (46 + 8 * v + 2))) else no 1 0
theorem okV.void {B n : Nat} {f : Fm} {v : Nat} (h : okV B n f v) (hn : n ≤ 4) (q : f (46 + 8 * v + 4) = -1) : f (46 + 8 * v + 5) = 0 ∧ f (46 + 8 * v + 6) = 0 := by
  rcases h.2.2.2 with ⟨-, a, b, -⟩ | ⟨⟨g, g1, g2⟩, -⟩
  · exact ⟨a, b⟩
  · rw [g2] at q
    exact absurd q (nm1 (by omega))
theorem c_bond {σ : Mm} {f : Fm} {B : Nat} (x y r : Int32) (h : rep 0 σ f) (ho : ok B f) : cOk σ (f_X3_giveBond x y r σ) (S_bond x y r f) := by
  obtain ⟨n, m, ⟨a1, a2⟩, ⟨b1, b2⟩, hc, hd, hv, mi, le, c, d, mo1, mo2, mo3⟩ := ho
  unfold f_X3_giveBond S_bond
  rw [m_findG h a1 a2, bnd_d, f0c a2 a1 (by omega), f0c b2 b1 (by omega)]
  cases e0 : ix x n with
  | none =>
    dsimp only
    rw [oc_d, show σ 0 3 = f 0 from h.get0 (k := 0) (by omega)]
    exact c_refuse 4 _ (fun _ _ _ => rfl)
  | some g =>
    obtain ⟨g1, rfl⟩ := ix_lt (by omega) e0
    dsimp only
    rw [oc_e, m_findV h b1 b2, bnd_d]
    cases e1 : ix y m with
    | none =>
      dsimp only
      rw [oc_d, show σ 0 4 = f 1 from h.get0 (k := 1) (by omega)]
      exact c_refuse 7 _ (fun _ _ _ => rfl)
    | some v =>
      obtain ⟨v1, rfl⟩ := ix_lt (by omega) e1
      have hf := hfI b2 b1 v1
      have hV := fun k hk => h.getV (v := v) (k := k) (by omega) hk hf
      dsimp only
      rw [oc_e]
      by_cases q1 : r < 1
      · rw [if_pos q1, if_neg (fun z => absurd q1 (Int32.not_lt.mpr z.1))]; exact c_refuse 1 0 (fun _ _ _ => rfl)
      · rw [if_neg q1]
        by_cases q2 : r ≤ 5
        · rw [if_pos q2, if_pos (show (1 : Int32) ≤ r ∧ r ≤ 5 from ⟨Int32.not_lt.mp q1, q2⟩), hV 7 (by omega)]
          by_cases q3 : f (46 + 8 * v + 7) = 0
          · rw [if_pos q3, if_pos q3]
            unfold f_X7_hasBond
            rw [hV 4 (by omega)]
            by_cases q4 : f (46 + 8 * v + 4) = -1
            · rw [if_pos q4, if_pos q4, bnd_d, if_pos rfl, show σ 0 5 = f 2 from h.get0 (k := 2) (by omega), m_isIn h (by omega) hf, bnd_d]
              by_cases q5 : f (46 + 8 * v + 1) = f 2
              · have hq : f (46 + 8 * v + 7) = 0 ∧ f (46 + 8 * v + 1) = f 2 := ⟨q3, q5⟩
                rw [if_pos hq, if_neg one_ne, if_pos q5]; exact c_refuse 10 _ (fun _ _ _ => rfl)
              · have hq : ¬ (f (46 + 8 * v + 7) = 0 ∧ f (46 + 8 * v + 1) = f 2) := fun z => q5 z.2
                rw [if_neg hq, if_pos rfl, if_neg q5, lt_d, hV 0 (by omega)]
                obtain ⟨z, z1, z2, rfl⟩ := rng (a := 1) (b := 5) (Int32.not_lt.mp q1) q2 (by omega) (by omega)
                by_cases q6 : (2 : Int32) * I z ≤ f (46 + 8 * v + 0)
                · have q6' : (2 : Int32) * I z ≤ f (46 + 8 * v) := q6
                  rw [if_pos q6, if_pos q6']
                  have hd0 := S5_le (c := d) (g := v) (by omega)
                  have c2 : 2 * z ≤ d v := by
                    rw [mo2 v (by omega), I_mulR] at q6'
                    exact (I_le (by omega) (by omega)).mp q6'
                  unfold f_X7_takeBond
                  simp only [lt_d, bnd_d]
                  have r1 := h.vis (v := v) (k := 0) (by omega) (by omega) hf (f (46 + 8 * v) - 2 * I z)
                  have hf1 : ¬ (upd f (46 + 8 * v + 0) (f (46 + 8 * v) - 2 * I z)) 1 ≤ I v := by rw [upd_n _ _ (by omega)]; exact hf
                  have r2 := r1.vis (v := v) (k := 4) (by omega) (by omega) hf1 (I g)
                  have hf2 : ¬ (upd (upd f (46 + 8 * v + 0) (f (46 + 8 * v) - 2 * I z)) (46 + 8 * v + 4) (I g)) 1 ≤ I v := by rw [upd_n _ _ (by omega)]; exact hf1
                  have r3 := r2.vis (v := v) (k := 5) (by omega) (by omega) hf2 (I z)
                  have hf3 : ¬ (upd (upd (upd f (46 + 8 * v + 0) (f (46 + 8 * v) - 2 * I z)) (46 + 8 * v + 4) (I g)) (46 + 8 * v + 5) (I z)) 1 ≤ I v := by rw [upd_n _ _ (by omega)]; exact hf2
                  have r4 := r3.vis (v := v) (k := 6) (by omega) (by omega) hf3 0
                  have r5 := r4.gard (g := g) (k := 0) (by omega) (by omega) (f (30 + 4 * g) + 2 * I z)
                  have r6 := r5.gard (g := g) (k := 1) (by omega) (by omega) (f (30 + 4 * g + 1) + 2 * I z)
                  have hG0 : σ (4 + g) 0 = f (30 + 4 * g) := h.getG (k := 0) (by omega) (by omega)
                  have hG1 : σ (4 + g) 1 = f (30 + 4 * g + 1) := h.getG (by omega) (by omega)
                  have ex : ∃ τ, τ = up (up (up (up (up (up σ (9 + v) 0 (f (46 + 8 * v) - 2 * I z)) (9 + v) 4 (I g)) (9 + v) 5 (I z)) (9 + v) 6 0) (4 + g) 0 (f (30 + 4 * g) + 2 * I z)) (4 + g) 1 (f (30 + 4 * g + 1) + 2 * I z) := ⟨_, rfl⟩
                  obtain ⟨τ, hτ⟩ := ex
                  refine ⟨τ, ?_, ?_, ?_, fun i hi _ _ => ?_⟩
                  · rw [hτ]
                    simp (disch := omega) only [up_e, up_n, upd_e, upd_n, hG0, hG1]
                    rfl
                  · rw [mo2 v (by omega), I_mulR, I_sub c2]; exact nm1 (by omega)
                  · rw [hτ]
                    refine rep.ext r6 (fun k hk => ?_)
                    have hz := (hv v v1).void a1 q4
                    simp only [upd]
                    by_cases p1 : k = 30 + 4 * g + 1
                    · rw [if_pos p1, if_pos p1]
                    · rw [if_neg p1, if_neg p1]
                      by_cases p2 : k = 30 + 4 * g
                      · rw [if_pos (by omega), if_pos p2]
                      · rw [if_neg (by omega), if_neg p2]
                        by_cases p3 : k = 46 + 8 * v + 6
                        · rw [if_pos p3, if_neg (by omega), if_neg (by omega), if_neg (by omega), p3, hz.2]
                        · rw [if_neg p3]; rfl
                  · rw [hτ]
                    simp (disch := omega) only [up_n]
                · have q6' : ¬ (2 : Int32) * I z ≤ f (46 + 8 * v) := q6
                  rw [if_neg q6, if_neg q6']; exact c_refuse 5 _ (fun _ _ _ => rfl)
            · rw [if_neg q4, if_neg q4, bnd_d, if_neg one_ne]; exact c_refuse 8 _ (fun _ _ _ => rfl)
          · rw [if_neg q3, if_neg q3, hV 2 (by omega)]; exact c_refuse 9 _ (fun _ _ _ => rfl)
        · rw [if_neg q2, if_neg (fun z => q2 z.2)]; exact c_refuse 1 0 (fun _ _ _ => rfl)
theorem n_meets {σ : Mm} {v : Nat} (hv : v < 5) : f_X10_meets (I v) σ = some (if σ 199 (46 + 8 * v + 7) = 0 ∧ σ 199 (46 + 8 * v + 1) = σ 199 2 then 1 else 0) := by
  unfold f_X10_meets
  rw [n_vAt, bnd_d, I_addL, I_addL, gd_I (by omega) (by omega), gd_I (by omega) (by omega), I_clamp (by omega), I_clamp (by omega)]
  by_cases q : σ 199 (46 + 8 * v + 7) = 0
  · rw [if_pos q]
    by_cases w : σ 199 (46 + 8 * v + 1) = σ 199 2
    · rw [if_pos w, if_pos ⟨q, w⟩]
    · rw [if_neg w, if_neg (fun z => w z.2)]
  · rw [if_neg q, if_neg (fun z => q z.1)]
theorem r_bond {σ : Mm} {B : Nat} (x y r : Int32) (ho : ok B (σ 199)) : rOk σ (f_X10_bondIt x y r σ) (S_bond x y r (σ 199)) := by
  obtain ⟨n, m, ⟨a1, a2⟩, ⟨b1, b2⟩, hc, hd, hv, mi, le, mo⟩ := ho
  unfold f_X10_bondIt S_bond
  rw [n_isG a1 a2, bnd_d, f0c a2 a1 (by omega), f0c b2 b1 (by omega)]
  cases e0 : ix x n with
  | none => dsimp only; rw [if_pos rfl]; exact r_refuse 4 _ (fun _ _ => rfl)
  | some g =>
    obtain ⟨g1, rfl⟩ := ix_lt (by omega) e0
    dsimp only
    rw [if_neg (by decide), n_isV b1 b2, bnd_d]
    cases e1 : ix y m with
    | none => dsimp only; rw [if_pos rfl]; exact r_refuse 7 _ (fun _ _ => rfl)
    | some v =>
      obtain ⟨v1, rfl⟩ := ix_lt (by omega) e1
      dsimp only
      rw [if_neg (by decide), n_in (lo := 1) (hi := 5) rfl rfl, bnd_d]
      by_cases q : (1 : Int32) ≤ r ∧ r ≤ 5
      · rw [if_pos q, if_neg (by decide), if_pos q, n_vAt, bnd_d]
        simp only [I_a1, I_a2, I_a3, I_a4, I_a5, I_a6, I_a7, gd_I (show 46 + 8 * v + 7 < 86 by omega) (show 86 < 2147483648 by omega), gd_I (show 46 + 8 * v + 2 < 86 by omega) (show 86 < 2147483648 by omega), gd_I (show 46 + 8 * v + 4 < 86 by omega) (show 86 < 2147483648 by omega), gd_I (show 46 + 8 * v + 5 < 86 by omega) (show 86 < 2147483648 by omega), gd_I (show 46 + 8 * v < 86 by omega) (show 86 < 2147483648 by omega), I_clamp (show 46 + 8 * v + 7 < 2147483648 by omega), I_clamp (show 46 + 8 * v + 2 < 2147483648 by omega), I_clamp (show 46 + 8 * v + 4 < 2147483648 by omega), I_clamp (show 46 + 8 * v + 5 < 2147483648 by omega), I_clamp (show 46 + 8 * v < 2147483648 by omega), lt_d, n_gAt, bnd_d, gd_I (show 30 + 4 * g < 86 by omega) (show 86 < 2147483648 by omega), gd_I (show 30 + 4 * g + 1 < 86 by omega) (show 86 < 2147483648 by omega), I_clamp (show 30 + 4 * g < 2147483648 by omega), I_clamp (show 30 + 4 * g + 1 < 2147483648 by omega), n_meets (σ := σ) (v := v) (by omega)]
        rcases (hv v v1).out with w | w
        · rw [if_neg (show ¬ σ 199 (46 + 8 * v + 7) = 1 by rw [w]; decide), if_pos w]
          by_cases q4 : σ 199 (46 + 8 * v + 4) = -1
          · rw [if_pos q4, if_pos q4]
            by_cases q5 : σ 199 (46 + 8 * v + 1) = σ 199 2
            · have hq : σ 199 (46 + 8 * v + 7) = 0 ∧ σ 199 (46 + 8 * v + 1) = σ 199 2 := ⟨w, q5⟩
              rw [if_pos hq, if_neg one_ne, if_pos q5]; exact r_refuse 10 _ (fun _ _ => rfl)
            · have hq : ¬ (σ 199 (46 + 8 * v + 7) = 0 ∧ σ 199 (46 + 8 * v + 1) = σ 199 2) := fun z => q5 z.2
              rw [if_neg hq, if_pos rfl, if_neg q5]
              by_cases q6 : (2 : Int32) * r ≤ σ 199 (46 + 8 * v)
              · rw [if_pos q6, if_pos q6]
                have ex : ∃ τ, τ = up (up (up (up (up σ 199 (46 + 8 * v) (σ 199 (46 + 8 * v) - 2 * r)) 199 (46 + 8 * v + 4) (I g)) 199 (46 + 8 * v + 5) r) 199 (30 + 4 * g) (σ 199 (30 + 4 * g) + 2 * r)) 199 (30 + 4 * g + 1) (σ 199 (30 + 4 * g + 1) + 2 * r) := ⟨_, rfl⟩
                obtain ⟨τ, hτ⟩ := ex
                refine ⟨τ, ?_, ?_, fun i hi _ => ?_⟩
                · rw [hτ]
                  simp (disch := omega) only [up_e, upd_e, upd_n]
                · rw [hτ]; simp only [up_e]
                · rw [hτ]; simp only [up_n _ _ _ hi]
              · rw [if_neg q6, if_neg q6]; exact r_refuse 5 _ (fun _ _ => rfl)
          · rw [if_neg q4, if_neg q4]; exact r_refuse 8 _ (fun _ _ => rfl)
        · rw [if_pos w, if_neg (show ¬ σ 199 (46 + 8 * v + 7) = 0 by rw [w]; decide)]; exact r_refuse 9 _ (fun _ _ => rfl)
      · rw [if_neg q, if_pos rfl, if_neg q]; exact r_refuse 1 0 (fun _ _ => rfl)
theorem ok_bond {B : Nat} {f g : Fm} {x y t r : Int32} (ho : ok B f) (h : S_bond x y t f = .inl (r, g)) : ok (B + 9) g := by
  obtain ⟨n, m, ⟨a1, a2⟩, ⟨b1, b2⟩, hc, hd, hv, mi, le, c, d, mo1, mo2, mo3⟩ := ho
  unfold S_bond at h
  rw [f0c a2 a1 (by omega), f0c b2 b1 (by omega)] at h
  cases e0 : ix x n with
  | none => rw [e0] at h; cases h
  | some u =>
    obtain ⟨u1, rfl⟩ := ix_lt (by omega) e0
    rw [e0] at h
    dsimp only at h
    cases e1 : ix y m with
    | none => rw [e1] at h; cases h
    | some v =>
      obtain ⟨v1, rfl⟩ := ix_lt (by omega) e1
      rw [e1] at h
      dsimp only at h
      split at h
      case isFalse => cases h
      rename_i q1
      split at h
      case isFalse => cases h
      rename_i q2
      split at h
      case isFalse => cases h
      rename_i q3
      split at h
      · cases h
      split at h
      case isFalse => cases h
      rename_i q4
      cases h
      obtain ⟨z, z1, z2, rfl⟩ := rng (a := 1) (b := 5) q1.1 q1.2 (by omega) (by omega)
      have hd0 := S5_le (c := d) (g := v) (by omega)
      have hc0 := S4_le (c := c) (g := u) (by omega)
      rw [mo2 v (by omega), I_mulR] at q4
      have c2 := (I_le (by omega) (by omega)).mp q4
      rw [mo2 v (by omega), mo1 u (by omega), I_mulR, I_sub c2, I_add]
      refine ⟨n, m, ⟨a1, ?_⟩, ⟨b1, ?_⟩, fun i h1 h2 k2 hk2 => ?_, fun i h1 h2 k2 hk2 => ?_, fun i hi => ?_, ?_, fun i hi => ?_, ?_⟩
      · simp (disch := omega) only [upd_n]; exact a2
      · simp (disch := omega) only [upd_n]; exact b2
      · simp (disch := omega) only [upd_n]; exact hc i h1 h2 k2 hk2
      · simp (disch := omega) only [upd_n]; exact hd i h1 h2 k2 hk2
      · by_cases e2 : i = v
        · subst e2
          obtain ⟨p1, p2, p3, p4⟩ := (hv i hi).mono (B1 := B + 9) (by omega) (Nat.le_refl n)
          have hz := (hv i hi).void a1 q3
          unfold okV
          simp (disch := omega) only [upd_n, upd_e]
          exact ⟨p1, p2, p3, Or.inr ⟨⟨u, u1, rfl⟩, ⟨z, z1, z2, rfl⟩, Or.inl hz.2, q2⟩⟩
        · refine ((hv i hi).mono (by omega) (Nat.le_refl _)).same (fun k2 h1 h2 => ?_)
          simp (disch := omega) only [upd_n]
      · simp (disch := omega) only [upd_n]; exact mi
      · simp (disch := omega) only [upd_n]; exact le i hi
      · refine ⟨fun j => if j = u then c u + 2 * z else c j, fun j => if j = v then d v - 2 * z else d j, fun j hj => ?_, fun j hj => ?_, ?_⟩
        · by_cases e2 : j = u
          · subst e2
            simp (disch := omega) only [upd_n, upd_e]
            simp
          · simp (disch := omega) only [upd_n]
            simp [e2]; exact mo1 j hj
        · by_cases e2 : j = v
          · subst e2
            simp (disch := omega) only [upd_n, upd_e]
            simp
          · simp (disch := omega) only [upd_n]
            simp [e2]; exact mo2 j hj
        · have k1 := S4_upd (c := c) (g := u) (by omega) (c u + 2 * z)
          have k2 := S5_upd (c := d) (g := v) (by omega) (d v - 2 * z)
          omega
