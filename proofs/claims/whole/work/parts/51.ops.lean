/-! HEDGES, TRIMS, GARDENERS: what a change answers, what it leaves; the class's way, the reference's way -/
theorem m_put {σ : Mm} {h : Nat} (hh : h < 24) (x : Int32) : f_X4_putLeaves (I h) x σ = some (up σ 2 h x) := by
  unfold f_X4_putLeaves
  rw [if_neg (I_n0 (by omega)), if_neg (show ¬ (24 : Int32) ≤ I h from nle (N := 24) hh (by omega)), gd_I hh (by omega), I_clamp (by omega), lt_d]
def S_hedge (a b c : Int32) (f : Fm) : Rs := match ix c 10 with
  | none => no 1 0
  | some _ => match nb a b with
    | .inr e => no e.1 e.2
    | .inl h => if f (6 + h) = c then no 3 c else yes (f (6 + h)) (upd f (6 + h) c)
theorem I_ne1 {x : Int32} {n : Nat} (h : x = I n) (hn : n < 2147483648) : x ≠ -1 := by rw [h]; exact nm1 hn
theorem c_hedge {σ : Mm} {f : Fm} {B : Nat} (a b c : Int32) (h : rep 0 σ f) (ho : ok B f) : cOk σ (f_X3_tellLeaves a b c σ) (S_hedge a b c f) := by
  unfold f_X3_tellLeaves S_hedge
  rcases ix_cases c (N := 10) (by omega) with ⟨n, h1, h2, h3⟩ | ⟨h1, h3⟩
  · rw [h3]
    dsimp only
    rw [if_neg (show ¬ c < 0 by rw [h2]; exact I_n0 (by omega)), if_pos (show c ≤ 9 by rw [h2]; exact (I_le (b := 9) (by omega) (by omega)).mpr (by omega))]
    have k := c_nb a b σ
    cases e : nb a b with
    | inl g =>
      rw [e] at k
      have hg := nb_lt e
      obtain ⟨-, -, -, -, -, -, -, -, hl, -⟩ := ho
      obtain ⟨l, l1, l2⟩ := hl g hg
      dsimp only at k ⊢
      rw [k, bnm_d, if_neg (nm1 (by omega)), m_leaves hg, bnd_d, h.getL hg]
      by_cases q : f (6 + g) = c
      · rw [if_pos q, if_pos q]; exact c_refuse 3 c (fun _ _ _ => rfl)
      · rw [if_neg q, if_neg q, m_put hg, bnd_d]
        exact ⟨_, rfl, I_ne1 l2 (by omega), h.leaf hg c, fun i hi _ _ => up_n _ _ _ (by omega)⟩
    | inr p =>
      obtain ⟨r, d⟩ := p
      rw [e] at k
      dsimp only at k ⊢
      obtain ⟨τ, t1, t2, t3⟩ := k
      rw [t1, bnm_d, if_pos rfl]
      exact ⟨τ, rfl, t2, fun i hi _ _ => t3 i hi⟩
  · rw [h3]
    dsimp only
    by_cases q : c < 0
    · rw [if_pos q]; exact c_refuse 1 0 (fun _ _ _ => rfl)
    · rw [if_neg q, if_neg (show ¬ c ≤ 9 from fun z => by
        have := Int32.le_trans (h1.resolve_left q) z
        exact absurd this (by decide))]
      exact c_refuse 1 0 (fun _ _ _ => rfl)
theorem r_hedge {σ : Mm} (a b c : Int32) : rOk σ (f_X10_hedgeIt a b c σ) (S_hedge a b c (σ 199)) := by
  unfold f_X10_hedgeIt S_hedge
  rw [n_inN (by omega) (by omega) (show (9 : Int64).toInt = ((10 : Nat) : Int) - 1 by decide), bnd_d]
  cases e3 : ix c 10 with
  | none => dsimp only; rw [if_pos rfl]; exact r_refuse 1 0 (fun _ _ => rfl)
  | some n =>
    dsimp only
    rw [if_neg (by decide)]
    have k := n_nb a b σ
    cases e : nb a b with
    | inl g =>
      rw [e] at k
      have hg := nb_lt e
      dsimp only at k ⊢
      rw [k.1, bnm_d, if_neg (by decide), k.2, bnd_d, gd_I (by omega) (by omega), I_clamp (by omega), lt_d]
      by_cases q : σ 199 (6 + g) = c
      · rw [if_pos q, if_pos q]; exact r_refuse 3 c (fun _ _ => rfl)
      · rw [if_neg q, if_neg q, gd_I (by omega) (by omega), lt_d]
        exact ⟨_, rfl, up_e _ _ _ _, fun i hi _ => up_n _ _ _ hi⟩
    | inr p =>
      obtain ⟨r, d⟩ := p
      rw [e] at k
      dsimp only at k ⊢
      obtain ⟨τ, t1, t2, t3, t4⟩ := k
      rw [t1, bnm_d, if_pos rfl]
      exact ⟨τ, rfl, t2, t3, fun i hi _ => t4 i hi⟩
theorem ok_leaf {B : Nat} {f : Fm} (ho : ok B f) {h l : Nat} (hh : h < 24) (hl : l ≤ 9) : ok B (upd f (6 + h) (I l)) := by
  obtain ⟨n, m, ⟨a1, a2⟩, ⟨b1, b2⟩, c, d, v, mi, le, mo⟩ := ho
  refine ⟨n, m, ⟨a1, by rw [upd_n _ _ (by omega)]; exact a2⟩, ⟨b1, by rw [upd_n _ _ (by omega)]; exact b2⟩, fun j h1 h2 k hk => by rw [upd_n _ _ (by omega)]; exact c j h1 h2 k hk, fun j h1 h2 k hk => by rw [upd_n _ _ (by omega)]; exact d j h1 h2 k hk, fun j hj => (v j hj).same (fun k h1 h2 => upd_n _ _ (by omega)), by rw [upd_n _ _ (by omega)]; exact mi, fun j hj => ?_, mo.same (fun j hj => upd_n _ _ (by omega)) (fun j hj => upd_n _ _ (by omega))⟩
  by_cases e : j = h
  · subst e; exact ⟨l, hl, upd_e _ _ _⟩
  · rw [upd_n _ _ (by omega)]; exact le j hj
theorem ok_hedge {B : Nat} {f g : Fm} {a b c r : Int32} (ho : ok B f) (h : S_hedge a b c f = .inl (r, g)) : ok (B + 9) g := by
  unfold S_hedge at h
  cases e3 : ix c 10 with
  | none => rw [e3] at h; cases h
  | some n =>
    obtain ⟨h1, rfl⟩ := ix_lt (by omega) e3
    rw [e3] at h
    dsimp only at h
    cases e : nb a b with
    | inr p => rw [e] at h; cases h
    | inl k =>
      rw [e] at h
      dsimp only at h
      split at h
      · cases h
      · cases h
        exact (ok_leaf ho (nb_lt e) (by omega)).mono (by omega)
/-! gardeners and visitors by number -/
theorem m_findG {σ : Mm} {f : Fm} {n : Nat} (h : rep 0 σ f) (hn : n ≤ 4) (f0 : f 0 = I n) (a : Int32) : f_X6_findGardener a σ = some (match ix a n with | none => none | some g => some (4 + g)) := by
  unfold f_X6_findGardener
  rw [show σ 0 3 = I n from (h.get0 (k := 0) (by omega)).trans f0]
  rcases ix_cases a (N := n) (by omega) with ⟨g, h1, h2, h3⟩ | ⟨h1, h3⟩
  · rw [h3, h2, if_neg (I_n0 (by omega)), if_neg (nle h1 (by omega)), gd_I (by omega) (by omega), I_clamp (by omega)]
  · rw [h3]
    by_cases q : a < 0
    · rw [if_pos q]
    · rw [if_neg q, if_pos (h1.resolve_left q)]
theorem m_findV {σ : Mm} {f : Fm} {m : Nat} (h : rep 0 σ f) (hm : m ≤ 5) (f1 : f 1 = I m) (a : Int32) : f_X6_findVisitor a σ = some (match ix a m with | none => none | some v => some (9 + v)) := by
  unfold f_X6_findVisitor
  rw [show σ 0 4 = I m from (h.get0 (k := 1) (by omega)).trans f1]
  rcases ix_cases a (N := m) (by omega) with ⟨g, h1, h2, h3⟩ | ⟨h1, h3⟩
  · rw [h3, h2, if_neg (I_n0 (by omega)), if_neg (nle h1 (by omega)), gd_I (by omega) (by omega), I_clamp (by omega)]
  · rw [h3]
    by_cases q : a < 0
    · rw [if_pos q]
    · rw [if_neg q, if_pos (h1.resolve_left q)]
theorem n_isG {σ : Mm} {n : Nat} (hn : n ≤ 4) (f0 : σ 199 0 = I n) (a : Int32) : f_X10_isGardener a σ = some (match ix a n with | none => 0 | some _ => 1) := by
  unfold f_X10_isGardener
  rw [f0]
  exact n_in1 hn (by omega)
theorem n_isV {σ : Mm} {m : Nat} (hm : m ≤ 5) (f1 : σ 199 1 = I m) (a : Int32) : f_X10_isVisitor a σ = some (match ix a m with | none => 0 | some _ => 1) := by
  unfold f_X10_isVisitor
  rw [f1]
  exact n_in1 hm (by omega)
theorem n_gAt (g : Nat) (σ : Mm) : f_X10_gardenerAt (I g) σ = some (I (30 + 4 * g)) := by
  unfold f_X10_gardenerAt
  rw [I_mulR, I_addR]
theorem n_vAt (v : Nat) (σ : Mm) : f_X10_visitorAt (I v) σ = some (I (46 + 8 * v)) := by
  unfold f_X10_visitorAt
  rw [I_mulR, I_addR]
/-! trims -/
def S_trim (g a b : Int32) (f : Fm) : Rs := match ix g (f 0).toNatClampNeg with
  | none => no 4 (f 0)
  | some j => match nb a b with
    | .inr e => no e.1 e.2
    | .inl h => if f (6 + h) = 0 then no 3 0 else if 2 ≤ f (30 + 4 * j) then yes (f (30 + 4 * j) - 2) (upd (upd (upd (upd f (6 + h) 0) (30 + 4 * j) (f (30 + 4 * j) - 2)) (30 + 4 * j + 3) (f (30 + 4 * j + 3) + 1)) 5 (f 5 + 2)) else no 5 (2 - f (30 + 4 * j))
theorem f0c {f : Fm} {n N : Nat} {k : Nat} (h : f k = I n) (hn : n ≤ N) (hN : N < 2147483648) : (f k).toNatClampNeg = n := by rw [h, I_clamp (by omega)]
theorem c_trim {σ : Mm} {f : Fm} {B : Nat} (g a b : Int32) (h : rep 0 σ f) (ho : ok B f) : cOk σ (f_X3_trimHedge g a b σ) (S_trim g a b f) := by
  obtain ⟨n, m, ⟨a1, a2⟩, ⟨b1, b2⟩, hc, hd, hv, mi, le, c, d, mo1, mo2, mo3⟩ := ho
  unfold f_X3_trimHedge S_trim
  rw [m_findG h a1 a2, bnd_d, f0c a2 a1 (by omega)]
  cases e0 : ix g n with
  | none =>
    dsimp only
    rw [oc_d, show σ 0 3 = f 0 from h.get0 (k := 0) (by omega)]
    exact c_refuse 4 _ (fun _ _ _ => rfl)
  | some j =>
    obtain ⟨j1, rfl⟩ := ix_lt (by omega) e0
    dsimp only
    rw [oc_e]
    have k := c_nb a b σ
    cases e : nb a b with
    | inl x =>
      rw [e] at k
      have hx := nb_lt e
      dsimp only at k ⊢
      rw [k, bnm_d, if_neg (nm1 (by omega)), m_leaves hx, bnd_d, h.getL hx]
      by_cases q : f (6 + x) = 0
      · rw [if_pos q, if_pos q]; exact c_refuse 3 0 (fun _ _ _ => rfl)
      · rw [if_neg q, if_neg q]
        have hg0 : σ (4 + j) 0 = f (30 + 4 * j) := h.getG (k := 0) (by omega) (by omega)
        have hg3 : σ (4 + j) 3 = f (30 + 4 * j + 3) := h.getG (by omega) (by omega)
        have h8 : σ 0 8 = f 5 := h.get0 (k := 5) (by omega)
        rw [hg0]
        by_cases w : (2 : Int32) ≤ f (30 + 4 * j)
        · rw [if_pos w, if_pos w, m_put hx, bnd_d, lt_d, lt_d, lt_d]
          have c0 := mo1 j (by omega)
          have c2 : 2 ≤ c j := by rw [c0] at w; exact (I_le (a := 2) (by omega) (by have := S4_le (c := c) (g := j) (by omega); omega)).mp w
          obtain ⟨τ, hτ⟩ : ∃ τ, τ = up (up (up (up σ 2 x 0) (4 + j) 0 (f (30 + 4 * j) - 2)) (4 + j) 3 (f (30 + 4 * j + 3) + 1)) 0 8 (f 5 + 2) := ⟨_, rfl⟩
          refine ⟨τ, ?_, ?_, ?_, fun i hi _ _ => ?_⟩
          · rw [hτ]
            simp (disch := omega) only [up_e, up_n, upd_e, upd_n, hg0, hg3, h8]
          · rw [c0, show I (c j) - 2 = I (c j - 2) from I_sub c2]
            exact nm1 (by have := S4_le (c := c) (g := j) (by omega); omega)
          · rw [hτ]
            exact (((h.leaf hx 0).gard (g := j) (k := 0) (by omega) (by omega) (f (30 + 4 * j) - 2)).gard (g := j) (k := 3) (by omega) (by omega) (f (30 + 4 * j + 3) + 1)).top (k := 5) (by omega) (by omega) (f 5 + 2)
          · rw [hτ]
            simp (disch := omega) only [up_n]
        · rw [if_neg w, if_neg w]; exact c_refuse 5 _ (fun _ _ _ => rfl)
    | inr p =>
      obtain ⟨r, d⟩ := p
      rw [e] at k
      dsimp only at k ⊢
      obtain ⟨τ, t1, t2, t3⟩ := k
      rw [t1, bnm_d, if_pos rfl]
      exact ⟨τ, rfl, t2, fun i hi _ _ => t3 i hi⟩
theorem r_trim {σ : Mm} {B : Nat} (g a b : Int32) (ho : ok B (σ 199)) : rOk σ (f_X10_trimIt g a b σ) (S_trim g a b (σ 199)) := by
  obtain ⟨n, m, ⟨a1, a2⟩, -⟩ := ho
  unfold f_X10_trimIt S_trim
  rw [n_isG a1 a2, bnd_d, f0c a2 a1 (by omega)]
  cases e0 : ix g n with
  | none => dsimp only; rw [if_pos rfl]; exact r_refuse 4 _ (fun _ _ => rfl)
  | some j =>
    obtain ⟨j1, rfl⟩ := ix_lt (by omega) e0
    dsimp only
    rw [if_neg (by decide)]
    have k := n_nb a b σ
    cases e : nb a b with
    | inl x =>
      rw [e] at k
      have hx := nb_lt e
      dsimp only at k ⊢
      rw [k.1, bnm_d, if_neg (by decide), k.2, bnd_d, n_gAt, bnd_d, gd_I (by omega) (by omega), I_clamp (by omega)]
      by_cases q : σ 199 (6 + x) = 0
      · rw [if_pos q, if_pos q]; exact r_refuse 3 0 (fun _ _ => rfl)
      · rw [if_neg q, if_neg q, gd_I (by omega) (by omega), I_clamp (by omega)]
        by_cases w : (2 : Int32) ≤ σ 199 (30 + 4 * j)
        · rw [if_pos w, if_pos w, I_addL]
          simp only [gd_I (show 6 + x < 86 by omega) (show 86 < 2147483648 by omega), gd_I (show 30 + 4 * j < 86 by omega) (show 86 < 2147483648 by omega), gd_I (show 30 + 4 * j + 3 < 86 by omega) (show 86 < 2147483648 by omega), I_clamp (show 30 + 4 * j + 3 < 2147483648 by omega), lt_d, up_e]
          rw [upd_n (σ 199) _ (show 30 + 4 * j ≠ 6 + x by omega), upd_n _ _ (show 30 + 4 * j + 3 ≠ 30 + 4 * j by omega), upd_n _ _ (show 30 + 4 * j + 3 ≠ 6 + x by omega), upd_n _ _ (show 5 ≠ 30 + 4 * j + 3 by omega), upd_n _ _ (show 5 ≠ 30 + 4 * j by omega), upd_n _ _ (show 5 ≠ 6 + x by omega), upd_n _ _ (show 30 + 4 * j ≠ 5 by omega), upd_n _ _ (show 30 + 4 * j ≠ 30 + 4 * j + 3 by omega), upd_e]
          refine ⟨_, rfl, ?_, fun i hi _ => ?_⟩
          · simp only [up_e]
          · simp only [up_n _ _ _ hi]
        · rw [if_neg w, if_neg w, gd_I (by omega) (by omega)]; exact r_refuse 5 _ (fun _ _ => rfl)
    | inr p =>
      obtain ⟨r, d⟩ := p
      rw [e] at k
      dsimp only at k ⊢
      obtain ⟨τ, t1, t2, t3, t4⟩ := k
      rw [t1, bnm_d, if_pos rfl]
      exact ⟨τ, rfl, t2, t3, fun i hi _ => t4 i hi⟩
theorem ok_trim {B : Nat} {f g : Fm} {x a b r : Int32} (ho : ok B f) (h : S_trim x a b f = .inl (r, g)) : ok (B + 9) g := by
  obtain ⟨n, m, ⟨a1, a2⟩, ⟨b1, b2⟩, hc, hd, hv, mi, le, c, d, mo1, mo2, mo3⟩ := ho
  unfold S_trim at h
  rw [f0c a2 a1 (by omega)] at h
  cases e0 : ix x n with
  | none => rw [e0] at h; cases h
  | some j =>
    obtain ⟨j1, rfl⟩ := ix_lt (by omega) e0
    rw [e0] at h
    dsimp only at h
    cases e : nb a b with
    | inr p => rw [e] at h; cases h
    | inl k =>
      have hk := nb_lt e
      rw [e] at h
      dsimp only at h
      split at h
      · cases h
      · split at h
        · rename_i w
          cases h
          have c0 := mo1 j (by omega)
          have c9 := S4_le (c := c) (g := j) (by omega)
          have c2 : 2 ≤ c j := by rw [c0] at w; exact (I_le (a := 2) (by omega) (by omega)).mp w
          rw [c0, show I (c j) - 2 = I (c j - 2) from I_sub c2]
          refine ⟨n, m, ⟨a1, ?_⟩, ⟨b1, ?_⟩, fun i h1 h2 k2 hk2 => ?_, fun i h1 h2 k2 hk2 => ?_, fun i hi => ?_, ?_, fun i hi => ?_, ?_⟩
          · rw [upd_n _ _ (by omega), upd_n _ _ (by omega), upd_n _ _ (by omega), upd_n _ _ (by omega)]; exact a2
          · rw [upd_n _ _ (by omega), upd_n _ _ (by omega), upd_n _ _ (by omega), upd_n _ _ (by omega)]; exact b2
          · rw [upd_n _ _ (by omega), upd_n _ _ (by omega), upd_n _ _ (by omega), upd_n _ _ (by omega)]; exact hc i h1 h2 k2 hk2
          · rw [upd_n _ _ (by omega), upd_n _ _ (by omega), upd_n _ _ (by omega), upd_n _ _ (by omega)]; exact hd i h1 h2 k2 hk2
          · refine ((hv i hi).mono (by omega) (Nat.le_refl _)).same (fun k2 h1 h2 => ?_)
            rw [upd_n _ _ (by omega), upd_n _ _ (by omega), upd_n _ _ (by omega), upd_n _ _ (by omega)]
          · rw [upd_n _ _ (by omega), upd_n _ _ (by omega), upd_n _ _ (by omega), upd_n _ _ (by omega)]; exact mi
          · by_cases e2 : i = k
            · subst e2
              exact ⟨0, by omega, by rw [upd_n _ _ (by omega), upd_n _ _ (by omega), upd_n _ _ (by omega), upd_e]; rfl⟩
            · rw [upd_n _ _ (by omega), upd_n _ _ (by omega), upd_n _ _ (by omega), upd_n _ _ (by omega)]; exact le i hi
          · refine money.same (f := upd f (30 + 4 * j) (I (c j - 2))) (money.setG (n := n) (m := m) mo1 mo2 (by omega) (by omega)) (fun i hi => ?_) (fun i hi => ?_)
            · rw [upd_n _ _ (by omega), upd_n _ _ (by omega)]
              by_cases e2 : i = j
              · subst e2; rw [upd_e, upd_e]
              · rw [upd_n _ _ (by omega), upd_n _ _ (by omega), upd_n _ _ (by omega)]
            · rw [upd_n _ _ (by omega), upd_n _ _ (by omega), upd_n _ _ (by omega), upd_n _ _ (by omega), upd_n _ _ (by omega)]
        · cases h
/-! gardeners come -/
def S_gard (c : Int32) (f : Fm) : Rs := match ix c 100 with
  | none => no 1 0
  | some _ => if f 0 = 4 then no 13 4 else yes (f 0) (upd (upd (upd f (30 + 4 * (f 0).toNatClampNeg) c) 4 (f 4 + c)) 0 (f 0 + 1))
theorem c_gard {σ : Mm} {f : Fm} {B : Nat} (c : Int32) (h : rep 0 σ f) (ho : ok B f) : cOk σ (f_X3_admitGardener c σ) (S_gard c f) := by
  obtain ⟨n, m, ⟨a1, a2⟩, ⟨b1, b2⟩, hc, hd, hv, mi, le, mo⟩ := ho
  unfold f_X3_admitGardener S_gard
  rcases ix_cases c (N := 100) (by omega) with ⟨x, h1, h2, h3⟩ | ⟨h1, h3⟩
  · rw [h3]
    dsimp only
    rw [if_neg (show ¬ c < 0 by rw [h2]; exact I_n0 (by omega)), if_pos (show c ≤ 99 by rw [h2]; exact (I_le (b := 99) (by omega) (by omega)).mpr (by omega)), lt_d, show σ 0 3 = f 0 from h.get0 (k := 0) (by omega)]
    by_cases q : n = 4
    · rw [if_neg (show ¬ f 0 < 4 by rw [a2, q]; decide), if_pos (show f 0 = 4 by rw [a2, q]; rfl)]
      exact c_refuse 13 4 (fun _ _ _ => rfl)
    · have hn : n < 4 := by omega
      rw [if_pos (show f 0 < 4 by rw [a2]; exact (I_lt (b := 4) (by omega) (by omega)).mpr hn), if_neg (show ¬ f 0 = 4 by rw [a2]; exact I_beq (b := 4) (by omega) (by omega) q)]
      rw [a2, gd_I hn (by omega), I_clamp (by omega)]
      unfold f_X1_arrive
      simp only [lt_d, bnd_d]
      refine ⟨_, rfl, nm1 (by omega), ?_, fun i hi _ _ => ?_⟩
      · rw [show 3 + 1 + n = 4 + n by omega]
        have r1 := h.gard (g := n) (k := 0) hn (by omega) c
        have r2 := r1.gard (g := n) (k := 1) hn (by omega) 0
        have r3 := r2.gard (g := n) (k := 2) hn (by omega) 0
        have r4 := r3.gard (g := n) (k := 3) hn (by omega) 0
        have r5 := r4.top (k := 0) (by omega) (by omega) (f 0 + 1)
        have r6 := r5.top (k := 4) (by omega) (by omega) (f 4 + c)
        have w1 : σ 0 3 = f 0 := h.get0 (k := 0) (by omega)
        have w2 : σ 0 7 = f 4 := h.get0 (k := 4) (by omega)
        rw [up_n _ _ _ (show 0 ≠ 4 + n by omega), up_n _ _ _ (show 0 ≠ 4 + n by omega), up_n _ _ _ (show 0 ≠ 4 + n by omega), up_n _ _ _ (show 0 ≠ 4 + n by omega), w1, up_e, upd_n _ _ (by decide), up_n _ _ _ (show 0 ≠ 4 + n by omega), up_n _ _ _ (show 0 ≠ 4 + n by omega), up_n _ _ _ (show 0 ≠ 4 + n by omega), up_n _ _ _ (show 0 ≠ 4 + n by omega), w2]
        refine rep.ext r6 (fun k hk => ?_)
        have z1 := hc n (Nat.le_refl _) hn 1 (by omega)
        have z2 := hc n (Nat.le_refl _) hn 2 (by omega)
        have z3 := hc n (Nat.le_refl _) hn 3 (by omega)
        rw [a2]
        simp only [upd]
        by_cases k0 : k = 0
        · subst k0; simp
        · by_cases k4 : k = 4
          · subst k4; simp
          · rw [if_neg k4, if_neg k0, if_neg k0, if_neg k4]
            by_cases p1 : k = 30 + 4 * n + 3
            · rw [if_pos p1, if_neg (by omega), p1, z3]
            · rw [if_neg p1]
              by_cases p2 : k = 30 + 4 * n + 2
              · rw [if_pos p2, if_neg (by omega), p2, z2]
              · rw [if_neg p2]
                by_cases p3 : k = 30 + 4 * n + 1
                · rw [if_pos p3, if_neg (by omega), p3, z1]
                · rw [if_neg p3]; rfl
      · simp only [up_n _ _ _ (show i ≠ 0 by omega), up_n _ _ _ (show i ≠ 3 + 1 + n by omega)]
  · rw [h3]
    dsimp only
    by_cases q : c < 0
    · rw [if_pos q]; exact c_refuse 1 0 (fun _ _ _ => rfl)
    · rw [if_neg q, if_neg (show ¬ c ≤ 99 from fun z => by
        have := Int32.le_trans (h1.resolve_left q) z
        exact absurd this (by decide))]
      exact c_refuse 1 0 (fun _ _ _ => rfl)
theorem r_gard {σ : Mm} {B : Nat} (c : Int32) (ho : ok B (σ 199)) : rOk σ (f_X10_gardenerIt c σ) (S_gard c (σ 199)) := by
  obtain ⟨n, m, ⟨a1, a2⟩, -⟩ := ho
  unfold f_X10_gardenerIt S_gard
  rw [n_inN (by omega) (by omega) (show (99 : Int64).toInt = ((100 : Nat) : Int) - 1 by decide), bnd_d]
  cases e3 : ix c 100 with
  | none => dsimp only; rw [if_pos rfl]; exact r_refuse 1 0 (fun _ _ => rfl)
  | some x =>
    dsimp only
    rw [if_neg (by decide)]
    by_cases q : n = 4
    · rw [if_pos (show σ 199 0 = 4 by rw [a2, q]; rfl), if_pos (show σ 199 0 = 4 by rw [a2, q]; rfl)]
      exact r_refuse 13 4 (fun _ _ => rfl)
    · have hn : n < 4 := by omega
      have ne : ¬ σ 199 0 = 4 := by rw [a2]; exact I_beq (b := 4) (by omega) (by omega) q
      rw [if_neg ne, if_neg ne, a2, n_gAt, bnd_d, gd_I (by omega) (by omega), I_clamp (by omega), I_clamp (by omega), lt_d, lt_d, lt_d]
      obtain ⟨τ, hτ⟩ : ∃ τ, τ = up (up (up σ 199 (30 + 4 * n) c) 199 4 (σ 199 4 + c)) 199 0 (I n + 1) := ⟨_, rfl⟩
      refine ⟨τ, ?_, ?_, fun i hi _ => ?_⟩
      · rw [hτ]
        simp (disch := omega) only [up_e, upd_e, upd_n, a2]
        rw [show I n + 1 = I (n + 1) from I_add n 1, show I (n + 1) - 1 = I n from I_sub (b := 1) (by omega)]
      · rw [hτ]
        simp only [up_e]
      · rw [hτ]
        simp only [up_n _ _ _ hi]
theorem ok_gard {B : Nat} {f g : Fm} {x r : Int32} (ho : ok B f) (h : S_gard x f = .inl (r, g)) : ok (B + 9) g := by
  obtain ⟨n, m, ⟨a1, a2⟩, ⟨b1, b2⟩, hc, hd, hv, mi, le, c, d, mo1, mo2, mo3⟩ := ho
  unfold S_gard at h
  cases e0 : ix x 100 with
  | none => rw [e0] at h; cases h
  | some y =>
    obtain ⟨y1, rfl⟩ := ix_lt (by omega) e0
    rw [e0] at h
    dsimp only at h
    split at h
    · cases h
    · rename_i q
      cases h
      have hn : n < 4 := by
        rcases Nat.lt_or_ge n 4 with z | z
        · exact z
        · exact absurd (by rw [a2, show n = 4 by omega]; rfl) q
      rw [a2, I_clamp (by omega), I_addL]
      refine ⟨n + 1, m, ⟨by omega, ?_⟩, ⟨b1, ?_⟩, fun i h1 h2 k2 hk2 => ?_, fun i h1 h2 k2 hk2 => ?_, fun i hi => ?_, ?_, fun i hi => ?_, ?_⟩
      · rw [upd_e]
      · simp (disch := omega) only [upd_n]; exact b2
      · simp (disch := omega) only [upd_n]; exact hc i (by omega) h2 k2 hk2
      · simp (disch := omega) only [upd_n]; exact hd i h1 h2 k2 hk2
      · refine ((hv i hi).mono (by omega) (by omega)).same (fun k2 h1 h2 => ?_)
        simp (disch := omega) only [upd_n]
      · simp (disch := omega) only [upd_n]; exact mi
      · simp (disch := omega) only [upd_n]; exact le i hi
      · have z0 := hc n (Nat.le_refl _) hn 0 (by omega)
        have z1 := mo1 n hn
        have z2 : c n = 0 := by
          have := S4_le (c := c) (g := n) hn
          have e : I (c n) = I 0 := by rw [← z1]; exact z0
          exact (I_eq (by omega) (by omega)).mp e
        refine money.same (f := upd f (30 + 4 * n) (I y)) (money.setG (n := n) (m := m) mo1 mo2 (by omega) (by omega)) (fun i hi => ?_) (fun i hi => ?_)
        · by_cases e2 : i = n
          · subst e2; simp (disch := omega) only [upd_n, upd_e]
          · simp (disch := omega) only [upd_n]
        · simp (disch := omega) only [upd_n]
