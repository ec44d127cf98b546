/-! THE WORLD LAID OUT: the cells that the constructors made, by number -/
abbrev S9 : Type := ((Nat → Nat) × (Nat → Nat → Nat)) × (Nat × (Nat → Nat → Nat)) × (Nat → Nat)
def adr (u : S9) (d : Nat → Nat) (h h10 q7 q8 : Nat) (z : Nat → Nat) (i : Nat) : Nat :=
  if i < 42 then u.1.2 (i / 14) (i % 14) else if i < 154 then u.2.1.2 ((i - 42) / 14) (i % 14) else if i = 154 then h else if i = 156 then u.2.1.1 else if i < 163 then u.1.1 i else if i < 196 then u.2.2 (i - 163) else if i < 198 then u.1.1 i else if i = 198 then h10 else if i < 207 then d (i - 199) else if i = 207 then q7 else if i = 208 then q8 else if i < 700 then z i else 0
def idxL : List Nat := [154] ++ (List.range 14).map (14 * 0 + ·) ++ (List.range 14).map (14 * 1 + ·) ++ (List.range 14).map (14 * 2 + ·) ++ ([155, 156] ++ (List.range 14).map (14 * 3 + ·) ++ (List.range 14).map (14 * 4 + ·) ++ (List.range 14).map (14 * 5 + ·) ++ (List.range 14).map (14 * 6 + ·) ++ (List.range 14).map (14 * 7 + ·) ++ (List.range 14).map (14 * 8 + ·) ++ (List.range 14).map (14 * 9 + ·) ++ (List.range 14).map (14 * 10 + ·)) ++ [157, 158, 159, 160, 161] ++ ([162, 163, 164, 165] ++ (List.range 30).map (166 + ·)) ++ [196, 197] ++ [198, 199, 200, 201, 202, 203, 204, 205, 206] ++ [207, 208]
theorem idx_all : ∀ k, k < 209 → ∃ j, j < 209 ∧ idxL[j]? = some k := by decide +kernel
theorem σ0_st (j : Nat) (hj : j < 11) (i : Nat) (hi : i < 14) : kd (14 * j + i) = kd i ∧ σ0 (14 * j + i) = σ0 i := by
  have h1 : ∀ j, j < 11 → ∀ i, i < 14 → kd (14 * j + i) = kd i := by decide
  refine ⟨h1 j hj i hi, ?_⟩
  funext k
  unfold σ0
  rw [h1 j hj i hi, if_neg (show ¬ (14 * j + i = 162 ∧ k = 7) by omega), if_neg (show ¬ (14 * j + i = 198 ∧ k = 9) by omega), if_neg (show ¬ (14 * j + i = 199 ∧ k = 2) by omega), if_neg (show ¬ (i = 162 ∧ k = 7) by omega), if_neg (show ¬ (i = 198 ∧ k = 9) by omega), if_neg (show ¬ (i = 199 ∧ k = 2) by omega)]
theorem rArr_eq {G G1 : Gd} {t n : Nat} {g g1 : Nat → Nat} (h1 : G.2.1 = G1.2.1) (h2 : ∀ j, j < n → G.2.2 (g j) = G1.2.2 (g1 j)) : rArr G t n g = rArr G1 t n g1 := by
  unfold rArr
  have : (fun j => if j < n then some (G.2.2 (g j)) else none) = fun j => if j < n then some (G1.2.2 (g1 j)) else none := by
    funext j
    by_cases c : j < n
    · rw [if_pos c, if_pos c, h2 j c]
    · rw [if_neg c, if_neg c]
  rw [this, h1]
theorem cell_st {G : Gd} {a : Nat → Nat} {j : Nat} (hg : ∀ i, i < 14 → G.2.2 (14 * j + i) = a i) (f : Nat → Int32) (i : Nat) (hi : i < 14) : cellK (kd i) (G.1, G.2.1, a) i f = cellK (kd i) G (14 * j + i) f := by
  rcases (show i = 0 ∨ i = 1 ∨ i = 3 ∨ i = 8 ∨ (i = 2 ∨ i = 4 ∨ i = 5 ∨ i = 6 ∨ i = 7 ∨ i = 9 ∨ i = 10 ∨ i = 11 ∨ i = 12 ∨ i = 13) by omega) with rfl | rfl | rfl | rfl | h
  · show (Sum.inr (10, [.ref (a (0 + 1)), .ref (a (0 + 3)), .ref (a (0 + 8)), .int (f 3), .int (f 4), .int (f 5), .int (f 6), .int (f 7), .int (f 8)]) : va_E) = .inr (10, [.ref (G.2.2 (14 * j + 0 + 1)), .ref (G.2.2 (14 * j + 0 + 3)), .ref (G.2.2 (14 * j + 0 + 8)), .int (f 3), .int (f 4), .int (f 5), .int (f 6), .int (f 7), .int (f 8)])
    rw [show 14 * j + 0 + 1 = 14 * j + 1 by omega, show 14 * j + 0 + 3 = 14 * j + 3 by omega, show 14 * j + 0 + 8 = 14 * j + 8 by omega, hg 1 (by decide), hg 3 (by decide), hg 8 (by decide)]
  · show (Sum.inr (8, [.ref (a (1 + 1))]) : va_E) = .inr (8, [.ref (G.2.2 (14 * j + 1 + 1))])
    rw [show 14 * j + 1 + 1 = 14 * j + 2 by omega, hg 2 (by decide)]
  · show rArr (G.1, G.2.1, a) 3 4 (fun k => 3 + 1 + k) = rArr G 3 4 (fun k => 14 * j + 3 + 1 + k)
    refine rArr_eq rfl (fun k hk => ?_)
    show a (3 + 1 + k) = _
    rw [← hg _ (by omega), show 14 * j + (3 + 1 + k) = 14 * j + 3 + 1 + k by omega]
  · show rArr (G.1, G.2.1, a) 4 5 (fun k => 8 + 1 + k) = rArr G 4 5 (fun k => 14 * j + 8 + 1 + k)
    refine rArr_eq rfl (fun k hk => ?_)
    show a (8 + 1 + k) = _
    rw [← hg _ (by omega), show 14 * j + (8 + 1 + k) = 14 * j + 8 + 1 + k by omega]
  · rcases h with rfl | rfl | rfl | rfl | rfl | rfl | rfl | rfl | rfl | rfl <;> rfl
theorem st_blk {G : Gd} {a : Nat → Nat} (j : Nat) (hj : j < 11) (hg : ∀ i, i < 14 → G.2.2 (14 * j + i) = a i) : blk (G.1, G.2.1, a) (List.range 14) = ((List.range 14).map (14 * j + ·)).map (ent G) := by
  unfold blk
  rw [List.map_map]
  apply List.map_congr_left
  intro i hi
  have hi : i < 14 := List.mem_range.mp hi
  show (a i, cellK (kd i) (G.1, G.2.1, a) i (σ0 i)) = (G.2.2 (14 * j + i), cellK (kd (14 * j + i)) G (14 * j + i) (σ0 (14 * j + i)))
  rw [(σ0_st j hj i hi).1, (σ0_st j hj i hi).2, hg i hi, cell_st hg _ i hi]
theorem row_blk {G : Gd} {cc : Nat → Nat} (hg : ∀ i, i < 30 → G.2.2 (166 + i) = cc (3 + i)) : (List.range 30).map (fun i => (cc (3 + i), (.inl (G.2.1 0, 3, .inl (fun _ => 0)) : va_E))) = ((List.range 30).map (166 + ·)).map (ent G) := by
  rw [List.map_map]
  apply List.map_congr_left
  intro i hi
  have hi : i < 30 := List.mem_range.mp hi
  show _ = (G.2.2 (166 + i), cellK (kd (166 + i)) G (166 + i) (σ0 (166 + i)))
  have h1 : ∀ i, i < 30 → kd (166 + i) = 18 := by decide
  have h2 : σ0 (166 + i) = fun _ => 0 := by
    funext k
    unfold σ0
    rw [h1 i hi, if_neg (show ¬ ((18 : Nat) = 0 ∧ k = 5) by omega), if_neg (show ¬ ((18 : Nat) = 6 ∧ k = 4) by omega), if_neg (show ¬ (166 + i = 162 ∧ k = 7) by omega), if_neg (show ¬ (166 + i = 198 ∧ k = 9) by omega), if_neg (show ¬ (166 + i = 199 ∧ k = 2) by omega)]
  rw [h1 i hi, h2, hg i hi]
  rfl
section AD
variable {u : S9} {d : Nat → Nat} {h h10 q7 q8 : Nat} {z : Nat → Nat}
theorem adr_b {j i : Nat} (hj : j < 3) (hi : i < 14) : adr u d h h10 q7 q8 z (14 * j + i) = u.1.2 j i := by
  unfold adr
  rw [if_pos (by omega), show (14 * j + i) / 14 = j by omega, show (14 * j + i) % 14 = i by omega]
theorem adr_u {j i : Nat} (hj : j < 8) (hi : i < 14) : adr u d h h10 q7 q8 z (14 * (3 + j) + i) = u.2.1.2 j i := by
  unfold adr
  rw [if_neg (by omega), if_pos (by omega), show (14 * (3 + j) + i - 42) / 14 = j by omega, show (14 * (3 + j) + i) % 14 = i by omega]
theorem adr_c {i : Nat} (hi : i < 30) : adr u d h h10 q7 q8 z (166 + i) = u.2.2 (3 + i) := by
  unfold adr
  rw [if_neg (by omega), if_neg (by omega), if_neg (by omega), if_neg (by omega), if_neg (by omega), if_pos (by omega), show 166 + i - 163 = 3 + i by omega]
set_option maxHeartbeats 4000000 in
set_option maxRecDepth 100000 in
theorem lay_eq (D : va_G) (C : Nat → ClassId) : (((((((([(h, .inr (13, [.ref (u.1.2 0 0), .ref (u.1.2 1 0), .ref (u.1.2 2 0), .int 0, .ref (u.1.1 155), .ref (u.1.1 157), .ref (u.1.1 158), .ref (u.1.1 161), .ref (u.1.1 162), .ref (u.1.1 196)]))] ++ blk (D, C, u.1.2 0) (List.range 14)) ++ blk (D, C, u.1.2 1) (List.range 14)) ++ blk (D, C, u.1.2 2) (List.range 14)) ++ (((((((([(u.1.1 155, .inr (6, [.ref u.2.1.1, .int 0, .int 0])), (u.2.1.1, .inl (C 5, 8, .inr (.inr (.inr (.inr (fun j => if j < 8 then some (u.2.1.2 j 0) else none))))))] ++ blk (D, C, u.2.1.2 0) (List.range 14)) ++ blk (D, C, u.2.1.2 1) (List.range 14)) ++ blk (D, C, u.2.1.2 2) (List.range 14)) ++ blk (D, C, u.2.1.2 3) (List.range 14)) ++ blk (D, C, u.2.1.2 4) (List.range 14)) ++ blk (D, C, u.2.1.2 5) (List.range 14)) ++ blk (D, C, u.2.1.2 6) (List.range 14)) ++ blk (D, C, u.2.1.2 7) (List.range 14))) ++ [(u.1.1 157, .inr (9, [.int 0, .int 0, .int 0])), (u.1.1 158, .inr (12, [.ref (u.1.2 0 1), .ref (u.1.1 159), .ref (u.1.1 160)])), (u.1.1 159, .inl (C 0, 16, .inl (fun _ => 0))), (u.1.1 160, .inl (C 0, 16, .inl (fun _ => 0))), (u.1.1 161, .inr (7, [.ref (u.1.2 0 0), .ref (u.1.1 158), .ref (u.1.1 157)]))]) ++ ([(u.1.1 162, .inr (4, [.ref (u.2.2 0), .ref (u.2.2 1), .ref (u.2.2 2), .int 0, .int 0, .int 0, .int 0, .int (-1)])), (u.2.2 0, .inl (C 1, 60, .inl (fun _ => 0))), (u.2.2 1, .inl (C 1, 30, .inl (fun _ => 0))), (u.2.2 2, .inl (C 6, 30, .inr (.inr (.inr (.inr (fun i => if i < 30 then some (u.2.2 (3 + i)) else none))))))] ++ (List.range 30).map (fun i => (u.2.2 (3 + i), .inl (C 0, 3, .inl (fun _ => 0)))))) ++ [(u.1.1 196, .inr (1, [.ref (u.1.1 197), .int 0, .int 0, .int 0])), (u.1.1 197, .inl (C 2, 16, .inl (fun _ => 0)))]) ++ [(h10, .inr (14, [.ref (d 0), .ref (d 1), .ref (d 2), .int 0, .ref (d 3), .int 0, .int 0, .int 0, .int 0, .int (-1), .ref (d 4), .int 0, .int 0, .ref (d 5), .ref (d 6), .int 0, .int 0, .int 0, .int 0, .ref (d 7), .int 0])), (d 0, .inl (C 0, 86, .inl (upd (fun _ => 0) (Int32.toNatClampNeg 2) (-1)))), (d 1, .inl (C 0, 86, .inl (fun _ => 0))), (d 2, .inl (C 0, 86, .inl (fun _ => 0))), (d 3, .inl (C 0, 688, .inl (fun _ => 0))), (d 4, .inl (C 0, 60, .inl (fun _ => 0))), (d 5, .inl (C 0, 16, .inl (fun _ => 0))), (d 6, .inl (C 0, 244, .inl (fun _ => 0))), (d 7, .inl (C 0, 30, .inl (fun _ => 0)))] ++ [(q7, .inl (C 7, 1, .inr (.inl (fun _ => 0)))), (q8, .inl (C 8, 1, .inr (.inr (.inr (.inl (fun _ => 0))))))] : va_W) = idxL.map (ent (D, C, adr u d h h10 q7 q8 z)) := by
  generalize hG : ((D, C, adr u d h h10 q7 q8 z) : Gd) = G
  have hD : G.1 = D := by rw [← hG]
  have hC : G.2.1 = C := by rw [← hG]
  have hg : ∀ i, G.2.2 i = adr u d h h10 q7 q8 z i := fun i => by rw [← hG]
  have e0 := st_blk (G := G) (a := u.1.2 0) 0 (by decide) (fun i hi => by rw [hg, adr_b (by decide) hi])
  rw [hD, hC] at e0
  have e1 := st_blk (G := G) (a := u.1.2 1) 1 (by decide) (fun i hi => by rw [hg, adr_b (by decide) hi])
  rw [hD, hC] at e1
  have e2 := st_blk (G := G) (a := u.1.2 2) 2 (by decide) (fun i hi => by rw [hg, adr_b (by decide) hi])
  rw [hD, hC] at e2
  have e3 := st_blk (G := G) (a := u.2.1.2 0) 3 (by decide) (fun i hi => by rw [hg]; exact adr_u (j := 0) (by decide) hi)
  rw [hD, hC] at e3
  have e4 := st_blk (G := G) (a := u.2.1.2 1) 4 (by decide) (fun i hi => by rw [hg]; exact adr_u (j := 1) (by decide) hi)
  rw [hD, hC] at e4
  have e5 := st_blk (G := G) (a := u.2.1.2 2) 5 (by decide) (fun i hi => by rw [hg]; exact adr_u (j := 2) (by decide) hi)
  rw [hD, hC] at e5
  have e6 := st_blk (G := G) (a := u.2.1.2 3) 6 (by decide) (fun i hi => by rw [hg]; exact adr_u (j := 3) (by decide) hi)
  rw [hD, hC] at e6
  have e7 := st_blk (G := G) (a := u.2.1.2 4) 7 (by decide) (fun i hi => by rw [hg]; exact adr_u (j := 4) (by decide) hi)
  rw [hD, hC] at e7
  have e8 := st_blk (G := G) (a := u.2.1.2 5) 8 (by decide) (fun i hi => by rw [hg]; exact adr_u (j := 5) (by decide) hi)
  rw [hD, hC] at e8
  have e9 := st_blk (G := G) (a := u.2.1.2 6) 9 (by decide) (fun i hi => by rw [hg]; exact adr_u (j := 6) (by decide) hi)
  rw [hD, hC] at e9
  have e10 := st_blk (G := G) (a := u.2.1.2 7) 10 (by decide) (fun i hi => by rw [hg]; exact adr_u (j := 7) (by decide) hi)
  rw [hD, hC] at e10
  have er := row_blk (G := G) (cc := u.2.2) (fun i hi => by rw [hg, adr_c hi])
  rw [hC] at er
  have ek : (.inl (C 5, 8, .inr (.inr (.inr (.inr (fun j => if j < 8 then some (u.2.1.2 j 0) else none))))) : va_E) = rArr G 5 8 (fun j => 42 + 14 * j) := by
    have := rArr_eq (G := (D, C, fun j => u.2.1.2 j 0)) (G1 := G) (t := 5) (n := 8) (g := fun j => j) (g1 := fun j => 42 + 14 * j) hC.symm (fun j hj => by
      rw [hg, show 42 + 14 * j = 14 * (3 + j) + 0 by omega, adr_u hj (by decide)])
    exact this
  have en : (.inl (C 6, 30, .inr (.inr (.inr (.inr (fun i => if i < 30 then some (u.2.2 (3 + i)) else none))))) : va_E) = rArr G 6 30 (fun j => 166 + j) := by
    have := rArr_eq (G := (D, C, fun j => u.2.2 (3 + j))) (G1 := G) (t := 6) (n := 30) (g := fun j => j) (g1 := fun j => 166 + j) hC.symm (fun j hj => by
      rw [hg, adr_c hj])
    exact this
  have em : upd (fun _ => 0) (Int32.toNatClampNeg 2) (-1) = σ0 199 := by
    funext k
    unfold upd σ0
    by_cases hk : k = 2
    · subst hk; rfl
    · rw [if_neg (show ¬ k = Int32.toNatClampNeg 2 from hk), if_neg (show ¬ (kd 199 = 0 ∧ k = 5) from fun q => absurd q.1 (by decide)), if_neg (show ¬ (kd 199 = 6 ∧ k = 4) from fun q => absurd q.1 (by decide)), if_neg (show ¬ ((199 : Nat) = 162 ∧ k = 7) by omega), if_neg (show ¬ ((199 : Nat) = 198 ∧ k = 9) by omega), if_neg (show ¬ ((199 : Nat) = 199 ∧ k = 2) by omega)]
  rw [e0, e1, e2, e3, e4, e5, e6, e7, e8, e9, e10, er, ek, en, em]
  unfold idxL
  simp only [List.map_append]
  subst hG
  rfl
theorem lay_HW {D : va_G} {C : Nat → ClassId} {A : Nat → Prop} {w : va_W} {s : State} {H : Heap} {locs : List Loc} {G : Gd} (hG : G.1 = D) (hw : w = idxL.map (ent G)) (B : Bk D A w s H locs) : HW G σ0 H ∧ IJ G ∧ ∀ i, i < 209 → A (G.2.2 i) := by
  subst hG; subst hw
  have at_ : ∀ k, k < 209 → ∃ j, j < 209 ∧ idxL[j]? = some k ∧ (idxL.map (ent G))[j]? = some (ent G k) := fun k hk => by
    obtain ⟨j, h1, h2⟩ := idx_all k hk
    exact ⟨j, h1, h2, by rw [List.getElem?_map, h2]; rfl⟩
  refine ⟨fun k q hq => ?_, fun i j hi hj e => ?_, fun i hi => ?_⟩
  · by_cases hk : k < NN
    · rw [wd_get hk] at hq
      cases hq
      obtain ⟨j, -, -, h3⟩ := at_ k hk
      exact B.1 j _ h3
    · rw [List.getElem?_eq_none_iff.mpr (by unfold wd; simpa using Nat.not_lt.mp hk)] at hq; cases hq
  · obtain ⟨a, -, a2, a3⟩ := at_ i hi
    obtain ⟨b, -, b2, b3⟩ := at_ j hj
    have := B.2.1.1 a b _ _ a3 b3 e
    subst this
    rw [a2] at b2
    exact Option.some.inj b2
  · obtain ⟨a, -, -, a3⟩ := at_ i hi
    exact B.2.1.2 a _ a3
end AD
