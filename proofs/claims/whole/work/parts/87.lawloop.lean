section LP
variable {p : Program} {l : Launch} {e : Env} {s : State} {m : MethodId} {below : List Frame} {meth : Method} {c : Code} {b L : Nat} {xs : Nat → Int32} {Q : State → Prop}
theorem i_tI {a : Nat} (h : a < 2147483648) : (I a).toInt = a := I_toInt h
theorem vI_in {a L : Nat} (h : a < L) (hL : L ≤ 2048) : vp_in (I a) L := by
  refine vpc fun q => ?_
  rcases q with q | q
  · rw [Int32.lt_iff_toInt_lt, i_tI (by omega)] at q
    have : (0 : Int32).toInt = 0 := rfl
    omega
  · rw [I_clamp (by omega)] at q
    omega
theorem sub4 {L j : Nat} (hL : L ≤ 2048) (hj : j ≤ 4096) (c : ¬ I L - 4 < I j) : j + 4 ≤ L := by
  by_cases h : 4 ≤ L
  · rw [show (4 : Int32) = I 4 from rfl, I_sub h, I_lt (by omega) (by omega)] at c
    omega
  · exfalso
    apply c
    rw [Int32.lt_iff_toInt_lt, i_tI (by omega)]
    rcases (show L = 0 ∨ L = 1 ∨ L = 2 ∨ L = 3 by omega) with rfl | rfl | rfl | rfl
    · have : (I 0 - 4 : Int32).toInt = -4 := rfl
      omega
    · have : (I 1 - 4 : Int32).toInt = -3 := rfl
      omega
    · have : (I 2 - 4 : Int32).toInt = -2 := rfl
      omega
    · have : (I 3 - 4 : Int32).toInt = -1 := rfl
      omega
theorem and63 (x : Int32) : ∃ k : Nat, k < 64 ∧ x &&& 63 = I k := by
  refine ⟨(x &&& 63).toUInt32.toNat, ?_, ?_⟩
  · show (x.toBitVec &&& 63#32).toNat < 64
    rw [BitVec.toNat_and]
    exact Nat.lt_of_le_of_lt Nat.and_le_right (by decide)
  · apply Int32.toBitVec_inj.mp
    show _ = BitVec.ofNat 32 (x &&& 63).toBitVec.toNat
    simp
set_option maxHeartbeats 4000000 in
set_option maxRecDepth 100000 in
theorem law_sw {σ : Mm} {G : Gd} {H : Heap} {locs : List Loc} {ls : Array Slot} {i : Int32} {B cells slots : Nat} (hl9 : l.stackTraces = false) (C0 : L0 p s m meth c b L xs) (h1 : vp_in (i + 1) L) (h2 : vp_in (i + 2) L) (h3 : vp_in (i + 3) L) (hB : B + 300 ≤ 1000000) (hrm : cells + 2 ≤ 603072 ∧ slots + 12 ≤ 7202922) (hL : LB G σ s H locs ls b i B)
    (kk : ∀ (G1 : Gd) (ρ : Mm) (H1 : Heap) (locs1 : List Loc) (ls1 : Array Slot), LB G1 ρ s H1 locs1 ls1 b i (B + 300) → W p l e room_1 s m #[Value.ref b] below meth c H1 locs1 (cells + 2) (slots + 12) Q (F0 m 2408 ls1 [])) (x : Int32) : W p l e room_1 s m #[Value.ref b] below meth c H locs cells slots Q (F0 m 44 ls [.int (x &&& 63)]) := by
  have hx : p.tables.exec = Jvm.exec := C0.1.1
  have hb := C0.1.2.1
  have hdef : W p l e room_1 s m #[Value.ref b] below meth c H locs cells slots Q (F0 m 2408 ls []) := by
    refine W.widen (k := cells + 2) (n := slots + 12) (by omega) (by omega) ?_
    obtain ⟨F, B1, R0, hbA, hl⟩ := hL
    exact kk G σ H locs ls ⟨F, B1, R0.mono (by omega), hbA, hl⟩
  obtain ⟨k, hk, hk2⟩ : ∃ k : Nat, k < 64 ∧ x &&& 63 = I k := and63 x
  rw [hk2]
  by_cases hd : 39 ≤ k
  · exact lv_tableOut (tgt := 2408) hx hb dL_law_44 (Or.inr (by rw [i_tI (by omega)]; omega)) (by decide) hdef
  · match k, hd with
    | 0, _ => exact lv_tableIn (off := 172) (tgt := 216) hx hb dL_law_44 (by decide) (by decide) (by rfl) (by decide) (law_0 hl9 C0 h1 h2 h3 hB hrm hL kk)
    | 1, _ => exact lv_tableIn (off := 252) (tgt := 296) hx hb dL_law_44 (by decide) (by decide) (by rfl) (by decide) (law_1 hl9 C0 h1 h2 h3 hB hrm hL kk)
    | 2, _ => exact lv_tableIn (off := 265) (tgt := 309) hx hb dL_law_44 (by decide) (by decide) (by rfl) (by decide) (law_2 hl9 C0 h1 h2 h3 hB hrm hL kk)
    | 3, _ => exact lv_tableIn (off := 345) (tgt := 389) hx hb dL_law_44 (by decide) (by decide) (by rfl) (by decide) (law_3 hl9 C0 h1 h2 h3 hB hrm hL kk)
    | 4, _ => exact lv_tableIn (off := 401) (tgt := 445) hx hb dL_law_44 (by decide) (by decide) (by rfl) (by decide) (law_4 hl9 C0 h1 h2 h3 hB hrm hL kk)
    | 5, _ => exact lv_tableIn (off := 457) (tgt := 501) hx hb dL_law_44 (by decide) (by decide) (by rfl) (by decide) (law_5 hl9 C0 h1 h2 h3 hB hrm hL kk)
    | 6, _ => exact lv_tableIn (off := 513) (tgt := 557) hx hb dL_law_44 (by decide) (by decide) (by rfl) (by decide) (law_6 hl9 C0 h1 h2 h3 hB hrm hL kk)
    | 7, _ => exact lv_tableIn (off := 593) (tgt := 637) hx hb dL_law_44 (by decide) (by decide) (by rfl) (by decide) (law_7 hl9 C0 h1 h2 h3 hB hrm hL kk)
    | 8, _ => exact lv_tableIn (off := 661) (tgt := 705) hx hb dL_law_44 (by decide) (by decide) (by rfl) (by decide) (law_8 hl9 C0 h1 h2 h3 hB hrm hL kk)
    | 9, _ => exact lv_tableIn (off := 729) (tgt := 773) hx hb dL_law_44 (by decide) (by decide) (by rfl) (by decide) (law_9 hl9 C0 h1 h2 h3 hB hrm hL kk)
    | 10, _ => exact lv_tableIn (off := 797) (tgt := 841) hx hb dL_law_44 (by decide) (by decide) (by rfl) (by decide) (law_10 hl9 C0 h1 h2 h3 hB hrm hL kk)
    | 11, _ => exact lv_tableIn (off := 872) (tgt := 916) hx hb dL_law_44 (by decide) (by decide) (by rfl) (by decide) (law_11 hl9 C0 h1 h2 h3 hB hrm hL kk)
    | 12, _ => exact lv_tableIn (off := 940) (tgt := 984) hx hb dL_law_44 (by decide) (by decide) (by rfl) (by decide) (law_12 hl9 C0 h1 h2 h3 hB hrm hL kk)
    | 13, _ => exact lv_tableIn (off := 1008) (tgt := 1052) hx hb dL_law_44 (by decide) (by decide) (by rfl) (by decide) (law_13 hl9 C0 h1 h2 h3 hB hrm hL kk)
    | 14, _ => exact lv_tableIn (off := 1064) (tgt := 1108) hx hb dL_law_44 (by decide) (by decide) (by rfl) (by decide) (law_14 hl9 C0 h1 h2 h3 hB hrm hL kk)
    | 15, _ => exact lv_tableIn (off := 1120) (tgt := 1164) hx hb dL_law_44 (by decide) (by decide) (by rfl) (by decide) (law_15 hl9 C0 h1 h2 h3 hB hrm hL kk)
    | 16, _ => exact lv_tableIn (off := 1176) (tgt := 1220) hx hb dL_law_44 (by decide) (by decide) (by rfl) (by decide) (law_16 hl9 C0 h1 h2 h3 hB hrm hL kk)
    | 17, _ => exact lv_tableIn (off := 1232) (tgt := 1276) hx hb dL_law_44 (by decide) (by decide) (by rfl) (by decide) (law_17 hl9 C0 h1 h2 h3 hB hrm hL kk)
    | 18, _ => exact lv_tableIn (off := 1307) (tgt := 1351) hx hb dL_law_44 (by decide) (by decide) (by rfl) (by decide) (law_18 hl9 C0 h1 h2 h3 hB hrm hL kk)
    | 19, _ => exact lv_tableIn (off := 1375) (tgt := 1419) hx hb dL_law_44 (by decide) (by decide) (by rfl) (by decide) (law_19 hl9 C0 h1 h2 h3 hB hrm hL kk)
    | 20, _ => exact lv_tableIn (off := 1388) (tgt := 1432) hx hb dL_law_44 (by decide) (by decide) (by rfl) (by decide) (law_20 hl9 C0 h1 h2 h3 hB hrm hL kk)
    | 21, _ => exact lv_tableIn (off := 1456) (tgt := 1500) hx hb dL_law_44 (by decide) (by decide) (by rfl) (by decide) (law_21 hl9 C0 h1 h2 h3 hB hrm hL kk)
    | 22, _ => exact lv_tableIn (off := 1524) (tgt := 1568) hx hb dL_law_44 (by decide) (by decide) (by rfl) (by decide) (law_22 hl9 C0 h1 h2 h3 hB hrm hL kk)
    | 23, _ => exact lv_tableIn (off := 1580) (tgt := 1624) hx hb dL_law_44 (by decide) (by decide) (by rfl) (by decide) (law_23 hl9 C0 h1 h2 h3 hB hrm hL kk)
    | 24, _ => exact lv_tableIn (off := 1636) (tgt := 1680) hx hb dL_law_44 (by decide) (by decide) (by rfl) (by decide) (law_24 hl9 C0 h1 h2 h3 hB hrm hL kk)
    | 25, _ => exact lv_tableIn (off := 1704) (tgt := 1748) hx hb dL_law_44 (by decide) (by decide) (by rfl) (by decide) (law_25 hl9 C0 h1 h2 h3 hB hrm hL kk)
    | 26, _ => exact lv_tableIn (off := 1760) (tgt := 1804) hx hb dL_law_44 (by decide) (by decide) (by rfl) (by decide) (law_26 hl9 C0 h1 h2 h3 hB hrm hL kk)
    | 27, _ => exact lv_tableIn (off := 1818) (tgt := 1862) hx hb dL_law_44 (by decide) (by decide) (by rfl) (by decide) (law_27 hl9 C0 h1 h2 h3 hB hrm hL kk)
    | 28, _ => exact lv_tableIn (off := 1862) (tgt := 1906) hx hb dL_law_44 (by decide) (by decide) (by rfl) (by decide) (law_28 hl9 C0 h1 h2 h3 hB hrm hL kk)
    | 29, _ => exact lv_tableIn (off := 1875) (tgt := 1919) hx hb dL_law_44 (by decide) (by decide) (by rfl) (by decide) (law_29 hl9 C0 h1 h2 h3 hB hrm hL kk)
    | 30, _ => exact lv_tableIn (off := 1931) (tgt := 1975) hx hb dL_law_44 (by decide) (by decide) (by rfl) (by decide) (law_30 hl9 C0 h1 h2 h3 hB hrm hL kk)
    | 31, _ => exact lv_tableIn (off := 1987) (tgt := 2031) hx hb dL_law_44 (by decide) (by decide) (by rfl) (by decide) (law_31 hl9 C0 h1 h2 h3 hB hrm hL kk)
    | 32, _ => exact lv_tableIn (off := 2043) (tgt := 2087) hx hb dL_law_44 (by decide) (by decide) (by rfl) (by decide) (law_32 hl9 C0 h1 h2 h3 hB hrm hL kk)
    | 33, _ => exact lv_tableIn (off := 2099) (tgt := 2143) hx hb dL_law_44 (by decide) (by decide) (by rfl) (by decide) (law_33 hl9 C0 h1 h2 h3 hB hrm hL kk)
    | 34, _ => exact lv_tableIn (off := 2164) (tgt := 2208) hx hb dL_law_44 (by decide) (by decide) (by rfl) (by decide) (law_34 hl9 C0 h1 h2 h3 hB hrm hL kk)
    | 35, _ => exact lv_tableIn (off := 2207) (tgt := 2251) hx hb dL_law_44 (by decide) (by decide) (by rfl) (by decide) (law_35 hl9 C0 h1 h2 h3 hB hrm hL kk)
    | 36, _ => exact lv_tableIn (off := 2263) (tgt := 2307) hx hb dL_law_44 (by decide) (by decide) (by rfl) (by decide) (law_36 hl9 C0 h1 h2 h3 hB hrm hL kk)
    | 37, _ => exact lv_tableIn (off := 2307) (tgt := 2351) hx hb dL_law_44 (by decide) (by decide) (by rfl) (by decide) (law_37 hl9 C0 h1 h2 h3 hB hrm hL kk)
    | 38, _ => exact lv_tableIn (off := 2320) (tgt := 2364) hx hb dL_law_44 (by decide) (by decide) (by rfl) (by decide) (law_38 hl9 C0 h1 h2 h3 hB hrm hL kk)
    | k + 39, hd => exact absurd (by omega) hd
set_option maxHeartbeats 4000000 in
set_option maxRecDepth 100000 in
theorem law_loop (hl9 : l.stackTraces = false) (C0 : L0 p s m meth c b L xs) (hr : meth.sig.returnType = ret) (hlocks : meth.locks = false) (hL : L ≤ 2048) {kc kn : Nat} (hkc : kc + 2048 ≤ 603072 ∧ kn + 12288 ≤ 7202922) : ∀ (n j : Nat) (σ : Mm) (G : Gd) (H : Heap) (locs : List Loc) (ls : Array Slot), 4 * j ≤ L → L < 4 * j + 4 * n → LB G σ s H locs ls b (I (4 * j)) (300 * j) →
    W p l e room_1 s m #[Value.ref b] below meth c H locs (kc + 2 * j) (kn + 12 * j) (lw_Z below #[Value.ref b] s) (F0 m 28 ls []) := by
  intro n
  induction n with
  | zero => intro j σ G H locs ls h1 h2; exact absurd h2 (by omega)
  | succ n ih =>
    intro j σ G H locs ls h1 h2 hB
    have hx : p.tables.exec = Jvm.exec := C0.1.1
    have hb := C0.1.2.1
    have hl := hB.2.2.2.2
    refine lv_iload hx hb dL_law_28 (lv_at hl 5 rfl) ?_
    refine lv_aload_n hx hb dL_law_30 rfl (lv_at hl 0 rfl) ?_
    refine va_slen hx hb C0.2.1 C0.2.2 (fun q => absurd (hB.2.2.2.1 b q) (Nat.not_le.mpr C0.2.2)) hB.2.1.2 dL_law_31 ?_
    refine lv_iconst (v := 4) hx hb dL_law_32 (by decide) ?_
    refine lv_isub hx hb dL_law_33 ?_
    refine lv_icmp_gt (tgt := 2414) hx hb dL_law_34 (by decide) (fun _ => ?_) (fun c1 => ?_)
    · refine lv_iconst (v := 1) hx hb dL_law_2414 (by decide) ?_
      refine va_forget (fun q hq => hB.2.2.2.1 _ (hB.2.1.2.2.2 q hq)) ?_
      refine W.widen (k := 603072) (n := 7202922) (by omega) (by omega) ?_
      exact lw_ret (Drawn.sameBut.refl s.drawn lw_cs) hx hb hr hlocks dL_law_2415
    · have c2 : 4 * j + 4 ≤ L := sub4 hL (by omega) c1
      have i1 : I (4 * j) + 1 = I (4 * j + 1) := I_add _ 1
      have i2 : I (4 * j) + 2 = I (4 * j + 2) := I_add _ 2
      have i3 : I (4 * j) + 3 = I (4 * j + 3) := I_add _ 3
      refine lv_aload_n hx hb dL_law_37 rfl (lv_at hl 0 rfl) ?_
      refine lv_iload hx hb dL_law_38 (lv_at hl 5 rfl) ?_
      refine va_sld hx hb C0.2.1 C0.2.2 (fun q => absurd (hB.2.2.2.1 b q) (Nat.not_le.mpr C0.2.2)) hB.2.1.2 (vI_in (by omega) hL) dL_law_40 ?_
      refine lv_bipush (v := 63) hx hb dL_law_41 (by decide) ?_
      refine lv_iand hx hb dL_law_43 ?_
      refine law_sw hl9 C0 (by rw [i1]; exact vI_in (by omega) hL) (by rw [i2]; exact vI_in (by omega) hL) (by rw [i3]; exact vI_in (by omega) hL) (by omega) ⟨by omega, by omega⟩ hB (fun G1 ρ H1 locs1 ls1 h9 => ?_) _
      have hl1 := h9.2.2.2.2
      refine lv_iinc (v := I (4 * (j + 1))) (lv' := [(5, .int (I (4 * (j + 1)))), (0, .ref b), (1, .ref (G1.2.2 154)), (2, .ref (G1.2.2 198)), (3, .ref (G1.2.2 207)), (4, .ref (G1.2.2 208))]) hx hb dL_law_2408 hl1 (k := 5) rfl (I_add _ 4) (by decide) rfl (fun ls hl => ?_)
      refine lv_goto (tgt := 28) hx hb dL_law_2411 (by decide) ?_
      exact ih (j + 1) ρ G1 H1 locs1 ls c2 (by omega) ⟨h9.1, h9.2.1, h9.2.2.1, h9.2.2.2.1, lv_sub hl [1, 2, 3, 4, 5, 0] rfl⟩
end LP
