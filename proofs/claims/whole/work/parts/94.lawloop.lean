set_option maxRecDepth 20000 in
set_option maxHeartbeats 8000000 in
theorem law_switch {l : Launch} {g : Gl} {ad : Nat → Nat → Nat} {A : Nat → Prop} {H0 : Heap} {K : KT} {bS L : Nat} {xs : Nat → Int32} {i cn sn : Nat} (ok : OkL l g A H0 K bS L xs) (hl0 : l.stackTraces = false) (hi : i + 6 ≤ L) (hL : L ≤ 3072) (hc : cn + 40 ≤ room_1.cells) (hs : sn + 900 ≤ room_1.slots) (hk : LKont g ad A H0 K bS i (cn + 40) (sn + 900)) {eo : Int32} {p : Nat} {n : Nat} {len : Nat} {B : Nat → Int32} {s : RS} {cnt : Nat} {nx : Nat} {sp : Nat → Nat} {sT : Nat → TD} {T : TD} {b : Nat → Nat} {P : PD} {pr : PL} {p3 : Nat} {T3 : TD} {f : Nat → Int64} {S : MS} {E9 : Nat → Int32} {D9 : Nat → Int32} {d : Nat → Int32} {fu : Nat → Int32} {R : Nat → Nat → Int32} {sk : Nat → Int64} {re : Nat → Int32} {st : Nat → Int32} {dn : Nat → Int32} (inv : LInv eo n B s cnt nx sp sT T b P pr S E9 d R) : AW g A H0 8 K 33 (lvL ad bS i) [] (LWb g ad eo p n len B s cnt nx sp sT T b P pr p3 T3 f S E9 D9 d fu R sk re st dn).flatten cn sn := by
  obtain ⟨nm, okb⟩ := ok.b
  refine A_aload_n okb rfl dL_law_33 gp0 ?_
  refine A_iload okb dL_law_34 (gps (gps (gps (gps gp0)))) ?_
  refine A_sld ok (vp_in_nI (by omega) (by omega)) dL_law_36 ?_
  refine A_bipush okb (v := 31) dL_law_37 (by decide) ?_
  refine A_iand okb dL_law_39 ?_
  generalize xs (nI i).toNatClampNeg &&& 31 = x9
  by_cases s0 : x9 = 0
  · rw [s0]
    refine A_tin okb (off := 140) (tgt := 180) dL_law_40 (by decide) (by decide) (by decide) (by decide) ?_
    exact op_append ok hl0 hi hL hc hs hk inv
  by_cases s1 : x9 = 1
  · rw [s1]
    refine A_tin okb (off := 213) (tgt := 253) dL_law_40 (by decide) (by decide) (by decide) (by decide) ?_
    exact op_load ok hl0 hi hL hc hs hk inv
  by_cases s2 : x9 = 2
  · rw [s2]
    refine A_tin okb (off := 269) (tgt := 309) dL_law_40 (by decide) (by decide) (by decide) (by decide) ?_
    exact op_errorOffset ok hl0 hi hL hc hs hk inv
  by_cases s3 : x9 = 3
  · rw [s3]
    refine A_tin okb (off := 282) (tgt := 322) dL_law_40 (by decide) (by decide) (by decide) (by decide) ?_
    exact op_sectionCount ok hl0 hi hL hc hs hk inv
  by_cases s4 : x9 = 4
  · rw [s4]
    refine A_tin okb (off := 295) (tgt := 335) dL_law_40 (by decide) (by decide) (by decide) (by decide) ?_
    exact op_carCount ok hl0 hi hL hc hs hk inv
  by_cases s5 : x9 = 5
  · rw [s5]
    refine A_tin okb (off := 308) (tgt := 348) dL_law_40 (by decide) (by decide) (by decide) (by decide) ?_
    exact op_clock ok hl0 hi hL hc hs hk inv
  by_cases s6 : x9 = 6
  · rw [s6]
    refine A_tin okb (off := 321) (tgt := 361) dL_law_40 (by decide) (by decide) (by decide) (by decide) ?_
    exact op_flow ok hl0 hi hL hc hs hk inv
  by_cases s7 : x9 = 7
  · rw [s7]
    refine A_tin okb (off := 334) (tgt := 374) dL_law_40 (by decide) (by decide) (by decide) (by decide) ?_
    exact op_rate ok hl0 hi hL hc hs hk inv
  by_cases s8 : x9 = 8
  · rw [s8]
    refine A_tin okb (off := 347) (tgt := 387) dL_law_40 (by decide) (by decide) (by decide) (by decide) ?_
    exact op_fireSection ok hl0 hi hL hc hs hk inv
  by_cases s9 : x9 = 9
  · rw [s9]
    refine A_tin okb (off := 360) (tgt := 400) dL_law_40 (by decide) (by decide) (by decide) (by decide) ?_
    exact op_smoke ok hl0 hi hL hc hs hk inv
  by_cases s10 : x9 = 10
  · rw [s10]
    refine A_tin okb (off := 416) (tgt := 456) dL_law_40 (by decide) (by decide) (by decide) (by decide) ?_
    exact op_total ok hl0 hi hL hc hs hk inv
  by_cases s11 : x9 = 11
  · rw [s11]
    refine A_tin okb (off := 471) (tgt := 511) dL_law_40 (by decide) (by decide) (by decide) (by decide) ?_
    exact op_fan ok hl0 hi hL hc hs hk inv
  by_cases s12 : x9 = 12
  · rw [s12]
    refine A_tin okb (off := 527) (tgt := 567) dL_law_40 (by decide) (by decide) (by decide) (by decide) ?_
    exact op_bay ok hl0 hi hL hc hs hk inv
  by_cases s13 : x9 = 13
  · rw [s13]
    refine A_tin okb (off := 583) (tgt := 623) dL_law_40 (by decide) (by decide) (by decide) (by decide) ?_
    exact op_isRed ok hl0 hi hL hc hs hk inv
  by_cases s14 : x9 = 14
  · rw [s14]
    refine A_tin okb (off := 658) (tgt := 698) dL_law_40 (by decide) (by decide) (by decide) (by decide) ?_
    exact op_carSection ok hl0 hi hL hc hs hk inv
  by_cases s15 : x9 = 15
  · rw [s15]
    refine A_tin okb (off := 714) (tgt := 754) dL_law_40 (by decide) (by decide) (by decide) (by decide) ?_
    exact op_carDirection ok hl0 hi hL hc hs hk inv
  by_cases s16 : x9 = 16
  · rw [s16]
    refine A_tin okb (off := 770) (tgt := 810) dL_law_40 (by decide) (by decide) (by decide) (by decide) ?_
    exact op_exposure ok hl0 hi hL hc hs hk inv
  by_cases s17 : x9 = 17
  · rw [s17]
    refine A_tin okb (off := 825) (tgt := 865) dL_law_40 (by decide) (by decide) (by decide) (by decide) ?_
    exact op_carsIn ok hl0 hi hL hc hs hk inv
  by_cases s18 : x9 = 18
  · rw [s18]
    refine A_tin okb (off := 893) (tgt := 933) dL_law_40 (by decide) (by decide) (by decide) (by decide) ?_
    exact op_inside ok hl0 hi hL hc hs hk inv
  by_cases s19 : x9 = 19
  · rw [s19]
    refine A_tin okb (off := 906) (tgt := 946) dL_law_40 (by decide) (by decide) (by decide) (by decide) ?_
    exact op_clearingTime ok hl0 hi hL hc hs hk inv
  by_cases s20 : x9 = 20
  · rw [s20]
    refine A_tin okb (off := 962) (tgt := 1002) dL_law_40 (by decide) (by decide) (by decide) (by decide) ?_
    exact op_bestBays ok hl0 hi hL hc hs hk inv
  by_cases s21 : x9 = 21
  · rw [s21]
    refine A_tin okb (off := 975) (tgt := 1015) dL_law_40 (by decide) (by decide) (by decide) (by decide) ?_
    exact op_bestBayTime ok hl0 hi hL hc hs hk inv
  by_cases s22 : x9 = 22
  · rw [s22]
    refine A_tin okb (off := 988) (tgt := 1028) dL_law_40 (by decide) (by decide) (by decide) (by decide) ?_
    exact op_exposureWith ok hl0 hi hL hc hs hk inv
  by_cases s23 : x9 = 23
  · rw [s23]
    refine A_tin okb (off := 1055) (tgt := 1095) dL_law_40 (by decide) (by decide) (by decide) (by decide) ?_
    exact op_bestSetting ok hl0 hi hL hc hs hk inv
  by_cases s24 : x9 = 24
  · rw [s24]
    refine A_tin okb (off := 1111) (tgt := 1151) dL_law_40 (by decide) (by decide) (by decide) (by decide) ?_
    exact op_run ok hl0 hi hL hc hs hk inv
  by_cases s25 : x9 = 25
  · rw [s25]
    refine A_tin okb (off := 1167) (tgt := 1207) dL_law_40 (by decide) (by decide) (by decide) (by decide) ?_
    exact op_setFan ok hl0 hi hL hc hs hk inv
  by_cases s26 : x9 = 26
  · rw [s26]
    refine A_tin okb (off := 1235) (tgt := 1275) dL_law_40 (by decide) (by decide) (by decide) (by decide) ?_
    exact op_setFire ok hl0 hi hL hc hs hk inv
  by_cases s27 : x9 = 27
  · rw [s27]
    refine A_tin okb (off := 1291) (tgt := 1331) dL_law_40 (by decide) (by decide) (by decide) (by decide) ?_
    exact op_setSignal ok hl0 hi hL hc hs hk inv
  by_cases s28 : x9 = 28
  · rw [s28]
    refine A_tin okb (off := 1394) (tgt := 1434) dL_law_40 (by decide) (by decide) (by decide) (by decide) ?_
    exact op_setBay ok hl0 hi hL hc hs hk inv
  by_cases s29 : x9 = 29
  · rw [s29]
    refine A_tin okb (off := 1485) (tgt := 1525) dL_law_40 (by decide) (by decide) (by decide) (by decide) ?_
    exact op_undo ok hl0 hi hL hc hs hk inv
  by_cases s30 : x9 = 30
  · rw [s30]
    refine A_tin okb (off := 1498) (tgt := 1538) dL_law_40 (by decide) (by decide) (by decide) (by decide) ?_
    exact op_checksum ok hl0 hi hL hc hs hk inv
  refine A_tout okb (tgt := 1552) dL_law_40 (by have e0 : (x9).toInt ≠ 0 := fun h => s0 (Int32.toInt_inj.mp (by rw [h]; decide)); have e1 : (x9).toInt ≠ 1 := fun h => s1 (Int32.toInt_inj.mp (by rw [h]; decide)); have e2 : (x9).toInt ≠ 2 := fun h => s2 (Int32.toInt_inj.mp (by rw [h]; decide)); have e3 : (x9).toInt ≠ 3 := fun h => s3 (Int32.toInt_inj.mp (by rw [h]; decide)); have e4 : (x9).toInt ≠ 4 := fun h => s4 (Int32.toInt_inj.mp (by rw [h]; decide)); have e5 : (x9).toInt ≠ 5 := fun h => s5 (Int32.toInt_inj.mp (by rw [h]; decide)); have e6 : (x9).toInt ≠ 6 := fun h => s6 (Int32.toInt_inj.mp (by rw [h]; decide)); have e7 : (x9).toInt ≠ 7 := fun h => s7 (Int32.toInt_inj.mp (by rw [h]; decide)); have e8 : (x9).toInt ≠ 8 := fun h => s8 (Int32.toInt_inj.mp (by rw [h]; decide)); have e9 : (x9).toInt ≠ 9 := fun h => s9 (Int32.toInt_inj.mp (by rw [h]; decide)); have e10 : (x9).toInt ≠ 10 := fun h => s10 (Int32.toInt_inj.mp (by rw [h]; decide)); have e11 : (x9).toInt ≠ 11 := fun h => s11 (Int32.toInt_inj.mp (by rw [h]; decide)); have e12 : (x9).toInt ≠ 12 := fun h => s12 (Int32.toInt_inj.mp (by rw [h]; decide)); have e13 : (x9).toInt ≠ 13 := fun h => s13 (Int32.toInt_inj.mp (by rw [h]; decide)); have e14 : (x9).toInt ≠ 14 := fun h => s14 (Int32.toInt_inj.mp (by rw [h]; decide)); have e15 : (x9).toInt ≠ 15 := fun h => s15 (Int32.toInt_inj.mp (by rw [h]; decide)); have e16 : (x9).toInt ≠ 16 := fun h => s16 (Int32.toInt_inj.mp (by rw [h]; decide)); have e17 : (x9).toInt ≠ 17 := fun h => s17 (Int32.toInt_inj.mp (by rw [h]; decide)); have e18 : (x9).toInt ≠ 18 := fun h => s18 (Int32.toInt_inj.mp (by rw [h]; decide)); have e19 : (x9).toInt ≠ 19 := fun h => s19 (Int32.toInt_inj.mp (by rw [h]; decide)); have e20 : (x9).toInt ≠ 20 := fun h => s20 (Int32.toInt_inj.mp (by rw [h]; decide)); have e21 : (x9).toInt ≠ 21 := fun h => s21 (Int32.toInt_inj.mp (by rw [h]; decide)); have e22 : (x9).toInt ≠ 22 := fun h => s22 (Int32.toInt_inj.mp (by rw [h]; decide)); have e23 : (x9).toInt ≠ 23 := fun h => s23 (Int32.toInt_inj.mp (by rw [h]; decide)); have e24 : (x9).toInt ≠ 24 := fun h => s24 (Int32.toInt_inj.mp (by rw [h]; decide)); have e25 : (x9).toInt ≠ 25 := fun h => s25 (Int32.toInt_inj.mp (by rw [h]; decide)); have e26 : (x9).toInt ≠ 26 := fun h => s26 (Int32.toInt_inj.mp (by rw [h]; decide)); have e27 : (x9).toInt ≠ 27 := fun h => s27 (Int32.toInt_inj.mp (by rw [h]; decide)); have e28 : (x9).toInt ≠ 28 := fun h => s28 (Int32.toInt_inj.mp (by rw [h]; decide)); have e29 : (x9).toInt ≠ 29 := fun h => s29 (Int32.toInt_inj.mp (by rw [h]; decide)); have e30 : (x9).toInt ≠ 30 := fun h => s30 (Int32.toInt_inj.mp (by rw [h]; decide)); omega) (by decide) ?_
  refine A_widen okb (cn2 := cn + 40) (sn2 := sn + 900) (by omega) (by omega) ?_
  exact hk eo p n len B s cnt nx sp sT T b P pr p3 T3 f S E9 D9 d fu R sk re st dn inv
set_option maxRecDepth 20000 in
set_option maxHeartbeats 8000000 in
theorem law_loop {l : Launch} {g : Gl} {ad : Nat → Nat → Nat} {A : Nat → Prop} {H0 : Heap} {K : KT} {bS L : Nat} {xs : Nat → Int32} (ok : OkL l g A H0 K bS L xs) (hl0 : l.stackTraces = false) (hL : L ≤ 3072) : ∀ (r i cn sn : Nat), i ≤ L → L < i + 6 * r → cn + 40 * r ≤ 601024 → sn + 900 * r ≤ 7293034 → ∀ (eo : Int32) (p : Nat) (n : Nat) (len : Nat) (B : Nat → Int32) (s : RS) (cnt : Nat) (nx : Nat) (sp : Nat → Nat) (sT : Nat → TD) (T : TD) (b : Nat → Nat) (P : PD) (pr : PL) (p3 : Nat) (T3 : TD) (f : Nat → Int64) (S : MS) (E9 : Nat → Int32) (D9 : Nat → Int32) (d : Nat → Int32) (fu : Nat → Int32) (R : Nat → Nat → Int32) (sk : Nat → Int64) (re : Nat → Int32) (st : Nat → Int32) (dn : Nat → Int32), LInv eo n B s cnt nx sp sT T b P pr S E9 d R → AW g A H0 8 K 23 (lvL ad bS i) [] (LWb g ad eo p n len B s cnt nx sp sT T b P pr p3 T3 f S E9 D9 d fu R sk re st dn).flatten cn sn := by
  obtain ⟨nm, okb⟩ := ok.b
  have hL6 : (nI L - nI 6).toInt = (L : Int) - 6 := pk_sub_toInt (by omega) (by omega)
  intro r
  induction r with
  | zero => intro i cn sn hi hr; exact absurd hr (by omega)
  | succ r ih =>
    intro i cn sn hi hr hc hs eo p n len B s cnt nx sp sT T b P pr p3 T3 f S E9 D9 d fu R sk re st dn inv
    have hi2 : (nI i).toInt = (i : Int) := nI_toInt (by omega)
    refine A_iload okb dL_law_23 (gps (gps (gps (gps gp0)))) ?_
    refine A_aload_n okb rfl dL_law_25 gp0 ?_
    refine A_scLen ok dL_law_26 ?_
    refine A_bipush okb (v := 6) dL_law_27 (by decide) ?_
    refine A_isub okb dL_law_29 ?_
    refine A_icmp_gt okb (tgt := 1558) dL_law_30 (by decide) (fun c => ?_) (fun c => ?_)
    · refine A_iconst okb (v := 1) dL_law_1558 (by decide) ?_
      exact A_lawEnd ok dL_law_1559 (by omega) (by omega)
    · have c2 : ¬ nI L - nI 6 < nI i := c
      have h6 : i + 6 ≤ L := by
        rw [Int32.lt_iff_toInt_lt, hL6, hi2] at c2
        omega
      refine law_switch ok hl0 h6 hL (show cn + 40 ≤ 601024 by omega) (show sn + 900 ≤ 7293034 by omega) ?_ inv
      intro eo p n len B s cnt nx sp sT T b P pr p3 T3 f S E9 D9 d fu R sk re st dn inv2
      refine A_iinc okb (v := nI (i + 6)) dL_law_1552 (gps (gps (gps (gps gp0)))) (by rw [show Int32.ofInt 6 = nI 6 by decide]; exact nI_add i 6) (by decide) (sts (sts (sts (sts1 rfl st0)))) ?_
      refine A_goto okb (tgt := 23) dL_law_1555 (by decide) ?_
      exact ih (i + 6) (cn + 40) (sn + 900) h6 (by omega) (by omega) (by omega) eo p n len B s cnt nx sp sT T b P pr p3 T3 f S E9 D9 d fu R sk re st dn inv2
