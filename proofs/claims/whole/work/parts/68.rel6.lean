def LB (x : Int64) : Prop := -1000000000 ≤ x.toInt ∧ x.toInt ≤ 1000000000
theorem i64_lt {x y : Int64} : x < y ↔ x.toInt < y.toInt := Int64.lt_iff_toInt_lt
theorem c9 : (1000000000 : Int64).toInt = 1000000000 ∧ (-1000000000 : Int64).toInt = -1000000000 := by decide
theorem lim_eq (x : Int64) : limF x = limR x ∧ LB (limR x) := by
  unfold limF limR LB
  simp only [i64_lt, c9.1, c9.2]
  by_cases h1 : (1000000000 : Int) < x.toInt
  · rw [if_pos h1, if_neg (show ¬ x.toInt < 1000000000 by omega), c9.1, if_neg (by decide)]
    exact ⟨rfl, by decide, by decide⟩
  · rw [if_neg h1]
    have e : (if x.toInt < 1000000000 then x else 1000000000) = x := by
      by_cases h : x.toInt < 1000000000
      · rw [if_pos h]
      · rw [if_neg h]; exact Int64.toInt_inj.mp (by rw [c9.1]; omega)
    rw [e]
    by_cases h2 : x.toInt < -1000000000
    · rw [if_pos h2, c9.2]; exact ⟨rfl, by decide, by decide⟩
    · rw [if_neg h2]; exact ⟨rfl, by omega, by omega⟩
theorem lim_id {x : Int64} (h : LB x) : limR x = x := by
  unfold limR
  simp only [i64_lt, c9.1, c9.2]
  rw [if_neg (by have := h.2; omega), if_neg (by have := h.1; omega)]
theorem div_LB {x y : Int64} (h : LB x) : LB (x / y) := by
  have h1 := h.1
  have h2 := h.2
  have hd : (x.toInt.tdiv y.toInt).natAbs ≤ x.toInt.natAbs := by rw [Int.natAbs_tdiv]; exact Nat.div_le_self _ _
  have e : (x / y).toInt = x.toInt.tdiv y.toInt := by
    rw [Int64.toInt_div]
    exact bm64 (by omega) (by omega)
  unfold LB
  rw [e]
  omega
theorem res_eq {k : Int32} (h : k ≤ -4) (h7 : -7 ≤ k) {x y : Int64} (hx : LB x) : resF k x y = opR (-k - 2) x y ∧ LB (opR (-k - 2) x y) := by
  rcases neg7 h h7 with rfl | rfl | rfl | rfl
  · have e : opR (-(-7) - 2) x y = if y = 0 then 0 else x / y := by rw [opR, if_pos (by decide)]
    have e2 : rawF (-7) x y = if y = 0 then 0 else x / y := by rw [rawF, if_neg (by decide), if_neg (by decide), if_neg (by decide)]
    have hb : LB (if y = 0 then 0 else x / y) := by
      split
      · exact ⟨by decide, by decide⟩
      · exact div_LB hx
    rw [resF, e2, e, (lim_eq _).1, lim_id hb]
    exact ⟨rfl, hb⟩
  · have e : opR (-(-6) - 2) x y = limR (x * y) := by rw [opR, if_neg (by decide), if_neg (by decide), if_neg (by decide)]
    have e2 : rawF (-6) x y = x * y := by rw [rawF, if_pos rfl]
    rw [resF, e2, e]
    exact lim_eq _
  · have e : opR (-(-5) - 2) x y = limR (x - y) := by rw [opR, if_neg (by decide), if_neg (by decide), if_pos (by decide)]
    have e2 : rawF (-5) x y = x - y := by rw [rawF, if_neg (by decide), if_pos rfl]
    rw [resF, e2, e]
    exact lim_eq _
  · have e : opR (-(-4) - 2) x y = limR (x + y) := by rw [opR, if_neg (by decide), if_pos (by decide)]
    have e2 : rawF (-4) x y = x + y := by rw [rawF, if_neg (by decide), if_neg (by decide), if_pos rfl]
    rw [resF, e2, e]
    exact lim_eq _
theorem oper_LB {k c n f : Int32} (hk : ¬ k ≤ -4) (h9 : k ≤ 9999) (hc : -1000000 ≤ c.toInt ∧ c.toInt ≤ 1000000) (hn : -1000000 ≤ n.toInt ∧ n.toInt ≤ 1000000) (hf : -1000000 ≤ f.toInt ∧ f.toInt ≤ 1000000) : LB (operF k c n f) := by
  have h1 : ¬ k.toInt ≤ -4 := fun h => hk (Int32.le_iff_toInt_le.mpr h)
  have h2 : k.toInt ≤ 9999 := Int32.le_iff_toInt_le.mp h9
  unfold operF LB
  split
  · rw [i64_of]; omega
  · split
    · rw [i64_of]; omega
    · split
      · rw [i64_of]; omega
      · rw [i64_of]; omega
/-- the codes on both stacks -/
theorem codes_rel {d cs : Nat → Int32} {nc : Nat} {c n f : Int32} (hc : -1000000 ≤ c.toInt ∧ c.toInt ≤ 1000000) (hn : -1000000 ≤ n.toInt ∧ n.toInt ≤ 1000000) (hf : -1000000 ≤ f.toInt ∧ f.toInt ≤ 1000000) (h : RTd d cs nc) (h9 : ∀ j, j < nc → cs j ≤ 9999) (s1 s2 : Nat → Int64) :
    ∀ k, k ≤ nc → (foldN (codeF cs c n f) (s1, 0) k).2 = htC cs k ∧ (∀ i, i < htC cs k → (foldN (codeF cs c n f) (s1, 0) k).1 i = (foldN (codeR cs c n f) (s2, 0) k).1 i ∧ LB ((foldN (codeR cs c n f) (s2, 0) k).1 i)) ∧ (0 < k → 0 < htC cs k)
  | 0, _ => ⟨rfl, fun i hi => absurd hi (Nat.not_lt_zero i), fun h => absurd h (Nat.lt_irrefl 0)⟩
  | k + 1, hk => by
    obtain ⟨h1, h2, h3⟩ := codes_rel hc hn hf h h9 s1 s2 k (by omega)
    have hj := h.2.2 k (by omega)
    have hR := codeR_ht cs c n f s2 k
    rw [foldN_s, foldN_s]
    generalize foldN (codeF cs c n f) (s1, 0) k = A at h1 h2 ⊢
    generalize foldN (codeR cs c n f) (s2, 0) k = B at h2 hR ⊢
    by_cases hop : cs k ≤ -4
    · have h2k := hj.2.2.1 hop
      have eht : htC cs (k + 1) = htC cs k - 1 := by rw [htC, if_pos hop]
      have eA : codeF cs c n f k A = (vp_updL A.1 (A.2 - 2) (resF (cs k) (A.1 (A.2 - 2)) (A.1 (A.2 - 1))), A.2 - 1) := by rw [codeF, if_pos hop, if_neg (by omega)]
      have eB : codeR cs c n f k B = (vp_updL B.1 (B.2 - 2) (opR (-(cs k) - 2) (B.1 (B.2 - 2)) (B.1 (B.2 - 1))), B.2 - 1) := by rw [codeR, if_pos hop]
      rw [eA, eB, eht, h1, hR]
      have v1 := h2 (htC cs k - 2) (by omega)
      have v2 := h2 (htC cs k - 1) (by omega)
      have hr := res_eq hop hj.2.1 (x := B.1 (htC cs k - 2)) (y := B.1 (htC cs k - 1)) v1.2
      refine ⟨rfl, fun i hi => ?_, fun _ => by omega⟩
      show (if i = htC cs k - 2 then resF (cs k) (A.1 (htC cs k - 2)) (A.1 (htC cs k - 1)) else A.1 i) = (if i = htC cs k - 2 then opR (-(cs k) - 2) (B.1 (htC cs k - 2)) (B.1 (htC cs k - 1)) else B.1 i) ∧ LB (if i = htC cs k - 2 then opR (-(cs k) - 2) (B.1 (htC cs k - 2)) (B.1 (htC cs k - 1)) else B.1 i)
      by_cases e : i = htC cs k - 2
      · rw [if_pos e, if_pos e, v1.1, v2.1]; exact hr
      · rw [if_neg e, if_neg e]; exact h2 i (by omega)
    · have h11 := hj.2.2.2 hop
      have eht : htC cs (k + 1) = htC cs k + 1 := by rw [htC, if_neg hop]
      have eA : codeF cs c n f k A = (vp_updL A.1 A.2 (operF (cs k) c n f), A.2 + 1) := by rw [codeF, if_neg hop, if_neg (by omega)]
      have eB : codeR cs c n f k B = (vp_updL B.1 B.2 (operF (cs k) c n f), B.2 + 1) := by rw [codeR, if_neg hop]
      rw [eA, eB, eht, h1, hR]
      refine ⟨rfl, fun i hi => ?_, fun _ => by omega⟩
      show (if i = htC cs k then operF (cs k) c n f else A.1 i) = (if i = htC cs k then operF (cs k) c n f else B.1 i) ∧ LB (if i = htC cs k then operF (cs k) c n f else B.1 i)
      by_cases e : i = htC cs k
      · rw [if_pos e, if_pos e]; exact ⟨rfl, oper_LB hop (h9 k (by omega)) hc hn hf⟩
      · rw [if_neg e, if_neg e]; exact h2 i (by omega)
/-- the rate's share of a plan -/
def RV (P : PD) (d : Nat → Int32) : Prop := pNc P < 1000 ∧ ((d 6 = 0 ∧ pNc P = 1 ∧ pCodes P 0 = 100) ∨ (¬ d 6 = 0 ∧ RTd d (pCodes P) (pNc P) ∧ 0 < pNc P ∧ ∀ j, j < pNc P → pCodes P j ≤ 9999))
theorem c99 : (9999 : Int64).toInt = 9999 ∧ (0 : Int64).toInt = 0 := by decide
theorem clampR_eq (v : Int64) : (clampR v).toInt32 = rtC v ∧ 0 ≤ (rtC v).toInt ∧ (rtC v).toInt ≤ 9999 := by
  unfold clampR rtC
  simp only [i64_lt, c99.1, c99.2]
  by_cases h1 : (9999 : Int) < v.toInt
  · rw [if_neg (show ¬ v.toInt < 9999 by omega), c99.1, if_neg (by decide), if_neg (show ¬ v.toInt < 0 by omega), if_pos h1]
    exact ⟨by decide, by decide, by decide⟩
  · have e : (if v.toInt < 9999 then v else 9999) = v := by
      by_cases h : v.toInt < 9999
      · rw [if_pos h]
      · rw [if_neg h]; exact Int64.toInt_inj.mp (by rw [c99.1]; omega)
    rw [e]
    by_cases h2 : v.toInt < 0
    · rw [if_pos h2, if_pos h2]; exact ⟨by decide, by decide, by decide⟩
    · rw [if_neg h2, if_neg h2, if_neg h1, i32_of (by omega) (by omega)]
      exact ⟨rfl, by omega, by omega⟩
theorem ins_b {d : Nat → Int32} : ∀ k, k ≤ 20 → ∃ m, m ≤ k ∧ insR d k = nI m
  | 0, _ => ⟨0, Nat.le_refl _, rfl⟩
  | k + 1, h => by
    obtain ⟨m, h1, h2⟩ := ins_b (d := d) k (by omega)
    rw [insR, h2]
    by_cases e : d (96 + 4 * k) < 0
    · exact ⟨m, by omega, by rw [if_pos e]; exact Int32.add_zero _⟩
    · exact ⟨m + 1, by omega, by rw [if_neg e, nI_1]⟩
theorem rate_rel {P : PD} {T : TD} {d : Nat → Int32} {sk : Nat → Int64} (hR : RV P d) (hC : CR P T d) (hfl : flowF T P = flowR d (pN P)) (h3 : d 3 = tClock T) (hck : 0 ≤ (d 3).toInt ∧ (d 3).toInt ≤ 1000000) (hfi : tFire T = -1 ∨ Inn (tFire T) (pN P)) :
    rateF T P = rtR d (pCodes P) (pN P) (pCar P) (pNc P) sk ∧ 0 ≤ (rateF T P).toInt ∧ (rateF T P).toInt ≤ 9999 := by
  have h4 := hC.1.2.2.2.1
  have hn := hC.1.2.2.2.2.1
  have hnc := hC.1.2.2.2.2.2.1
  rw [rateF, rtR, h4]
  by_cases h0 : 0 ≤ tFire T
  · rw [if_pos h0, if_neg (Int32.not_lt.mpr h0)]
    have hf := (cl_eq (flowRS d (pN P))).2
    have hf2 : -1000000 ≤ (flowR d (pN P)).toInt ∧ (flowR d (pN P)).toInt ≤ 1000000 := by
      have e : flowR d (pN P) = clR (flowRS d (pN P)) := rfl
      rw [e]; omega
    obtain ⟨m, hm, em⟩ := ins_b (d := d) (pCar P) hnc
    have hi : -1000000 ≤ (insR d (pCar P)).toInt ∧ (insR d (pCar P)).toInt ≤ 1000000 := by rw [em, nI_toInt (by omega)]; omega
    rcases hR.2 with ⟨h6, hk, hc⟩ | ⟨h6, hk, hp, hc⟩
    · rw [if_pos h6]
      have e : rateV T P 0 = 100 := by
        rw [rateV, valF, hk]
        show (codeF (pCodes P) (tClock T) (tIns T) (flowF T P) 0 (pStk P, 0)).1 0 = 100
        rw [codeF, hc, if_neg (by decide), if_neg (show ¬ 11 ≤ (0 : Nat) by omega)]
        rfl
      rw [e]
      exact ⟨by decide, by decide, by decide⟩
    · rw [if_neg h6]
      have hcr := codes_rel (c := d 3) (n := insR d (pCar P)) (f := flowR d (pN P)) (by omega) hi hf2 hk hc (pStk P) sk (pNc P) (Nat.le_refl _)
      have e : rateV T P 0 = rtS d (pCodes P) (pN P) (pCar P) (pNc P) sk 0 := by
        rw [rateV, valF, hfl, ← h3, hC.2.2.2.2, rtS]
        exact (hcr.2.1 0 (hcr.2.2 hp)).1
      rw [e]
      have h9 := clampR_eq (rtS d (pCodes P) (pN P) (pCar P) (pNc P) sk 0)
      rw [h9.1]
      exact ⟨rfl, h9.2⟩
  · rw [if_neg h0, if_pos (Int32.not_le.mp h0)]
    exact ⟨rfl, by decide, by decide⟩
/-- a long out of its halves -/
theorem pack64 (v : Int64) : ((v >>> ((32 : Int32).toInt64 &&& 63)).toInt32.toInt64 <<< ((32 : Int32).toInt64 &&& 63)) ||| (v.toInt32.toInt64 &&& 4294967295) = v := by
  have hs : (((32 : Int32).toInt64 &&& 63).toBitVec.smod 64).toNat = 32 := by decide
  have hm : ∀ i, i < 64 → (4294967295 : Int64).toBitVec.getLsbD i = decide (i < 32) := by decide +kernel
  have hsh : ∀ j, (v >>> ((32 : Int32).toInt64 &&& 63)).toBitVec.getLsbD j = (v.toBitVec.sshiftRight 32).getLsbD j := fun j => by
    rw [Int64.toBitVec_shiftRight]
    show (v.toBitVec.sshiftRight (((32 : Int32).toInt64 &&& 63).toBitVec.smod 64).toNat).getLsbD j = _
    rw [hs]
  apply Int64.toBitVec_inj.mp
  apply BitVec.eq_of_getLsbD_eq
  intro i hi
  rw [Int64.toBitVec_or, BitVec.getLsbD_or, Int64.toBitVec_and, BitVec.getLsbD_and, hm i hi, Int64.toBitVec_shiftLeft]
  show (((v >>> ((32 : Int32).toInt64 &&& 63)).toInt32.toInt64.toBitVec <<< (((32 : Int32).toInt64 &&& 63).toBitVec.smod 64).toNat).getLsbD i || _) = _
  rw [hs, BitVec.getLsbD_shiftLeft, Int32.toBitVec_toInt64, Int32.toBitVec_toInt64, BitVec.getLsbD_signExtend, BitVec.getLsbD_signExtend, Int64.toBitVec_toInt32, Int64.toBitVec_toInt32]
  by_cases h : i < 32
  · have e : (BitVec.signExtend 32 v.toBitVec).getLsbD i = v.toBitVec.getLsbD i := by
      rw [BitVec.getLsbD_signExtend, if_pos (show i < 64 by omega)]
      simp [h]
    rw [if_pos h, e]
    simp [h, hi]
  · have h3 : i - 32 < 32 := by omega
    have h4 : 32 + (i - 32) = i := by omega
    rw [if_pos h3, BitVec.getLsbD_signExtend, if_pos (show i - 32 < 64 by omega), hsh, BitVec.getLsbD_sshiftRight]
    have h5 : i - 32 < 64 := by omega
    have h6 : ¬ 64 ≤ i - 32 := by omega
    simp [h, h3, h4, hi, h5, h6]
theorem xp_ex {d : Nat → Int32} {j : Nat} {x : Int32} : exR (xpR d j x) j = exR d j + x.toInt64 := by
  have e : exR (xpR d j x) j = ((xpV d j x >>> ((32 : Int32).toInt64 &&& 63)).toInt32.toInt64 <<< ((32 : Int32).toInt64 &&& 63)) ||| ((xpV d j x).toInt32.toInt64 &&& 4294967295) := by
    rw [exR, xpR, upd_at, if_pos rfl, upd_at, if_neg (by omega), upd_at, if_pos rfl]
  rw [e, pack64]
  rfl
theorem xp_ex2 {d : Nat → Int32} {j k : Nat} {x : Int32} (h1 : k ≠ j) (h2 : k ≠ j + 1) (h3 : k + 1 ≠ j) : exR (xpR d j x) k = exR d k := by
  rw [exR, exR, xp_keep h1 h2, xp_keep h3 (by omega)]
