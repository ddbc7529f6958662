def bt (x : Int32) (i : Nat) : Bool := x.toBitVec.getLsbD i
theorem b_ext {x y : Int32} (h : ∀ i, i < 32 → bt x i = bt y i) : x = y := Int32.toBitVec_inj.mp (BitVec.eq_of_getLsbD_eq (fun i hi => h i hi))
theorem b_or (x y : Int32) (i : Nat) : bt (x ||| y) i = (bt x i || bt y i) := by unfold bt; rw [Int32.toBitVec_or, BitVec.getLsbD_or]
theorem b_and (x y : Int32) (i : Nat) : bt (x &&& y) i = (bt x i && bt y i) := by unfold bt; rw [Int32.toBitVec_and, BitVec.getLsbD_and]
theorem b_xor (x y : Int32) (i : Nat) : bt (x ^^^ y) i = (bt x i ^^ bt y i) := by unfold bt; rw [Int32.toBitVec_xor, BitVec.getLsbD_xor]
theorem b_big {x : Int32} {i : Nat} (h : 32 ≤ i) : bt x i = false := BitVec.getLsbD_of_ge _ _ h
theorem b_255 (i : Nat) : bt 255 i = decide (i < 8) := by
  rcases Nat.lt_or_ge i 32 with h | h
  · exact (by decide +kernel : ∀ i, i < 32 → bt 255 i = decide (i < 8)) i h
  · rw [b_big h, decide_eq_false (by omega)]
theorem b_65535 (i : Nat) : bt 65535 i = decide (i < 16) := by
  rcases Nat.lt_or_ge i 32 with h | h
  · exact (by decide +kernel : ∀ i, i < 32 → bt 65535 i = decide (i < 16)) i h
  · rw [b_big h, decide_eq_false (by omega)]
theorem b_m1 : ∀ i, i < 32 → bt (-1) i = true := by decide +kernel
theorem b_0 (i : Nat) : bt 0 i = false := BitVec.getLsbD_zero
theorem s_l : ∀ n, n < 32 → ((nI n &&& 31).toBitVec.smod 32).toNat = n := by decide +kernel
theorem s_u : ∀ n, n < 32 → (((nI n).toUInt32 &&& Int32.toUInt32 31).toBitVec % 32).toNat = n := by decide +kernel
theorem b_shl (n : Nat) (hn : n < 32) (x : Int32) {i : Nat} (hi : i < 32) : bt (x <<< (nI n &&& 31)) i = (decide (n ≤ i) && bt x (i - n)) := by
  unfold bt
  rw [Int32.toBitVec_shiftLeft]
  show (x.toBitVec <<< ((nI n &&& 31).toBitVec.smod 32).toNat).getLsbD i = _
  rw [s_l n hn, BitVec.getLsbD_shiftLeft]
  rcases Nat.lt_or_ge i n with h | h
  · simp [h, Nat.not_le.mpr h]
  · simp [hi, h, Nat.not_lt.mpr h]
theorem b_ushr (n : Nat) (hn : n < 32) (x : Int32) (i : Nat) : bt ((x.toUInt32 >>> ((nI n).toUInt32 &&& Int32.toUInt32 31)).toInt32) i = bt x (n + i) := by
  show (x.toUInt32 >>> ((nI n).toUInt32 &&& Int32.toUInt32 31)).toBitVec.getLsbD i = x.toUInt32.toBitVec.getLsbD (n + i)
  rw [UInt32.toBitVec_shiftRight]
  show (x.toUInt32.toBitVec >>> (((nI n).toUInt32 &&& Int32.toUInt32 31).toBitVec % 32).toNat).getLsbD i = _
  rw [s_u n hn, BitVec.getLsbD_ushiftRight]
theorem b_sshr (n : Nat) (hn : n < 32) (x : Int32) {i : Nat} (hi : i < 32) : bt (x >>> (nI n &&& 31)) i = if n + i < 32 then bt x (n + i) else bt x 31 := by
  unfold bt
  rw [Int32.toBitVec_shiftRight]
  show (x.toBitVec.sshiftRight ((nI n &&& 31).toBitVec.smod 32).toNat).getLsbD i = _
  rw [s_l n hn, BitVec.getLsbD_sshiftRight, BitVec.msb_eq_getLsbD_last]
  simp [hi]
theorem b_1 : ∀ i, i < 32 → bt 1 i = decide (i = 0) := by decide +kernel
theorem bit_iff {x : Int32} {c : Nat} (hc : c < 32) : (x >>> (nI c &&& 31)) &&& 1 = 0 ↔ bt x c = false := by
  constructor
  · intro h
    have h1 : bt ((x >>> (nI c &&& 31)) &&& 1) 0 = bt 0 0 := by rw [h]
    rw [b_and, b_sshr c hc x (by decide), if_pos (by omega), b_1 0 (by decide), b_0, Nat.add_zero] at h1
    simpa using h1
  · intro h
    refine b_ext (fun i hi => ?_)
    rw [b_and, b_sshr c hc x hi, b_1 i hi, b_0]
    by_cases e : i = 0
    · subst e
      rw [if_pos (by omega), Nat.add_zero, h]; rfl
    · simp [e]
theorem bit_set {x : Int32} {c k : Nat} (hc : c < 32) (hk : k < 32) : bt (x ||| ((1 : Int32) <<< (nI c &&& 31))) k = (bt x k || decide (k = c)) := by
  rw [b_or, b_shl c hc 1 hk, b_1 (k - c) (by omega)]
  congr 1
  by_cases h : k = c
  · subst h; simp
  · by_cases h2 : c ≤ k
    · simp [h, h2]; omega
    · simp [h, h2]
theorem lane_nat {d : Nat → Int32} {s v : Int32} : ∀ k, k ≤ 20 → ∃ m, m ≤ k ∧ laneR d s v k = nI m ∧ ∀ c, c < k → (d (96 + 4 * c) = s ∧ d (96 + 4 * c + 1) = v) → 1 ≤ m
  | 0, _ => ⟨0, Nat.le_refl _, rfl, fun c hc => absurd hc (Nat.not_lt_zero c)⟩
  | k + 1, h => by
    obtain ⟨m, h1, h2, h3⟩ := lane_nat (d := d) (s := s) (v := v) k (by omega)
    by_cases e : d (96 + 4 * k) = s ∧ d (96 + 4 * k + 1) = v
    · exact ⟨m + 1, by omega, by rw [laneR, if_pos e, h2, nI_1], fun _ _ _ => by omega⟩
    · refine ⟨m, by omega, by rw [laneR, if_neg e, h2]; exact Int32.add_zero _, fun c hc hm => ?_⟩
      by_cases e2 : c = k
      · subst e2; exact absurd hm e
      · exact h3 c (by omega) hm
theorem lane_0 {d : Nat → Int32} {s v : Int32} {k : Nat} (hk : k ≤ 20) (h : laneR d s v k = 0) {c : Nat} (hc : c < k) : ¬ (d (96 + 4 * c) = s ∧ d (96 + 4 * c + 1) = v) := fun hm => by
  obtain ⟨m, h1, h2, h3⟩ := lane_nat (d := d) (s := s) (v := v) k hk
  have := h3 c hc hm
  rw [h2] at h
  exact nI_ne0 (by omega) (by omega) h
/-- what a pass over the sections keeps -/
def PI (P : PD) (w : Int32) (sec : Nat → Nat) (base : Int32) (T0 : TD) (S0 : D3) (i k : Nat) (M : Int32 × TD) (S : D3) : Prop :=
  CR P M.2 S.2.2 ∧
  (∀ c, c < pCar P → S.1 c = 0 → S.2.1 c = 0 ∧ (bt base c || bt M.1 c) = false) ∧
  (∀ c, c < pCar P → ¬ S.1 c = 0 → (tCs M.2 c = -1 → S.2.1 c = 0) ∧ (¬ tCs M.2 c = -1 → ((bt base c || bt M.1 c) = false ↔ ¬ S.2.1 c = 0))) ∧
  (∀ c, c < pCar P → tCd M.2 c = w → ∀ j, j < pN P → tCs M.2 c = nI (sec j) → ((j < i ∨ (j = i ∧ c < k)) ↔ ¬ S.1 c = 0)) ∧
  (∀ c, c < pCar P → ¬ tCd M.2 c = w → S.1 c = S0.1 c ∧ tCs M.2 c = tCs T0 c) ∧ tCd M.2 = tCd T0
/-- the sections' order fits the way -/
def SO (n : Nat) (w : Int32) (sec : Nat → Nat) : Prop := (∀ i, i < n → sec i < n) ∧ (∀ i j, i < n → j < n → sec i = sec j → i = j) ∧ (0 < n → (nI (sec 0) + w < 0 ∨ nI n ≤ nI (sec 0) + w)) ∧ (∀ i, i + 1 < n → nI (sec (i + 1)) + w = nI (sec i))
theorem PI_car {P : PD} {w : Int32} (hw : w = 1 ∨ w = -1) {sec : Nat → Nat} (hS : SO (pN P) w sec) {base : Int32} {T0 : TD} {S0 : D3} {i k : Nat} (hi : i < pN P) (hk : k < pCar P) {M : Int32 × TD} {S : D3} (h : PI P w sec base T0 S0 i k M S) :
    PI P w sec base T0 S0 i (k + 1) (driveCF P w (nI (sec i)) k M) (dfF (pN P) (pCar P) (nI (sec i)) w k S) := by
  obtain ⟨hC, h2, h3, h4, h5, h6⟩ := h
  have hcc := hC.2.2.1 k hk
  have hn := hC.1.2.2.2.2.1
  have hnc := hC.1.2.2.2.2.2.1
  by_cases hm : tCs M.2 k = nI (sec i) ∧ tCd M.2 k = w
  · have hdr : S.1 k = 0 := by
      have h9 := h4 k hk hm.2 i hi hm.1
      by_cases e : S.1 k = 0
      · exact e
      · rcases h9.mpr e with h8 | h8
        · omega
        · omega
    have hst := h2 k hk hdr
    have eR : dfF (pN P) (pCar P) (nI (sec i)) w k S = (upd S.1 k 1, drvR (pN P) (pCar P) k S.2) := by
      rw [dfF, if_pos ⟨hdr, hcc.1.trans hm.1, hcc.2.1.trans hm.2⟩]
    have eM : driveCF P w (nI (sec i)) k M = ((if (driveF P M.2 k (nI (sec i)) w).1 = 0 then M.1 else M.1 ||| ((1 : Int32) <<< (nI k &&& 31))), (driveF P M.2 k (nI (sec i)) w).2) := by
      rw [driveCF, if_pos hm]
    obtain ⟨g1, g2, g3⟩ := drive_rel (st := S.2.1) hC hk (hS.1 i hi) hw hm.1 hm.2
    rw [eR, eM]
    have hd1 : ∀ c, c < pCar P → (upd S.1 k 1 c = 0 ↔ (¬ c = k ∧ S.1 c = 0)) := fun c _ => by
      rw [upd_at]
      by_cases e : c = k
      · rw [if_pos e]; exact ⟨fun h => absurd h (by decide), fun h => absurd e h.1⟩
      · rw [if_neg e]; exact ⟨fun h => ⟨e, h⟩, fun h => h.2⟩
    rcases g3 with ⟨f1, f2, f3⟩ | ⟨f1, f2, f3⟩
    · rw [if_pos f1]
      refine ⟨g1, fun c hc hz => ?_, fun c hc hz => ?_, fun c hc hd j hj hcs => ?_, fun c hc hd => ?_, g2.trans h6⟩
      · have e := (hd1 c hc).mp hz
        show (drvR (pN P) (pCar P) k S.2).1 c = 0 ∧ _
        rw [f2, upd_at, if_neg e.1, upd_at, if_neg e.1]
        exact h2 c hc e.2
      · show (tCs (driveF P M.2 k (nI (sec i)) w).2 c = -1 → (drvR (pN P) (pCar P) k S.2).1 c = 0) ∧ (¬ tCs (driveF P M.2 k (nI (sec i)) w).2 c = -1 → ((bt base c || bt M.1 c) = false ↔ ¬ (drvR (pN P) (pCar P) k S.2).1 c = 0))
        rw [f2, f3, upd_at, upd_at]
        by_cases e : c = k
        · rw [if_pos e, e]
          refine ⟨fun h9 => ?_, fun _ => ⟨fun _ => by decide, fun _ => hst.2⟩⟩
          rw [hm.1] at h9
          exact absurd (show nI (sec i) < 0 by rw [h9]; decide) (nI_pos (by have := hS.1 i hi; omega))
        · rw [if_neg e, if_neg e]
          exact h3 c hc (fun h9 => hz ((hd1 c hc).mpr ⟨e, h9⟩))
      · have hd' : tCd M.2 c = w := by rw [← g2]; exact hd
        have hcs' : tCs M.2 c = nI (sec j) := by rw [← f3]; exact hcs
        show _ ↔ ¬ upd S.1 k 1 c = 0
        rw [upd_at]
        by_cases e : c = k
        · rw [if_pos e]
          subst e
          have : j = i := hS.2.1 j i hj hi ((nI_eq (by have := hS.1 j hj; omega) (by have := hS.1 i hi; omega)).mp (hcs'.symm.trans hm.1))
          exact ⟨fun _ => by decide, fun _ => Or.inr ⟨this, by omega⟩⟩
        · rw [if_neg e, ← h4 c hc hd' j hj hcs']
          constructor
          · rintro (h9 | h9)
            · exact Or.inl h9
            · exact Or.inr ⟨h9.1, by omega⟩
          · rintro (h9 | h9)
            · exact Or.inl h9
            · exact Or.inr ⟨h9.1, by omega⟩
      · have hd' : ¬ tCd M.2 c = w := by rw [← g2]; exact hd
        have e : ¬ c = k := fun e => hd' (by rw [e]; exact hm.2)
        show upd S.1 k 1 c = S0.1 c ∧ _
        rw [upd_at, if_neg e]
        exact ⟨(h5 c hc hd').1, by show tCs (driveF P M.2 k (nI (sec i)) w).2 c = _; rw [f3]; exact (h5 c hc hd').2⟩
    · rw [if_neg (show ¬ (driveF P M.2 k (nI (sec i)) w).1 = 0 by rw [f1]; decide)]
      have hb : ∀ c, c < pCar P → bt (M.1 ||| ((1 : Int32) <<< (nI k &&& 31))) c = (bt M.1 c || decide (c = k)) := fun c hc => bit_set (by omega) (by omega)
      refine ⟨g1, fun c hc hz => ?_, fun c hc hz => ?_, fun c hc hd j hj hcs => ?_, fun c hc hd => ?_, g2.trans h6⟩
      · have e := (hd1 c hc).mp hz
        show (drvR (pN P) (pCar P) k S.2).1 c = 0 ∧ (bt base c || bt (M.1 ||| ((1 : Int32) <<< (nI k &&& 31))) c) = false
        rw [f2, upd_at, if_neg e.1, hb c hc, decide_eq_false e.1, Bool.or_false]
        exact h2 c hc e.2
      · show (tCs (driveF P M.2 k (nI (sec i)) w).2 c = -1 → (drvR (pN P) (pCar P) k S.2).1 c = 0) ∧ (¬ tCs (driveF P M.2 k (nI (sec i)) w).2 c = -1 → ((bt base c || bt (M.1 ||| ((1 : Int32) <<< (nI k &&& 31))) c) = false ↔ ¬ (drvR (pN P) (pCar P) k S.2).1 c = 0))
        rw [f2, f3, upd_at, hb c hc]
        by_cases e : c = k
        · rw [if_pos e, decide_eq_true e]
          have hu : upd S.2.1 k 0 c = 0 := by rw [upd_at, if_pos e]
          exact ⟨fun _ => hu, fun _ => ⟨fun h9 => by simp at h9, fun h9 => absurd hu h9⟩⟩
        · rw [if_neg e, upd_at, if_neg e, decide_eq_false e, Bool.or_false]
          exact h3 c hc (fun h9 => hz ((hd1 c hc).mpr ⟨e, h9⟩))
      · have hd' : tCd M.2 c = w := by rw [← g2]; exact hd
        have hcs1 : upd (tCs M.2) k (if nI (sec i) + w < 0 ∨ nI (pN P) ≤ nI (sec i) + w then -1 else nI (sec i) + w) c = nI (sec j) := by rw [← f3]; exact hcs
        show _ ↔ ¬ upd S.1 k 1 c = 0
        rw [upd_at] at hcs1 ⊢
        by_cases e : c = k
        · rw [if_pos e] at hcs1 ⊢
          refine ⟨fun _ => by decide, fun _ => Or.inl ?_⟩
          have hjn := hS.1 j hj
          by_cases ho : nI (sec i) + w < 0 ∨ nI (pN P) ≤ nI (sec i) + w
          · rw [if_pos ho] at hcs1
            exact absurd (show nI (sec j) < 0 by rw [← hcs1]; decide) (nI_pos (by omega))
          · rw [if_neg ho] at hcs1
            cases i with
            | zero => exact absurd (hS.2.2.1 (by omega)) ho
            | succ i0 =>
              rw [hS.2.2.2 i0 hi] at hcs1
              have := hS.2.1 i0 j (by omega) hj ((nI_eq (by have := hS.1 i0 (by omega); omega) (by omega)).mp hcs1)
              omega
        · rw [if_neg e] at hcs1 ⊢
          rw [← h4 c hc hd' j hj hcs1]
          constructor
          · rintro (h9 | h9)
            · exact Or.inl h9
            · exact Or.inr ⟨h9.1, by omega⟩
          · rintro (h9 | h9)
            · exact Or.inl h9
            · exact Or.inr ⟨h9.1, by omega⟩
      · have hd' : ¬ tCd M.2 c = w := by rw [← g2]; exact hd
        have e : ¬ c = k := fun e => hd' (by rw [e]; exact hm.2)
        show upd S.1 k 1 c = S0.1 c ∧ _
        rw [upd_at, if_neg e]
        exact ⟨(h5 c hc hd').1, by show tCs (driveF P M.2 k (nI (sec i)) w).2 c = _; rw [f3, upd_at, if_neg e]; exact (h5 c hc hd').2⟩
  · have eR : dfF (pN P) (pCar P) (nI (sec i)) w k S = S := by
      rw [dfF, if_neg (fun h9 => hm ⟨hcc.1.symm.trans h9.2.1, hcc.2.1.symm.trans h9.2.2⟩)]
    have eM : driveCF P w (nI (sec i)) k M = M := by rw [driveCF, if_neg hm]
    rw [eR, eM]
    refine ⟨hC, h2, h3, fun c hc hd j hj hcs => ?_, h5, h6⟩
    rw [← h4 c hc hd j hj hcs]
    constructor
    · rintro (h9 | h9)
      · exact Or.inl h9
      · refine Or.inr ⟨h9.1, ?_⟩
        by_cases e : c = k
        · subst e
          exact absurd ⟨by rw [hcs, h9.1], hd⟩ hm
        · omega
    · rintro (h9 | h9)
      · exact Or.inl h9
      · exact Or.inr ⟨h9.1, by omega⟩
theorem PI_cars {P : PD} {w : Int32} (hw : w = 1 ∨ w = -1) {sec : Nat → Nat} (hS : SO (pN P) w sec) {base : Int32} {T0 : TD} {S0 : D3} {i : Nat} (hi : i < pN P) {M : Int32 × TD} {S : D3} (h : PI P w sec base T0 S0 i 0 M S) :
    ∀ k, k ≤ pCar P → PI P w sec base T0 S0 i k (foldN (driveCF P w (nI (sec i))) M k) (foldN (dfF (pN P) (pCar P) (nI (sec i)) w) S k)
  | 0, _ => h
  | k + 1, hk => by
    rw [foldN_s, foldN_s]
    exact PI_car hw hS hi hk (PI_cars hw hS hi h k (by omega))
theorem df_none {n nc : Nat} {s w : Int32} {S : D3} (h : ∀ c, c < nc → ¬ (S.2.2 (96 + 4 * c) = s ∧ S.2.2 (96 + 4 * c + 1) = w)) : ∀ k, k ≤ nc → foldN (dfF n nc s w) S k = S
  | 0, _ => rfl
  | k + 1, hk => by rw [foldN_s, df_none h k (by omega), dfF, if_neg (fun h9 => h k (by omega) h9.2)]
theorem PI_sec {P : PD} {w : Int32} (hw : w = 1 ∨ w = -1) {sec : Nat → Nat} (hS : SO (pN P) w sec) (hdS : ∀ i, i < pN P → driveSec (pN P) w i = nI (sec i)) {base : Int32} {T0 : TD} {S0 : D3} {i : Nat} (hi : i < pN P) {M : Int32 × TD} {S : D3} (h : PI P w sec base T0 S0 i 0 M S) :
    PI P w sec base T0 S0 (i + 1) 0 (driveLF P w i M) (dfR (pN P) (pCar P) (nI (sec i)) w S) := by
  have hC := h.1
  have hn := hC.1.2.2.2.2.1
  have hnc := hC.1.2.2.2.2.2.1
  rw [driveLF, hdS i hi]
  by_cases hz : tLane M.2 (lx (nI (sec i)) w) = 0
  · rw [if_pos hz]
    rw [hC.2.2.2.1 (sec i) (hS.1 i hi) w hw] at hz
    have hno := fun c hc => lane_0 hnc hz (c := c) hc
    rw [dfR, df_none hno _ (Nat.le_refl _)]
    obtain ⟨_, h2, h3, h4, h5, h6⟩ := h
    refine ⟨hC, h2, h3, fun c hc hd j hj hcs => ?_, h5, h6⟩
    rw [← h4 c hc hd j hj hcs]
    have hne : ¬ j = i := fun e => hno c hc ⟨by rw [(hC.2.2.1 c hc).1, hcs, e], by rw [(hC.2.2.1 c hc).2.1]; exact hd⟩
    constructor
    · rintro (h9 | h9)
      · exact Or.inl (by omega)
      · exact absurd h9.2 (Nat.not_lt_zero _)
    · rintro (h9 | h9)
      · exact Or.inl (by omega)
      · exact absurd h9.2 (Nat.not_lt_zero _)
  · rw [if_neg hz, dfR]
    obtain ⟨g1, h2, h3, h4, h5, h6⟩ := PI_cars hw hS hi h (pCar P) (Nat.le_refl _)
    refine ⟨g1, h2, h3, fun c hc hd j hj hcs => ?_, h5, h6⟩
    rw [← h4 c hc hd j hj hcs]
    constructor
    · rintro (h9 | h9)
      · by_cases e : j = i
        · exact Or.inr ⟨e, hc⟩
        · exact Or.inl (by omega)
      · exact absurd h9.2 (Nat.not_lt_zero _)
    · rintro (h9 | h9)
      · exact Or.inl (by omega)
      · exact Or.inl (by omega)
theorem PI_pass {P : PD} {w : Int32} (hw : w = 1 ∨ w = -1) {sec : Nat → Nat} (hS : SO (pN P) w sec) (hdS : ∀ i, i < pN P → driveSec (pN P) w i = nI (sec i)) {base : Int32} {T0 : TD} {S0 : D3} {M : Int32 × TD} {S : D3} (h : PI P w sec base T0 S0 0 0 M S) (f : Nat → D3 → D3) (hf : ∀ i, i < pN P → f i = dfR (pN P) (pCar P) (nI (sec i)) w) :
    ∀ i, i ≤ pN P → PI P w sec base T0 S0 i 0 (foldN (driveLF P w) M i) (foldN f S i)
  | 0, _ => h
  | i + 1, hi => by
    rw [foldN_s, foldN_s, hf i hi]
    exact PI_sec hw hS hdS hi (PI_pass hw hS hdS h f hf i (by omega))
theorem SO_e (n : Nat) (hn : n ≤ 12) : SO n 1 (fun i => n - 1 - i) := by
  refine ⟨fun i hi => by show n - 1 - i < n; omega, fun i j hi hj e => by have e2 : n - 1 - i = n - 1 - j := e; omega, fun h0 => Or.inr ?_, fun i hi => ?_⟩
  · show nI n ≤ nI (n - 1 - 0) + 1
    rw [nI_1]
    exact nI_le (by omega) (by omega)
  · show nI (n - 1 - (i + 1)) + 1 = nI (n - 1 - i)
    rw [nI_1, show n - 1 - (i + 1) + 1 = n - 1 - i by omega]
theorem SO_w (n : Nat) (hn : n ≤ 12) : SO n (-1) (fun i => i) := by
  refine ⟨fun i hi => hi, fun i j _ _ e => e, fun _ => Or.inl (by show nI 0 + (-1) < 0; decide), fun i hi => nI_m1 i⟩
/-- who stayed: both sides know it alike after both passes -/
theorem passes {P : PD} {T : TD} {dr st d : Nat → Int32} (h : CR P T d) (hdr : ∀ c, c < pCar P → dr c = 0) (hst : ∀ c, c < pCar P → st c = 0) :
    CR P (moveB P T).2 (foldN (tkV (pN P) (pCar P)) (foldN (tkE (pN P) (pCar P)) (dr, st, d) (pN P)) (pN P)).2.2 ∧
    (∀ c, c < pCar P → ((¬ tCs (moveB P T).2 c = -1 ∧ ((moveM P T) >>> (nI c &&& 31)) &&& 1 = 0) ↔ ¬ (foldN (tkV (pN P) (pCar P)) (foldN (tkE (pN P) (pCar P)) (dr, st, d) (pN P)) (pN P)).2.1 c = 0)) := by
  have hn := h.1.2.2.2.2.1
  have hnc := h.1.2.2.2.2.2.1
  have hE := SO_e (pN P) hn
  have hW := SO_w (pN P) hn
  have dE : ∀ i, i < pN P → driveSec (pN P) 1 i = nI (pN P - 1 - i) := fun i hi => by rw [driveSec, if_pos rfl, inn_sub hi]
  have dW : ∀ i, i < pN P → driveSec (pN P) (-1) i = nI i := fun i _ => by rw [driveSec, if_neg w_ne]
  have p0 : PI P 1 (fun i => pN P - 1 - i) 0 T (dr, st, d) 0 0 (0, T) (dr, st, d) := by
    refine ⟨h, fun c hc _ => ⟨hst c hc, by rw [b_0]; rfl⟩, fun c hc h9 => absurd (hdr c hc) h9, fun c hc _ j _ _ => ⟨fun h9 => ?_, fun h9 => absurd (hdr c hc) h9⟩, fun _ _ _ => ⟨rfl, rfl⟩, rfl⟩
    rcases h9 with h9 | h9
    · exact absurd h9 (Nat.not_lt_zero _)
    · exact absurd h9.2 (Nat.not_lt_zero _)
  have p1 := PI_pass (Or.inl rfl) hE dE p0 (tkE (pN P) (pCar P)) (fun i _ => rfl) (pN P) (Nat.le_refl _)
  generalize hS1 : foldN (tkE (pN P) (pCar P)) (dr, st, d) (pN P) = S1 at p1 ⊢
  have eA : foldN (driveLF P 1) (0, T) (pN P) = moveA P T := rfl
  rw [eA] at p1
  obtain ⟨a1, a2, a3, a4, a5, a6⟩ := p1
  have p2 : PI P (-1) (fun i => i) (moveA P T).1 (moveA P T).2 S1 0 0 (0, (moveA P T).2) S1 := by
    refine ⟨a1, fun c hc hz => ?_, fun c hc hz => ?_, fun c hc hd j _ hcs => ⟨fun h9 => ?_, fun h9 => ?_⟩, fun _ _ _ => ⟨rfl, rfl⟩, rfl⟩
    · have h9 := a2 c hc hz
      refine ⟨h9.1, ?_⟩
      have h8 := h9.2
      rw [b_0] at h8 ⊢
      simpa using h8
    · have h9 := a3 c hc hz
      refine ⟨h9.1, fun h8 => ?_⟩
      have h7 := h9.2 h8
      rw [b_0] at h7 ⊢
      simpa using h7
    · rcases h9 with h9 | h9
      · exact absurd h9 (Nat.not_lt_zero _)
      · exact absurd h9.2 (Nat.not_lt_zero _)
    · have h8 := (a5 c hc (by rw [hd]; exact fun h => w_ne h)).1
      exact absurd (h8.trans (hdr c hc)) h9
  have p3 := PI_pass (Or.inr rfl) hW dW p2 (tkV (pN P) (pCar P)) (fun i _ => rfl) (pN P) (Nat.le_refl _)
  generalize hS2 : foldN (tkV (pN P) (pCar P)) S1 (pN P) = S2 at p3 ⊢
  have eB : foldN (driveLF P (-1)) (0, (moveA P T).2) (pN P) = moveB P T := rfl
  rw [eB] at p3
  obtain ⟨b1, b2, b3, b4, b5, b6⟩ := p3
  refine ⟨b1, fun c hc => ?_⟩
  have hbit : ((moveM P T) >>> (nI c &&& 31)) &&& 1 = 0 ↔ (bt (moveA P T).1 c || bt (moveB P T).1 c) = false := by
    rw [bit_iff (by omega), moveM, b_or]
  rw [hbit]
  have hcc := (b1.2.2.1 c hc)
  by_cases ho : tCs (moveB P T).2 c = -1
  · have hz : S2.2.1 c = 0 := by
      by_cases e : S2.1 c = 0
      · exact (b2 c hc e).1
      · exact (b3 c hc e).1 ho
    exact ⟨fun h9 => absurd ho h9.1, fun h9 => absurd hz h9⟩
  · have hdr2 : ¬ S2.1 c = 0 := by
      obtain ⟨t, ht, et⟩ := hcc.2.2.1.resolve_left ho
      rcases hcc.2.2.2 with hd | hd
      · have h9 := b5 c hc (by rw [hd]; exact fun h => w_ne h.symm)
        rw [h9.1]
        have hdA : tCd (moveA P T).2 c = 1 := by rw [← b6]; exact hd
        have h8 := a4 c hc hdA (pN P - 1 - t) (by omega) (by show _ = nI (pN P - 1 - (pN P - 1 - t)); rw [← h9.2, et, show pN P - 1 - (pN P - 1 - t) = t by omega])
        exact h8.mp (Or.inl (by omega))
      · exact (b4 c hc hd t ht et).mp (Or.inl ht)
    rw [← (b3 c hc hdr2).2 ho]
    exact ⟨fun h9 => h9.2, fun h9 => ⟨ho, h9⟩⟩
