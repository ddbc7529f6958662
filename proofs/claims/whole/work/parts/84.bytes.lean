theorem nar_c : ∀ b, b < 256 → vp_nar .byte ((nI b).toInt8).toInt32 = sgB b := by decide +kernel
theorem by_and (x : Int32) : ∃ b, b < 256 ∧ x &&& 255 = nI b := by
  have h1 : (x &&& 255).toBitVec.toNat < 256 := by
    rw [Int32.toBitVec_and, BitVec.toNat_and]
    have : x.toBitVec.toNat &&& ((255 : Int32).toBitVec).toNat ≤ ((255 : Int32).toBitVec).toNat := Nat.and_le_right
    have e : ((255 : Int32).toBitVec).toNat = 255 := rfl
    omega
  refine ⟨(x &&& 255).toBitVec.toNat, h1, ?_⟩
  apply Int32.toBitVec_inj.mp
  generalize (x &&& 255).toBitVec = v
  show v = BitVec.ofNat 32 v.toNat
  apply BitVec.eq_of_toNat_eq
  rw [BitVec.toNat_ofNat, Nat.mod_eq_of_lt v.isLt]
theorem bv8 {u v : BitVec 32} (h : ∀ i, i < 8 → u.getLsbD i = v.getLsbD i) : u.signExtend 8 = (v &&& 255#32).signExtend 8 := by
  apply BitVec.eq_of_getLsbD_eq
  intro i hi
  have h255 : ∀ i, i < 8 → (255#32).getLsbD i = true := by decide
  rw [BitVec.getLsbD_signExtend, BitVec.getLsbD_signExtend, if_pos (show i < 32 by omega), if_pos (show i < 32 by omega), BitVec.getLsbD_and, h i hi, h255 i hi, Bool.and_true]
theorem sh8 (u : BitVec 32) {s : Nat} (hs : s ≤ 24) : (u >>> s).signExtend 8 = (u.sshiftRight s &&& 255#32).signExtend 8 := by
  refine bv8 (fun i hi => ?_)
  rw [BitVec.getLsbD_ushiftRight, BitVec.getLsbD_sshiftRight, if_pos (show s + i < 32 by omega)]
  have : ¬ 32 ≤ i := by omega
  simp [this]
theorem by_lo (x : Int32) : ∀ k, k < 4 → ((x.toUInt32 >>> ((nI (24 - 8 * k)).toUInt32 &&& Int32.toUInt32 31)).toInt32).toInt8 = ((x >>> (nI (24 - 8 * k) &&& 31)) &&& 255).toInt8 := by
  intro k hk
  apply Int8.toBitVec_inj.mp
  have h : k = 0 ∨ k = 1 ∨ k = 2 ∨ k = 3 := by omega
  rcases h with rfl | rfl | rfl | rfl
  · exact sh8 x.toBitVec (s := 24) (by decide)
  · exact sh8 x.toBitVec (s := 16) (by decide)
  · exact sh8 x.toBitVec (s := 8) (by decide)
  · exact sh8 x.toBitVec (s := 0) (by decide)
theorem by_rel (x : Int32) (k : Nat) (hk : k < 4) : ∃ b, b < 256 ∧ (x >>> (nI (24 - 8 * k) &&& 31)) &&& 255 = nI b ∧ byF x (nI (24 - 8 * k)) = sgB b := by
  obtain ⟨b, hb, e⟩ := by_and (x >>> (nI (24 - 8 * k) &&& 31))
  refine ⟨b, hb, e, ?_⟩
  rw [byF, by_lo x k hk, e, nar_c b hb]
theorem ab_eq {x : Int32} {j : Nat} (hj : j < 20) : abR x j = (x >>> (nI (24 - 8 * (j % 4)) &&& 31)) &&& 255 := by
  have h : ∀ j, j < 20 → (24 - 8 * (nI j - nI j / 4 * 4)) &&& 31 = nI (24 - 8 * (j % 4)) &&& 31 := by decide +kernel
  rw [abR, h j hj]
theorem ws_eq {x1 x2 x3 x4 x5 : Int32} {j : Nat} (hj : j < 20) : wsR x1 x2 x3 x4 x5 j = if j < 4 then x1 else if j < 8 then x2 else if j < 12 then x3 else if j < 16 then x4 else x5 := by
  have h : ∀ j, j < 20 → ((4 ≤ nI j) = (4 ≤ j)) ∧ ((8 ≤ nI j) = (8 ≤ j)) ∧ ((12 ≤ nI j) = (12 ≤ j)) ∧ ((16 ≤ nI j) = (16 ≤ j)) := by
    intro j hj
    have g : ∀ c, c ≤ 16 → ((nI c ≤ nI j) = (c ≤ j)) := fun c hc => by
      by_cases e : c ≤ j
      · rw [eq_true e, eq_true (nI_le e (by omega))]
      · rw [eq_false e, eq_false (nI_ge (a := j) (b := c) (by omega) (by omega))]
    exact ⟨g 4 (by decide), g 8 (by decide), g 12 (by decide), g 16 (by decide)⟩
  obtain ⟨h4, h8, h12, h16⟩ := h j hj
  rw [wsR]
  simp only [h4, h8, h12, h16]
  by_cases a : j < 4
  · rw [if_neg (by omega), if_pos a]
  · rw [if_pos (by omega), if_neg a]
    by_cases b : j < 8
    · rw [if_neg (by omega), if_pos b]
    · rw [if_pos (by omega), if_neg b]
      by_cases c : j < 12
      · rw [if_neg (by omega), if_pos c]
      · rw [if_pos (by omega), if_neg c]
        by_cases e : j < 16
        · rw [if_neg (by omega), if_pos e]
        · rw [if_pos (by omega), if_neg e]
/-- what the class's buffer holds behind 'append' -/
theorem putA_at {x1 x2 x3 x4 x5 : Int32} {n : Nat} {B : Nat → Int32} {j : Nat} : putAll x1 x2 x3 x4 x5 n B j = if n ≤ j ∧ j < n + 20 then byF (if j - n < 4 then x1 else if j - n < 8 then x2 else if j - n < 12 then x3 else if j - n < 16 then x4 else x5) (nI (24 - 8 * ((j - n) % 4))) else B j := by
  have hw : ∀ (x : Int32) (m : Nat) (C : Nat → Int32) (j : Nat), putW x m C j = if m ≤ j ∧ j < m + 4 then byF x (nI (24 - 8 * (j - m))) else C j := by
    intro x m C j
    have e24 : (24 : Int32) = nI 24 := rfl
    have e16 : (16 : Int32) = nI 16 := rfl
    have e8 : (8 : Int32) = nI 8 := rfl
    have e0 : (0 : Int32) = nI 0 := rfl
    rw [putW, upd_at, upd_at, upd_at, upd_at, e24, e16, e8, e0]
    by_cases h3 : j = m + 3
    · rw [if_pos h3, if_pos (by omega), show 24 - 8 * (j - m) = 0 by omega]
    · rw [if_neg h3]
      by_cases h2 : j = m + 2
      · rw [if_pos h2, if_pos (by omega), show 24 - 8 * (j - m) = 8 by omega]
      · rw [if_neg h2]
        by_cases h1 : j = m + 1
        · rw [if_pos h1, if_pos (by omega), show 24 - 8 * (j - m) = 16 by omega]
        · rw [if_neg h1]
          by_cases h0 : j = m
          · rw [if_pos h0, if_pos (by omega), show 24 - 8 * (j - m) = 24 by omega]
          · rw [if_neg h0, if_neg (by omega)]
  rw [putAll, hw, hw, hw, hw, hw]
  by_cases a : n ≤ j ∧ j < n + 20
  · rw [if_pos a]
    by_cases b5 : n + 4 + 4 + 4 + 4 ≤ j ∧ j < n + 4 + 4 + 4 + 4 + 4
    · rw [if_pos b5, if_neg (by omega), if_neg (by omega), if_neg (by omega), if_neg (by omega), show 24 - 8 * (j - (n + 4 + 4 + 4 + 4)) = 24 - 8 * ((j - n) % 4) by omega]
    · rw [if_neg b5]
      by_cases b4 : n + 4 + 4 + 4 ≤ j ∧ j < n + 4 + 4 + 4 + 4
      · rw [if_pos b4, if_neg (by omega), if_neg (by omega), if_neg (by omega), if_pos (by omega), show 24 - 8 * (j - (n + 4 + 4 + 4)) = 24 - 8 * ((j - n) % 4) by omega]
      · rw [if_neg b4]
        by_cases b3 : n + 4 + 4 ≤ j ∧ j < n + 4 + 4 + 4
        · rw [if_pos b3, if_neg (by omega), if_neg (by omega), if_pos (by omega), show 24 - 8 * (j - (n + 4 + 4)) = 24 - 8 * ((j - n) % 4) by omega]
        · rw [if_neg b3]
          by_cases b2 : n + 4 ≤ j ∧ j < n + 4 + 4
          · rw [if_pos b2, if_neg (by omega), if_pos (by omega), show 24 - 8 * (j - (n + 4)) = 24 - 8 * ((j - n) % 4) by omega]
          · rw [if_neg b2, if_pos (by omega), if_pos (by omega), show 24 - 8 * (j - n) = 24 - 8 * ((j - n) % 4) by omega]
  · rw [if_neg a, if_neg (by omega), if_neg (by omega), if_neg (by omega), if_neg (by omega), if_neg (by omega)]
theorem ap_at {x1 x2 x3 x4 x5 : Int32} {n : Nat} {B : Nat → Int32} {j : Nat} : ∀ k, k ≤ 20 → apB x1 x2 x3 x4 x5 n B k j = if n ≤ j ∧ j < n + k then abR (wsR x1 x2 x3 x4 x5 (j - n)) (j - n) else B j
  | 0, _ => by rw [if_neg (by omega)]; rfl
  | k + 1, hk => by
    have e : apB x1 x2 x3 x4 x5 n B (k + 1) = apR x1 x2 x3 x4 x5 n k (apB x1 x2 x3 x4 x5 n B k) := by rw [apB, foldN_s, ← apB]
    rw [e, apR, upd_at]
    by_cases h : j = n + k
    · rw [if_pos h, if_pos (by omega), show j - n = k by omega]
    · rw [if_neg h, ap_at k (by omega)]
      by_cases h2 : n ≤ j ∧ j < n + k
      · rw [if_pos h2, if_pos (by omega)]
      · rw [if_neg h2, if_neg (by omega)]
theorem BRel_append {cB rB : Nat → Int32} (h : BRel cB rB) (x1 x2 x3 x4 x5 : Int32) (n : Nat) : BRel (putAll x1 x2 x3 x4 x5 n cB) (apB x1 x2 x3 x4 x5 n rB 20) := by
  intro j hj
  rw [putA_at, ap_at 20 (Nat.le_refl _)]
  by_cases a : n ≤ j ∧ j < n + 20
  · rw [if_pos a, if_pos a, ab_eq (by omega), ws_eq (by omega)]
    generalize (if j - n < 4 then x1 else if j - n < 8 then x2 else if j - n < 12 then x3 else if j - n < 16 then x4 else x5) = x
    obtain ⟨b, hb, e1, e2⟩ := by_rel x ((j - n) % 4) (by omega)
    exact ⟨b, hb, e1, e2⟩
  · rw [if_neg a, if_neg a]
    exact h j hj
theorem BRel_0 : BRel (fun _ => 0) (fun _ => 0) := fun j _ => ⟨0, by decide, rfl, rfl⟩
