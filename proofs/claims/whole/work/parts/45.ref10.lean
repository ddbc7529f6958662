theorem nI_m1 (k : Nat) : nI (k + 1) + (-1) = nI k := by
  rw [nI_succ, Int32.add_assoc, show (1 : Int32) + -1 = 0 from by decide, Int32.add_zero]
theorem neg3 {x : Int32} (h : ¬ x ≤ -4) (h0 : x < 0) : x = -3 ∨ x = -2 ∨ x = -1 := by
  have h1 : ¬ x.toInt ≤ -4 := fun z => h (Int32.le_iff_toInt_le.mpr z)
  have h2 : x.toInt < 0 := Int32.lt_iff_toInt_lt.mp h0
  have h3 : x.toInt = -3 ∨ x.toInt = -2 ∨ x.toInt = -1 := by omega
  rcases h3 with h | h | h
  · exact Or.inl (Int32.toInt_inj.mp h)
  · exact Or.inr (Or.inl (Int32.toInt_inj.mp h))
  · exact Or.inr (Or.inr (Int32.toInt_inj.mp h))
theorem neg7 {x : Int32} (h : x ≤ -4) (h0 : -7 ≤ x) : x = -7 ∨ x = -6 ∨ x = -5 ∨ x = -4 := by
  have h1 : x.toInt ≤ -4 := Int32.le_iff_toInt_le.mp h
  have h2 : -7 ≤ x.toInt := Int32.le_iff_toInt_le.mp h0
  have h3 : x.toInt = -7 ∨ x.toInt = -6 ∨ x.toInt = -5 ∨ x.toInt = -4 := by omega
  rcases h3 with h | h | h | h
  · exact Or.inl (Int32.toInt_inj.mp h)
  · exact Or.inr (Or.inl (Int32.toInt_inj.mp h))
  · exact Or.inr (Or.inr (Or.inl (Int32.toInt_inj.mp h)))
  · exact Or.inr (Or.inr (Or.inr (Int32.toInt_inj.mp h)))
/-- how many places a code takes in the reference's data, where it stands, how high the stack is before it -/
def wdC (x : Int32) : Nat := if x ≤ -4 then 1 else 2
def psC (cs : Nat → Int32) : Nat → Nat
  | 0 => 0
  | j + 1 => psC cs j + wdC (cs j)
def htC (cs : Nat → Int32) : Nat → Nat
  | 0 => 0
  | j + 1 => if cs j ≤ -4 then htC cs j - 1 else htC cs j + 1
/-- a code at a place of the data -/
def CRd (d : Nat → Int32) (p : Nat) (x : Int32) : Prop := (x ≤ -4 → d (176 + p) = -x - 2) ∧ (¬ x ≤ -4 → d (176 + p) = (if x < 0 then 1 else 0) ∧ d (176 + (p + 1)) = (if x < 0 then -x - 1 else x))
/-- the data hold the codes, and each finds what it needs on the stack -/
def RTd (d cs : Nat → Int32) (nc : Nat) : Prop := d 7 = nI (psC cs nc) ∧ psC cs nc ≤ 1300 ∧ ∀ j, j < nc → CRd d (psC cs j) (cs j) ∧ -7 ≤ cs j ∧ (cs j ≤ -4 → 2 ≤ htC cs j) ∧ (¬ cs j ≤ -4 → htC cs j < 11)
theorem ps_mono (cs : Nat → Int32) : ∀ (k j : Nat), psC cs j ≤ psC cs (j + k)
  | 0, j => Nat.le_refl _
  | k + 1, j => Nat.le_trans (ps_mono cs k j) (by show psC cs (j + k) ≤ psC cs (j + k) + wdC (cs (j + k)); omega)
theorem ps_lt {cs : Nat → Int32} {j nc : Nat} (h : j < nc) : psC cs j + wdC (cs j) ≤ psC cs nc := by
  have := ps_mono cs (nc - (j + 1)) (j + 1)
  rw [show j + 1 + (nc - (j + 1)) = nc by omega] at this
  exact this
/-- one code on the reference's stack -/
def codeR (cs : Nat → Int32) (c n f : Int32) (i : Nat) (S : (Nat → Int64) × Nat) : (Nat → Int64) × Nat :=
  if cs i ≤ -4 then (vp_updL S.1 (S.2 - 2) (opR (-(cs i) - 2) (S.1 (S.2 - 2)) (S.1 (S.2 - 1))), S.2 - 1)
  else (vp_updL S.1 S.2 (operF (cs i) c n f), S.2 + 1)
theorem codeR_ht (cs : Nat → Int32) (c n f : Int32) (sk : Nat → Int64) : ∀ k, (foldN (codeR cs c n f) (sk, 0) k).2 = htC cs k
  | 0 => rfl
  | k + 1 => by
    rw [foldN_s]
    have ih := codeR_ht cs c n f sk k
    unfold codeR
    show _ = if cs k ≤ -4 then htC cs k - 1 else htC cs k + 1
    split
    · show (foldN (codeR cs c n f) (sk, 0) k).2 - 1 = _
      rw [ih]
    · show (foldN (codeR cs c n f) (sk, 0) k).2 + 1 = _
      rw [ih]
theorem ht_lt {d cs : Nat → Int32} {nc : Nat} (h : RTd d cs nc) : ∀ j, j ≤ nc → htC cs j ≤ 11
  | 0, _ => Nat.zero_le _
  | j + 1, hj => by
    have h1 := h.2.2 j (by omega)
    have h2 := ht_lt h j (by omega)
    show (if cs j ≤ -4 then htC cs j - 1 else htC cs j + 1) ≤ 11
    split
    · omega
    · rename_i h3
      have := h1.2.2.2 h3
      omega
theorem codeR_op {cs : Nat → Int32} {c n f : Int32} {i k : Nat} {S : (Nat → Int64) × Nat} (h : cs i ≤ -4) (hk : S.2 = k + 2) : codeR cs c n f i S = (vp_updL S.1 k (opR (-(cs i) - 2) (S.1 k) (S.1 (k + 1))), k + 1) := by
  rw [codeR, if_pos h, hk]
  rfl
theorem codeR_v {cs : Nat → Int32} {c n f : Int32} {i k : Nat} {S : (Nat → Int64) × Nat} (h : ¬ cs i ≤ -4) (hk : S.2 = k) : codeR cs c n f i S = (vp_updL S.1 k (operF (cs i) c n f), k + 1) := by
  rw [codeR, if_neg h, hk]
def rtS (d cs : Nat → Int32) (n nc k : Nat) (sk : Nat → Int64) : Nat → Int64 := (foldN (codeR cs (d 3) (insR d nc) (flowR d n)) (sk, 0) k).1
def rtC (v : Int64) : Int32 := if v < 0 then 0 else if 9999 < v then 9999 else v.toInt32
/-- the rate, and the stack then -/
def rtR (d cs : Nat → Int32) (n nc k : Nat) (sk : Nat → Int64) : Int32 := if d 4 < 0 then 0 else if d 6 = 0 then 100 else rtC (rtS d cs n nc k sk 0)
def rtK (d cs : Nat → Int32) (n nc k : Nat) (sk : Nat → Int64) : Nat → Int64 := if d 4 < 0 then sk else if d 6 = 0 then sk else rtS d cs n nc k sk
set_option maxRecDepth 20000 in
set_option maxHeartbeats 2000000 in
theorem r_rateOf (l : Launch) (g : Gl) (m : Nat → Nat) (q : Nat) (s : MS) (re st dr : Nat → Int32) (sk : Nat → Int64) (d : Nat → Int32) (n nc : Nat) (hn : n ≤ 12) (hnc : nc ≤ 20) (h0 : d 0 = nI n) (h2 : d 2 = nI nc) (cs : Nat → Int32) (kc : Nat) (hrt : ¬ d 6 = 0 → RTd d cs kc) : Ct l g yX7_rateOf cX7_rateOf 8 (some .int) 2 80 0 0 [.ref (m 0), .ref q] (ttW g m q s (re) (st) (dr) sk (d)) (fun v w => v = some (.int (rtR d cs n nc kc sk)) ∧ w = (ttW g m q s re st dr (rtK d cs n nc kc sk) d)) noX := by
  refine Ct.intro [some (.ref (m 0)), some (.ref q), none, none, none, none, none, none] (by decide +kernel) (fun _ h => h) (Nat.le_of_ble_eq_true rfl) (fun A H0 K ok => ?_)
  have LR : 0 ≤ d 4 → ¬ d 6 = 0 → ∀ k, k ≤ kc → AW g A H0 8 K 34 [some (.ref (m 0)), some (.ref q), some (.int (nI (htC cs (k)))), some (.int (insR d nc)), some (.int (flowR d n)), some (.int (nI (psC cs (k)))), none, none] [] (ttW g m q s re st dr ((foldN (codeR cs (d 3) (insR d nc) (flowR d n)) (sk, 0) (k)).1) d) 0 0 := by
    intro h4 h6
    have hr := hrt h6
    have h7 := hr.1
    have hp13 := hr.2.1
    refine up_ind kc ?_ (fun k hk ih => ?_)
    · skip
      refine A_iload ok.b dX7_rateOf_34 (gps (gps (gps (gps (gps gp0))))) ?_
      refine A_aload_n ok.b rfl dX7_rateOf_36 (gps gp0) ?_
      refine A_bipush ok.b (v := 7) dX7_rateOf_37 (by decide) ?_
      refine A_iald ok.b (gps (gps (gps (gps (gps gp0))))) (ix_n (j := 7) (by decide) (by decide)) dX7_rateOf_39 ?_
      rw [h7]
      refine A_icmp_ge ok.b (tgt := 157) dX7_rateOf_40 (by decide) (fun c40 => ?_) (fun c40 => (c40 (nI_le (Nat.le_refl _) (by omega))).elim)
      refine A_aload_n ok.b rfl dX7_rateOf_157 gp0 ?_
      refine A_getf ok.b cf7 17 (by decide) fl_X7_31 gp0 (gps (gps (gps (gps (gps (gps (gps (gps (gps (gps (gps (gps (gps (gps (gps (gps (gps gp0))))))))))))))))) dX7_rateOf_158 ?_
      refine A_iconst ok.b (v := 0) dX7_rateOf_161 (by decide) ?_
      refine A_lald ok.b (gps (gps (gps (gps gp0)))) (ix_n (j := 0) (by decide) (by decide)) dX7_rateOf_162 ?_
      refine A_lconst ok.b (v := 0) dX7_rateOf_163 (by decide) ?_
      refine A_lcmp ok.b dX7_rateOf_164 ?_
      refine A_if_ge ok.b (tgt := 172) dX7_rateOf_165 (by decide) (fun c165 => ?_) (fun c165 => ?_)
      · skip
        refine A_aload_n ok.b rfl dX7_rateOf_172 gp0 ?_
        refine A_getf ok.b cf7 17 (by decide) fl_X7_31 gp0 (gps (gps (gps (gps (gps (gps (gps (gps (gps (gps (gps (gps (gps (gps (gps (gps (gps gp0))))))))))))))))) dX7_rateOf_173 ?_
        refine A_iconst ok.b (v := 0) dX7_rateOf_176 (by decide) ?_
        refine A_lald ok.b (gps (gps (gps (gps gp0)))) (ix_n (j := 0) (by decide) (by decide)) dX7_rateOf_177 ?_
        refine A_ldc2 ok.b dX7_rateOf_178 kl_X7_229 ?_
        refine A_lcmp ok.b dX7_rateOf_181 ?_
        refine A_if_le ok.b (tgt := 191) dX7_rateOf_182 (by decide) (fun c182 => ?_) (fun c182 => ?_)
        · skip
          refine A_aload_n ok.b rfl dX7_rateOf_191 gp0 ?_
          refine A_getf ok.b cf7 17 (by decide) fl_X7_31 gp0 (gps (gps (gps (gps (gps (gps (gps (gps (gps (gps (gps (gps (gps (gps (gps (gps (gps gp0))))))))))))))))) dX7_rateOf_192 ?_
          refine A_iconst ok.b (v := 0) dX7_rateOf_195 (by decide) ?_
          refine A_lald ok.b (gps (gps (gps (gps gp0)))) (ix_n (j := 0) (by decide) (by decide)) dX7_rateOf_196 ?_
          refine A_l2i ok.b dX7_rateOf_197 ?_
          refine A_iret ok dX7_rateOf_198 (Nat.le_of_ble_eq_true rfl) (Nat.le_of_ble_eq_true rfl) ?_
          have e9 : rtK d cs n nc kc sk = rtS d cs n nc kc sk := by rw [rtK, if_neg (Int32.not_lt.mpr h4), if_neg h6]
          have e8 : rtR d cs n nc kc sk = rtC (rtS d cs n nc kc sk 0) := by rw [rtR, if_neg (Int32.not_lt.mpr h4), if_neg h6]
          exact ⟨by rw [e8, rtS, rtC, if_neg (ge_lt c165), if_neg (le_nlt c182)] <;> rfl, by rw [e9] <;> rfl⟩
        · skip
          refine A_sipush ok.b (v := 9999) dX7_rateOf_185 (by decide) ?_
          refine A_goto ok.b (tgt := 198) dX7_rateOf_188 (by decide) ?_
          refine A_iret ok dX7_rateOf_198 (Nat.le_of_ble_eq_true rfl) (Nat.le_of_ble_eq_true rfl) ?_
          have e9 : rtK d cs n nc kc sk = rtS d cs n nc kc sk := by rw [rtK, if_neg (Int32.not_lt.mpr h4), if_neg h6]
          have e8 : rtR d cs n nc kc sk = rtC (rtS d cs n nc kc sk 0) := by rw [rtR, if_neg (Int32.not_lt.mpr h4), if_neg h6]
          exact ⟨by rw [e8, rtS, rtC, if_neg (ge_lt c165), if_pos (nle_lt c182)], by rw [e9] <;> rfl⟩
      · skip
        refine A_iconst ok.b (v := 0) dX7_rateOf_168 (by decide) ?_
        refine A_goto ok.b (tgt := 198) dX7_rateOf_169 (by decide) ?_
        refine A_iret ok dX7_rateOf_198 (Nat.le_of_ble_eq_true rfl) (Nat.le_of_ble_eq_true rfl) ?_
        have e9 : rtK d cs n nc kc sk = rtS d cs n nc kc sk := by rw [rtK, if_neg (Int32.not_lt.mpr h4), if_neg h6]
        have e8 : rtR d cs n nc kc sk = rtC (rtS d cs n nc kc sk 0) := by rw [rtR, if_neg (Int32.not_lt.mpr h4), if_neg h6]
        exact ⟨by rw [e8, rtS, rtC, if_pos (nge_lt c165)], by rw [e9] <;> rfl⟩
    · have hF2 := codeR_ht cs (d 3) (insR d nc) (flowR d n) sk k
      have hj := hr.2.2 k hk
      have hpl := ps_lt (cs := cs) hk
      have hht := ht_lt hr k (by omega)
      have hps : psC cs k < psC cs kc := by
        have : 1 ≤ wdC (cs k) := by unfold wdC; split <;> omega
        omega
      by_cases hop : cs k ≤ -4
      · have hk1 := hj.1.1 hop
        obtain ⟨h, eh⟩ : ∃ h, htC cs k = h + 2 := ⟨htC cs k - 2, by have := hj.2.2.1 hop; omega⟩
        have hop1 : (1 : Int32) < -(cs k) - 2 := by
          rcases neg7 hop hj.2.1 with h9 | h9 | h9 | h9 <;> rw [h9] <;> decide
        rw [wdC, if_pos hop] at hpl
        refine A_iload ok.b dX7_rateOf_34 (gps (gps (gps (gps (gps gp0))))) ?_
        refine A_aload_n ok.b rfl dX7_rateOf_36 (gps gp0) ?_
        refine A_bipush ok.b (v := 7) dX7_rateOf_37 (by decide) ?_
        refine A_iald ok.b (gps (gps (gps (gps (gps gp0))))) (ix_n (j := 7) (by decide) (by decide)) dX7_rateOf_39 ?_
        rw [h7]
        refine A_icmp_ge ok.b (tgt := 157) dX7_rateOf_40 (by decide) (fun c40 => (nI_ge hps (by omega) c40).elim) (fun c40 => ?_)
        refine A_aload_n ok.b rfl dX7_rateOf_43 (gps gp0) ?_
        refine A_sipush ok.b (v := 176) dX7_rateOf_44 (by decide) ?_
        refine A_iload ok.b dX7_rateOf_47 (gps (gps (gps (gps (gps gp0))))) ?_
        refine A_iadd ok.b dX7_rateOf_49 ?_
        rw [show (176 : Int32) + nI (psC cs k) = nI (176 + psC cs k) from nI_add 176 _]
        refine A_iald ok.b (gps (gps (gps (gps (gps gp0))))) (ix_n (by omega) (by decide)) dX7_rateOf_50 ?_
        rw [hk1]
        refine A_istore ok.b dX7_rateOf_51 (by decide) (sts (sts (sts (sts (sts (sts1 rfl st0)))))) ?_
        refine A_iload ok.b dX7_rateOf_53 (gps (gps (gps (gps (gps (gps gp0)))))) ?_
        refine A_iconst ok.b (v := 1) dX7_rateOf_55 (by decide) ?_
        refine A_icmp_gt ok.b (tgt := 121) dX7_rateOf_56 (by decide) (fun c56 => ?_) (fun c56 => (c56 hop1).elim)
        refine A_iinc ok.b (v := _ + (-1)) dX7_rateOf_121 (gps (gps gp0)) rfl (by decide) (sts (sts1 rfl st0)) ?_
        rw [eh, show nI (h + 2) + (-1) = nI (h + 1) from nI_m1 (h + 1)]
        refine A_aload_n ok.b rfl dX7_rateOf_124 gp0 ?_
        refine A_getf ok.b cf7 17 (by decide) fl_X7_31 gp0 (gps (gps (gps (gps (gps (gps (gps (gps (gps (gps (gps (gps (gps (gps (gps (gps (gps gp0))))))))))))))))) dX7_rateOf_125 ?_
        refine A_iload_n ok.b rfl dX7_rateOf_128 (gps (gps gp0)) ?_
        refine A_iconst ok.b (v := 1) dX7_rateOf_129 (by decide) ?_
        refine A_isub ok.b dX7_rateOf_130 ?_
        rw [show nI (h + 1) - 1 = nI h from nI_pred h]
        refine A_iload ok.b dX7_rateOf_131 (gps (gps (gps (gps (gps (gps gp0)))))) ?_
        refine A_aload_n ok.b rfl dX7_rateOf_133 gp0 ?_
        refine A_getf ok.b cf7 17 (by decide) fl_X7_31 gp0 (gps (gps (gps (gps (gps (gps (gps (gps (gps (gps (gps (gps (gps (gps (gps (gps (gps gp0))))))))))))))))) dX7_rateOf_134 ?_
        refine A_iload_n ok.b rfl dX7_rateOf_137 (gps (gps gp0)) ?_
        refine A_iconst ok.b (v := 1) dX7_rateOf_138 (by decide) ?_
        refine A_isub ok.b dX7_rateOf_139 ?_
        rw [show nI (h + 1) - 1 = nI h from nI_pred h]
        refine A_lald ok.b (gps (gps (gps (gps gp0)))) (ix_n (by omega) (by decide)) dX7_rateOf_140 ?_
        refine A_aload_n ok.b rfl dX7_rateOf_141 gp0 ?_
        refine A_getf ok.b cf7 17 (by decide) fl_X7_31 gp0 (gps (gps (gps (gps (gps (gps (gps (gps (gps (gps (gps (gps (gps (gps (gps (gps (gps gp0))))))))))))))))) dX7_rateOf_142 ?_
        refine A_iload_n ok.b rfl dX7_rateOf_145 (gps (gps gp0)) ?_
        refine A_lald ok.b (gps (gps (gps (gps gp0)))) (ix_n (by omega) (by decide)) dX7_rateOf_146 ?_
        refine A_pureS ok.b (As := [_, _, _]) mf_X7_operate ml_X7_225 rfl sc_X7_operate (r_operate l g _ _ _) rfl rfl dX7_rateOf_147 (Nat.le_of_ble_eq_true rfl) ⟨(Nat.le_of_ble_eq_true rfl), (Nat.le_of_ble_eq_true rfl)⟩ ⟨(Nat.le_of_ble_eq_true rfl), (Nat.le_of_ble_eq_true rfl)⟩ ?_
        refine A_last ok.b (gps (gps (gps (gps gp0)))) (ix_n (by omega) (by decide)) (wps (wps (wps (wps wp0)))) dX7_rateOf_150 ?_
        refine A_iinc ok.b (v := _ + 1) dX7_rateOf_151 (gps (gps (gps (gps (gps gp0))))) rfl (by decide) (sts (sts (sts (sts (sts1 rfl st0))))) ?_
        refine A_goto ok.b (tgt := 34) dX7_rateOf_154 (by decide) ?_
        refine A_lv (lleK (lleK (lleK (lleK (lleK (lleK (lleD (lleK lle0)))))))) ?_
        rw [foldN_s, codeR_op hop (hF2.trans eh), show htC cs (k + 1) = h + 1 from by rw [htC, if_pos hop, eh] <;> rfl, show psC cs (k + 1) = psC cs k + 1 from by rw [psC, wdC, if_pos hop]] at ih
        rw [nI_1]
        exact ih
      · have hk1 := (hj.1.2 hop).1
        have hk2 := (hj.1.2 hop).2
        have hh11 := hj.2.2.2 hop
        rw [wdC, if_neg hop] at hpl
        by_cases hneg : cs k < 0
        · rw [if_pos hneg] at hk1 hk2
          rcases neg3 hop hneg with hx | hx | hx
          · rw [hx, show -(-3 : Int32) - 1 = 2 from by decide] at hk2
            refine A_iload ok.b dX7_rateOf_34 (gps (gps (gps (gps (gps gp0))))) ?_
            refine A_aload_n ok.b rfl dX7_rateOf_36 (gps gp0) ?_
            refine A_bipush ok.b (v := 7) dX7_rateOf_37 (by decide) ?_
            refine A_iald ok.b (gps (gps (gps (gps (gps gp0))))) (ix_n (j := 7) (by decide) (by decide)) dX7_rateOf_39 ?_
            rw [h7]
            refine A_icmp_ge ok.b (tgt := 157) dX7_rateOf_40 (by decide) (fun c40 => (nI_ge hps (by omega) c40).elim) (fun c40 => ?_)
            refine A_aload_n ok.b rfl dX7_rateOf_43 (gps gp0) ?_
            refine A_sipush ok.b (v := 176) dX7_rateOf_44 (by decide) ?_
            refine A_iload ok.b dX7_rateOf_47 (gps (gps (gps (gps (gps gp0))))) ?_
            refine A_iadd ok.b dX7_rateOf_49 ?_
            rw [show (176 : Int32) + nI (psC cs k) = nI (176 + psC cs k) from nI_add 176 _]
            refine A_iald ok.b (gps (gps (gps (gps (gps gp0))))) (ix_n (by omega) (by decide)) dX7_rateOf_50 ?_
            rw [hk1]
            refine A_istore ok.b dX7_rateOf_51 (by decide) (sts (sts (sts (sts (sts (sts1 rfl st0)))))) ?_
            refine A_iload ok.b dX7_rateOf_53 (gps (gps (gps (gps (gps (gps gp0)))))) ?_
            refine A_iconst ok.b (v := 1) dX7_rateOf_55 (by decide) ?_
            refine A_icmp_gt ok.b (tgt := 121) dX7_rateOf_56 (by decide) (fun c56 => ((show False from absurd c56 (by decide))).elim) (fun c56 => ?_)
            refine A_iinc ok.b (v := _ + 1) dX7_rateOf_59 (gps (gps (gps (gps (gps gp0))))) rfl (by decide) (sts (sts (sts (sts (sts1 rfl st0))))) ?_
            refine A_aload_n ok.b rfl dX7_rateOf_62 (gps gp0) ?_
            refine A_sipush ok.b (v := 176) dX7_rateOf_63 (by decide) ?_
            refine A_iload ok.b dX7_rateOf_66 (gps (gps (gps (gps (gps gp0))))) ?_
            refine A_iadd ok.b dX7_rateOf_68 ?_
            rw [nI_1, show (176 : Int32) + nI (psC cs k + 1) = nI (176 + (psC cs k + 1)) from nI_add 176 _]
            refine A_iald ok.b (gps (gps (gps (gps (gps gp0))))) (ix_n (by omega) (by decide)) dX7_rateOf_69 ?_
            rw [hk2]
            refine A_istore ok.b dX7_rateOf_70 (by decide) (sts (sts (sts (sts (sts (sts (sts1 rfl st0))))))) ?_
            refine A_aload_n ok.b rfl dX7_rateOf_72 gp0 ?_
            refine A_getf ok.b cf7 17 (by decide) fl_X7_31 gp0 (gps (gps (gps (gps (gps (gps (gps (gps (gps (gps (gps (gps (gps (gps (gps (gps (gps gp0))))))))))))))))) dX7_rateOf_73 ?_
            refine A_iload_n ok.b rfl dX7_rateOf_76 (gps (gps gp0)) ?_
            refine A_iload ok.b dX7_rateOf_77 (gps (gps (gps (gps (gps (gps gp0)))))) ?_
            refine A_if_ne ok.b (tgt := 88) dX7_rateOf_79 (by decide) (fun c79 => ?_) (fun c79 => ((show False from absurd c79 (by decide))).elim)
            refine A_iload ok.b dX7_rateOf_88 (gps (gps (gps (gps (gps (gps (gps gp0))))))) ?_
            refine A_if_ne ok.b (tgt := 100) dX7_rateOf_90 (by decide) (fun c90 => ?_) (fun c90 => ((show False from absurd c90 (by decide))).elim)
            refine A_iload ok.b dX7_rateOf_100 (gps (gps (gps (gps (gps (gps (gps gp0))))))) ?_
            refine A_iconst ok.b (v := 1) dX7_rateOf_102 (by decide) ?_
            refine A_icmp_ne ok.b (tgt := 111) dX7_rateOf_103 (by decide) (fun c103 => ?_) (fun c103 => ((show False from absurd c103 (by decide))).elim)
            refine A_iload ok.b dX7_rateOf_111 (gps (gps (gps (gps gp0)))) ?_
            refine A_i2l ok.b dX7_rateOf_113 ?_
            refine A_last ok.b (gps (gps (gps (gps gp0)))) (ix_n (by omega) (by decide)) (wps (wps (wps (wps wp0)))) dX7_rateOf_114 ?_
            refine A_iinc ok.b (v := _ + 1) dX7_rateOf_115 (gps (gps gp0)) rfl (by decide) (sts (sts1 rfl st0)) ?_
            refine A_goto ok.b (tgt := 151) dX7_rateOf_118 (by decide) ?_
            refine A_iinc ok.b (v := _ + 1) dX7_rateOf_151 (gps (gps (gps (gps (gps gp0))))) rfl (by decide) (sts (sts (sts (sts (sts1 rfl st0))))) ?_
            refine A_goto ok.b (tgt := 34) dX7_rateOf_154 (by decide) ?_
            refine A_lv (lleK (lleK (lleK (lleK (lleK (lleK (lleD (lleD lle0)))))))) ?_
            rw [foldN_s, codeR_v hop hF2, hx, show operF (-3) (d 3) (insR d nc) (flowR d n) = (flowR d n).toInt64 from rfl] at ih
            rw [show htC cs (k + 1) = htC cs k + 1 from by rw [htC, if_neg hop], show psC cs (k + 1) = psC cs k + 1 + 1 from by rw [psC, wdC, if_neg hop]] at ih
            rw [nI_1, nI_1]
            exact ih
          · rw [hx, show -(-2 : Int32) - 1 = 1 from by decide] at hk2
            refine A_iload ok.b dX7_rateOf_34 (gps (gps (gps (gps (gps gp0))))) ?_
            refine A_aload_n ok.b rfl dX7_rateOf_36 (gps gp0) ?_
            refine A_bipush ok.b (v := 7) dX7_rateOf_37 (by decide) ?_
            refine A_iald ok.b (gps (gps (gps (gps (gps gp0))))) (ix_n (j := 7) (by decide) (by decide)) dX7_rateOf_39 ?_
            rw [h7]
            refine A_icmp_ge ok.b (tgt := 157) dX7_rateOf_40 (by decide) (fun c40 => (nI_ge hps (by omega) c40).elim) (fun c40 => ?_)
            refine A_aload_n ok.b rfl dX7_rateOf_43 (gps gp0) ?_
            refine A_sipush ok.b (v := 176) dX7_rateOf_44 (by decide) ?_
            refine A_iload ok.b dX7_rateOf_47 (gps (gps (gps (gps (gps gp0))))) ?_
            refine A_iadd ok.b dX7_rateOf_49 ?_
            rw [show (176 : Int32) + nI (psC cs k) = nI (176 + psC cs k) from nI_add 176 _]
            refine A_iald ok.b (gps (gps (gps (gps (gps gp0))))) (ix_n (by omega) (by decide)) dX7_rateOf_50 ?_
            rw [hk1]
            refine A_istore ok.b dX7_rateOf_51 (by decide) (sts (sts (sts (sts (sts (sts1 rfl st0)))))) ?_
            refine A_iload ok.b dX7_rateOf_53 (gps (gps (gps (gps (gps (gps gp0)))))) ?_
            refine A_iconst ok.b (v := 1) dX7_rateOf_55 (by decide) ?_
            refine A_icmp_gt ok.b (tgt := 121) dX7_rateOf_56 (by decide) (fun c56 => ((show False from absurd c56 (by decide))).elim) (fun c56 => ?_)
            refine A_iinc ok.b (v := _ + 1) dX7_rateOf_59 (gps (gps (gps (gps (gps gp0))))) rfl (by decide) (sts (sts (sts (sts (sts1 rfl st0))))) ?_
            refine A_aload_n ok.b rfl dX7_rateOf_62 (gps gp0) ?_
            refine A_sipush ok.b (v := 176) dX7_rateOf_63 (by decide) ?_
            refine A_iload ok.b dX7_rateOf_66 (gps (gps (gps (gps (gps gp0))))) ?_
            refine A_iadd ok.b dX7_rateOf_68 ?_
            rw [nI_1, show (176 : Int32) + nI (psC cs k + 1) = nI (176 + (psC cs k + 1)) from nI_add 176 _]
            refine A_iald ok.b (gps (gps (gps (gps (gps gp0))))) (ix_n (by omega) (by decide)) dX7_rateOf_69 ?_
            rw [hk2]
            refine A_istore ok.b dX7_rateOf_70 (by decide) (sts (sts (sts (sts (sts (sts (sts1 rfl st0))))))) ?_
            refine A_aload_n ok.b rfl dX7_rateOf_72 gp0 ?_
            refine A_getf ok.b cf7 17 (by decide) fl_X7_31 gp0 (gps (gps (gps (gps (gps (gps (gps (gps (gps (gps (gps (gps (gps (gps (gps (gps (gps gp0))))))))))))))))) dX7_rateOf_73 ?_
            refine A_iload_n ok.b rfl dX7_rateOf_76 (gps (gps gp0)) ?_
            refine A_iload ok.b dX7_rateOf_77 (gps (gps (gps (gps (gps (gps gp0)))))) ?_
            refine A_if_ne ok.b (tgt := 88) dX7_rateOf_79 (by decide) (fun c79 => ?_) (fun c79 => ((show False from absurd c79 (by decide))).elim)
            refine A_iload ok.b dX7_rateOf_88 (gps (gps (gps (gps (gps (gps (gps gp0))))))) ?_
            refine A_if_ne ok.b (tgt := 100) dX7_rateOf_90 (by decide) (fun c90 => ?_) (fun c90 => ((show False from absurd c90 (by decide))).elim)
            refine A_iload ok.b dX7_rateOf_100 (gps (gps (gps (gps (gps (gps (gps gp0))))))) ?_
            refine A_iconst ok.b (v := 1) dX7_rateOf_102 (by decide) ?_
            refine A_icmp_ne ok.b (tgt := 111) dX7_rateOf_103 (by decide) (fun c103 => ((show False from c103 rfl)).elim) (fun c103 => ?_)
            refine A_iload_n ok.b rfl dX7_rateOf_106 (gps (gps (gps gp0))) ?_
            refine A_i2l ok.b dX7_rateOf_107 ?_
            refine A_goto ok.b (tgt := 114) dX7_rateOf_108 (by decide) ?_
            refine A_last ok.b (gps (gps (gps (gps gp0)))) (ix_n (by omega) (by decide)) (wps (wps (wps (wps wp0)))) dX7_rateOf_114 ?_
            refine A_iinc ok.b (v := _ + 1) dX7_rateOf_115 (gps (gps gp0)) rfl (by decide) (sts (sts1 rfl st0)) ?_
            refine A_goto ok.b (tgt := 151) dX7_rateOf_118 (by decide) ?_
            refine A_iinc ok.b (v := _ + 1) dX7_rateOf_151 (gps (gps (gps (gps (gps gp0))))) rfl (by decide) (sts (sts (sts (sts (sts1 rfl st0))))) ?_
            refine A_goto ok.b (tgt := 34) dX7_rateOf_154 (by decide) ?_
            refine A_lv (lleK (lleK (lleK (lleK (lleK (lleK (lleD (lleD lle0)))))))) ?_
            rw [foldN_s, codeR_v hop hF2, hx, show operF (-2) (d 3) (insR d nc) (flowR d n) = (insR d nc).toInt64 from rfl] at ih
            rw [show htC cs (k + 1) = htC cs k + 1 from by rw [htC, if_neg hop], show psC cs (k + 1) = psC cs k + 1 + 1 from by rw [psC, wdC, if_neg hop]] at ih
            rw [nI_1, nI_1]
            exact ih
          · rw [hx, show -(-1 : Int32) - 1 = 0 from by decide] at hk2
            refine A_iload ok.b dX7_rateOf_34 (gps (gps (gps (gps (gps gp0))))) ?_
            refine A_aload_n ok.b rfl dX7_rateOf_36 (gps gp0) ?_
            refine A_bipush ok.b (v := 7) dX7_rateOf_37 (by decide) ?_
            refine A_iald ok.b (gps (gps (gps (gps (gps gp0))))) (ix_n (j := 7) (by decide) (by decide)) dX7_rateOf_39 ?_
            rw [h7]
            refine A_icmp_ge ok.b (tgt := 157) dX7_rateOf_40 (by decide) (fun c40 => (nI_ge hps (by omega) c40).elim) (fun c40 => ?_)
            refine A_aload_n ok.b rfl dX7_rateOf_43 (gps gp0) ?_
            refine A_sipush ok.b (v := 176) dX7_rateOf_44 (by decide) ?_
            refine A_iload ok.b dX7_rateOf_47 (gps (gps (gps (gps (gps gp0))))) ?_
            refine A_iadd ok.b dX7_rateOf_49 ?_
            rw [show (176 : Int32) + nI (psC cs k) = nI (176 + psC cs k) from nI_add 176 _]
            refine A_iald ok.b (gps (gps (gps (gps (gps gp0))))) (ix_n (by omega) (by decide)) dX7_rateOf_50 ?_
            rw [hk1]
            refine A_istore ok.b dX7_rateOf_51 (by decide) (sts (sts (sts (sts (sts (sts1 rfl st0)))))) ?_
            refine A_iload ok.b dX7_rateOf_53 (gps (gps (gps (gps (gps (gps gp0)))))) ?_
            refine A_iconst ok.b (v := 1) dX7_rateOf_55 (by decide) ?_
            refine A_icmp_gt ok.b (tgt := 121) dX7_rateOf_56 (by decide) (fun c56 => ((show False from absurd c56 (by decide))).elim) (fun c56 => ?_)
            refine A_iinc ok.b (v := _ + 1) dX7_rateOf_59 (gps (gps (gps (gps (gps gp0))))) rfl (by decide) (sts (sts (sts (sts (sts1 rfl st0))))) ?_
            refine A_aload_n ok.b rfl dX7_rateOf_62 (gps gp0) ?_
            refine A_sipush ok.b (v := 176) dX7_rateOf_63 (by decide) ?_
            refine A_iload ok.b dX7_rateOf_66 (gps (gps (gps (gps (gps gp0))))) ?_
            refine A_iadd ok.b dX7_rateOf_68 ?_
            rw [nI_1, show (176 : Int32) + nI (psC cs k + 1) = nI (176 + (psC cs k + 1)) from nI_add 176 _]
            refine A_iald ok.b (gps (gps (gps (gps (gps gp0))))) (ix_n (by omega) (by decide)) dX7_rateOf_69 ?_
            rw [hk2]
            refine A_istore ok.b dX7_rateOf_70 (by decide) (sts (sts (sts (sts (sts (sts (sts1 rfl st0))))))) ?_
            refine A_aload_n ok.b rfl dX7_rateOf_72 gp0 ?_
            refine A_getf ok.b cf7 17 (by decide) fl_X7_31 gp0 (gps (gps (gps (gps (gps (gps (gps (gps (gps (gps (gps (gps (gps (gps (gps (gps (gps gp0))))))))))))))))) dX7_rateOf_73 ?_
            refine A_iload_n ok.b rfl dX7_rateOf_76 (gps (gps gp0)) ?_
            refine A_iload ok.b dX7_rateOf_77 (gps (gps (gps (gps (gps (gps gp0)))))) ?_
            refine A_if_ne ok.b (tgt := 88) dX7_rateOf_79 (by decide) (fun c79 => ?_) (fun c79 => ((show False from absurd c79 (by decide))).elim)
            refine A_iload ok.b dX7_rateOf_88 (gps (gps (gps (gps (gps (gps (gps gp0))))))) ?_
            refine A_if_ne ok.b (tgt := 100) dX7_rateOf_90 (by decide) (fun c90 => ((show False from c90 rfl)).elim) (fun c90 => ?_)
            refine A_aload_n ok.b rfl dX7_rateOf_93 (gps gp0) ?_
            refine A_iconst ok.b (v := 3) dX7_rateOf_94 (by decide) ?_
            refine A_iald ok.b (gps (gps (gps (gps (gps gp0))))) (ix_n (j := 3) (by decide) (by decide)) dX7_rateOf_95 ?_
            refine A_i2l ok.b dX7_rateOf_96 ?_
            refine A_goto ok.b (tgt := 114) dX7_rateOf_97 (by decide) ?_
            refine A_last ok.b (gps (gps (gps (gps gp0)))) (ix_n (by omega) (by decide)) (wps (wps (wps (wps wp0)))) dX7_rateOf_114 ?_
            refine A_iinc ok.b (v := _ + 1) dX7_rateOf_115 (gps (gps gp0)) rfl (by decide) (sts (sts1 rfl st0)) ?_
            refine A_goto ok.b (tgt := 151) dX7_rateOf_118 (by decide) ?_
            refine A_iinc ok.b (v := _ + 1) dX7_rateOf_151 (gps (gps (gps (gps (gps gp0))))) rfl (by decide) (sts (sts (sts (sts (sts1 rfl st0))))) ?_
            refine A_goto ok.b (tgt := 34) dX7_rateOf_154 (by decide) ?_
            refine A_lv (lleK (lleK (lleK (lleK (lleK (lleK (lleD (lleD lle0)))))))) ?_
            rw [foldN_s, codeR_v hop hF2, hx, show operF (-1) (d 3) (insR d nc) (flowR d n) = (d 3).toInt64 from rfl] at ih
            rw [show htC cs (k + 1) = htC cs k + 1 from by rw [htC, if_neg hop], show psC cs (k + 1) = psC cs k + 1 + 1 from by rw [psC, wdC, if_neg hop]] at ih
            rw [nI_1, nI_1]
            exact ih
        · rw [if_neg hneg] at hk1 hk2
          have hv : operF (cs k) (d 3) (insR d nc) (flowR d n) = (cs k).toInt64 := by
            rw [operF, if_neg (fun h => hneg (by rw [h]; decide)), if_neg (fun h => hneg (by rw [h]; decide)), if_neg (fun h => hneg (by rw [h]; decide))]
          refine A_iload ok.b dX7_rateOf_34 (gps (gps (gps (gps (gps gp0))))) ?_
          refine A_aload_n ok.b rfl dX7_rateOf_36 (gps gp0) ?_
          refine A_bipush ok.b (v := 7) dX7_rateOf_37 (by decide) ?_
          refine A_iald ok.b (gps (gps (gps (gps (gps gp0))))) (ix_n (j := 7) (by decide) (by decide)) dX7_rateOf_39 ?_
          rw [h7]
          refine A_icmp_ge ok.b (tgt := 157) dX7_rateOf_40 (by decide) (fun c40 => (nI_ge hps (by omega) c40).elim) (fun c40 => ?_)
          refine A_aload_n ok.b rfl dX7_rateOf_43 (gps gp0) ?_
          refine A_sipush ok.b (v := 176) dX7_rateOf_44 (by decide) ?_
          refine A_iload ok.b dX7_rateOf_47 (gps (gps (gps (gps (gps gp0))))) ?_
          refine A_iadd ok.b dX7_rateOf_49 ?_
          rw [show (176 : Int32) + nI (psC cs k) = nI (176 + psC cs k) from nI_add 176 _]
          refine A_iald ok.b (gps (gps (gps (gps (gps gp0))))) (ix_n (by omega) (by decide)) dX7_rateOf_50 ?_
          rw [hk1]
          refine A_istore ok.b dX7_rateOf_51 (by decide) (sts (sts (sts (sts (sts (sts1 rfl st0)))))) ?_
          refine A_iload ok.b dX7_rateOf_53 (gps (gps (gps (gps (gps (gps gp0)))))) ?_
          refine A_iconst ok.b (v := 1) dX7_rateOf_55 (by decide) ?_
          refine A_icmp_gt ok.b (tgt := 121) dX7_rateOf_56 (by decide) (fun c56 => ((show False from absurd c56 (by decide))).elim) (fun c56 => ?_)
          refine A_iinc ok.b (v := _ + 1) dX7_rateOf_59 (gps (gps (gps (gps (gps gp0))))) rfl (by decide) (sts (sts (sts (sts (sts1 rfl st0))))) ?_
          refine A_aload_n ok.b rfl dX7_rateOf_62 (gps gp0) ?_
          refine A_sipush ok.b (v := 176) dX7_rateOf_63 (by decide) ?_
          refine A_iload ok.b dX7_rateOf_66 (gps (gps (gps (gps (gps gp0))))) ?_
          refine A_iadd ok.b dX7_rateOf_68 ?_
          rw [nI_1, show (176 : Int32) + nI (psC cs k + 1) = nI (176 + (psC cs k + 1)) from nI_add 176 _]
          refine A_iald ok.b (gps (gps (gps (gps (gps gp0))))) (ix_n (by omega) (by decide)) dX7_rateOf_69 ?_
          rw [hk2]
          refine A_istore ok.b dX7_rateOf_70 (by decide) (sts (sts (sts (sts (sts (sts (sts1 rfl st0))))))) ?_
          refine A_aload_n ok.b rfl dX7_rateOf_72 gp0 ?_
          refine A_getf ok.b cf7 17 (by decide) fl_X7_31 gp0 (gps (gps (gps (gps (gps (gps (gps (gps (gps (gps (gps (gps (gps (gps (gps (gps (gps gp0))))))))))))))))) dX7_rateOf_73 ?_
          refine A_iload_n ok.b rfl dX7_rateOf_76 (gps (gps gp0)) ?_
          refine A_iload ok.b dX7_rateOf_77 (gps (gps (gps (gps (gps (gps gp0)))))) ?_
          refine A_if_ne ok.b (tgt := 88) dX7_rateOf_79 (by decide) (fun c79 => ((show False from c79 rfl)).elim) (fun c79 => ?_)
          refine A_iload ok.b dX7_rateOf_82 (gps (gps (gps (gps (gps (gps (gps gp0))))))) ?_
          refine A_i2l ok.b dX7_rateOf_84 ?_
          refine A_goto ok.b (tgt := 114) dX7_rateOf_85 (by decide) ?_
          refine A_last ok.b (gps (gps (gps (gps gp0)))) (ix_n (by omega) (by decide)) (wps (wps (wps (wps wp0)))) dX7_rateOf_114 ?_
          refine A_iinc ok.b (v := _ + 1) dX7_rateOf_115 (gps (gps gp0)) rfl (by decide) (sts (sts1 rfl st0)) ?_
          refine A_goto ok.b (tgt := 151) dX7_rateOf_118 (by decide) ?_
          refine A_iinc ok.b (v := _ + 1) dX7_rateOf_151 (gps (gps (gps (gps (gps gp0))))) rfl (by decide) (sts (sts (sts (sts (sts1 rfl st0))))) ?_
          refine A_goto ok.b (tgt := 34) dX7_rateOf_154 (by decide) ?_
          refine A_lv (lleK (lleK (lleK (lleK (lleK (lleK (lleD (lleD lle0)))))))) ?_
          rw [foldN_s, codeR_v hop hF2, hv] at ih
          rw [show htC cs (k + 1) = htC cs k + 1 from by rw [htC, if_neg hop], show psC cs (k + 1) = psC cs k + 1 + 1 from by rw [psC, wdC, if_neg hop]] at ih
          rw [nI_1, nI_1]
          exact ih
  refine A_aload_n ok.b rfl dX7_rateOf_0 (gps gp0) ?_
  refine A_iconst ok.b (v := 4) dX7_rateOf_1 (by decide) ?_
  refine A_iald ok.b (gps (gps (gps (gps (gps gp0))))) (ix_n (j := 4) (by decide) (by decide)) dX7_rateOf_2 ?_
  refine A_if_ge ok.b (tgt := 8) dX7_rateOf_3 (by decide) (fun c3 => ?_) (fun c3 => ?_)
  · skip
    refine A_aload_n ok.b rfl dX7_rateOf_8 (gps gp0) ?_
    refine A_bipush ok.b (v := 6) dX7_rateOf_9 (by decide) ?_
    refine A_iald ok.b (gps (gps (gps (gps (gps gp0))))) (ix_n (j := 6) (by decide) (by decide)) dX7_rateOf_11 ?_
    refine A_if_ne ok.b (tgt := 18) dX7_rateOf_12 (by decide) (fun c12 => ?_) (fun c12 => ?_)
    · skip
      refine A_iconst ok.b (v := 0) dX7_rateOf_18 (by decide) ?_
      refine A_istore_n ok.b rfl dX7_rateOf_19 (by decide) (sts (sts1 rfl st0)) ?_
      refine A_aload_n ok.b rfl dX7_rateOf_20 (gps gp0) ?_
      refine A_callSR ok [5] [0, 1, 2, 3, 4] (As := [_]) (wr := ([moC m s, (m 7, .inl (g.2.1 0, 12, .inl re)), (m 8, .inl (g.2.1 3, 20, .inl st)), (m 9, .inl (g.2.1 3, 20, .inl dr)), (m 6, .inl (g.2.1 1, 1300, .inr (.inl sk)))] : va_W)) mf_X7_insideOf ml_X7_218 rfl sc_X7_insideOf  (r_insideOf l g q d nc hnc h2) rfl rfl rfl dX7_rateOf_21 rfl rfl rfl (by decide) (Nat.le_of_ble_eq_true rfl) ⟨(Nat.le_of_ble_eq_true rfl), (Nat.le_of_ble_eq_true rfl)⟩ ⟨(Nat.le_of_ble_eq_true rfl), (Nat.le_of_ble_eq_true rfl)⟩ (fun _ _ hx => hx.elim) (fun v21 w21 q21 => ?_)
      obtain ⟨rfl, rfl⟩ := q21
      refine A_sub [0, 1, 2, 3, 4, 5] (ws2 := (ttW g m q s (re) (st) (dr) sk (d))) rfl rfl ?_
      refine A_istore_n ok.b rfl dX7_rateOf_24 (by decide) (sts (sts (sts1 rfl st0))) ?_
      refine A_aload_n ok.b rfl dX7_rateOf_25 (gps gp0) ?_
      refine A_callSR ok [5] [0, 1, 2, 3, 4] (As := [_]) (wr := ([moC m s, (m 7, .inl (g.2.1 0, 12, .inl re)), (m 8, .inl (g.2.1 3, 20, .inl st)), (m 9, .inl (g.2.1 3, 20, .inl dr)), (m 6, .inl (g.2.1 1, 1300, .inr (.inl sk)))] : va_W)) mf_X7_flowOf ml_X7_222 rfl sc_X7_flowOf  (r_flowOf l g q d n hn h0) rfl rfl rfl dX7_rateOf_26 rfl rfl rfl (by decide) (Nat.le_of_ble_eq_true rfl) ⟨(Nat.le_of_ble_eq_true rfl), (Nat.le_of_ble_eq_true rfl)⟩ ⟨(Nat.le_of_ble_eq_true rfl), (Nat.le_of_ble_eq_true rfl)⟩ (fun _ _ hx => hx.elim) (fun v26 w26 q26 => ?_)
      obtain ⟨rfl, rfl⟩ := q26
      refine A_sub [0, 1, 2, 3, 4, 5] (ws2 := (ttW g m q s (re) (st) (dr) sk (d))) rfl rfl ?_
      refine A_istore ok.b dX7_rateOf_29 (by decide) (sts (sts (sts (sts1 rfl st0)))) ?_
      refine A_iconst ok.b (v := 0) dX7_rateOf_31 (by decide) ?_
      refine A_istore ok.b dX7_rateOf_32 (by decide) (sts (sts (sts (sts (sts1 rfl st0))))) ?_
      exact LR c3 c12 0 (Nat.zero_le _)
    · skip
      refine A_bipush ok.b (v := 100) dX7_rateOf_15 (by decide) ?_
      refine A_iret ok dX7_rateOf_17 (Nat.le_of_ble_eq_true rfl) (Nat.le_of_ble_eq_true rfl) ?_
      exact ⟨by rw [rtR, if_neg (Int32.not_lt.mpr c3), if_pos c12], by rw [rtK, if_neg (Int32.not_lt.mpr c3), if_pos c12]⟩
  · skip
    refine A_iconst ok.b (v := 0) dX7_rateOf_6 (by decide) ?_
    refine A_iret ok dX7_rateOf_7 (Nat.le_of_ble_eq_true rfl) (Nat.le_of_ble_eq_true rfl) ?_
    have h4 : d 4 < 0 := Int32.not_le.mp c3
    exact ⟨by rw [rtR, if_pos h4], by rw [rtK, if_pos h4]⟩
