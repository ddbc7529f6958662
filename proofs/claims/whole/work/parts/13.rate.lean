section AWR
variable {l : Launch} {g : Gl} {own nm : String} {cc : ByteArray} {nL : Nat} {ret : Option FieldType} {R : Room} {A : Nat → Prop} {H0 : Heap} {K : KT} {pc : Nat} {lv : List (Option Value)} {st : List Value} {ws : va_W} {cn sn : Nat}

theorem A_tin (ok : OkB l g own nm cc nL ret R A H0 K) {dflt lo hi : Int} {offs : Array Int} {len : Nat} {x : Int32} {off : Int} {tgt : Nat} (d : decode cc pc = .ok (.tableswitch dflt lo hi offs, len)) (h1 : ¬ x.toInt < lo) (h2 : ¬ hi < x.toInt) (ho : offs[(x.toInt - lo).toNat]? = some off) (ht : (pc : Int) + off = (tgt : Int))
    (k : AW g A H0 nL K tgt lv st ws cn sn) : AW g A H0 nL K pc lv (.int x :: st) ws cn sn := by
  obtain ⟨p, e, s, m, args, below, meth, c, Q, rfl, rfl, hx, hb, hml, hown, hts, hr, hlk, hKn, hG, hA, hnm⟩ := ok
  intro H locs ls hP hD hS hl
  exact lv_tableIn hx hb d h1 h2 ho ht (k H locs ls hP hD hS hl)
theorem A_tout (ok : OkB l g own nm cc nL ret R A H0 K) {dflt lo hi : Int} {offs : Array Int} {len : Nat} {x : Int32} {tgt : Nat} (d : decode cc pc = .ok (.tableswitch dflt lo hi offs, len)) (h : x.toInt < lo ∨ hi < x.toInt) (ht : (pc : Int) + dflt = (tgt : Int))
    (k : AW g A H0 nL K tgt lv st ws cn sn) : AW g A H0 nL K pc lv (.int x :: st) ws cn sn := by
  obtain ⟨p, e, s, m, args, below, meth, c, Q, rfl, rfl, hx, hb, hml, hown, hts, hr, hlk, hKn, hG, hA, hnm⟩ := ok
  intro H locs ls hP hD hS hl
  exact lv_tableOut hx hb d h ht (k H locs ls hP hD hS hl)
end AWR
def operF (k c n f : Int32) : Int64 := if k = -3 then f.toInt64 else if k = -2 then n.toInt64 else if k = -1 then c.toInt64 else k.toInt64
def limF (x : Int64) : Int64 := if (if x < 1000000000 then x else 1000000000) < (-1000000000 : Int64) then -1000000000 else (if x < 1000000000 then x else 1000000000)
def rawF (k : Int32) (x y : Int64) : Int64 := if k = -6 then x * y else if k = -5 then x - y else if k = -4 then x + y else if y = 0 then 0 else x / y
def resF (k : Int32) (x y : Int64) : Int64 := limF (rawF k x y)
theorem lg_cmp_0 {x y : Int64} : lg_cmp x y = 0 ↔ x = y := by
  unfold lg_cmp
  constructor
  · intro h
    split at h
    · cases h
    · split at h
      · assumption
      · exact absurd h (by decide)
  · intro h
    subst h
    simp

set_option maxRecDepth 20000 in
set_option maxHeartbeats 2000000 in
theorem c_operand (l : Launch) (g : Gl) (k0 c0 n0 f0 : Int32) : Ct l g yX3_operand cX3_operand 4 (some .long) 0 0 0 0 [.int k0, .int c0, .int n0, .int f0] [] (fun v w => v = some (.long (operF k0 c0 n0 f0)) ∧ w = []) noX := by
  refine Ct.intro [some (.int k0), some (.int c0), some (.int n0), some (.int f0)] (by decide +kernel) (fun _ h => h) (Nat.le_of_ble_eq_true rfl) (fun A H0 K ok => ?_)
  refine A_iload_n ok.b rfl dX3_operand_0 gp0 ?_
  by_cases s1_0 : k0 = (-3)
  · rw [s1_0]
    refine A_tin ok.b (off := 33) (tgt := 34) dX3_operand_1 (by decide) (by decide) (by decide) (by decide) ?_
    refine A_iload_n ok.b rfl dX3_operand_34 (gps (gps (gps gp0))) ?_
    refine A_i2l ok.b dX3_operand_35 ?_
    refine A_lret ok dX3_operand_36 (Nat.le_of_ble_eq_true rfl) (Nat.le_of_ble_eq_true rfl) ?_
    exact ⟨by rw [operF, if_pos s1_0], rfl⟩
  by_cases s1_1 : k0 = (-2)
  · rw [s1_1]
    refine A_tin ok.b (off := 30) (tgt := 31) dX3_operand_1 (by decide) (by decide) (by decide) (by decide) ?_
    refine A_iload_n ok.b rfl dX3_operand_31 (gps (gps gp0)) ?_
    refine A_i2l ok.b dX3_operand_32 ?_
    refine A_lret ok dX3_operand_33 (Nat.le_of_ble_eq_true rfl) (Nat.le_of_ble_eq_true rfl) ?_
    exact ⟨by rw [operF, if_neg s1_0, if_pos s1_1], rfl⟩
  by_cases s1_2 : k0 = (-1)
  · rw [s1_2]
    refine A_tin ok.b (off := 27) (tgt := 28) dX3_operand_1 (by decide) (by decide) (by decide) (by decide) ?_
    refine A_iload_n ok.b rfl dX3_operand_28 (gps gp0) ?_
    refine A_i2l ok.b dX3_operand_29 ?_
    refine A_lret ok dX3_operand_30 (Nat.le_of_ble_eq_true rfl) (Nat.le_of_ble_eq_true rfl) ?_
    exact ⟨by rw [operF, if_neg s1_0, if_neg s1_1, if_pos s1_2], rfl⟩
  refine A_tout ok.b (tgt := 37) dX3_operand_1 (by have e0 : (k0).toInt ≠ (-3) := fun h => s1_0 (Int32.toInt_inj.mp (by rw [h]; decide)); have e1 : (k0).toInt ≠ (-2) := fun h => s1_1 (Int32.toInt_inj.mp (by rw [h]; decide)); have e2 : (k0).toInt ≠ (-1) := fun h => s1_2 (Int32.toInt_inj.mp (by rw [h]; decide)); omega) (by decide) ?_
  refine A_iload_n ok.b rfl dX3_operand_37 gp0 ?_
  refine A_i2l ok.b dX3_operand_38 ?_
  refine A_lret ok dX3_operand_39 (Nat.le_of_ble_eq_true rfl) (Nat.le_of_ble_eq_true rfl) ?_
  exact ⟨by rw [operF, if_neg s1_0, if_neg s1_1, if_neg s1_2], rfl⟩
set_option maxRecDepth 20000 in
set_option maxHeartbeats 2000000 in
theorem c_result (l : Launch) (g : Gl) (k0 : Int32) (x0 y0 : Int64) : Ct l g yX3_result cX3_result 7 (some .long) 1 40 0 0 [.int k0, .long x0, .long y0] [] (fun v w => v = some (.long (resF k0 x0 y0)) ∧ w = []) noX := by
  refine Ct.intro [some (.int k0), some (.long x0), none, some (.long y0), none, none, none] (by decide +kernel) (fun _ h => h) (Nat.le_of_ble_eq_true rfl) (fun A H0 K ok => ?_)
  refine A_iload_n ok.b rfl dX3_result_0 gp0 ?_
  by_cases s1_0 : k0 = (-6)
  · rw [s1_0]
    refine A_tin ok.b (off := 43) (tgt := 44) dX3_result_1 (by decide) (by decide) (by decide) (by decide) ?_
    refine A_lload_n ok.b rfl dX3_result_44 (gps gp0) ?_
    refine A_lload_n ok.b rfl dX3_result_45 (gps (gps (gps gp0))) ?_
    refine A_lmul ok.b dX3_result_46 ?_
    refine A_lstore ok.b dX3_result_47 (by decide) (sts (sts (sts (sts (sts1n st0w))))) ?_
    refine A_goto ok.b (tgt := 67) dX3_result_49 (by decide) ?_
    refine A_ldc2 ok.b dX3_result_67 kl_X3_27 ?_
    refine A_ldc2 ok.b dX3_result_70 kl_X3_29 ?_
    refine A_lload ok.b dX3_result_73 (gps (gps (gps (gps (gps gp0))))) ?_
    refine A_minl ok.b (ml_X3_31) dX3_result_75 (Nat.le_of_ble_eq_true rfl) (Nat.le_of_ble_eq_true rfl) (Nat.le_of_ble_eq_true rfl) (Nat.le_of_ble_eq_true rfl) ?_
    refine A_maxl ok.b (ml_X3_37) dX3_result_78 (Nat.le_of_ble_eq_true rfl) (Nat.le_of_ble_eq_true rfl) (Nat.le_of_ble_eq_true rfl) (Nat.le_of_ble_eq_true rfl) ?_
    refine A_lret ok dX3_result_81 (Nat.le_of_ble_eq_true rfl) (Nat.le_of_ble_eq_true rfl) ?_
    exact ⟨by rw [resF, rawF, if_pos s1_0]; rfl, rfl⟩
  by_cases s1_1 : k0 = (-5)
  · rw [s1_1]
    refine A_tin ok.b (off := 35) (tgt := 36) dX3_result_1 (by decide) (by decide) (by decide) (by decide) ?_
    refine A_lload_n ok.b rfl dX3_result_36 (gps gp0) ?_
    refine A_lload_n ok.b rfl dX3_result_37 (gps (gps (gps gp0))) ?_
    refine A_lsub ok.b dX3_result_38 ?_
    refine A_lstore ok.b dX3_result_39 (by decide) (sts (sts (sts (sts (sts1n st0w))))) ?_
    refine A_goto ok.b (tgt := 67) dX3_result_41 (by decide) ?_
    refine A_ldc2 ok.b dX3_result_67 kl_X3_27 ?_
    refine A_ldc2 ok.b dX3_result_70 kl_X3_29 ?_
    refine A_lload ok.b dX3_result_73 (gps (gps (gps (gps (gps gp0))))) ?_
    refine A_minl ok.b (ml_X3_31) dX3_result_75 (Nat.le_of_ble_eq_true rfl) (Nat.le_of_ble_eq_true rfl) (Nat.le_of_ble_eq_true rfl) (Nat.le_of_ble_eq_true rfl) ?_
    refine A_maxl ok.b (ml_X3_37) dX3_result_78 (Nat.le_of_ble_eq_true rfl) (Nat.le_of_ble_eq_true rfl) (Nat.le_of_ble_eq_true rfl) (Nat.le_of_ble_eq_true rfl) ?_
    refine A_lret ok dX3_result_81 (Nat.le_of_ble_eq_true rfl) (Nat.le_of_ble_eq_true rfl) ?_
    exact ⟨by rw [resF, rawF, if_neg s1_0, if_pos s1_1]; rfl, rfl⟩
  by_cases s1_2 : k0 = (-4)
  · rw [s1_2]
    refine A_tin ok.b (off := 27) (tgt := 28) dX3_result_1 (by decide) (by decide) (by decide) (by decide) ?_
    refine A_lload_n ok.b rfl dX3_result_28 (gps gp0) ?_
    refine A_lload_n ok.b rfl dX3_result_29 (gps (gps (gps gp0))) ?_
    refine A_ladd ok.b dX3_result_30 ?_
    refine A_lstore ok.b dX3_result_31 (by decide) (sts (sts (sts (sts (sts1n st0w))))) ?_
    refine A_goto ok.b (tgt := 67) dX3_result_33 (by decide) ?_
    refine A_ldc2 ok.b dX3_result_67 kl_X3_27 ?_
    refine A_ldc2 ok.b dX3_result_70 kl_X3_29 ?_
    refine A_lload ok.b dX3_result_73 (gps (gps (gps (gps (gps gp0))))) ?_
    refine A_minl ok.b (ml_X3_31) dX3_result_75 (Nat.le_of_ble_eq_true rfl) (Nat.le_of_ble_eq_true rfl) (Nat.le_of_ble_eq_true rfl) (Nat.le_of_ble_eq_true rfl) ?_
    refine A_maxl ok.b (ml_X3_37) dX3_result_78 (Nat.le_of_ble_eq_true rfl) (Nat.le_of_ble_eq_true rfl) (Nat.le_of_ble_eq_true rfl) (Nat.le_of_ble_eq_true rfl) ?_
    refine A_lret ok dX3_result_81 (Nat.le_of_ble_eq_true rfl) (Nat.le_of_ble_eq_true rfl) ?_
    exact ⟨by rw [resF, rawF, if_neg s1_0, if_neg s1_1, if_pos s1_2]; rfl, rfl⟩
  refine A_tout ok.b (tgt := 52) dX3_result_1 (by have e0 : (k0).toInt ≠ (-6) := fun h => s1_0 (Int32.toInt_inj.mp (by rw [h]; decide)); have e1 : (k0).toInt ≠ (-5) := fun h => s1_1 (Int32.toInt_inj.mp (by rw [h]; decide)); have e2 : (k0).toInt ≠ (-4) := fun h => s1_2 (Int32.toInt_inj.mp (by rw [h]; decide)); omega) (by decide) ?_
  refine A_lload_n ok.b rfl dX3_result_52 (gps (gps (gps gp0))) ?_
  refine A_lconst ok.b (v := 0) dX3_result_53 (by decide) ?_
  refine A_lcmp ok.b dX3_result_54 ?_
  refine A_if_ne ok.b (tgt := 62) dX3_result_55 (by decide) (fun c55 => ?_) (fun c55 => ?_)
  · skip
    refine A_lload_n ok.b rfl dX3_result_62 (gps gp0) ?_
    refine A_lload_n ok.b rfl dX3_result_63 (gps (gps (gps gp0))) ?_
    refine A_ldiv ok.b dX3_result_64 (fun h => c55 (lg_cmp_0.mpr h)) ?_
    refine A_lstore ok.b dX3_result_65 (by decide) (sts (sts (sts (sts (sts1n st0w))))) ?_
    refine A_ldc2 ok.b dX3_result_67 kl_X3_27 ?_
    refine A_ldc2 ok.b dX3_result_70 kl_X3_29 ?_
    refine A_lload ok.b dX3_result_73 (gps (gps (gps (gps (gps gp0))))) ?_
    refine A_minl ok.b (ml_X3_31) dX3_result_75 (Nat.le_of_ble_eq_true rfl) (Nat.le_of_ble_eq_true rfl) (Nat.le_of_ble_eq_true rfl) (Nat.le_of_ble_eq_true rfl) ?_
    refine A_maxl ok.b (ml_X3_37) dX3_result_78 (Nat.le_of_ble_eq_true rfl) (Nat.le_of_ble_eq_true rfl) (Nat.le_of_ble_eq_true rfl) (Nat.le_of_ble_eq_true rfl) ?_
    refine A_lret ok dX3_result_81 (Nat.le_of_ble_eq_true rfl) (Nat.le_of_ble_eq_true rfl) ?_
    exact ⟨by rw [resF, rawF, if_neg s1_0, if_neg s1_1, if_neg s1_2, if_neg (fun h => c55 (lg_cmp_0.mpr h))]; rfl, rfl⟩
  · skip
    refine A_lconst ok.b (v := 0) dX3_result_58 (by decide) ?_
    refine A_goto ok.b (tgt := 65) dX3_result_59 (by decide) ?_
    refine A_lstore ok.b dX3_result_65 (by decide) (sts (sts (sts (sts (sts1n st0w))))) ?_
    refine A_ldc2 ok.b dX3_result_67 kl_X3_27 ?_
    refine A_ldc2 ok.b dX3_result_70 kl_X3_29 ?_
    refine A_lload ok.b dX3_result_73 (gps (gps (gps (gps (gps gp0))))) ?_
    refine A_minl ok.b (ml_X3_31) dX3_result_75 (Nat.le_of_ble_eq_true rfl) (Nat.le_of_ble_eq_true rfl) (Nat.le_of_ble_eq_true rfl) (Nat.le_of_ble_eq_true rfl) ?_
    refine A_maxl ok.b (ml_X3_37) dX3_result_78 (Nat.le_of_ble_eq_true rfl) (Nat.le_of_ble_eq_true rfl) (Nat.le_of_ble_eq_true rfl) (Nat.le_of_ble_eq_true rfl) ?_
    refine A_lret ok dX3_result_81 (Nat.le_of_ble_eq_true rfl) (Nat.le_of_ble_eq_true rfl) ?_
    exact ⟨by rw [resF, rawF, if_neg s1_0, if_neg s1_1, if_neg s1_2, if_pos (lg_cmp_0.mp c55)]; rfl, rfl⟩
/-- the rate program's cells -/
def rW (g : Gl) (b : Nat → Nat) (nc : Nat) (cs : Nat → Int32) (sk : Nat → Int64) : va_W := [(b 3, .inr (3, [.ref (b 4), .ref (b 5)])), (b 4, .inl (g.2.1 0, nc, .inl cs)), (b 5, .inl (g.2.1 1, 11, .inr (.inl sk)))]
/-- one code: the stack, how many stand on it -/
def codeF (cs : Nat → Int32) (c n f : Int32) (i : Nat) (S : (Nat → Int64) × Nat) : (Nat → Int64) × Nat :=
  if cs i ≤ -4 then (if S.2 < 2 then S else (vp_updL S.1 (S.2 - 2) (resF (cs i) (S.1 (S.2 - 2)) (S.1 (S.2 - 1))), S.2 - 1))
  else (if 11 ≤ S.2 then S else (vp_updL S.1 S.2 (operF (cs i) c n f), S.2 + 1))
theorem code_top {cs : Nat → Int32} {c n f : Int32} {sk : Nat → Int64} (k : Nat) : (foldN (codeF cs c n f) (sk, 0) k).2 ≤ 11 := by
  refine foldN_inv (fun S : (Nat → Int64) × Nat => S.2 ≤ 11) (codeF cs c n f) (sk, 0) (Nat.zero_le _) (fun i S hS => ?_) k
  show (codeF cs c n f i S).2 ≤ 11
  unfold codeF
  split
  · split
    · exact hS
    · show S.2 - 1 ≤ 11
      omega
  · split
    · exact hS
    · show S.2 + 1 ≤ 11
      omega
def valF (nc : Nat) (cs : Nat → Int32) (c n f : Int32) (sk : Nat → Int64) : Nat → Int64 := (foldN (codeF cs c n f) (sk, 0) nc).1
set_option maxRecDepth 20000 in
set_option maxHeartbeats 2000000 in
theorem c_valueAt (l : Launch) (g : Gl) (b : Nat → Nat) (nc : Nat) (hnc : nc < 1000) (cs : Nat → Int32) (sk : Nat → Int64) (c0 n0 f0 : Int32) : Ct l g yX3_valueAt cX3_valueAt 7 (some .long) 2 80 0 0 [.ref (b 3), .int c0, .int n0, .int f0] (rW g b nc cs sk) (fun v w => v = some (.long (valF nc cs c0 n0 f0 sk 0)) ∧ w = rW g b nc cs (valF nc cs c0 n0 f0 sk)) noX := by
  refine Ct.intro [some (.ref (b 3)), some (.int c0), some (.int n0), some (.int f0), none, none, none] (by decide +kernel) (fun _ h => h) (Nat.le_of_ble_eq_true rfl) (fun A H0 K ok => ?_)
  have L : ∀ k, k ≤ nc → AW g A H0 7 K 6 [some (.ref (b 3)), some (.int c0), some (.int n0), some (.int f0), some (.int (nI (foldN (codeF cs c0 n0 f0) (sk, 0) k).2)), some (.int (nI k)), none] [] (rW g b nc cs (foldN (codeF cs c0 n0 f0) (sk, 0) k).1) 0 0 := by
    refine up_ind nc ?_ (fun k hk ih => ?_)
    · skip
      refine A_iload ok.b dX3_valueAt_6 (gps (gps (gps (gps (gps gp0))))) ?_
      refine A_aload_n ok.b rfl dX3_valueAt_8 gp0 ?_
      refine A_getf ok.b cf3 0 (by decide) fl_X3_15 gp0 gp0 dX3_valueAt_9 ?_
      refine A_alen ok.b 0 (gps gp0) rfl rfl dX3_valueAt_12 ?_
      refine A_icmp_ge ok.b (tgt := 105) dX3_valueAt_13 (by decide) (fun c13 => ?_) (fun c13 => (c13 (nI_le (Nat.le_refl _) (by omega))).elim)
      refine A_aload_n ok.b rfl dX3_valueAt_105 gp0 ?_
      refine A_getf ok.b cf3 1 (by decide) fl_X3_11 gp0 (gps gp0) dX3_valueAt_106 ?_
      refine A_iconst ok.b (v := 0) dX3_valueAt_109 (by decide) ?_
      refine A_lald ok.b (gps (gps gp0)) (ix_n (j := 0) (by decide) (by decide)) dX3_valueAt_110 ?_
      refine A_lret ok dX3_valueAt_111 (Nat.le_of_ble_eq_true rfl) (Nat.le_of_ble_eq_true rfl) ?_
      exact ⟨rfl, rfl⟩
    · have ht := code_top (cs := cs) (c := c0) (n := n0) (f := f0) (sk := sk) k
      rw [foldN_s] at ih
      generalize foldN (codeF cs c0 n0 f0) (sk, 0) k = S at ih ht ⊢
      refine A_iload ok.b dX3_valueAt_6 (gps (gps (gps (gps (gps gp0))))) ?_
      refine A_aload_n ok.b rfl dX3_valueAt_8 gp0 ?_
      refine A_getf ok.b cf3 0 (by decide) fl_X3_15 gp0 gp0 dX3_valueAt_9 ?_
      refine A_alen ok.b 0 (gps gp0) rfl rfl dX3_valueAt_12 ?_
      refine A_icmp_ge ok.b (tgt := 105) dX3_valueAt_13 (by decide) (fun c13 => (nI_ge hk (by omega) c13).elim) (fun c13 => ?_)
      refine A_aload_n ok.b rfl dX3_valueAt_16 gp0 ?_
      refine A_getf ok.b cf3 0 (by decide) fl_X3_15 gp0 gp0 dX3_valueAt_17 ?_
      refine A_iload ok.b dX3_valueAt_20 (gps (gps (gps (gps (gps gp0))))) ?_
      refine A_iald ok.b (gps gp0) (ix_n hk (by omega)) dX3_valueAt_22 ?_
      refine A_istore ok.b dX3_valueAt_23 (by decide) (sts (sts (sts (sts (sts (sts1 rfl st0)))))) ?_
      refine A_iload ok.b dX3_valueAt_25 (gps (gps (gps (gps (gps (gps gp0)))))) ?_
      refine A_bipush ok.b (v := (-4)) dX3_valueAt_27 (by decide) ?_
      refine A_icmp_le ok.b (tgt := 60) dX3_valueAt_29 (by decide) (fun c29 => ?_) (fun c29 => ?_)
      · skip
        refine A_iload ok.b dX3_valueAt_60 (gps (gps (gps (gps gp0)))) ?_
        refine A_iconst ok.b (v := 2) dX3_valueAt_62 (by decide) ?_
        refine A_icmp_lt ok.b (tgt := 99) dX3_valueAt_63 (by decide) (fun c63 => ?_) (fun c63 => ?_)
        · skip
          refine A_iinc ok.b (v := _ + 1) dX3_valueAt_99 (gps (gps (gps (gps (gps gp0))))) rfl (by decide) (sts (sts (sts (sts (sts1 rfl st0))))) ?_
          refine A_goto ok.b (tgt := 6) dX3_valueAt_102 (by decide) ?_
          refine A_lv (lleK (lleK (lleK (lleK (lleK (lleK (lleD lle0))))))) ?_
          rw [codeF, if_pos c29, if_pos (by rcases Nat.lt_or_ge S.2 2 with h | h; exact h; exact absurd c63 (nI_nlt h (by omega)))] at ih
          rw [nI_1]
          exact ih
        · skip
          have ht2 : 2 ≤ S.2 := by
            rcases Nat.lt_or_ge S.2 2 with h | h
            · exact absurd (nI_lt h (by decide)) c63
            · exact h
          obtain ⟨n2, hn2⟩ : ∃ n2, S.2 = n2 + 2 := ⟨S.2 - 2, by omega⟩
          rw [hn2]
          refine A_iinc ok.b (v := _ + (-1)) dX3_valueAt_66 (gps (gps (gps (gps gp0)))) rfl (by decide) (sts (sts (sts (sts1 rfl st0)))) ?_
          rw [show nI (n2 + 2) + (-1 : Int32) = nI (n2 + 1) from pk_m1 (n2 + 1)]
          refine A_aload_n ok.b rfl dX3_valueAt_69 gp0 ?_
          refine A_getf ok.b cf3 1 (by decide) fl_X3_11 gp0 (gps gp0) dX3_valueAt_70 ?_
          refine A_iload ok.b dX3_valueAt_73 (gps (gps (gps (gps gp0)))) ?_
          refine A_iconst ok.b (v := 1) dX3_valueAt_75 (by decide) ?_
          refine A_isub ok.b dX3_valueAt_76 ?_
          rw [show nI (n2 + 1) - 1 = nI n2 from nI_pred n2]
          refine A_iload ok.b dX3_valueAt_77 (gps (gps (gps (gps (gps (gps gp0)))))) ?_
          refine A_aload_n ok.b rfl dX3_valueAt_79 gp0 ?_
          refine A_getf ok.b cf3 1 (by decide) fl_X3_11 gp0 (gps gp0) dX3_valueAt_80 ?_
          refine A_iload ok.b dX3_valueAt_83 (gps (gps (gps (gps gp0)))) ?_
          refine A_iconst ok.b (v := 1) dX3_valueAt_85 (by decide) ?_
          refine A_isub ok.b dX3_valueAt_86 ?_
          rw [show nI (n2 + 1) - 1 = nI n2 from nI_pred n2]
          refine A_lald ok.b (gps (gps gp0)) (ix_n (by omega) (by decide)) dX3_valueAt_87 ?_
          refine A_aload_n ok.b rfl dX3_valueAt_88 gp0 ?_
          refine A_getf ok.b cf3 1 (by decide) fl_X3_11 gp0 (gps gp0) dX3_valueAt_89 ?_
          refine A_iload ok.b dX3_valueAt_92 (gps (gps (gps (gps gp0)))) ?_
          refine A_lald ok.b (gps (gps gp0)) (ix_n (by omega) (by decide)) dX3_valueAt_94 ?_
          refine A_pureS ok.b (As := [_, _, _]) mf_X3_result ml_X3_23 rfl sc_X3_result (c_result l g _ _ _) rfl rfl dX3_valueAt_95 (Nat.le_of_ble_eq_true rfl) ⟨(Nat.le_of_ble_eq_true rfl), (Nat.le_of_ble_eq_true rfl)⟩ ⟨(Nat.le_of_ble_eq_true rfl), (Nat.le_of_ble_eq_true rfl)⟩ ?_
          refine A_last ok.b (gps (gps gp0)) (ix_n (by omega) (by decide)) (wps (wps wp0)) dX3_valueAt_98 ?_
          refine A_iinc ok.b (v := _ + 1) dX3_valueAt_99 (gps (gps (gps (gps (gps gp0))))) rfl (by decide) (sts (sts (sts (sts (sts1 rfl st0))))) ?_
          refine A_goto ok.b (tgt := 6) dX3_valueAt_102 (by decide) ?_
          refine A_lv (lleK (lleK (lleK (lleK (lleK (lleK (lleD lle0))))))) ?_
          rw [codeF, if_pos c29, if_neg (by omega), hn2] at ih
          rw [nI_1]
          exact ih
      · skip
        refine A_iload ok.b dX3_valueAt_32 (gps (gps (gps (gps gp0)))) ?_
        refine A_bipush ok.b (v := 11) dX3_valueAt_34 (by decide) ?_
        refine A_icmp_ge ok.b (tgt := 99) dX3_valueAt_36 (by decide) (fun c36 => ?_) (fun c36 => ?_)
        · skip
          refine A_iinc ok.b (v := _ + 1) dX3_valueAt_99 (gps (gps (gps (gps (gps gp0))))) rfl (by decide) (sts (sts (sts (sts (sts1 rfl st0))))) ?_
          refine A_goto ok.b (tgt := 6) dX3_valueAt_102 (by decide) ?_
          refine A_lv (lleK (lleK (lleK (lleK (lleK (lleK (lleD lle0))))))) ?_
          rw [codeF, if_neg c29, if_pos (by rcases Nat.lt_or_ge S.2 11 with h | h; exact absurd c36 (nI_ge h (by decide)); exact h)] at ih
          rw [nI_1]
          exact ih
        · skip
          have ht9 : S.2 < 11 := by
            rcases Nat.lt_or_ge S.2 11 with h | h
            · exact h
            · exact absurd (nI_le (a := 11) (b := S.2) h (by omega)) c36
          refine A_aload_n ok.b rfl dX3_valueAt_39 gp0 ?_
          refine A_getf ok.b cf3 1 (by decide) fl_X3_11 gp0 (gps gp0) dX3_valueAt_40 ?_
          refine A_iload ok.b dX3_valueAt_43 (gps (gps (gps (gps gp0)))) ?_
          refine A_iload ok.b dX3_valueAt_45 (gps (gps (gps (gps (gps (gps gp0)))))) ?_
          refine A_iload_n ok.b rfl dX3_valueAt_47 (gps gp0) ?_
          refine A_iload_n ok.b rfl dX3_valueAt_48 (gps (gps gp0)) ?_
          refine A_iload_n ok.b rfl dX3_valueAt_49 (gps (gps (gps gp0))) ?_
          refine A_pureS ok.b (As := [_, _, _, _]) mf_X3_operand ml_X3_19 rfl sc_X3_operand (c_operand l g _ _ _ _) rfl rfl dX3_valueAt_50 (Nat.le_of_ble_eq_true rfl) ⟨(Nat.le_of_ble_eq_true rfl), (Nat.le_of_ble_eq_true rfl)⟩ ⟨(Nat.le_of_ble_eq_true rfl), (Nat.le_of_ble_eq_true rfl)⟩ ?_
          refine A_last ok.b (gps (gps gp0)) (ix_n ht9 (by decide)) (wps (wps wp0)) dX3_valueAt_53 ?_
          refine A_iinc ok.b (v := _ + 1) dX3_valueAt_54 (gps (gps (gps (gps gp0)))) rfl (by decide) (sts (sts (sts (sts1 rfl st0)))) ?_
          refine A_goto ok.b (tgt := 99) dX3_valueAt_57 (by decide) ?_
          refine A_iinc ok.b (v := _ + 1) dX3_valueAt_99 (gps (gps (gps (gps (gps gp0))))) rfl (by decide) (sts (sts (sts (sts (sts1 rfl st0))))) ?_
          refine A_goto ok.b (tgt := 6) dX3_valueAt_102 (by decide) ?_
          refine A_lv (lleK (lleK (lleK (lleK (lleK (lleK (lleD lle0))))))) ?_
          rw [codeF, if_neg c29, if_neg (by omega)] at ih
          rw [nI_1, nI_1]
          exact ih
  refine A_iconst ok.b (v := 0) dX3_valueAt_0 (by decide) ?_
  refine A_istore ok.b dX3_valueAt_1 (by decide) (sts (sts (sts (sts1 rfl st0)))) ?_
  refine A_iconst ok.b (v := 0) dX3_valueAt_3 (by decide) ?_
  refine A_istore ok.b dX3_valueAt_4 (by decide) (sts (sts (sts (sts (sts1 rfl st0))))) ?_
  exact L 0 (Nat.zero_le _)
