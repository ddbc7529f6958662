def daW (g : Gl) (q : Nat) (d : Nat → Int32) : va_W := [(q, .inl (g.2.1 0, 1476, .inl d))]
def inB (v lo hi : Int32) : Bool := !decide (v < lo) && !decide (hi < v)
theorem inB_t {v lo hi : Int32} (h1 : ¬ v < lo) (h2 : ¬ hi < v) : inB v lo hi = true := by simp [inB, h1, h2]
theorem inB_f1 {v lo hi : Int32} (h1 : v < lo) : inB v lo hi = false := by simp [inB, h1]
theorem inB_f2 {v lo hi : Int32} (h1 : hi < v) : inB v lo hi = false := by simp [inB, h1]
theorem sec_n {s : Nat} (h : s ≤ 12) : (12 : Int32) + 7 * nI s = nI (12 + 7 * s) := by
  have k : ∀ s, s < 13 → (12 : Int32) + 7 * nI s = nI (12 + 7 * s) := by decide
  exact k s (by omega)
theorem car_n {c : Nat} (h : c ≤ 20) : (96 : Int32) + 4 * nI c = nI (96 + 4 * c) := by
  have k : ∀ c, c < 21 → (96 : Int32) + 4 * nI c = nI (96 + 4 * c) := by decide
  exact k c (by omega)
set_option maxRecDepth 20000 in
set_option maxHeartbeats 2000000 in
theorem r_in (l : Launch) (g : Gl) (v0 lo0 hi0 : Int32) : Ct l g yX7_in cX7_in 3 (some .boolean) 0 0 0 0 [.int v0, .int lo0, .int hi0] [] (fun v w => v = some (.int (bI (inB v0 lo0 hi0))) ∧ w = []) noX := by
  refine Ct.intro [some (.int v0), some (.int lo0), some (.int hi0)] (by decide +kernel) (fun _ h => h) (Nat.le_of_ble_eq_true rfl) (fun A H0 K ok => ?_)
  refine A_iload_n ok.b rfl dX7_in_0 gp0 ?_
  refine A_iload_n ok.b rfl dX7_in_1 (gps gp0) ?_
  refine A_icmp_lt ok.b (tgt := 14) dX7_in_2 (by decide) (fun c2 => ?_) (fun c2 => ?_)
  · skip
    refine A_iconst ok.b (v := 0) dX7_in_14 (by decide) ?_
    refine A_zret ok dX7_in_15 (by decide) (Nat.le_of_ble_eq_true rfl) (Nat.le_of_ble_eq_true rfl) ?_
    exact ⟨by rw [inB_f1 c2]; rfl, rfl⟩
  · skip
    refine A_iload_n ok.b rfl dX7_in_5 gp0 ?_
    refine A_iload_n ok.b rfl dX7_in_6 (gps (gps gp0)) ?_
    refine A_icmp_gt ok.b (tgt := 14) dX7_in_7 (by decide) (fun c7 => ?_) (fun c7 => ?_)
    · skip
      refine A_iconst ok.b (v := 0) dX7_in_14 (by decide) ?_
      refine A_zret ok dX7_in_15 (by decide) (Nat.le_of_ble_eq_true rfl) (Nat.le_of_ble_eq_true rfl) ?_
      exact ⟨by rw [inB_f2 c7]; rfl, rfl⟩
    · skip
      refine A_iconst ok.b (v := 1) dX7_in_10 (by decide) ?_
      refine A_goto ok.b (tgt := 15) dX7_in_11 (by decide) ?_
      refine A_zret ok dX7_in_15 (by decide) (Nat.le_of_ble_eq_true rfl) (Nat.le_of_ble_eq_true rfl) ?_
      exact ⟨by rw [inB_t c2 c7]; rfl, rfl⟩
set_option maxRecDepth 20000 in
set_option maxHeartbeats 2000000 in
theorem r_min (l : Launch) (g : Gl) (x y : Int32) : Ct l g yX7_min cX7_min 2 (some .int) 0 0 0 0 [.int x, .int y] [] (fun v w => v = some (.int (if y ≤ x then y else x)) ∧ w = []) noX := by
  refine Ct.intro [some (.int x), some (.int y)] (by decide +kernel) (fun _ h => h) (Nat.le_of_ble_eq_true rfl) (fun A H0 K ok => ?_)
  refine A_iload_n ok.b rfl dX7_min_0 gp0 ?_
  refine A_iload_n ok.b rfl dX7_min_1 (gps gp0) ?_
  refine A_icmp_ge ok.b (tgt := 9) dX7_min_2 (by decide) (fun c2 => ?_) (fun c2 => ?_)
  · skip
    refine A_iload_n ok.b rfl dX7_min_9 (gps gp0) ?_
    refine A_iret ok dX7_min_10 (Nat.le_of_ble_eq_true rfl) (Nat.le_of_ble_eq_true rfl) ?_
    exact ⟨by rw [if_pos c2], rfl⟩
  · skip
    refine A_iload_n ok.b rfl dX7_min_5 gp0 ?_
    refine A_goto ok.b (tgt := 10) dX7_min_6 (by decide) ?_
    refine A_iret ok dX7_min_10 (Nat.le_of_ble_eq_true rfl) (Nat.le_of_ble_eq_true rfl) ?_
    exact ⟨by rw [if_neg c2], rfl⟩
set_option maxRecDepth 20000 in
set_option maxHeartbeats 2000000 in
theorem r_section (l : Launch) (g : Gl) (x : Int32) : Ct l g yX7_section cX7_section 1 (some .int) 0 0 0 0 [.int x] [] (fun v w => v = some (.int (12 + 7 * x)) ∧ w = []) noX := by
  refine Ct.intro [some (.int x)] (by decide +kernel) (fun _ h => h) (Nat.le_of_ble_eq_true rfl) (fun A H0 K ok => ?_)
  refine A_bipush ok.b (v := 12) dX7_section_0 (by decide) ?_
  refine A_bipush ok.b (v := 7) dX7_section_2 (by decide) ?_
  refine A_iload_n ok.b rfl dX7_section_4 gp0 ?_
  refine A_imul ok.b dX7_section_5 ?_
  refine A_iadd ok.b dX7_section_6 ?_
  refine A_iret ok dX7_section_7 (Nat.le_of_ble_eq_true rfl) (Nat.le_of_ble_eq_true rfl) ?_
  exact ⟨rfl, rfl⟩
set_option maxRecDepth 20000 in
set_option maxHeartbeats 2000000 in
theorem r_car (l : Launch) (g : Gl) (x : Int32) : Ct l g yX7_car cX7_car 1 (some .int) 0 0 0 0 [.int x] [] (fun v w => v = some (.int (96 + 4 * x)) ∧ w = []) noX := by
  refine Ct.intro [some (.int x)] (by decide +kernel) (fun _ h => h) (Nat.le_of_ble_eq_true rfl) (fun A H0 K ok => ?_)
  refine A_bipush ok.b (v := 96) dX7_car_0 (by decide) ?_
  refine A_iconst ok.b (v := 4) dX7_car_2 (by decide) ?_
  refine A_iload_n ok.b rfl dX7_car_3 gp0 ?_
  refine A_imul ok.b dX7_car_4 ?_
  refine A_iadd ok.b dX7_car_5 ?_
  refine A_iret ok dX7_car_6 (Nat.le_of_ble_eq_true rfl) (Nat.le_of_ble_eq_true rfl) ?_
  exact ⟨rfl, rfl⟩
set_option maxRecDepth 20000 in
set_option maxHeartbeats 2000000 in
theorem r_isDigit (l : Launch) (g : Gl) (x : Int32) : Ct l g yX7_isDigit cX7_isDigit 1 (some .boolean) 1 40 0 0 [.int x] [] (fun v w => v = some (.int (bI (inB x 48 57))) ∧ w = []) noX := by
  refine Ct.intro [some (.int x)] (by decide +kernel) (fun _ h => h) (Nat.le_of_ble_eq_true rfl) (fun A H0 K ok => ?_)
  refine A_iload_n ok.b rfl dX7_isDigit_0 gp0 ?_
  refine A_bipush ok.b (v := 48) dX7_isDigit_1 (by decide) ?_
  refine A_bipush ok.b (v := 57) dX7_isDigit_3 (by decide) ?_
  refine A_pureS ok.b (As := [_, _, _]) mf_X7_in ml_X7_67 rfl sc_X7_in (r_in l g _ _ _) rfl rfl dX7_isDigit_5 (Nat.le_of_ble_eq_true rfl) ⟨(Nat.le_of_ble_eq_true rfl), (Nat.le_of_ble_eq_true rfl)⟩ ⟨(Nat.le_of_ble_eq_true rfl), (Nat.le_of_ble_eq_true rfl)⟩ ?_
  refine A_zret ok dX7_isDigit_8 (bI_z01 _) (Nat.le_of_ble_eq_true rfl) (Nat.le_of_ble_eq_true rfl) ?_
  exact ⟨rfl, rfl⟩
set_option maxRecDepth 20000 in
set_option maxHeartbeats 2000000 in
theorem r_signal (l : Launch) (g : Gl) (x y : Int32) : Ct l g yX7_signal cX7_signal 2 (some .int) 1 40 0 0 [.int x, .int y] [] (fun v w => v = some (.int (12 + 7 * x + (if y = 1 then 5 else 6))) ∧ w = []) noX := by
  refine Ct.intro [some (.int x), some (.int y)] (by decide +kernel) (fun _ h => h) (Nat.le_of_ble_eq_true rfl) (fun A H0 K ok => ?_)
  refine A_iload_n ok.b rfl dX7_signal_0 gp0 ?_
  refine A_pureS ok.b (As := [_]) mf_X7_section ml_X7_143 rfl sc_X7_section (r_section l g _) rfl rfl dX7_signal_1 (Nat.le_of_ble_eq_true rfl) ⟨(Nat.le_of_ble_eq_true rfl), (Nat.le_of_ble_eq_true rfl)⟩ ⟨(Nat.le_of_ble_eq_true rfl), (Nat.le_of_ble_eq_true rfl)⟩ ?_
  refine A_iload_n ok.b rfl dX7_signal_4 (gps gp0) ?_
  refine A_iconst ok.b (v := 1) dX7_signal_5 (by decide) ?_
  refine A_icmp_ne ok.b (tgt := 13) dX7_signal_6 (by decide) (fun c6 => ?_) (fun c6 => ?_)
  · skip
    refine A_bipush ok.b (v := 6) dX7_signal_13 (by decide) ?_
    refine A_iadd ok.b dX7_signal_15 ?_
    refine A_iret ok dX7_signal_16 (Nat.le_of_ble_eq_true rfl) (Nat.le_of_ble_eq_true rfl) ?_
    exact ⟨by rw [if_neg c6], rfl⟩
  · skip
    refine A_iconst ok.b (v := 5) dX7_signal_9 (by decide) ?_
    refine A_goto ok.b (tgt := 15) dX7_signal_10 (by decide) ?_
    refine A_iadd ok.b dX7_signal_15 ?_
    refine A_iret ok dX7_signal_16 (Nat.le_of_ble_eq_true rfl) (Nat.le_of_ble_eq_true rfl) ?_
    exact ⟨by rw [if_pos c6], rfl⟩
theorem le_nlt {x y : Int64} (h : lg_cmp x y ≤ 0) : ¬ y < x := by
  intro h2
  rw [lg_cmp, if_pos h2] at h
  exact absurd h (by decide)
theorem nle_lt {x y : Int64} (h : ¬ lg_cmp x y ≤ 0) : y < x := by
  by_cases h2 : y < x
  · exact h2
  · refine absurd ?_ h
    rw [lg_cmp, if_neg h2]
    split
    · decide
    · decide
def limR (x : Int64) : Int64 := if 1000000000 < x then 1000000000 else if x < -1000000000 then -1000000000 else x
set_option maxRecDepth 20000 in
set_option maxHeartbeats 2000000 in
theorem r_limited (l : Launch) (g : Gl) (x : Int64) : Ct l g yX7_limited cX7_limited 2 (some .long) 0 0 0 0 [.long x] [] (fun v w => v = some (.long (if 1000000000 < x then 1000000000 else if x < -1000000000 then -1000000000 else x)) ∧ w = []) noX := by
  refine Ct.intro [some (.long x), none] (by decide +kernel) (fun _ h => h) (Nat.le_of_ble_eq_true rfl) (fun A H0 K ok => ?_)
  refine A_lload_n ok.b rfl dX7_limited_0 gp0 ?_
  refine A_ldc2 ok.b dX7_limited_1 kl_X7_210 ?_
  refine A_lcmp ok.b dX7_limited_4 ?_
  refine A_if_le ok.b (tgt := 14) dX7_limited_5 (by decide) (fun c5 => ?_) (fun c5 => ?_)
  · skip
    refine A_lload_n ok.b rfl dX7_limited_14 gp0 ?_
    refine A_ldc2 ok.b dX7_limited_15 kl_X7_212 ?_
    refine A_lcmp ok.b dX7_limited_18 ?_
    refine A_if_ge ok.b (tgt := 28) dX7_limited_19 (by decide) (fun c19 => ?_) (fun c19 => ?_)
    · skip
      refine A_lload_n ok.b rfl dX7_limited_28 gp0 ?_
      refine A_lret ok dX7_limited_29 (Nat.le_of_ble_eq_true rfl) (Nat.le_of_ble_eq_true rfl) ?_
      exact ⟨by rw [if_neg (le_nlt c5), if_neg (ge_lt c19)], rfl⟩
    · skip
      refine A_ldc2 ok.b dX7_limited_22 kl_X7_212 ?_
      refine A_goto ok.b (tgt := 29) dX7_limited_25 (by decide) ?_
      refine A_lret ok dX7_limited_29 (Nat.le_of_ble_eq_true rfl) (Nat.le_of_ble_eq_true rfl) ?_
      exact ⟨by rw [if_neg (le_nlt c5), if_pos (nge_lt c19)], rfl⟩
  · skip
    refine A_ldc2 ok.b dX7_limited_8 kl_X7_210 ?_
    refine A_goto ok.b (tgt := 29) dX7_limited_11 (by decide) ?_
    refine A_lret ok dX7_limited_29 (Nat.le_of_ble_eq_true rfl) (Nat.le_of_ble_eq_true rfl) ?_
    exact ⟨by rw [if_pos (nle_lt c5)], rfl⟩
def opR (op : Int32) (x y : Int64) : Int64 := if op = 5 then (if y = 0 then 0 else x / y) else limR (if op = 2 then x + y else if op = 3 then x - y else x * y)
set_option maxRecDepth 20000 in
set_option maxHeartbeats 2000000 in
theorem r_operate (l : Launch) (g : Gl) (op : Int32) (x y : Int64) : Ct l g yX7_operate cX7_operate 5 (some .long) 1 40 0 0 [.int op, .long x, .long y] [] (fun v w => v = some (.long (opR op x y)) ∧ w = []) noX := by
  refine Ct.intro [some (.int op), some (.long x), none, some (.long y), none] (by decide +kernel) (fun _ h => h) (Nat.le_of_ble_eq_true rfl) (fun A H0 K ok => ?_)
  refine A_iload_n ok.b rfl dX7_operate_0 gp0 ?_
  refine A_iconst ok.b (v := 5) dX7_operate_1 (by decide) ?_
  refine A_icmp_ne ok.b (tgt := 19) dX7_operate_2 (by decide) (fun c2 => ?_) (fun c2 => ?_)
  · skip
    refine A_iload_n ok.b rfl dX7_operate_19 gp0 ?_
    refine A_iconst ok.b (v := 2) dX7_operate_20 (by decide) ?_
    refine A_icmp_ne ok.b (tgt := 30) dX7_operate_21 (by decide) (fun c21 => ?_) (fun c21 => ?_)
    · skip
      refine A_iload_n ok.b rfl dX7_operate_30 gp0 ?_
      refine A_iconst ok.b (v := 3) dX7_operate_31 (by decide) ?_
      refine A_icmp_ne ok.b (tgt := 41) dX7_operate_32 (by decide) (fun c32 => ?_) (fun c32 => ?_)
      · skip
        refine A_lload_n ok.b rfl dX7_operate_41 (gps gp0) ?_
        refine A_lload_n ok.b rfl dX7_operate_42 (gps (gps (gps gp0))) ?_
        refine A_lmul ok.b dX7_operate_43 ?_
        refine A_pureS ok.b (As := [_]) mf_X7_limited ml_X7_214 rfl sc_X7_limited (r_limited l g _) rfl rfl dX7_operate_44 (Nat.le_of_ble_eq_true rfl) ⟨(Nat.le_of_ble_eq_true rfl), (Nat.le_of_ble_eq_true rfl)⟩ ⟨(Nat.le_of_ble_eq_true rfl), (Nat.le_of_ble_eq_true rfl)⟩ ?_
        refine A_lret ok dX7_operate_47 (Nat.le_of_ble_eq_true rfl) (Nat.le_of_ble_eq_true rfl) ?_
        exact ⟨by rw [opR, if_neg c2, if_neg c21, if_neg c32]; rfl, rfl⟩
      · skip
        refine A_lload_n ok.b rfl dX7_operate_35 (gps gp0) ?_
        refine A_lload_n ok.b rfl dX7_operate_36 (gps (gps (gps gp0))) ?_
        refine A_lsub ok.b dX7_operate_37 ?_
        refine A_goto ok.b (tgt := 44) dX7_operate_38 (by decide) ?_
        refine A_pureS ok.b (As := [_]) mf_X7_limited ml_X7_214 rfl sc_X7_limited (r_limited l g _) rfl rfl dX7_operate_44 (Nat.le_of_ble_eq_true rfl) ⟨(Nat.le_of_ble_eq_true rfl), (Nat.le_of_ble_eq_true rfl)⟩ ⟨(Nat.le_of_ble_eq_true rfl), (Nat.le_of_ble_eq_true rfl)⟩ ?_
        refine A_lret ok dX7_operate_47 (Nat.le_of_ble_eq_true rfl) (Nat.le_of_ble_eq_true rfl) ?_
        exact ⟨by rw [opR, if_neg c2, if_neg c21, if_pos c32]; rfl, rfl⟩
    · skip
      refine A_lload_n ok.b rfl dX7_operate_24 (gps gp0) ?_
      refine A_lload_n ok.b rfl dX7_operate_25 (gps (gps (gps gp0))) ?_
      refine A_ladd ok.b dX7_operate_26 ?_
      refine A_goto ok.b (tgt := 44) dX7_operate_27 (by decide) ?_
      refine A_pureS ok.b (As := [_]) mf_X7_limited ml_X7_214 rfl sc_X7_limited (r_limited l g _) rfl rfl dX7_operate_44 (Nat.le_of_ble_eq_true rfl) ⟨(Nat.le_of_ble_eq_true rfl), (Nat.le_of_ble_eq_true rfl)⟩ ⟨(Nat.le_of_ble_eq_true rfl), (Nat.le_of_ble_eq_true rfl)⟩ ?_
      refine A_lret ok dX7_operate_47 (Nat.le_of_ble_eq_true rfl) (Nat.le_of_ble_eq_true rfl) ?_
      exact ⟨by rw [opR, if_neg c2, if_pos c21]; rfl, rfl⟩
  · skip
    refine A_lload_n ok.b rfl dX7_operate_5 (gps (gps (gps gp0))) ?_
    refine A_lconst ok.b (v := 0) dX7_operate_6 (by decide) ?_
    refine A_lcmp ok.b dX7_operate_7 ?_
    refine A_if_ne ok.b (tgt := 15) dX7_operate_8 (by decide) (fun c8 => ?_) (fun c8 => ?_)
    · skip
      refine A_lload_n ok.b rfl dX7_operate_15 (gps gp0) ?_
      refine A_lload_n ok.b rfl dX7_operate_16 (gps (gps (gps gp0))) ?_
      refine A_ldiv ok.b dX7_operate_17 (fun h => c8 (lg_cmp_0.mpr h)) ?_
      refine A_lret ok dX7_operate_18 (Nat.le_of_ble_eq_true rfl) (Nat.le_of_ble_eq_true rfl) ?_
      exact ⟨by rw [opR, if_pos c2, if_neg (fun h => c8 (lg_cmp_0.mpr h))], rfl⟩
    · skip
      refine A_lconst ok.b (v := 0) dX7_operate_11 (by decide) ?_
      refine A_goto ok.b (tgt := 18) dX7_operate_12 (by decide) ?_
      refine A_lret ok dX7_operate_18 (Nat.le_of_ble_eq_true rfl) (Nat.le_of_ble_eq_true rfl) ?_
      exact ⟨by rw [opR, if_pos c2, if_pos (lg_cmp_0.mp c8)], rfl⟩
def cpR (k : Nat) (f h : Nat → Int32) : Nat → Int32 := fun j => if j < k then f j else h j
set_option maxRecDepth 20000 in
set_option maxHeartbeats 2000000 in
theorem r_copy (l : Launch) (g : Gl) (q1 q2 : Nat) (f h : Nat → Int32) : Ct l g yX7_copy cX7_copy 3 none 0 0 0 0 [.ref q1, .ref q2] (daW g q1 f ++ daW g q2 h) (fun v w => v = none ∧ w = daW g q1 f ++ daW g q2 f) noX := by
  refine Ct.intro [some (.ref q1), some (.ref q2), none] (by decide +kernel) (fun _ h => h) (Nat.le_of_ble_eq_true rfl) (fun A H0 K ok => ?_)
  have L : ∀ k, k ≤ 1476 → AW g A H0 3 K 2 [some (.ref q1), some (.ref q2), some (.int (nI k))] [] (daW g q1 f ++ daW g q2 (cpR k f h)) 0 0 := by
    refine up_ind 1476 ?_ (fun k hk ih => ?_)
    · refine A_ext (ws2 := daW g q1 f ++ daW g q2 f) (weqs (weqc (ceq_i (fun j hj => by rw [cpR, if_pos hj])) weq0)) ?_
      refine A_iload_n ok.b rfl dX7_copy_2 (gps (gps gp0)) ?_
      refine A_sipush ok.b (v := 1476) dX7_copy_3 (by decide) ?_
      refine A_icmp_ge ok.b (tgt := 21) dX7_copy_6 (by decide) (fun c6 => ?_) (fun c6 => (c6 (by decide)).elim)
      refine A_vret ok dX7_copy_21 (Nat.le_of_ble_eq_true rfl) (Nat.le_of_ble_eq_true rfl) ?_
      exact ⟨rfl, rfl⟩
    · skip
      refine A_iload_n ok.b rfl dX7_copy_2 (gps (gps gp0)) ?_
      refine A_sipush ok.b (v := 1476) dX7_copy_3 (by decide) ?_
      refine A_icmp_ge ok.b (tgt := 21) dX7_copy_6 (by decide) (fun c6 => ((nI_ge (b := 1476) hk (by omega)) c6).elim) (fun c6 => ?_)
      refine A_aload_n ok.b rfl dX7_copy_9 (gps gp0) ?_
      refine A_iload_n ok.b rfl dX7_copy_10 (gps (gps gp0)) ?_
      refine A_aload_n ok.b rfl dX7_copy_11 gp0 ?_
      refine A_iload_n ok.b rfl dX7_copy_12 (gps (gps gp0)) ?_
      refine A_iald ok.b gp0 (ix_n hk (by decide)) dX7_copy_13 ?_
      refine A_iast ok.b (gps gp0) (ix_n hk (by decide)) (wps wp0) dX7_copy_14 ?_
      refine A_iinc ok.b (v := _ + 1) dX7_copy_15 (gps (gps gp0)) rfl (by decide) (sts (sts1 rfl st0)) ?_
      refine A_goto ok.b (tgt := 2) dX7_copy_18 (by decide) ?_
      refine A_ext (ws2 := daW g q1 f ++ daW g q2 (cpR (k + 1) f h)) (weqs (weqc (ceq_i (fun j hj => ?_)) weq0)) ?_
      · rw [upd_at]
        unfold cpR
        by_cases e : j = k
        · rw [if_pos e, if_pos (by omega), e]
        · rw [if_neg e]
          by_cases e2 : j < k
          · rw [if_pos e2, if_pos (by omega)]
          · rw [if_neg e2, if_neg (by omega)]
      rw [nI_1]
      exact ih
  refine A_iconst ok.b (v := 0) dX7_copy_0 (by decide) ?_
  refine A_istore_n ok.b rfl dX7_copy_1 (by decide) (sts (sts1 rfl st0)) ?_
  refine A_ext (ws2 := daW g q1 f ++ daW g q2 (cpR 0 f h)) (weqs (weqc (ceq_i (fun j hj => by rw [cpR, if_neg (Nat.not_lt_zero j)])) weq0)) ?_
  exact L 0 (Nat.zero_le _)
/-- how many cars of a lane among the first k -/
def laneR (d : Nat → Int32) (s w : Int32) : Nat → Int32
  | 0 => 0
  | k + 1 => laneR d s w k + (if d (96 + 4 * k) = s ∧ d (96 + 4 * k + 1) = w then 1 else 0)
def insR (d : Nat → Int32) : Nat → Int32
  | 0 => 0
  | k + 1 => insR d k + (if d (96 + 4 * k) < 0 then 0 else 1)
def flowRS (d : Nat → Int32) : Nat → Int32
  | 0 => d 5
  | k + 1 => flowRS d k + d (12 + 7 * k + 2)
def clR (x : Int32) : Int32 := if 100 < x then 100 else if x < -100 then -100 else x
def flowR (d : Nat → Int32) (n : Nat) : Int32 := clR (flowRS d n)
set_option maxRecDepth 20000 in
set_option maxHeartbeats 2000000 in
theorem r_lane (l : Launch) (g : Gl) (q : Nat) (d : Nat → Int32) (s0 w0 : Int32) (nc : Nat) (hnc : nc ≤ 20) (h2 : d 2 = nI nc) : Ct l g yX7_lane cX7_lane 5 (some .int) 1 40 0 0 [.ref q, .int s0, .int w0] (daW g q d) (fun v w => v = some (.int (laneR d s0 w0 nc)) ∧ w = daW g q d) noX := by
  refine Ct.intro [some (.ref q), some (.int s0), some (.int w0), none, none] (by decide +kernel) (fun _ h => h) (Nat.le_of_ble_eq_true rfl) (fun A H0 K ok => ?_)
  have L : ∀ k, k ≤ nc → AW g A H0 5 K 5 [some (.ref q), some (.int s0), some (.int w0), some (.int (laneR d s0 w0 k)), some (.int (nI k))] [] (daW g q d) 0 0 := by
    refine up_ind nc ?_ (fun k hk ih => ?_)
    · skip
      refine A_iload ok.b dX7_lane_5 (gps (gps (gps (gps gp0)))) ?_
      refine A_aload_n ok.b rfl dX7_lane_7 gp0 ?_
      refine A_iconst ok.b (v := 2) dX7_lane_8 (by decide) ?_
      refine A_iald ok.b gp0 (ix_n (j := 2) (by decide) (by decide)) dX7_lane_9 ?_
      rw [h2]
      refine A_icmp_ge ok.b (tgt := 51) dX7_lane_10 (by decide) (fun c10 => ?_) (fun c10 => (c10 (nI_le (Nat.le_refl _) (by omega))).elim)
      refine A_iload_n ok.b rfl dX7_lane_51 (gps (gps (gps gp0))) ?_
      refine A_iret ok dX7_lane_52 (Nat.le_of_ble_eq_true rfl) (Nat.le_of_ble_eq_true rfl) ?_
      exact ⟨rfl, rfl⟩
    · rw [laneR] at ih
      refine A_iload ok.b dX7_lane_5 (gps (gps (gps (gps gp0)))) ?_
      refine A_aload_n ok.b rfl dX7_lane_7 gp0 ?_
      refine A_iconst ok.b (v := 2) dX7_lane_8 (by decide) ?_
      refine A_iald ok.b gp0 (ix_n (j := 2) (by decide) (by decide)) dX7_lane_9 ?_
      rw [h2]
      refine A_icmp_ge ok.b (tgt := 51) dX7_lane_10 (by decide) (fun c10 => (nI_ge hk (by omega) c10).elim) (fun c10 => ?_)
      refine A_iload_n ok.b rfl dX7_lane_13 (gps (gps (gps gp0))) ?_
      refine A_aload_n ok.b rfl dX7_lane_14 gp0 ?_
      refine A_iload ok.b dX7_lane_15 (gps (gps (gps (gps gp0)))) ?_
      refine A_pureS ok.b (As := [_]) mf_X7_car ml_X7_162 rfl sc_X7_car (r_car l g _) rfl rfl dX7_lane_17 (Nat.le_of_ble_eq_true rfl) ⟨(Nat.le_of_ble_eq_true rfl), (Nat.le_of_ble_eq_true rfl)⟩ ⟨(Nat.le_of_ble_eq_true rfl), (Nat.le_of_ble_eq_true rfl)⟩ ?_
      rw [car_n (by omega)]
      refine A_iald ok.b gp0 (ix_n (by omega) (by decide)) dX7_lane_20 ?_
      refine A_iload_n ok.b rfl dX7_lane_21 (gps gp0) ?_
      refine A_icmp_ne ok.b (tgt := 42) dX7_lane_22 (by decide) (fun c22 => ?_) (fun c22 => ?_)
      · skip
        refine A_iconst ok.b (v := 0) dX7_lane_42 (by decide) ?_
        refine A_iadd ok.b dX7_lane_43 ?_
        refine A_istore_n ok.b rfl dX7_lane_44 (by decide) (sts (sts (sts1 rfl st0))) ?_
        refine A_iinc ok.b (v := _ + 1) dX7_lane_45 (gps (gps (gps (gps gp0)))) rfl (by decide) (sts (sts (sts (sts1 rfl st0)))) ?_
        refine A_goto ok.b (tgt := 5) dX7_lane_48 (by decide) ?_
        rw [if_neg (fun h => c22 h.1)] at ih
        rw [nI_1]
        exact ih
      · skip
        refine A_aload_n ok.b rfl dX7_lane_25 gp0 ?_
        refine A_iload ok.b dX7_lane_26 (gps (gps (gps (gps gp0)))) ?_
        refine A_pureS ok.b (As := [_]) mf_X7_car ml_X7_162 rfl sc_X7_car (r_car l g _) rfl rfl dX7_lane_28 (Nat.le_of_ble_eq_true rfl) ⟨(Nat.le_of_ble_eq_true rfl), (Nat.le_of_ble_eq_true rfl)⟩ ⟨(Nat.le_of_ble_eq_true rfl), (Nat.le_of_ble_eq_true rfl)⟩ ?_
        refine A_iconst ok.b (v := 1) dX7_lane_31 (by decide) ?_
        refine A_iadd ok.b dX7_lane_32 ?_
        rw [car_n (by omega), nI_1]
        refine A_iald ok.b gp0 (ix_n (by omega) (by decide)) dX7_lane_33 ?_
        refine A_iload_n ok.b rfl dX7_lane_34 (gps (gps gp0)) ?_
        refine A_icmp_ne ok.b (tgt := 42) dX7_lane_35 (by decide) (fun c35 => ?_) (fun c35 => ?_)
        · skip
          refine A_iconst ok.b (v := 0) dX7_lane_42 (by decide) ?_
          refine A_iadd ok.b dX7_lane_43 ?_
          refine A_istore_n ok.b rfl dX7_lane_44 (by decide) (sts (sts (sts1 rfl st0))) ?_
          refine A_iinc ok.b (v := _ + 1) dX7_lane_45 (gps (gps (gps (gps gp0)))) rfl (by decide) (sts (sts (sts (sts1 rfl st0)))) ?_
          refine A_goto ok.b (tgt := 5) dX7_lane_48 (by decide) ?_
          rw [if_neg (fun h => c35 h.2)] at ih
          rw [nI_1]
          exact ih
        · skip
          refine A_iconst ok.b (v := 1) dX7_lane_38 (by decide) ?_
          refine A_goto ok.b (tgt := 43) dX7_lane_39 (by decide) ?_
          refine A_iadd ok.b dX7_lane_43 ?_
          refine A_istore_n ok.b rfl dX7_lane_44 (by decide) (sts (sts (sts1 rfl st0))) ?_
          refine A_iinc ok.b (v := _ + 1) dX7_lane_45 (gps (gps (gps (gps gp0)))) rfl (by decide) (sts (sts (sts (sts1 rfl st0)))) ?_
          refine A_goto ok.b (tgt := 5) dX7_lane_48 (by decide) ?_
          rw [if_pos ⟨c22, c35⟩] at ih
          rw [nI_1]
          exact ih
  refine A_iconst ok.b (v := 0) dX7_lane_0 (by decide) ?_
  refine A_istore_n ok.b rfl dX7_lane_1 (by decide) (sts (sts (sts1 rfl st0))) ?_
  refine A_iconst ok.b (v := 0) dX7_lane_2 (by decide) ?_
  refine A_istore ok.b dX7_lane_3 (by decide) (sts (sts (sts (sts1 rfl st0)))) ?_
  exact L 0 (Nat.zero_le _)
set_option maxRecDepth 20000 in
set_option maxHeartbeats 2000000 in
theorem r_insideOf (l : Launch) (g : Gl) (q : Nat) (d : Nat → Int32) (nc : Nat) (hnc : nc ≤ 20) (h2 : d 2 = nI nc) : Ct l g yX7_insideOf cX7_insideOf 3 (some .int) 1 40 0 0 [.ref q] (daW g q d) (fun v w => v = some (.int (insR d nc)) ∧ w = daW g q d) noX := by
  refine Ct.intro [some (.ref q), none, none] (by decide +kernel) (fun _ h => h) (Nat.le_of_ble_eq_true rfl) (fun A H0 K ok => ?_)
  have L : ∀ k, k ≤ nc → AW g A H0 3 K 4 [some (.ref q), some (.int (insR d k)), some (.int (nI k))] [] (daW g q d) 0 0 := by
    refine up_ind nc ?_ (fun k hk ih => ?_)
    · skip
      refine A_iload_n ok.b rfl dX7_insideOf_4 (gps (gps gp0)) ?_
      refine A_aload_n ok.b rfl dX7_insideOf_5 gp0 ?_
      refine A_iconst ok.b (v := 2) dX7_insideOf_6 (by decide) ?_
      refine A_iald ok.b gp0 (ix_n (j := 2) (by decide) (by decide)) dX7_insideOf_7 ?_
      rw [h2]
      refine A_icmp_ge ok.b (tgt := 34) dX7_insideOf_8 (by decide) (fun c8 => ?_) (fun c8 => (c8 (nI_le (Nat.le_refl _) (by omega))).elim)
      refine A_iload_n ok.b rfl dX7_insideOf_34 (gps gp0) ?_
      refine A_iret ok dX7_insideOf_35 (Nat.le_of_ble_eq_true rfl) (Nat.le_of_ble_eq_true rfl) ?_
      exact ⟨rfl, rfl⟩
    · rw [insR] at ih
      refine A_iload_n ok.b rfl dX7_insideOf_4 (gps (gps gp0)) ?_
      refine A_aload_n ok.b rfl dX7_insideOf_5 gp0 ?_
      refine A_iconst ok.b (v := 2) dX7_insideOf_6 (by decide) ?_
      refine A_iald ok.b gp0 (ix_n (j := 2) (by decide) (by decide)) dX7_insideOf_7 ?_
      rw [h2]
      refine A_icmp_ge ok.b (tgt := 34) dX7_insideOf_8 (by decide) (fun c8 => (nI_ge hk (by omega) c8).elim) (fun c8 => ?_)
      refine A_iload_n ok.b rfl dX7_insideOf_11 (gps gp0) ?_
      refine A_aload_n ok.b rfl dX7_insideOf_12 gp0 ?_
      refine A_iload_n ok.b rfl dX7_insideOf_13 (gps (gps gp0)) ?_
      refine A_pureS ok.b (As := [_]) mf_X7_car ml_X7_162 rfl sc_X7_car (r_car l g _) rfl rfl dX7_insideOf_14 (Nat.le_of_ble_eq_true rfl) ⟨(Nat.le_of_ble_eq_true rfl), (Nat.le_of_ble_eq_true rfl)⟩ ⟨(Nat.le_of_ble_eq_true rfl), (Nat.le_of_ble_eq_true rfl)⟩ ?_
      rw [car_n (by omega)]
      refine A_iald ok.b gp0 (ix_n (by omega) (by decide)) dX7_insideOf_17 ?_
      refine A_if_lt ok.b (tgt := 25) dX7_insideOf_18 (by decide) (fun c18 => ?_) (fun c18 => ?_)
      · skip
        refine A_iconst ok.b (v := 0) dX7_insideOf_25 (by decide) ?_
        refine A_iadd ok.b dX7_insideOf_26 ?_
        refine A_istore_n ok.b rfl dX7_insideOf_27 (by decide) (sts1 rfl st0) ?_
        refine A_iinc ok.b (v := _ + 1) dX7_insideOf_28 (gps (gps gp0)) rfl (by decide) (sts (sts1 rfl st0)) ?_
        refine A_goto ok.b (tgt := 4) dX7_insideOf_31 (by decide) ?_
        rw [if_pos c18] at ih
        rw [nI_1]
        exact ih
      · skip
        refine A_iconst ok.b (v := 1) dX7_insideOf_21 (by decide) ?_
        refine A_goto ok.b (tgt := 26) dX7_insideOf_22 (by decide) ?_
        refine A_iadd ok.b dX7_insideOf_26 ?_
        refine A_istore_n ok.b rfl dX7_insideOf_27 (by decide) (sts1 rfl st0) ?_
        refine A_iinc ok.b (v := _ + 1) dX7_insideOf_28 (gps (gps gp0)) rfl (by decide) (sts (sts1 rfl st0)) ?_
        refine A_goto ok.b (tgt := 4) dX7_insideOf_31 (by decide) ?_
        rw [if_neg c18] at ih
        rw [nI_1]
        exact ih
  refine A_iconst ok.b (v := 0) dX7_insideOf_0 (by decide) ?_
  refine A_istore_n ok.b rfl dX7_insideOf_1 (by decide) (sts1 rfl st0) ?_
  refine A_iconst ok.b (v := 0) dX7_insideOf_2 (by decide) ?_
  refine A_istore_n ok.b rfl dX7_insideOf_3 (by decide) (sts (sts1 rfl st0)) ?_
  exact L 0 (Nat.zero_le _)
set_option maxRecDepth 20000 in
set_option maxHeartbeats 2000000 in
theorem r_flowOf (l : Launch) (g : Gl) (q : Nat) (d : Nat → Int32) (n : Nat) (hn : n ≤ 12) (h0 : d 0 = nI n) : Ct l g yX7_flowOf cX7_flowOf 3 (some .int) 1 40 0 0 [.ref q] (daW g q d) (fun v w => v = some (.int (flowR d n)) ∧ w = daW g q d) noX := by
  refine Ct.intro [some (.ref q), none, none] (by decide +kernel) (fun _ h => h) (Nat.le_of_ble_eq_true rfl) (fun A H0 K ok => ?_)
  have L : ∀ k, k ≤ n → AW g A H0 3 K 6 [some (.ref q), some (.int (flowRS d k)), some (.int (nI k))] [] (daW g q d) 0 0 := by
    refine up_ind n ?_ (fun k hk ih => ?_)
    · skip
      refine A_iload_n ok.b rfl dX7_flowOf_6 (gps (gps gp0)) ?_
      refine A_aload_n ok.b rfl dX7_flowOf_7 gp0 ?_
      refine A_iconst ok.b (v := 0) dX7_flowOf_8 (by decide) ?_
      refine A_iald ok.b gp0 (ix_n (j := 0) (by decide) (by decide)) dX7_flowOf_9 ?_
      rw [h0]
      refine A_icmp_ge ok.b (tgt := 30) dX7_flowOf_10 (by decide) (fun c10 => ?_) (fun c10 => (c10 (nI_le (Nat.le_refl _) (by omega))).elim)
      refine A_iload_n ok.b rfl dX7_flowOf_30 (gps gp0) ?_
      refine A_bipush ok.b (v := 100) dX7_flowOf_31 (by decide) ?_
      refine A_icmp_le ok.b (tgt := 41) dX7_flowOf_33 (by decide) (fun c33 => ?_) (fun c33 => ?_)
      · skip
        refine A_iload_n ok.b rfl dX7_flowOf_41 (gps gp0) ?_
        refine A_bipush ok.b (v := (-100)) dX7_flowOf_42 (by decide) ?_
        refine A_icmp_ge ok.b (tgt := 52) dX7_flowOf_44 (by decide) (fun c44 => ?_) (fun c44 => ?_)
        · skip
          refine A_iload_n ok.b rfl dX7_flowOf_52 (gps gp0) ?_
          refine A_iret ok dX7_flowOf_53 (Nat.le_of_ble_eq_true rfl) (Nat.le_of_ble_eq_true rfl) ?_
          exact ⟨by rw [flowR, clR, if_neg (Int32.not_lt.mpr c33), if_neg (Int32.not_lt.mpr c44)], rfl⟩
        · skip
          refine A_bipush ok.b (v := (-100)) dX7_flowOf_47 (by decide) ?_
          refine A_goto ok.b (tgt := 53) dX7_flowOf_49 (by decide) ?_
          refine A_iret ok dX7_flowOf_53 (Nat.le_of_ble_eq_true rfl) (Nat.le_of_ble_eq_true rfl) ?_
          exact ⟨by rw [flowR, clR, if_neg (Int32.not_lt.mpr c33), if_pos (Int32.not_le.mp c44)], rfl⟩
      · skip
        refine A_bipush ok.b (v := 100) dX7_flowOf_36 (by decide) ?_
        refine A_goto ok.b (tgt := 53) dX7_flowOf_38 (by decide) ?_
        refine A_iret ok dX7_flowOf_53 (Nat.le_of_ble_eq_true rfl) (Nat.le_of_ble_eq_true rfl) ?_
        exact ⟨by rw [flowR, clR, if_pos (Int32.not_le.mp c33)], rfl⟩
    · rw [flowRS] at ih
      refine A_iload_n ok.b rfl dX7_flowOf_6 (gps (gps gp0)) ?_
      refine A_aload_n ok.b rfl dX7_flowOf_7 gp0 ?_
      refine A_iconst ok.b (v := 0) dX7_flowOf_8 (by decide) ?_
      refine A_iald ok.b gp0 (ix_n (j := 0) (by decide) (by decide)) dX7_flowOf_9 ?_
      rw [h0]
      refine A_icmp_ge ok.b (tgt := 30) dX7_flowOf_10 (by decide) (fun c10 => (nI_ge hk (by omega) c10).elim) (fun c10 => ?_)
      refine A_iload_n ok.b rfl dX7_flowOf_13 (gps gp0) ?_
      refine A_aload_n ok.b rfl dX7_flowOf_14 gp0 ?_
      refine A_iload_n ok.b rfl dX7_flowOf_15 (gps (gps gp0)) ?_
      refine A_pureS ok.b (As := [_]) mf_X7_section ml_X7_143 rfl sc_X7_section (r_section l g _) rfl rfl dX7_flowOf_16 (Nat.le_of_ble_eq_true rfl) ⟨(Nat.le_of_ble_eq_true rfl), (Nat.le_of_ble_eq_true rfl)⟩ ⟨(Nat.le_of_ble_eq_true rfl), (Nat.le_of_ble_eq_true rfl)⟩ ?_
      refine A_iconst ok.b (v := 2) dX7_flowOf_19 (by decide) ?_
      refine A_iadd ok.b dX7_flowOf_20 ?_
      rw [sec_n (by omega), show nI (12 + 7 * k) + 2 = nI (12 + 7 * k + 2) from nI_add _ 2]
      refine A_iald ok.b gp0 (ix_n (by omega) (by decide)) dX7_flowOf_21 ?_
      refine A_iadd ok.b dX7_flowOf_22 ?_
      refine A_istore_n ok.b rfl dX7_flowOf_23 (by decide) (sts1 rfl st0) ?_
      refine A_iinc ok.b (v := _ + 1) dX7_flowOf_24 (gps (gps gp0)) rfl (by decide) (sts (sts1 rfl st0)) ?_
      refine A_goto ok.b (tgt := 6) dX7_flowOf_27 (by decide) ?_
      rw [nI_1]
      exact ih
  refine A_aload_n ok.b rfl dX7_flowOf_0 gp0 ?_
  refine A_iconst ok.b (v := 5) dX7_flowOf_1 (by decide) ?_
  refine A_iald ok.b gp0 (ix_n (j := 5) (by decide) (by decide)) dX7_flowOf_2 ?_
  refine A_istore_n ok.b rfl dX7_flowOf_3 (by decide) (sts1 rfl st0) ?_
  refine A_iconst ok.b (v := 0) dX7_flowOf_4 (by decide) ?_
  refine A_istore_n ok.b rfl dX7_flowOf_5 (by decide) (sts (sts1 rfl st0)) ?_
  exact L 0 (Nat.zero_le _)
