def runX (T : TD) (P : PD) (x : Int32) : Option String := if x < 1 ∨ 100 < x then some IAE else if nI (pN P) = 0 then some ISE else if 10000 < tClock T + x then some ISE else none
def ticksF (T : TD) (P : PD) (k : Nat) : TD × PD := foldN (fun _ S => tick2 S) (T, P) k
theorem TOK_ticks {T : TD} {P : PD} (h : TOK (T, P)) (k : Nat) : TOK (ticksF T P k) := foldN_inv (fun S => TOK S) (fun _ S => tick2 S) (T, P) h (fun _ _ hS => TOK_tick hS) k
theorem run_n {x : Int32} (h0 : ¬ x < 1) (h1 : ¬ 100 < x) : ∃ n, n ≤ 100 ∧ x = nI n := by
  obtain ⟨n, h2, h3⟩ := inn_of (x := x) (n := 101) (by decide) (fun h => h0 (Int32.lt_iff_toInt_lt.mpr (by have := Int32.lt_iff_toInt_lt.mp h; exact Int.lt_trans this (by decide)))) (fun h => h1 (Int32.lt_iff_toInt_lt.mpr (by have h1 := Int32.le_iff_toInt_le.mp h; exact Int.lt_of_lt_of_le (by decide) h1)))
  exact ⟨n, by omega, h3⟩

set_option maxRecDepth 20000 in
set_option maxHeartbeats 2000000 in
theorem c_run (l : Launch) (g : Gl) (k rd h0 tr : Nat) (eo : Int32) (a b : Nat → Nat) (T : TD) (P : PD) (hn : pN P ≤ 12) (hc : pCar P ≤ 20) (hl0 : l.stackTraces = false) (hrd : ∀ j, j < 24 → tRed T j = 0 ∨ tRed T j = 1) (h1 : Nat) (cnt nx : Nat) (sa : Nat → Nat) (a2 : Nat → Nat) (p2 : Nat) (T2 : TD) (hcnt : cnt ≤ 8) (hnx : nx < 8) (hsa : sa nx = a2 0) (hok : TOK (T, P)) (x0 : Int32) : Ct l g yX6_run cX6_run 4 (some .int) 7 480 3 18 [.ref k, .int x0] (dkW g k rd h0 tr eo a b (T) (P) ++ (hsW g h0 h1 (cnt) (nx) sa ++ tunW g a2 (p2) (T2))) (fun v w => (runX T P x0) = none ∧ v = some (.int (tIns T - tIns (ticksF T P x0.toNatClampNeg).1)) ∧ w = (dkW g k rd h0 tr eo a b ((ticksF T P x0.toNatClampNeg).1) ((ticksF T P x0.toNatClampNeg).2) ++ (hsW g h0 h1 (cntS cnt) ((nx + 1) % 8) sa ++ tunW g a2 (b 0) (T)))) (XX (dkW g k rd h0 tr eo a b (T) (P) ++ (hsW g h0 h1 (cnt) (nx) sa ++ tunW g a2 (p2) (T2))) ((runX T P x0))) := by
  refine Ct.intro [some (.ref k), some (.int x0), none, none] (by decide +kernel) (fun _ h => h) (Nat.le_of_ble_eq_true rfl) (fun A H0 K ok => ?_)
  refine A_iload_n ok.b rfl dX6_run_0 (gps gp0) ?_
  refine A_iconst ok.b (v := 1) dX6_run_1 (by decide) ?_
  refine A_icmp_lt ok.b (tgt := 11) dX6_run_2 (by decide) (fun c2 => ?_) (fun c2 => ?_)
  · skip
    refine A_throw2 ok hl0 (names := nmsX) (ik := 55) (is := 199) (ic := 59) (by decide +kernel) (by decide +kernel) xk_55 xi_IAE (List.mem_of_getElem? (i := 5) rfl) xa_59 cc_IAE dX6_run_11 dX6_run_14 dX6_run_15 dX6_run_17 dX6_run_20 (Nat.le_of_ble_eq_true rfl) (Nat.le_of_ble_eq_true rfl) (Nat.le_of_ble_eq_true rfl) (Nat.le_of_ble_eq_true rfl) ?_
    exact ⟨by rw [runX, if_pos (Or.inl c2)], List.Perm.refl _⟩
  · skip
    refine A_iload_n ok.b rfl dX6_run_5 (gps gp0) ?_
    refine A_bipush ok.b (v := 100) dX6_run_6 (by decide) ?_
    refine A_icmp_le ok.b (tgt := 21) dX6_run_8 (by decide) (fun c8 => ?_) (fun c8 => ?_)
    · skip
      have o1 : ¬ (x0 < 1 ∨ 100 < x0) := fun h => h.elim c2 (Int32.not_lt.mpr c8)
      refine A_aload_n ok.b rfl dX6_run_21 gp0 ?_
      refine A_getf ok.b cf6 2 (by decide) fl_X6_31 gp0 (gps (gps gp0)) dX6_run_22 ?_
      refine A_getf ok.b cf5 0 (by decide) fl_X6_82 (gps gp0) gp0 dX6_run_25 ?_
      refine A_getf ok.b cf2 0 (by decide) fl_X6_89 (gps (gps (gps (gps (gps (gps (gps (gps (gps (gps gp0)))))))))) gp0 dX6_run_28 ?_
      refine A_if_ne ok.b (tgt := 44) dX6_run_31 (by decide) (fun c31 => ?_) (fun c31 => ?_)
      · skip
        refine A_aload_n ok.b rfl dX6_run_44 gp0 ?_
        refine A_getf ok.b cf6 2 (by decide) fl_X6_31 gp0 (gps (gps gp0)) dX6_run_45 ?_
        refine A_getf ok.b cf5 1 (by decide) fl_X6_92 (gps gp0) (gps gp0) dX6_run_48 ?_
        refine A_iload_n ok.b rfl dX6_run_51 (gps gp0) ?_
        refine A_iadd ok.b dX6_run_52 ?_
        refine A_sipush ok.b (v := 10000) dX6_run_53 (by decide) ?_
        refine A_icmp_le ok.b (tgt := 69) dX6_run_56 (by decide) (fun c56 => ?_) (fun c56 => ?_)
        · skip
          have o2 : runX T P x0 = none := by rw [runX, if_neg o1, if_neg c31, if_neg (Int32.not_lt.mpr c56)]
          obtain ⟨n0, hn0, rfl⟩ := run_n c2 (Int32.not_lt.mpr c8)
          refine A_aload_n ok.b rfl dX6_run_69 gp0 ?_
          refine A_getf ok.b cf6 1 (by decide) fl_X6_24 gp0 (gps gp0) dX6_run_70 ?_
          refine A_aload_n ok.b rfl dX6_run_73 gp0 ?_
          refine A_getf ok.b cf6 2 (by decide) fl_X6_31 gp0 (gps (gps gp0)) dX6_run_74 ?_
          refine A_callVR ok [16, 17, 18, 19, 20, 21, 22, 23, 24, 25, 26, 1, 2, 3, 4, 5, 6, 7, 8, 9] [0, 10, 11, 12, 13, 14, 15] (As := [_]) (wr := ([(k, .inr (6, [.ref rd, .ref h0, .ref (a 0), .ref tr, .int eo]))] : va_W) ++ planW g b P) mf_X0_save ml_X6_72 in_X0_save se_X0_save cf0 (gps (gps (gps (gps (gps (gps (gps (gps (gps (gps (gps (gps (gps (gps (gps (gps gp0)))))))))))))))) (c_save l g h0 h1 cnt nx sa a2 p2 T2 hcnt hnx hsa a (b 0) T hrd) rfl rfl rfl dX6_run_77 rfl rfl rfl (by decide) (Nat.le_of_ble_eq_true rfl) ⟨(Nat.le_of_ble_eq_true rfl), (Nat.le_of_ble_eq_true rfl)⟩ ⟨(Nat.le_of_ble_eq_true rfl), (Nat.le_of_ble_eq_true rfl)⟩ (fun _ _ hx => hx.elim) (fun v77 w77 q77 => ?_)
          obtain ⟨rfl, rfl⟩ := q77
          refine A_sub [0, 18, 19, 20, 21, 22, 23, 24, 25, 26, 1, 2, 3, 4, 5, 6, 7, 8, 9, 10, 11, 12, 13, 14, 15, 16, 17] (ws2 := (dkW g k rd h0 tr eo a b (T) (P) ++ (hsW g h0 h1 (cntS cnt) ((nx + 1) % 8) sa ++ tunW g a2 (b 0) (T)))) rfl rfl ?_
          refine A_aload_n ok.b rfl dX6_run_80 gp0 ?_
          refine A_getf ok.b cf6 2 (by decide) fl_X6_31 gp0 (gps (gps gp0)) dX6_run_81 ?_
          refine A_getf ok.b cf5 3 (by decide) fl_X6_161 (gps gp0) (gps (gps (gps gp0))) dX6_run_84 ?_
          refine A_istore_n ok.b rfl dX6_run_87 (by decide) (sts (sts1 rfl st0)) ?_
          refine A_iconst ok.b (v := 0) dX6_run_88 (by decide) ?_
          refine A_istore_n ok.b rfl dX6_run_89 (by decide) (sts (sts (sts1 rfl st0))) ?_
          have L : ∀ j, j ≤ n0 → AW g A H0 4 K 90 [some (.ref k), some (.int (nI n0)), some (.int (tIns T)), some (.int (nI j))] [] (dkW g k rd h0 tr eo a b ((ticksF T P j).1) ((ticksF T P j).2) ++ (hsW g h0 h1 (cntS cnt) ((nx + 1) % 8) sa ++ tunW g a2 (b 0) (T))) 0 0 := by
            refine up_ind n0 ?_ (fun j hj ih => ?_)
            · skip
              refine A_iload_n ok.b rfl dX6_run_90 (gps (gps (gps gp0))) ?_
              refine A_iload_n ok.b rfl dX6_run_91 (gps gp0) ?_
              refine A_icmp_ge ok.b (tgt := 108) dX6_run_92 (by decide) (fun c92 => ?_) (fun c92 => (c92 (nI_le (Nat.le_refl _) (by omega))).elim)
              refine A_iload_n ok.b rfl dX6_run_108 (gps (gps gp0)) ?_
              refine A_aload_n ok.b rfl dX6_run_109 gp0 ?_
              refine A_getf ok.b cf6 2 (by decide) fl_X6_31 gp0 (gps (gps gp0)) dX6_run_110 ?_
              refine A_getf ok.b cf5 3 (by decide) fl_X6_161 (gps gp0) (gps (gps (gps gp0))) dX6_run_113 ?_
              refine A_isub ok.b dX6_run_116 ?_
              refine A_iret ok dX6_run_117 (Nat.le_of_ble_eq_true rfl) (Nat.le_of_ble_eq_true rfl) ?_
              exact ⟨o2, by rw [nI_clamp (by omega)], by rw [nI_clamp (by omega)]⟩
            · have hT := TOK_ticks hok j
              have e1 : ticksF T P (j + 1) = tick2 (ticksF T P j) := rfl
              rw [e1] at ih
              generalize ticksF T P j = S at hT ih ⊢
              refine A_iload_n ok.b rfl dX6_run_90 (gps (gps (gps gp0))) ?_
              refine A_iload_n ok.b rfl dX6_run_91 (gps gp0) ?_
              refine A_icmp_ge ok.b (tgt := 108) dX6_run_92 (by decide) (fun c92 => (nI_ge hj (by omega) c92).elim) (fun c92 => ?_)
              refine A_aload_n ok.b rfl dX6_run_95 gp0 ?_
              refine A_getf ok.b cf6 2 (by decide) fl_X6_31 gp0 (gps (gps gp0)) dX6_run_96 ?_
              refine A_callVR ok [1, 2, 3, 4, 5, 6, 7, 8, 9, 10, 11, 12, 13, 14, 15] [0, 16, 17, 18, 19, 20, 21, 22, 23, 24, 25, 26] (As := []) (wr := ([(k, .inr (6, [.ref rd, .ref h0, .ref (a 0), .ref tr, .int eo]))] : va_W) ++ (hsW g h0 h1 (cntS cnt) ((nx + 1) % 8) sa ++ tunW g a2 (b 0) T)) mf_X5_tick ml_X6_208 in_X5_tick se_X5_tick cf5 (gps gp0) (c_tick l g a b S.1 S.2 hT.1 hT.2.1 hT.2.2.1 hT.2.2.2.1 hT.2.2.2.2) rfl rfl rfl dX6_run_99 rfl rfl rfl (by decide) (Nat.le_of_ble_eq_true rfl) ⟨(Nat.le_of_ble_eq_true rfl), (Nat.le_of_ble_eq_true rfl)⟩ ⟨(Nat.le_of_ble_eq_true rfl), (Nat.le_of_ble_eq_true rfl)⟩ (fun _ _ hx => hx.elim) (fun v99 w99 q99 => ?_)
              obtain ⟨rfl, rfl⟩ := q99
              refine A_sub [0, 12, 13, 14, 15, 16, 17, 18, 19, 20, 21, 22, 23, 24, 25, 26, 1, 2, 3, 4, 5, 6, 7, 8, 9, 10, 11] (ws2 := (dkW g k rd h0 tr eo a b (tickF S.2 S.1) (rateP S.1 S.2) ++ (hsW g h0 h1 (cntS cnt) ((nx + 1) % 8) sa ++ tunW g a2 (b 0) (T)))) rfl rfl ?_
              refine A_iinc ok.b (v := _ + 1) dX6_run_102 (gps (gps (gps gp0))) rfl (by decide) (sts (sts (sts1 rfl st0))) ?_
              refine A_goto ok.b (tgt := 90) dX6_run_105 (by decide) ?_
              rw [nI_1]
              exact ih
          exact L 0 (Nat.zero_le _)
        · skip
          refine A_throw2 ok hl0 (names := nmsX) (ik := 201) (is := 206) (ic := 205) (by decide +kernel) (by decide +kernel) xk_201 xi_ISE (List.mem_of_getElem? (i := 7) rfl) xa_205 cc_ISE dX6_run_59 dX6_run_62 dX6_run_63 dX6_run_65 dX6_run_68 (Nat.le_of_ble_eq_true rfl) (Nat.le_of_ble_eq_true rfl) (Nat.le_of_ble_eq_true rfl) (Nat.le_of_ble_eq_true rfl) ?_
          exact ⟨by rw [runX, if_neg o1, if_neg c31, if_pos (Int32.not_le.mp c56)], List.Perm.refl _⟩
      · skip
        refine A_throw2 ok hl0 (names := nmsX) (ik := 201) (is := 203) (ic := 205) (by decide +kernel) (by decide +kernel) xk_201 xi_ISE (List.mem_of_getElem? (i := 6) rfl) xa_205 cc_ISE dX6_run_34 dX6_run_37 dX6_run_38 dX6_run_40 dX6_run_43 (Nat.le_of_ble_eq_true rfl) (Nat.le_of_ble_eq_true rfl) (Nat.le_of_ble_eq_true rfl) (Nat.le_of_ble_eq_true rfl) ?_
        exact ⟨by rw [runX, if_neg o1, if_pos c31], List.Perm.refl _⟩
    · skip
      refine A_throw2 ok hl0 (names := nmsX) (ik := 55) (is := 199) (ic := 59) (by decide +kernel) (by decide +kernel) xk_55 xi_IAE (List.mem_of_getElem? (i := 5) rfl) xa_59 cc_IAE dX6_run_11 dX6_run_14 dX6_run_15 dX6_run_17 dX6_run_20 (Nat.le_of_ble_eq_true rfl) (Nat.le_of_ble_eq_true rfl) (Nat.le_of_ble_eq_true rfl) (Nat.le_of_ble_eq_true rfl) ?_
      exact ⟨by rw [runX, if_pos (Or.inr (Int32.not_le.mp c8))], List.Perm.refl _⟩
set_option maxRecDepth 20000 in
set_option maxHeartbeats 2000000 in
theorem c_undo0 (l : Launch) (g : Gl) (k rd h0 tr : Nat) (eo : Int32) (a b : Nat → Nat) (T : TD) (P : PD) (hn : pN P ≤ 12) (hc : pCar P ≤ 20) (hl0 : l.stackTraces = false) (h1 : Nat) (cnt nx : Nat) (sa : Nat → Nat) (a2 : Nat → Nat) (p2 : Nat) (T2 : TD) (hcnt : cnt ≤ 8) (hnx : nx < 8) (hsa : sa ((nx + 7) % 8) = a2 0) (hrd : ∀ j, j < 24 → tRed T2 j = 0 ∨ tRed T2 j = 1) (hc0 : cnt = 0) : Ct l g yX6_undo cX6_undo 1 (some .int) 3 240 0 0 [.ref k] (dkW g k rd h0 tr eo a b (T) (P) ++ (hsW g h0 h1 (cnt) (nx) sa ++ tunW g a2 (p2) (T2))) (fun v w => v = some (.int (-1)) ∧ w = (dkW g k rd h0 tr eo a b (T) (P) ++ (hsW g h0 h1 (cnt) (nx) sa ++ tunW g a2 (p2) (T2)))) noX := by
  refine Ct.intro [some (.ref k)] (by decide +kernel) (fun _ h => h) (Nat.le_of_ble_eq_true rfl) (fun A H0 K ok => ?_)
  refine A_aload_n ok.b rfl dX6_undo_0 gp0 ?_
  refine A_getf ok.b cf6 1 (by decide) fl_X6_24 gp0 (gps gp0) dX6_undo_1 ?_
  refine A_getf ok.b cf0 0 (by decide) fl_X6_213 (gps (gps (gps (gps (gps (gps (gps (gps (gps (gps (gps (gps (gps (gps (gps (gps gp0)))))))))))))))) gp0 dX6_undo_4 ?_
  refine A_if_ne ok.b (tgt := 12) dX6_undo_7 (by decide) (fun c7 => (c7 (by rw [hc0]; rfl)).elim) (fun c7 => ?_)
  refine A_iconst ok.b (v := (-1)) dX6_undo_10 (by decide) ?_
  refine A_iret ok dX6_undo_11 (Nat.le_of_ble_eq_true rfl) (Nat.le_of_ble_eq_true rfl) ?_
  exact ⟨rfl, rfl⟩
set_option maxRecDepth 20000 in
set_option maxHeartbeats 2000000 in
theorem c_undoS (l : Launch) (g : Gl) (k rd h0 tr : Nat) (eo : Int32) (a b : Nat → Nat) (T : TD) (P : PD) (hn : pN P ≤ 12) (hc : pCar P ≤ 20) (hl0 : l.stackTraces = false) (h1 : Nat) (cnt nx : Nat) (sa : Nat → Nat) (a2 : Nat → Nat) (p2 : Nat) (T2 : TD) (hcnt : cnt ≤ 8) (hnx : nx < 8) (hsa : sa ((nx + 7) % 8) = a2 0) (hrd : ∀ j, j < 24 → tRed T2 j = 0 ∨ tRed T2 j = 1) (hc0 : ¬ cnt = 0) : Ct l g yX6_undo cX6_undo 1 (some .int) 3 240 0 0 [.ref k] (dkW g k rd h0 tr eo a b (T) (P) ++ (hsW g h0 h1 (cnt) (nx) sa ++ tunW g a2 (p2) (T2))) (fun v w => v = some (.int (nI (cnt - 1))) ∧ w = ([(k, .inr (6, [.ref rd, .ref h0, .ref (a 0), .ref tr, .int eo]))] ++ (tunW g a p2 T2 ++ (planW g b P ++ (hsW g h0 h1 (cnt - 1) ((nx + 7) % 8) sa ++ tunW g a2 p2 T2))) : va_W)) noX := by
  refine Ct.intro [some (.ref k)] (by decide +kernel) (fun _ h => h) (Nat.le_of_ble_eq_true rfl) (fun A H0 K ok => ?_)
  refine A_aload_n ok.b rfl dX6_undo_0 gp0 ?_
  refine A_getf ok.b cf6 1 (by decide) fl_X6_24 gp0 (gps gp0) dX6_undo_1 ?_
  refine A_getf ok.b cf0 0 (by decide) fl_X6_213 (gps (gps (gps (gps (gps (gps (gps (gps (gps (gps (gps (gps (gps (gps (gps (gps gp0)))))))))))))))) gp0 dX6_undo_4 ?_
  refine A_if_ne ok.b (tgt := 12) dX6_undo_7 (by decide) (fun c7 => ?_) (fun c7 => (hc0 ((nI_eq (a := cnt) (b := 0) (by omega) (by decide)).mp c7)).elim)
  refine A_aload_n ok.b rfl dX6_undo_12 gp0 ?_
  refine A_getf ok.b cf6 1 (by decide) fl_X6_24 gp0 (gps gp0) dX6_undo_13 ?_
  refine A_aload_n ok.b rfl dX6_undo_16 gp0 ?_
  refine A_getf ok.b cf6 2 (by decide) fl_X6_31 gp0 (gps (gps gp0)) dX6_undo_17 ?_
  refine A_callVR ok [16, 17, 18, 19, 20, 21, 22, 23, 24, 25, 26, 1, 2, 3, 4, 5, 6, 7, 8, 9] [0, 10, 11, 12, 13, 14, 15] (As := [_]) (wr := ([(k, .inr (6, [.ref rd, .ref h0, .ref (a 0), .ref tr, .int eo]))] : va_W) ++ planW g b P) mf_X0_restore ml_X6_216 in_X0_restore se_X0_restore cf0 (gps (gps (gps (gps (gps (gps (gps (gps (gps (gps (gps (gps (gps (gps (gps (gps gp0)))))))))))))))) (c_restore l g h0 h1 cnt nx sa a2 p2 T2 hcnt hnx hc0 hsa a (b 0) T hrd) rfl rfl rfl dX6_undo_20 rfl rfl rfl (by decide) (Nat.le_of_ble_eq_true rfl) ⟨(Nat.le_of_ble_eq_true rfl), (Nat.le_of_ble_eq_true rfl)⟩ ⟨(Nat.le_of_ble_eq_true rfl), (Nat.le_of_ble_eq_true rfl)⟩ (fun _ _ hx => hx.elim) (fun v20 w20 q20 => ?_)
  obtain ⟨rfl, rfl⟩ := q20
  refine A_sub [0, 18, 19, 20, 21, 22, 23, 24, 25, 26, 1, 2, 3, 4, 5, 6, 7, 8, 9, 10, 11, 12, 13, 14, 15, 16, 17] (ws2 := ([(k, .inr (6, [.ref rd, .ref h0, .ref (a 0), .ref tr, .int eo]))] ++ (tunW g a p2 T2 ++ (planW g b P ++ (hsW g h0 h1 (cnt - 1) ((nx + 7) % 8) sa ++ tunW g a2 p2 T2))) : va_W)) rfl rfl ?_
  refine A_aload_n ok.b rfl dX6_undo_23 gp0 ?_
  refine A_getf ok.b cf6 1 (by decide) fl_X6_24 gp0 (gps gp0) dX6_undo_24 ?_
  refine A_getf ok.b cf0 0 (by decide) fl_X6_213 (gps (gps (gps (gps (gps (gps (gps (gps (gps (gps (gps (gps (gps (gps (gps (gps gp0)))))))))))))))) gp0 dX6_undo_27 ?_
  refine A_iret ok dX6_undo_30 (Nat.le_of_ble_eq_true rfl) (Nat.le_of_ble_eq_true rfl) ?_
  exact ⟨rfl, rfl⟩
def chkS (T : TD) (k : Nat) (s : Int64) : Int64 := 31 * (31 * s + tSmoke T k) + (tBay T k).toInt64
def chkC (T : TD) (k : Nat) (s : Int64) : Int64 := 31 * (31 * (31 * s + (tCs T k).toInt64) + (tCd T k).toInt64) + tEx T k
def chk0 (T : TD) : Int64 := 31 * (tClock T).toInt64 + (tFire T).toInt64
def chkF (T : TD) (P : PD) : Int64 := if nI (pN P) = 0 then 0 else 31 * foldN (chkC T) (foldN (chkS T) (chk0 T) (pN P)) (pCar P) + (flowF T P).toInt64
set_option maxRecDepth 20000 in
set_option maxHeartbeats 2000000 in
theorem c_checksum (l : Launch) (g : Gl) (k rd hs tr : Nat) (eo : Int32) (a b : Nat → Nat) (T : TD) (P : PD) (hn : pN P ≤ 12) (hc : pCar P ≤ 20) (hl0 : l.stackTraces = false) : Ct l g yX6_checksum cX6_checksum 4 (some .long) 2 120 0 0 [.ref k] (dkW g k rd hs tr eo a b T P) (fun v w => v = some (.long (chkF T P)) ∧ w = (dkW g k rd hs tr eo a b T P)) noX := by
  refine Ct.intro [some (.ref k), none, none, none] (by decide +kernel) (fun _ h => h) (Nat.le_of_ble_eq_true rfl) (fun A H0 K ok => ?_)
  refine A_aload_n ok.b rfl dX6_checksum_0 gp0 ?_
  refine A_getf ok.b cf6 2 (by decide) fl_X6_31 gp0 (gps (gps gp0)) dX6_checksum_1 ?_
  refine A_getf ok.b cf5 0 (by decide) fl_X6_82 (gps gp0) gp0 dX6_checksum_4 ?_
  refine A_getf ok.b cf2 0 (by decide) fl_X6_89 (gps (gps (gps (gps (gps (gps (gps (gps (gps (gps gp0)))))))))) gp0 dX6_checksum_7 ?_
  refine A_if_ne ok.b (tgt := 15) dX6_checksum_10 (by decide) (fun c10 => ?_) (fun c10 => ?_)
  · skip
    refine A_aload_n ok.b rfl dX6_checksum_15 gp0 ?_
    refine A_getf ok.b cf6 2 (by decide) fl_X6_31 gp0 (gps (gps gp0)) dX6_checksum_16 ?_
    refine A_getf ok.b cf5 1 (by decide) fl_X6_92 (gps gp0) (gps gp0) dX6_checksum_19 ?_
    refine A_i2l ok.b dX6_checksum_22 ?_
    refine A_lstore_n ok.b rfl dX6_checksum_23 (by decide) (sts1 rfl st0w) ?_
    refine A_ldc2 ok.b dX6_checksum_24 kl_X6_219 ?_
    refine A_lload_n ok.b rfl dX6_checksum_27 (gps gp0) ?_
    refine A_lmul ok.b dX6_checksum_28 ?_
    refine A_aload_n ok.b rfl dX6_checksum_29 gp0 ?_
    refine A_getf ok.b cf6 2 (by decide) fl_X6_31 gp0 (gps (gps gp0)) dX6_checksum_30 ?_
    refine A_getf ok.b cf5 2 (by decide) fl_X6_102 (gps gp0) (gps (gps gp0)) dX6_checksum_33 ?_
    refine A_i2l ok.b dX6_checksum_36 ?_
    refine A_ladd ok.b dX6_checksum_37 ?_
    refine A_lstore_n ok.b rfl dX6_checksum_38 (by decide) (sts1 rfl st0w) ?_
    refine A_iconst ok.b (v := 0) dX6_checksum_39 (by decide) ?_
    refine A_istore_n ok.b rfl dX6_checksum_40 (by decide) (sts (sts (sts1n st0))) ?_
    have L2 : ∀ j, j ≤ pCar P → AW g A H0 4 K 96 [some (.ref k), some (.long (foldN (chkC T) (foldN (chkS T) (chk0 T) (pN P)) j)), none, some (.int (nI j))] [] (dkW g k rd hs tr eo a b T P) 0 0 := by
      refine up_ind (pCar P) ?_ (fun j hj ih => ?_)
      · skip
        refine A_iload_n ok.b rfl dX6_checksum_96 (gps (gps (gps gp0))) ?_
        refine A_aload_n ok.b rfl dX6_checksum_97 gp0 ?_
        refine A_getf ok.b cf6 2 (by decide) fl_X6_31 gp0 (gps (gps gp0)) dX6_checksum_98 ?_
        refine A_getf ok.b cf5 0 (by decide) fl_X6_82 (gps gp0) gp0 dX6_checksum_101 ?_
        refine A_getf ok.b cf2 3 (by decide) fl_X6_86 (gps (gps (gps (gps (gps (gps (gps (gps (gps (gps gp0)))))))))) (gps (gps (gps gp0))) dX6_checksum_104 ?_
        refine A_icmp_ge ok.b (tgt := 166) dX6_checksum_107 (by decide) (fun c107 => ?_) (fun c107 => (c107 (nI_le (Nat.le_refl _) (by omega))).elim)
        refine A_ldc2 ok.b dX6_checksum_166 kl_X6_219 ?_
        refine A_lload_n ok.b rfl dX6_checksum_169 (gps gp0) ?_
        refine A_lmul ok.b dX6_checksum_170 ?_
        refine A_aload_n ok.b rfl dX6_checksum_171 gp0 ?_
        refine A_getf ok.b cf6 2 (by decide) fl_X6_31 gp0 (gps (gps gp0)) dX6_checksum_172 ?_
        refine A_callVR ok [1, 2, 3, 4, 5, 6, 7, 8, 9, 10, 11, 12, 13, 14, 15] [0] (As := []) (wr := [(k, .inr (6, [.ref rd, .ref hs, .ref (a 0), .ref tr, .int eo]))]) mf_X5_airFlow ml_X6_95 in_X5_airFlow se_X5_airFlow cf5 (gps gp0) (c_airFlow l g a b T P hn) rfl rfl rfl dX6_checksum_175 rfl rfl rfl (by decide) (Nat.le_of_ble_eq_true rfl) ⟨(Nat.le_of_ble_eq_true rfl), (Nat.le_of_ble_eq_true rfl)⟩ ⟨(Nat.le_of_ble_eq_true rfl), (Nat.le_of_ble_eq_true rfl)⟩ (fun _ _ hx => hx.elim) (fun v175 w175 q175 => ?_)
        obtain ⟨rfl, rfl⟩ := q175
        refine A_sub [0, 1, 2, 3, 4, 5, 6, 7, 8, 9, 10, 11, 12, 13, 14, 15] (ws2 := dkW g k rd hs tr eo a b (T) (P)) rfl rfl ?_
        refine A_i2l ok.b dX6_checksum_178 ?_
        refine A_ladd ok.b dX6_checksum_179 ?_
        refine A_lret ok dX6_checksum_180 (Nat.le_of_ble_eq_true rfl) (Nat.le_of_ble_eq_true rfl) ?_
        exact ⟨by rw [chkF, if_neg c10], rfl⟩
      · rw [foldN_s] at ih
        generalize foldN (chkC T) (foldN (chkS T) (chk0 T) (pN P)) j = S at ih ⊢
        refine A_iload_n ok.b rfl dX6_checksum_96 (gps (gps (gps gp0))) ?_
        refine A_aload_n ok.b rfl dX6_checksum_97 gp0 ?_
        refine A_getf ok.b cf6 2 (by decide) fl_X6_31 gp0 (gps (gps gp0)) dX6_checksum_98 ?_
        refine A_getf ok.b cf5 0 (by decide) fl_X6_82 (gps gp0) gp0 dX6_checksum_101 ?_
        refine A_getf ok.b cf2 3 (by decide) fl_X6_86 (gps (gps (gps (gps (gps (gps (gps (gps (gps (gps gp0)))))))))) (gps (gps (gps gp0))) dX6_checksum_104 ?_
        refine A_icmp_ge ok.b (tgt := 166) dX6_checksum_107 (by decide) (fun c107 => (nI_ge hj (by omega) c107).elim) (fun c107 => ?_)
        refine A_ldc2 ok.b dX6_checksum_110 kl_X6_219 ?_
        refine A_lload_n ok.b rfl dX6_checksum_113 (gps gp0) ?_
        refine A_lmul ok.b dX6_checksum_114 ?_
        refine A_aload_n ok.b rfl dX6_checksum_115 gp0 ?_
        refine A_getf ok.b cf6 2 (by decide) fl_X6_31 gp0 (gps (gps gp0)) dX6_checksum_116 ?_
        refine A_getf ok.b cf5 11 (by decide) fl_X6_149 (gps gp0) (gps (gps (gps (gps (gps (gps (gps (gps (gps (gps (gps gp0))))))))))) dX6_checksum_119 ?_
        refine A_iload_n ok.b rfl dX6_checksum_122 (gps (gps (gps gp0))) ?_
        refine A_iald ok.b (gps (gps (gps (gps (gps (gps (gps gp0))))))) (ix_n (by omega) (by decide)) dX6_checksum_123 ?_
        refine A_i2l ok.b dX6_checksum_124 ?_
        refine A_ladd ok.b dX6_checksum_125 ?_
        refine A_lstore_n ok.b rfl dX6_checksum_126 (by decide) (sts1 rfl st0w) ?_
        refine A_ldc2 ok.b dX6_checksum_127 kl_X6_219 ?_
        refine A_lload_n ok.b rfl dX6_checksum_130 (gps gp0) ?_
        refine A_lmul ok.b dX6_checksum_131 ?_
        refine A_aload_n ok.b rfl dX6_checksum_132 gp0 ?_
        refine A_getf ok.b cf6 2 (by decide) fl_X6_31 gp0 (gps (gps gp0)) dX6_checksum_133 ?_
        refine A_getf ok.b cf5 12 (by decide) fl_X6_152 (gps gp0) (gps (gps (gps (gps (gps (gps (gps (gps (gps (gps (gps (gps gp0)))))))))))) dX6_checksum_136 ?_
        refine A_iload_n ok.b rfl dX6_checksum_139 (gps (gps (gps gp0))) ?_
        refine A_iald ok.b (gps (gps (gps (gps (gps (gps (gps (gps gp0)))))))) (ix_n (by omega) (by decide)) dX6_checksum_140 ?_
        refine A_i2l ok.b dX6_checksum_141 ?_
        refine A_ladd ok.b dX6_checksum_142 ?_
        refine A_lstore_n ok.b rfl dX6_checksum_143 (by decide) (sts1 rfl st0w) ?_
        refine A_ldc2 ok.b dX6_checksum_144 kl_X6_219 ?_
        refine A_lload_n ok.b rfl dX6_checksum_147 (gps gp0) ?_
        refine A_lmul ok.b dX6_checksum_148 ?_
        refine A_aload_n ok.b rfl dX6_checksum_149 gp0 ?_
        refine A_getf ok.b cf6 2 (by decide) fl_X6_31 gp0 (gps (gps gp0)) dX6_checksum_150 ?_
        refine A_getf ok.b cf5 13 (by decide) fl_X6_155 (gps gp0) (gps (gps (gps (gps (gps (gps (gps (gps (gps (gps (gps (gps (gps gp0))))))))))))) dX6_checksum_153 ?_
        refine A_iload_n ok.b rfl dX6_checksum_156 (gps (gps (gps gp0))) ?_
        refine A_lald ok.b (gps (gps (gps (gps (gps (gps (gps (gps (gps gp0))))))))) (ix_n (by omega) (by decide)) dX6_checksum_157 ?_
        refine A_ladd ok.b dX6_checksum_158 ?_
        refine A_lstore_n ok.b rfl dX6_checksum_159 (by decide) (sts1 rfl st0w) ?_
        refine A_iinc ok.b (v := _ + 1) dX6_checksum_160 (gps (gps (gps gp0))) rfl (by decide) (sts (sts (sts1n st0))) ?_
        refine A_goto ok.b (tgt := 96) dX6_checksum_163 (by decide) ?_
        rw [nI_1]
        exact ih
    have L1 : ∀ j, j ≤ pN P → AW g A H0 4 K 41 [some (.ref k), some (.long (foldN (chkS T) (chk0 T) j)), none, some (.int (nI j))] [] (dkW g k rd hs tr eo a b T P) 0 0 := by
      refine up_ind (pN P) ?_ (fun j hj ih => ?_)
      · skip
        refine A_iload_n ok.b rfl dX6_checksum_41 (gps (gps (gps gp0))) ?_
        refine A_aload_n ok.b rfl dX6_checksum_42 gp0 ?_
        refine A_getf ok.b cf6 2 (by decide) fl_X6_31 gp0 (gps (gps gp0)) dX6_checksum_43 ?_
        refine A_getf ok.b cf5 0 (by decide) fl_X6_82 (gps gp0) gp0 dX6_checksum_46 ?_
        refine A_getf ok.b cf2 0 (by decide) fl_X6_89 (gps (gps (gps (gps (gps (gps (gps (gps (gps (gps gp0)))))))))) gp0 dX6_checksum_49 ?_
        refine A_icmp_ge ok.b (tgt := 94) dX6_checksum_52 (by decide) (fun c52 => ?_) (fun c52 => (c52 (nI_le (Nat.le_refl _) (by omega))).elim)
        refine A_iconst ok.b (v := 0) dX6_checksum_94 (by decide) ?_
        refine A_istore_n ok.b rfl dX6_checksum_95 (by decide) (sts (sts (sts1n st0))) ?_
        exact L2 0 (Nat.zero_le _)
      · rw [foldN_s] at ih
        generalize foldN (chkS T) (chk0 T) j = S at ih ⊢
        refine A_iload_n ok.b rfl dX6_checksum_41 (gps (gps (gps gp0))) ?_
        refine A_aload_n ok.b rfl dX6_checksum_42 gp0 ?_
        refine A_getf ok.b cf6 2 (by decide) fl_X6_31 gp0 (gps (gps gp0)) dX6_checksum_43 ?_
        refine A_getf ok.b cf5 0 (by decide) fl_X6_82 (gps gp0) gp0 dX6_checksum_46 ?_
        refine A_getf ok.b cf2 0 (by decide) fl_X6_89 (gps (gps (gps (gps (gps (gps (gps (gps (gps (gps gp0)))))))))) gp0 dX6_checksum_49 ?_
        refine A_icmp_ge ok.b (tgt := 94) dX6_checksum_52 (by decide) (fun c52 => (nI_ge hj (by omega) c52).elim) (fun c52 => ?_)
        refine A_ldc2 ok.b dX6_checksum_55 kl_X6_219 ?_
        refine A_lload_n ok.b rfl dX6_checksum_58 (gps gp0) ?_
        refine A_lmul ok.b dX6_checksum_59 ?_
        refine A_aload_n ok.b rfl dX6_checksum_60 gp0 ?_
        refine A_getf ok.b cf6 2 (by decide) fl_X6_31 gp0 (gps (gps gp0)) dX6_checksum_61 ?_
        refine A_getf ok.b cf5 6 (by decide) fl_X6_108 (gps gp0) (gps (gps (gps (gps (gps (gps gp0)))))) dX6_checksum_64 ?_
        refine A_iload_n ok.b rfl dX6_checksum_67 (gps (gps (gps gp0))) ?_
        refine A_lald ok.b (gps (gps gp0)) (ix_n (by omega) (by decide)) dX6_checksum_68 ?_
        refine A_ladd ok.b dX6_checksum_69 ?_
        refine A_lstore_n ok.b rfl dX6_checksum_70 (by decide) (sts1 rfl st0w) ?_
        refine A_ldc2 ok.b dX6_checksum_71 kl_X6_219 ?_
        refine A_lload_n ok.b rfl dX6_checksum_74 (gps gp0) ?_
        refine A_lmul ok.b dX6_checksum_75 ?_
        refine A_aload_n ok.b rfl dX6_checksum_76 gp0 ?_
        refine A_getf ok.b cf6 2 (by decide) fl_X6_31 gp0 (gps (gps gp0)) dX6_checksum_77 ?_
        refine A_getf ok.b cf5 8 (by decide) fl_X6_132 (gps gp0) (gps (gps (gps (gps (gps (gps (gps (gps gp0)))))))) dX6_checksum_80 ?_
        refine A_iload_n ok.b rfl dX6_checksum_83 (gps (gps (gps gp0))) ?_
        refine A_iald ok.b (gps (gps (gps (gps gp0)))) (ix_n (by omega) (by decide)) dX6_checksum_84 ?_
        refine A_i2l ok.b dX6_checksum_85 ?_
        refine A_ladd ok.b dX6_checksum_86 ?_
        refine A_lstore_n ok.b rfl dX6_checksum_87 (by decide) (sts1 rfl st0w) ?_
        refine A_iinc ok.b (v := _ + 1) dX6_checksum_88 (gps (gps (gps gp0))) rfl (by decide) (sts (sts (sts1n st0))) ?_
        refine A_goto ok.b (tgt := 41) dX6_checksum_91 (by decide) ?_
        rw [nI_1]
        exact ih
    exact L1 0 (Nat.zero_le _)
  · skip
    refine A_lconst ok.b (v := 0) dX6_checksum_13 (by decide) ?_
    refine A_lret ok dX6_checksum_14 (Nat.le_of_ble_eq_true rfl) (Nat.le_of_ble_eq_true rfl) ?_
    exact ⟨by rw [chkF, if_pos c10], rfl⟩
