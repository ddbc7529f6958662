set_option maxRecDepth 20000 in
set_option maxHeartbeats 2000000 in
theorem c_clearingTime (l : Launch) (g : Gl) (k rd hs : Nat) (eo : Int32) (a b : Nat → Nat) (T : TD) (P : PD) (hn : pN P ≤ 12) (hc : pCar P ≤ 20) (hl0 : l.stackTraces = false) (a3 : Nat → Nat) (p3 : Nat) (T3 : TD) (hrd : ∀ j, j < 24 → tRed T j = 0 ∨ tRed T j = 1) (hok : COK P T) (x0 : Int32) : Ct l g yX6_clearingTime cX6_clearingTime 2 (some .int) 6 360 1 6 [.ref k, .int x0] (dkW g k rd hs (a3 0) eo a b T (P) ++ tunW g a3 (p3) (T3)) (fun v w => limX x0 = none ∧ v = some (.int (clearR P (x0.toNatClampNeg + 1) 0 T).1) ∧ ∃ T4 : TD, w = (dkW g k rd hs (a3 0) eo a b T (P) ++ tunW g a3 (b 0) (T4))) (XX (dkW g k rd hs (a3 0) eo a b T (P) ++ tunW g a3 (p3) (T3)) (limX x0)) := by
  refine Ct.intro [some (.ref k), some (.int x0)] (by decide +kernel) (fun _ h => h) (Nat.le_of_ble_eq_true rfl) (fun A H0 K ok => ?_)
  refine A_iload_n ok.b rfl dX6_clearingTime_0 (gps gp0) ?_
  refine A_if_lt ok.b (tgt := 11) dX6_clearingTime_1 (by decide) (fun c1 => ?_) (fun c1 => ?_)
  · skip
    refine A_throw2 ok hl0 (names := nmsX) (ik := 55) (is := 164) (ic := 59) (by decide +kernel) (by decide +kernel) xk_55 xi_IAE (List.mem_of_getElem? (i := 2) rfl) xa_59 cc_IAE dX6_clearingTime_11 dX6_clearingTime_14 dX6_clearingTime_15 dX6_clearingTime_17 dX6_clearingTime_20 (Nat.le_of_ble_eq_true rfl) (Nat.le_of_ble_eq_true rfl) (Nat.le_of_ble_eq_true rfl) (Nat.le_of_ble_eq_true rfl) ?_
    exact ⟨by rw [limX, if_pos (Or.inl c1)], List.Perm.refl _⟩
  · skip
    refine A_iload_n ok.b rfl dX6_clearingTime_4 (gps gp0) ?_
    refine A_sipush ok.b (v := 200) dX6_clearingTime_5 (by decide) ?_
    refine A_icmp_le ok.b (tgt := 21) dX6_clearingTime_8 (by decide) (fun c8 => ?_) (fun c8 => ?_)
    · skip
      obtain ⟨n0, hn0, rfl⟩ := lim_n c1 (Int32.not_lt.mpr c8)
      refine A_aload_n ok.b rfl dX6_clearingTime_21 gp0 ?_
      refine A_getf ok.b cf6 3 (by decide) fl_X6_35 gp0 (gps (gps (gps gp0))) dX6_clearingTime_22 ?_
      refine A_aload_n ok.b rfl dX6_clearingTime_25 gp0 ?_
      refine A_getf ok.b cf6 2 (by decide) fl_X6_31 gp0 (gps (gps gp0)) dX6_clearingTime_26 ?_
      refine A_callVR ok [16, 17, 18, 19, 20, 21, 22, 23, 24, 1, 2, 3, 4, 5, 6, 7, 8, 9] [0, 10, 11, 12, 13, 14, 15] (As := [_]) (wr := ([(k, .inr (6, [.ref rd, .ref hs, .ref (a 0), .ref (a3 0), .int eo]))] : va_W) ++ planW g b (P)) mf_X5_copyFrom ml_X6_79 in_X5_copyFrom se_X5_copyFrom cf5 (gps (gps (gps (gps (gps (gps (gps (gps (gps (gps (gps (gps (gps (gps (gps (gps gp0)))))))))))))))) (c_copyFrom l g a3 a _ (b 0) _ T hrd) rfl rfl rfl dX6_clearingTime_29 rfl rfl rfl (by decide) (Nat.le_of_ble_eq_true rfl) ⟨(Nat.le_of_ble_eq_true rfl), (Nat.le_of_ble_eq_true rfl)⟩ ⟨(Nat.le_of_ble_eq_true rfl), (Nat.le_of_ble_eq_true rfl)⟩ (fun _ _ hx => hx.elim) (fun v29 w29 q29 => ?_)
      obtain ⟨rfl, rfl⟩ := q29
      refine A_sub [0, 16, 17, 18, 19, 20, 21, 22, 23, 24, 1, 2, 3, 4, 5, 6, 7, 8, 9, 10, 11, 12, 13, 14, 15] (ws2 := (dkW g k rd hs (a3 0) eo a b T (P) ++ tunW g a3 (b 0) (T))) rfl rfl ?_
      refine A_aload_n ok.b rfl dX6_clearingTime_32 gp0 ?_
      refine A_getf ok.b cf6 3 (by decide) fl_X6_35 gp0 (gps (gps (gps gp0))) dX6_clearingTime_33 ?_
      refine A_iload_n ok.b rfl dX6_clearingTime_36 (gps gp0) ?_
      refine A_callVR ok [16, 17, 18, 19, 20, 21, 22, 23, 24, 10, 11, 12, 13, 14, 15] [0, 1, 2, 3, 4, 5, 6, 7, 8, 9] (As := [_]) (wr := ([(k, .inr (6, [.ref rd, .ref hs, .ref (a 0), .ref (a3 0), .int eo]))] : va_W) ++ tunW g a (b 0) T) mf_X5_ticksUntilClear ml_X6_166 in_X5_ticksUntilClear se_X5_ticksUntilClear cf5 (gps (gps (gps (gps (gps (gps (gps (gps (gps (gps (gps (gps (gps (gps (gps (gps gp0)))))))))))))))) (c_ticksUntilClear l g a3 b T P hn hc hok n0 (by omega)) rfl rfl rfl dX6_clearingTime_37 rfl rfl rfl (by decide) (Nat.le_of_ble_eq_true rfl) ⟨(Nat.le_of_ble_eq_true rfl), (Nat.le_of_ble_eq_true rfl)⟩ ⟨(Nat.le_of_ble_eq_true rfl), (Nat.le_of_ble_eq_true rfl)⟩ (fun _ _ hx => hx.elim) (fun v37 w37 q37 => ?_)
      obtain ⟨rfl, rfl⟩ := q37
      refine A_sub [0, 1, 2, 3, 4, 5, 6, 7, 8, 9, 19, 20, 21, 22, 23, 24, 10, 11, 12, 13, 14, 15, 16, 17, 18] (ws2 := (dkW g k rd hs (a3 0) eo a b T (P) ++ tunW g a3 (b 0) ((clearR P (n0 + 1) 0 T).2))) rfl rfl ?_
      refine A_iret ok dX6_clearingTime_40 (Nat.le_of_ble_eq_true rfl) (Nat.le_of_ble_eq_true rfl) ?_
      exact ⟨by rw [limX, if_neg (fun h => h.elim c1 (Int32.not_lt.mpr c8))], by rw [nI_clamp (by omega)], (clearR P (n0 + 1) 0 T).2, rfl⟩
    · skip
      refine A_throw2 ok hl0 (names := nmsX) (ik := 55) (is := 164) (ic := 59) (by decide +kernel) (by decide +kernel) xk_55 xi_IAE (List.mem_of_getElem? (i := 2) rfl) xa_59 cc_IAE dX6_clearingTime_11 dX6_clearingTime_14 dX6_clearingTime_15 dX6_clearingTime_17 dX6_clearingTime_20 (Nat.le_of_ble_eq_true rfl) (Nat.le_of_ble_eq_true rfl) (Nat.le_of_ble_eq_true rfl) (Nat.le_of_ble_eq_true rfl) ?_
      exact ⟨by rw [limX, if_pos (Or.inr (Int32.not_le.mp c8))], List.Perm.refl _⟩
def setX (x : Int32) : Option String := if x < -10 ∨ 10 < x then some IAE else none
def foreX (x : Int32) : Option String := if x < 0 ∨ 60 < x then some IAE else none
theorem fore_n {x : Int32} (h0 : ¬ x < 0) (h1 : ¬ 60 < x) : ∃ n, n ≤ 60 ∧ x = nI n := by
  obtain ⟨n, h2, h3⟩ := inn_of (x := x) (n := 61) (by decide) h0 (fun h => h1 (Int32.lt_iff_toInt_lt.mpr (by have h1 := Int32.le_iff_toInt_le.mp h; exact Int.lt_of_lt_of_le (by decide) h1)))
  exact ⟨n, by omega, h3⟩
/-- a prediction: the exposures' growth, and the plan then -/
def ewF (x : Int32) (n : Nat) (T : TD) (P : PD) : Int64 := expF n (fansF P x T) P
def ewP (x : Int32) (n : Nat) (T : TD) (P : PD) : PD := (expR n (fansF P x T, P)).2
theorem fans_keep (P : PD) (x : Int32) (T : TD) : tCs (fansF P x T) = tCs T ∧ tFire (fansF P x T) = tFire T := by
  refine foldN_inv (fun S : TD => tCs S = tCs T ∧ tFire S = tFire T) (fanF P x) T ⟨rfl, rfl⟩ (fun i S hS => ?_) (pN P)
  show tCs (fanF P x i S) = tCs T ∧ tFire (fanF P x i S) = tFire T
  unfold fanF
  split
  · exact hS
  · exact hS
theorem TOK_fans {P : PD} {T : TD} (x : Int32) (h : TOK (T, P)) : TOK (fansF P x T, P) := by
  obtain ⟨h1, h2, h3, h4, h5⟩ := h
  have hk := fans_keep P x T
  refine ⟨h1, h2, h3, COK_of h4 rfl rfl hk.1, ?_⟩
  show tFire (fansF P x T) < 0 ∨ Inn (tFire (fansF P x T)) (pN P)
  rw [hk.2]; exact h5

set_option maxRecDepth 20000 in
set_option maxHeartbeats 2000000 in
theorem c_exposureWith (l : Launch) (g : Gl) (k rd hs : Nat) (eo : Int32) (a b : Nat → Nat) (T : TD) (P : PD) (hn : pN P ≤ 12) (hc : pCar P ≤ 20) (hl0 : l.stackTraces = false) (a3 : Nat → Nat) (p3 : Nat) (T3 : TD) (hrd : ∀ j, j < 24 → tRed T j = 0 ∨ tRed T j = 1) (hok : TOK (T, P)) (x0 t0 : Int32) : Ct l g yX6_exposureWith cX6_exposureWith 3 (some .long) 7 400 1 6 [.ref k, .int x0, .int t0] (dkW g k rd hs (a3 0) eo a b T (P) ++ tunW g a3 (p3) (T3)) (fun v w => orX (setX x0) (foreX t0) = none ∧ v = some (.long (ewF x0 t0.toNatClampNeg T P)) ∧ ∃ T4 : TD, w = (dkW g k rd hs (a3 0) eo a b T (ewP x0 t0.toNatClampNeg T P) ++ tunW g a3 (b 0) (T4))) (XX (dkW g k rd hs (a3 0) eo a b T (P) ++ tunW g a3 (p3) (T3)) (orX (setX x0) (foreX t0))) := by
  refine Ct.intro [some (.ref k), some (.int x0), some (.int t0)] (by decide +kernel) (fun _ h => h) (Nat.le_of_ble_eq_true rfl) (fun A H0 K ok => ?_)
  refine A_iload_n ok.b rfl dX6_exposureWith_0 (gps gp0) ?_
  refine A_bipush ok.b (v := (-10)) dX6_exposureWith_1 (by decide) ?_
  refine A_icmp_lt ok.b (tgt := 12) dX6_exposureWith_3 (by decide) (fun c3 => ?_) (fun c3 => ?_)
  · skip
    refine A_throw2 ok hl0 (names := nmsX) (ik := 55) (is := 184) (ic := 59) (by decide +kernel) (by decide +kernel) xk_55 xi_IAE (List.mem_of_getElem? (i := 3) rfl) xa_59 cc_IAE dX6_exposureWith_12 dX6_exposureWith_15 dX6_exposureWith_16 dX6_exposureWith_18 dX6_exposureWith_21 (Nat.le_of_ble_eq_true rfl) (Nat.le_of_ble_eq_true rfl) (Nat.le_of_ble_eq_true rfl) (Nat.le_of_ble_eq_true rfl) ?_
    exact ⟨by rw [orX, setX, if_pos (Or.inl c3), if_neg nofun], List.Perm.refl _⟩
  · skip
    refine A_iload_n ok.b rfl dX6_exposureWith_6 (gps gp0) ?_
    refine A_bipush ok.b (v := 10) dX6_exposureWith_7 (by decide) ?_
    refine A_icmp_le ok.b (tgt := 22) dX6_exposureWith_9 (by decide) (fun c9 => ?_) (fun c9 => ?_)
    · skip
      have o1 : setX x0 = none := by rw [setX, if_neg (fun h => h.elim c3 (Int32.not_lt.mpr c9))]
      refine A_iload_n ok.b rfl dX6_exposureWith_22 (gps (gps gp0)) ?_
      refine A_if_lt ok.b (tgt := 32) dX6_exposureWith_23 (by decide) (fun c23 => ?_) (fun c23 => ?_)
      · skip
        refine A_throw2 ok hl0 (names := nmsX) (ik := 55) (is := 186) (ic := 59) (by decide +kernel) (by decide +kernel) xk_55 xi_IAE (List.mem_of_getElem? (i := 4) rfl) xa_59 cc_IAE dX6_exposureWith_32 dX6_exposureWith_35 dX6_exposureWith_36 dX6_exposureWith_38 dX6_exposureWith_41 (Nat.le_of_ble_eq_true rfl) (Nat.le_of_ble_eq_true rfl) (Nat.le_of_ble_eq_true rfl) (Nat.le_of_ble_eq_true rfl) ?_
        exact ⟨by rw [orX_n o1, foreX, if_pos (Or.inl c23)], List.Perm.refl _⟩
      · skip
        refine A_iload_n ok.b rfl dX6_exposureWith_26 (gps (gps gp0)) ?_
        refine A_bipush ok.b (v := 60) dX6_exposureWith_27 (by decide) ?_
        refine A_icmp_le ok.b (tgt := 42) dX6_exposureWith_29 (by decide) (fun c29 => ?_) (fun c29 => ?_)
        · skip
          obtain ⟨n0, hn0, rfl⟩ := fore_n c23 (Int32.not_lt.mpr c29)
          refine A_aload_n ok.b rfl dX6_exposureWith_42 gp0 ?_
          refine A_getf ok.b cf6 3 (by decide) fl_X6_35 gp0 (gps (gps (gps gp0))) dX6_exposureWith_43 ?_
          refine A_aload_n ok.b rfl dX6_exposureWith_46 gp0 ?_
          refine A_getf ok.b cf6 2 (by decide) fl_X6_31 gp0 (gps (gps gp0)) dX6_exposureWith_47 ?_
          refine A_callVR ok [16, 17, 18, 19, 20, 21, 22, 23, 24, 1, 2, 3, 4, 5, 6, 7, 8, 9] [0, 10, 11, 12, 13, 14, 15] (As := [_]) (wr := ([(k, .inr (6, [.ref rd, .ref hs, .ref (a 0), .ref (a3 0), .int eo]))] : va_W) ++ planW g b (P)) mf_X5_copyFrom ml_X6_79 in_X5_copyFrom se_X5_copyFrom cf5 (gps (gps (gps (gps (gps (gps (gps (gps (gps (gps (gps (gps (gps (gps (gps (gps gp0)))))))))))))))) (c_copyFrom l g a3 a _ (b 0) _ T hrd) rfl rfl rfl dX6_exposureWith_50 rfl rfl rfl (by decide) (Nat.le_of_ble_eq_true rfl) ⟨(Nat.le_of_ble_eq_true rfl), (Nat.le_of_ble_eq_true rfl)⟩ ⟨(Nat.le_of_ble_eq_true rfl), (Nat.le_of_ble_eq_true rfl)⟩ (fun _ _ hx => hx.elim) (fun v50 w50 q50 => ?_)
          obtain ⟨rfl, rfl⟩ := q50
          refine A_sub [0, 16, 17, 18, 19, 20, 21, 22, 23, 24, 1, 2, 3, 4, 5, 6, 7, 8, 9, 10, 11, 12, 13, 14, 15] (ws2 := (dkW g k rd hs (a3 0) eo a b T (P) ++ tunW g a3 (b 0) (T))) rfl rfl ?_
          refine A_aload_n ok.b rfl dX6_exposureWith_53 gp0 ?_
          refine A_getf ok.b cf6 3 (by decide) fl_X6_35 gp0 (gps (gps (gps gp0))) dX6_exposureWith_54 ?_
          refine A_iload_n ok.b rfl dX6_exposureWith_57 (gps gp0) ?_
          refine A_callVR ok [16, 17, 18, 19, 20, 21, 22, 23, 24, 10, 11, 12, 13, 14, 15] [0, 1, 2, 3, 4, 5, 6, 7, 8, 9] (As := [_]) (wr := ([(k, .inr (6, [.ref rd, .ref hs, .ref (a 0), .ref (a3 0), .int eo]))] : va_W) ++ tunW g a (b 0) T) mf_X5_setAllFans ml_X6_188 in_X5_setAllFans se_X5_setAllFans cf5 (gps (gps (gps (gps (gps (gps (gps (gps (gps (gps (gps (gps (gps (gps (gps (gps gp0)))))))))))))))) (c_setAllFans l g a3 b T P hn hc x0) rfl rfl rfl dX6_exposureWith_58 rfl rfl rfl (by decide) (Nat.le_of_ble_eq_true rfl) ⟨(Nat.le_of_ble_eq_true rfl), (Nat.le_of_ble_eq_true rfl)⟩ ⟨(Nat.le_of_ble_eq_true rfl), (Nat.le_of_ble_eq_true rfl)⟩ (fun _ _ hx => hx.elim) (fun v58 w58 q58 => ?_)
          obtain ⟨rfl, rfl⟩ := q58
          refine A_sub [0, 1, 2, 3, 4, 5, 6, 7, 8, 9, 19, 20, 21, 22, 23, 24, 10, 11, 12, 13, 14, 15, 16, 17, 18] (ws2 := (dkW g k rd hs (a3 0) eo a b T (P) ++ tunW g a3 (b 0) (fansF P x0 T))) rfl rfl ?_
          refine A_aload_n ok.b rfl dX6_exposureWith_61 gp0 ?_
          refine A_getf ok.b cf6 3 (by decide) fl_X6_35 gp0 (gps (gps (gps gp0))) dX6_exposureWith_62 ?_
          refine A_iload_n ok.b rfl dX6_exposureWith_65 (gps (gps gp0)) ?_
          refine A_callVR ok [16, 17, 18, 19, 20, 21, 22, 23, 24, 10, 11, 12, 13, 14, 15] [0, 1, 2, 3, 4, 5, 6, 7, 8, 9] (As := [_]) (wr := ([(k, .inr (6, [.ref rd, .ref hs, .ref (a 0), .ref (a3 0), .int eo]))] : va_W) ++ tunW g a (b 0) T) mf_X5_exposureIncrease ml_X6_191 in_X5_exposureIncrease se_X5_exposureIncrease cf5 (gps (gps (gps (gps (gps (gps (gps (gps (gps (gps (gps (gps (gps (gps (gps (gps gp0)))))))))))))))) (c_exposureIncrease l g a3 b (fansF P x0 T) P (TOK_fans x0 hok) n0 (by omega)) rfl rfl rfl dX6_exposureWith_66 rfl rfl rfl (by decide) (Nat.le_of_ble_eq_true rfl) ⟨(Nat.le_of_ble_eq_true rfl), (Nat.le_of_ble_eq_true rfl)⟩ ⟨(Nat.le_of_ble_eq_true rfl), (Nat.le_of_ble_eq_true rfl)⟩ (fun _ _ hx => hx.elim) (fun v66 w66 q66 => ?_)
          obtain ⟨rfl, rfl⟩ := q66
          generalize hP2 : (expR n0 (fansF P x0 T, P)).2 = P2
          generalize hT4 : (expR n0 (fansF P x0 T, P)).1 = T4
          refine A_sub [0, 1, 2, 3, 4, 5, 6, 7, 8, 9, 19, 20, 21, 22, 23, 24, 10, 11, 12, 13, 14, 15, 16, 17, 18] (ws2 := (dkW g k rd hs (a3 0) eo a b T (P2) ++ tunW g a3 (b 0) (T4))) rfl rfl ?_
          refine A_lret ok dX6_exposureWith_69 (Nat.le_of_ble_eq_true rfl) (Nat.le_of_ble_eq_true rfl) ?_
          exact ⟨by rw [orX_n o1, foreX, if_neg (fun h => h.elim c23 (Int32.not_lt.mpr c29))], by rw [nI_clamp (by omega)]; rfl, T4, by rw [nI_clamp (by omega), ewP, hP2]⟩
        · skip
          refine A_throw2 ok hl0 (names := nmsX) (ik := 55) (is := 186) (ic := 59) (by decide +kernel) (by decide +kernel) xk_55 xi_IAE (List.mem_of_getElem? (i := 4) rfl) xa_59 cc_IAE dX6_exposureWith_32 dX6_exposureWith_35 dX6_exposureWith_36 dX6_exposureWith_38 dX6_exposureWith_41 (Nat.le_of_ble_eq_true rfl) (Nat.le_of_ble_eq_true rfl) (Nat.le_of_ble_eq_true rfl) (Nat.le_of_ble_eq_true rfl) ?_
          exact ⟨by rw [orX_n o1, foreX, if_pos (Or.inr (Int32.not_le.mp c29))], List.Perm.refl _⟩
    · skip
      refine A_throw2 ok hl0 (names := nmsX) (ik := 55) (is := 184) (ic := 59) (by decide +kernel) (by decide +kernel) xk_55 xi_IAE (List.mem_of_getElem? (i := 3) rfl) xa_59 cc_IAE dX6_exposureWith_12 dX6_exposureWith_15 dX6_exposureWith_16 dX6_exposureWith_18 dX6_exposureWith_21 (Nat.le_of_ble_eq_true rfl) (Nat.le_of_ble_eq_true rfl) (Nat.le_of_ble_eq_true rfl) (Nat.le_of_ble_eq_true rfl) ?_
      exact ⟨by rw [orX, setX, if_pos (Or.inr (Int32.not_le.mp c9)), if_neg nofun], List.Perm.refl _⟩
