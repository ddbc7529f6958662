def tpR (g : Gl) (a b : Nat → Nat) (T : TD) (P : PD) : va_W := [
  (a 0, .inr (5, [.ref (b 0), .int (tClock T), .int (tFire T), .int (tIns T), .long (tLeft T), .long (tRem T), .ref (a 1), .ref (a 2), .ref (a 3), .ref (a 4), .ref (a 5), .ref (a 6), .ref (a 7), .ref (a 8)])),
  (a 1, .inl (g.2.1 1, 12, .inr (.inl (tSmoke T)))), (a 2, .inl (g.2.1 0, 12, .inl (tFan T))), (a 3, .inl (g.2.1 0, 12, .inl (tBay T))), (a 4, .inl (g.2.1 3, 24, .inl (tRed T))), (a 5, .inl (g.2.1 0, 24, .inl (tLane T))), (a 6, .inl (g.2.1 0, 20, .inl (tCs T))), (a 7, .inl (g.2.1 0, 20, .inl (tCd T))), (a 8, .inl (g.2.1 1, 20, .inr (.inl (tEx T)))),
  (b 0, .inr (2, [.int (nI (pN P)), .int (pCap P), .int (pDraft P), .int (nI (pCar P)), .ref (b 1), .ref (b 2), .ref (b 3)])), (b 1, .inl (g.2.1 0, 12, .inl (pVent P))), (b 2, .inl (g.2.1 3, 12, .inl (pHf P)))]
def sStk (P : PD) (sk : Nat → Int64) : PD := (pN P, pCap P, pDraft P, pCar P, pVent P, pHf P, pNc P, pCodes P, sk)
def rateV (T : TD) (P : PD) : Nat → Int64 := valF (pNc P) (pCodes P) (tClock T) (tIns T) (flowF T P) (pStk P)
def clampR (v : Int64) : Int64 := if (if v < 9999 then v else 9999) < (0 : Int64) then 0 else (if v < 9999 then v else 9999)
def rateF (T : TD) (P : PD) : Int32 := if 0 ≤ tFire T then (clampR (rateV T P 0)).toInt32 else 0
def rateP (T : TD) (P : PD) : PD := if 0 ≤ tFire T then sStk P (rateV T P) else P
set_option maxRecDepth 20000 in
set_option maxHeartbeats 2000000 in
theorem c_fireRate (l : Launch) (g : Gl) (a b : Nat → Nat) (T : TD) (P : PD) (hn : pN P ≤ 12) (hc : pCar P ≤ 20) (hnc : pNc P < 1000) : Ct l g yX5_fireRate cX5_fireRate 3 (some .int) 3 120 0 0 [.ref (a 0)] (tpW g a b T P) (fun v w => v = some (.int (rateF T P)) ∧ w = tpW g a b T (rateP T P)) noX := by
  refine Ct.intro [some (.ref (a 0)), none, none] (by decide +kernel) (fun _ h => h) (Nat.le_of_ble_eq_true rfl) (fun A H0 K ok => ?_)
  refine A_aload_n ok.b rfl dX5_fireRate_0 gp0 ?_
  refine A_getf ok.b cf5 2 (by decide) fl_X5_9 gp0 (gps (gps gp0)) dX5_fireRate_1 ?_
  refine A_if_ge ok.b (tgt := 9) dX5_fireRate_4 (by decide) (fun c4 => ?_) (fun c4 => ?_)
  · skip
    refine A_aload_n ok.b rfl dX5_fireRate_9 gp0 ?_
    refine A_getf ok.b cf5 0 (by decide) fl_X5_42 gp0 gp0 dX5_fireRate_10 ?_
    refine A_getf ok.b cf2 6 (by decide) fl_X5_91 (gps (gps (gps (gps (gps (gps (gps (gps (gps gp0))))))))) (gps (gps (gps (gps (gps (gps gp0)))))) dX5_fireRate_13 ?_
    refine A_aload_n ok.b rfl dX5_fireRate_16 gp0 ?_
    refine A_getf ok.b cf5 1 (by decide) fl_X5_46 gp0 (gps gp0) dX5_fireRate_17 ?_
    refine A_aload_n ok.b rfl dX5_fireRate_20 gp0 ?_
    refine A_getf ok.b cf5 3 (by decide) fl_X5_49 gp0 (gps (gps (gps gp0))) dX5_fireRate_21 ?_
    refine A_aload_n ok.b rfl dX5_fireRate_24 gp0 ?_
    refine A_sameVR ok (As := []) mf_X5_airFlow ml_X5_95 in_X5_airFlow se_X5_airFlow cf5 gp0 (c_airFlow l g a b T P hn) rfl rfl dX5_fireRate_25 (Nat.le_of_ble_eq_true rfl) ⟨(Nat.le_of_ble_eq_true rfl), (Nat.le_of_ble_eq_true rfl)⟩ ⟨(Nat.le_of_ble_eq_true rfl), (Nat.le_of_ble_eq_true rfl)⟩ (fun _ _ hx => hx.elim) (fun v25 w25 q25 => ?_)
    obtain ⟨rfl, rfl⟩ := q25
    refine A_callVR ok [12, 13, 14] [0, 1, 2, 3, 4, 5, 6, 7, 8, 9, 10, 11] (As := [_, _, _]) (wr := tpR g a b T P) mf_X3_valueAt ml_X5_99 in_X3_valueAt se_X3_valueAt cf3 (gps (gps (gps (gps (gps (gps (gps (gps (gps (gps (gps (gps gp0)))))))))))) (c_valueAt l g b (pNc P) hnc (pCodes P) (pStk P) (tClock T) (tIns T) (flowF T P)) rfl rfl rfl dX5_fireRate_28 rfl rfl rfl (by decide) (Nat.le_of_ble_eq_true rfl) ⟨(Nat.le_of_ble_eq_true rfl), (Nat.le_of_ble_eq_true rfl)⟩ ⟨(Nat.le_of_ble_eq_true rfl), (Nat.le_of_ble_eq_true rfl)⟩ (fun _ _ hx => hx.elim) (fun v28 w28 q28 => ?_)
    obtain ⟨rfl, rfl⟩ := q28
    refine A_sub [0, 1, 2, 3, 4, 5, 6, 7, 8, 9, 10, 11, 12, 13, 14] (ws2 := tpW g a b T (sStk P (rateV T P))) rfl rfl ?_
    refine A_lstore_n ok.b rfl dX5_fireRate_31 (by decide) (sts1 rfl st0w) ?_
    refine A_lconst ok.b (v := 0) dX5_fireRate_32 (by decide) ?_
    refine A_ldc2 ok.b dX5_fireRate_33 kl_X5_105 ?_
    refine A_lload_n ok.b rfl dX5_fireRate_36 (gps gp0) ?_
    refine A_minl ok.b (ml_X5_107) dX5_fireRate_37 (Nat.le_of_ble_eq_true rfl) (Nat.le_of_ble_eq_true rfl) (Nat.le_of_ble_eq_true rfl) (Nat.le_of_ble_eq_true rfl) ?_
    refine A_maxl ok.b (ml_X5_110) dX5_fireRate_40 (Nat.le_of_ble_eq_true rfl) (Nat.le_of_ble_eq_true rfl) (Nat.le_of_ble_eq_true rfl) (Nat.le_of_ble_eq_true rfl) ?_
    refine A_l2i ok.b dX5_fireRate_43 ?_
    refine A_iret ok dX5_fireRate_44 (Nat.le_of_ble_eq_true rfl) (Nat.le_of_ble_eq_true rfl) ?_
    exact ⟨by rw [rateF, if_pos c4]; rfl, by rw [rateP, if_pos c4]⟩
  · skip
    refine A_iconst ok.b (v := 0) dX5_fireRate_7 (by decide) ?_
    refine A_iret ok dX5_fireRate_8 (Nat.le_of_ble_eq_true rfl) (Nat.le_of_ble_eq_true rfl) ?_
    exact ⟨by rw [rateF, if_neg c4], by rw [rateP, if_neg c4]⟩
theorem rateP_n (T : TD) (P : PD) : pN (rateP T P) = pN P := by unfold rateP; split <;> rfl
theorem rateP_c (T : TD) (P : PD) : pCar (rateP T P) = pCar P := by unfold rateP; split <;> rfl
theorem rateP_k (T : TD) (P : PD) : pNc (rateP T P) = pNc P := by unfold rateP; split <;> rfl
theorem smoke_keep (P : PD) (fl : Int32) (T : TD) : tCs (moveSmokeF P fl T) = tCs T ∧ tFire (moveSmokeF P fl T) = tFire T := by
  have h : tCs (smokeRun P fl T).2 = tCs T ∧ tFire (smokeRun P fl T).2 = tFire T :=
    foldN_inv (fun S : Int64 × TD => tCs S.2 = tCs T ∧ tFire S.2 = tFire T) (smokeStep P fl) (0, T) ⟨rfl, rfl⟩ (fun i S hS => hS) (pN P)
  exact h
def FOK (P : PD) (T : TD) : Prop := tFire T < 0 ∨ Inn (tFire T) (pN P)
def tickS (P : PD) (T : TD) : TD := moveSmokeF P (flowF T P) T
def tickB (P : PD) (r : Int32) (T : TD) : TD := if tFire T < 0 then T else sSmoke T (vp_updL (tSmoke T) (tFire T).toNatClampNeg (tSmoke T (tFire T).toNatClampNeg + r.toInt64))
def tickT (P : PD) (r : Int32) (T : TD) : TD := sClock (exposeCarsF P (moveF P (tickB P r (tickS P T))).2) (tClock (exposeCarsF P (moveF P (tickB P r (tickS P T))).2) + 1)
/-- a tick: the tunnel then -/
def tickF (P : PD) (T : TD) : TD := tickT (rateP T P) (rateF T P) T
theorem COK_of {P P' : PD} {T T' : TD} (h : COK P T) (h1 : pN P' = pN P) (h2 : pCar P' = pCar P) (h3 : tCs T' = tCs T) : COK P' T' := by
  intro c hc
  rw [h3, h1]
  exact h c (by rw [← h2]; exact hc)
theorem COK_turn {P : PD} {T : TD} {mv : Int32} (h : COK P T) : COK P (turnCarsF P mv T).2 := COK_of h rfl rfl (turn_cs (pCar P))
theorem COK_move {P : PD} {T : TD} (hn : pN P ≤ 12) (h : COK P T) : COK P (moveF P T).2 := COK_turn (COK_lanes hn (COK_lanes hn h 1) (-1))
theorem tickB_cs (P : PD) (r : Int32) (T : TD) : tCs (tickB P r T) = tCs T := by unfold tickB; split <;> rfl

set_option maxRecDepth 20000 in
set_option maxHeartbeats 2000000 in
theorem c_tick (l : Launch) (g : Gl) (a b : Nat → Nat) (T : TD) (P : PD) (hn : pN P ≤ 12) (hc : pCar P ≤ 20) (hnc : pNc P < 1000) (hok : COK P T) (hfi : FOK P T) : Ct l g yX5_tick cX5_tick 2 none 4 160 0 0 [.ref (a 0)] (tpW g a b T P) (fun v w => v = none ∧ w = tpW g a b (tickF P T) (rateP T P)) noX := by
  refine Ct.intro [some (.ref (a 0)), none] (by decide +kernel) (fun _ h => h) (Nat.le_of_ble_eq_true rfl) (fun A H0 K ok => ?_)
  have hn' : pN (rateP T P) ≤ 12 := by rw [rateP_n]; exact hn
  have hc' : pCar (rateP T P) ≤ 20 := by rw [rateP_c]; exact hc
  have hok' : COK (rateP T P) T := COK_of hok (rateP_n T P) (rateP_c T P) rfl
  have hfi' : FOK (rateP T P) T := by unfold FOK; rw [rateP_n]; exact hfi
  refine A_aload_n ok.b rfl dX5_tick_0 gp0 ?_
  refine A_sameVR ok (As := []) mf_X5_fireRate ml_X5_112 in_X5_fireRate se_X5_fireRate cf5 gp0 (c_fireRate l g a b T P hn hc hnc) rfl rfl dX5_tick_1 (Nat.le_of_ble_eq_true rfl) ⟨(Nat.le_of_ble_eq_true rfl), (Nat.le_of_ble_eq_true rfl)⟩ ⟨(Nat.le_of_ble_eq_true rfl), (Nat.le_of_ble_eq_true rfl)⟩ (fun _ _ hx => hx.elim) (fun v1 w1 q1 => ?_)
  obtain ⟨rfl, rfl⟩ := q1
  have ef : tickF P T = tickT (rateP T P) (rateF T P) T := rfl
  generalize hr2 : rateF T P = r at ef ⊢
  generalize hP2 : rateP T P = P2 at ef hn' hc' hok' hfi' ⊢
  refine A_istore_n ok.b rfl dX5_tick_4 (by decide) (sts1 rfl st0) ?_
  refine A_aload_n ok.b rfl dX5_tick_5 gp0 ?_
  refine A_aload_n ok.b rfl dX5_tick_6 gp0 ?_
  refine A_sameVR ok (As := []) mf_X5_airFlow ml_X5_95 in_X5_airFlow se_X5_airFlow cf5 gp0 (c_airFlow l g a b T P2 hn') rfl rfl dX5_tick_7 (Nat.le_of_ble_eq_true rfl) ⟨(Nat.le_of_ble_eq_true rfl), (Nat.le_of_ble_eq_true rfl)⟩ ⟨(Nat.le_of_ble_eq_true rfl), (Nat.le_of_ble_eq_true rfl)⟩ (fun _ _ hx => hx.elim) (fun v7 w7 q7 => ?_)
  obtain ⟨rfl, rfl⟩ := q7
  refine A_sameVR ok (As := [_]) mf_X5_moveSmoke ml_X5_115 in_X5_moveSmoke se_X5_moveSmoke cf5 gp0 (c_moveSmoke l g a b T P2 hn' hc' (flowF T P2)) rfl rfl dX5_tick_10 (Nat.le_of_ble_eq_true rfl) ⟨(Nat.le_of_ble_eq_true rfl), (Nat.le_of_ble_eq_true rfl)⟩ ⟨(Nat.le_of_ble_eq_true rfl), (Nat.le_of_ble_eq_true rfl)⟩ (fun _ _ hx => hx.elim) (fun v10 w10 q10 => ?_)
  obtain ⟨rfl, rfl⟩ := q10
  have hk := smoke_keep P2 (flowF T P2) T
  have hok2 : COK P2 (tickB P2 r (tickS P2 T)) := COK_of hok' rfl rfl ((tickB_cs P2 r _).trans hk.1)
  have M : AW g A H0 2 K 34 [some (.ref (a 0)), some (.int r)] [] (tpW g a b (tickB P2 r (tickS P2 T)) P2) 0 0 := by
    refine A_aload_n ok.b rfl dX5_tick_34 gp0 ?_
    refine A_sameVR ok (As := []) mf_X5_moveCars ml_X5_119 in_X5_moveCars se_X5_moveCars cf5 gp0 (c_moveCars l g a b (tickB P2 r (tickS P2 T)) P2 hn' hc' hok2) rfl rfl dX5_tick_35 (Nat.le_of_ble_eq_true rfl) ⟨(Nat.le_of_ble_eq_true rfl), (Nat.le_of_ble_eq_true rfl)⟩ ⟨(Nat.le_of_ble_eq_true rfl), (Nat.le_of_ble_eq_true rfl)⟩ (fun _ _ hx => hx.elim) (fun v35 w35 q35 => ?_)
    obtain ⟨rfl, rfl⟩ := q35
    refine A_pop ok.b dX5_tick_38 rfl ?_
    refine A_aload_n ok.b rfl dX5_tick_39 gp0 ?_
    refine A_sameVR ok (As := []) mf_X5_exposeCars ml_X5_123 in_X5_exposeCars se_X5_exposeCars cf5 gp0 (c_exposeCars l g a b (moveF P2 (tickB P2 r (tickS P2 T))).2 P2 hn' hc' (COK_move hn' hok2)) rfl rfl dX5_tick_40 (Nat.le_of_ble_eq_true rfl) ⟨(Nat.le_of_ble_eq_true rfl), (Nat.le_of_ble_eq_true rfl)⟩ ⟨(Nat.le_of_ble_eq_true rfl), (Nat.le_of_ble_eq_true rfl)⟩ (fun _ _ hx => hx.elim) (fun v40 w40 q40 => ?_)
    obtain ⟨rfl, rfl⟩ := q40
    refine A_aload_n ok.b rfl dX5_tick_43 gp0 ?_
    refine A_dup ok.b dX5_tick_44 rfl ?_
    refine A_getf ok.b cf5 1 (by decide) fl_X5_46 gp0 (gps gp0) dX5_tick_45 ?_
    refine A_iconst ok.b (v := 1) dX5_tick_48 (by decide) ?_
    refine A_iadd ok.b dX5_tick_49 ?_
    refine A_putf ok.b cf5 1 (by decide) rfl fl_X5_46 gp0 rfl rfl (gp_lt (gps gp0)) (wps wp0) wp0 dX5_tick_50 ?_
    refine A_vret ok dX5_tick_53 (Nat.le_of_ble_eq_true rfl) (Nat.le_of_ble_eq_true rfl) ?_
    exact ⟨rfl, by rw [ef, hP2]; rfl⟩
  refine A_aload_n ok.b rfl dX5_tick_13 gp0 ?_
  refine A_getf ok.b cf5 2 (by decide) fl_X5_9 gp0 (gps (gps gp0)) dX5_tick_14 ?_
  refine A_if_lt ok.b (tgt := 34) dX5_tick_17 (by decide) (fun c17 => ?_) (fun c17 => ?_)
  · skip
    rw [tickB, if_pos (show tFire (tickS P2 T) < 0 from c17)] at M
    exact M
  · skip
    have hix : Ix (tFire (moveSmokeF P2 (flowF T P2) T)) 12 (tFire (moveSmokeF P2 (flowF T P2) T)).toNatClampNeg := inn_ix hn' (by decide) (by
      rw [hk.2]
      exact hfi'.resolve_left (fun h => c17 (by rw [hk.2]; exact h)))
    refine A_aload_n ok.b rfl dX5_tick_20 gp0 ?_
    refine A_getf ok.b cf5 6 (by decide) fl_X5_15 gp0 (gps (gps (gps (gps (gps (gps gp0)))))) dX5_tick_21 ?_
    refine A_aload_n ok.b rfl dX5_tick_24 gp0 ?_
    refine A_getf ok.b cf5 2 (by decide) fl_X5_9 gp0 (gps (gps gp0)) dX5_tick_25 ?_
    refine A_dup2_11 ok.b dX5_tick_28 rfl rfl ?_
    refine A_lald ok.b (gps gp0) hix dX5_tick_29 ?_
    refine A_iload_n ok.b rfl dX5_tick_30 (gps gp0) ?_
    refine A_i2l ok.b dX5_tick_31 ?_
    refine A_ladd ok.b dX5_tick_32 ?_
    refine A_last ok.b (gps gp0) hix (wps wp0) dX5_tick_33 ?_
    rw [tickB, if_neg (show ¬ tFire (tickS P2 T) < 0 from c17)] at M
    exact M
/-- the ticks until nobody is inside: r more are allowed, k have been -/
def clearR (P : PD) : Nat → Nat → TD → Int32 × TD
  | 0, _, T => (-1, T)
  | r + 1, k, T => if tIns T = 0 then (nI k, T) else if (moveF P T).1 = 0 then (-1, (moveF P T).2) else clearR P r (k + 1) (moveF P T).2
set_option maxRecDepth 20000 in
set_option maxHeartbeats 2000000 in
theorem c_ticksUntilClear (l : Launch) (g : Gl) (a b : Nat → Nat) (T : TD) (P : PD) (hn : pN P ≤ 12) (hc : pCar P ≤ 20) (hok : COK P T) (lm : Nat) (hlm : lm < 1000) : Ct l g yX5_ticksUntilClear cX5_ticksUntilClear 3 (some .int) 4 160 0 0 [.ref (a 0), .int (nI lm)] (tpW g a b T P) (fun v w => v = some (.int (clearR P (lm + 1) 0 T).1) ∧ w = tpW g a b (clearR P (lm + 1) 0 T).2 P) noX := by
  refine Ct.intro [some (.ref (a 0)), some (.int (nI lm)), none] (by decide +kernel) (fun _ h => h) (Nat.le_of_ble_eq_true rfl) (fun A H0 K ok => ?_)
  have L : ∀ (r k : Nat) (S : TD), r + k = lm + 1 → COK P S → clearR P (lm + 1) 0 T = clearR P r k S → AW g A H0 3 K 2 [some (.ref (a 0)), some (.int (nI lm)), some (.int (nI k))] [] (tpW g a b S P) 0 0 := by
    intro r
    induction r with
    | zero =>
      intro k S hr hS e
      refine A_iload_n ok.b rfl dX5_ticksUntilClear_2 (gps (gps gp0)) ?_
      refine A_iload_n ok.b rfl dX5_ticksUntilClear_3 (gps gp0) ?_
      refine A_icmp_gt ok.b (tgt := 31) dX5_ticksUntilClear_4 (by decide) (fun c4 => ?_) (fun c4 => (c4 (nI_lt (by omega) (by omega))).elim)
      refine A_iconst ok.b (v := (-1)) dX5_ticksUntilClear_31 (by decide) ?_
      refine A_iret ok dX5_ticksUntilClear_32 (Nat.le_of_ble_eq_true rfl) (Nat.le_of_ble_eq_true rfl) ?_
      have e2 := e.trans (show clearR P 0 k S = (-1, S) from rfl)
      exact ⟨by rw [e2], by rw [e2]⟩
    | succ r ih =>
      intro k S hr hS e
      refine A_iload_n ok.b rfl dX5_ticksUntilClear_2 (gps (gps gp0)) ?_
      refine A_iload_n ok.b rfl dX5_ticksUntilClear_3 (gps gp0) ?_
      refine A_icmp_gt ok.b (tgt := 31) dX5_ticksUntilClear_4 (by decide) (fun c4 => (nI_nlt (a := lm) (b := k) (by omega) (by omega) c4).elim) (fun c4 => ?_)
      refine A_aload_n ok.b rfl dX5_ticksUntilClear_7 gp0 ?_
      refine A_getf ok.b cf5 3 (by decide) fl_X5_49 gp0 (gps (gps (gps gp0))) dX5_ticksUntilClear_8 ?_
      refine A_if_ne ok.b (tgt := 16) dX5_ticksUntilClear_11 (by decide) (fun c11 => ?_) (fun c11 => ?_)
      · skip
        refine A_aload_n ok.b rfl dX5_ticksUntilClear_16 gp0 ?_
        refine A_sameVR ok (As := []) mf_X5_moveCars ml_X5_119 in_X5_moveCars se_X5_moveCars cf5 gp0 (c_moveCars l g a b S P hn hc hS) rfl rfl dX5_ticksUntilClear_17 (Nat.le_of_ble_eq_true rfl) ⟨(Nat.le_of_ble_eq_true rfl), (Nat.le_of_ble_eq_true rfl)⟩ ⟨(Nat.le_of_ble_eq_true rfl), (Nat.le_of_ble_eq_true rfl)⟩ (fun _ _ hx => hx.elim) (fun v17 w17 q17 => ?_)
        obtain ⟨rfl, rfl⟩ := q17
        refine A_if_ne ok.b (tgt := 25) dX5_ticksUntilClear_20 (by decide) (fun c20 => ?_) (fun c20 => ?_)
        · skip
          refine A_iinc ok.b (v := _ + 1) dX5_ticksUntilClear_25 (gps (gps gp0)) rfl (by decide) (sts (sts1 rfl st0)) ?_
          refine A_goto ok.b (tgt := 2) dX5_ticksUntilClear_28 (by decide) ?_
          have e2 := e.trans (show clearR P (r + 1) k S = clearR P r (k + 1) (moveF P S).2 by rw [clearR, if_neg c11, if_neg c20])
          rw [nI_1]
          exact ih (k + 1) _ (by omega) (COK_move hn hS) e2
        · skip
          refine A_iconst ok.b (v := (-1)) dX5_ticksUntilClear_23 (by decide) ?_
          refine A_iret ok dX5_ticksUntilClear_24 (Nat.le_of_ble_eq_true rfl) (Nat.le_of_ble_eq_true rfl) ?_
          have e2 := e.trans (show clearR P (r + 1) k S = (-1, (moveF P S).2) by rw [clearR, if_neg c11, if_pos c20])
          exact ⟨by rw [e2], by rw [e2]⟩
      · skip
        refine A_iload_n ok.b rfl dX5_ticksUntilClear_14 (gps (gps gp0)) ?_
        refine A_iret ok dX5_ticksUntilClear_15 (Nat.le_of_ble_eq_true rfl) (Nat.le_of_ble_eq_true rfl) ?_
        have e2 := e.trans (show clearR P (r + 1) k S = (nI k, S) by rw [clearR, if_pos c11])
        exact ⟨by rw [e2], by rw [e2]⟩
  refine A_iconst ok.b (v := 0) dX5_ticksUntilClear_0 (by decide) ?_
  refine A_istore_n ok.b rfl dX5_ticksUntilClear_1 (by decide) (sts (sts1 rfl st0)) ?_
  exact L (lm + 1) 0 T rfl hok rfl
def baySetF (f : Nat → Int32) : Nat → Int32
  | 0 => 0
  | k + 1 => if f k = -1 then baySetF f k else baySetF f k ||| ((1 : Int32) <<< (nI k &&& 31))
def openF (set_ : Int32) (i : Nat) (T : TD) : TD := if tBay T i = -1 then T else sBay T (upd (tBay T) i (if (set_ >>> (nI i &&& 31)) &&& 1 = 1 then 1 else 0))
def openAllF (P : PD) (set_ : Int32) (T : TD) : TD := foldN (openF set_) T (pN P)
def fanF (P : PD) (x : Int32) (i : Nat) (T : TD) : TD := if pHf P i = 0 then T else sFan T (upd (tFan T) i x)
def fansF (P : PD) (x : Int32) (T : TD) : TD := foldN (fanF P x) T (pN P)
set_option maxRecDepth 20000 in
set_option maxHeartbeats 2000000 in
theorem c_baySet (l : Launch) (g : Gl) (a b : Nat → Nat) (T : TD) (P : PD) (hn : pN P ≤ 12) (hc : pCar P ≤ 20) : Ct l g yX5_baySet cX5_baySet 3 (some .int) 0 0 0 0 [.ref (a 0)] (tpW g a b T P) (fun v w => v = some (.int (baySetF (tBay T) (pN P))) ∧ w = tpW g a b T P) noX := by
  refine Ct.intro [some (.ref (a 0)), none, none] (by decide +kernel) (fun _ h => h) (Nat.le_of_ble_eq_true rfl) (fun A H0 K ok => ?_)
  have L : ∀ k, k ≤ pN P → AW g A H0 3 K 4 [some (.ref (a 0)), some (.int (baySetF (tBay T) k)), some (.int (nI k))] [] (tpW g a b T P) 0 0 := by
    refine up_ind (pN P) ?_ (fun k hk ih => ?_)
    · skip
      refine A_iload_n ok.b rfl dX5_baySet_4 (gps (gps gp0)) ?_
      refine A_aload_n ok.b rfl dX5_baySet_5 gp0 ?_
      refine A_getf ok.b cf5 0 (by decide) fl_X5_42 gp0 gp0 dX5_baySet_6 ?_
      refine A_getf ok.b cf2 0 (by decide) fl_X5_80 (gps (gps (gps (gps (gps (gps (gps (gps (gps gp0))))))))) gp0 dX5_baySet_9 ?_
      refine A_icmp_ge ok.b (tgt := 37) dX5_baySet_12 (by decide) (fun c12 => ?_) (fun c12 => (c12 (nI_le (Nat.le_refl _) (by omega))).elim)
      refine A_iload_n ok.b rfl dX5_baySet_37 (gps gp0) ?_
      refine A_iret ok dX5_baySet_38 (Nat.le_of_ble_eq_true rfl) (Nat.le_of_ble_eq_true rfl) ?_
      exact ⟨rfl, rfl⟩
    · rw [baySetF] at ih
      refine A_iload_n ok.b rfl dX5_baySet_4 (gps (gps gp0)) ?_
      refine A_aload_n ok.b rfl dX5_baySet_5 gp0 ?_
      refine A_getf ok.b cf5 0 (by decide) fl_X5_42 gp0 gp0 dX5_baySet_6 ?_
      refine A_getf ok.b cf2 0 (by decide) fl_X5_80 (gps (gps (gps (gps (gps (gps (gps (gps (gps gp0))))))))) gp0 dX5_baySet_9 ?_
      refine A_icmp_ge ok.b (tgt := 37) dX5_baySet_12 (by decide) (fun c12 => (nI_ge hk (by omega) c12).elim) (fun c12 => ?_)
      refine A_aload_n ok.b rfl dX5_baySet_15 gp0 ?_
      refine A_getf ok.b cf5 8 (by decide) fl_X5_23 gp0 (gps (gps (gps (gps (gps (gps (gps (gps gp0)))))))) dX5_baySet_16 ?_
      refine A_iload_n ok.b rfl dX5_baySet_19 (gps (gps gp0)) ?_
      refine A_iald ok.b (gps (gps (gps gp0))) (ix_n (by omega) (by decide)) dX5_baySet_20 ?_
      refine A_iconst ok.b (v := (-1)) dX5_baySet_21 (by decide) ?_
      refine A_icmp_eq ok.b (tgt := 31) dX5_baySet_22 (by decide) (fun c22 => ?_) (fun c22 => ?_)
      · skip
        refine A_iinc ok.b (v := _ + 1) dX5_baySet_31 (gps (gps gp0)) rfl (by decide) (sts (sts1 rfl st0)) ?_
        refine A_goto ok.b (tgt := 4) dX5_baySet_34 (by decide) ?_
        rw [if_pos c22] at ih
        rw [nI_1]
        exact ih
      · skip
        refine A_iload_n ok.b rfl dX5_baySet_25 (gps gp0) ?_
        refine A_iconst ok.b (v := 1) dX5_baySet_26 (by decide) ?_
        refine A_iload_n ok.b rfl dX5_baySet_27 (gps (gps gp0)) ?_
        refine A_ishl ok.b dX5_baySet_28 ?_
        refine A_ior ok.b dX5_baySet_29 ?_
        refine A_istore_n ok.b rfl dX5_baySet_30 (by decide) (sts1 rfl st0) ?_
        refine A_iinc ok.b (v := _ + 1) dX5_baySet_31 (gps (gps gp0)) rfl (by decide) (sts (sts1 rfl st0)) ?_
        refine A_goto ok.b (tgt := 4) dX5_baySet_34 (by decide) ?_
        rw [if_neg c22] at ih
        rw [nI_1]
        exact ih
  refine A_iconst ok.b (v := 0) dX5_baySet_0 (by decide) ?_
  refine A_istore_n ok.b rfl dX5_baySet_1 (by decide) (sts1 rfl st0) ?_
  refine A_iconst ok.b (v := 0) dX5_baySet_2 (by decide) ?_
  refine A_istore_n ok.b rfl dX5_baySet_3 (by decide) (sts (sts1 rfl st0)) ?_
  exact L 0 (Nat.zero_le _)
set_option maxRecDepth 20000 in
set_option maxHeartbeats 2000000 in
theorem c_openExactly (l : Launch) (g : Gl) (a b : Nat → Nat) (T : TD) (P : PD) (hn : pN P ≤ 12) (hc : pCar P ≤ 20) (x : Int32) : Ct l g yX5_openExactly cX5_openExactly 3 none 0 0 0 0 [.ref (a 0), .int x] (tpW g a b T P) (fun v w => v = none ∧ w = tpW g a b (openAllF P x T) P) noX := by
  refine Ct.intro [some (.ref (a 0)), some (.int x), none] (by decide +kernel) (fun _ h => h) (Nat.le_of_ble_eq_true rfl) (fun A H0 K ok => ?_)
  have L : ∀ k, k ≤ pN P → AW g A H0 3 K 2 [some (.ref (a 0)), some (.int x), some (.int (nI k))] [] (tpW g a b (foldN (openF x) T k) P) 0 0 := by
    refine up_ind (pN P) ?_ (fun k hk ih => ?_)
    · skip
      refine A_iload_n ok.b rfl dX5_openExactly_2 (gps (gps gp0)) ?_
      refine A_aload_n ok.b rfl dX5_openExactly_3 gp0 ?_
      refine A_getf ok.b cf5 0 (by decide) fl_X5_42 gp0 gp0 dX5_openExactly_4 ?_
      refine A_getf ok.b cf2 0 (by decide) fl_X5_80 (gps (gps (gps (gps (gps (gps (gps (gps (gps gp0))))))))) gp0 dX5_openExactly_7 ?_
      refine A_icmp_ge ok.b (tgt := 49) dX5_openExactly_10 (by decide) (fun c10 => ?_) (fun c10 => (c10 (nI_le (Nat.le_refl _) (by omega))).elim)
      refine A_vret ok dX5_openExactly_49 (Nat.le_of_ble_eq_true rfl) (Nat.le_of_ble_eq_true rfl) ?_
      exact ⟨rfl, rfl⟩
    · rw [foldN_s] at ih
      generalize foldN (openF x) T k = S at ih ⊢
      refine A_iload_n ok.b rfl dX5_openExactly_2 (gps (gps gp0)) ?_
      refine A_aload_n ok.b rfl dX5_openExactly_3 gp0 ?_
      refine A_getf ok.b cf5 0 (by decide) fl_X5_42 gp0 gp0 dX5_openExactly_4 ?_
      refine A_getf ok.b cf2 0 (by decide) fl_X5_80 (gps (gps (gps (gps (gps (gps (gps (gps (gps gp0))))))))) gp0 dX5_openExactly_7 ?_
      refine A_icmp_ge ok.b (tgt := 49) dX5_openExactly_10 (by decide) (fun c10 => (nI_ge hk (by omega) c10).elim) (fun c10 => ?_)
      refine A_aload_n ok.b rfl dX5_openExactly_13 gp0 ?_
      refine A_getf ok.b cf5 8 (by decide) fl_X5_23 gp0 (gps (gps (gps (gps (gps (gps (gps (gps gp0)))))))) dX5_openExactly_14 ?_
      refine A_iload_n ok.b rfl dX5_openExactly_17 (gps (gps gp0)) ?_
      refine A_iald ok.b (gps (gps (gps gp0))) (ix_n (by omega) (by decide)) dX5_openExactly_18 ?_
      refine A_iconst ok.b (v := (-1)) dX5_openExactly_19 (by decide) ?_
      refine A_icmp_eq ok.b (tgt := 43) dX5_openExactly_20 (by decide) (fun c20 => ?_) (fun c20 => ?_)
      · skip
        refine A_iinc ok.b (v := _ + 1) dX5_openExactly_43 (gps (gps gp0)) rfl (by decide) (sts (sts1 rfl st0)) ?_
        refine A_goto ok.b (tgt := 2) dX5_openExactly_46 (by decide) ?_
        rw [openF, if_pos c20] at ih
        rw [nI_1]
        exact ih
      · skip
        refine A_aload_n ok.b rfl dX5_openExactly_23 gp0 ?_
        refine A_getf ok.b cf5 8 (by decide) fl_X5_23 gp0 (gps (gps (gps (gps (gps (gps (gps (gps gp0)))))))) dX5_openExactly_24 ?_
        refine A_iload_n ok.b rfl dX5_openExactly_27 (gps (gps gp0)) ?_
        refine A_iload_n ok.b rfl dX5_openExactly_28 (gps gp0) ?_
        refine A_iload_n ok.b rfl dX5_openExactly_29 (gps (gps gp0)) ?_
        refine A_ishr ok.b dX5_openExactly_30 ?_
        refine A_iconst ok.b (v := 1) dX5_openExactly_31 (by decide) ?_
        refine A_iand ok.b dX5_openExactly_32 ?_
        refine A_iconst ok.b (v := 1) dX5_openExactly_33 (by decide) ?_
        refine A_icmp_ne ok.b (tgt := 41) dX5_openExactly_34 (by decide) (fun c34 => ?_) (fun c34 => ?_)
        · skip
          refine A_iconst ok.b (v := 0) dX5_openExactly_41 (by decide) ?_
          refine A_iast ok.b (gps (gps (gps gp0))) (ix_n (by omega) (by decide)) (wps (wps (wps wp0))) dX5_openExactly_42 ?_
          refine A_iinc ok.b (v := _ + 1) dX5_openExactly_43 (gps (gps gp0)) rfl (by decide) (sts (sts1 rfl st0)) ?_
          refine A_goto ok.b (tgt := 2) dX5_openExactly_46 (by decide) ?_
          rw [openF, if_neg c20, if_neg c34] at ih
          rw [nI_1]
          exact ih
        · skip
          refine A_iconst ok.b (v := 1) dX5_openExactly_37 (by decide) ?_
          refine A_goto ok.b (tgt := 42) dX5_openExactly_38 (by decide) ?_
          refine A_iast ok.b (gps (gps (gps gp0))) (ix_n (by omega) (by decide)) (wps (wps (wps wp0))) dX5_openExactly_42 ?_
          refine A_iinc ok.b (v := _ + 1) dX5_openExactly_43 (gps (gps gp0)) rfl (by decide) (sts (sts1 rfl st0)) ?_
          refine A_goto ok.b (tgt := 2) dX5_openExactly_46 (by decide) ?_
          rw [openF, if_neg c20, if_pos c34] at ih
          rw [nI_1]
          exact ih
  refine A_iconst ok.b (v := 0) dX5_openExactly_0 (by decide) ?_
  refine A_istore_n ok.b rfl dX5_openExactly_1 (by decide) (sts (sts1 rfl st0)) ?_
  exact L 0 (Nat.zero_le _)
set_option maxRecDepth 20000 in
set_option maxHeartbeats 2000000 in
theorem c_setAllFans (l : Launch) (g : Gl) (a b : Nat → Nat) (T : TD) (P : PD) (hn : pN P ≤ 12) (hc : pCar P ≤ 20) (x : Int32) : Ct l g yX5_setAllFans cX5_setAllFans 3 none 0 0 0 0 [.ref (a 0), .int x] (tpW g a b T P) (fun v w => v = none ∧ w = tpW g a b (fansF P x T) P) noX := by
  refine Ct.intro [some (.ref (a 0)), some (.int x), none] (by decide +kernel) (fun _ h => h) (Nat.le_of_ble_eq_true rfl) (fun A H0 K ok => ?_)
  have L : ∀ k, k ≤ pN P → AW g A H0 3 K 2 [some (.ref (a 0)), some (.int x), some (.int (nI k))] [] (tpW g a b (foldN (fanF P x) T k) P) 0 0 := by
    refine up_ind (pN P) ?_ (fun k hk ih => ?_)
    · skip
      refine A_iload_n ok.b rfl dX5_setAllFans_2 (gps (gps gp0)) ?_
      refine A_aload_n ok.b rfl dX5_setAllFans_3 gp0 ?_
      refine A_getf ok.b cf5 0 (by decide) fl_X5_42 gp0 gp0 dX5_setAllFans_4 ?_
      refine A_getf ok.b cf2 0 (by decide) fl_X5_80 (gps (gps (gps (gps (gps (gps (gps (gps (gps gp0))))))))) gp0 dX5_setAllFans_7 ?_
      refine A_icmp_ge ok.b (tgt := 38) dX5_setAllFans_10 (by decide) (fun c10 => ?_) (fun c10 => (c10 (nI_le (Nat.le_refl _) (by omega))).elim)
      refine A_vret ok dX5_setAllFans_38 (Nat.le_of_ble_eq_true rfl) (Nat.le_of_ble_eq_true rfl) ?_
      exact ⟨rfl, rfl⟩
    · rw [foldN_s] at ih
      generalize foldN (fanF P x) T k = S at ih ⊢
      refine A_iload_n ok.b rfl dX5_setAllFans_2 (gps (gps gp0)) ?_
      refine A_aload_n ok.b rfl dX5_setAllFans_3 gp0 ?_
      refine A_getf ok.b cf5 0 (by decide) fl_X5_42 gp0 gp0 dX5_setAllFans_4 ?_
      refine A_getf ok.b cf2 0 (by decide) fl_X5_80 (gps (gps (gps (gps (gps (gps (gps (gps (gps gp0))))))))) gp0 dX5_setAllFans_7 ?_
      refine A_icmp_ge ok.b (tgt := 38) dX5_setAllFans_10 (by decide) (fun c10 => (nI_ge hk (by omega) c10).elim) (fun c10 => ?_)
      refine A_aload_n ok.b rfl dX5_setAllFans_13 gp0 ?_
      refine A_getf ok.b cf5 0 (by decide) fl_X5_42 gp0 gp0 dX5_setAllFans_14 ?_
      refine A_getf ok.b cf2 5 (by decide) fl_X5_153 (gps (gps (gps (gps (gps (gps (gps (gps (gps gp0))))))))) (gps (gps (gps (gps (gps gp0))))) dX5_setAllFans_17 ?_
      refine A_iload_n ok.b rfl dX5_setAllFans_20 (gps (gps gp0)) ?_
      refine A_zald ok.b (gps (gps (gps (gps (gps (gps (gps (gps (gps (gps (gps gp0))))))))))) (ix_n (by omega) (by decide)) dX5_setAllFans_21 ?_
      refine A_if_eq ok.b (tgt := 32) dX5_setAllFans_22 (by decide) (fun c22 => ?_) (fun c22 => ?_)
      · skip
        refine A_iinc ok.b (v := _ + 1) dX5_setAllFans_32 (gps (gps gp0)) rfl (by decide) (sts (sts1 rfl st0)) ?_
        refine A_goto ok.b (tgt := 2) dX5_setAllFans_35 (by decide) ?_
        rw [fanF, if_pos c22] at ih
        rw [nI_1]
        exact ih
      · skip
        refine A_aload_n ok.b rfl dX5_setAllFans_25 gp0 ?_
        refine A_getf ok.b cf5 7 (by decide) fl_X5_19 gp0 (gps (gps (gps (gps (gps (gps (gps gp0))))))) dX5_setAllFans_26 ?_
        refine A_iload_n ok.b rfl dX5_setAllFans_29 (gps (gps gp0)) ?_
        refine A_iload_n ok.b rfl dX5_setAllFans_30 (gps gp0) ?_
        refine A_iast ok.b (gps (gps gp0)) (ix_n (by omega) (by decide)) (wps (wps wp0)) dX5_setAllFans_31 ?_
        refine A_iinc ok.b (v := _ + 1) dX5_setAllFans_32 (gps (gps gp0)) rfl (by decide) (sts (sts1 rfl st0)) ?_
        refine A_goto ok.b (tgt := 2) dX5_setAllFans_35 (by decide) ?_
        rw [fanF, if_neg c22] at ih
        rw [nI_1]
        exact ih
  refine A_iconst ok.b (v := 0) dX5_setAllFans_0 (by decide) ?_
  refine A_istore_n ok.b rfl dX5_setAllFans_1 (by decide) (sts (sts1 rfl st0)) ?_
  exact L 0 (Nat.zero_le _)
