def limE (x : Int32) : Bool := !inB x 0 200
def tikE (x : Int32) : Bool := !inB x 0 60
def setE (x : Int32) : Bool := !inB x (-10) 10
theorem inB_n {x : Int32} {n : Nat} (hn : n < 2 ^ 30) (h : inB x 0 (nI n) = true) : ∃ t, t ≤ n ∧ x = nI t := by
  have h1 : ¬ x < 0 := fun h2 => by rw [inB_f1 h2] at h; exact absurd h Bool.false_ne_true
  have h2 : ¬ nI n < x := fun h3 => by rw [inB_f2 h3] at h; exact absurd h Bool.false_ne_true
  exact nI_of2 (M := nI n) (nI_toInt (by omega)) h1 (Int32.not_lt.mp h2)
theorem lim_nat {x : Int32} (h : limE x = false) : ∃ t, t ≤ 200 ∧ x = nI t := by
  refine inB_n (n := 200) (by decide) ?_
  cases hb : inB x 0 (nI 200)
  · have h2 : inB x 0 200 = false := hb
    rw [limE, h2] at h; exact absurd h (by decide)
  · rfl
theorem tik_nat {x : Int32} (h : tikE x = false) : ∃ t, t ≤ 60 ∧ x = nI t := by
  refine inB_n (n := 60) (by decide) ?_
  cases hb : inB x 0 (nI 60)
  · have h2 : inB x 0 60 = false := hb
    rw [tikE, h2] at h; exact absurd h (by decide)
  · rfl
set_option maxRecDepth 20000 in
set_option maxHeartbeats 2000000 in
theorem r_clearingTime (l : Launch) (g : Gl) (m : Nat → Nat) (s : MS) (X : TS) (d : Nat → Int32) (n nc : Nat) (hn : n ≤ 12) (hnc : nc ≤ 20) (cs : Nat → Int32) (kc : Nat) (hT : TKd n nc cs kc d) (x0 : Int32) : Ct l g yX7_clearingTime cX7_clearingTime 2 (some .int) 6 300 0 0 [.ref (m 0), .int x0] (fuW g m (s) (X) (d)) (fun v w => v = some (.int (if limE x0 = true then 0 else (clF n nc cs kc (x0.toNatClampNeg + 1) 0 (X.wd d)).1)) ∧ w = (fuW g m (s.wth (if limE x0 = true then 1 else 0)) (if limE x0 = true then X else (clF n nc cs kc (x0.toNatClampNeg + 1) 0 (X.wd d)).2) (d))) noX := by
  refine Ct.intro [some (.ref (m 0)), some (.int x0)] (by decide +kernel) (fun _ h => h) (Nat.le_of_ble_eq_true rfl) (fun A H0 K ok => ?_)
  refine A_aload_n ok.b rfl dX7_clearingTime_0 gp0 ?_
  refine A_iconst ok.b (v := 0) dX7_clearingTime_1 (by decide) ?_
  refine A_putf ok.b cf7 0 (by decide) rfl fl_X7_45 gp0 rfl rfl (gp_lt gp0) wp0 wp0 dX7_clearingTime_2 ?_
  refine A_aload_n ok.b rfl dX7_clearingTime_5 gp0 ?_
  refine A_iload_n ok.b rfl dX7_clearingTime_6 (gps gp0) ?_
  refine A_iconst ok.b (v := 0) dX7_clearingTime_7 (by decide) ?_
  refine A_sipush ok.b (v := 200) dX7_clearingTime_8 (by decide) ?_
  refine A_pureS ok.b (As := [_, _, _]) mf_X7_in ml_X7_67 rfl sc_X7_in (r_in l g _ _ _) rfl rfl dX7_clearingTime_11 (Nat.le_of_ble_eq_true rfl) ⟨(Nat.le_of_ble_eq_true rfl), (Nat.le_of_ble_eq_true rfl)⟩ ⟨(Nat.le_of_ble_eq_true rfl), (Nat.le_of_ble_eq_true rfl)⟩ ?_
  refine A_if_ne ok.b (tgt := 21) dX7_clearingTime_14 (by decide) (fun c14 => ?_) (fun c14 => ?_)
  · skip
    refine A_iconst ok.b (v := 0) dX7_clearingTime_21 (by decide) ?_
    refine A_iconst ok.b (v := 1) dX7_clearingTime_22 (by decide) ?_
    refine A_callVR ok [0] [1, 2, 3, 4, 5, 6] (As := [_, _]) (wr := ([(m 7, .inl (g.2.1 0, 12, .inl (X).re)), (m 8, .inl (g.2.1 3, 20, .inl (X).st)), (m 9, .inl (g.2.1 3, 20, .inl (X).dr)), (m 6, .inl (g.2.1 1, 1300, .inr (.inl (X).sk))), (m 4, .inl (g.2.1 0, 1476, .inl ((X).d))), (m 2, .inl (g.2.1 0, 1476, .inl (d)))] : va_W)) mf_X7_fails ml_X7_194 in_X7_fails se_X7_fails cf7 gp0 (r_fails l g m (s.wth 0) rfl false 1 (by decide)) rfl rfl rfl dX7_clearingTime_23 rfl rfl rfl (by decide) (Nat.le_of_ble_eq_true rfl) ⟨(Nat.le_of_ble_eq_true rfl), (Nat.le_of_ble_eq_true rfl)⟩ ⟨(Nat.le_of_ble_eq_true rfl), (Nat.le_of_ble_eq_true rfl)⟩ (fun _ _ hx => hx.elim) (fun v23 w23 q23 => ?_)
    obtain ⟨rfl, rfl⟩ := q23
    refine A_sub [6, 0, 1, 2, 3, 4, 5] (ws2 := (fuW g m (thS false 1 (s.wth 0)) (X) (d))) rfl rfl ?_
    refine A_if_eq ok.b (tgt := 31) dX7_clearingTime_26 (by decide) (fun c26 => ?_) (fun c26 => ((show False from c26 rfl)).elim)
    have hb : limE x0 = false := by rw [limE, bI_n c14]; rfl
    obtain ⟨L, hL, rfl⟩ := lim_nat hb
    refine A_aload_n ok.b rfl dX7_clearingTime_31 gp0 ?_
    refine A_getf ok.b cf7 8 (by decide) fl_X7_17 gp0 (gps (gps (gps (gps (gps (gps (gps (gps gp0)))))))) dX7_clearingTime_32 ?_
    refine A_aload_n ok.b rfl dX7_clearingTime_35 gp0 ?_
    refine A_getf ok.b cf7 10 (by decide) fl_X7_23 gp0 (gps (gps (gps (gps (gps (gps (gps (gps (gps (gps gp0)))))))))) dX7_clearingTime_36 ?_
    refine A_callSR ok [6, 5] [0, 1, 2, 3, 4] (As := [_, _]) (wr := ([moC m (s.wth 0), (m 7, .inl (g.2.1 0, 12, .inl (X).re)), (m 8, .inl (g.2.1 3, 20, .inl (X).st)), (m 9, .inl (g.2.1 3, 20, .inl (X).dr)), (m 6, .inl (g.2.1 1, 1300, .inr (.inl (X).sk)))] : va_W)) mf_X7_copy ml_X7_206 rfl sc_X7_copy  (r_copy l g (m 2) (m 4) d X.d) rfl rfl rfl dX7_clearingTime_39 rfl rfl rfl (by decide) (Nat.le_of_ble_eq_true rfl) ⟨(Nat.le_of_ble_eq_true rfl), (Nat.le_of_ble_eq_true rfl)⟩ ⟨(Nat.le_of_ble_eq_true rfl), (Nat.le_of_ble_eq_true rfl)⟩ (fun _ _ hx => hx.elim) (fun v39 w39 q39 => ?_)
    obtain ⟨rfl, rfl⟩ := q39
    refine A_sub [0, 1, 2, 3, 4, 6, 5] (ws2 := (fuW g m (s.wth 0) (X.wd d) (d))) rfl rfl ?_
    refine A_aload_n ok.b rfl dX7_clearingTime_42 gp0 ?_
    refine A_iload_n ok.b rfl dX7_clearingTime_43 (gps gp0) ?_
    refine A_callVR ok [0, 1, 2, 3, 4, 5] [6] (As := [_]) (wr := ([(m 2, .inl (g.2.1 0, 1476, .inl d))] : va_W)) mf_X7_clears ml_X7_275 in_X7_clears se_X7_clears cf7 gp0 (r_clears l g m (s.wth 0) (X.wd d) n nc hn hnc cs kc hT L (by omega)) rfl rfl rfl dX7_clearingTime_44 rfl rfl rfl (by decide) (Nat.le_of_ble_eq_true rfl) ⟨(Nat.le_of_ble_eq_true rfl), (Nat.le_of_ble_eq_true rfl)⟩ ⟨(Nat.le_of_ble_eq_true rfl), (Nat.le_of_ble_eq_true rfl)⟩ (fun _ _ hx => hx.elim) (fun v44 w44 q44 => ?_)
    obtain ⟨rfl, rfl⟩ := q44
    generalize hC : clF n nc cs kc (L + 1) 0 (X.wd d) = C
    refine A_sub [1, 2, 3, 4, 5, 6, 0] (ws2 := (fuW g m (s.wth 0) (C.2) (d))) rfl rfl ?_
    refine A_iret ok dX7_clearingTime_47 (Nat.le_of_ble_eq_true rfl) (Nat.le_of_ble_eq_true rfl) ?_
    exact ⟨by rw [if_neg (by rw [hb]; decide), nI_clamp (by omega), hC], by rw [if_neg (by rw [hb]; decide), if_neg (by rw [hb]; decide), nI_clamp (by omega), hC]⟩
  · skip
    refine A_iconst ok.b (v := 1) dX7_clearingTime_17 (by decide) ?_
    refine A_goto ok.b (tgt := 22) dX7_clearingTime_18 (by decide) ?_
    refine A_iconst ok.b (v := 1) dX7_clearingTime_22 (by decide) ?_
    refine A_callVR ok [0] [1, 2, 3, 4, 5, 6] (As := [_, _]) (wr := ([(m 7, .inl (g.2.1 0, 12, .inl (X).re)), (m 8, .inl (g.2.1 3, 20, .inl (X).st)), (m 9, .inl (g.2.1 3, 20, .inl (X).dr)), (m 6, .inl (g.2.1 1, 1300, .inr (.inl (X).sk))), (m 4, .inl (g.2.1 0, 1476, .inl ((X).d))), (m 2, .inl (g.2.1 0, 1476, .inl (d)))] : va_W)) mf_X7_fails ml_X7_194 in_X7_fails se_X7_fails cf7 gp0 (r_fails l g m (s.wth 0) rfl true 1 (by decide)) rfl rfl rfl dX7_clearingTime_23 rfl rfl rfl (by decide) (Nat.le_of_ble_eq_true rfl) ⟨(Nat.le_of_ble_eq_true rfl), (Nat.le_of_ble_eq_true rfl)⟩ ⟨(Nat.le_of_ble_eq_true rfl), (Nat.le_of_ble_eq_true rfl)⟩ (fun _ _ hx => hx.elim) (fun v23 w23 q23 => ?_)
    obtain ⟨rfl, rfl⟩ := q23
    refine A_sub [6, 0, 1, 2, 3, 4, 5] (ws2 := (fuW g m (thS true 1 (s.wth 0)) (X) (d))) rfl rfl ?_
    refine A_if_eq ok.b (tgt := 31) dX7_clearingTime_26 (by decide) (fun c26 => ((show False from absurd c26 (by decide))).elim) (fun c26 => ?_)
    refine A_iconst ok.b (v := 0) dX7_clearingTime_29 (by decide) ?_
    refine A_iret ok dX7_clearingTime_30 (Nat.le_of_ble_eq_true rfl) (Nat.le_of_ble_eq_true rfl) ?_
    have hb : limE x0 = true := by rw [limE, bI_ff c14]; rfl
    exact ⟨by rw [if_pos hb], by rw [if_pos hb, if_pos hb] <;> rfl⟩
def ewE (x t : Int32) : Bool := setE x || tikE t
set_option maxRecDepth 20000 in
set_option maxHeartbeats 2000000 in
theorem r_exposureWith (l : Launch) (g : Gl) (m : Nat → Nat) (s : MS) (X : TS) (d : Nat → Int32) (n nc : Nat) (hn : n ≤ 12) (hnc : nc ≤ 20) (cs : Nat → Int32) (kc : Nat) (hT : TKd n nc cs kc d) (x0 t0 : Int32) : Ct l g yX7_exposureWith cX7_exposureWith 3 (some .long) 6 300 0 0 [.ref (m 0), .int x0, .int t0] (fuW g m (s) (X) (d)) (fun v w => v = some (.long (if ewE x0 t0 = true then 0 else (exF n nc cs kc x0 t0.toNatClampNeg X d).1)) ∧ w = (fuW g m (s.wth (if ewE x0 t0 = true then 1 else 0)) (if ewE x0 t0 = true then X else (exF n nc cs kc x0 t0.toNatClampNeg X d).2) (d))) noX := by
  refine Ct.intro [some (.ref (m 0)), some (.int x0), some (.int t0)] (by decide +kernel) (fun _ h => h) (Nat.le_of_ble_eq_true rfl) (fun A H0 K ok => ?_)
  refine A_aload_n ok.b rfl dX7_exposureWith_0 gp0 ?_
  refine A_iconst ok.b (v := 0) dX7_exposureWith_1 (by decide) ?_
  refine A_putf ok.b cf7 0 (by decide) rfl fl_X7_45 gp0 rfl rfl (gp_lt gp0) wp0 wp0 dX7_exposureWith_2 ?_
  refine A_aload_n ok.b rfl dX7_exposureWith_5 gp0 ?_
  refine A_iload_n ok.b rfl dX7_exposureWith_6 (gps gp0) ?_
  refine A_bipush ok.b (v := (-10)) dX7_exposureWith_7 (by decide) ?_
  refine A_bipush ok.b (v := 10) dX7_exposureWith_9 (by decide) ?_
  refine A_pureS ok.b (As := [_, _, _]) mf_X7_in ml_X7_67 rfl sc_X7_in (r_in l g _ _ _) rfl rfl dX7_exposureWith_11 (Nat.le_of_ble_eq_true rfl) ⟨(Nat.le_of_ble_eq_true rfl), (Nat.le_of_ble_eq_true rfl)⟩ ⟨(Nat.le_of_ble_eq_true rfl), (Nat.le_of_ble_eq_true rfl)⟩ ?_
  refine A_if_eq ok.b (tgt := 27) dX7_exposureWith_14 (by decide) (fun c14 => ?_) (fun c14 => ?_)
  · skip
    refine A_iconst ok.b (v := 1) dX7_exposureWith_27 (by decide) ?_
    refine A_goto ok.b (tgt := 32) dX7_exposureWith_28 (by decide) ?_
    refine A_iconst ok.b (v := 1) dX7_exposureWith_32 (by decide) ?_
    refine A_callVR ok [0] [1, 2, 3, 4, 5, 6] (As := [_, _]) (wr := ([(m 7, .inl (g.2.1 0, 12, .inl (X).re)), (m 8, .inl (g.2.1 3, 20, .inl (X).st)), (m 9, .inl (g.2.1 3, 20, .inl (X).dr)), (m 6, .inl (g.2.1 1, 1300, .inr (.inl (X).sk))), (m 4, .inl (g.2.1 0, 1476, .inl ((X).d))), (m 2, .inl (g.2.1 0, 1476, .inl (d)))] : va_W)) mf_X7_fails ml_X7_194 in_X7_fails se_X7_fails cf7 gp0 (r_fails l g m (s.wth 0) rfl true 1 (by decide)) rfl rfl rfl dX7_exposureWith_33 rfl rfl rfl (by decide) (Nat.le_of_ble_eq_true rfl) ⟨(Nat.le_of_ble_eq_true rfl), (Nat.le_of_ble_eq_true rfl)⟩ ⟨(Nat.le_of_ble_eq_true rfl), (Nat.le_of_ble_eq_true rfl)⟩ (fun _ _ hx => hx.elim) (fun v33 w33 q33 => ?_)
    obtain ⟨rfl, rfl⟩ := q33
    refine A_sub [6, 0, 1, 2, 3, 4, 5] (ws2 := (fuW g m (thS true 1 (s.wth 0)) (X) (d))) rfl rfl ?_
    refine A_if_eq ok.b (tgt := 43) dX7_exposureWith_36 (by decide) (fun c36 => ((show False from absurd c36 (by decide))).elim) (fun c36 => ?_)
    refine A_lconst ok.b (v := 0) dX7_exposureWith_39 (by decide) ?_
    refine A_goto ok.b (tgt := 49) dX7_exposureWith_40 (by decide) ?_
    refine A_lret ok dX7_exposureWith_49 (Nat.le_of_ble_eq_true rfl) (Nat.le_of_ble_eq_true rfl) ?_
    have hb : ewE x0 t0 = true := by rw [ewE, setE, bI_ff c14]; rfl
    exact ⟨by rw [if_pos hb], by rw [if_pos hb, if_pos hb] <;> rfl⟩
  · skip
    refine A_iload_n ok.b rfl dX7_exposureWith_17 (gps (gps gp0)) ?_
    refine A_iconst ok.b (v := 0) dX7_exposureWith_18 (by decide) ?_
    refine A_bipush ok.b (v := 60) dX7_exposureWith_19 (by decide) ?_
    refine A_pureS ok.b (As := [_, _, _]) mf_X7_in ml_X7_67 rfl sc_X7_in (r_in l g _ _ _) rfl rfl dX7_exposureWith_21 (Nat.le_of_ble_eq_true rfl) ⟨(Nat.le_of_ble_eq_true rfl), (Nat.le_of_ble_eq_true rfl)⟩ ⟨(Nat.le_of_ble_eq_true rfl), (Nat.le_of_ble_eq_true rfl)⟩ ?_
    refine A_if_ne ok.b (tgt := 31) dX7_exposureWith_24 (by decide) (fun c24 => ?_) (fun c24 => ?_)
    · skip
      refine A_iconst ok.b (v := 0) dX7_exposureWith_31 (by decide) ?_
      refine A_iconst ok.b (v := 1) dX7_exposureWith_32 (by decide) ?_
      refine A_callVR ok [0] [1, 2, 3, 4, 5, 6] (As := [_, _]) (wr := ([(m 7, .inl (g.2.1 0, 12, .inl (X).re)), (m 8, .inl (g.2.1 3, 20, .inl (X).st)), (m 9, .inl (g.2.1 3, 20, .inl (X).dr)), (m 6, .inl (g.2.1 1, 1300, .inr (.inl (X).sk))), (m 4, .inl (g.2.1 0, 1476, .inl ((X).d))), (m 2, .inl (g.2.1 0, 1476, .inl (d)))] : va_W)) mf_X7_fails ml_X7_194 in_X7_fails se_X7_fails cf7 gp0 (r_fails l g m (s.wth 0) rfl false 1 (by decide)) rfl rfl rfl dX7_exposureWith_33 rfl rfl rfl (by decide) (Nat.le_of_ble_eq_true rfl) ⟨(Nat.le_of_ble_eq_true rfl), (Nat.le_of_ble_eq_true rfl)⟩ ⟨(Nat.le_of_ble_eq_true rfl), (Nat.le_of_ble_eq_true rfl)⟩ (fun _ _ hx => hx.elim) (fun v33 w33 q33 => ?_)
      obtain ⟨rfl, rfl⟩ := q33
      refine A_sub [6, 0, 1, 2, 3, 4, 5] (ws2 := (fuW g m (thS false 1 (s.wth 0)) (X) (d))) rfl rfl ?_
      refine A_if_eq ok.b (tgt := 43) dX7_exposureWith_36 (by decide) (fun c36 => ?_) (fun c36 => ((show False from c36 rfl)).elim)
      have hx : setE x0 = false := by rw [setE, bI_n c14]; rfl
      have ht : tikE t0 = false := by rw [tikE, bI_n c24]; rfl
      have hb : ewE x0 t0 = false := by rw [ewE, hx, ht]; rfl
      obtain ⟨T, hTl, rfl⟩ := tik_nat ht
      refine A_aload_n ok.b rfl dX7_exposureWith_43 gp0 ?_
      refine A_iload_n ok.b rfl dX7_exposureWith_44 (gps gp0) ?_
      refine A_iload_n ok.b rfl dX7_exposureWith_45 (gps (gps gp0)) ?_
      refine A_sameVR ok (As := [_, _]) mf_X7_exposes ml_X7_290 in_X7_exposes se_X7_exposes cf7 gp0 (r_exposes l g m (s.wth 0) X d n nc hn hnc cs kc hT x0 T (by omega)) rfl rfl dX7_exposureWith_46 (Nat.le_of_ble_eq_true rfl) ⟨(Nat.le_of_ble_eq_true rfl), (Nat.le_of_ble_eq_true rfl)⟩ ⟨(Nat.le_of_ble_eq_true rfl), (Nat.le_of_ble_eq_true rfl)⟩ (fun _ _ hx => hx.elim) (fun v46 w46 q46 => ?_)
      obtain ⟨rfl, rfl⟩ := q46
      refine A_lret ok dX7_exposureWith_49 (Nat.le_of_ble_eq_true rfl) (Nat.le_of_ble_eq_true rfl) ?_
      exact ⟨by rw [if_neg (by rw [hb]; decide), nI_clamp (by omega)], by rw [if_neg (by rw [hb]; decide), if_neg (by rw [hb]; decide), nI_clamp (by omega)] <;> rfl⟩
    · skip
      refine A_iconst ok.b (v := 1) dX7_exposureWith_27 (by decide) ?_
      refine A_goto ok.b (tgt := 32) dX7_exposureWith_28 (by decide) ?_
      refine A_iconst ok.b (v := 1) dX7_exposureWith_32 (by decide) ?_
      refine A_callVR ok [0] [1, 2, 3, 4, 5, 6] (As := [_, _]) (wr := ([(m 7, .inl (g.2.1 0, 12, .inl (X).re)), (m 8, .inl (g.2.1 3, 20, .inl (X).st)), (m 9, .inl (g.2.1 3, 20, .inl (X).dr)), (m 6, .inl (g.2.1 1, 1300, .inr (.inl (X).sk))), (m 4, .inl (g.2.1 0, 1476, .inl ((X).d))), (m 2, .inl (g.2.1 0, 1476, .inl (d)))] : va_W)) mf_X7_fails ml_X7_194 in_X7_fails se_X7_fails cf7 gp0 (r_fails l g m (s.wth 0) rfl true 1 (by decide)) rfl rfl rfl dX7_exposureWith_33 rfl rfl rfl (by decide) (Nat.le_of_ble_eq_true rfl) ⟨(Nat.le_of_ble_eq_true rfl), (Nat.le_of_ble_eq_true rfl)⟩ ⟨(Nat.le_of_ble_eq_true rfl), (Nat.le_of_ble_eq_true rfl)⟩ (fun _ _ hx => hx.elim) (fun v33 w33 q33 => ?_)
      obtain ⟨rfl, rfl⟩ := q33
      refine A_sub [6, 0, 1, 2, 3, 4, 5] (ws2 := (fuW g m (thS true 1 (s.wth 0)) (X) (d))) rfl rfl ?_
      refine A_if_eq ok.b (tgt := 43) dX7_exposureWith_36 (by decide) (fun c36 => ((show False from absurd c36 (by decide))).elim) (fun c36 => ?_)
      refine A_lconst ok.b (v := 0) dX7_exposureWith_39 (by decide) ?_
      refine A_goto ok.b (tgt := 49) dX7_exposureWith_40 (by decide) ?_
      refine A_lret ok dX7_exposureWith_49 (Nat.le_of_ble_eq_true rfl) (Nat.le_of_ble_eq_true rfl) ?_
      have hb : ewE x0 t0 = true := by rw [ewE, tikE, bI_ff c24]; cases setE x0 <;> rfl
      exact ⟨by rw [if_pos hb], by rw [if_pos hb, if_pos hb] <;> rfl⟩
/-- one setting tried: the best, the least, the cells -/
def bsR1 (n nc : Nat) (cs : Nat → Int32) (kc T : Nat) (d : Nat → Int32) (x : Int32) (S : Int32 × Int64 × TS) : Int32 × Int64 × TS :=
  if (exF n nc cs kc x T S.2.2 d).1 < S.2.1 then (x, (exF n nc cs kc x T S.2.2 d).1, (exF n nc cs kc x T S.2.2 d).2) else (S.1, S.2.1, (exF n nc cs kc x T S.2.2 d).2)
def bsR2 (n nc : Nat) (cs : Nat → Int32) (kc T : Nat) (d : Nat → Int32) (k : Nat) (S : Int32 × Int64 × TS) : Int32 × Int64 × TS := bsR1 n nc cs kc T d (-1 * nI (k + 1)) (bsR1 n nc cs kc T d (1 * nI (k + 1)) S)
def bsR (n nc : Nat) (cs : Nat → Int32) (kc T : Nat) (d : Nat → Int32) (X : TS) (k : Nat) : Int32 × Int64 × TS := foldN (bsR2 n nc cs kc T d) (0, (exF n nc cs kc 0 T X d).1, (exF n nc cs kc 0 T X d).2) k
theorem lg_lt {x y : Int64} (h : lg_cmp x y < 0) : x < y := nge_lt (fun h2 => absurd h (Int32.not_lt.mpr h2))
theorem lg_nlt {x y : Int64} (h : ¬ lg_cmp x y < 0) : ¬ x < y := ge_lt (Int32.not_lt.mp h)
set_option maxRecDepth 20000 in
set_option maxHeartbeats 2000000 in
theorem r_bestSettingN (l : Launch) (g : Gl) (m : Nat → Nat) (s : MS) (X : TS) (d : Nat → Int32) (n nc : Nat) (hn : n ≤ 12) (hnc : nc ≤ 20) (cs : Nat → Int32) (kc : Nat) (hT : TKd n nc cs kc d) (T : Nat) (hTl : T < 1000) : Ct l g yX7_bestSetting cX7_bestSetting 9 (some .int) 6 300 0 0 [.ref (m 0), .int (nI T)] (fuW g m (s) (X) (d)) (fun v w => v = some (.int (if tikE (nI T) = true then 0 else (bsR n nc cs kc (nI T).toNatClampNeg d X 10).1)) ∧ w = (fuW g m (s.wth (if tikE (nI T) = true then 1 else 0)) (if tikE (nI T) = true then X else (bsR n nc cs kc (nI T).toNatClampNeg d X 10).2.2) (d))) noX := by
  refine Ct.intro [some (.ref (m 0)), some (.int (nI T)), none, none, none, none, none, none, none] (by decide +kernel) (fun _ h => h) (Nat.le_of_ble_eq_true rfl) (fun A H0 K ok => ?_)
  have LK : ∀ hb : tikE (nI T) = false, ∀ k, k ≤ 10 → AW g A H0 9 K 42 [some (.ref (m 0)), some (.int (nI T)), some (.int ((bsR n nc cs kc T d X k).1)), some (.long ((bsR n nc cs kc T d X k).2.1)), none, some (.int (nI (k + 1))), none, none, none] [] (fuW g m (s.wth 0) ((bsR n nc cs kc T d X k).2.2) (d)) 0 0 := by
    intro hb
    refine up_ind 10 ?_ (fun k hk ih => ?_)
    · skip
      refine A_iload ok.b dX7_bestSetting_42 (gps (gps (gps (gps (gps gp0))))) ?_
      refine A_bipush ok.b (v := 10) dX7_bestSetting_44 (by decide) ?_
      refine A_icmp_gt ok.b (tgt := 101) dX7_bestSetting_46 (by decide) (fun c46 => ?_) (fun c46 => ((show False from c46 (by decide))).elim)
      refine A_iload_n ok.b rfl dX7_bestSetting_101 (gps (gps gp0)) ?_
      refine A_iret ok dX7_bestSetting_102 (Nat.le_of_ble_eq_true rfl) (Nat.le_of_ble_eq_true rfl) ?_
      exact ⟨by rw [if_neg (by rw [hb]; decide), nI_clamp (by omega)], by rw [if_neg (by rw [hb]; decide), if_neg (by rw [hb]; decide), nI_clamp (by omega)]⟩
    · rw [bsR, foldN_s, ← bsR] at ih
      generalize bsR n nc cs kc T d X k = S at ih ⊢
      rw [bsR2] at ih
      have M3 : ∀ S2 : Int32 × Int64 × TS, AW g A H0 9 K 42 [some (.ref (m 0)), some (.int (nI T)), some (.int (S2.1)), some (.long (S2.2.1)), none, some (.int (nI (k + 1 + 1))), none, none, none] [] (fuW g m (s.wth 0) (S2.2.2) (d)) 0 0 → AW g A H0 9 K 52 [some (.ref (m 0)), some (.int (nI T)), some (.int (S2.1)), some (.long (S2.2.1)), none, some (.int (nI (k + 1))), some (.int (-1 + -2)), none, none] [] (fuW g m (s.wth 0) (S2.2.2) (d)) 0 0 := by
        intro S2 ih
        refine A_iload ok.b dX7_bestSetting_52 (gps (gps (gps (gps (gps (gps gp0)))))) ?_
        refine A_iconst ok.b (v := (-1)) dX7_bestSetting_54 (by decide) ?_
        refine A_icmp_lt ok.b (tgt := 95) dX7_bestSetting_55 (by decide) (fun c55 => ?_) (fun c55 => ((show False from c55 (by decide))).elim)
        refine A_iinc ok.b (v := _ + 1) dX7_bestSetting_95 (gps (gps (gps (gps (gps gp0))))) rfl (by decide) (sts (sts (sts (sts (sts1n st0))))) ?_
        refine A_goto ok.b (tgt := 42) dX7_bestSetting_98 (by decide) ?_
        refine A_lv (lleK (lleK (lleK (lleK (lleK (lleK (lleD (lleK (lleK lle0))))))))) ?_
        rw [nI_1]
        exact ih
      generalize hS1 : bsR1 n nc cs kc T d (1 * nI (k + 1)) S = S1 at ih
      have M2 : ∀ {S9 : Int32 × Int64 × TS}, S9 = S1 → AW g A H0 9 K 52 [some (.ref (m 0)), some (.int (nI T)), some (.int (S9.1)), some (.long (S9.2.1)), none, some (.int (nI (k + 1))), some (.int (1 + -2)), none, none] [] (fuW g m (s.wth 0) (S9.2.2) (d)) 0 0 := by
        intro S9 e9
        rw [e9]
        rw [show (1 : Int32) + -2 = -1 from by decide]
        refine A_iload ok.b dX7_bestSetting_52 (gps (gps (gps (gps (gps (gps gp0)))))) ?_
        refine A_iconst ok.b (v := (-1)) dX7_bestSetting_54 (by decide) ?_
        refine A_icmp_lt ok.b (tgt := 95) dX7_bestSetting_55 (by decide) (fun c55 => ((show False from absurd c55 (by decide))).elim) (fun c55 => ?_)
        refine A_aload_n ok.b rfl dX7_bestSetting_58 gp0 ?_
        refine A_iload ok.b dX7_bestSetting_59 (gps (gps (gps (gps (gps (gps gp0)))))) ?_
        refine A_iload ok.b dX7_bestSetting_61 (gps (gps (gps (gps (gps gp0))))) ?_
        refine A_imul ok.b dX7_bestSetting_63 ?_
        refine A_iload_n ok.b rfl dX7_bestSetting_64 (gps gp0) ?_
        refine A_sameVR ok (As := [_, _]) mf_X7_exposes ml_X7_290 in_X7_exposes se_X7_exposes cf7 gp0 (r_exposes l g m (s.wth 0) S1.2.2 d n nc hn hnc cs kc hT (-1 * nI (k + 1)) T (by omega)) rfl rfl dX7_bestSetting_65 (Nat.le_of_ble_eq_true rfl) ⟨(Nat.le_of_ble_eq_true rfl), (Nat.le_of_ble_eq_true rfl)⟩ ⟨(Nat.le_of_ble_eq_true rfl), (Nat.le_of_ble_eq_true rfl)⟩ (fun _ _ hx => hx.elim) (fun v65 w65 q65 => ?_)
        obtain ⟨rfl, rfl⟩ := q65
        rw [bsR1] at ih
        generalize exF n nc cs kc (-1 * nI (k + 1)) T S1.2.2 d = E2 at ih ⊢
        refine A_lstore ok.b dX7_bestSetting_68 (by decide) (sts (sts (sts (sts (sts (sts (sts1 rfl st0w))))))) ?_
        refine A_lload ok.b dX7_bestSetting_70 (gps (gps (gps (gps (gps (gps (gps gp0))))))) ?_
        refine A_lload_n ok.b rfl dX7_bestSetting_72 (gps (gps (gps gp0))) ?_
        refine A_lcmp ok.b dX7_bestSetting_73 ?_
        refine A_if_lt ok.b (tgt := 80) dX7_bestSetting_74 (by decide) (fun c74 => ?_) (fun c74 => ?_)
        · skip
          refine A_lload ok.b dX7_bestSetting_80 (gps (gps (gps (gps (gps (gps (gps gp0))))))) ?_
          refine A_lstore_n ok.b rfl dX7_bestSetting_82 (by decide) (sts (sts (sts1 rfl st0w))) ?_
          refine A_iload ok.b dX7_bestSetting_83 (gps (gps (gps (gps (gps (gps gp0)))))) ?_
          refine A_iload ok.b dX7_bestSetting_85 (gps (gps (gps (gps (gps gp0))))) ?_
          refine A_imul ok.b dX7_bestSetting_87 ?_
          refine A_istore_n ok.b rfl dX7_bestSetting_88 (by decide) (sts (sts1 rfl st0)) ?_
          refine A_iinc ok.b (v := _ + (-2)) dX7_bestSetting_89 (gps (gps (gps (gps (gps (gps gp0)))))) rfl (by decide) (sts (sts (sts (sts (sts (sts1 rfl st0)))))) ?_
          refine A_goto ok.b (tgt := 52) dX7_bestSetting_92 (by decide) ?_
          refine A_lv (lleK (lleK (lleK (lleK (lleK (lleK (lleK (lleD (lleK lle0))))))))) ?_
          rw [if_pos (lg_lt c74)] at ih
          exact M3 _ ih
        · skip
          refine A_goto ok.b (tgt := 89) dX7_bestSetting_77 (by decide) ?_
          refine A_iinc ok.b (v := _ + (-2)) dX7_bestSetting_89 (gps (gps (gps (gps (gps (gps gp0)))))) rfl (by decide) (sts (sts (sts (sts (sts (sts1 rfl st0)))))) ?_
          refine A_goto ok.b (tgt := 52) dX7_bestSetting_92 (by decide) ?_
          refine A_lv (lleK (lleK (lleK (lleK (lleK (lleK (lleK (lleD (lleK lle0))))))))) ?_
          rw [if_neg (lg_nlt c74)] at ih
          exact M3 _ ih
      refine A_iload ok.b dX7_bestSetting_42 (gps (gps (gps (gps (gps gp0))))) ?_
      refine A_bipush ok.b (v := 10) dX7_bestSetting_44 (by decide) ?_
      refine A_icmp_gt ok.b (tgt := 101) dX7_bestSetting_46 (by decide) (fun c46 => ((show False from absurd c46 (Int32.not_lt.mpr (nI_le (a := k + 1) (b := 10) (by omega) (by decide))))).elim) (fun c46 => ?_)
      refine A_iconst ok.b (v := 1) dX7_bestSetting_49 (by decide) ?_
      refine A_istore ok.b dX7_bestSetting_50 (by decide) (sts (sts (sts (sts (sts (sts1 rfl st0)))))) ?_
      refine A_iload ok.b dX7_bestSetting_52 (gps (gps (gps (gps (gps (gps gp0)))))) ?_
      refine A_iconst ok.b (v := (-1)) dX7_bestSetting_54 (by decide) ?_
      refine A_icmp_lt ok.b (tgt := 95) dX7_bestSetting_55 (by decide) (fun c55 => ((show False from absurd c55 (by decide))).elim) (fun c55 => ?_)
      refine A_aload_n ok.b rfl dX7_bestSetting_58 gp0 ?_
      refine A_iload ok.b dX7_bestSetting_59 (gps (gps (gps (gps (gps (gps gp0)))))) ?_
      refine A_iload ok.b dX7_bestSetting_61 (gps (gps (gps (gps (gps gp0))))) ?_
      refine A_imul ok.b dX7_bestSetting_63 ?_
      refine A_iload_n ok.b rfl dX7_bestSetting_64 (gps gp0) ?_
      refine A_sameVR ok (As := [_, _]) mf_X7_exposes ml_X7_290 in_X7_exposes se_X7_exposes cf7 gp0 (r_exposes l g m (s.wth 0) S.2.2 d n nc hn hnc cs kc hT (1 * nI (k + 1)) T (by omega)) rfl rfl dX7_bestSetting_65 (Nat.le_of_ble_eq_true rfl) ⟨(Nat.le_of_ble_eq_true rfl), (Nat.le_of_ble_eq_true rfl)⟩ ⟨(Nat.le_of_ble_eq_true rfl), (Nat.le_of_ble_eq_true rfl)⟩ (fun _ _ hx => hx.elim) (fun v65 w65 q65 => ?_)
      obtain ⟨rfl, rfl⟩ := q65
      rw [bsR1] at hS1
      generalize exF n nc cs kc (1 * nI (k + 1)) T S.2.2 d = E1 at hS1 ⊢
      refine A_lstore ok.b dX7_bestSetting_68 (by decide) (sts (sts (sts (sts (sts (sts (sts1 rfl st0w))))))) ?_
      refine A_lload ok.b dX7_bestSetting_70 (gps (gps (gps (gps (gps (gps (gps gp0))))))) ?_
      refine A_lload_n ok.b rfl dX7_bestSetting_72 (gps (gps (gps gp0))) ?_
      refine A_lcmp ok.b dX7_bestSetting_73 ?_
      refine A_if_lt ok.b (tgt := 80) dX7_bestSetting_74 (by decide) (fun c74 => ?_) (fun c74 => ?_)
      · skip
        refine A_lload ok.b dX7_bestSetting_80 (gps (gps (gps (gps (gps (gps (gps gp0))))))) ?_
        refine A_lstore_n ok.b rfl dX7_bestSetting_82 (by decide) (sts (sts (sts1 rfl st0w))) ?_
        refine A_iload ok.b dX7_bestSetting_83 (gps (gps (gps (gps (gps (gps gp0)))))) ?_
        refine A_iload ok.b dX7_bestSetting_85 (gps (gps (gps (gps (gps gp0))))) ?_
        refine A_imul ok.b dX7_bestSetting_87 ?_
        refine A_istore_n ok.b rfl dX7_bestSetting_88 (by decide) (sts (sts1 rfl st0)) ?_
        rw [if_pos (lg_lt c74)] at hS1
        refine A_iinc ok.b (v := _ + (-2)) dX7_bestSetting_89 (gps (gps (gps (gps (gps (gps gp0)))))) rfl (by decide) (sts (sts (sts (sts (sts (sts1 rfl st0)))))) ?_
        refine A_goto ok.b (tgt := 52) dX7_bestSetting_92 (by decide) ?_
        refine A_lv (lleK (lleK (lleK (lleK (lleK (lleK (lleK (lleD (lleK lle0))))))))) ?_
        subst hS1
        exact M2 rfl
      · skip
        refine A_goto ok.b (tgt := 89) dX7_bestSetting_77 (by decide) ?_
        rw [if_neg (lg_nlt c74)] at hS1
        refine A_iinc ok.b (v := _ + (-2)) dX7_bestSetting_89 (gps (gps (gps (gps (gps (gps gp0)))))) rfl (by decide) (sts (sts (sts (sts (sts (sts1 rfl st0)))))) ?_
        refine A_goto ok.b (tgt := 52) dX7_bestSetting_92 (by decide) ?_
        refine A_lv (lleK (lleK (lleK (lleK (lleK (lleK (lleK (lleD (lleK lle0))))))))) ?_
        subst hS1
        exact M2 rfl
  refine A_aload_n ok.b rfl dX7_bestSetting_0 gp0 ?_
  refine A_iconst ok.b (v := 0) dX7_bestSetting_1 (by decide) ?_
  refine A_putf ok.b cf7 0 (by decide) rfl fl_X7_45 gp0 rfl rfl (gp_lt gp0) wp0 wp0 dX7_bestSetting_2 ?_
  refine A_aload_n ok.b rfl dX7_bestSetting_5 gp0 ?_
  refine A_iload_n ok.b rfl dX7_bestSetting_6 (gps gp0) ?_
  refine A_iconst ok.b (v := 0) dX7_bestSetting_7 (by decide) ?_
  refine A_bipush ok.b (v := 60) dX7_bestSetting_8 (by decide) ?_
  refine A_pureS ok.b (As := [_, _, _]) mf_X7_in ml_X7_67 rfl sc_X7_in (r_in l g _ _ _) rfl rfl dX7_bestSetting_10 (Nat.le_of_ble_eq_true rfl) ⟨(Nat.le_of_ble_eq_true rfl), (Nat.le_of_ble_eq_true rfl)⟩ ⟨(Nat.le_of_ble_eq_true rfl), (Nat.le_of_ble_eq_true rfl)⟩ ?_
  refine A_if_ne ok.b (tgt := 20) dX7_bestSetting_13 (by decide) (fun c13 => ?_) (fun c13 => ?_)
  · skip
    refine A_iconst ok.b (v := 0) dX7_bestSetting_20 (by decide) ?_
    refine A_iconst ok.b (v := 1) dX7_bestSetting_21 (by decide) ?_
    refine A_callVR ok [0] [1, 2, 3, 4, 5, 6] (As := [_, _]) (wr := ([(m 7, .inl (g.2.1 0, 12, .inl (X).re)), (m 8, .inl (g.2.1 3, 20, .inl (X).st)), (m 9, .inl (g.2.1 3, 20, .inl (X).dr)), (m 6, .inl (g.2.1 1, 1300, .inr (.inl (X).sk))), (m 4, .inl (g.2.1 0, 1476, .inl ((X).d))), (m 2, .inl (g.2.1 0, 1476, .inl (d)))] : va_W)) mf_X7_fails ml_X7_194 in_X7_fails se_X7_fails cf7 gp0 (r_fails l g m (s.wth 0) rfl false 1 (by decide)) rfl rfl rfl dX7_bestSetting_22 rfl rfl rfl (by decide) (Nat.le_of_ble_eq_true rfl) ⟨(Nat.le_of_ble_eq_true rfl), (Nat.le_of_ble_eq_true rfl)⟩ ⟨(Nat.le_of_ble_eq_true rfl), (Nat.le_of_ble_eq_true rfl)⟩ (fun _ _ hx => hx.elim) (fun v22 w22 q22 => ?_)
    obtain ⟨rfl, rfl⟩ := q22
    refine A_sub [6, 0, 1, 2, 3, 4, 5] (ws2 := (fuW g m (thS false 1 (s.wth 0)) (X) (d))) rfl rfl ?_
    refine A_if_eq ok.b (tgt := 30) dX7_bestSetting_25 (by decide) (fun c25 => ?_) (fun c25 => ((show False from c25 rfl)).elim)
    have hb : tikE (nI T) = false := by rw [tikE, bI_n c13]; rfl
    refine A_iconst ok.b (v := 0) dX7_bestSetting_30 (by decide) ?_
    refine A_istore_n ok.b rfl dX7_bestSetting_31 (by decide) (sts (sts1 rfl st0)) ?_
    refine A_aload_n ok.b rfl dX7_bestSetting_32 gp0 ?_
    refine A_iconst ok.b (v := 0) dX7_bestSetting_33 (by decide) ?_
    refine A_iload_n ok.b rfl dX7_bestSetting_34 (gps gp0) ?_
    refine A_sameVR ok (As := [_, _]) mf_X7_exposes ml_X7_290 in_X7_exposes se_X7_exposes cf7 gp0 (r_exposes l g m (s.wth 0) X d n nc hn hnc cs kc hT 0 T (by omega)) rfl rfl dX7_bestSetting_35 (Nat.le_of_ble_eq_true rfl) ⟨(Nat.le_of_ble_eq_true rfl), (Nat.le_of_ble_eq_true rfl)⟩ ⟨(Nat.le_of_ble_eq_true rfl), (Nat.le_of_ble_eq_true rfl)⟩ (fun _ _ hx => hx.elim) (fun v35 w35 q35 => ?_)
    obtain ⟨rfl, rfl⟩ := q35
    refine A_lstore_n ok.b rfl dX7_bestSetting_38 (by decide) (sts (sts (sts1 rfl st0w))) ?_
    refine A_iconst ok.b (v := 1) dX7_bestSetting_39 (by decide) ?_
    refine A_istore ok.b dX7_bestSetting_40 (by decide) (sts (sts (sts (sts (sts1n st0))))) ?_
    exact LK hb 0 (Nat.zero_le _)
  · skip
    refine A_iconst ok.b (v := 1) dX7_bestSetting_16 (by decide) ?_
    refine A_goto ok.b (tgt := 21) dX7_bestSetting_17 (by decide) ?_
    refine A_iconst ok.b (v := 1) dX7_bestSetting_21 (by decide) ?_
    refine A_callVR ok [0] [1, 2, 3, 4, 5, 6] (As := [_, _]) (wr := ([(m 7, .inl (g.2.1 0, 12, .inl (X).re)), (m 8, .inl (g.2.1 3, 20, .inl (X).st)), (m 9, .inl (g.2.1 3, 20, .inl (X).dr)), (m 6, .inl (g.2.1 1, 1300, .inr (.inl (X).sk))), (m 4, .inl (g.2.1 0, 1476, .inl ((X).d))), (m 2, .inl (g.2.1 0, 1476, .inl (d)))] : va_W)) mf_X7_fails ml_X7_194 in_X7_fails se_X7_fails cf7 gp0 (r_fails l g m (s.wth 0) rfl true 1 (by decide)) rfl rfl rfl dX7_bestSetting_22 rfl rfl rfl (by decide) (Nat.le_of_ble_eq_true rfl) ⟨(Nat.le_of_ble_eq_true rfl), (Nat.le_of_ble_eq_true rfl)⟩ ⟨(Nat.le_of_ble_eq_true rfl), (Nat.le_of_ble_eq_true rfl)⟩ (fun _ _ hx => hx.elim) (fun v22 w22 q22 => ?_)
    obtain ⟨rfl, rfl⟩ := q22
    refine A_sub [6, 0, 1, 2, 3, 4, 5] (ws2 := (fuW g m (thS true 1 (s.wth 0)) (X) (d))) rfl rfl ?_
    refine A_if_eq ok.b (tgt := 30) dX7_bestSetting_25 (by decide) (fun c25 => ((show False from absurd c25 (by decide))).elim) (fun c25 => ?_)
    refine A_iconst ok.b (v := 0) dX7_bestSetting_28 (by decide) ?_
    refine A_iret ok dX7_bestSetting_29 (Nat.le_of_ble_eq_true rfl) (Nat.le_of_ble_eq_true rfl) ?_
    have hb : tikE (nI T) = true := by rw [tikE, bI_ff c13]; rfl
    exact ⟨by rw [if_pos hb], by rw [if_pos hb, if_pos hb] <;> rfl⟩
set_option maxRecDepth 20000 in
set_option maxHeartbeats 2000000 in
theorem r_bestSettingE (l : Launch) (g : Gl) (m : Nat → Nat) (s : MS) (X : TS) (d : Nat → Int32) (n nc : Nat) (hn : n ≤ 12) (hnc : nc ≤ 20) (cs : Nat → Int32) (kc : Nat) (hT : TKd n nc cs kc d) (x0 : Int32) (hb : tikE x0 = true) : Ct l g yX7_bestSetting cX7_bestSetting 9 (some .int) 1 40 0 0 [.ref (m 0), .int x0] (fuW g m (s) (X) (d)) (fun v w => v = some (.int 0) ∧ w = (fuW g m (s.wth 1) (X) (d))) noX := by
  refine Ct.intro [some (.ref (m 0)), some (.int x0), none, none, none, none, none, none, none] (by decide +kernel) (fun _ h => h) (Nat.le_of_ble_eq_true rfl) (fun A H0 K ok => ?_)
  refine A_aload_n ok.b rfl dX7_bestSetting_0 gp0 ?_
  refine A_iconst ok.b (v := 0) dX7_bestSetting_1 (by decide) ?_
  refine A_putf ok.b cf7 0 (by decide) rfl fl_X7_45 gp0 rfl rfl (gp_lt gp0) wp0 wp0 dX7_bestSetting_2 ?_
  refine A_aload_n ok.b rfl dX7_bestSetting_5 gp0 ?_
  refine A_iload_n ok.b rfl dX7_bestSetting_6 (gps gp0) ?_
  refine A_iconst ok.b (v := 0) dX7_bestSetting_7 (by decide) ?_
  refine A_bipush ok.b (v := 60) dX7_bestSetting_8 (by decide) ?_
  refine A_pureS ok.b (As := [_, _, _]) mf_X7_in ml_X7_67 rfl sc_X7_in (r_in l g _ _ _) rfl rfl dX7_bestSetting_10 (Nat.le_of_ble_eq_true rfl) ⟨(Nat.le_of_ble_eq_true rfl), (Nat.le_of_ble_eq_true rfl)⟩ ⟨(Nat.le_of_ble_eq_true rfl), (Nat.le_of_ble_eq_true rfl)⟩ ?_
  refine A_if_ne ok.b (tgt := 20) dX7_bestSetting_13 (by decide) (fun c13 => ((show False from by rw [tikE, bI_n c13] at hb; exact absurd hb (by decide))).elim) (fun c13 => ?_)
  refine A_iconst ok.b (v := 1) dX7_bestSetting_16 (by decide) ?_
  refine A_goto ok.b (tgt := 21) dX7_bestSetting_17 (by decide) ?_
  refine A_iconst ok.b (v := 1) dX7_bestSetting_21 (by decide) ?_
  refine A_callVR ok [0] [1, 2, 3, 4, 5, 6] (As := [_, _]) (wr := ([(m 7, .inl (g.2.1 0, 12, .inl (X).re)), (m 8, .inl (g.2.1 3, 20, .inl (X).st)), (m 9, .inl (g.2.1 3, 20, .inl (X).dr)), (m 6, .inl (g.2.1 1, 1300, .inr (.inl (X).sk))), (m 4, .inl (g.2.1 0, 1476, .inl ((X).d))), (m 2, .inl (g.2.1 0, 1476, .inl (d)))] : va_W)) mf_X7_fails ml_X7_194 in_X7_fails se_X7_fails cf7 gp0 (r_fails l g m (s.wth 0) rfl true 1 (by decide)) rfl rfl rfl dX7_bestSetting_22 rfl rfl rfl (by decide) (Nat.le_of_ble_eq_true rfl) ⟨(Nat.le_of_ble_eq_true rfl), (Nat.le_of_ble_eq_true rfl)⟩ ⟨(Nat.le_of_ble_eq_true rfl), (Nat.le_of_ble_eq_true rfl)⟩ (fun _ _ hx => hx.elim) (fun v22 w22 q22 => ?_)
  obtain ⟨rfl, rfl⟩ := q22
  refine A_sub [6, 0, 1, 2, 3, 4, 5] (ws2 := (fuW g m (thS true 1 (s.wth 0)) (X) (d))) rfl rfl ?_
  refine A_if_eq ok.b (tgt := 30) dX7_bestSetting_25 (by decide) (fun c25 => ((show False from absurd c25 (by decide))).elim) (fun c25 => ?_)
  refine A_iconst ok.b (v := 0) dX7_bestSetting_28 (by decide) ?_
  refine A_iret ok dX7_bestSetting_29 (Nat.le_of_ble_eq_true rfl) (Nat.le_of_ble_eq_true rfl) ?_
  exact ⟨rfl, rfl⟩
