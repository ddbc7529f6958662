theorem lx_lt {x : Int32} {n : Nat} (hn : n ≤ 12) (h : Inn x n) (d : Int32) : lx x d < 24 := by
  have h9 := (lx_ix hn h d).1
  unfold vp_in at h9
  rw [not_or] at h9
  exact Nat.not_le.mp h9.2
set_option maxRecDepth 20000 in
set_option maxHeartbeats 2000000 in
theorem c_carSection (l : Launch) (g : Gl) (k rd hs tr : Nat) (eo : Int32) (a b : Nat → Nat) (T : TD) (P : PD) (hn : pN P ≤ 12) (hc : pCar P ≤ 20) (hl0 : l.stackTraces = false) (s0 : Int32) : Ct l g yX6_carSection cX6_carSection 2 (some .int) 7 400 1 6 [.ref k, .int s0] (dkW g k rd hs tr eo a b T P) (fun v w => carX P s0 = none ∧ v = some (.int (tCs T s0.toNatClampNeg)) ∧ w = (dkW g k rd hs tr eo a b T P)) (XX (dkW g k rd hs tr eo a b T P) (carX P s0)) := by
  refine Ct.intro [some (.ref k), some (.int s0)] (by decide +kernel) (fun _ h => h) (Nat.le_of_ble_eq_true rfl) (fun A H0 K ok => ?_)
  refine A_aload_n ok.b rfl dX6_carSection_0 gp0 ?_
  refine A_iload_n ok.b rfl dX6_carSection_1 (gps gp0) ?_
  refine A_sameVR ok (As := [_]) mf_X6_requireCar ml_X6_146 in_X6_requireCar se_X6_requireCar cf6 gp0 (c_requireCar l g k rd hs tr eo a b T P hn hc hl0 s0) rfl rfl dX6_carSection_2 (Nat.le_of_ble_eq_true rfl) ⟨(Nat.le_of_ble_eq_true rfl), (Nat.le_of_ble_eq_true rfl)⟩ ⟨(Nat.le_of_ble_eq_true rfl), (Nat.le_of_ble_eq_true rfl)⟩ (XX_same (fun E h => h)) (fun v2 w2 q2 => ?_)
  obtain ⟨o1, rfl, rfl⟩ := q2
  refine A_aload_n ok.b rfl dX6_carSection_5 gp0 ?_
  refine A_getf ok.b cf6 2 (by decide) fl_X6_31 gp0 (gps (gps gp0)) dX6_carSection_6 ?_
  refine A_getf ok.b cf5 11 (by decide) fl_X6_149 (gps gp0) (gps (gps (gps (gps (gps (gps (gps (gps (gps (gps (gps gp0))))))))))) dX6_carSection_9 ?_
  refine A_iload_n ok.b rfl dX6_carSection_12 (gps gp0) ?_
  refine A_iald ok.b (gps (gps (gps (gps (gps (gps (gps gp0))))))) (inn_ix hc (by decide) (carX_inn hc o1)) dX6_carSection_13 ?_
  refine A_iret ok dX6_carSection_14 (Nat.le_of_ble_eq_true rfl) (Nat.le_of_ble_eq_true rfl) ?_
  exact ⟨o1, rfl, rfl⟩
set_option maxRecDepth 20000 in
set_option maxHeartbeats 2000000 in
theorem c_carDirection (l : Launch) (g : Gl) (k rd hs tr : Nat) (eo : Int32) (a b : Nat → Nat) (T : TD) (P : PD) (hn : pN P ≤ 12) (hc : pCar P ≤ 20) (hl0 : l.stackTraces = false) (s0 : Int32) : Ct l g yX6_carDirection cX6_carDirection 2 (some .int) 7 400 1 6 [.ref k, .int s0] (dkW g k rd hs tr eo a b T P) (fun v w => carX P s0 = none ∧ v = some (.int (tCd T s0.toNatClampNeg)) ∧ w = (dkW g k rd hs tr eo a b T P)) (XX (dkW g k rd hs tr eo a b T P) (carX P s0)) := by
  refine Ct.intro [some (.ref k), some (.int s0)] (by decide +kernel) (fun _ h => h) (Nat.le_of_ble_eq_true rfl) (fun A H0 K ok => ?_)
  refine A_aload_n ok.b rfl dX6_carDirection_0 gp0 ?_
  refine A_iload_n ok.b rfl dX6_carDirection_1 (gps gp0) ?_
  refine A_sameVR ok (As := [_]) mf_X6_requireCar ml_X6_146 in_X6_requireCar se_X6_requireCar cf6 gp0 (c_requireCar l g k rd hs tr eo a b T P hn hc hl0 s0) rfl rfl dX6_carDirection_2 (Nat.le_of_ble_eq_true rfl) ⟨(Nat.le_of_ble_eq_true rfl), (Nat.le_of_ble_eq_true rfl)⟩ ⟨(Nat.le_of_ble_eq_true rfl), (Nat.le_of_ble_eq_true rfl)⟩ (XX_same (fun E h => h)) (fun v2 w2 q2 => ?_)
  obtain ⟨o1, rfl, rfl⟩ := q2
  refine A_aload_n ok.b rfl dX6_carDirection_5 gp0 ?_
  refine A_getf ok.b cf6 2 (by decide) fl_X6_31 gp0 (gps (gps gp0)) dX6_carDirection_6 ?_
  refine A_getf ok.b cf5 12 (by decide) fl_X6_152 (gps gp0) (gps (gps (gps (gps (gps (gps (gps (gps (gps (gps (gps (gps gp0)))))))))))) dX6_carDirection_9 ?_
  refine A_iload_n ok.b rfl dX6_carDirection_12 (gps gp0) ?_
  refine A_iald ok.b (gps (gps (gps (gps (gps (gps (gps (gps gp0)))))))) (inn_ix hc (by decide) (carX_inn hc o1)) dX6_carDirection_13 ?_
  refine A_iret ok dX6_carDirection_14 (Nat.le_of_ble_eq_true rfl) (Nat.le_of_ble_eq_true rfl) ?_
  exact ⟨o1, rfl, rfl⟩
set_option maxRecDepth 20000 in
set_option maxHeartbeats 2000000 in
theorem c_exposure (l : Launch) (g : Gl) (k rd hs tr : Nat) (eo : Int32) (a b : Nat → Nat) (T : TD) (P : PD) (hn : pN P ≤ 12) (hc : pCar P ≤ 20) (hl0 : l.stackTraces = false) (s0 : Int32) : Ct l g yX6_exposure cX6_exposure 2 (some .long) 7 400 1 6 [.ref k, .int s0] (dkW g k rd hs tr eo a b T P) (fun v w => carX P s0 = none ∧ v = some (.long (tEx T s0.toNatClampNeg)) ∧ w = (dkW g k rd hs tr eo a b T P)) (XX (dkW g k rd hs tr eo a b T P) (carX P s0)) := by
  refine Ct.intro [some (.ref k), some (.int s0)] (by decide +kernel) (fun _ h => h) (Nat.le_of_ble_eq_true rfl) (fun A H0 K ok => ?_)
  refine A_aload_n ok.b rfl dX6_exposure_0 gp0 ?_
  refine A_iload_n ok.b rfl dX6_exposure_1 (gps gp0) ?_
  refine A_sameVR ok (As := [_]) mf_X6_requireCar ml_X6_146 in_X6_requireCar se_X6_requireCar cf6 gp0 (c_requireCar l g k rd hs tr eo a b T P hn hc hl0 s0) rfl rfl dX6_exposure_2 (Nat.le_of_ble_eq_true rfl) ⟨(Nat.le_of_ble_eq_true rfl), (Nat.le_of_ble_eq_true rfl)⟩ ⟨(Nat.le_of_ble_eq_true rfl), (Nat.le_of_ble_eq_true rfl)⟩ (XX_same (fun E h => h)) (fun v2 w2 q2 => ?_)
  obtain ⟨o1, rfl, rfl⟩ := q2
  refine A_aload_n ok.b rfl dX6_exposure_5 gp0 ?_
  refine A_getf ok.b cf6 2 (by decide) fl_X6_31 gp0 (gps (gps gp0)) dX6_exposure_6 ?_
  refine A_getf ok.b cf5 13 (by decide) fl_X6_155 (gps gp0) (gps (gps (gps (gps (gps (gps (gps (gps (gps (gps (gps (gps (gps gp0))))))))))))) dX6_exposure_9 ?_
  refine A_iload_n ok.b rfl dX6_exposure_12 (gps gp0) ?_
  refine A_lald ok.b (gps (gps (gps (gps (gps (gps (gps (gps (gps gp0))))))))) (inn_ix hc (by decide) (carX_inn hc o1)) dX6_exposure_13 ?_
  refine A_lret ok dX6_exposure_14 (Nat.le_of_ble_eq_true rfl) (Nat.le_of_ble_eq_true rfl) ?_
  exact ⟨o1, rfl, rfl⟩
set_option maxRecDepth 20000 in
set_option maxHeartbeats 2000000 in
theorem c_fan (l : Launch) (g : Gl) (k rd hs tr : Nat) (eo : Int32) (a b : Nat → Nat) (T : TD) (P : PD) (hn : pN P ≤ 12) (hc : pCar P ≤ 20) (hl0 : l.stackTraces = false) (s0 : Int32) : Ct l g yX6_fan cX6_fan 2 (some .int) 7 400 2 12 [.ref k, .int s0] (dkW g k rd hs tr eo a b T P) (fun v w => orX (secX P s0) (fanX P s0) = none ∧ v = some (.int (tFan T s0.toNatClampNeg)) ∧ w = (dkW g k rd hs tr eo a b T P)) (XX (dkW g k rd hs tr eo a b T P) (orX (secX P s0) (fanX P s0))) := by
  refine Ct.intro [some (.ref k), some (.int s0)] (by decide +kernel) (fun _ h => h) (Nat.le_of_ble_eq_true rfl) (fun A H0 K ok => ?_)
  refine A_aload_n ok.b rfl dX6_fan_0 gp0 ?_
  refine A_iload_n ok.b rfl dX6_fan_1 (gps gp0) ?_
  refine A_sameVR ok (As := [_]) mf_X6_requireSection ml_X6_105 in_X6_requireSection se_X6_requireSection cf6 gp0 (c_requireSection l g k rd hs tr eo a b T P hn hc hl0 s0) rfl rfl dX6_fan_2 (Nat.le_of_ble_eq_true rfl) ⟨(Nat.le_of_ble_eq_true rfl), (Nat.le_of_ble_eq_true rfl)⟩ ⟨(Nat.le_of_ble_eq_true rfl), (Nat.le_of_ble_eq_true rfl)⟩ (XX_same (fun E h => orX_s h)) (fun v2 w2 q2 => ?_)
  obtain ⟨o1, rfl, rfl⟩ := q2
  refine A_aload_n ok.b rfl dX6_fan_5 gp0 ?_
  refine A_iload_n ok.b rfl dX6_fan_6 (gps gp0) ?_
  refine A_sameVR ok (As := [_]) mf_X6_requireFan ml_X6_125 in_X6_requireFan se_X6_requireFan cf6 gp0 (c_requireFan l g k rd hs tr eo a b T P hn hc hl0 s0 (secX_inn hn o1)) rfl rfl dX6_fan_7 (Nat.le_of_ble_eq_true rfl) ⟨(Nat.le_of_ble_eq_true rfl), (Nat.le_of_ble_eq_true rfl)⟩ ⟨(Nat.le_of_ble_eq_true rfl), (Nat.le_of_ble_eq_true rfl)⟩ (XX_same (fun E h => by rw [orX_n o1]; exact h)) (fun v7 w7 q7 => ?_)
  obtain ⟨o2, rfl, rfl⟩ := q7
  refine A_aload_n ok.b rfl dX6_fan_10 gp0 ?_
  refine A_getf ok.b cf6 2 (by decide) fl_X6_31 gp0 (gps (gps gp0)) dX6_fan_11 ?_
  refine A_getf ok.b cf5 7 (by decide) fl_X6_128 (gps gp0) (gps (gps (gps (gps (gps (gps (gps gp0))))))) dX6_fan_14 ?_
  refine A_iload_n ok.b rfl dX6_fan_17 (gps gp0) ?_
  refine A_iald ok.b (gps (gps (gps gp0))) (inn_ix hn (by decide) (secX_inn hn o1)) dX6_fan_18 ?_
  refine A_iret ok dX6_fan_19 (Nat.le_of_ble_eq_true rfl) (Nat.le_of_ble_eq_true rfl) ?_
  exact ⟨by rw [orX_n o1]; exact o2, rfl, rfl⟩
set_option maxRecDepth 20000 in
set_option maxHeartbeats 2000000 in
theorem c_isRed (l : Launch) (g : Gl) (k rd hs tr : Nat) (eo : Int32) (a b : Nat → Nat) (T : TD) (P : PD) (hn : pN P ≤ 12) (hc : pCar P ≤ 20) (hl0 : l.stackTraces = false) (s0 d0 : Int32) (hrd : ∀ j, j < 24 → tRed T j = 0 ∨ tRed T j = 1) : Ct l g yX6_isRed cX6_isRed 3 (some .boolean) 7 400 2 12 [.ref k, .int s0, .int d0] (dkW g k rd hs tr eo a b T P) (fun v w => orX (secX P s0) (dirX d0) = none ∧ v = some (.int (tRed T (lx s0 d0))) ∧ w = (dkW g k rd hs tr eo a b T P)) (XX (dkW g k rd hs tr eo a b T P) (orX (secX P s0) (dirX d0))) := by
  refine Ct.intro [some (.ref k), some (.int s0), some (.int d0)] (by decide +kernel) (fun _ h => h) (Nat.le_of_ble_eq_true rfl) (fun A H0 K ok => ?_)
  refine A_aload_n ok.b rfl dX6_isRed_0 gp0 ?_
  refine A_iload_n ok.b rfl dX6_isRed_1 (gps gp0) ?_
  refine A_sameVR ok (As := [_]) mf_X6_requireSection ml_X6_105 in_X6_requireSection se_X6_requireSection cf6 gp0 (c_requireSection l g k rd hs tr eo a b T P hn hc hl0 s0) rfl rfl dX6_isRed_2 (Nat.le_of_ble_eq_true rfl) ⟨(Nat.le_of_ble_eq_true rfl), (Nat.le_of_ble_eq_true rfl)⟩ ⟨(Nat.le_of_ble_eq_true rfl), (Nat.le_of_ble_eq_true rfl)⟩ (XX_same (fun E h => orX_s h)) (fun v2 w2 q2 => ?_)
  obtain ⟨o1, rfl, rfl⟩ := q2
  refine A_iload_n ok.b rfl dX6_isRed_5 (gps (gps gp0)) ?_
  refine A_callSR ok [] [0, 1, 2, 3, 4, 5, 6, 7, 8, 9, 10, 11, 12, 13, 14, 15] (As := [_]) (wr := (dkW g k rd hs tr eo a b T P)) mf_X6_requireDirection ml_X6_135 rfl sc_X6_requireDirection  (c_requireDirection l g d0 hl0) rfl rfl rfl dX6_isRed_6 rfl rfl rfl (by decide) (Nat.le_of_ble_eq_true rfl) ⟨(Nat.le_of_ble_eq_true rfl), (Nat.le_of_ble_eq_true rfl)⟩ ⟨(Nat.le_of_ble_eq_true rfl), (Nat.le_of_ble_eq_true rfl)⟩ (XX_app (W := []) (wr := (dkW g k rd hs tr eo a b T P)) (fun E h => by rw [orX_n o1]; exact h)) (fun v6 w6 q6 => ?_)
  obtain ⟨o2, rfl, rfl⟩ := q6
  refine A_sub [0, 1, 2, 3, 4, 5, 6, 7, 8, 9, 10, 11, 12, 13, 14, 15] (ws2 := (dkW g k rd hs tr eo a b T P)) rfl rfl ?_
  refine A_aload_n ok.b rfl dX6_isRed_9 gp0 ?_
  refine A_getf ok.b cf6 2 (by decide) fl_X6_31 gp0 (gps (gps gp0)) dX6_isRed_10 ?_
  refine A_getf ok.b cf5 9 (by decide) fl_X6_138 (gps gp0) (gps (gps (gps (gps (gps (gps (gps (gps (gps gp0))))))))) dX6_isRed_13 ?_
  refine A_iload_n ok.b rfl dX6_isRed_16 (gps gp0) ?_
  refine A_iload_n ok.b rfl dX6_isRed_17 (gps (gps gp0)) ?_
  refine A_pureS ok.b (As := [_, _]) mf_X6_laneIndex ml_X6_142 rfl sc_X6_laneIndex (c_laneIndex l g _ _) rfl rfl dX6_isRed_18 (Nat.le_of_ble_eq_true rfl) ⟨(Nat.le_of_ble_eq_true rfl), (Nat.le_of_ble_eq_true rfl)⟩ ⟨(Nat.le_of_ble_eq_true rfl), (Nat.le_of_ble_eq_true rfl)⟩ ?_
  refine A_zald ok.b (gps (gps (gps (gps (gps gp0))))) (lx_ix hn (secX_inn hn o1) _) dX6_isRed_21 ?_
  refine A_zret ok dX6_isRed_22 (hrd _ (lx_lt hn (secX_inn hn o1) _)) (Nat.le_of_ble_eq_true rfl) (Nat.le_of_ble_eq_true rfl) ?_
  exact ⟨by rw [orX_n o1]; exact o2, rfl, rfl⟩
set_option maxRecDepth 20000 in
set_option maxHeartbeats 2000000 in
theorem c_carsIn (l : Launch) (g : Gl) (k rd hs tr : Nat) (eo : Int32) (a b : Nat → Nat) (T : TD) (P : PD) (hn : pN P ≤ 12) (hc : pCar P ≤ 20) (hl0 : l.stackTraces = false) (s0 d0 : Int32) : Ct l g yX6_carsIn cX6_carsIn 3 (some .int) 7 400 2 12 [.ref k, .int s0, .int d0] (dkW g k rd hs tr eo a b T P) (fun v w => orX (secX P s0) (dirX d0) = none ∧ v = some (.int (tLane T (lx s0 d0))) ∧ w = (dkW g k rd hs tr eo a b T P)) (XX (dkW g k rd hs tr eo a b T P) (orX (secX P s0) (dirX d0))) := by
  refine Ct.intro [some (.ref k), some (.int s0), some (.int d0)] (by decide +kernel) (fun _ h => h) (Nat.le_of_ble_eq_true rfl) (fun A H0 K ok => ?_)
  refine A_aload_n ok.b rfl dX6_carsIn_0 gp0 ?_
  refine A_iload_n ok.b rfl dX6_carsIn_1 (gps gp0) ?_
  refine A_sameVR ok (As := [_]) mf_X6_requireSection ml_X6_105 in_X6_requireSection se_X6_requireSection cf6 gp0 (c_requireSection l g k rd hs tr eo a b T P hn hc hl0 s0) rfl rfl dX6_carsIn_2 (Nat.le_of_ble_eq_true rfl) ⟨(Nat.le_of_ble_eq_true rfl), (Nat.le_of_ble_eq_true rfl)⟩ ⟨(Nat.le_of_ble_eq_true rfl), (Nat.le_of_ble_eq_true rfl)⟩ (XX_same (fun E h => orX_s h)) (fun v2 w2 q2 => ?_)
  obtain ⟨o1, rfl, rfl⟩ := q2
  refine A_iload_n ok.b rfl dX6_carsIn_5 (gps (gps gp0)) ?_
  refine A_callSR ok [] [0, 1, 2, 3, 4, 5, 6, 7, 8, 9, 10, 11, 12, 13, 14, 15] (As := [_]) (wr := (dkW g k rd hs tr eo a b T P)) mf_X6_requireDirection ml_X6_135 rfl sc_X6_requireDirection  (c_requireDirection l g d0 hl0) rfl rfl rfl dX6_carsIn_6 rfl rfl rfl (by decide) (Nat.le_of_ble_eq_true rfl) ⟨(Nat.le_of_ble_eq_true rfl), (Nat.le_of_ble_eq_true rfl)⟩ ⟨(Nat.le_of_ble_eq_true rfl), (Nat.le_of_ble_eq_true rfl)⟩ (XX_app (W := []) (wr := (dkW g k rd hs tr eo a b T P)) (fun E h => by rw [orX_n o1]; exact h)) (fun v6 w6 q6 => ?_)
  obtain ⟨o2, rfl, rfl⟩ := q6
  refine A_sub [0, 1, 2, 3, 4, 5, 6, 7, 8, 9, 10, 11, 12, 13, 14, 15] (ws2 := (dkW g k rd hs tr eo a b T P)) rfl rfl ?_
  refine A_aload_n ok.b rfl dX6_carsIn_9 gp0 ?_
  refine A_getf ok.b cf6 2 (by decide) fl_X6_31 gp0 (gps (gps gp0)) dX6_carsIn_10 ?_
  refine A_getf ok.b cf5 10 (by decide) fl_X6_158 (gps gp0) (gps (gps (gps (gps (gps (gps (gps (gps (gps (gps gp0)))))))))) dX6_carsIn_13 ?_
  refine A_iload_n ok.b rfl dX6_carsIn_16 (gps gp0) ?_
  refine A_iload_n ok.b rfl dX6_carsIn_17 (gps (gps gp0)) ?_
  refine A_pureS ok.b (As := [_, _]) mf_X6_laneIndex ml_X6_142 rfl sc_X6_laneIndex (c_laneIndex l g _ _) rfl rfl dX6_carsIn_18 (Nat.le_of_ble_eq_true rfl) ⟨(Nat.le_of_ble_eq_true rfl), (Nat.le_of_ble_eq_true rfl)⟩ ⟨(Nat.le_of_ble_eq_true rfl), (Nat.le_of_ble_eq_true rfl)⟩ ?_
  refine A_iald ok.b (gps (gps (gps (gps (gps (gps gp0)))))) (lx_ix hn (secX_inn hn o1) _) dX6_carsIn_21 ?_
  refine A_iret ok dX6_carsIn_22 (Nat.le_of_ble_eq_true rfl) (Nat.le_of_ble_eq_true rfl) ?_
  exact ⟨by rw [orX_n o1]; exact o2, rfl, rfl⟩
def totX (x : Int32) : Option String := if x = 0 ∨ x = 1 ∨ x = 2 ∨ x = 3 then none else some IAE
def totF (T : TD) (P : PD) (x : Int32) : Int64 := if x = 0 then sumL (tSmoke T) (pN P) + tLeft T + tRem T else if x = 1 then sumL (tSmoke T) (pN P) else if x = 2 then tLeft T else tRem T
def limX (x : Int32) : Option String := if x < 0 ∨ 200 < x then some IAE else none
theorem lim_n {x : Int32} (h0 : ¬ x < 0) (h1 : ¬ 200 < x) : ∃ n, n ≤ 200 ∧ x = nI n := by
  obtain ⟨n, h2, h3⟩ := inn_of (x := x) (n := 201) (by decide) h0 (fun h => h1 (Int32.lt_iff_toInt_lt.mpr (by have h1 := Int32.le_iff_toInt_le.mp h; exact Int.lt_of_lt_of_le (by decide) h1)))
  exact ⟨n, by omega, h3⟩

set_option maxRecDepth 20000 in
set_option maxHeartbeats 2000000 in
theorem c_total (l : Launch) (g : Gl) (k rd hs tr : Nat) (eo : Int32) (a b : Nat → Nat) (T : TD) (P : PD) (hn : pN P ≤ 12) (hc : pCar P ≤ 20) (hl0 : l.stackTraces = false) (x0 : Int32) : Ct l g yX6_total cX6_total 2 (some .long) 6 360 1 6 [.ref k, .int x0] (dkW g k rd hs tr eo a b T P) (fun v w => totX x0 = none ∧ v = some (.long (totF T P x0)) ∧ w = (dkW g k rd hs tr eo a b T P)) (XX (dkW g k rd hs tr eo a b T P) (totX x0)) := by
  refine Ct.intro [some (.ref k), some (.int x0)] (by decide +kernel) (fun _ h => h) (Nat.le_of_ble_eq_true rfl) (fun A H0 K ok => ?_)
  refine A_iload_n ok.b rfl dX6_total_0 (gps gp0) ?_
  by_cases s1_0 : x0 = 0
  · rw [s1_0]
    refine A_tin ok.b (off := 31) (tgt := 32) dX6_total_1 (by decide) (by decide) (by decide) (by decide) ?_
    refine A_aload_n ok.b rfl dX6_total_32 gp0 ?_
    refine A_getf ok.b cf6 2 (by decide) fl_X6_31 gp0 (gps (gps gp0)) dX6_total_33 ?_
    refine A_callVR ok [1, 2, 3, 4, 5, 6, 7, 8, 9, 10, 11, 12, 13, 14, 15] [0] (As := []) (wr := [(k, .inr (6, [.ref rd, .ref hs, .ref (a 0), .ref tr, .int eo]))]) mf_X5_smokeInside ml_X6_112 in_X5_smokeInside se_X5_smokeInside cf5 (gps gp0) (c_smokeInside l g a b T P hn hc) rfl rfl rfl dX6_total_36 rfl rfl rfl (by decide) (Nat.le_of_ble_eq_true rfl) ⟨(Nat.le_of_ble_eq_true rfl), (Nat.le_of_ble_eq_true rfl)⟩ ⟨(Nat.le_of_ble_eq_true rfl), (Nat.le_of_ble_eq_true rfl)⟩ (fun _ _ hx => hx.elim) (fun v36 w36 q36 => ?_)
    obtain ⟨rfl, rfl⟩ := q36
    refine A_sub [0, 1, 2, 3, 4, 5, 6, 7, 8, 9, 10, 11, 12, 13, 14, 15] (ws2 := dkW g k rd hs tr eo a b (T) (P)) rfl rfl ?_
    refine A_aload_n ok.b rfl dX6_total_39 gp0 ?_
    refine A_getf ok.b cf6 2 (by decide) fl_X6_31 gp0 (gps (gps gp0)) dX6_total_40 ?_
    refine A_getf ok.b cf5 4 (by decide) fl_X6_116 (gps gp0) (gps (gps (gps (gps gp0)))) dX6_total_43 ?_
    refine A_ladd ok.b dX6_total_46 ?_
    refine A_aload_n ok.b rfl dX6_total_47 gp0 ?_
    refine A_getf ok.b cf6 2 (by decide) fl_X6_31 gp0 (gps (gps gp0)) dX6_total_48 ?_
    refine A_getf ok.b cf5 5 (by decide) fl_X6_120 (gps gp0) (gps (gps (gps (gps (gps gp0))))) dX6_total_51 ?_
    refine A_ladd ok.b dX6_total_54 ?_
    refine A_lret ok dX6_total_55 (Nat.le_of_ble_eq_true rfl) (Nat.le_of_ble_eq_true rfl) ?_
    exact ⟨by rw [totX, if_pos (Or.inl s1_0)], by rw [totF, if_pos s1_0], rfl⟩
  by_cases s1_1 : x0 = 1
  · rw [s1_1]
    refine A_tin ok.b (off := 55) (tgt := 56) dX6_total_1 (by decide) (by decide) (by decide) (by decide) ?_
    refine A_aload_n ok.b rfl dX6_total_56 gp0 ?_
    refine A_getf ok.b cf6 2 (by decide) fl_X6_31 gp0 (gps (gps gp0)) dX6_total_57 ?_
    refine A_callVR ok [1, 2, 3, 4, 5, 6, 7, 8, 9, 10, 11, 12, 13, 14, 15] [0] (As := []) (wr := [(k, .inr (6, [.ref rd, .ref hs, .ref (a 0), .ref tr, .int eo]))]) mf_X5_smokeInside ml_X6_112 in_X5_smokeInside se_X5_smokeInside cf5 (gps gp0) (c_smokeInside l g a b T P hn hc) rfl rfl rfl dX6_total_60 rfl rfl rfl (by decide) (Nat.le_of_ble_eq_true rfl) ⟨(Nat.le_of_ble_eq_true rfl), (Nat.le_of_ble_eq_true rfl)⟩ ⟨(Nat.le_of_ble_eq_true rfl), (Nat.le_of_ble_eq_true rfl)⟩ (fun _ _ hx => hx.elim) (fun v60 w60 q60 => ?_)
    obtain ⟨rfl, rfl⟩ := q60
    refine A_sub [0, 1, 2, 3, 4, 5, 6, 7, 8, 9, 10, 11, 12, 13, 14, 15] (ws2 := dkW g k rd hs tr eo a b (T) (P)) rfl rfl ?_
    refine A_lret ok dX6_total_63 (Nat.le_of_ble_eq_true rfl) (Nat.le_of_ble_eq_true rfl) ?_
    exact ⟨by rw [totX, if_pos (Or.inr (Or.inl s1_1))], by rw [totF, if_neg s1_0, if_pos s1_1], rfl⟩
  by_cases s1_2 : x0 = 2
  · rw [s1_2]
    refine A_tin ok.b (off := 63) (tgt := 64) dX6_total_1 (by decide) (by decide) (by decide) (by decide) ?_
    refine A_aload_n ok.b rfl dX6_total_64 gp0 ?_
    refine A_getf ok.b cf6 2 (by decide) fl_X6_31 gp0 (gps (gps gp0)) dX6_total_65 ?_
    refine A_getf ok.b cf5 4 (by decide) fl_X6_116 (gps gp0) (gps (gps (gps (gps gp0)))) dX6_total_68 ?_
    refine A_lret ok dX6_total_71 (Nat.le_of_ble_eq_true rfl) (Nat.le_of_ble_eq_true rfl) ?_
    exact ⟨by rw [totX, if_pos (Or.inr (Or.inr (Or.inl s1_2)))], by rw [totF, if_neg s1_0, if_neg s1_1, if_pos s1_2], rfl⟩
  by_cases s1_3 : x0 = 3
  · rw [s1_3]
    refine A_tin ok.b (off := 71) (tgt := 72) dX6_total_1 (by decide) (by decide) (by decide) (by decide) ?_
    refine A_aload_n ok.b rfl dX6_total_72 gp0 ?_
    refine A_getf ok.b cf6 2 (by decide) fl_X6_31 gp0 (gps (gps gp0)) dX6_total_73 ?_
    refine A_getf ok.b cf5 5 (by decide) fl_X6_120 (gps gp0) (gps (gps (gps (gps (gps gp0))))) dX6_total_76 ?_
    refine A_lret ok dX6_total_79 (Nat.le_of_ble_eq_true rfl) (Nat.le_of_ble_eq_true rfl) ?_
    exact ⟨by rw [totX, if_pos (Or.inr (Or.inr (Or.inr s1_3)))], by rw [totF, if_neg s1_0, if_neg s1_1, if_neg s1_2], rfl⟩
  refine A_tout ok.b (tgt := 80) dX6_total_1 (by have e0 : (x0).toInt ≠ 0 := fun h => s1_0 (Int32.toInt_inj.mp (by rw [h]; decide)); have e1 : (x0).toInt ≠ 1 := fun h => s1_1 (Int32.toInt_inj.mp (by rw [h]; decide)); have e2 : (x0).toInt ≠ 2 := fun h => s1_2 (Int32.toInt_inj.mp (by rw [h]; decide)); have e3 : (x0).toInt ≠ 3 := fun h => s1_3 (Int32.toInt_inj.mp (by rw [h]; decide)); omega) (by decide) ?_
  refine A_throw2 ok hl0 (names := nmsX) (ik := 55) (is := 123) (ic := 59) (by decide +kernel) (by decide +kernel) xk_55 xi_IAE (List.mem_of_getElem? (i := 1) rfl) xa_59 cc_IAE dX6_total_80 dX6_total_83 dX6_total_84 dX6_total_86 dX6_total_89 (Nat.le_of_ble_eq_true rfl) (Nat.le_of_ble_eq_true rfl) (Nat.le_of_ble_eq_true rfl) (Nat.le_of_ble_eq_true rfl) ?_
  exact ⟨by rw [totX, if_neg (fun h => h.elim s1_0 (fun h => h.elim s1_1 (fun h => h.elim s1_2 s1_3)))], List.Perm.refl _⟩
