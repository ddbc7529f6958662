def laneF (s0 d0 : Int32) : Int32 := if d0 = 1 then 2 * s0 + 1 else 2 * s0
set_option maxRecDepth 20000 in
set_option maxHeartbeats 2000000 in
theorem c_laneIndex (l : Launch) (g : Gl) (s0 d0 : Int32) : Ct l g yX6_laneIndex cX6_laneIndex 2 (some .int) 0 0 0 0 [.int s0, .int d0] [] (fun v w => v = some (.int (laneF s0 d0)) ∧ w = []) noX := by
  refine Ct.intro [some (.int s0), some (.int d0)] (by decide +kernel) (fun _ h => h) (Nat.le_of_ble_eq_true rfl) (fun A H0 K ok => ?_)
  refine A_iload_n ok.b rfl dX6_laneIndex_0 (gps gp0) ?_
  refine A_iconst ok.b (v := 1) dX6_laneIndex_1 (by decide) ?_
  refine A_icmp_ne ok.b (tgt := 13) dX6_laneIndex_2 (by decide) (fun c2 => ?_) (fun c2 => ?_)
  · skip
    refine A_iconst ok.b (v := 2) dX6_laneIndex_13 (by decide) ?_
    refine A_iload_n ok.b rfl dX6_laneIndex_14 gp0 ?_
    refine A_imul ok.b dX6_laneIndex_15 ?_
    refine A_iret ok dX6_laneIndex_16 (Nat.le_of_ble_eq_true rfl) (Nat.le_of_ble_eq_true rfl) ?_
    exact ⟨by rw [laneF, if_neg c2], rfl⟩
  · skip
    refine A_iconst ok.b (v := 2) dX6_laneIndex_5 (by decide) ?_
    refine A_iload_n ok.b rfl dX6_laneIndex_6 gp0 ?_
    refine A_imul ok.b dX6_laneIndex_7 ?_
    refine A_iconst ok.b (v := 1) dX6_laneIndex_8 (by decide) ?_
    refine A_iadd ok.b dX6_laneIndex_9 ?_
    refine A_goto ok.b (tgt := 16) dX6_laneIndex_10 (by decide) ?_
    refine A_iret ok dX6_laneIndex_16 (Nat.le_of_ble_eq_true rfl) (Nat.le_of_ble_eq_true rfl) ?_
    exact ⟨by rw [laneF, if_pos (c2)], rfl⟩
def flowSum (d : Int32) (f : Nat → Int32) : Nat → Int32
  | 0 => d
  | k + 1 => flowSum d f k + f k
def clampF (x : Int32) : Int32 := if (-100 : Int32) < (if x < 100 then x else 100) then (if x < 100 then x else 100) else -100
def flowF (T : TD) (P : PD) : Int32 := clampF (flowSum (pDraft P) (tFan T) (pN P))
set_option maxRecDepth 20000 in
set_option maxHeartbeats 2000000 in
theorem c_airFlow (l : Launch) (g : Gl) (a b : Nat → Nat) (T : TD) (P : PD) (hn : pN P ≤ 12) : Ct l g yX5_airFlow cX5_airFlow 3 (some .int) 1 40 0 0 [.ref (a 0)] (tpW g a b T P) (fun v w => v = some (.int (flowF T P)) ∧ w = tpW g a b T P) noX := by
  refine Ct.intro [some (.ref (a 0)), none, none] (by decide +kernel) (fun _ h => h) (Nat.le_of_ble_eq_true rfl) (fun A H0 K ok => ?_)
  have L : ∀ k, k ≤ pN P → AW g A H0 3 K 10 [some (.ref (a 0)), some (.int (flowSum (pDraft P) (tFan T) k)), some (.int (nI k))] [] (tpW g a b T P) 0 0 := by
    refine up_ind (pN P) ?_ (fun k hk ih => ?_)
    · skip
      refine A_iload_n ok.b rfl dX5_airFlow_10 (gps (gps gp0)) ?_
      refine A_aload_n ok.b rfl dX5_airFlow_11 gp0 ?_
      refine A_getf ok.b cf5 0 (by decide) fl_X5_42 gp0 gp0 dX5_airFlow_12 ?_
      refine A_getf ok.b cf2 0 (by decide) fl_X5_80 (gps (gps (gps (gps (gps (gps (gps (gps (gps gp0))))))))) gp0 dX5_airFlow_15 ?_
      refine A_icmp_ge ok.b (tgt := 36) dX5_airFlow_18 (by decide) (fun c18 => ?_) (fun c18 => (c18 (nI_le (Nat.le_refl _) (by omega))).elim)
      refine A_bipush ok.b (v := (-100)) dX5_airFlow_36 (by decide) ?_
      refine A_bipush ok.b (v := 100) dX5_airFlow_38 (by decide) ?_
      refine A_iload_n ok.b rfl dX5_airFlow_40 (gps gp0) ?_
      refine A_min ok.b (ml_X5_83) dX5_airFlow_41 (Nat.le_of_ble_eq_true rfl) (Nat.le_of_ble_eq_true rfl) (Nat.le_of_ble_eq_true rfl) (Nat.le_of_ble_eq_true rfl) ?_
      refine A_max ok.b (ml_X5_88) dX5_airFlow_44 (Nat.le_of_ble_eq_true rfl) (Nat.le_of_ble_eq_true rfl) (Nat.le_of_ble_eq_true rfl) (Nat.le_of_ble_eq_true rfl) ?_
      refine A_iret ok dX5_airFlow_47 (Nat.le_of_ble_eq_true rfl) (Nat.le_of_ble_eq_true rfl) ?_
      exact ⟨rfl, rfl⟩
    · skip
      refine A_iload_n ok.b rfl dX5_airFlow_10 (gps (gps gp0)) ?_
      refine A_aload_n ok.b rfl dX5_airFlow_11 gp0 ?_
      refine A_getf ok.b cf5 0 (by decide) fl_X5_42 gp0 gp0 dX5_airFlow_12 ?_
      refine A_getf ok.b cf2 0 (by decide) fl_X5_80 (gps (gps (gps (gps (gps (gps (gps (gps (gps gp0))))))))) gp0 dX5_airFlow_15 ?_
      refine A_icmp_ge ok.b (tgt := 36) dX5_airFlow_18 (by decide) (fun c18 => (nI_ge hk (by omega) c18).elim) (fun c18 => ?_)
      refine A_iload_n ok.b rfl dX5_airFlow_21 (gps gp0) ?_
      refine A_aload_n ok.b rfl dX5_airFlow_22 gp0 ?_
      refine A_getf ok.b cf5 7 (by decide) fl_X5_19 gp0 (gps (gps (gps (gps (gps (gps (gps gp0))))))) dX5_airFlow_23 ?_
      refine A_iload_n ok.b rfl dX5_airFlow_26 (gps (gps gp0)) ?_
      refine A_iald ok.b (gps (gps gp0)) (ix_n (by omega) (by decide)) dX5_airFlow_27 ?_
      refine A_iadd ok.b dX5_airFlow_28 ?_
      refine A_istore_n ok.b rfl dX5_airFlow_29 (by decide) (sts1 rfl st0) ?_
      refine A_iinc ok.b (v := _ + 1) dX5_airFlow_30 (gps (gps gp0)) rfl (by decide) (sts (sts1 rfl st0)) ?_
      refine A_goto ok.b (tgt := 10) dX5_airFlow_33 (by decide) ?_
      rw [nI_1]
      exact ih
  refine A_aload_n ok.b rfl dX5_airFlow_0 gp0 ?_
  refine A_getf ok.b cf5 0 (by decide) fl_X5_42 gp0 gp0 dX5_airFlow_1 ?_
  refine A_getf ok.b cf2 2 (by decide) fl_X5_77 (gps (gps (gps (gps (gps (gps (gps (gps (gps gp0))))))))) (gps (gps gp0)) dX5_airFlow_4 ?_
  refine A_istore_n ok.b rfl dX5_airFlow_7 (by decide) (sts1 rfl st0) ?_
  refine A_iconst ok.b (v := 0) dX5_airFlow_8 (by decide) ?_
  refine A_istore_n ok.b rfl dX5_airFlow_9 (by decide) (sts (sts1 rfl st0)) ?_
  exact L 0 (Nat.zero_le _)
