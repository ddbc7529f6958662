def sClock (T : TD) (x : Int32) : TD := (x, T.2)
def sFire (T : TD) (x : Int32) : TD := (tClock T, x, T.2.2)
def sIns (T : TD) (x : Int32) : TD := (tClock T, tFire T, x, T.2.2.2)
def sLeft (T : TD) (x : Int64) : TD := (tClock T, tFire T, tIns T, x, T.2.2.2.2)
def sRem (T : TD) (x : Int64) : TD := (tClock T, tFire T, tIns T, tLeft T, x, T.2.2.2.2.2)
def sSmoke (T : TD) (f : Nat → Int64) : TD := (tClock T, tFire T, tIns T, tLeft T, tRem T, f, T.2.2.2.2.2.2)
def sFan (T : TD) (f : Nat → Int32) : TD := (tClock T, tFire T, tIns T, tLeft T, tRem T, tSmoke T, f, T.2.2.2.2.2.2.2)
def sBay (T : TD) (f : Nat → Int32) : TD := (tClock T, tFire T, tIns T, tLeft T, tRem T, tSmoke T, tFan T, f, T.2.2.2.2.2.2.2.2)
def sRed (T : TD) (f : Nat → Int32) : TD := (tClock T, tFire T, tIns T, tLeft T, tRem T, tSmoke T, tFan T, tBay T, f, T.2.2.2.2.2.2.2.2.2)
def sLane (T : TD) (f : Nat → Int32) : TD := (tClock T, tFire T, tIns T, tLeft T, tRem T, tSmoke T, tFan T, tBay T, tRed T, f, T.2.2.2.2.2.2.2.2.2.2)
def sCs (T : TD) (f : Nat → Int32) : TD := (tClock T, tFire T, tIns T, tLeft T, tRem T, tSmoke T, tFan T, tBay T, tRed T, tLane T, f, T.2.2.2.2.2.2.2.2.2.2.2)
def sCd (T : TD) (f : Nat → Int32) : TD := (tClock T, tFire T, tIns T, tLeft T, tRem T, tSmoke T, tFan T, tBay T, tRed T, tLane T, tCs T, f, T.2.2.2.2.2.2.2.2.2.2.2.2)
def sEx (T : TD) (f : Nat → Int64) : TD := (tClock T, tFire T, tIns T, tLeft T, tRem T, tSmoke T, tFan T, tBay T, tRed T, tLane T, tCs T, tCd T, f)
/-- the place of a lane -/
def lx (x d : Int32) : Nat := (laneF x d).toNatClampNeg
/-- x is one of the first n -/
def Inn (x : Int32) (n : Nat) : Prop := ∃ t, t < n ∧ x = nI t
theorem lx_ix {x : Int32} {n : Nat} (hn : n ≤ 12) (h : Inn x n) (d : Int32) : Ix (laneF x d) 24 (lx x d) := by
  obtain ⟨t, ht, rfl⟩ := h
  have e1 : laneF (nI t) d = nI (if d = 1 then 2 * t + 1 else 2 * t) := by
    unfold laneF
    split
    · rw [show (2 : Int32) = nI 2 from rfl, pk_mul, nI_1]
    · rw [show (2 : Int32) = nI 2 from rfl, pk_mul]
  have e2 : (if d = 1 then 2 * t + 1 else 2 * t) < 24 := by split <;> omega
  unfold lx
  rw [e1]
  exact ⟨vp_in_nI e2 (by decide), rfl⟩
theorem inn_ix {x : Int32} {n N : Nat} (hn : n ≤ N) (hN : N < 2 ^ 31) (h : Inn x n) : Ix x N x.toNatClampNeg := by
  obtain ⟨t, ht, rfl⟩ := h
  exact ⟨vp_in_nI (by omega) hN, rfl⟩
theorem inn_of {x : Int32} {n : Nat} (hn : n < 2 ^ 31) (h0 : ¬ x < 0) (h1 : ¬ nI n ≤ x) : Inn x n := by
  rcases pk_ix x hn with h | h | h
  · exact absurd h h0
  · exact absurd h h1
  · exact h
theorem inn_of' {x : Int32} {n : Nat} (hn : n < 2 ^ 31) (h0 : ¬ x < 0) (h1 : x < nI n) : Inn x n := inn_of hn h0 (Int32.not_le.mpr h1)
theorem inn_n {t n : Nat} (h : t < n) : Inn (nI t) n := ⟨t, h, rfl⟩

def roomF (T : TD) (P : PD) (s0 d0 : Int32) : Int32 := if pCap P ≤ tLane T (lx s0 d0) then 0 else 1
set_option maxRecDepth 20000 in
set_option maxHeartbeats 2000000 in
theorem c_hasRoom (l : Launch) (g : Gl) (a b : Nat → Nat) (T : TD) (P : PD) (hn : pN P ≤ 12) (s0 d0 : Int32) (hs : Inn s0 (pN P)) : Ct l g yX5_hasRoom cX5_hasRoom 3 (some .boolean) 1 40 0 0 [.ref (a 0), .int s0, .int d0] (tpW g a b T P) (fun v w => v = some (.int (roomF T P s0 d0)) ∧ w = tpW g a b T P) noX := by
  refine Ct.intro [some (.ref (a 0)), some (.int s0), some (.int d0)] (by decide +kernel) (fun _ h => h) (Nat.le_of_ble_eq_true rfl) (fun A H0 K ok => ?_)
  refine A_aload_n ok.b rfl dX5_hasRoom_0 gp0 ?_
  refine A_getf ok.b cf5 10 (by decide) fl_X5_30 gp0 (gps (gps (gps (gps (gps (gps (gps (gps (gps (gps gp0)))))))))) dX5_hasRoom_1 ?_
  refine A_iload_n ok.b rfl dX5_hasRoom_4 (gps gp0) ?_
  refine A_iload_n ok.b rfl dX5_hasRoom_5 (gps (gps gp0)) ?_
  refine A_pureSN ok.b (As := [_, _]) mf_X6_laneIndex (List.mem_of_getElem? (i := 4) rfl) sc_X6_laneIndex (c_laneIndex l g s0 d0) rfl rfl dX5_hasRoom_6 (Nat.le_of_ble_eq_true rfl) ⟨(Nat.le_of_ble_eq_true rfl), (Nat.le_of_ble_eq_true rfl)⟩ ⟨(Nat.le_of_ble_eq_true rfl), (Nat.le_of_ble_eq_true rfl)⟩ ?_
  refine A_iald ok.b (gps (gps (gps (gps (gps gp0))))) (lx_ix hn hs d0) dX5_hasRoom_9 ?_
  refine A_aload_n ok.b rfl dX5_hasRoom_10 gp0 ?_
  refine A_getf ok.b cf5 0 (by decide) fl_X5_42 gp0 gp0 dX5_hasRoom_11 ?_
  refine A_getf ok.b cf2 1 (by decide) fl_X5_69 (gps (gps (gps (gps (gps (gps (gps (gps (gps gp0))))))))) (gps gp0) dX5_hasRoom_14 ?_
  refine A_icmp_ge ok.b (tgt := 24) dX5_hasRoom_17 (by decide) (fun c17 => ?_) (fun c17 => ?_)
  · skip
    refine A_iconst ok.b (v := 0) dX5_hasRoom_24 (by decide) ?_
    refine A_zret ok dX5_hasRoom_25 (by decide) (Nat.le_of_ble_eq_true rfl) (Nat.le_of_ble_eq_true rfl) ?_
    exact ⟨by rw [roomF, if_pos c17], rfl⟩
  · skip
    refine A_iconst ok.b (v := 1) dX5_hasRoom_20 (by decide) ?_
    refine A_goto ok.b (tgt := 25) dX5_hasRoom_21 (by decide) ?_
    refine A_zret ok dX5_hasRoom_25 (by decide) (Nat.le_of_ble_eq_true rfl) (Nat.le_of_ble_eq_true rfl) ?_
    exact ⟨by rw [roomF, if_neg c17], rfl⟩
def aheadF (T : TD) (s0 d0 : Int32) : Int32 := if tFire T < 0 then 0 else if d0 = 1 then (if tFire T ≤ s0 then 0 else 1) else (if s0 ≤ tFire T then 0 else 1)
set_option maxRecDepth 20000 in
set_option maxHeartbeats 2000000 in
theorem c_isFireAhead (l : Launch) (g : Gl) (a b : Nat → Nat) (T : TD) (P : PD) (s0 d0 : Int32) : Ct l g yX5_isFireAhead cX5_isFireAhead 3 (some .boolean) 0 0 0 0 [.ref (a 0), .int s0, .int d0] (tpW g a b T P) (fun v w => v = some (.int (aheadF T s0 d0)) ∧ w = tpW g a b T P) noX := by
  refine Ct.intro [some (.ref (a 0)), some (.int s0), some (.int d0)] (by decide +kernel) (fun _ h => h) (Nat.le_of_ble_eq_true rfl) (fun A H0 K ok => ?_)
  refine A_aload_n ok.b rfl dX5_isFireAhead_0 gp0 ?_
  refine A_getf ok.b cf5 2 (by decide) fl_X5_9 gp0 (gps (gps gp0)) dX5_isFireAhead_1 ?_
  refine A_if_lt ok.b (tgt := 35) dX5_isFireAhead_4 (by decide) (fun c4 => ?_) (fun c4 => ?_)
  · skip
    refine A_iconst ok.b (v := 0) dX5_isFireAhead_35 (by decide) ?_
    refine A_zret ok dX5_isFireAhead_36 (by decide) (Nat.le_of_ble_eq_true rfl) (Nat.le_of_ble_eq_true rfl) ?_
    exact ⟨by rw [aheadF, if_pos c4], rfl⟩
  · skip
    refine A_iload_n ok.b rfl dX5_isFireAhead_7 (gps (gps gp0)) ?_
    refine A_iconst ok.b (v := 1) dX5_isFireAhead_8 (by decide) ?_
    refine A_icmp_ne ok.b (tgt := 23) dX5_isFireAhead_9 (by decide) (fun c9 => ?_) (fun c9 => ?_)
    · skip
      refine A_aload_n ok.b rfl dX5_isFireAhead_23 gp0 ?_
      refine A_getf ok.b cf5 2 (by decide) fl_X5_9 gp0 (gps (gps gp0)) dX5_isFireAhead_24 ?_
      refine A_iload_n ok.b rfl dX5_isFireAhead_27 (gps gp0) ?_
      refine A_icmp_ge ok.b (tgt := 35) dX5_isFireAhead_28 (by decide) (fun c28 => ?_) (fun c28 => ?_)
      · skip
        refine A_iconst ok.b (v := 0) dX5_isFireAhead_35 (by decide) ?_
        refine A_zret ok dX5_isFireAhead_36 (by decide) (Nat.le_of_ble_eq_true rfl) (Nat.le_of_ble_eq_true rfl) ?_
        exact ⟨by rw [aheadF, if_neg c4, if_neg c9, if_pos c28], rfl⟩
      · skip
        refine A_iconst ok.b (v := 1) dX5_isFireAhead_31 (by decide) ?_
        refine A_goto ok.b (tgt := 36) dX5_isFireAhead_32 (by decide) ?_
        refine A_zret ok dX5_isFireAhead_36 (by decide) (Nat.le_of_ble_eq_true rfl) (Nat.le_of_ble_eq_true rfl) ?_
        exact ⟨by rw [aheadF, if_neg c4, if_neg c9, if_neg c28], rfl⟩
    · skip
      refine A_aload_n ok.b rfl dX5_isFireAhead_12 gp0 ?_
      refine A_getf ok.b cf5 2 (by decide) fl_X5_9 gp0 (gps (gps gp0)) dX5_isFireAhead_13 ?_
      refine A_iload_n ok.b rfl dX5_isFireAhead_16 (gps gp0) ?_
      refine A_icmp_le ok.b (tgt := 35) dX5_isFireAhead_17 (by decide) (fun c17 => ?_) (fun c17 => ?_)
      · skip
        refine A_iconst ok.b (v := 0) dX5_isFireAhead_35 (by decide) ?_
        refine A_zret ok dX5_isFireAhead_36 (by decide) (Nat.le_of_ble_eq_true rfl) (Nat.le_of_ble_eq_true rfl) ?_
        exact ⟨by rw [aheadF, if_neg c4, if_pos c9, if_pos c17], rfl⟩
      · skip
        refine A_goto ok.b (tgt := 31) dX5_isFireAhead_20 (by decide) ?_
        refine A_iconst ok.b (v := 1) dX5_isFireAhead_31 (by decide) ?_
        refine A_goto ok.b (tgt := 36) dX5_isFireAhead_32 (by decide) ?_
        refine A_zret ok dX5_isFireAhead_36 (by decide) (Nat.le_of_ble_eq_true rfl) (Nat.le_of_ble_eq_true rfl) ?_
        exact ⟨by rw [aheadF, if_neg c4, if_pos c9, if_neg c17], rfl⟩
def incL (T : TD) (x d : Int32) : TD := sLane T (upd (tLane T) (lx x d) (tLane T (lx x d) + 1))
def decL (T : TD) (x d : Int32) : TD := sLane T (upd (tLane T) (lx x d) (tLane T (lx x d) - 1))
/-- a car drives: 1 if it moved -/
def driveF (P : PD) (T : TD) (c : Nat) (f d : Int32) : Int32 × TD :=
  if f + d < 0 ∨ nI (pN P) ≤ f + d then (1, decL (sIns (sCs T (upd (tCs T) c (-1))) (tIns T - 1)) f d)
  else if f + d = tFire T ∨ tRed T (lx (f + d) d) ≠ 0 ∨ pCap P ≤ tLane T (lx (f + d) d) then (0, T)
  else (1, decL (incL (sCs T (upd (tCs T) c (f + d))) (f + d) d) f d)
set_option maxRecDepth 20000 in
set_option maxHeartbeats 2000000 in
theorem c_driveCar (l : Launch) (g : Gl) (a b : Nat → Nat) (T : TD) (P : PD) (hn : pN P ≤ 12) (c : Nat) (hc : c < 20) (f d : Int32) (hf : Inn f (pN P)) : Ct l g yX5_driveCar cX5_driveCar 6 (some .boolean) 1 40 0 0 [.ref (a 0), .int (nI c), .int f, .int d] (tpW g a b T P) (fun v w => v = some (.int (driveF P T c f d).1) ∧ w = tpW g a b (driveF P T c f d).2 P) noX := by
  refine Ct.intro [some (.ref (a 0)), some (.int (nI c)), some (.int f), some (.int d), none, none] (by decide +kernel) (fun _ h => h) (Nat.le_of_ble_eq_true rfl) (fun A H0 K ok => ?_)
  have hn9 : pN P < 2 ^ 31 := by omega
  refine A_iload_n ok.b rfl dX5_driveCar_0 (gps (gps gp0)) ?_
  refine A_iload_n ok.b rfl dX5_driveCar_1 (gps (gps (gps gp0))) ?_
  refine A_iadd ok.b dX5_driveCar_2 ?_
  refine A_istore ok.b dX5_driveCar_3 (by decide) (sts (sts (sts (sts1 rfl st0)))) ?_
  refine A_iload ok.b dX5_driveCar_5 (gps (gps (gps (gps gp0)))) ?_
  refine A_if_lt ok.b (tgt := 22) dX5_driveCar_7 (by decide) (fun c7 => ?_) (fun c7 => ?_)
  · skip
    refine A_aload_n ok.b rfl dX5_driveCar_22 gp0 ?_
    refine A_getf ok.b cf5 11 (by decide) fl_X5_33 gp0 (gps (gps (gps (gps (gps (gps (gps (gps (gps (gps (gps gp0))))))))))) dX5_driveCar_23 ?_
    refine A_iload_n ok.b rfl dX5_driveCar_26 (gps gp0) ?_
    refine A_iconst ok.b (v := (-1)) dX5_driveCar_27 (by decide) ?_
    refine A_iast ok.b (gps (gps (gps (gps (gps (gps gp0)))))) (ix_n (by omega) (by decide)) (wps (wps (wps (wps (wps (wps wp0)))))) dX5_driveCar_28 ?_
    refine A_aload_n ok.b rfl dX5_driveCar_29 gp0 ?_
    refine A_dup ok.b dX5_driveCar_30 rfl ?_
    refine A_getf ok.b cf5 3 (by decide) fl_X5_49 gp0 (gps (gps (gps gp0))) dX5_driveCar_31 ?_
    refine A_iconst ok.b (v := 1) dX5_driveCar_34 (by decide) ?_
    refine A_isub ok.b dX5_driveCar_35 ?_
    refine A_putf ok.b cf5 3 (by decide) rfl fl_X5_49 gp0 rfl rfl (gp_lt (gps (gps (gps gp0)))) (wps (wps (wps wp0))) wp0 dX5_driveCar_36 ?_
    refine A_goto ok.b (tgt := 107) dX5_driveCar_39 (by decide) ?_
    refine A_aload_n ok.b rfl dX5_driveCar_107 gp0 ?_
    refine A_getf ok.b cf5 10 (by decide) fl_X5_30 gp0 (gps (gps (gps (gps (gps (gps (gps (gps (gps (gps gp0)))))))))) dX5_driveCar_108 ?_
    refine A_iload_n ok.b rfl dX5_driveCar_111 (gps (gps gp0)) ?_
    refine A_iload_n ok.b rfl dX5_driveCar_112 (gps (gps (gps gp0))) ?_
    refine A_pureSN ok.b (As := [_, _]) mf_X6_laneIndex (List.mem_of_getElem? (i := 4) rfl) sc_X6_laneIndex (c_laneIndex l g f d) rfl rfl dX5_driveCar_113 (Nat.le_of_ble_eq_true rfl) ⟨(Nat.le_of_ble_eq_true rfl), (Nat.le_of_ble_eq_true rfl)⟩ ⟨(Nat.le_of_ble_eq_true rfl), (Nat.le_of_ble_eq_true rfl)⟩ ?_
    refine A_dup2_11 ok.b dX5_driveCar_116 rfl rfl ?_
    refine A_iald ok.b (gps (gps (gps (gps (gps gp0))))) (lx_ix hn hf d) dX5_driveCar_117 ?_
    refine A_iconst ok.b (v := 1) dX5_driveCar_118 (by decide) ?_
    refine A_isub ok.b dX5_driveCar_119 ?_
    refine A_iast ok.b (gps (gps (gps (gps (gps gp0))))) (lx_ix hn hf d) (wps (wps (wps (wps (wps wp0))))) dX5_driveCar_120 ?_
    refine A_iconst ok.b (v := 1) dX5_driveCar_121 (by decide) ?_
    refine A_zret ok dX5_driveCar_122 (by decide) (Nat.le_of_ble_eq_true rfl) (Nat.le_of_ble_eq_true rfl) ?_
    rw [driveF, if_pos (Or.inl c7)]
    exact ⟨rfl, rfl⟩
  · skip
    refine A_iload ok.b dX5_driveCar_10 (gps (gps (gps (gps gp0)))) ?_
    refine A_aload_n ok.b rfl dX5_driveCar_12 gp0 ?_
    refine A_getf ok.b cf5 0 (by decide) fl_X5_42 gp0 gp0 dX5_driveCar_13 ?_
    refine A_getf ok.b cf2 0 (by decide) fl_X5_80 (gps (gps (gps (gps (gps (gps (gps (gps (gps gp0))))))))) gp0 dX5_driveCar_16 ?_
    refine A_icmp_lt ok.b (tgt := 42) dX5_driveCar_19 (by decide) (fun c19 => ?_) (fun c19 => ?_)
    · skip
      have ht : Inn (f + d) (pN P) := inn_of' hn9 c7 c19
      refine A_iload ok.b dX5_driveCar_42 (gps (gps (gps (gps gp0)))) ?_
      refine A_iload_n ok.b rfl dX5_driveCar_44 (gps (gps (gps gp0))) ?_
      refine A_pureSN ok.b (As := [_, _]) mf_X6_laneIndex (List.mem_of_getElem? (i := 4) rfl) sc_X6_laneIndex (c_laneIndex l g (f + d) d) rfl rfl dX5_driveCar_45 (Nat.le_of_ble_eq_true rfl) ⟨(Nat.le_of_ble_eq_true rfl), (Nat.le_of_ble_eq_true rfl)⟩ ⟨(Nat.le_of_ble_eq_true rfl), (Nat.le_of_ble_eq_true rfl)⟩ ?_
      refine A_istore ok.b dX5_driveCar_48 (by decide) (sts (sts (sts (sts (sts1 rfl st0))))) ?_
      refine A_iload ok.b dX5_driveCar_50 (gps (gps (gps (gps gp0)))) ?_
      refine A_aload_n ok.b rfl dX5_driveCar_52 gp0 ?_
      refine A_getf ok.b cf5 2 (by decide) fl_X5_9 gp0 (gps (gps gp0)) dX5_driveCar_53 ?_
      refine A_icmp_eq ok.b (tgt := 86) dX5_driveCar_56 (by decide) (fun c56 => ?_) (fun c56 => ?_)
      · skip
        refine A_iconst ok.b (v := 0) dX5_driveCar_86 (by decide) ?_
        refine A_zret ok dX5_driveCar_87 (by decide) (Nat.le_of_ble_eq_true rfl) (Nat.le_of_ble_eq_true rfl) ?_
        rw [driveF, if_neg (by rintro (h | h); exact c7 h; exact Int32.not_le.mpr c19 h), if_pos (Or.inl c56)]
        exact ⟨rfl, rfl⟩
      · skip
        refine A_aload_n ok.b rfl dX5_driveCar_59 gp0 ?_
        refine A_getf ok.b cf5 9 (by decide) fl_X5_26 gp0 (gps (gps (gps (gps (gps (gps (gps (gps (gps gp0))))))))) dX5_driveCar_60 ?_
        refine A_iload ok.b dX5_driveCar_63 (gps (gps (gps (gps (gps gp0))))) ?_
        refine A_zald ok.b (gps (gps (gps (gps gp0)))) (lx_ix hn ht d) dX5_driveCar_65 ?_
        refine A_if_ne ok.b (tgt := 86) dX5_driveCar_66 (by decide) (fun c66 => ?_) (fun c66 => ?_)
        · skip
          refine A_iconst ok.b (v := 0) dX5_driveCar_86 (by decide) ?_
          refine A_zret ok dX5_driveCar_87 (by decide) (Nat.le_of_ble_eq_true rfl) (Nat.le_of_ble_eq_true rfl) ?_
          rw [driveF, if_neg (by rintro (h | h); exact c7 h; exact Int32.not_le.mpr c19 h), if_pos (Or.inr (Or.inl c66))]
          exact ⟨rfl, rfl⟩
        · skip
          refine A_aload_n ok.b rfl dX5_driveCar_69 gp0 ?_
          refine A_getf ok.b cf5 10 (by decide) fl_X5_30 gp0 (gps (gps (gps (gps (gps (gps (gps (gps (gps (gps gp0)))))))))) dX5_driveCar_70 ?_
          refine A_iload ok.b dX5_driveCar_73 (gps (gps (gps (gps (gps gp0))))) ?_
          refine A_iald ok.b (gps (gps (gps (gps (gps gp0))))) (lx_ix hn ht d) dX5_driveCar_75 ?_
          refine A_aload_n ok.b rfl dX5_driveCar_76 gp0 ?_
          refine A_getf ok.b cf5 0 (by decide) fl_X5_42 gp0 gp0 dX5_driveCar_77 ?_
          refine A_getf ok.b cf2 1 (by decide) fl_X5_69 (gps (gps (gps (gps (gps (gps (gps (gps (gps gp0))))))))) (gps gp0) dX5_driveCar_80 ?_
          refine A_icmp_lt ok.b (tgt := 88) dX5_driveCar_83 (by decide) (fun c83 => ?_) (fun c83 => ?_)
          · skip
            refine A_aload_n ok.b rfl dX5_driveCar_88 gp0 ?_
            refine A_getf ok.b cf5 11 (by decide) fl_X5_33 gp0 (gps (gps (gps (gps (gps (gps (gps (gps (gps (gps (gps gp0))))))))))) dX5_driveCar_89 ?_
            refine A_iload_n ok.b rfl dX5_driveCar_92 (gps gp0) ?_
            refine A_iload ok.b dX5_driveCar_93 (gps (gps (gps (gps gp0)))) ?_
            refine A_iast ok.b (gps (gps (gps (gps (gps (gps gp0)))))) (ix_n (by omega) (by decide)) (wps (wps (wps (wps (wps (wps wp0)))))) dX5_driveCar_95 ?_
            refine A_aload_n ok.b rfl dX5_driveCar_96 gp0 ?_
            refine A_getf ok.b cf5 10 (by decide) fl_X5_30 gp0 (gps (gps (gps (gps (gps (gps (gps (gps (gps (gps gp0)))))))))) dX5_driveCar_97 ?_
            refine A_iload ok.b dX5_driveCar_100 (gps (gps (gps (gps (gps gp0))))) ?_
            refine A_dup2_11 ok.b dX5_driveCar_102 rfl rfl ?_
            refine A_iald ok.b (gps (gps (gps (gps (gps gp0))))) (lx_ix hn ht d) dX5_driveCar_103 ?_
            refine A_iconst ok.b (v := 1) dX5_driveCar_104 (by decide) ?_
            refine A_iadd ok.b dX5_driveCar_105 ?_
            refine A_iast ok.b (gps (gps (gps (gps (gps gp0))))) (lx_ix hn ht d) (wps (wps (wps (wps (wps wp0))))) dX5_driveCar_106 ?_
            refine A_aload_n ok.b rfl dX5_driveCar_107 gp0 ?_
            refine A_getf ok.b cf5 10 (by decide) fl_X5_30 gp0 (gps (gps (gps (gps (gps (gps (gps (gps (gps (gps gp0)))))))))) dX5_driveCar_108 ?_
            refine A_iload_n ok.b rfl dX5_driveCar_111 (gps (gps gp0)) ?_
            refine A_iload_n ok.b rfl dX5_driveCar_112 (gps (gps (gps gp0))) ?_
            refine A_pureSN ok.b (As := [_, _]) mf_X6_laneIndex (List.mem_of_getElem? (i := 4) rfl) sc_X6_laneIndex (c_laneIndex l g f d) rfl rfl dX5_driveCar_113 (Nat.le_of_ble_eq_true rfl) ⟨(Nat.le_of_ble_eq_true rfl), (Nat.le_of_ble_eq_true rfl)⟩ ⟨(Nat.le_of_ble_eq_true rfl), (Nat.le_of_ble_eq_true rfl)⟩ ?_
            refine A_dup2_11 ok.b dX5_driveCar_116 rfl rfl ?_
            refine A_iald ok.b (gps (gps (gps (gps (gps gp0))))) (lx_ix hn hf d) dX5_driveCar_117 ?_
            refine A_iconst ok.b (v := 1) dX5_driveCar_118 (by decide) ?_
            refine A_isub ok.b dX5_driveCar_119 ?_
            refine A_iast ok.b (gps (gps (gps (gps (gps gp0))))) (lx_ix hn hf d) (wps (wps (wps (wps (wps wp0))))) dX5_driveCar_120 ?_
            refine A_iconst ok.b (v := 1) dX5_driveCar_121 (by decide) ?_
            refine A_zret ok dX5_driveCar_122 (by decide) (Nat.le_of_ble_eq_true rfl) (Nat.le_of_ble_eq_true rfl) ?_
            rw [driveF, if_neg (by rintro (h | h); exact c7 h; exact Int32.not_le.mpr c19 h), if_neg (by rintro (h | h | h); exact c56 h; exact h c66; exact Int32.not_le.mpr c83 h)]
            exact ⟨rfl, rfl⟩
          · skip
            refine A_iconst ok.b (v := 0) dX5_driveCar_86 (by decide) ?_
            refine A_zret ok dX5_driveCar_87 (by decide) (Nat.le_of_ble_eq_true rfl) (Nat.le_of_ble_eq_true rfl) ?_
            rw [driveF, if_neg (by rintro (h | h); exact c7 h; exact Int32.not_le.mpr c19 h), if_pos (Or.inr (Or.inr (Int32.not_lt.mp c83)))]
            exact ⟨rfl, rfl⟩
    · skip
      refine A_aload_n ok.b rfl dX5_driveCar_22 gp0 ?_
      refine A_getf ok.b cf5 11 (by decide) fl_X5_33 gp0 (gps (gps (gps (gps (gps (gps (gps (gps (gps (gps (gps gp0))))))))))) dX5_driveCar_23 ?_
      refine A_iload_n ok.b rfl dX5_driveCar_26 (gps gp0) ?_
      refine A_iconst ok.b (v := (-1)) dX5_driveCar_27 (by decide) ?_
      refine A_iast ok.b (gps (gps (gps (gps (gps (gps gp0)))))) (ix_n (by omega) (by decide)) (wps (wps (wps (wps (wps (wps wp0)))))) dX5_driveCar_28 ?_
      refine A_aload_n ok.b rfl dX5_driveCar_29 gp0 ?_
      refine A_dup ok.b dX5_driveCar_30 rfl ?_
      refine A_getf ok.b cf5 3 (by decide) fl_X5_49 gp0 (gps (gps (gps gp0))) dX5_driveCar_31 ?_
      refine A_iconst ok.b (v := 1) dX5_driveCar_34 (by decide) ?_
      refine A_isub ok.b dX5_driveCar_35 ?_
      refine A_putf ok.b cf5 3 (by decide) rfl fl_X5_49 gp0 rfl rfl (gp_lt (gps (gps (gps gp0)))) (wps (wps (wps wp0))) wp0 dX5_driveCar_36 ?_
      refine A_goto ok.b (tgt := 107) dX5_driveCar_39 (by decide) ?_
      refine A_aload_n ok.b rfl dX5_driveCar_107 gp0 ?_
      refine A_getf ok.b cf5 10 (by decide) fl_X5_30 gp0 (gps (gps (gps (gps (gps (gps (gps (gps (gps (gps gp0)))))))))) dX5_driveCar_108 ?_
      refine A_iload_n ok.b rfl dX5_driveCar_111 (gps (gps gp0)) ?_
      refine A_iload_n ok.b rfl dX5_driveCar_112 (gps (gps (gps gp0))) ?_
      refine A_pureSN ok.b (As := [_, _]) mf_X6_laneIndex (List.mem_of_getElem? (i := 4) rfl) sc_X6_laneIndex (c_laneIndex l g f d) rfl rfl dX5_driveCar_113 (Nat.le_of_ble_eq_true rfl) ⟨(Nat.le_of_ble_eq_true rfl), (Nat.le_of_ble_eq_true rfl)⟩ ⟨(Nat.le_of_ble_eq_true rfl), (Nat.le_of_ble_eq_true rfl)⟩ ?_
      refine A_dup2_11 ok.b dX5_driveCar_116 rfl rfl ?_
      refine A_iald ok.b (gps (gps (gps (gps (gps gp0))))) (lx_ix hn hf d) dX5_driveCar_117 ?_
      refine A_iconst ok.b (v := 1) dX5_driveCar_118 (by decide) ?_
      refine A_isub ok.b dX5_driveCar_119 ?_
      refine A_iast ok.b (gps (gps (gps (gps (gps gp0))))) (lx_ix hn hf d) (wps (wps (wps (wps (wps wp0))))) dX5_driveCar_120 ?_
      refine A_iconst ok.b (v := 1) dX5_driveCar_121 (by decide) ?_
      refine A_zret ok dX5_driveCar_122 (by decide) (Nat.le_of_ble_eq_true rfl) (Nat.le_of_ble_eq_true rfl) ?_
      rw [driveF, if_pos (Or.inr (Int32.not_lt.mp c19))]
      exact ⟨rfl, rfl⟩
