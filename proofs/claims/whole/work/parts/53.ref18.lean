def drW (g : Gl) (m : Nat → Nat) (s : MS) (d : Nat → Int32) : va_W := [moC m s, (m 2, .inl (g.2.1 0, 1476, .inl d))]
/-- an exception is told, if the first holds -/
def thS (b : Bool) (e : Int32) (s : MS) : MS := if b = true then s.wth e else s
theorem thS_f {b : Bool} {e : Int32} {s : MS} (h : b = false) : thS b e s = s := by rw [h]; rfl
theorem thS_t {b : Bool} {e : Int32} {s : MS} (h : b = true) : thS b e s = s.wth e := by rw [h]; rfl
theorem bI_ff {b : Bool} (h : bI b = 0) : b = false := by cases b; rfl; exact absurd h (by decide)
theorem bI_not (b : Bool) : bI (!b) = if bI b = 0 then 1 else 0 := by cases b <;> rfl
def seE (d : Nat → Int32) (s : Int32) : Bool := !inB s 0 (d 0 - 1)
def caE (d : Nat → Int32) (c : Int32) : Bool := !inB c 0 (d 2 - 1)
def wyE (w : Int32) : Bool := !(decide (w = 1) || decide (w = -1))
theorem se_inn {d : Nat → Int32} {s : Int32} {n : Nat} (hn : n ≤ 12) (h0 : d 0 = nI n) (h : seE d s = false) : Inn s n := by
  unfold seE at h
  rw [h0] at h
  refine in_inn hn ?_
  cases hb : inB s 0 (nI n - 1)
  · rw [hb] at h; exact absurd h (by decide)
  · rfl
theorem in_innC {x : Int32} {n : Nat} (hn : n ≤ 20) (h : inB x 0 (nI n - 1) = true) : Inn x n := by
  have h1 : ¬ x < 0 := fun h2 => by rw [inB_f1 h2] at h; exact absurd h Bool.false_ne_true
  have h2 : ¬ nI n - 1 < x := fun h3 => by rw [inB_f2 h3] at h; exact absurd h Bool.false_ne_true
  refine inn_of (by omega) h1 (fun h3 => h2 (Int32.lt_iff_toInt_lt.mpr ?_))
  have h4 := Int32.le_iff_toInt_le.mp h3
  have e1 : (nI n).toInt = (n : Int) := nI_toInt (by omega)
  have e2 : (nI n - 1).toInt = (n : Int) - 1 := by
    rw [Int32.toInt_sub, e1]
    show ((n : Int) - 1).bmod _ = _
    rw [Int.bmod_eq_of_le (by omega) (by omega)]
  omega
theorem ca_inn {d : Nat → Int32} {s : Int32} {n : Nat} (hn : n ≤ 20) (h0 : d 2 = nI n) (h : caE d s = false) : Inn s n := by
  unfold caE at h
  rw [h0] at h
  refine in_innC hn ?_
  cases hb : inB s 0 (nI n - 1)
  · rw [hb] at h; exact absurd h (by decide)
  · rfl
set_option maxRecDepth 20000 in
set_option maxHeartbeats 2000000 in
theorem r_thrown (l : Launch) (g : Gl) (m : Nat → Nat) (s : MS) : Ct l g yX7_thrown cX7_thrown 1 (some .int) 0 0 0 0 [.ref (m 0)] [moC m s] (fun v w => v = some (.int s.th) ∧ w = [moC m s]) noX := by
  refine Ct.intro [some (.ref (m 0))] (by decide +kernel) (fun _ h => h) (Nat.le_of_ble_eq_true rfl) (fun A H0 K ok => ?_)
  refine A_aload_n ok.b rfl dX7_thrown_0 gp0 ?_
  refine A_getf ok.b cf7 0 (by decide) fl_X7_45 gp0 gp0 dX7_thrown_1 ?_
  refine A_iret ok dX7_thrown_4 (Nat.le_of_ble_eq_true rfl) (Nat.le_of_ble_eq_true rfl) ?_
  exact ⟨rfl, rfl⟩
set_option maxRecDepth 20000 in
set_option maxHeartbeats 2000000 in
theorem r_errorOffset (l : Launch) (g : Gl) (m : Nat → Nat) (s : MS) : Ct l g yX7_errorOffset cX7_errorOffset 1 (some .int) 0 0 0 0 [.ref (m 0)] [moC m s] (fun v w => v = some (.int s.eo) ∧ w = [moC m (s.wth 0)]) noX := by
  refine Ct.intro [some (.ref (m 0))] (by decide +kernel) (fun _ h => h) (Nat.le_of_ble_eq_true rfl) (fun A H0 K ok => ?_)
  refine A_aload_n ok.b rfl dX7_errorOffset_0 gp0 ?_
  refine A_iconst ok.b (v := 0) dX7_errorOffset_1 (by decide) ?_
  refine A_putf ok.b cf7 0 (by decide) rfl fl_X7_45 gp0 rfl rfl (gp_lt gp0) wp0 wp0 dX7_errorOffset_2 ?_
  refine A_aload_n ok.b rfl dX7_errorOffset_5 gp0 ?_
  refine A_getf ok.b cf7 7 (by decide) fl_X7_13 gp0 (gps (gps (gps (gps (gps (gps (gps gp0))))))) dX7_errorOffset_6 ?_
  refine A_iret ok dX7_errorOffset_9 (Nat.le_of_ble_eq_true rfl) (Nat.le_of_ble_eq_true rfl) ?_
  exact ⟨rfl, rfl⟩
set_option maxRecDepth 20000 in
set_option maxHeartbeats 2000000 in
theorem r_fails (l : Launch) (g : Gl) (m : Nat → Nat) (s : MS) (hth : s.th = 0) (b0 : Bool) (e0 : Int32) (he : e0 ≠ 0) : Ct l g yX7_fails cX7_fails 3 (some .boolean) 0 0 0 0 [.ref (m 0), .int (bI b0), .int e0] [moC m s] (fun v w => v = some (.int (bI b0)) ∧ w = [moC m (thS b0 e0 s)]) noX := by
  refine Ct.intro [some (.ref (m 0)), some (.int (bI b0)), some (.int e0)] (by decide +kernel) (fun _ h => h) (Nat.le_of_ble_eq_true rfl) (fun A H0 K ok => ?_)
  refine A_iload_n ok.b rfl dX7_fails_0 (gps gp0) ?_
  refine A_if_eq ok.b (tgt := 16) dX7_fails_1 (by decide) (fun c1 => ?_) (fun c1 => ?_)
  · skip
    refine A_aload_n ok.b rfl dX7_fails_16 gp0 ?_
    refine A_getf ok.b cf7 0 (by decide) fl_X7_45 gp0 gp0 dX7_fails_17 ?_
    refine A_if_eq ok.b (tgt := 27) dX7_fails_20 (by decide) (fun c20 => ?_) (fun c20 => ((show False from c20 hth)).elim)
    refine A_iconst ok.b (v := 0) dX7_fails_27 (by decide) ?_
    refine A_zret ok dX7_fails_28 (by decide) (Nat.le_of_ble_eq_true rfl) (Nat.le_of_ble_eq_true rfl) ?_
    have hb := bI_ff c1
    exact ⟨by rw [hb]; rfl, by rw [thS_f hb]⟩
  · skip
    refine A_aload_n ok.b rfl dX7_fails_4 gp0 ?_
    refine A_getf ok.b cf7 0 (by decide) fl_X7_45 gp0 gp0 dX7_fails_5 ?_
    refine A_if_ne ok.b (tgt := 16) dX7_fails_8 (by decide) (fun c8 => ((show False from c8 hth)).elim) (fun c8 => ?_)
    refine A_aload_n ok.b rfl dX7_fails_11 gp0 ?_
    refine A_iload_n ok.b rfl dX7_fails_12 (gps (gps gp0)) ?_
    refine A_putf ok.b cf7 0 (by decide) rfl fl_X7_45 gp0 rfl rfl (gp_lt gp0) wp0 wp0 dX7_fails_13 ?_
    refine A_aload_n ok.b rfl dX7_fails_16 gp0 ?_
    refine A_getf ok.b cf7 0 (by decide) fl_X7_45 gp0 gp0 dX7_fails_17 ?_
    refine A_if_eq ok.b (tgt := 27) dX7_fails_20 (by decide) (fun c20 => ((show False from he c20)).elim) (fun c20 => ?_)
    refine A_iconst ok.b (v := 1) dX7_fails_23 (by decide) ?_
    refine A_goto ok.b (tgt := 28) dX7_fails_24 (by decide) ?_
    refine A_zret ok dX7_fails_28 (by decide) (Nat.le_of_ble_eq_true rfl) (Nat.le_of_ble_eq_true rfl) ?_
    have hb := bI_n c1
    exact ⟨by rw [hb]; rfl, by rw [thS_t hb] <;> rfl⟩
set_option maxRecDepth 20000 in
set_option maxHeartbeats 2000000 in
theorem r_noSection (l : Launch) (g : Gl) (m : Nat → Nat) (s : MS) (d : Nat → Int32) (hth : s.th = 0) (s0 : Int32) : Ct l g yX7_noSection cX7_noSection 2 (some .boolean) 1 40 0 0 [.ref (m 0), .int s0] (drW g m s d) (fun v w => v = some (.int (bI (seE d s0))) ∧ w = drW g m (thS (seE d s0) 1 s) d) noX := by
  refine Ct.intro [some (.ref (m 0)), some (.int s0)] (by decide +kernel) (fun _ h => h) (Nat.le_of_ble_eq_true rfl) (fun A H0 K ok => ?_)
  refine A_aload_n ok.b rfl dX7_noSection_0 gp0 ?_
  refine A_iload_n ok.b rfl dX7_noSection_1 (gps gp0) ?_
  refine A_iconst ok.b (v := 0) dX7_noSection_2 (by decide) ?_
  refine A_aload_n ok.b rfl dX7_noSection_3 gp0 ?_
  refine A_getf ok.b cf7 8 (by decide) fl_X7_17 gp0 (gps (gps (gps (gps (gps (gps (gps (gps gp0)))))))) dX7_noSection_4 ?_
  refine A_iconst ok.b (v := 0) dX7_noSection_7 (by decide) ?_
  refine A_iald ok.b (gps gp0) (ix_n (j := 0) (by decide) (by decide)) dX7_noSection_8 ?_
  refine A_iconst ok.b (v := 1) dX7_noSection_9 (by decide) ?_
  refine A_isub ok.b dX7_noSection_10 ?_
  refine A_pureS ok.b (As := [_, _, _]) mf_X7_in ml_X7_67 rfl sc_X7_in (r_in l g _ _ _) rfl rfl dX7_noSection_11 (Nat.le_of_ble_eq_true rfl) ⟨(Nat.le_of_ble_eq_true rfl), (Nat.le_of_ble_eq_true rfl)⟩ ⟨(Nat.le_of_ble_eq_true rfl), (Nat.le_of_ble_eq_true rfl)⟩ ?_
  refine A_if_ne ok.b (tgt := 21) dX7_noSection_14 (by decide) (fun c14 => ?_) (fun c14 => ?_)
  · skip
    refine A_iconst ok.b (v := 0) dX7_noSection_21 (by decide) ?_
    refine A_iconst ok.b (v := 1) dX7_noSection_22 (by decide) ?_
    refine A_callVR ok [0] [1] (As := [_, _]) (wr := ([(m 2, .inl (g.2.1 0, 1476, .inl d))] : va_W)) mf_X7_fails ml_X7_194 in_X7_fails se_X7_fails cf7 gp0 (r_fails l g m s hth false 1 (by decide)) rfl rfl rfl dX7_noSection_23 rfl rfl rfl (by decide) (Nat.le_of_ble_eq_true rfl) ⟨(Nat.le_of_ble_eq_true rfl), (Nat.le_of_ble_eq_true rfl)⟩ ⟨(Nat.le_of_ble_eq_true rfl), (Nat.le_of_ble_eq_true rfl)⟩ (fun _ _ hx => hx.elim) (fun v23 w23 q23 => ?_)
    obtain ⟨rfl, rfl⟩ := q23
    refine A_sub [1, 0] (ws2 := drW g m (thS false 1 s) d) rfl rfl ?_
    refine A_zret ok dX7_noSection_26 (bI_z01 _) (Nat.le_of_ble_eq_true rfl) (Nat.le_of_ble_eq_true rfl) ?_
    have hb : seE d s0 = false := by rw [seE, bI_n c14]; rfl
    exact ⟨by rw [hb], by rw [hb]⟩
  · skip
    refine A_iconst ok.b (v := 1) dX7_noSection_17 (by decide) ?_
    refine A_goto ok.b (tgt := 22) dX7_noSection_18 (by decide) ?_
    refine A_iconst ok.b (v := 1) dX7_noSection_22 (by decide) ?_
    refine A_callVR ok [0] [1] (As := [_, _]) (wr := ([(m 2, .inl (g.2.1 0, 1476, .inl d))] : va_W)) mf_X7_fails ml_X7_194 in_X7_fails se_X7_fails cf7 gp0 (r_fails l g m s hth true 1 (by decide)) rfl rfl rfl dX7_noSection_23 rfl rfl rfl (by decide) (Nat.le_of_ble_eq_true rfl) ⟨(Nat.le_of_ble_eq_true rfl), (Nat.le_of_ble_eq_true rfl)⟩ ⟨(Nat.le_of_ble_eq_true rfl), (Nat.le_of_ble_eq_true rfl)⟩ (fun _ _ hx => hx.elim) (fun v23 w23 q23 => ?_)
    obtain ⟨rfl, rfl⟩ := q23
    refine A_sub [1, 0] (ws2 := drW g m (thS true 1 s) d) rfl rfl ?_
    refine A_zret ok dX7_noSection_26 (bI_z01 _) (Nat.le_of_ble_eq_true rfl) (Nat.le_of_ble_eq_true rfl) ?_
    have hb : seE d s0 = true := by rw [seE, bI_ff c14]; rfl
    exact ⟨by rw [hb], by rw [hb]⟩
set_option maxRecDepth 20000 in
set_option maxHeartbeats 2000000 in
theorem r_noCar (l : Launch) (g : Gl) (m : Nat → Nat) (s : MS) (d : Nat → Int32) (hth : s.th = 0) (s0 : Int32) : Ct l g yX7_noCar cX7_noCar 2 (some .boolean) 1 40 0 0 [.ref (m 0), .int s0] (drW g m s d) (fun v w => v = some (.int (bI (caE d s0))) ∧ w = drW g m (thS (caE d s0) 1 s) d) noX := by
  refine Ct.intro [some (.ref (m 0)), some (.int s0)] (by decide +kernel) (fun _ h => h) (Nat.le_of_ble_eq_true rfl) (fun A H0 K ok => ?_)
  refine A_aload_n ok.b rfl dX7_noCar_0 gp0 ?_
  refine A_iload_n ok.b rfl dX7_noCar_1 (gps gp0) ?_
  refine A_iconst ok.b (v := 0) dX7_noCar_2 (by decide) ?_
  refine A_aload_n ok.b rfl dX7_noCar_3 gp0 ?_
  refine A_getf ok.b cf7 8 (by decide) fl_X7_17 gp0 (gps (gps (gps (gps (gps (gps (gps (gps gp0)))))))) dX7_noCar_4 ?_
  refine A_iconst ok.b (v := 2) dX7_noCar_7 (by decide) ?_
  refine A_iald ok.b (gps gp0) (ix_n (j := 2) (by decide) (by decide)) dX7_noCar_8 ?_
  refine A_iconst ok.b (v := 1) dX7_noCar_9 (by decide) ?_
  refine A_isub ok.b dX7_noCar_10 ?_
  refine A_pureS ok.b (As := [_, _, _]) mf_X7_in ml_X7_67 rfl sc_X7_in (r_in l g _ _ _) rfl rfl dX7_noCar_11 (Nat.le_of_ble_eq_true rfl) ⟨(Nat.le_of_ble_eq_true rfl), (Nat.le_of_ble_eq_true rfl)⟩ ⟨(Nat.le_of_ble_eq_true rfl), (Nat.le_of_ble_eq_true rfl)⟩ ?_
  refine A_if_ne ok.b (tgt := 21) dX7_noCar_14 (by decide) (fun c14 => ?_) (fun c14 => ?_)
  · skip
    refine A_iconst ok.b (v := 0) dX7_noCar_21 (by decide) ?_
    refine A_iconst ok.b (v := 1) dX7_noCar_22 (by decide) ?_
    refine A_callVR ok [0] [1] (As := [_, _]) (wr := ([(m 2, .inl (g.2.1 0, 1476, .inl d))] : va_W)) mf_X7_fails ml_X7_194 in_X7_fails se_X7_fails cf7 gp0 (r_fails l g m s hth false 1 (by decide)) rfl rfl rfl dX7_noCar_23 rfl rfl rfl (by decide) (Nat.le_of_ble_eq_true rfl) ⟨(Nat.le_of_ble_eq_true rfl), (Nat.le_of_ble_eq_true rfl)⟩ ⟨(Nat.le_of_ble_eq_true rfl), (Nat.le_of_ble_eq_true rfl)⟩ (fun _ _ hx => hx.elim) (fun v23 w23 q23 => ?_)
    obtain ⟨rfl, rfl⟩ := q23
    refine A_sub [1, 0] (ws2 := drW g m (thS false 1 s) d) rfl rfl ?_
    refine A_zret ok dX7_noCar_26 (bI_z01 _) (Nat.le_of_ble_eq_true rfl) (Nat.le_of_ble_eq_true rfl) ?_
    have hb : caE d s0 = false := by rw [caE, bI_n c14]; rfl
    exact ⟨by rw [hb], by rw [hb]⟩
  · skip
    refine A_iconst ok.b (v := 1) dX7_noCar_17 (by decide) ?_
    refine A_goto ok.b (tgt := 22) dX7_noCar_18 (by decide) ?_
    refine A_iconst ok.b (v := 1) dX7_noCar_22 (by decide) ?_
    refine A_callVR ok [0] [1] (As := [_, _]) (wr := ([(m 2, .inl (g.2.1 0, 1476, .inl d))] : va_W)) mf_X7_fails ml_X7_194 in_X7_fails se_X7_fails cf7 gp0 (r_fails l g m s hth true 1 (by decide)) rfl rfl rfl dX7_noCar_23 rfl rfl rfl (by decide) (Nat.le_of_ble_eq_true rfl) ⟨(Nat.le_of_ble_eq_true rfl), (Nat.le_of_ble_eq_true rfl)⟩ ⟨(Nat.le_of_ble_eq_true rfl), (Nat.le_of_ble_eq_true rfl)⟩ (fun _ _ hx => hx.elim) (fun v23 w23 q23 => ?_)
    obtain ⟨rfl, rfl⟩ := q23
    refine A_sub [1, 0] (ws2 := drW g m (thS true 1 s) d) rfl rfl ?_
    refine A_zret ok dX7_noCar_26 (bI_z01 _) (Nat.le_of_ble_eq_true rfl) (Nat.le_of_ble_eq_true rfl) ?_
    have hb : caE d s0 = true := by rw [caE, bI_ff c14]; rfl
    exact ⟨by rw [hb], by rw [hb]⟩
set_option maxRecDepth 20000 in
set_option maxHeartbeats 2000000 in
theorem r_noWay (l : Launch) (g : Gl) (m : Nat → Nat) (s : MS) (hth : s.th = 0) (w0 : Int32) : Ct l g yX7_noWay cX7_noWay 2 (some .boolean) 1 40 0 0 [.ref (m 0), .int w0] [moC m s] (fun v w => v = some (.int (bI (wyE w0))) ∧ w = [moC m (thS (wyE w0) 2 s)]) noX := by
  refine Ct.intro [some (.ref (m 0)), some (.int w0)] (by decide +kernel) (fun _ h => h) (Nat.le_of_ble_eq_true rfl) (fun A H0 K ok => ?_)
  refine A_aload_n ok.b rfl dX7_noWay_0 gp0 ?_
  refine A_iload_n ok.b rfl dX7_noWay_1 (gps gp0) ?_
  refine A_iconst ok.b (v := 1) dX7_noWay_2 (by decide) ?_
  refine A_icmp_eq ok.b (tgt := 15) dX7_noWay_3 (by decide) (fun c3 => ?_) (fun c3 => ?_)
  · skip
    refine A_iconst ok.b (v := 0) dX7_noWay_15 (by decide) ?_
    refine A_iconst ok.b (v := 2) dX7_noWay_16 (by decide) ?_
    refine A_sameVR ok (As := [_, _]) mf_X7_fails ml_X7_194 in_X7_fails se_X7_fails cf7 gp0 (r_fails l g m s hth false 2 (by decide)) rfl rfl dX7_noWay_17 (Nat.le_of_ble_eq_true rfl) ⟨(Nat.le_of_ble_eq_true rfl), (Nat.le_of_ble_eq_true rfl)⟩ ⟨(Nat.le_of_ble_eq_true rfl), (Nat.le_of_ble_eq_true rfl)⟩ (fun _ _ hx => hx.elim) (fun v17 w17 q17 => ?_)
    obtain ⟨rfl, rfl⟩ := q17
    refine A_zret ok dX7_noWay_20 (bI_z01 _) (Nat.le_of_ble_eq_true rfl) (Nat.le_of_ble_eq_true rfl) ?_
    have hb : wyE w0 = false := by rw [wyE, decide_eq_true c3]; rfl
    exact ⟨by rw [hb], by rw [hb]⟩
  · skip
    refine A_iload_n ok.b rfl dX7_noWay_6 (gps gp0) ?_
    refine A_iconst ok.b (v := (-1)) dX7_noWay_7 (by decide) ?_
    refine A_icmp_eq ok.b (tgt := 15) dX7_noWay_8 (by decide) (fun c8 => ?_) (fun c8 => ?_)
    · skip
      refine A_iconst ok.b (v := 0) dX7_noWay_15 (by decide) ?_
      refine A_iconst ok.b (v := 2) dX7_noWay_16 (by decide) ?_
      refine A_sameVR ok (As := [_, _]) mf_X7_fails ml_X7_194 in_X7_fails se_X7_fails cf7 gp0 (r_fails l g m s hth false 2 (by decide)) rfl rfl dX7_noWay_17 (Nat.le_of_ble_eq_true rfl) ⟨(Nat.le_of_ble_eq_true rfl), (Nat.le_of_ble_eq_true rfl)⟩ ⟨(Nat.le_of_ble_eq_true rfl), (Nat.le_of_ble_eq_true rfl)⟩ (fun _ _ hx => hx.elim) (fun v17 w17 q17 => ?_)
      obtain ⟨rfl, rfl⟩ := q17
      refine A_zret ok dX7_noWay_20 (bI_z01 _) (Nat.le_of_ble_eq_true rfl) (Nat.le_of_ble_eq_true rfl) ?_
      have hb : wyE w0 = false := by rw [wyE, decide_eq_false c3, decide_eq_true c8]; rfl
      exact ⟨by rw [hb], by rw [hb]⟩
    · skip
      refine A_iconst ok.b (v := 1) dX7_noWay_11 (by decide) ?_
      refine A_goto ok.b (tgt := 16) dX7_noWay_12 (by decide) ?_
      refine A_iconst ok.b (v := 2) dX7_noWay_16 (by decide) ?_
      refine A_sameVR ok (As := [_, _]) mf_X7_fails ml_X7_194 in_X7_fails se_X7_fails cf7 gp0 (r_fails l g m s hth true 2 (by decide)) rfl rfl dX7_noWay_17 (Nat.le_of_ble_eq_true rfl) ⟨(Nat.le_of_ble_eq_true rfl), (Nat.le_of_ble_eq_true rfl)⟩ ⟨(Nat.le_of_ble_eq_true rfl), (Nat.le_of_ble_eq_true rfl)⟩ (fun _ _ hx => hx.elim) (fun v17 w17 q17 => ?_)
      obtain ⟨rfl, rfl⟩ := q17
      refine A_zret ok dX7_noWay_20 (bI_z01 _) (Nat.le_of_ble_eq_true rfl) (Nat.le_of_ble_eq_true rfl) ?_
      have hb : wyE w0 = true := by rw [wyE, decide_eq_false c3, decide_eq_false c8]; rfl
      exact ⟨by rw [hb], by rw [hb]⟩
set_option maxRecDepth 20000 in
set_option maxHeartbeats 2000000 in
theorem r_sectionCount (l : Launch) (g : Gl) (m : Nat → Nat) (s : MS) (d : Nat → Int32)  : Ct l g yX7_sectionCount cX7_sectionCount 1 (some .int) 0 0 0 0 [.ref (m 0)] (drW g m s d) (fun v w => v = some (.int (d 0)) ∧ w = drW g m (s.wth (0)) d) noX := by
  refine Ct.intro [some (.ref (m 0))] (by decide +kernel) (fun _ h => h) (Nat.le_of_ble_eq_true rfl) (fun A H0 K ok => ?_)
  refine A_aload_n ok.b rfl dX7_sectionCount_0 gp0 ?_
  refine A_iconst ok.b (v := 0) dX7_sectionCount_1 (by decide) ?_
  refine A_putf ok.b cf7 0 (by decide) rfl fl_X7_45 gp0 rfl rfl (gp_lt gp0) wp0 wp0 dX7_sectionCount_2 ?_
  refine A_aload_n ok.b rfl dX7_sectionCount_5 gp0 ?_
  refine A_getf ok.b cf7 8 (by decide) fl_X7_17 gp0 (gps (gps (gps (gps (gps (gps (gps (gps gp0)))))))) dX7_sectionCount_6 ?_
  refine A_iconst ok.b (v := 0) dX7_sectionCount_9 (by decide) ?_
  refine A_iald ok.b (gps gp0) (ix_n (j := 0) (by decide) (by decide)) dX7_sectionCount_10 ?_
  refine A_iret ok dX7_sectionCount_11 (Nat.le_of_ble_eq_true rfl) (Nat.le_of_ble_eq_true rfl) ?_
  exact ⟨rfl, rfl⟩
set_option maxRecDepth 20000 in
set_option maxHeartbeats 2000000 in
theorem r_carCount (l : Launch) (g : Gl) (m : Nat → Nat) (s : MS) (d : Nat → Int32)  : Ct l g yX7_carCount cX7_carCount 1 (some .int) 0 0 0 0 [.ref (m 0)] (drW g m s d) (fun v w => v = some (.int (d 2)) ∧ w = drW g m (s.wth (0)) d) noX := by
  refine Ct.intro [some (.ref (m 0))] (by decide +kernel) (fun _ h => h) (Nat.le_of_ble_eq_true rfl) (fun A H0 K ok => ?_)
  refine A_aload_n ok.b rfl dX7_carCount_0 gp0 ?_
  refine A_iconst ok.b (v := 0) dX7_carCount_1 (by decide) ?_
  refine A_putf ok.b cf7 0 (by decide) rfl fl_X7_45 gp0 rfl rfl (gp_lt gp0) wp0 wp0 dX7_carCount_2 ?_
  refine A_aload_n ok.b rfl dX7_carCount_5 gp0 ?_
  refine A_getf ok.b cf7 8 (by decide) fl_X7_17 gp0 (gps (gps (gps (gps (gps (gps (gps (gps gp0)))))))) dX7_carCount_6 ?_
  refine A_iconst ok.b (v := 2) dX7_carCount_9 (by decide) ?_
  refine A_iald ok.b (gps gp0) (ix_n (j := 2) (by decide) (by decide)) dX7_carCount_10 ?_
  refine A_iret ok dX7_carCount_11 (Nat.le_of_ble_eq_true rfl) (Nat.le_of_ble_eq_true rfl) ?_
  exact ⟨rfl, rfl⟩
set_option maxRecDepth 20000 in
set_option maxHeartbeats 2000000 in
theorem r_clock (l : Launch) (g : Gl) (m : Nat → Nat) (s : MS) (d : Nat → Int32)  : Ct l g yX7_clock cX7_clock 1 (some .int) 0 0 0 0 [.ref (m 0)] (drW g m s d) (fun v w => v = some (.int (d 3)) ∧ w = drW g m (s.wth (0)) d) noX := by
  refine Ct.intro [some (.ref (m 0))] (by decide +kernel) (fun _ h => h) (Nat.le_of_ble_eq_true rfl) (fun A H0 K ok => ?_)
  refine A_aload_n ok.b rfl dX7_clock_0 gp0 ?_
  refine A_iconst ok.b (v := 0) dX7_clock_1 (by decide) ?_
  refine A_putf ok.b cf7 0 (by decide) rfl fl_X7_45 gp0 rfl rfl (gp_lt gp0) wp0 wp0 dX7_clock_2 ?_
  refine A_aload_n ok.b rfl dX7_clock_5 gp0 ?_
  refine A_getf ok.b cf7 8 (by decide) fl_X7_17 gp0 (gps (gps (gps (gps (gps (gps (gps (gps gp0)))))))) dX7_clock_6 ?_
  refine A_iconst ok.b (v := 3) dX7_clock_9 (by decide) ?_
  refine A_iald ok.b (gps gp0) (ix_n (j := 3) (by decide) (by decide)) dX7_clock_10 ?_
  refine A_iret ok dX7_clock_11 (Nat.le_of_ble_eq_true rfl) (Nat.le_of_ble_eq_true rfl) ?_
  exact ⟨rfl, rfl⟩
set_option maxRecDepth 20000 in
set_option maxHeartbeats 2000000 in
theorem r_fireSection (l : Launch) (g : Gl) (m : Nat → Nat) (s : MS) (d : Nat → Int32)  : Ct l g yX7_fireSection cX7_fireSection 1 (some .int) 0 0 0 0 [.ref (m 0)] (drW g m s d) (fun v w => v = some (.int (d 4)) ∧ w = drW g m (s.wth (0)) d) noX := by
  refine Ct.intro [some (.ref (m 0))] (by decide +kernel) (fun _ h => h) (Nat.le_of_ble_eq_true rfl) (fun A H0 K ok => ?_)
  refine A_aload_n ok.b rfl dX7_fireSection_0 gp0 ?_
  refine A_iconst ok.b (v := 0) dX7_fireSection_1 (by decide) ?_
  refine A_putf ok.b cf7 0 (by decide) rfl fl_X7_45 gp0 rfl rfl (gp_lt gp0) wp0 wp0 dX7_fireSection_2 ?_
  refine A_aload_n ok.b rfl dX7_fireSection_5 gp0 ?_
  refine A_getf ok.b cf7 8 (by decide) fl_X7_17 gp0 (gps (gps (gps (gps (gps (gps (gps (gps gp0)))))))) dX7_fireSection_6 ?_
  refine A_iconst ok.b (v := 4) dX7_fireSection_9 (by decide) ?_
  refine A_iald ok.b (gps gp0) (ix_n (j := 4) (by decide) (by decide)) dX7_fireSection_10 ?_
  refine A_iret ok dX7_fireSection_11 (Nat.le_of_ble_eq_true rfl) (Nat.le_of_ble_eq_true rfl) ?_
  exact ⟨rfl, rfl⟩
set_option maxRecDepth 20000 in
set_option maxHeartbeats 2000000 in
theorem r_flow (l : Launch) (g : Gl) (m : Nat → Nat) (s : MS) (d : Nat → Int32) (n nc : Nat) (hn : n ≤ 12) (hnc : nc ≤ 20) (h0 : d 0 = nI n) (h2 : d 2 = nI nc) : Ct l g yX7_flow cX7_flow 1 (some .int) 2 80 0 0 [.ref (m 0)] (drW g m s d) (fun v w => v = some (.int (flowR d n)) ∧ w = drW g m (s.wth (0)) d) noX := by
  refine Ct.intro [some (.ref (m 0))] (by decide +kernel) (fun _ h => h) (Nat.le_of_ble_eq_true rfl) (fun A H0 K ok => ?_)
  refine A_aload_n ok.b rfl dX7_flow_0 gp0 ?_
  refine A_iconst ok.b (v := 0) dX7_flow_1 (by decide) ?_
  refine A_putf ok.b cf7 0 (by decide) rfl fl_X7_45 gp0 rfl rfl (gp_lt gp0) wp0 wp0 dX7_flow_2 ?_
  refine A_aload_n ok.b rfl dX7_flow_5 gp0 ?_
  refine A_getf ok.b cf7 8 (by decide) fl_X7_17 gp0 (gps (gps (gps (gps (gps (gps (gps (gps gp0)))))))) dX7_flow_6 ?_
  refine A_callSR ok [1] [0] (As := [_]) (wr := ([moC m (s.wth 0)] : va_W)) mf_X7_flowOf ml_X7_222 rfl sc_X7_flowOf  (r_flowOf l g (m 2) d n hn h0) rfl rfl rfl dX7_flow_9 rfl rfl rfl (by decide) (Nat.le_of_ble_eq_true rfl) ⟨(Nat.le_of_ble_eq_true rfl), (Nat.le_of_ble_eq_true rfl)⟩ ⟨(Nat.le_of_ble_eq_true rfl), (Nat.le_of_ble_eq_true rfl)⟩ (fun _ _ hx => hx.elim) (fun v9 w9 q9 => ?_)
  obtain ⟨rfl, rfl⟩ := q9
  refine A_sub [0, 1] (ws2 := drW g m (s.wth 0) d) rfl rfl ?_
  refine A_iret ok dX7_flow_12 (Nat.le_of_ble_eq_true rfl) (Nat.le_of_ble_eq_true rfl) ?_
  exact ⟨rfl, rfl⟩
set_option maxRecDepth 20000 in
set_option maxHeartbeats 2000000 in
theorem r_inside (l : Launch) (g : Gl) (m : Nat → Nat) (s : MS) (d : Nat → Int32) (n nc : Nat) (hn : n ≤ 12) (hnc : nc ≤ 20) (h0 : d 0 = nI n) (h2 : d 2 = nI nc) : Ct l g yX7_inside cX7_inside 1 (some .int) 2 80 0 0 [.ref (m 0)] (drW g m s d) (fun v w => v = some (.int (insR d nc)) ∧ w = drW g m (s.wth (0)) d) noX := by
  refine Ct.intro [some (.ref (m 0))] (by decide +kernel) (fun _ h => h) (Nat.le_of_ble_eq_true rfl) (fun A H0 K ok => ?_)
  refine A_aload_n ok.b rfl dX7_inside_0 gp0 ?_
  refine A_iconst ok.b (v := 0) dX7_inside_1 (by decide) ?_
  refine A_putf ok.b cf7 0 (by decide) rfl fl_X7_45 gp0 rfl rfl (gp_lt gp0) wp0 wp0 dX7_inside_2 ?_
  refine A_aload_n ok.b rfl dX7_inside_5 gp0 ?_
  refine A_getf ok.b cf7 8 (by decide) fl_X7_17 gp0 (gps (gps (gps (gps (gps (gps (gps (gps gp0)))))))) dX7_inside_6 ?_
  refine A_callSR ok [1] [0] (As := [_]) (wr := ([moC m (s.wth 0)] : va_W)) mf_X7_insideOf ml_X7_218 rfl sc_X7_insideOf  (r_insideOf l g (m 2) d nc hnc h2) rfl rfl rfl dX7_inside_9 rfl rfl rfl (by decide) (Nat.le_of_ble_eq_true rfl) ⟨(Nat.le_of_ble_eq_true rfl), (Nat.le_of_ble_eq_true rfl)⟩ ⟨(Nat.le_of_ble_eq_true rfl), (Nat.le_of_ble_eq_true rfl)⟩ (fun _ _ hx => hx.elim) (fun v9 w9 q9 => ?_)
  obtain ⟨rfl, rfl⟩ := q9
  refine A_sub [0, 1] (ws2 := drW g m (s.wth 0) d) rfl rfl ?_
  refine A_iret ok dX7_inside_12 (Nat.le_of_ble_eq_true rfl) (Nat.le_of_ble_eq_true rfl) ?_
  exact ⟨rfl, rfl⟩
set_option maxRecDepth 20000 in
set_option maxHeartbeats 2000000 in
theorem r_smoke (l : Launch) (g : Gl) (m : Nat → Nat) (s : MS) (d : Nat → Int32) (n nc : Nat) (hn : n ≤ 12) (hnc : nc ≤ 20) (h0 : d 0 = nI n) (h2 : d 2 = nI nc) (s0 : Int32) : Ct l g yX7_smoke cX7_smoke 2 (some .int) 2 80 0 0 [.ref (m 0), .int s0] (drW g m s d) (fun v w => v = some (.int (if seE d s0 = true then 0 else d (12 + 7 * s0.toNatClampNeg))) ∧ w = drW g m (s.wth (if seE d s0 = true then 1 else 0)) d) noX := by
  refine Ct.intro [some (.ref (m 0)), some (.int s0)] (by decide +kernel) (fun _ h => h) (Nat.le_of_ble_eq_true rfl) (fun A H0 K ok => ?_)
  refine A_aload_n ok.b rfl dX7_smoke_0 gp0 ?_
  refine A_iconst ok.b (v := 0) dX7_smoke_1 (by decide) ?_
  refine A_putf ok.b cf7 0 (by decide) rfl fl_X7_45 gp0 rfl rfl (gp_lt gp0) wp0 wp0 dX7_smoke_2 ?_
  refine A_aload_n ok.b rfl dX7_smoke_5 gp0 ?_
  refine A_iload_n ok.b rfl dX7_smoke_6 (gps gp0) ?_
  refine A_sameVR ok (As := [_]) mf_X7_noSection ml_X7_259 in_X7_noSection se_X7_noSection cf7 gp0 (r_noSection l g m (s.wth 0) d rfl s0) rfl rfl dX7_smoke_7 (Nat.le_of_ble_eq_true rfl) ⟨(Nat.le_of_ble_eq_true rfl), (Nat.le_of_ble_eq_true rfl)⟩ ⟨(Nat.le_of_ble_eq_true rfl), (Nat.le_of_ble_eq_true rfl)⟩ (fun _ _ hx => hx.elim) (fun v7 w7 q7 => ?_)
  obtain ⟨rfl, rfl⟩ := q7
  refine A_if_eq ok.b (tgt := 17) dX7_smoke_10 (by decide) (fun c10 => ?_) (fun c10 => ?_)
  · skip
    have hb : seE d s0 = false := bI_ff c10
    rw [thS_f hb]
    obtain ⟨t, ht, rfl⟩ := se_inn hn h0 hb
    refine A_aload_n ok.b rfl dX7_smoke_17 gp0 ?_
    refine A_getf ok.b cf7 8 (by decide) fl_X7_17 gp0 (gps (gps (gps (gps (gps (gps (gps (gps gp0)))))))) dX7_smoke_18 ?_
    refine A_iload_n ok.b rfl dX7_smoke_21 (gps gp0) ?_
    refine A_pureS ok.b (As := [_]) mf_X7_section ml_X7_143 rfl sc_X7_section (r_section l g _) rfl rfl dX7_smoke_22 (Nat.le_of_ble_eq_true rfl) ⟨(Nat.le_of_ble_eq_true rfl), (Nat.le_of_ble_eq_true rfl)⟩ ⟨(Nat.le_of_ble_eq_true rfl), (Nat.le_of_ble_eq_true rfl)⟩ ?_
    rw [sec_n (by omega)]
    refine A_iald ok.b (gps gp0) (ix_n (by omega) (by decide)) dX7_smoke_25 ?_
    refine A_iret ok dX7_smoke_26 (Nat.le_of_ble_eq_true rfl) (Nat.le_of_ble_eq_true rfl) ?_
    exact ⟨by rw [if_neg (by rw [hb]; decide), nI_clamp (by omega)], by rw [if_neg (by rw [hb]; decide)] <;> rfl⟩
  · skip
    refine A_iconst ok.b (v := 0) dX7_smoke_13 (by decide) ?_
    refine A_goto ok.b (tgt := 26) dX7_smoke_14 (by decide) ?_
    refine A_iret ok dX7_smoke_26 (Nat.le_of_ble_eq_true rfl) (Nat.le_of_ble_eq_true rfl) ?_
    have hb : seE d s0 = true := bI_n c10
    exact ⟨by rw [if_pos hb], by rw [if_pos hb, thS_t hb] <;> rfl⟩
set_option maxRecDepth 20000 in
set_option maxHeartbeats 2000000 in
theorem r_bay (l : Launch) (g : Gl) (m : Nat → Nat) (s : MS) (d : Nat → Int32) (n nc : Nat) (hn : n ≤ 12) (hnc : nc ≤ 20) (h0 : d 0 = nI n) (h2 : d 2 = nI nc) (s0 : Int32) : Ct l g yX7_bay cX7_bay 2 (some .int) 2 80 0 0 [.ref (m 0), .int s0] (drW g m s d) (fun v w => v = some (.int (if seE d s0 = true then 0 else d (12 + 7 * s0.toNatClampNeg + 4))) ∧ w = drW g m (s.wth (if seE d s0 = true then 1 else 0)) d) noX := by
  refine Ct.intro [some (.ref (m 0)), some (.int s0)] (by decide +kernel) (fun _ h => h) (Nat.le_of_ble_eq_true rfl) (fun A H0 K ok => ?_)
  refine A_aload_n ok.b rfl dX7_bay_0 gp0 ?_
  refine A_iconst ok.b (v := 0) dX7_bay_1 (by decide) ?_
  refine A_putf ok.b cf7 0 (by decide) rfl fl_X7_45 gp0 rfl rfl (gp_lt gp0) wp0 wp0 dX7_bay_2 ?_
  refine A_aload_n ok.b rfl dX7_bay_5 gp0 ?_
  refine A_iload_n ok.b rfl dX7_bay_6 (gps gp0) ?_
  refine A_sameVR ok (As := [_]) mf_X7_noSection ml_X7_259 in_X7_noSection se_X7_noSection cf7 gp0 (r_noSection l g m (s.wth 0) d rfl s0) rfl rfl dX7_bay_7 (Nat.le_of_ble_eq_true rfl) ⟨(Nat.le_of_ble_eq_true rfl), (Nat.le_of_ble_eq_true rfl)⟩ ⟨(Nat.le_of_ble_eq_true rfl), (Nat.le_of_ble_eq_true rfl)⟩ (fun _ _ hx => hx.elim) (fun v7 w7 q7 => ?_)
  obtain ⟨rfl, rfl⟩ := q7
  refine A_if_eq ok.b (tgt := 17) dX7_bay_10 (by decide) (fun c10 => ?_) (fun c10 => ?_)
  · skip
    have hb : seE d s0 = false := bI_ff c10
    rw [thS_f hb]
    obtain ⟨t, ht, rfl⟩ := se_inn hn h0 hb
    refine A_aload_n ok.b rfl dX7_bay_17 gp0 ?_
    refine A_getf ok.b cf7 8 (by decide) fl_X7_17 gp0 (gps (gps (gps (gps (gps (gps (gps (gps gp0)))))))) dX7_bay_18 ?_
    refine A_iload_n ok.b rfl dX7_bay_21 (gps gp0) ?_
    refine A_pureS ok.b (As := [_]) mf_X7_section ml_X7_143 rfl sc_X7_section (r_section l g _) rfl rfl dX7_bay_22 (Nat.le_of_ble_eq_true rfl) ⟨(Nat.le_of_ble_eq_true rfl), (Nat.le_of_ble_eq_true rfl)⟩ ⟨(Nat.le_of_ble_eq_true rfl), (Nat.le_of_ble_eq_true rfl)⟩ ?_
    rw [sec_n (by omega)]
    refine A_iconst ok.b (v := 4) dX7_bay_25 (by decide) ?_
    refine A_iadd ok.b dX7_bay_26 ?_
    rw [show nI (12 + 7 * t) + 4 = nI (12 + 7 * t + 4) from nI_add _ 4]
    refine A_iald ok.b (gps gp0) (ix_n (by omega) (by decide)) dX7_bay_27 ?_
    refine A_iret ok dX7_bay_28 (Nat.le_of_ble_eq_true rfl) (Nat.le_of_ble_eq_true rfl) ?_
    exact ⟨by rw [if_neg (by rw [hb]; decide), nI_clamp (by omega)], by rw [if_neg (by rw [hb]; decide)] <;> rfl⟩
  · skip
    refine A_iconst ok.b (v := 0) dX7_bay_13 (by decide) ?_
    refine A_goto ok.b (tgt := 28) dX7_bay_14 (by decide) ?_
    refine A_iret ok dX7_bay_28 (Nat.le_of_ble_eq_true rfl) (Nat.le_of_ble_eq_true rfl) ?_
    have hb : seE d s0 = true := bI_n c10
    exact ⟨by rw [if_pos hb], by rw [if_pos hb, thS_t hb] <;> rfl⟩
set_option maxRecDepth 20000 in
set_option maxHeartbeats 2000000 in
theorem r_carSection (l : Launch) (g : Gl) (m : Nat → Nat) (s : MS) (d : Nat → Int32) (n nc : Nat) (hn : n ≤ 12) (hnc : nc ≤ 20) (h0 : d 0 = nI n) (h2 : d 2 = nI nc) (s0 : Int32) : Ct l g yX7_carSection cX7_carSection 2 (some .int) 2 80 0 0 [.ref (m 0), .int s0] (drW g m s d) (fun v w => v = some (.int (if caE d s0 = true then 0 else d (96 + 4 * s0.toNatClampNeg))) ∧ w = drW g m (s.wth (if caE d s0 = true then 1 else 0)) d) noX := by
  refine Ct.intro [some (.ref (m 0)), some (.int s0)] (by decide +kernel) (fun _ h => h) (Nat.le_of_ble_eq_true rfl) (fun A H0 K ok => ?_)
  refine A_aload_n ok.b rfl dX7_carSection_0 gp0 ?_
  refine A_iconst ok.b (v := 0) dX7_carSection_1 (by decide) ?_
  refine A_putf ok.b cf7 0 (by decide) rfl fl_X7_45 gp0 rfl rfl (gp_lt gp0) wp0 wp0 dX7_carSection_2 ?_
  refine A_aload_n ok.b rfl dX7_carSection_5 gp0 ?_
  refine A_iload_n ok.b rfl dX7_carSection_6 (gps gp0) ?_
  refine A_sameVR ok (As := [_]) mf_X7_noCar ml_X7_268 in_X7_noCar se_X7_noCar cf7 gp0 (r_noCar l g m (s.wth 0) d rfl s0) rfl rfl dX7_carSection_7 (Nat.le_of_ble_eq_true rfl) ⟨(Nat.le_of_ble_eq_true rfl), (Nat.le_of_ble_eq_true rfl)⟩ ⟨(Nat.le_of_ble_eq_true rfl), (Nat.le_of_ble_eq_true rfl)⟩ (fun _ _ hx => hx.elim) (fun v7 w7 q7 => ?_)
  obtain ⟨rfl, rfl⟩ := q7
  refine A_if_eq ok.b (tgt := 17) dX7_carSection_10 (by decide) (fun c10 => ?_) (fun c10 => ?_)
  · skip
    have hb : caE d s0 = false := bI_ff c10
    rw [thS_f hb]
    obtain ⟨t, ht, rfl⟩ := ca_inn hnc h2 hb
    refine A_aload_n ok.b rfl dX7_carSection_17 gp0 ?_
    refine A_getf ok.b cf7 8 (by decide) fl_X7_17 gp0 (gps (gps (gps (gps (gps (gps (gps (gps gp0)))))))) dX7_carSection_18 ?_
    refine A_iload_n ok.b rfl dX7_carSection_21 (gps gp0) ?_
    refine A_pureS ok.b (As := [_]) mf_X7_car ml_X7_162 rfl sc_X7_car (r_car l g _) rfl rfl dX7_carSection_22 (Nat.le_of_ble_eq_true rfl) ⟨(Nat.le_of_ble_eq_true rfl), (Nat.le_of_ble_eq_true rfl)⟩ ⟨(Nat.le_of_ble_eq_true rfl), (Nat.le_of_ble_eq_true rfl)⟩ ?_
    rw [car_n (by omega)]
    refine A_iald ok.b (gps gp0) (ix_n (by omega) (by decide)) dX7_carSection_25 ?_
    refine A_iret ok dX7_carSection_26 (Nat.le_of_ble_eq_true rfl) (Nat.le_of_ble_eq_true rfl) ?_
    exact ⟨by rw [if_neg (by rw [hb]; decide), nI_clamp (by omega)], by rw [if_neg (by rw [hb]; decide)] <;> rfl⟩
  · skip
    refine A_iconst ok.b (v := 0) dX7_carSection_13 (by decide) ?_
    refine A_goto ok.b (tgt := 26) dX7_carSection_14 (by decide) ?_
    refine A_iret ok dX7_carSection_26 (Nat.le_of_ble_eq_true rfl) (Nat.le_of_ble_eq_true rfl) ?_
    have hb : caE d s0 = true := bI_n c10
    exact ⟨by rw [if_pos hb], by rw [if_pos hb, thS_t hb] <;> rfl⟩
set_option maxRecDepth 20000 in
set_option maxHeartbeats 2000000 in
theorem r_carDirection (l : Launch) (g : Gl) (m : Nat → Nat) (s : MS) (d : Nat → Int32) (n nc : Nat) (hn : n ≤ 12) (hnc : nc ≤ 20) (h0 : d 0 = nI n) (h2 : d 2 = nI nc) (s0 : Int32) : Ct l g yX7_carDirection cX7_carDirection 2 (some .int) 2 80 0 0 [.ref (m 0), .int s0] (drW g m s d) (fun v w => v = some (.int (if caE d s0 = true then 0 else d (96 + 4 * s0.toNatClampNeg + 1))) ∧ w = drW g m (s.wth (if caE d s0 = true then 1 else 0)) d) noX := by
  refine Ct.intro [some (.ref (m 0)), some (.int s0)] (by decide +kernel) (fun _ h => h) (Nat.le_of_ble_eq_true rfl) (fun A H0 K ok => ?_)
  refine A_aload_n ok.b rfl dX7_carDirection_0 gp0 ?_
  refine A_iconst ok.b (v := 0) dX7_carDirection_1 (by decide) ?_
  refine A_putf ok.b cf7 0 (by decide) rfl fl_X7_45 gp0 rfl rfl (gp_lt gp0) wp0 wp0 dX7_carDirection_2 ?_
  refine A_aload_n ok.b rfl dX7_carDirection_5 gp0 ?_
  refine A_iload_n ok.b rfl dX7_carDirection_6 (gps gp0) ?_
  refine A_sameVR ok (As := [_]) mf_X7_noCar ml_X7_268 in_X7_noCar se_X7_noCar cf7 gp0 (r_noCar l g m (s.wth 0) d rfl s0) rfl rfl dX7_carDirection_7 (Nat.le_of_ble_eq_true rfl) ⟨(Nat.le_of_ble_eq_true rfl), (Nat.le_of_ble_eq_true rfl)⟩ ⟨(Nat.le_of_ble_eq_true rfl), (Nat.le_of_ble_eq_true rfl)⟩ (fun _ _ hx => hx.elim) (fun v7 w7 q7 => ?_)
  obtain ⟨rfl, rfl⟩ := q7
  refine A_if_eq ok.b (tgt := 17) dX7_carDirection_10 (by decide) (fun c10 => ?_) (fun c10 => ?_)
  · skip
    have hb : caE d s0 = false := bI_ff c10
    rw [thS_f hb]
    obtain ⟨t, ht, rfl⟩ := ca_inn hnc h2 hb
    refine A_aload_n ok.b rfl dX7_carDirection_17 gp0 ?_
    refine A_getf ok.b cf7 8 (by decide) fl_X7_17 gp0 (gps (gps (gps (gps (gps (gps (gps (gps gp0)))))))) dX7_carDirection_18 ?_
    refine A_iload_n ok.b rfl dX7_carDirection_21 (gps gp0) ?_
    refine A_pureS ok.b (As := [_]) mf_X7_car ml_X7_162 rfl sc_X7_car (r_car l g _) rfl rfl dX7_carDirection_22 (Nat.le_of_ble_eq_true rfl) ⟨(Nat.le_of_ble_eq_true rfl), (Nat.le_of_ble_eq_true rfl)⟩ ⟨(Nat.le_of_ble_eq_true rfl), (Nat.le_of_ble_eq_true rfl)⟩ ?_
    rw [car_n (by omega)]
    refine A_iconst ok.b (v := 1) dX7_carDirection_25 (by decide) ?_
    refine A_iadd ok.b dX7_carDirection_26 ?_
    rw [show nI (96 + 4 * t) + 1 = nI (96 + 4 * t + 1) from nI_1 _]
    refine A_iald ok.b (gps gp0) (ix_n (by omega) (by decide)) dX7_carDirection_27 ?_
    refine A_iret ok dX7_carDirection_28 (Nat.le_of_ble_eq_true rfl) (Nat.le_of_ble_eq_true rfl) ?_
    exact ⟨by rw [if_neg (by rw [hb]; decide), nI_clamp (by omega)], by rw [if_neg (by rw [hb]; decide)] <;> rfl⟩
  · skip
    refine A_iconst ok.b (v := 0) dX7_carDirection_13 (by decide) ?_
    refine A_goto ok.b (tgt := 28) dX7_carDirection_14 (by decide) ?_
    refine A_iret ok dX7_carDirection_28 (Nat.le_of_ble_eq_true rfl) (Nat.le_of_ble_eq_true rfl) ?_
    have hb : caE d s0 = true := bI_n c10
    exact ⟨by rw [if_pos hb], by rw [if_pos hb, thS_t hb] <;> rfl⟩
set_option maxRecDepth 20000 in
set_option maxHeartbeats 2000000 in
theorem r_exposure (l : Launch) (g : Gl) (m : Nat → Nat) (s : MS) (d : Nat → Int32) (n nc : Nat) (hn : n ≤ 12) (hnc : nc ≤ 20) (h0 : d 0 = nI n) (h2 : d 2 = nI nc) (s0 : Int32) : Ct l g yX7_exposure cX7_exposure 2 (some .long) 2 80 0 0 [.ref (m 0), .int s0] (drW g m s d) (fun v w => v = some (.long (if caE d s0 = true then 0 else exR d (96 + 4 * s0.toNatClampNeg + 2))) ∧ w = drW g m (s.wth (if caE d s0 = true then 1 else 0)) d) noX := by
  refine Ct.intro [some (.ref (m 0)), some (.int s0)] (by decide +kernel) (fun _ h => h) (Nat.le_of_ble_eq_true rfl) (fun A H0 K ok => ?_)
  refine A_aload_n ok.b rfl dX7_exposure_0 gp0 ?_
  refine A_iconst ok.b (v := 0) dX7_exposure_1 (by decide) ?_
  refine A_putf ok.b cf7 0 (by decide) rfl fl_X7_45 gp0 rfl rfl (gp_lt gp0) wp0 wp0 dX7_exposure_2 ?_
  refine A_aload_n ok.b rfl dX7_exposure_5 gp0 ?_
  refine A_iload_n ok.b rfl dX7_exposure_6 (gps gp0) ?_
  refine A_sameVR ok (As := [_]) mf_X7_noCar ml_X7_268 in_X7_noCar se_X7_noCar cf7 gp0 (r_noCar l g m (s.wth 0) d rfl s0) rfl rfl dX7_exposure_7 (Nat.le_of_ble_eq_true rfl) ⟨(Nat.le_of_ble_eq_true rfl), (Nat.le_of_ble_eq_true rfl)⟩ ⟨(Nat.le_of_ble_eq_true rfl), (Nat.le_of_ble_eq_true rfl)⟩ (fun _ _ hx => hx.elim) (fun v7 w7 q7 => ?_)
  obtain ⟨rfl, rfl⟩ := q7
  refine A_if_eq ok.b (tgt := 17) dX7_exposure_10 (by decide) (fun c10 => ?_) (fun c10 => ?_)
  · skip
    have hb : caE d s0 = false := bI_ff c10
    rw [thS_f hb]
    obtain ⟨t, ht, rfl⟩ := ca_inn hnc h2 hb
    refine A_aload_n ok.b rfl dX7_exposure_17 gp0 ?_
    refine A_getf ok.b cf7 8 (by decide) fl_X7_17 gp0 (gps (gps (gps (gps (gps (gps (gps (gps gp0)))))))) dX7_exposure_18 ?_
    refine A_iload_n ok.b rfl dX7_exposure_21 (gps gp0) ?_
    refine A_pureS ok.b (As := [_]) mf_X7_car ml_X7_162 rfl sc_X7_car (r_car l g _) rfl rfl dX7_exposure_22 (Nat.le_of_ble_eq_true rfl) ⟨(Nat.le_of_ble_eq_true rfl), (Nat.le_of_ble_eq_true rfl)⟩ ⟨(Nat.le_of_ble_eq_true rfl), (Nat.le_of_ble_eq_true rfl)⟩ ?_
    rw [car_n (by omega)]
    refine A_iconst ok.b (v := 2) dX7_exposure_25 (by decide) ?_
    refine A_iadd ok.b dX7_exposure_26 ?_
    rw [show nI (96 + 4 * t) + 2 = nI (96 + 4 * t + 2) from nI_add _ 2]
    refine A_callSR ok [1] [0] (As := [_, _]) (wr := ([moC m (s.wth 0)] : va_W)) mf_X7_exposed ml_X7_242 rfl sc_X7_exposed  (r_exposed l g (m 2) d (96 + 4 * t + 2) (by omega)) rfl rfl rfl dX7_exposure_27 rfl rfl rfl (by decide) (Nat.le_of_ble_eq_true rfl) ⟨(Nat.le_of_ble_eq_true rfl), (Nat.le_of_ble_eq_true rfl)⟩ ⟨(Nat.le_of_ble_eq_true rfl), (Nat.le_of_ble_eq_true rfl)⟩ (fun _ _ hx => hx.elim) (fun v27 w27 q27 => ?_)
    obtain ⟨rfl, rfl⟩ := q27
    refine A_sub [0, 1] (ws2 := drW g m (s.wth 0) d) rfl rfl ?_
    refine A_lret ok dX7_exposure_30 (Nat.le_of_ble_eq_true rfl) (Nat.le_of_ble_eq_true rfl) ?_
    exact ⟨by rw [if_neg (by rw [hb]; decide), nI_clamp (by omega)], by rw [if_neg (by rw [hb]; decide)] <;> rfl⟩
  · skip
    refine A_lconst ok.b (v := 0) dX7_exposure_13 (by decide) ?_
    refine A_goto ok.b (tgt := 30) dX7_exposure_14 (by decide) ?_
    refine A_lret ok dX7_exposure_30 (Nat.le_of_ble_eq_true rfl) (Nat.le_of_ble_eq_true rfl) ?_
    have hb : caE d s0 = true := bI_n c10
    exact ⟨by rw [if_pos hb], by rw [if_pos hb, thS_t hb] <;> rfl⟩
set_option maxRecDepth 20000 in
set_option maxHeartbeats 2000000 in
theorem r_fan (l : Launch) (g : Gl) (m : Nat → Nat) (s : MS) (d : Nat → Int32) (n nc : Nat) (hn : n ≤ 12) (hnc : nc ≤ 20) (h0 : d 0 = nI n) (h2 : d 2 = nI nc) (s0 : Int32) : Ct l g yX7_fan cX7_fan 2 (some .int) 2 80 0 0 [.ref (m 0), .int s0] (drW g m s d) (fun v w => v = some (.int (if seE d s0 = true then 0 else if d (12 + 7 * s0.toNatClampNeg + 1) = 0 then 0 else d (12 + 7 * s0.toNatClampNeg + 2))) ∧ w = drW g m (s.wth (if seE d s0 = true then 1 else if d (12 + 7 * s0.toNatClampNeg + 1) = 0 then 2 else 0)) d) noX := by
  refine Ct.intro [some (.ref (m 0)), some (.int s0)] (by decide +kernel) (fun _ h => h) (Nat.le_of_ble_eq_true rfl) (fun A H0 K ok => ?_)
  refine A_aload_n ok.b rfl dX7_fan_0 gp0 ?_
  refine A_iconst ok.b (v := 0) dX7_fan_1 (by decide) ?_
  refine A_putf ok.b cf7 0 (by decide) rfl fl_X7_45 gp0 rfl rfl (gp_lt gp0) wp0 wp0 dX7_fan_2 ?_
  refine A_aload_n ok.b rfl dX7_fan_5 gp0 ?_
  refine A_iload_n ok.b rfl dX7_fan_6 (gps gp0) ?_
  refine A_sameVR ok (As := [_]) mf_X7_noSection ml_X7_259 in_X7_noSection se_X7_noSection cf7 gp0 (r_noSection l g m (s.wth 0) d rfl s0) rfl rfl dX7_fan_7 (Nat.le_of_ble_eq_true rfl) ⟨(Nat.le_of_ble_eq_true rfl), (Nat.le_of_ble_eq_true rfl)⟩ ⟨(Nat.le_of_ble_eq_true rfl), (Nat.le_of_ble_eq_true rfl)⟩ (fun _ _ hx => hx.elim) (fun v7 w7 q7 => ?_)
  obtain ⟨rfl, rfl⟩ := q7
  refine A_if_ne ok.b (tgt := 40) dX7_fan_10 (by decide) (fun c10 => ?_) (fun c10 => ?_)
  · skip
    refine A_iconst ok.b (v := 0) dX7_fan_40 (by decide) ?_
    refine A_goto ok.b (tgt := 55) dX7_fan_41 (by decide) ?_
    refine A_iret ok dX7_fan_55 (Nat.le_of_ble_eq_true rfl) (Nat.le_of_ble_eq_true rfl) ?_
    have hb : seE d s0 = true := bI_n c10
    exact ⟨by rw [if_pos hb], by rw [if_pos hb, thS_t hb] <;> rfl⟩
  · skip
    have hb : seE d s0 = false := bI_ff c10
    rw [thS_f hb]
    obtain ⟨t, ht, rfl⟩ := se_inn hn h0 hb
    refine A_aload_n ok.b rfl dX7_fan_13 gp0 ?_
    refine A_aload_n ok.b rfl dX7_fan_14 gp0 ?_
    refine A_getf ok.b cf7 8 (by decide) fl_X7_17 gp0 (gps (gps (gps (gps (gps (gps (gps (gps gp0)))))))) dX7_fan_15 ?_
    refine A_iload_n ok.b rfl dX7_fan_18 (gps gp0) ?_
    refine A_pureS ok.b (As := [_]) mf_X7_section ml_X7_143 rfl sc_X7_section (r_section l g _) rfl rfl dX7_fan_19 (Nat.le_of_ble_eq_true rfl) ⟨(Nat.le_of_ble_eq_true rfl), (Nat.le_of_ble_eq_true rfl)⟩ ⟨(Nat.le_of_ble_eq_true rfl), (Nat.le_of_ble_eq_true rfl)⟩ ?_
    rw [sec_n (by omega)]
    refine A_iconst ok.b (v := 1) dX7_fan_22 (by decide) ?_
    refine A_iadd ok.b dX7_fan_23 ?_
    rw [show nI (12 + 7 * t) + 1 = nI (12 + 7 * t + 1) from nI_add _ 1]
    refine A_iald ok.b (gps gp0) (ix_n (by omega) (by decide)) dX7_fan_24 ?_
    refine A_if_ne ok.b (tgt := 32) dX7_fan_25 (by decide) (fun c25 => ?_) (fun c25 => ?_)
    · skip
      refine A_iconst ok.b (v := 0) dX7_fan_32 (by decide) ?_
      refine A_iconst ok.b (v := 2) dX7_fan_33 (by decide) ?_
      refine A_callVR ok [0] [1] (As := [_, _]) (wr := ([(m 2, .inl (g.2.1 0, 1476, .inl d))] : va_W)) mf_X7_fails ml_X7_194 in_X7_fails se_X7_fails cf7 gp0 (r_fails l g m (s.wth 0) rfl (false) 2 (by decide)) rfl rfl rfl dX7_fan_34 rfl rfl rfl (by decide) (Nat.le_of_ble_eq_true rfl) ⟨(Nat.le_of_ble_eq_true rfl), (Nat.le_of_ble_eq_true rfl)⟩ ⟨(Nat.le_of_ble_eq_true rfl), (Nat.le_of_ble_eq_true rfl)⟩ (fun _ _ hx => hx.elim) (fun v34 w34 q34 => ?_)
      obtain ⟨rfl, rfl⟩ := q34
      refine A_sub [1, 0] (ws2 := drW g m (thS (false) 2 (s.wth 0)) d) rfl rfl ?_
      refine A_if_eq ok.b (tgt := 44) dX7_fan_37 (by decide) (fun c37 => ?_) (fun c37 => ((show False from c37 rfl)).elim)
      refine A_aload_n ok.b rfl dX7_fan_44 gp0 ?_
      refine A_getf ok.b cf7 8 (by decide) fl_X7_17 gp0 (gps (gps (gps (gps (gps (gps (gps (gps gp0)))))))) dX7_fan_45 ?_
      refine A_iload_n ok.b rfl dX7_fan_48 (gps gp0) ?_
      refine A_pureS ok.b (As := [_]) mf_X7_section ml_X7_143 rfl sc_X7_section (r_section l g _) rfl rfl dX7_fan_49 (Nat.le_of_ble_eq_true rfl) ⟨(Nat.le_of_ble_eq_true rfl), (Nat.le_of_ble_eq_true rfl)⟩ ⟨(Nat.le_of_ble_eq_true rfl), (Nat.le_of_ble_eq_true rfl)⟩ ?_
      rw [sec_n (by omega)]
      refine A_iconst ok.b (v := 2) dX7_fan_52 (by decide) ?_
      refine A_iadd ok.b dX7_fan_53 ?_
      rw [show nI (12 + 7 * t) + 2 = nI (12 + 7 * t + 2) from nI_add _ 2]
      refine A_iald ok.b (gps gp0) (ix_n (by omega) (by decide)) dX7_fan_54 ?_
      refine A_iret ok dX7_fan_55 (Nat.le_of_ble_eq_true rfl) (Nat.le_of_ble_eq_true rfl) ?_
      exact ⟨by rw [if_neg (by rw [hb]; decide), nI_clamp (by omega), if_neg c25], by rw [if_neg (by rw [hb]; decide), nI_clamp (by omega), if_neg c25] <;> rfl⟩
    · skip
      refine A_iconst ok.b (v := 1) dX7_fan_28 (by decide) ?_
      refine A_goto ok.b (tgt := 33) dX7_fan_29 (by decide) ?_
      refine A_iconst ok.b (v := 2) dX7_fan_33 (by decide) ?_
      refine A_callVR ok [0] [1] (As := [_, _]) (wr := ([(m 2, .inl (g.2.1 0, 1476, .inl d))] : va_W)) mf_X7_fails ml_X7_194 in_X7_fails se_X7_fails cf7 gp0 (r_fails l g m (s.wth 0) rfl (true) 2 (by decide)) rfl rfl rfl dX7_fan_34 rfl rfl rfl (by decide) (Nat.le_of_ble_eq_true rfl) ⟨(Nat.le_of_ble_eq_true rfl), (Nat.le_of_ble_eq_true rfl)⟩ ⟨(Nat.le_of_ble_eq_true rfl), (Nat.le_of_ble_eq_true rfl)⟩ (fun _ _ hx => hx.elim) (fun v34 w34 q34 => ?_)
      obtain ⟨rfl, rfl⟩ := q34
      refine A_sub [1, 0] (ws2 := drW g m (thS (true) 2 (s.wth 0)) d) rfl rfl ?_
      refine A_if_eq ok.b (tgt := 44) dX7_fan_37 (by decide) (fun c37 => ((show False from absurd c37 (by decide))).elim) (fun c37 => ?_)
      refine A_iconst ok.b (v := 0) dX7_fan_40 (by decide) ?_
      refine A_goto ok.b (tgt := 55) dX7_fan_41 (by decide) ?_
      refine A_iret ok dX7_fan_55 (Nat.le_of_ble_eq_true rfl) (Nat.le_of_ble_eq_true rfl) ?_
      exact ⟨by rw [if_neg (by rw [hb]; decide), nI_clamp (by omega), if_pos c25], by rw [if_neg (by rw [hb]; decide), nI_clamp (by omega), if_pos c25] <;> rfl⟩
theorem sig_n {t : Nat} (ht : t < 12) (w0 : Int32) : nI (12 + 7 * t) + (if w0 = 1 then 5 else 6) = nI (12 + 7 * t + (if w0 = 1 then 5 else 6)) := by
  split
  · exact nI_add _ 5
  · exact nI_add _ 6
theorem sig_lt {t : Nat} (ht : t < 12) (w0 : Int32) : 12 + 7 * t + (if w0 = 1 then 5 else 6) < 1476 := by split <;> omega
set_option maxRecDepth 20000 in
set_option maxHeartbeats 2000000 in
theorem r_isRed (l : Launch) (g : Gl) (m : Nat → Nat) (s : MS) (d : Nat → Int32) (n nc : Nat) (hn : n ≤ 12) (hnc : nc ≤ 20) (h0 : d 0 = nI n) (h2 : d 2 = nI nc) (s0 w0 : Int32) : Ct l g yX7_isRed cX7_isRed 3 (some .boolean) 2 80 0 0 [.ref (m 0), .int s0, .int w0] (drW g m s d) (fun v w => v = some (.int (if seE d s0 = true then 0 else if wyE w0 = true then 0 else if d (12 + 7 * s0.toNatClampNeg + (if w0 = 1 then 5 else 6)) = 1 then 1 else 0)) ∧ w = drW g m (s.wth (if seE d s0 = true then 1 else if wyE w0 = true then 2 else 0)) d) noX := by
  refine Ct.intro [some (.ref (m 0)), some (.int s0), some (.int w0)] (by decide +kernel) (fun _ h => h) (Nat.le_of_ble_eq_true rfl) (fun A H0 K ok => ?_)
  refine A_aload_n ok.b rfl dX7_isRed_0 gp0 ?_
  refine A_iconst ok.b (v := 0) dX7_isRed_1 (by decide) ?_
  refine A_putf ok.b cf7 0 (by decide) rfl fl_X7_45 gp0 rfl rfl (gp_lt gp0) wp0 wp0 dX7_isRed_2 ?_
  refine A_aload_n ok.b rfl dX7_isRed_5 gp0 ?_
  refine A_iload_n ok.b rfl dX7_isRed_6 (gps gp0) ?_
  refine A_sameVR ok (As := [_]) mf_X7_noSection ml_X7_259 in_X7_noSection se_X7_noSection cf7 gp0 (r_noSection l g m (s.wth 0) d rfl s0) rfl rfl dX7_isRed_7 (Nat.le_of_ble_eq_true rfl) ⟨(Nat.le_of_ble_eq_true rfl), (Nat.le_of_ble_eq_true rfl)⟩ ⟨(Nat.le_of_ble_eq_true rfl), (Nat.le_of_ble_eq_true rfl)⟩ (fun _ _ hx => hx.elim) (fun v7 w7 q7 => ?_)
  obtain ⟨rfl, rfl⟩ := q7
  refine A_if_ne ok.b (tgt := 39) dX7_isRed_10 (by decide) (fun c10 => ?_) (fun c10 => ?_)
  · skip
    refine A_iconst ok.b (v := 0) dX7_isRed_39 (by decide) ?_
    refine A_zret ok dX7_isRed_40 (by decide) (Nat.le_of_ble_eq_true rfl) (Nat.le_of_ble_eq_true rfl) ?_
    have hb : seE d s0 = true := bI_n c10
    exact ⟨by rw [if_pos hb], by rw [if_pos hb, thS_t hb] <;> rfl⟩
  · skip
    have hb : seE d s0 = false := bI_ff c10
    rw [thS_f hb]
    obtain ⟨t, ht, rfl⟩ := se_inn hn h0 hb
    refine A_aload_n ok.b rfl dX7_isRed_13 gp0 ?_
    refine A_iload_n ok.b rfl dX7_isRed_14 (gps (gps gp0)) ?_
    refine A_callVR ok [0] [1] (As := [_]) (wr := ([(m 2, .inl (g.2.1 0, 1476, .inl d))] : va_W)) mf_X7_noWay ml_X7_262 in_X7_noWay se_X7_noWay cf7 gp0 (r_noWay l g m (s.wth 0) rfl w0) rfl rfl rfl dX7_isRed_15 rfl rfl rfl (by decide) (Nat.le_of_ble_eq_true rfl) ⟨(Nat.le_of_ble_eq_true rfl), (Nat.le_of_ble_eq_true rfl)⟩ ⟨(Nat.le_of_ble_eq_true rfl), (Nat.le_of_ble_eq_true rfl)⟩ (fun _ _ hx => hx.elim) (fun v15 w15 q15 => ?_)
    obtain ⟨rfl, rfl⟩ := q15
    refine A_sub [1, 0] (ws2 := drW g m (thS (wyE w0) 2 (s.wth 0)) d) rfl rfl ?_
    refine A_if_ne ok.b (tgt := 39) dX7_isRed_18 (by decide) (fun c18 => ?_) (fun c18 => ?_)
    · skip
      refine A_iconst ok.b (v := 0) dX7_isRed_39 (by decide) ?_
      refine A_zret ok dX7_isRed_40 (by decide) (Nat.le_of_ble_eq_true rfl) (Nat.le_of_ble_eq_true rfl) ?_
      have hw : wyE w0 = true := bI_n c18
      exact ⟨by rw [if_neg (by rw [hb]; decide), if_pos hw], by rw [if_neg (by rw [hb]; decide), if_pos hw, thS_t hw] <;> rfl⟩
    · skip
      have hw : wyE w0 = false := bI_ff c18
      rw [thS_f hw]
      refine A_aload_n ok.b rfl dX7_isRed_21 gp0 ?_
      refine A_getf ok.b cf7 8 (by decide) fl_X7_17 gp0 (gps (gps (gps (gps (gps (gps (gps (gps gp0)))))))) dX7_isRed_22 ?_
      refine A_iload_n ok.b rfl dX7_isRed_25 (gps gp0) ?_
      refine A_iload_n ok.b rfl dX7_isRed_26 (gps (gps gp0)) ?_
      refine A_pureS ok.b (As := [_, _]) mf_X7_signal ml_X7_265 rfl sc_X7_signal (r_signal l g _ _) rfl rfl dX7_isRed_27 (Nat.le_of_ble_eq_true rfl) ⟨(Nat.le_of_ble_eq_true rfl), (Nat.le_of_ble_eq_true rfl)⟩ ⟨(Nat.le_of_ble_eq_true rfl), (Nat.le_of_ble_eq_true rfl)⟩ ?_
      rw [sec_n (by omega), sig_n (by omega)]
      refine A_iald ok.b (gps gp0) (ix_n (sig_lt (by omega) w0) (by decide)) dX7_isRed_30 ?_
      refine A_iconst ok.b (v := 1) dX7_isRed_31 (by decide) ?_
      refine A_icmp_ne ok.b (tgt := 39) dX7_isRed_32 (by decide) (fun c32 => ?_) (fun c32 => ?_)
      · skip
        refine A_iconst ok.b (v := 0) dX7_isRed_39 (by decide) ?_
        refine A_zret ok dX7_isRed_40 (by decide) (Nat.le_of_ble_eq_true rfl) (Nat.le_of_ble_eq_true rfl) ?_
        exact ⟨by rw [if_neg (by rw [hb]; decide), if_neg (by rw [hw]; decide), nI_clamp (by omega), if_neg c32], by rw [if_neg (by rw [hb]; decide), if_neg (by rw [hw]; decide)] <;> rfl⟩
      · skip
        refine A_iconst ok.b (v := 1) dX7_isRed_35 (by decide) ?_
        refine A_goto ok.b (tgt := 40) dX7_isRed_36 (by decide) ?_
        refine A_zret ok dX7_isRed_40 (by decide) (Nat.le_of_ble_eq_true rfl) (Nat.le_of_ble_eq_true rfl) ?_
        exact ⟨by rw [if_neg (by rw [hb]; decide), if_neg (by rw [hw]; decide), nI_clamp (by omega), if_pos c32], by rw [if_neg (by rw [hb]; decide), if_neg (by rw [hw]; decide)] <;> rfl⟩
set_option maxRecDepth 20000 in
set_option maxHeartbeats 2000000 in
theorem r_carsIn (l : Launch) (g : Gl) (m : Nat → Nat) (s : MS) (d : Nat → Int32) (n nc : Nat) (hn : n ≤ 12) (hnc : nc ≤ 20) (h0 : d 0 = nI n) (h2 : d 2 = nI nc) (s0 w0 : Int32) : Ct l g yX7_carsIn cX7_carsIn 3 (some .int) 2 80 0 0 [.ref (m 0), .int s0, .int w0] (drW g m s d) (fun v w => v = some (.int (if seE d s0 = true then 0 else if wyE w0 = true then 0 else laneR d s0 w0 nc)) ∧ w = drW g m (s.wth (if seE d s0 = true then 1 else if wyE w0 = true then 2 else 0)) d) noX := by
  refine Ct.intro [some (.ref (m 0)), some (.int s0), some (.int w0)] (by decide +kernel) (fun _ h => h) (Nat.le_of_ble_eq_true rfl) (fun A H0 K ok => ?_)
  refine A_aload_n ok.b rfl dX7_carsIn_0 gp0 ?_
  refine A_iconst ok.b (v := 0) dX7_carsIn_1 (by decide) ?_
  refine A_putf ok.b cf7 0 (by decide) rfl fl_X7_45 gp0 rfl rfl (gp_lt gp0) wp0 wp0 dX7_carsIn_2 ?_
  refine A_aload_n ok.b rfl dX7_carsIn_5 gp0 ?_
  refine A_iload_n ok.b rfl dX7_carsIn_6 (gps gp0) ?_
  refine A_sameVR ok (As := [_]) mf_X7_noSection ml_X7_259 in_X7_noSection se_X7_noSection cf7 gp0 (r_noSection l g m (s.wth 0) d rfl s0) rfl rfl dX7_carsIn_7 (Nat.le_of_ble_eq_true rfl) ⟨(Nat.le_of_ble_eq_true rfl), (Nat.le_of_ble_eq_true rfl)⟩ ⟨(Nat.le_of_ble_eq_true rfl), (Nat.le_of_ble_eq_true rfl)⟩ (fun _ _ hx => hx.elim) (fun v7 w7 q7 => ?_)
  obtain ⟨rfl, rfl⟩ := q7
  refine A_if_ne ok.b (tgt := 21) dX7_carsIn_10 (by decide) (fun c10 => ?_) (fun c10 => ?_)
  · skip
    refine A_iconst ok.b (v := 0) dX7_carsIn_21 (by decide) ?_
    refine A_goto ok.b (tgt := 34) dX7_carsIn_22 (by decide) ?_
    refine A_iret ok dX7_carsIn_34 (Nat.le_of_ble_eq_true rfl) (Nat.le_of_ble_eq_true rfl) ?_
    have hb : seE d s0 = true := bI_n c10
    exact ⟨by rw [if_pos hb], by rw [if_pos hb, thS_t hb] <;> rfl⟩
  · skip
    have hb : seE d s0 = false := bI_ff c10
    rw [thS_f hb]
    refine A_aload_n ok.b rfl dX7_carsIn_13 gp0 ?_
    refine A_iload_n ok.b rfl dX7_carsIn_14 (gps (gps gp0)) ?_
    refine A_callVR ok [0] [1] (As := [_]) (wr := ([(m 2, .inl (g.2.1 0, 1476, .inl d))] : va_W)) mf_X7_noWay ml_X7_262 in_X7_noWay se_X7_noWay cf7 gp0 (r_noWay l g m (s.wth 0) rfl w0) rfl rfl rfl dX7_carsIn_15 rfl rfl rfl (by decide) (Nat.le_of_ble_eq_true rfl) ⟨(Nat.le_of_ble_eq_true rfl), (Nat.le_of_ble_eq_true rfl)⟩ ⟨(Nat.le_of_ble_eq_true rfl), (Nat.le_of_ble_eq_true rfl)⟩ (fun _ _ hx => hx.elim) (fun v15 w15 q15 => ?_)
    obtain ⟨rfl, rfl⟩ := q15
    refine A_sub [1, 0] (ws2 := drW g m (thS (wyE w0) 2 (s.wth 0)) d) rfl rfl ?_
    refine A_if_eq ok.b (tgt := 25) dX7_carsIn_18 (by decide) (fun c18 => ?_) (fun c18 => ?_)
    · skip
      have hw : wyE w0 = false := bI_ff c18
      rw [thS_f hw]
      refine A_aload_n ok.b rfl dX7_carsIn_25 gp0 ?_
      refine A_getf ok.b cf7 8 (by decide) fl_X7_17 gp0 (gps (gps (gps (gps (gps (gps (gps (gps gp0)))))))) dX7_carsIn_26 ?_
      refine A_iload_n ok.b rfl dX7_carsIn_29 (gps gp0) ?_
      refine A_iload_n ok.b rfl dX7_carsIn_30 (gps (gps gp0)) ?_
      refine A_callSR ok [1] [0] (As := [_, _, _]) (wr := ([moC m (s.wth 0)] : va_W)) mf_X7_lane ml_X7_158 rfl sc_X7_lane  (r_lane l g (m 2) d s0 w0 nc hnc h2) rfl rfl rfl dX7_carsIn_31 rfl rfl rfl (by decide) (Nat.le_of_ble_eq_true rfl) ⟨(Nat.le_of_ble_eq_true rfl), (Nat.le_of_ble_eq_true rfl)⟩ ⟨(Nat.le_of_ble_eq_true rfl), (Nat.le_of_ble_eq_true rfl)⟩ (fun _ _ hx => hx.elim) (fun v31 w31 q31 => ?_)
      obtain ⟨rfl, rfl⟩ := q31
      refine A_sub [0, 1] (ws2 := drW g m (s.wth 0) d) rfl rfl ?_
      refine A_iret ok dX7_carsIn_34 (Nat.le_of_ble_eq_true rfl) (Nat.le_of_ble_eq_true rfl) ?_
      exact ⟨by rw [if_neg (by rw [hb]; decide), if_neg (by rw [hw]; decide)], by rw [if_neg (by rw [hb]; decide), if_neg (by rw [hw]; decide)] <;> rfl⟩
    · skip
      refine A_iconst ok.b (v := 0) dX7_carsIn_21 (by decide) ?_
      refine A_goto ok.b (tgt := 34) dX7_carsIn_22 (by decide) ?_
      refine A_iret ok dX7_carsIn_34 (Nat.le_of_ble_eq_true rfl) (Nat.le_of_ble_eq_true rfl) ?_
      have hw : wyE w0 = true := bI_n c18
      exact ⟨by rw [if_neg (by rw [hb]; decide), if_pos hw], by rw [if_neg (by rw [hb]; decide), if_pos hw, thS_t hw] <;> rfl⟩
def smkR (d : Nat → Int32) : Nat → Int64
  | 0 => 0
  | k + 1 => smkR d k + (d (12 + 7 * k)).toInt64
def totE (x : Int32) : Bool := !inB x 0 3
def totR (d : Nat → Int32) (n : Nat) (x : Int32) : Int64 := if x = 1 then smkR d n else (d (if x = 0 then 8 else if x = 2 then 9 else 10)).toInt64
set_option maxRecDepth 20000 in
set_option maxHeartbeats 2000000 in
theorem r_total (l : Launch) (g : Gl) (m : Nat → Nat) (s : MS) (d : Nat → Int32) (n nc : Nat) (hn : n ≤ 12) (hnc : nc ≤ 20) (h0 : d 0 = nI n) (h2 : d 2 = nI nc) (x0 : Int32) : Ct l g yX7_total cX7_total 5 (some .long) 1 80 0 0 [.ref (m 0), .int x0] (drW g m s d) (fun v w => v = some (.long (if totE x0 = true then 0 else totR d n x0)) ∧ w = drW g m (s.wth (if totE x0 = true then 1 else 0)) d) noX := by
  refine Ct.intro [some (.ref (m 0)), some (.int x0), none, none, none] (by decide +kernel) (fun _ h => h) (Nat.le_of_ble_eq_true rfl) (fun A H0 K ok => ?_)
  have L : totE x0 = false → x0 = 1 → ∀ k, k ≤ n → AW g A H0 5 K 67 [some (.ref (m 0)), some (.int x0), some (.long (smkR d k)), none, some (.int (nI (k)))] [] (drW g m (s.wth 0) d) 0 0 := by
    intro hb hx
    refine up_ind n ?_ (fun k hk ih => ?_)
    · skip
      refine A_iload ok.b dX7_total_67 (gps (gps (gps (gps gp0)))) ?_
      refine A_aload_n ok.b rfl dX7_total_69 gp0 ?_
      refine A_getf ok.b cf7 8 (by decide) fl_X7_17 gp0 (gps (gps (gps (gps (gps (gps (gps (gps gp0)))))))) dX7_total_70 ?_
      refine A_iconst ok.b (v := 0) dX7_total_73 (by decide) ?_
      refine A_iald ok.b (gps gp0) (ix_n (j := 0) (by decide) (by decide)) dX7_total_74 ?_
      rw [h0]
      refine A_icmp_ge ok.b (tgt := 98) dX7_total_75 (by decide) (fun c75 => ?_) (fun c75 => (c75 (nI_le (Nat.le_refl _) (by omega))).elim)
      refine A_lload_n ok.b rfl dX7_total_98 (gps (gps gp0)) ?_
      refine A_lret ok dX7_total_99 (Nat.le_of_ble_eq_true rfl) (Nat.le_of_ble_eq_true rfl) ?_
      exact ⟨by rw [if_neg (by rw [hb]; decide), totR, if_pos hx], by rw [if_neg (by rw [hb]; decide)]⟩
    · rw [smkR] at ih
      refine A_iload ok.b dX7_total_67 (gps (gps (gps (gps gp0)))) ?_
      refine A_aload_n ok.b rfl dX7_total_69 gp0 ?_
      refine A_getf ok.b cf7 8 (by decide) fl_X7_17 gp0 (gps (gps (gps (gps (gps (gps (gps (gps gp0)))))))) dX7_total_70 ?_
      refine A_iconst ok.b (v := 0) dX7_total_73 (by decide) ?_
      refine A_iald ok.b (gps gp0) (ix_n (j := 0) (by decide) (by decide)) dX7_total_74 ?_
      rw [h0]
      refine A_icmp_ge ok.b (tgt := 98) dX7_total_75 (by decide) (fun c75 => (nI_ge hk (by omega) c75).elim) (fun c75 => ?_)
      refine A_lload_n ok.b rfl dX7_total_78 (gps (gps gp0)) ?_
      refine A_aload_n ok.b rfl dX7_total_79 gp0 ?_
      refine A_getf ok.b cf7 8 (by decide) fl_X7_17 gp0 (gps (gps (gps (gps (gps (gps (gps (gps gp0)))))))) dX7_total_80 ?_
      refine A_iload ok.b dX7_total_83 (gps (gps (gps (gps gp0)))) ?_
      refine A_pureS ok.b (As := [_]) mf_X7_section ml_X7_143 rfl sc_X7_section (r_section l g _) rfl rfl dX7_total_85 (Nat.le_of_ble_eq_true rfl) ⟨(Nat.le_of_ble_eq_true rfl), (Nat.le_of_ble_eq_true rfl)⟩ ⟨(Nat.le_of_ble_eq_true rfl), (Nat.le_of_ble_eq_true rfl)⟩ ?_
      rw [sec_n (by omega)]
      refine A_iald ok.b (gps gp0) (ix_n (by omega) (by decide)) dX7_total_88 ?_
      refine A_i2l ok.b dX7_total_89 ?_
      refine A_ladd ok.b dX7_total_90 ?_
      refine A_lstore_n ok.b rfl dX7_total_91 (by decide) (sts (sts1 rfl st0w)) ?_
      refine A_iinc ok.b (v := _ + 1) dX7_total_92 (gps (gps (gps (gps gp0)))) rfl (by decide) (sts (sts (sts (sts1n st0)))) ?_
      refine A_goto ok.b (tgt := 67) dX7_total_95 (by decide) ?_
      rw [nI_1]
      exact ih
  refine A_aload_n ok.b rfl dX7_total_0 gp0 ?_
  refine A_iconst ok.b (v := 0) dX7_total_1 (by decide) ?_
  refine A_putf ok.b cf7 0 (by decide) rfl fl_X7_45 gp0 rfl rfl (gp_lt gp0) wp0 wp0 dX7_total_2 ?_
  refine A_aload_n ok.b rfl dX7_total_5 gp0 ?_
  refine A_iload_n ok.b rfl dX7_total_6 (gps gp0) ?_
  refine A_iconst ok.b (v := 0) dX7_total_7 (by decide) ?_
  refine A_iconst ok.b (v := 3) dX7_total_8 (by decide) ?_
  refine A_pureS ok.b (As := [_, _, _]) mf_X7_in ml_X7_67 rfl sc_X7_in (r_in l g _ _ _) rfl rfl dX7_total_9 (Nat.le_of_ble_eq_true rfl) ⟨(Nat.le_of_ble_eq_true rfl), (Nat.le_of_ble_eq_true rfl)⟩ ⟨(Nat.le_of_ble_eq_true rfl), (Nat.le_of_ble_eq_true rfl)⟩ ?_
  refine A_if_ne ok.b (tgt := 19) dX7_total_12 (by decide) (fun c12 => ?_) (fun c12 => ?_)
  · skip
    refine A_iconst ok.b (v := 0) dX7_total_19 (by decide) ?_
    refine A_iconst ok.b (v := 1) dX7_total_20 (by decide) ?_
    refine A_callVR ok [0] [1] (As := [_, _]) (wr := ([(m 2, .inl (g.2.1 0, 1476, .inl d))] : va_W)) mf_X7_fails ml_X7_194 in_X7_fails se_X7_fails cf7 gp0 (r_fails l g m (s.wth 0) rfl (false) 1 (by decide)) rfl rfl rfl dX7_total_21 rfl rfl rfl (by decide) (Nat.le_of_ble_eq_true rfl) ⟨(Nat.le_of_ble_eq_true rfl), (Nat.le_of_ble_eq_true rfl)⟩ ⟨(Nat.le_of_ble_eq_true rfl), (Nat.le_of_ble_eq_true rfl)⟩ (fun _ _ hx => hx.elim) (fun v21 w21 q21 => ?_)
    obtain ⟨rfl, rfl⟩ := q21
    refine A_sub [1, 0] (ws2 := drW g m (thS (false) 1 (s.wth 0)) d) rfl rfl ?_
    refine A_if_eq ok.b (tgt := 29) dX7_total_24 (by decide) (fun c24 => ?_) (fun c24 => ((show False from c24 rfl)).elim)
    have hb : totE x0 = false := by rw [totE, bI_n c12]; rfl
    refine A_iload_n ok.b rfl dX7_total_29 (gps gp0) ?_
    refine A_iconst ok.b (v := 1) dX7_total_30 (by decide) ?_
    refine A_icmp_eq ok.b (tgt := 62) dX7_total_31 (by decide) (fun c31 => ?_) (fun c31 => ?_)
    · skip
      refine A_lconst ok.b (v := 0) dX7_total_62 (by decide) ?_
      refine A_lstore_n ok.b rfl dX7_total_63 (by decide) (sts (sts1 rfl st0w)) ?_
      refine A_iconst ok.b (v := 0) dX7_total_64 (by decide) ?_
      refine A_istore ok.b dX7_total_65 (by decide) (sts (sts (sts (sts1n st0)))) ?_
      exact L hb c31 0 (Nat.zero_le _)
    · skip
      refine A_aload_n ok.b rfl dX7_total_34 gp0 ?_
      refine A_getf ok.b cf7 8 (by decide) fl_X7_17 gp0 (gps (gps (gps (gps (gps (gps (gps (gps gp0)))))))) dX7_total_35 ?_
      refine A_iload_n ok.b rfl dX7_total_38 (gps gp0) ?_
      refine A_if_ne ok.b (tgt := 47) dX7_total_39 (by decide) (fun c39 => ?_) (fun c39 => ?_)
      · skip
        refine A_iload_n ok.b rfl dX7_total_47 (gps gp0) ?_
        refine A_iconst ok.b (v := 2) dX7_total_48 (by decide) ?_
        refine A_icmp_ne ok.b (tgt := 57) dX7_total_49 (by decide) (fun c49 => ?_) (fun c49 => ?_)
        · skip
          refine A_bipush ok.b (v := 10) dX7_total_57 (by decide) ?_
          refine A_iald ok.b (gps gp0) (ix_n (j := 10) (by decide) (by decide)) dX7_total_59 ?_
          refine A_i2l ok.b dX7_total_60 ?_
          refine A_lret ok dX7_total_61 (Nat.le_of_ble_eq_true rfl) (Nat.le_of_ble_eq_true rfl) ?_
          exact ⟨by rw [if_neg (by rw [hb]; decide), totR, if_neg c31, if_neg c39, if_neg c49], by rw [if_neg (by rw [hb]; decide)] <;> rfl⟩
        · skip
          refine A_bipush ok.b (v := 9) dX7_total_52 (by decide) ?_
          refine A_goto ok.b (tgt := 59) dX7_total_54 (by decide) ?_
          refine A_iald ok.b (gps gp0) (ix_n (j := 9) (by decide) (by decide)) dX7_total_59 ?_
          refine A_i2l ok.b dX7_total_60 ?_
          refine A_lret ok dX7_total_61 (Nat.le_of_ble_eq_true rfl) (Nat.le_of_ble_eq_true rfl) ?_
          exact ⟨by rw [if_neg (by rw [hb]; decide), totR, if_neg c31, if_neg c39, if_pos c49], by rw [if_neg (by rw [hb]; decide)] <;> rfl⟩
      · skip
        refine A_bipush ok.b (v := 8) dX7_total_42 (by decide) ?_
        refine A_goto ok.b (tgt := 59) dX7_total_44 (by decide) ?_
        refine A_iald ok.b (gps gp0) (ix_n (j := 8) (by decide) (by decide)) dX7_total_59 ?_
        refine A_i2l ok.b dX7_total_60 ?_
        refine A_lret ok dX7_total_61 (Nat.le_of_ble_eq_true rfl) (Nat.le_of_ble_eq_true rfl) ?_
        exact ⟨by rw [if_neg (by rw [hb]; decide), totR, if_neg c31, if_pos c39], by rw [if_neg (by rw [hb]; decide)] <;> rfl⟩
  · skip
    refine A_iconst ok.b (v := 1) dX7_total_15 (by decide) ?_
    refine A_goto ok.b (tgt := 20) dX7_total_16 (by decide) ?_
    refine A_iconst ok.b (v := 1) dX7_total_20 (by decide) ?_
    refine A_callVR ok [0] [1] (As := [_, _]) (wr := ([(m 2, .inl (g.2.1 0, 1476, .inl d))] : va_W)) mf_X7_fails ml_X7_194 in_X7_fails se_X7_fails cf7 gp0 (r_fails l g m (s.wth 0) rfl (true) 1 (by decide)) rfl rfl rfl dX7_total_21 rfl rfl rfl (by decide) (Nat.le_of_ble_eq_true rfl) ⟨(Nat.le_of_ble_eq_true rfl), (Nat.le_of_ble_eq_true rfl)⟩ ⟨(Nat.le_of_ble_eq_true rfl), (Nat.le_of_ble_eq_true rfl)⟩ (fun _ _ hx => hx.elim) (fun v21 w21 q21 => ?_)
    obtain ⟨rfl, rfl⟩ := q21
    refine A_sub [1, 0] (ws2 := drW g m (thS (true) 1 (s.wth 0)) d) rfl rfl ?_
    refine A_if_eq ok.b (tgt := 29) dX7_total_24 (by decide) (fun c24 => ((show False from absurd c24 (by decide))).elim) (fun c24 => ?_)
    refine A_lconst ok.b (v := 0) dX7_total_27 (by decide) ?_
    refine A_lret ok dX7_total_28 (Nat.le_of_ble_eq_true rfl) (Nat.le_of_ble_eq_true rfl) ?_
    have hb : totE x0 = true := by rw [totE, bI_ff c12]; rfl
    exact ⟨by rw [if_pos hb], by rw [if_pos hb] <;> rfl⟩
