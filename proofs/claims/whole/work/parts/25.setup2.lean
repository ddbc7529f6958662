theorem RI_wT {s : RS} {x : TD} (h : RI s) : RI (s.wT x) := ⟨h.t1, h.t2, h.n, h.c, h.k⟩
theorem RK_bay {len : Nat} {B : Nat → Int32} (hlen : len ≤ 800) : RK (bayR len B) := by
  intro s h
  unfold bayR
  split
  · refine RK_and (RK_sec hlen) (fun s h => ?_) _ (RI_adv hlen h)
    unfold bayK
    split
    · exact (⟨h.t1, h.t2, h.n, h.c, h.k⟩ : RI ((s.wT (sBay s.T (upd (tBay s.T) s.ix 1))).wbays (s.bays + 1)))
    · exact RI_failN _ h
  · exact RI_fail _ h
theorem RK_vent {len : Nat} {B : Nat → Int32} (hlen : len ≤ 800) : RK (ventR len B) := by
  intro s h
  refine RK_and (RK_sec hlen) (fun s h => ?_) _ (RI_adv hlen h)
  unfold ventK
  split
  · exact RK_and (RK_num hlen _ _) (fun s2 h => (⟨h.t1, h.t2, h.n, h.c, h.k⟩ : RI (ventK2 s.ix s2).2)) _ h
  · exact RI_failN _ h
theorem RK_fan {len : Nat} {B : Nat → Int32} (hlen : len ≤ 800) : RK (fanR len B) := by
  intro s h
  refine RK_and (RK_sec hlen) (fun s h => ?_) _ (RI_adv hlen h)
  unfold fanK
  split
  · exact RK_and (RK_set hlen _) (fun s2 h => (⟨h.t1, h.t2, h.n, h.c, h.k⟩ : RI (fanK2 s.ix s2).2)) _ h
  · exact RI_failN _ h
theorem RK_car {len : Nat} {B : Nat → Int32} (hlen : len ≤ 800) : RK (carR len B) := by
  intro s h
  unfold carR
  split
  · rename_i hc
    have h1 := RK_sec (B := B) hlen _ (RI_adv (B := B) hlen h)
    have e1 : (secR len B (advR len B s)).2.P = s.P := sec_P
    by_cases b1 : (secR len B (advR len B s)).1 = true
    · rw [andM_t b1]
      have h2 := RK_way (B := B) hlen _ h1
      have e2 := (way_keep (len := len) (B := B) (s := (secR len B (advR len B s)).2)).2
      by_cases b2 : (wayR len B (secR len B (advR len B s)).2).1 = true
      · rw [andM_t b2]
        generalize wayR len B (secR len B (advR len B s)).2 = F at h2 e2
        unfold carK
        split
        · exact RI_failN _ h2
        · exact ⟨h2.t1, h2.t2, h2.n, by show pCar F.2.P + 1 ≤ 20; rw [e2, e1]; exact hc, h2.k⟩
      · rw [andM_f b2]; exact h2
    · rw [andM_f b1]; exact h1
  · exact RI_fail _ h
theorem RK_fire {len : Nat} {B : Nat → Int32} (hlen : len ≤ 800) : RK (fireR len B) := by
  intro s h
  unfold fireR
  split
  · exact RK_and (RK_sec hlen) (fun s h => (⟨h.t1, h.t2, h.n, h.c, h.k⟩ : RI (fireK s).2)) _ (RI_adv hlen (⟨h.t1, h.t2, h.n, h.c, h.k⟩ : RI (s.wfr 1)))
  · exact RI_fail _ h
theorem RK_draft {len : Nat} {B : Nat → Int32} (hlen : len ≤ 800) : RK (draftR len B) := by
  intro s h
  unfold draftR
  split
  · exact RK_and (RK_set hlen _) (fun s h => (⟨h.t1, h.t2, h.n, h.c, h.k⟩ : RI (draftK s).2)) _ (RI_adv hlen (⟨h.t1, h.t2, h.n, h.c, h.k⟩ : RI (s.wdr 1)))
  · exact RI_fail _ h
theorem RK_red {len : Nat} {B : Nat → Int32} (hlen : len ≤ 800) : RK (redR len B) := fun s h => RK_and (RK_sec hlen) (RK_and (RK_way hlen) (fun s h => (⟨h.t1, h.t2, h.n, h.c, h.k⟩ : RI (redK2 s).2))) _ (RI_adv hlen h)
theorem RK_end : RK (fun s => (true, endR s)) := fun s h => (⟨h.t1, h.t2, h.n, h.c, h.k⟩ : RI (endR s))
theorem RK_rate {len : Nat} {B : Nat → Int32} (hlen : len ≤ 800) : RK (rateR len B) := RK_and (RK_beg hlen) (RK_and (RK_sum hlen 4) RK_end)
theorem RK_stmt {len : Nat} {B : Nat → Int32} (hlen : len ≤ 800) : RK (stmtR len B) := by
  intro s h
  unfold stmtR
  split
  · exact RK_bay hlen s h
  split
  · exact RK_vent hlen s h
  split
  · exact RK_fan hlen s h
  split
  · exact RK_car hlen s h
  split
  · exact RK_fire hlen s h
  split
  · exact RK_draft hlen s h
  split
  · exact RK_red hlen s h
  split
  · exact RK_rate hlen s h
  · exact RI_fail _ h
theorem RK_tun {len : Nat} {B : Nat → Int32} (hlen : len ≤ 800) : RK (tunR len B) := by
  intro s h
  unfold tunR
  split
  · have h1 := RK_num (B := B) hlen 2 12 _ (RI_adv (B := B) hlen h)
    by_cases b1 : (numR len B 2 12 (advR len B s)).1 = true
    · rw [andM_t b1]
      have hb2 := num_bd b1
      generalize numR len B 2 12 (advR len B s) = F1 at h1 hb2
      obtain ⟨n0, hn0, e0⟩ := inn_of (x := F1.2.num) (n := 13) (by decide) (fun h => hb2.1 (Int32.lt_iff_toInt_lt.mpr (by have := Int32.lt_iff_toInt_lt.mp h; exact Int.lt_trans this (by decide)))) (fun h => hb2.2 (Int32.lt_iff_toInt_lt.mpr (by have h1 := Int32.le_iff_toInt_le.mp h; exact Int.lt_of_lt_of_le (by decide) h1)))
      have ei : F1.2.ix = n0 := by rw [RS.ix, e0]; exact nI_clamp (by omega)
      exact RK_and (RK_num hlen _ _) (fun s h => (⟨h.t1, h.t2, h.n, h.c, h.k⟩ : RI (tunK2 s).2)) _ (⟨h1.t1, h1.t2, by show F1.2.ix ≤ 12; omega, h1.c, h1.k⟩ : RI (F1.2.wP (sN F1.2.P F1.2.ix)))
    · rw [andM_f b1]; exact h1
  · exact RI_fail _ h
theorem RK_stmts {len : Nat} {B : Nat → Int32} (hlen : len ≤ 800) : ∀ k, RK (stmtsR len B k)
  | 0 => fun _ h => h
  | k + 1 => by
    intro s h
    rw [stmtsR_s]
    split
    · exact h
    · exact RK_and (RK_stmt hlen) (RK_and (RK_sgn hlen _) (RK_stmts hlen k)) s h
theorem RI_init {len : Nat} {B : Nat → Int32} (hlen : len ≤ 800) {s : RS} (hk : s.cc ≤ 800) : RI (initR len B s) := ⟨(tok_ok hlen (Nat.zero_le _)).1, (tok_ok hlen (Nat.zero_le _)).2, Nat.zero_le _, Nat.zero_le _, hk⟩
theorem RK_setup {len : Nat} {B : Nat → Int32} (hlen : len ≤ 800) {s : RS} (hk : s.cc ≤ 800) : RI (setupR len B s).2 := RK_and (RK_tun hlen) (RK_and (RK_sgn hlen _) (RK_stmts hlen 800)) _ (RI_init hlen hk)
/-- the reader's cells without its plan's -/
def rdT (g : Gl) (r i a : Nat → Nat) (p : Nat) (size : Int32) (len : Nat) (B : Nat → Int32) (s : RS) : va_W := [
  (r 0, .inr (4, [.ref (i 0), .ref (a 0), .int s.ec, .int s.eo, .int s.num, .int s.nof, .int s.way, .int s.bays, .int s.fr, .int s.dr, .int s.rr, .int (nI s.cc), .ref (r 1)])),
  (i 0, .inr (1, [.int size, .int s.tk.1, .int (nI s.tk.2.1), .int s.tk.2.2.1, .int (nI s.tk.2.2.2), .int (nI len), .ref (i 1)])), (i 1, .inl (g.2.1 2, 800, .inl B)), (r 1, .inl (g.2.1 0, 800, .inl s.co)),
  (a 0, .inr (5, [.ref p, .int (tClock s.T), .int (tFire s.T), .int (tIns s.T), .long (tLeft s.T), .long (tRem s.T), .ref (a 1), .ref (a 2), .ref (a 3), .ref (a 4), .ref (a 5), .ref (a 6), .ref (a 7), .ref (a 8)])),
  (a 1, .inl (g.2.1 1, 12, .inr (.inl (tSmoke s.T)))), (a 2, .inl (g.2.1 0, 12, .inl (tFan s.T))), (a 3, .inl (g.2.1 0, 12, .inl (tBay s.T))), (a 4, .inl (g.2.1 3, 24, .inl (tRed s.T))), (a 5, .inl (g.2.1 0, 24, .inl (tLane s.T))), (a 6, .inl (g.2.1 0, 20, .inl (tCs s.T))), (a 7, .inl (g.2.1 0, 20, .inl (tCd s.T))), (a 8, .inl (g.2.1 1, 20, .inr (.inl (tEx s.T))))]
theorem rdW_eq (g : Gl) (r i a b : Nat → Nat) (size : Int32) (len : Nat) (B : Nat → Int32) (s : RS) : rdW g r i a b size len B s = rdT g r i a (b 0) size len B s ++ planW g b s.P := rfl

theorem rcost_le (s : RS) : rcost s ≤ 1 := by unfold rcost; split <;> omega
set_option maxRecDepth 20000 in
set_option maxHeartbeats 2000000 in
theorem c_readSetup (l : Launch) (g : Gl) (r i a : Nat → Nat) (p : Nat) (size : Int32) (len0 len : Nat) (B : Nat → Int32) (hlen : len ≤ 800) (s : RS) (hk : s.cc ≤ 800) : Ct l g yX4_readSetup cX4_readSetup 3 (some .boolean) 21 840 9 858 [.ref (r 0), .int (nI len)] (rdT g r i a p size len0 B s) (fun v w => ∃ b : Nat → Nat, v = some (.int (bI (setupR len B s).1)) ∧ w = rdW g r i a b size len B (setupR len B s).2) noX := by
  refine Ct.intro [some (.ref (r 0)), some (.int (nI len)), none] (by decide +kernel) (fun _ h => h) (Nat.le_of_ble_eq_true rfl) (fun A H0 K ok => ?_)
  have L : ∀ (m k : Nat) (s1 : RS) (b : Nat → Nat) (cn sn : Nat), k + m = 800 → RI s1 → setupR len B s = stmtsR len B m s1 → cn + 3 * rcost s1 ≤ 9 → sn + 813 * rcost s1 ≤ 858 → AW g A H0 3 K 62 [some (.ref (r 0)), some (.int (nI len)), some (.int (nI k))] [] (rdW g r i a b size len B s1) cn sn := by
    intro m
    induction m with
    | zero =>
      intro k s1 b cn sn hkm h1 e hcn hsn
      refine A_iload_n ok.b rfl dX4_readSetup_62 (gps (gps gp0)) ?_
      refine A_sipush ok.b (v := 800) dX4_readSetup_63 (by decide) ?_
      refine A_icmp_ge ok.b (tgt := 106) dX4_readSetup_66 (by decide) (fun c66 => ?_) (fun c66 => (c66 (nI_le (a := 800) (b := k) (by omega) (by omega))).elim)
      refine A_iconst ok.b (v := 1) dX4_readSetup_106 (by decide) ?_
      refine A_zret ok dX4_readSetup_107 (by decide) (by show cn ≤ 9; omega) (by show sn ≤ 858; omega) ?_
      exact ⟨b, by rw [e] <;> rfl, by rw [e] <;> rfl⟩
    | succ m ih =>
      intro k s1 b cn sn hkm h1 e hcn hsn
      rw [stmtsR_s] at e
      refine A_iload_n ok.b rfl dX4_readSetup_62 (gps (gps gp0)) ?_
      refine A_sipush ok.b (v := 800) dX4_readSetup_63 (by decide) ?_
      refine A_icmp_ge ok.b (tgt := 106) dX4_readSetup_66 (by decide) (fun c66 => (nI_ge (a := k) (b := 800) (by omega) (by omega) c66).elim) (fun c66 => ?_)
      refine A_aload_n ok.b rfl dX4_readSetup_69 gp0 ?_
      refine A_getf ok.b cf4 0 (by decide) fl_X4_12 gp0 gp0 dX4_readSetup_70 ?_
      refine A_getf ok.b cf1 1 (by decide) fl_X4_63 (gps gp0) (gps gp0) dX4_readSetup_73 ?_
      refine A_sipush ok.b (v := 258) dX4_readSetup_76 (by decide) ?_
      refine A_icmp_eq ok.b (tgt := 106) dX4_readSetup_79 (by decide) (fun c79 => ?_) (fun c79 => ?_)
      · skip
        refine A_iconst ok.b (v := 1) dX4_readSetup_106 (by decide) ?_
        refine A_zret ok dX4_readSetup_107 (by decide) (by show cn ≤ 9; omega) (by show sn ≤ 858; omega) ?_
        rw [if_pos c79] at e
        exact ⟨b, by rw [e] <;> rfl, by rw [e] <;> rfl⟩
      · skip
        rw [if_neg c79] at e
        have hm : rcost (stmtR len B s1).2 ≤ rcost s1 := stmt_rr s1
        refine A_aload_n ok.b rfl dX4_readSetup_82 gp0 ?_
        refine A_sameVR ok (As := []) mf_X4_readStatement ml_X4_66 in_X4_readStatement se_X4_readStatement cf4 gp0 (c_readStatement l g r i a b size len B hlen s1 h1) rfl rfl dX4_readSetup_83 (Nat.le_of_ble_eq_true rfl) ⟨(Nat.le_of_ble_eq_true rfl), (Nat.le_of_ble_eq_true rfl)⟩ ⟨by show cn + 3 * (rcost s1 - rcost (stmtR len B s1).2) ≤ 9; omega, by show sn + 813 * (rcost s1 - rcost (stmtR len B s1).2) ≤ 858; omega⟩ (fun _ _ hx => hx.elim) (fun v83 w83 q83 => ?_)
        obtain ⟨b2, -, rfl, rfl⟩ := q83
        have h2 : RI (stmtR len B s1).2 := RK_stmt hlen _ h1
        generalize hF3 : stmtR len B s1 = F3 at h2 hm ⊢
        have hq1 : cn + 3 * (rcost s1 - rcost F3.2) + 3 * rcost F3.2 ≤ 9 := by omega
        have hq2 : sn + 813 * (rcost s1 - rcost F3.2) + 813 * rcost F3.2 ≤ 858 := by omega
        generalize cn + 3 * (rcost s1 - rcost F3.2) = cn2 at hq1 ⊢
        generalize sn + 813 * (rcost s1 - rcost F3.2) = sn2 at hq2 ⊢
        refine A_if_eq ok.b (tgt := 98) dX4_readSetup_86 (by decide) (fun c86 => ?_) (fun c86 => ?_)
        · skip
          refine A_iconst ok.b (v := 0) dX4_readSetup_98 (by decide) ?_
          refine A_zret ok dX4_readSetup_99 (by decide) (by show cn2 ≤ 9; omega) (by show sn2 ≤ 858; omega) ?_
          rw [andM_f (f := stmtR len B) (s := s1) (by rw [hF3]; exact bI_z c86), hF3] at e
          exact ⟨b2, by rw [e] <;> rfl, by rw [e] <;> rfl⟩
        · skip
          refine A_aload_n ok.b rfl dX4_readSetup_89 gp0 ?_
          refine A_bipush ok.b (v := 59) dX4_readSetup_90 (by decide) ?_
          refine A_sameVR ok (As := [_]) mf_X4_readSign ml_X4_59 in_X4_readSign se_X4_readSign cf4 gp0 (c_readSign l g r i a b2 size len B hlen F3.2 h2 59) rfl rfl dX4_readSetup_92 (Nat.le_of_ble_eq_true rfl) ⟨(Nat.le_of_ble_eq_true rfl), (Nat.le_of_ble_eq_true rfl)⟩ ⟨by show cn2 + 0 ≤ 9; omega, by show sn2 + 0 ≤ 858; omega⟩ (fun _ _ hx => hx.elim) (fun v92 w92 q92 => ?_)
          obtain ⟨rfl, rfl⟩ := q92
          have h3 : RI (sgnR len B 59 F3.2).2 := RK_sgn hlen _ _ h2
          have hr4 : (sgnR len B 59 F3.2).2.rr = F3.2.rr := RR_sgn 59 F3.2
          generalize hF4 : sgnR len B 59 F3.2 = F4 at h3 hr4 ⊢
          refine A_if_ne ok.b (tgt := 100) dX4_readSetup_95 (by decide) (fun c95 => ?_) (fun c95 => ?_)
          · skip
            refine A_iinc ok.b (v := _ + 1) dX4_readSetup_100 (gps (gps gp0)) rfl (by decide) (sts (sts1 rfl st0)) ?_
            refine A_goto ok.b (tgt := 62) dX4_readSetup_103 (by decide) ?_
            rw [andM_t (f := stmtR len B) (s := s1) (by rw [hF3]; exact bI_n c86), hF3, andM_t (f := sgnR len B 59) (s := F3.2) (by rw [hF4]; exact bI_n c95), hF4] at e
            rw [nI_1]
            have hr5 : rcost F4.2 = rcost F3.2 := by rw [rcost, rcost, hr4]
            exact ih (k + 1) F4.2 b2 _ _ (by omega) h3 e (by omega) (by omega)
          · skip
            refine A_iconst ok.b (v := 0) dX4_readSetup_98 (by decide) ?_
            refine A_zret ok dX4_readSetup_99 (by decide) (by show cn2 + 0 ≤ 9; omega) (by show sn2 + 0 ≤ 858; omega) ?_
            rw [andM_t (f := stmtR len B) (s := s1) (by rw [hF3]; exact bI_n c86), hF3, andM_f (f := sgnR len B 59) (s := F3.2) (by rw [hF4]; exact bI_z c95), hF4] at e
            exact ⟨b2, by rw [e] <;> rfl, by rw [e] <;> rfl⟩
  refine A_aload_n ok.b rfl dX4_readSetup_0 gp0 ?_
  refine A_getf ok.b cf4 1 (by decide) fl_X4_27 gp0 (gps gp0) dX4_readSetup_1 ?_
  refine A_new ok.b cf2 cl_X4_31 it_X2 ii_X2 df_X2 (Nat.le_of_ble_eq_true rfl) (Nat.le_of_ble_eq_true rfl) dX4_readSetup_4 (fun q4 => ?_)
  refine A_dup ok.b dX4_readSetup_7 rfl ?_
  refine A_lastINB ok.b (As := []) _ _ mf_X2_init (List.mem_of_getElem? (i := 3) rfl) in_X2_init rfl (c_X2init l g _) rfl rfl dX4_readSetup_8 (Nat.le_of_ble_eq_true rfl) ⟨(Nat.le_of_ble_eq_true rfl), (Nat.le_of_ble_eq_true rfl)⟩ ⟨by show 0 + 1 + 5 ≤ 9; omega, by show 0 + 7 + 38 ≤ 858; omega⟩ (fun _ _ hx => hx.elim) (fun v8 w8 q8 => ?_)
  obtain ⟨b, rfl, rfl, rfl⟩ := q8
  skip
  refine A_callVR ok [4, 5, 6, 7, 8, 9, 10, 11, 12] [0, 1, 2, 3, 13, 14, 15, 16, 17, 18] (As := [_]) (wr := ([(r 0, .inr (4, [.ref (i 0), .ref (a 0), .int s.ec, .int s.eo, .int s.num, .int s.nof, .int s.way, .int s.bays, .int s.fr, .int s.dr, .int s.rr, .int (nI s.cc), .ref (r 1)])), (i 0, .inr (1, [.int size, .int s.tk.1, .int (nI s.tk.2.1), .int s.tk.2.2.1, .int (nI s.tk.2.2.2), .int (nI len0), .ref (i 1)])), (i 1, .inl (g.2.1 2, 800, .inl B)), (r 1, .inl (g.2.1 0, 800, .inl s.co))] : va_W) ++ planW g b P0) mf_X5_clear ml_X4_34 in_X5_clear se_X5_clear cf5 (gps (gps (gps (gps gp0)))) (c_clear l g a p (b 0) s.T) rfl rfl rfl dX4_readSetup_11 rfl rfl rfl (by decide) (Nat.le_of_ble_eq_true rfl) ⟨(Nat.le_of_ble_eq_true rfl), (Nat.le_of_ble_eq_true rfl)⟩ ⟨by show 0 + 1 + 5 + 0 ≤ 9; omega, by show 0 + 7 + 38 + 0 ≤ 858; omega⟩ (fun _ _ hx => hx.elim) (fun v11 w11 q11 => ?_)
  obtain ⟨rfl, rfl⟩ := q11
  refine A_sub [0, 1, 2, 3, 10, 11, 12, 13, 14, 15, 16, 17, 18, 4, 5, 6, 7, 8, 9] (ws2 := rdW g r i a b size len0 B ((s.wT (clr s.T)).wP P0)) rfl rfl ?_
  refine A_aload_n ok.b rfl dX4_readSetup_14 gp0 ?_
  refine A_iconst ok.b (v := 0) dX4_readSetup_15 (by decide) ?_
  refine A_putf ok.b cf4 7 (by decide) rfl fl_X4_37 gp0 rfl rfl (gp_lt (gps (gps (gps (gps (gps (gps (gps gp0)))))))) (wps (wps (wps (wps (wps (wps (wps wp0))))))) wp0 dX4_readSetup_16 ?_
  refine A_aload_n ok.b rfl dX4_readSetup_19 gp0 ?_
  refine A_iconst ok.b (v := 0) dX4_readSetup_20 (by decide) ?_
  refine A_putf ok.b cf4 8 (by decide) rfl fl_X4_41 gp0 rfl rfl (gp_lt (gps (gps (gps (gps (gps (gps (gps (gps gp0))))))))) (wps (wps (wps (wps (wps (wps (wps (wps wp0)))))))) wp0 dX4_readSetup_21 ?_
  refine A_aload_n ok.b rfl dX4_readSetup_24 gp0 ?_
  refine A_iconst ok.b (v := 0) dX4_readSetup_25 (by decide) ?_
  refine A_putf ok.b cf4 9 (by decide) rfl fl_X4_45 gp0 rfl rfl (gp_lt (gps (gps (gps (gps (gps (gps (gps (gps (gps gp0)))))))))) (wps (wps (wps (wps (wps (wps (wps (wps (wps wp0))))))))) wp0 dX4_readSetup_26 ?_
  refine A_aload_n ok.b rfl dX4_readSetup_29 gp0 ?_
  refine A_iconst ok.b (v := 0) dX4_readSetup_30 (by decide) ?_
  refine A_putf ok.b cf4 10 (by decide) rfl fl_X4_48 gp0 rfl rfl (gp_lt (gps (gps (gps (gps (gps (gps (gps (gps (gps (gps gp0))))))))))) (wps (wps (wps (wps (wps (wps (wps (wps (wps (wps wp0)))))))))) wp0 dX4_readSetup_31 ?_
  refine A_aload_n ok.b rfl dX4_readSetup_34 gp0 ?_
  refine A_getf ok.b cf4 0 (by decide) fl_X4_12 gp0 gp0 dX4_readSetup_35 ?_
  refine A_iload_n ok.b rfl dX4_readSetup_38 (gps gp0) ?_
  refine A_callVR ok [1, 2] [0, 3, 4, 5, 6, 7, 8, 9, 10, 11, 12, 13, 14, 15, 16, 17, 18] (As := [_]) (wr := rdR g r i a ((((((s.wT (clr s.T)).wP P0).wbays 0).wfr 0).wdr 0).wrr 0) ++ tpW g a b (clr s.T) P0) mf_X1_begin ml_X4_51 in_X1_begin se_X1_begin cf1 (gps gp0) (c_begin l g (i 0) (i 1) size s.tk.1 (nI s.tk.2.1) s.tk.2.2.1 (nI s.tk.2.2.2) (nI len0) B len hlen) rfl rfl rfl dX4_readSetup_39 rfl rfl rfl (by decide) (Nat.le_of_ble_eq_true rfl) ⟨(Nat.le_of_ble_eq_true rfl), (Nat.le_of_ble_eq_true rfl)⟩ ⟨by show 0 + 1 + 5 + 0 + 0 ≤ 9; omega, by show 0 + 7 + 38 + 0 + 0 ≤ 858; omega⟩ (fun _ _ hx => hx.elim) (fun v39 w39 q39 => ?_)
  obtain ⟨rfl, rfl⟩ := q39
  refine A_sub [0, 17, 18, 1, 2, 3, 4, 5, 6, 7, 8, 9, 10, 11, 12, 13, 14, 15, 16] (ws2 := rdW g r i a b size len B (initR len B s)) rfl rfl ?_
  refine A_aload_n ok.b rfl dX4_readSetup_42 gp0 ?_
  refine A_sameVR ok (As := []) mf_X4_readTunnel ml_X4_55 in_X4_readTunnel se_X4_readTunnel cf4 gp0 (c_readTunnel l g r i a b size len B hlen (initR len B s) (RI_init hlen hk)) rfl rfl dX4_readSetup_43 (Nat.le_of_ble_eq_true rfl) ⟨(Nat.le_of_ble_eq_true rfl), (Nat.le_of_ble_eq_true rfl)⟩ ⟨by show 0 + 1 + 5 + 0 + 0 + 0 ≤ 9; omega, by show 0 + 7 + 38 + 0 + 0 + 0 ≤ 858; omega⟩ (fun _ _ hx => hx.elim) (fun v43 w43 q43 => ?_)
  obtain ⟨rfl, rfl⟩ := q43
  have hI1 : RI (tunR len B (initR len B s)).2 := RK_tun hlen _ (RI_init hlen hk)
  generalize hF1 : tunR len B (initR len B s) = F1 at hI1 ⊢
  refine A_if_eq ok.b (tgt := 58) dX4_readSetup_46 (by decide) (fun c46 => ?_) (fun c46 => ?_)
  · skip
    refine A_iconst ok.b (v := 0) dX4_readSetup_58 (by decide) ?_
    refine A_zret ok dX4_readSetup_59 (by decide) (by show 0 + 1 + 5 + 0 + 0 + 0 ≤ 9; omega) (by show 0 + 7 + 38 + 0 + 0 + 0 ≤ 858; omega) ?_
    have e9 : setupR len B s = (false, F1.2) := by rw [setupR, andM_f (f := tunR len B) (s := initR len B s) (by rw [hF1]; exact bI_z c46), hF1]
    exact ⟨b, by rw [e9] <;> rfl, by rw [e9] <;> rfl⟩
  · skip
    refine A_aload_n ok.b rfl dX4_readSetup_49 gp0 ?_
    refine A_bipush ok.b (v := 59) dX4_readSetup_50 (by decide) ?_
    refine A_sameVR ok (As := [_]) mf_X4_readSign ml_X4_59 in_X4_readSign se_X4_readSign cf4 gp0 (c_readSign l g r i a b size len B hlen F1.2 hI1 59) rfl rfl dX4_readSetup_52 (Nat.le_of_ble_eq_true rfl) ⟨(Nat.le_of_ble_eq_true rfl), (Nat.le_of_ble_eq_true rfl)⟩ ⟨by show 0 + 1 + 5 + 0 + 0 + 0 + 0 ≤ 9; omega, by show 0 + 7 + 38 + 0 + 0 + 0 + 0 ≤ 858; omega⟩ (fun _ _ hx => hx.elim) (fun v52 w52 q52 => ?_)
    obtain ⟨rfl, rfl⟩ := q52
    have hI2 : RI (sgnR len B 59 F1.2).2 := RK_sgn hlen _ _ hI1
    generalize hF2 : sgnR len B 59 F1.2 = F2 at hI2 ⊢
    refine A_if_ne ok.b (tgt := 60) dX4_readSetup_55 (by decide) (fun c55 => ?_) (fun c55 => ?_)
    · skip
      refine A_iconst ok.b (v := 0) dX4_readSetup_60 (by decide) ?_
      refine A_istore_n ok.b rfl dX4_readSetup_61 (by decide) (sts (sts1 rfl st0)) ?_
      exact L 800 0 F2.2 b _ _ rfl hI2 (by rw [setupR, andM_t (f := tunR len B) (s := initR len B s) (by rw [hF1]; exact bI_n c46), hF1, andM_t (f := sgnR len B 59) (s := F1.2) (by rw [hF2]; exact bI_n c55), hF2]) (by have : rcost F2.2 ≤ 1 := rcost_le _; omega) (by have : rcost F2.2 ≤ 1 := rcost_le _; omega)
    · skip
      refine A_iconst ok.b (v := 0) dX4_readSetup_58 (by decide) ?_
      refine A_zret ok dX4_readSetup_59 (by decide) (by show 0 + 1 + 5 + 0 + 0 + 0 + 0 ≤ 9; omega) (by show 0 + 7 + 38 + 0 + 0 + 0 + 0 ≤ 858; omega) ?_
      have e9 : setupR len B s = (false, F2.2) := by rw [setupR, andM_t (f := tunR len B) (s := initR len B s) (by rw [hF1]; exact bI_n c46), hF1, andM_f (f := sgnR len B 59) (s := F1.2) (by rw [hF2]; exact bI_z c55), hF2]
      exact ⟨b, by rw [e9] <;> rfl, by rw [e9] <;> rfl⟩
