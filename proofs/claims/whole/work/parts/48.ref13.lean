theorem NK_of {X Y : LQ} (h : NK X) (he : Y.1.er = 0 → X.1.er = 0) (hd : Y.2 0 = X.2 0) : NK Y := fun h2 => by
  obtain ⟨n, hn, e⟩ := h (he h2)
  exact ⟨n, hn, hd.trans e⟩
set_option maxRecDepth 20000 in
set_option maxHeartbeats 2000000 in
theorem r_readBay (l : Launch) (g : Gl) (m : Nat → Nat) (s : MS) (B D : Nat → Int32) (hM : MI s) (hN : NK (s, D)) (st : Int32) : Ct l g yX7_readBay cX7_readBay 2 none 5 200 0 0 [.ref (m 0), .int st] (lcW g m (s) B (D)) (fun v w => v = none ∧ w = lcW g m ((bayM B st (s, D)).1) B ((bayM B st (s, D)).2)) noX := by
  refine Ct.intro [some (.ref (m 0)), some (.int st)] (by decide +kernel) (fun _ h => h) (Nat.le_of_ble_eq_true rfl) (fun A H0 K ok => ?_)
  have M : AW g A H0 2 K 16 [some (.ref (m 0)), some (.int st)] [] (lcW g m (rbS st s) B D) 0 0 := by
    have hM2 := MI_rb (st := st) hM
    have hN2 : NK (rbS st s, D) := NK_of hN rb_er rfl
    obtain ⟨t, ht, et, _⟩ := fs_at (B := B) (mk := 4) (vl := -1) hN2
    generalize hR : rbS st s = R at hM2 hN2 et ⊢
    refine A_aload_n ok.b rfl dX7_readBay_16 gp0 ?_
    refine A_getf ok.b cf7 9 (by decide) fl_X7_20 gp0 (gps (gps (gps (gps (gps (gps (gps (gps (gps gp0))))))))) dX7_readBay_17 ?_
    refine A_aload_n ok.b rfl dX7_readBay_20 gp0 ?_
    refine A_iconst ok.b (v := 4) dX7_readBay_21 (by decide) ?_
    refine A_iconst ok.b (v := (-1)) dX7_readBay_22 (by decide) ?_
    refine A_sameVR ok (As := [_, _]) mf_X7_freshSection ml_X7_149 in_X7_freshSection se_X7_freshSection cf7 gp0 (r_freshSection l g m (R) B D hM2 hN2 4 (by decide) _) rfl rfl dX7_readBay_23 (Nat.le_of_ble_eq_true rfl) ⟨(Nat.le_of_ble_eq_true rfl), (Nat.le_of_ble_eq_true rfl)⟩ ⟨(Nat.le_of_ble_eq_true rfl), (Nat.le_of_ble_eq_true rfl)⟩ (fun _ _ hx => hx.elim) (fun v23 w23 q23 => ?_)
    obtain ⟨rfl, rfl⟩ := q23
    refine A_iconst ok.b (v := 4) dX7_readBay_26 (by decide) ?_
    rw [et]
    refine A_iadd ok.b dX7_readBay_27 ?_
    rw [show nI (12 + 7 * t) + 4 = nI (12 + 7 * t + 4) from nI_add _ 4]
    refine A_iconst ok.b (v := 1) dX7_readBay_28 (by decide) ?_
    refine A_iast ok.b (gps (gps gp0)) (ix_n (by omega) (by decide)) (wps (wps wp0)) dX7_readBay_29 ?_
    refine A_aload_n ok.b rfl dX7_readBay_30 gp0 ?_
    refine A_dup ok.b dX7_readBay_31 rfl ?_
    refine A_getf ok.b cf7 16 (by decide) fl_X7_146 gp0 (gps (gps (gps (gps (gps (gps (gps (gps (gps (gps (gps (gps (gps (gps (gps (gps gp0)))))))))))))))) dX7_readBay_32 ?_
    refine A_iconst ok.b (v := 1) dX7_readBay_35 (by decide) ?_
    refine A_iadd ok.b dX7_readBay_36 ?_
    refine A_putf ok.b cf7 16 (by decide) rfl fl_X7_146 gp0 rfl rfl (gp_lt (gps (gps (gps (gps (gps (gps (gps (gps (gps (gps (gps (gps (gps (gps (gps (gps gp0))))))))))))))))) (wps (wps (wps (wps (wps (wps (wps (wps (wps (wps (wps (wps (wps (wps (wps (wps wp0)))))))))))))))) wp0 dX7_readBay_37 ?_
    refine A_vret ok dX7_readBay_40 (Nat.le_of_ble_eq_true rfl) (Nat.le_of_ble_eq_true rfl) ?_
    exact ⟨rfl, by rw [bayM, hR]; show _ = lcW g m _ B (upd D ((fsM B D 4 (-1) R).1 + 4).toNatClampNeg 1); rw [et, show nI (12 + 7 * t) + 4 = nI (12 + 7 * t + 4) from nI_add _ 4, nI_clamp (by omega)]; rfl⟩
  refine A_aload_n ok.b rfl dX7_readBay_0 gp0 ?_
  refine A_getf ok.b cf7 16 (by decide) fl_X7_146 gp0 (gps (gps (gps (gps (gps (gps (gps (gps (gps (gps (gps (gps (gps (gps (gps (gps gp0)))))))))))))))) dX7_readBay_1 ?_
  refine A_bipush ok.b (v := 6) dX7_readBay_4 (by decide) ?_
  refine A_icmp_ne ok.b (tgt := 16) dX7_readBay_6 (by decide) (fun c6 => ?_) (fun c6 => ?_)
  · skip
    rw [rbS, if_neg c6] at M
    exact M
  · skip
    refine A_aload_n ok.b rfl dX7_readBay_9 gp0 ?_
    refine A_bipush ok.b (v := (-4)) dX7_readBay_10 (by decide) ?_
    refine A_iload_n ok.b rfl dX7_readBay_12 (gps gp0) ?_
    refine A_callVR ok [0, 1] [2] (As := [_, _]) (wr := ([(m 3, .inl (g.2.1 0, 1476, .inl (D)))] : va_W)) mf_X7_report ml_X7_88 in_X7_report se_X7_report cf7 gp0 (r_report l g m s B hM.1 _ _) rfl rfl rfl dX7_readBay_13 rfl rfl rfl (by decide) (Nat.le_of_ble_eq_true rfl) ⟨(Nat.le_of_ble_eq_true rfl), (Nat.le_of_ble_eq_true rfl)⟩ ⟨(Nat.le_of_ble_eq_true rfl), (Nat.le_of_ble_eq_true rfl)⟩ (fun _ _ hx => hx.elim) (fun v13 w13 q13 => ?_)
    obtain ⟨rfl, rfl⟩ := q13
    refine A_sub [1, 2, 0] (ws2 := (lcW g m (repR (-4) st s) B (D))) rfl rfl ?_
    rw [rbS, if_pos c6] at M
    exact M
set_option maxRecDepth 20000 in
set_option maxHeartbeats 2000000 in
theorem r_readFan (l : Launch) (g : Gl) (m : Nat → Nat) (s : MS) (B D : Nat → Int32) (hM : MI s) (hN : NK (s, D)) : Ct l g yX7_readFan cX7_readFan 2 none 5 200 0 0 [.ref (m 0)] (lcW g m (s) B (D)) (fun v w => v = none ∧ w = lcW g m ((fanM B (s, D)).1) B ((fanM B (s, D)).2)) noX := by
  refine Ct.intro [some (.ref (m 0)), none] (by decide +kernel) (fun _ h => h) (Nat.le_of_ble_eq_true rfl) (fun A H0 K ok => ?_)
  obtain ⟨t, ht, et, _⟩ := fs_at (B := B) (mk := 1) (vl := 0) hN
  have hM2 : MI (fsM B D 1 0 s).2 := MI_fs hM
  refine A_aload_n ok.b rfl dX7_readFan_0 gp0 ?_
  refine A_iconst ok.b (v := 1) dX7_readFan_1 (by decide) ?_
  refine A_iconst ok.b (v := 0) dX7_readFan_2 (by decide) ?_
  refine A_sameVR ok (As := [_, _]) mf_X7_freshSection ml_X7_149 in_X7_freshSection se_X7_freshSection cf7 gp0 (r_freshSection l g m (s) B D hM hN 1 (by decide) _) rfl rfl dX7_readFan_3 (Nat.le_of_ble_eq_true rfl) ⟨(Nat.le_of_ble_eq_true rfl), (Nat.le_of_ble_eq_true rfl)⟩ ⟨(Nat.le_of_ble_eq_true rfl), (Nat.le_of_ble_eq_true rfl)⟩ (fun _ _ hx => hx.elim) (fun v3 w3 q3 => ?_)
  obtain ⟨rfl, rfl⟩ := q3
  rw [et]
  refine A_istore_n ok.b rfl dX7_readFan_6 (by decide) (sts1 rfl st0) ?_
  refine A_aload_n ok.b rfl dX7_readFan_7 gp0 ?_
  refine A_getf ok.b cf7 9 (by decide) fl_X7_20 gp0 (gps (gps (gps (gps (gps (gps (gps (gps (gps gp0))))))))) dX7_readFan_8 ?_
  refine A_iload_n ok.b rfl dX7_readFan_11 (gps gp0) ?_
  refine A_iconst ok.b (v := 1) dX7_readFan_12 (by decide) ?_
  refine A_iadd ok.b dX7_readFan_13 ?_
  rw [show nI (12 + 7 * t) + 1 = nI (12 + 7 * t + 1) from nI_add _ 1]
  refine A_iconst ok.b (v := 1) dX7_readFan_14 (by decide) ?_
  refine A_iast ok.b (gps (gps gp0)) (ix_n (by omega) (by decide)) (wps (wps wp0)) dX7_readFan_15 ?_
  refine A_aload_n ok.b rfl dX7_readFan_16 gp0 ?_
  refine A_getf ok.b cf7 9 (by decide) fl_X7_20 gp0 (gps (gps (gps (gps (gps (gps (gps (gps (gps gp0))))))))) dX7_readFan_17 ?_
  refine A_iload_n ok.b rfl dX7_readFan_20 (gps gp0) ?_
  refine A_iconst ok.b (v := 2) dX7_readFan_21 (by decide) ?_
  refine A_iadd ok.b dX7_readFan_22 ?_
  rw [show nI (12 + 7 * t) + 2 = nI (12 + 7 * t + 2) from nI_add _ 2]
  refine A_aload_n ok.b rfl dX7_readFan_23 gp0 ?_
  refine A_bipush ok.b (v := 10) dX7_readFan_24 (by decide) ?_
  refine A_callVR ok [0, 1] [2] (As := [_]) (wr := ([(m 3, .inl (g.2.1 0, 1476, .inl (upd D (12 + 7 * t + 1) 1)))] : va_W)) mf_X7_setting ml_X7_152 in_X7_setting se_X7_setting cf7 gp0 (r_setting l g m (fsM B D 1 0 s).2 B hM2.1 hM2.2 10) rfl rfl rfl dX7_readFan_26 rfl rfl rfl (by decide) (Nat.le_of_ble_eq_true rfl) ⟨(Nat.le_of_ble_eq_true rfl), (Nat.le_of_ble_eq_true rfl)⟩ ⟨(Nat.le_of_ble_eq_true rfl), (Nat.le_of_ble_eq_true rfl)⟩ (fun _ _ hx => hx.elim) (fun v26 w26 q26 => ?_)
  obtain ⟨rfl, rfl⟩ := q26
  refine A_sub [1, 2, 0] (ws2 := (lcW g m ((setM B 10 (fsM B D 1 0 s).2).2) B (upd D (12 + 7 * t + 1) 1))) rfl rfl ?_
  refine A_iast ok.b (gps (gps gp0)) (ix_n (by omega) (by decide)) (wps (wps wp0)) dX7_readFan_29 ?_
  refine A_vret ok dX7_readFan_30 (Nat.le_of_ble_eq_true rfl) (Nat.le_of_ble_eq_true rfl) ?_
  exact ⟨rfl, by rw [fanM]; show _ = lcW g m _ B (upd (upd D ((fsM B D 1 0 s).1 + 1).toNatClampNeg 1) ((fsM B D 1 0 s).1 + 2).toNatClampNeg _); rw [et, show nI (12 + 7 * t) + 1 = nI (12 + 7 * t + 1) from nI_add _ 1, show nI (12 + 7 * t) + 2 = nI (12 + 7 * t + 2) from nI_add _ 2, nI_clamp (by omega), nI_clamp (by omega)]; rfl⟩
/-- the number of cars stands -/
def CK (X : LQ) : Prop := X.1.er = 0 → ∃ nc, nc ≤ 20 ∧ X.2 2 = nI nc
set_option maxRecDepth 20000 in
set_option maxHeartbeats 2000000 in
theorem r_readCar (l : Launch) (g : Gl) (m : Nat → Nat) (s : MS) (B D : Nat → Int32) (hM : MI s) (hN : NK (s, D)) (hC : CK (s, D)) (st : Int32) : Ct l g yX7_readCar cX7_readCar 6 none 6 240 0 0 [.ref (m 0), .int st] (lcW g m (s) B (D)) (fun v w => v = none ∧ w = lcW g m ((carM B st (s, D)).1) B ((carM B st (s, D)).2)) noX := by
  refine Ct.intro [some (.ref (m 0)), some (.int st), none, none, none, none] (by decide +kernel) (fun _ h => h) (Nat.le_of_ble_eq_true rfl) (fun A H0 K ok => ?_)
  have M2 : AW g A H0 6 K 67 [some (.ref (m 0)), some (.int st), some (.int (rcR B st (s, D)).1), some (.int (rcR B st (s, D)).2.ns), some (.int (rcW B st (s, D)).1), none] [] (lcW g m (rcE B st (s, D)) B D) 0 0 := by
    have hME : MI (rcE B st (s, D)) := by
      unfold rcE
      split
      · exact MI_rep (MI_way (MI_rs (MI_rc hM)))
      · exact MI_way (MI_rs (MI_rc hM))
    have hE : (rcE B st (s, D)).er = 0 → ∃ c, c < 20 ∧ D 2 = nI c := fun h => by
      have h1 : (rcW B st (s, D)).2.er = 0 := by
        unfold rcE at h
        split at h
        · exact (rep_er0 h (by decide)).elim
        · exact h
      have h2 := rc_er (rs_er (way_er h1))
      obtain ⟨nc, hnc, e⟩ := hC h2.1
      refine ⟨nc, ?_, e⟩
      have h3 : ¬ nc = 20 := fun h4 => h2.2 (by rw [e, h4]; rfl)
      omega
    generalize hX : rcE B st (s, D) = E at hME hE ⊢
    generalize hr1 : (rcR B st (s, D)).1 = sc
    generalize hr2 : (rcW B st (s, D)).1 = wy
    generalize (rcR B st (s, D)).2.ns = a9
    refine A_aload_n ok.b rfl dX7_readCar_67 gp0 ?_
    refine A_callVR ok [0, 1] [2] (As := []) (wr := ([(m 3, .inl (g.2.1 0, 1476, .inl (D)))] : va_W)) mf_X7_isGood ml_X7_71 in_X7_isGood se_X7_isGood cf7 gp0 (r_isGood l g m (E) B hME.1) rfl rfl rfl dX7_readCar_68 rfl rfl rfl (by decide) (Nat.le_of_ble_eq_true rfl) ⟨(Nat.le_of_ble_eq_true rfl), (Nat.le_of_ble_eq_true rfl)⟩ ⟨(Nat.le_of_ble_eq_true rfl), (Nat.le_of_ble_eq_true rfl)⟩ (fun _ _ hx => hx.elim) (fun v68 w68 q68 => ?_)
    obtain ⟨rfl, rfl⟩ := q68
    refine A_sub [1, 2, 0] (ws2 := (lcW g m (E) B (D))) rfl rfl ?_
    refine A_if_ne ok.b (tgt := 75) dX7_readCar_71 (by decide) (fun c71 => ?_) (fun c71 => ?_)
    · skip
      have h9 : (E).er = 0 := by
        by_cases h : (E).er = 0
        · exact h
        · rw [if_neg h] at c71; exact absurd rfl c71
      obtain ⟨c, hc, e2⟩ := hE h9
      refine A_aload_n ok.b rfl dX7_readCar_75 gp0 ?_
      refine A_getf ok.b cf7 9 (by decide) fl_X7_20 gp0 (gps (gps (gps (gps (gps (gps (gps (gps (gps gp0))))))))) dX7_readCar_76 ?_
      refine A_iconst ok.b (v := 2) dX7_readCar_79 (by decide) ?_
      refine A_iald ok.b (gps (gps gp0)) (ix_n (j := 2) (by decide) (by decide)) dX7_readCar_80 ?_
      rw [e2]
      refine A_pureS ok.b (As := [_]) mf_X7_car ml_X7_162 rfl sc_X7_car (r_car l g _) rfl rfl dX7_readCar_81 (Nat.le_of_ble_eq_true rfl) ⟨(Nat.le_of_ble_eq_true rfl), (Nat.le_of_ble_eq_true rfl)⟩ ⟨(Nat.le_of_ble_eq_true rfl), (Nat.le_of_ble_eq_true rfl)⟩ ?_
      rw [car_n (by omega)]
      refine A_istore ok.b dX7_readCar_84 (by decide) (sts (sts (sts (sts (sts1 rfl st0))))) ?_
      refine A_aload_n ok.b rfl dX7_readCar_86 gp0 ?_
      refine A_getf ok.b cf7 9 (by decide) fl_X7_20 gp0 (gps (gps (gps (gps (gps (gps (gps (gps (gps gp0))))))))) dX7_readCar_87 ?_
      refine A_iload ok.b dX7_readCar_90 (gps (gps (gps (gps (gps gp0))))) ?_
      refine A_iload_n ok.b rfl dX7_readCar_92 (gps (gps gp0)) ?_
      refine A_iast ok.b (gps (gps gp0)) (ix_n (by omega) (by decide)) (wps (wps wp0)) dX7_readCar_93 ?_
      refine A_aload_n ok.b rfl dX7_readCar_94 gp0 ?_
      refine A_getf ok.b cf7 9 (by decide) fl_X7_20 gp0 (gps (gps (gps (gps (gps (gps (gps (gps (gps gp0))))))))) dX7_readCar_95 ?_
      refine A_iload ok.b dX7_readCar_98 (gps (gps (gps (gps (gps gp0))))) ?_
      refine A_iconst ok.b (v := 1) dX7_readCar_100 (by decide) ?_
      refine A_iadd ok.b dX7_readCar_101 ?_
      rw [show nI (96 + 4 * c) + 1 = nI (96 + 4 * c + 1) from nI_1 _]
      refine A_iload ok.b dX7_readCar_102 (gps (gps (gps (gps gp0)))) ?_
      refine A_iast ok.b (gps (gps gp0)) (ix_n (by omega) (by decide)) (wps (wps wp0)) dX7_readCar_104 ?_
      refine A_aload_n ok.b rfl dX7_readCar_105 gp0 ?_
      refine A_getf ok.b cf7 9 (by decide) fl_X7_20 gp0 (gps (gps (gps (gps (gps (gps (gps (gps (gps gp0))))))))) dX7_readCar_106 ?_
      refine A_iconst ok.b (v := 2) dX7_readCar_109 (by decide) ?_
      refine A_dup2_11 ok.b dX7_readCar_110 rfl rfl ?_
      refine A_iald ok.b (gps (gps gp0)) (ix_n (j := 2) (by decide) (by decide)) dX7_readCar_111 ?_
      rw [upd_at, if_neg (by omega), upd_at, if_neg (by omega)]
      refine A_iconst ok.b (v := 1) dX7_readCar_112 (by decide) ?_
      refine A_iadd ok.b dX7_readCar_113 ?_
      refine A_iast ok.b (gps (gps gp0)) (ix_n (j := 2) (by decide) (by decide)) (wps (wps wp0)) dX7_readCar_114 ?_
      refine A_vret ok dX7_readCar_115 (Nat.le_of_ble_eq_true rfl) (Nat.le_of_ble_eq_true rfl) ?_
      exact ⟨rfl, by rw [carM, hX, hr1, hr2]; show _ = lcW g m E B (if E.er = 0 then rcD sc wy D else D); rw [if_pos h9, rcD, e2, nI_clamp (by omega)]; rfl⟩
    · skip
      refine A_vret ok dX7_readCar_74 (Nat.le_of_ble_eq_true rfl) (Nat.le_of_ble_eq_true rfl) ?_
      have h9 : ¬ (E).er = 0 := fun h => by rw [if_pos h] at c71; exact absurd c71 (by decide)
      exact ⟨rfl, by rw [carM, hX]; show _ = lcW g m E B (if E.er = 0 then _ else D); rw [if_neg h9]⟩
  have M : AW g A H0 6 K 18 [some (.ref (m 0)), some (.int st), none, none, none, none] [] (lcW g m (rcS st (s, D)) B D) 0 0 := by
    have hM2 : MI (rcS st (s, D)) := MI_rc hM
    have hM3 : MI (rcR B st (s, D)).2 := MI_rs hM2
    have hM4 : MI (rcW B st (s, D)).2 := MI_way hM3
    have hE : (rcW B st (s, D)).2.er = 0 → ∃ c, c ≤ 20 ∧ D 2 = nI c := fun h => hC (rc_er (rs_er (way_er h))).1
    refine A_aload_n ok.b rfl dX7_readCar_18 gp0 ?_
    refine A_sameVR ok (As := []) mf_X7_readSection ml_X7_140 in_X7_readSection se_X7_readSection cf7 gp0 (r_readSection l g m (rcS st (s, D)) B D hM2) rfl rfl dX7_readCar_19 (Nat.le_of_ble_eq_true rfl) ⟨(Nat.le_of_ble_eq_true rfl), (Nat.le_of_ble_eq_true rfl)⟩ ⟨(Nat.le_of_ble_eq_true rfl), (Nat.le_of_ble_eq_true rfl)⟩ (fun _ _ hx => hx.elim) (fun v19 w19 q19 => ?_)
    obtain ⟨rfl, rfl⟩ := q19
    refine A_istore_n ok.b rfl dX7_readCar_22 (by decide) (sts (sts1 rfl st0)) ?_
    refine A_aload_n ok.b rfl dX7_readCar_23 gp0 ?_
    refine A_getf ok.b cf7 13 (by decide) fl_X7_96 gp0 (gps (gps (gps (gps (gps (gps (gps (gps (gps (gps (gps (gps (gps gp0))))))))))))) dX7_readCar_24 ?_
    refine A_istore_n ok.b rfl dX7_readCar_27 (by decide) (sts (sts (sts1 rfl st0))) ?_
    refine A_aload_n ok.b rfl dX7_readCar_28 gp0 ?_
    refine A_callVR ok [0, 1] [2] (As := []) (wr := ([(m 3, .inl (g.2.1 0, 1476, .inl (D)))] : va_W)) mf_X7_way ml_X7_155 in_X7_way se_X7_way cf7 gp0 (r_way l g m (rcR B st (s, D)).2 B hM3) rfl rfl rfl dX7_readCar_29 rfl rfl rfl (by decide) (Nat.le_of_ble_eq_true rfl) ⟨(Nat.le_of_ble_eq_true rfl), (Nat.le_of_ble_eq_true rfl)⟩ ⟨(Nat.le_of_ble_eq_true rfl), (Nat.le_of_ble_eq_true rfl)⟩ (fun _ _ hx => hx.elim) (fun v29 w29 q29 => ?_)
    obtain ⟨rfl, rfl⟩ := q29
    refine A_sub [1, 2, 0] (ws2 := (lcW g m ((rcW B st (s, D)).2) B (D))) rfl rfl ?_
    refine A_istore ok.b dX7_readCar_32 (by decide) (sts (sts (sts (sts1 rfl st0)))) ?_
    refine A_aload_n ok.b rfl dX7_readCar_34 gp0 ?_
    refine A_callVR ok [0, 1] [2] (As := []) (wr := ([(m 3, .inl (g.2.1 0, 1476, .inl (D)))] : va_W)) mf_X7_isGood ml_X7_71 in_X7_isGood se_X7_isGood cf7 gp0 (r_isGood l g m ((rcW B st (s, D)).2) B hM4.1) rfl rfl rfl dX7_readCar_35 rfl rfl rfl (by decide) (Nat.le_of_ble_eq_true rfl) ⟨(Nat.le_of_ble_eq_true rfl), (Nat.le_of_ble_eq_true rfl)⟩ ⟨(Nat.le_of_ble_eq_true rfl), (Nat.le_of_ble_eq_true rfl)⟩ (fun _ _ hx => hx.elim) (fun v35 w35 q35 => ?_)
    obtain ⟨rfl, rfl⟩ := q35
    refine A_sub [1, 2, 0] (ws2 := (lcW g m ((rcW B st (s, D)).2) B (D))) rfl rfl ?_
    refine A_if_eq ok.b (tgt := 67) dX7_readCar_38 (by decide) (fun c38 => ?_) (fun c38 => ?_)
    · skip
      have h9 : ¬ ((rcW B st (s, D)).2).er = 0 := fun h => by rw [if_pos h] at c38; exact absurd c38 (by decide)
      rw [show rcE B st (s, D) = (rcW B st (s, D)).2 by rw [rcE, if_neg (fun z => h9 z.1)]] at M2
      exact M2
    · skip
      have h9 : ((rcW B st (s, D)).2).er = 0 := by
        by_cases h : ((rcW B st (s, D)).2).er = 0
        · exact h
        · rw [if_neg h] at c38; exact absurd rfl c38
      obtain ⟨c, hc, e2⟩ := hE h9
      refine A_aload_n ok.b rfl dX7_readCar_41 gp0 ?_
      refine A_getf ok.b cf7 9 (by decide) fl_X7_20 gp0 (gps (gps (gps (gps (gps (gps (gps (gps (gps gp0))))))))) dX7_readCar_42 ?_
      refine A_iload_n ok.b rfl dX7_readCar_45 (gps (gps gp0)) ?_
      refine A_iload ok.b dX7_readCar_46 (gps (gps (gps (gps gp0)))) ?_
      refine A_callSR ok [2] [0, 1] (As := [_, _, _]) (wr := ([moC m (rcW B st (s, D)).2, (m 1, .inl (g.2.1 0, 800, .inl B))] : va_W)) mf_X7_lane ml_X7_158 rfl sc_X7_lane  (r_lane l g (m 3) D _ _ c hc e2) rfl rfl rfl dX7_readCar_48 rfl rfl rfl (by decide) (Nat.le_of_ble_eq_true rfl) ⟨(Nat.le_of_ble_eq_true rfl), (Nat.le_of_ble_eq_true rfl)⟩ ⟨(Nat.le_of_ble_eq_true rfl), (Nat.le_of_ble_eq_true rfl)⟩ (fun _ _ hx => hx.elim) (fun v48 w48 q48 => ?_)
      obtain ⟨rfl, rfl⟩ := q48
      refine A_sub [0, 1, 2] (ws2 := (lcW g m ((rcW B st (s, D)).2) B (D))) rfl rfl ?_
      refine A_aload_n ok.b rfl dX7_readCar_51 gp0 ?_
      refine A_getf ok.b cf7 9 (by decide) fl_X7_20 gp0 (gps (gps (gps (gps (gps (gps (gps (gps (gps gp0))))))))) dX7_readCar_52 ?_
      refine A_iconst ok.b (v := 1) dX7_readCar_55 (by decide) ?_
      refine A_iald ok.b (gps (gps gp0)) (ix_n (j := 1) (by decide) (by decide)) dX7_readCar_56 ?_
      refine A_icmp_ne ok.b (tgt := 67) dX7_readCar_57 (by decide) (fun c57 => ?_) (fun c57 => ?_)
      · skip
        rw [show rcE B st (s, D) = (rcW B st (s, D)).2 by rw [rcE, if_neg (fun z => c57 (by have h3 := z.2; rw [show (s, D).2 2 = nI c from e2, nI_clamp (by omega)] at h3; exact h3))]] at M2
        exact M2
      · skip
        refine A_aload_n ok.b rfl dX7_readCar_60 gp0 ?_
        refine A_bipush ok.b (v := (-3)) dX7_readCar_61 (by decide) ?_
        refine A_iload_n ok.b rfl dX7_readCar_63 (gps (gps (gps gp0))) ?_
        refine A_callVR ok [0, 1] [2] (As := [_, _]) (wr := ([(m 3, .inl (g.2.1 0, 1476, .inl (D)))] : va_W)) mf_X7_report ml_X7_88 in_X7_report se_X7_report cf7 gp0 (r_report l g m (rcW B st (s, D)).2 B hM4.1 _ _) rfl rfl rfl dX7_readCar_64 rfl rfl rfl (by decide) (Nat.le_of_ble_eq_true rfl) ⟨(Nat.le_of_ble_eq_true rfl), (Nat.le_of_ble_eq_true rfl)⟩ ⟨(Nat.le_of_ble_eq_true rfl), (Nat.le_of_ble_eq_true rfl)⟩ (fun _ _ hx => hx.elim) (fun v64 w64 q64 => ?_)
        obtain ⟨rfl, rfl⟩ := q64
        refine A_sub [1, 2, 0] (ws2 := (lcW g m (repR (-3) (rcR B st (s, D)).2.ns (rcW B st (s, D)).2) B (D))) rfl rfl ?_
        rw [show rcE B st (s, D) = repR (-3) (rcR B st (s, D)).2.ns (rcW B st (s, D)).2 by rw [rcE, if_pos ⟨h9, by rw [show (s, D).2 2 = nI c from e2, nI_clamp (by omega)]; exact c57⟩]] at M2
        exact M2
  refine A_aload_n ok.b rfl dX7_readCar_0 gp0 ?_
  refine A_getf ok.b cf7 9 (by decide) fl_X7_20 gp0 (gps (gps (gps (gps (gps (gps (gps (gps (gps gp0))))))))) dX7_readCar_1 ?_
  refine A_iconst ok.b (v := 2) dX7_readCar_4 (by decide) ?_
  refine A_iald ok.b (gps (gps gp0)) (ix_n (j := 2) (by decide) (by decide)) dX7_readCar_5 ?_
  refine A_bipush ok.b (v := 20) dX7_readCar_6 (by decide) ?_
  refine A_icmp_ne ok.b (tgt := 18) dX7_readCar_8 (by decide) (fun c8 => ?_) (fun c8 => ?_)
  · skip
    rw [rcS, if_neg (show ¬ (s, D).2 2 = 20 from c8)] at M
    exact M
  · skip
    refine A_aload_n ok.b rfl dX7_readCar_11 gp0 ?_
    refine A_bipush ok.b (v := (-4)) dX7_readCar_12 (by decide) ?_
    refine A_iload_n ok.b rfl dX7_readCar_14 (gps gp0) ?_
    refine A_callVR ok [0, 1] [2] (As := [_, _]) (wr := ([(m 3, .inl (g.2.1 0, 1476, .inl (D)))] : va_W)) mf_X7_report ml_X7_88 in_X7_report se_X7_report cf7 gp0 (r_report l g m s B hM.1 _ _) rfl rfl rfl dX7_readCar_15 rfl rfl rfl (by decide) (Nat.le_of_ble_eq_true rfl) ⟨(Nat.le_of_ble_eq_true rfl), (Nat.le_of_ble_eq_true rfl)⟩ ⟨(Nat.le_of_ble_eq_true rfl), (Nat.le_of_ble_eq_true rfl)⟩ (fun _ _ hx => hx.elim) (fun v15 w15 q15 => ?_)
    obtain ⟨rfl, rfl⟩ := q15
    refine A_sub [1, 2, 0] (ws2 := (lcW g m (repR (-4) st s) B (D))) rfl rfl ?_
    rw [rcS, if_pos (show (s, D).2 2 = 20 from c8)] at M
    exact M
set_option maxRecDepth 20000 in
set_option maxHeartbeats 2000000 in
theorem r_once (l : Launch) (g : Gl) (m : Nat → Nat) (s : MS) (B D : Nat → Int32) (hM : MI s) (b0 st : Int32) : Ct l g yX7_once cX7_once 3 none 1 40 0 0 [.ref (m 0), .int b0, .int st] (lcW g m (s) B (D)) (fun v w => v = none ∧ w = lcW g m (onM b0 st s) B (D)) noX := by
  refine Ct.intro [some (.ref (m 0)), some (.int b0), some (.int st)] (by decide +kernel) (fun _ h => h) (Nat.le_of_ble_eq_true rfl) (fun A H0 K ok => ?_)
  refine A_aload_n ok.b rfl dX7_once_0 gp0 ?_
  refine A_getf ok.b cf7 15 (by decide) fl_X7_165 gp0 (gps (gps (gps (gps (gps (gps (gps (gps (gps (gps (gps (gps (gps (gps (gps gp0))))))))))))))) dX7_once_1 ?_
  refine A_iload_n ok.b rfl dX7_once_4 (gps gp0) ?_
  refine A_ishr ok.b dX7_once_5 ?_
  refine A_iconst ok.b (v := 1) dX7_once_6 (by decide) ?_
  refine A_iand ok.b dX7_once_7 ?_
  refine A_iconst ok.b (v := 1) dX7_once_8 (by decide) ?_
  refine A_icmp_ne ok.b (tgt := 19) dX7_once_9 (by decide) (fun c9 => ?_) (fun c9 => ?_)
  · skip
    refine A_aload_n ok.b rfl dX7_once_19 gp0 ?_
    refine A_dup ok.b dX7_once_20 rfl ?_
    refine A_getf ok.b cf7 15 (by decide) fl_X7_165 gp0 (gps (gps (gps (gps (gps (gps (gps (gps (gps (gps (gps (gps (gps (gps (gps gp0))))))))))))))) dX7_once_21 ?_
    refine A_iconst ok.b (v := 1) dX7_once_24 (by decide) ?_
    refine A_iload_n ok.b rfl dX7_once_25 (gps gp0) ?_
    refine A_ishl ok.b dX7_once_26 ?_
    refine A_ior ok.b dX7_once_27 ?_
    refine A_putf ok.b cf7 15 (by decide) rfl fl_X7_165 gp0 rfl rfl (gp_lt (gps (gps (gps (gps (gps (gps (gps (gps (gps (gps (gps (gps (gps (gps (gps gp0)))))))))))))))) (wps (wps (wps (wps (wps (wps (wps (wps (wps (wps (wps (wps (wps (wps (wps wp0))))))))))))))) wp0 dX7_once_28 ?_
    refine A_vret ok dX7_once_31 (Nat.le_of_ble_eq_true rfl) (Nat.le_of_ble_eq_true rfl) ?_
    exact ⟨rfl, by rw [onM, onS, if_neg c9]; rfl⟩
  · skip
    refine A_aload_n ok.b rfl dX7_once_12 gp0 ?_
    refine A_bipush ok.b (v := (-2)) dX7_once_13 (by decide) ?_
    refine A_iload_n ok.b rfl dX7_once_15 (gps (gps gp0)) ?_
    refine A_callVR ok [0, 1] [2] (As := [_, _]) (wr := ([(m 3, .inl (g.2.1 0, 1476, .inl (D)))] : va_W)) mf_X7_report ml_X7_88 in_X7_report se_X7_report cf7 gp0 (r_report l g m s B hM.1 _ _) rfl rfl rfl dX7_once_16 rfl rfl rfl (by decide) (Nat.le_of_ble_eq_true rfl) ⟨(Nat.le_of_ble_eq_true rfl), (Nat.le_of_ble_eq_true rfl)⟩ ⟨(Nat.le_of_ble_eq_true rfl), (Nat.le_of_ble_eq_true rfl)⟩ (fun _ _ hx => hx.elim) (fun v16 w16 q16 => ?_)
    obtain ⟨rfl, rfl⟩ := q16
    refine A_sub [1, 2, 0] (ws2 := (lcW g m (repR (-2) st s) B (D))) rfl rfl ?_
    refine A_aload_n ok.b rfl dX7_once_19 gp0 ?_
    refine A_dup ok.b dX7_once_20 rfl ?_
    refine A_getf ok.b cf7 15 (by decide) fl_X7_165 gp0 (gps (gps (gps (gps (gps (gps (gps (gps (gps (gps (gps (gps (gps (gps (gps gp0))))))))))))))) dX7_once_21 ?_
    refine A_iconst ok.b (v := 1) dX7_once_24 (by decide) ?_
    refine A_iload_n ok.b rfl dX7_once_25 (gps gp0) ?_
    refine A_ishl ok.b dX7_once_26 ?_
    refine A_ior ok.b dX7_once_27 ?_
    refine A_putf ok.b cf7 15 (by decide) rfl fl_X7_165 gp0 rfl rfl (gp_lt (gps (gps (gps (gps (gps (gps (gps (gps (gps (gps (gps (gps (gps (gps (gps gp0)))))))))))))))) (wps (wps (wps (wps (wps (wps (wps (wps (wps (wps (wps (wps (wps (wps (wps wp0))))))))))))))) wp0 dX7_once_28 ?_
    refine A_vret ok dX7_once_31 (Nat.le_of_ble_eq_true rfl) (Nat.le_of_ble_eq_true rfl) ?_
    exact ⟨rfl, by rw [onM, onS, if_pos c9]; rfl⟩
