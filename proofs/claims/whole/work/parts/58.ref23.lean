theorem re_th {s : MS} {x : Int32} : reS (s.wth x) = (reS s).wth x := by
  unfold reS
  show (if s.ud = 8 then s.wth x else _) = _
  split
  · rfl
  · rfl
set_option maxRecDepth 20000 in
set_option maxHeartbeats 2000000 in
theorem r_setFire (l : Launch) (g : Gl) (m h : Nat → Nat) (s : MS) (d : Nat → Int32) (R : Nat → Nat → Int32) (hu : s.ud ≤ 8) (n nc : Nat) (hn : n ≤ 12) (hnc : nc ≤ 20) (h0 : d 0 = nI n) (h2 : d 2 = nI nc) (s0 : Int32) : Ct l g yX7_setFire cX7_setFire 3 (some .int) 3 200 0 0 [.ref (m 0), .int s0] (hiW g m h (s) (d) (R)) (fun v w => v = some (.int (if ¬ s0 = -1 ∧ seE d s0 = true then 0 else d 4)) ∧ w = if ((if ¬ s0 = -1 ∧ seE d s0 = true then 1 else 0 : Int32)) = 0 then (hiW g m h (reS (s.wth 0)) (upd d 4 s0) (reR s.ud d R)) else (hiW g m h (s.wth ((if ¬ s0 = -1 ∧ seE d s0 = true then 1 else 0 : Int32))) (d) (R))) noX := by
  refine Ct.intro [some (.ref (m 0)), some (.int s0), none] (by decide +kernel) (fun _ h => h) (Nat.le_of_ble_eq_true rfl) (fun A H0 K ok => ?_)
  refine A_aload_n ok.b rfl dX7_setFire_0 gp0 ?_
  refine A_iconst ok.b (v := 0) dX7_setFire_1 (by decide) ?_
  refine A_putf ok.b cf7 0 (by decide) rfl fl_X7_45 gp0 rfl rfl (gp_lt gp0) wp0 wp0 dX7_setFire_2 ?_
  refine A_iload_n ok.b rfl dX7_setFire_5 (gps gp0) ?_
  refine A_iconst ok.b (v := (-1)) dX7_setFire_6 (by decide) ?_
  refine A_icmp_eq ok.b (tgt := 20) dX7_setFire_7 (by decide) (fun c7 => ?_) (fun c7 => ?_)
  · skip
    have hz : ¬ (¬ s0 = -1 ∧ seE d s0 = true) := fun h => h.1 c7
    refine A_aload_n ok.b rfl dX7_setFire_20 gp0 ?_
    refine A_sameVR ok (As := []) mf_X7_remember ml_X7_203 in_X7_remember se_X7_remember cf7 gp0 (r_remember l g m h (s.wth 0) d R hu) rfl rfl dX7_setFire_21 (Nat.le_of_ble_eq_true rfl) ⟨(Nat.le_of_ble_eq_true rfl), (Nat.le_of_ble_eq_true rfl)⟩ ⟨(Nat.le_of_ble_eq_true rfl), (Nat.le_of_ble_eq_true rfl)⟩ (fun _ _ hx => hx.elim) (fun v21 w21 q21 => ?_)
    obtain ⟨rfl, rfl⟩ := q21
    refine A_aload_n ok.b rfl dX7_setFire_24 gp0 ?_
    refine A_getf ok.b cf7 8 (by decide) fl_X7_17 gp0 (gps (gps (gps (gps (gps (gps (gps (gps gp0)))))))) dX7_setFire_25 ?_
    refine A_iconst ok.b (v := 4) dX7_setFire_28 (by decide) ?_
    refine A_iald ok.b (gps gp0) (ix_n (j := 4) (by decide) (by decide)) dX7_setFire_29 ?_
    refine A_istore_n ok.b rfl dX7_setFire_30 (by decide) (sts (sts1 rfl st0)) ?_
    refine A_aload_n ok.b rfl dX7_setFire_31 gp0 ?_
    refine A_getf ok.b cf7 8 (by decide) fl_X7_17 gp0 (gps (gps (gps (gps (gps (gps (gps (gps gp0)))))))) dX7_setFire_32 ?_
    refine A_iconst ok.b (v := 4) dX7_setFire_35 (by decide) ?_
    refine A_iload_n ok.b rfl dX7_setFire_36 (gps gp0) ?_
    refine A_iast ok.b (gps gp0) (ix_n (j := 4) (by decide) (by decide)) (wps wp0) dX7_setFire_37 ?_
    refine A_iload_n ok.b rfl dX7_setFire_38 (gps (gps gp0)) ?_
    refine A_iret ok dX7_setFire_39 (Nat.le_of_ble_eq_true rfl) (Nat.le_of_ble_eq_true rfl) ?_
    exact ⟨by rw [if_neg hz], by rw [if_neg hz, if_pos rfl]; rfl⟩
  · skip
    refine A_aload_n ok.b rfl dX7_setFire_10 gp0 ?_
    refine A_iload_n ok.b rfl dX7_setFire_11 (gps gp0) ?_
    refine A_callVR ok [0, 1] [2, 3, 4, 5, 6, 7, 8, 9, 10] (As := [_]) (wr := ([(m 5, .inl (g.2.1 5, 8, .inr (.inr (.inr (.inr (fun j => some (h j))))))), rowC g h (R) 0, rowC g h (R) 1, rowC g h (R) 2, rowC g h (R) 3, rowC g h (R) 4, rowC g h (R) 5, rowC g h (R) 6, rowC g h (R) 7] : va_W)) mf_X7_noSection ml_X7_259 in_X7_noSection se_X7_noSection cf7 gp0 (r_noSection l g m (s.wth 0) d rfl s0) rfl rfl rfl dX7_setFire_12 rfl rfl rfl (by decide) (Nat.le_of_ble_eq_true rfl) ⟨(Nat.le_of_ble_eq_true rfl), (Nat.le_of_ble_eq_true rfl)⟩ ⟨(Nat.le_of_ble_eq_true rfl), (Nat.le_of_ble_eq_true rfl)⟩ (fun _ _ hx => hx.elim) (fun v12 w12 q12 => ?_)
    obtain ⟨rfl, rfl⟩ := q12
    refine A_sub [9, 10, 0, 1, 2, 3, 4, 5, 6, 7, 8] (ws2 := (hiW g m h (thS (seE d s0) 1 (s.wth 0)) (d) (R))) rfl rfl ?_
    refine A_if_eq ok.b (tgt := 20) dX7_setFire_15 (by decide) (fun c15 => ?_) (fun c15 => ?_)
    · skip
      have hb : seE d s0 = false := bI_ff c15
      rw [thS_f hb]
      have hz : ¬ (¬ s0 = -1 ∧ seE d s0 = true) := fun h => by rw [hb] at h; exact absurd h.2 (by decide)
      refine A_aload_n ok.b rfl dX7_setFire_20 gp0 ?_
      refine A_sameVR ok (As := []) mf_X7_remember ml_X7_203 in_X7_remember se_X7_remember cf7 gp0 (r_remember l g m h (s.wth 0) d R hu) rfl rfl dX7_setFire_21 (Nat.le_of_ble_eq_true rfl) ⟨(Nat.le_of_ble_eq_true rfl), (Nat.le_of_ble_eq_true rfl)⟩ ⟨(Nat.le_of_ble_eq_true rfl), (Nat.le_of_ble_eq_true rfl)⟩ (fun _ _ hx => hx.elim) (fun v21 w21 q21 => ?_)
      obtain ⟨rfl, rfl⟩ := q21
      refine A_aload_n ok.b rfl dX7_setFire_24 gp0 ?_
      refine A_getf ok.b cf7 8 (by decide) fl_X7_17 gp0 (gps (gps (gps (gps (gps (gps (gps (gps gp0)))))))) dX7_setFire_25 ?_
      refine A_iconst ok.b (v := 4) dX7_setFire_28 (by decide) ?_
      refine A_iald ok.b (gps gp0) (ix_n (j := 4) (by decide) (by decide)) dX7_setFire_29 ?_
      refine A_istore_n ok.b rfl dX7_setFire_30 (by decide) (sts (sts1 rfl st0)) ?_
      refine A_aload_n ok.b rfl dX7_setFire_31 gp0 ?_
      refine A_getf ok.b cf7 8 (by decide) fl_X7_17 gp0 (gps (gps (gps (gps (gps (gps (gps (gps gp0)))))))) dX7_setFire_32 ?_
      refine A_iconst ok.b (v := 4) dX7_setFire_35 (by decide) ?_
      refine A_iload_n ok.b rfl dX7_setFire_36 (gps gp0) ?_
      refine A_iast ok.b (gps gp0) (ix_n (j := 4) (by decide) (by decide)) (wps wp0) dX7_setFire_37 ?_
      refine A_iload_n ok.b rfl dX7_setFire_38 (gps (gps gp0)) ?_
      refine A_iret ok dX7_setFire_39 (Nat.le_of_ble_eq_true rfl) (Nat.le_of_ble_eq_true rfl) ?_
      exact ⟨by rw [if_neg hz], by rw [if_neg hz, if_pos rfl]; rfl⟩
    · skip
      refine A_iconst ok.b (v := 0) dX7_setFire_18 (by decide) ?_
      refine A_iret ok dX7_setFire_19 (Nat.le_of_ble_eq_true rfl) (Nat.le_of_ble_eq_true rfl) ?_
      have hb : seE d s0 = true := bI_n c15
      have eE : (if ¬ s0 = -1 ∧ seE d s0 = true then 1 else 0 : Int32) = 1 := if_pos ⟨c7, hb⟩
      exact ⟨by rw [if_pos ⟨c7, hb⟩], by rw [if_neg (show ¬ (if ¬ s0 = -1 ∧ seE d s0 = true then 1 else 0 : Int32) = 0 from by rw [eE]; decide), eE, thS_t hb]; rfl⟩
set_option maxRecDepth 20000 in
set_option maxHeartbeats 2000000 in
theorem r_setFan (l : Launch) (g : Gl) (m h : Nat → Nat) (s : MS) (d : Nat → Int32) (R : Nat → Nat → Int32) (hu : s.ud ≤ 8) (n nc : Nat) (hn : n ≤ 12) (hnc : nc ≤ 20) (h0 : d 0 = nI n) (h2 : d 2 = nI nc) (s0 x0 : Int32) : Ct l g yX7_setFan cX7_setFan 3 (some .int) 3 200 0 0 [.ref (m 0), .int s0, .int x0] (hiW g m h (s) (d) (R)) (fun v w => v = some (.int (if (if seE d s0 = true then 1 else if setE x0 = true then 2 else if d (12 + 7 * s0.toNatClampNeg + 1) = 0 then 3 else 0 : Int32) = 0 then flowR (upd d (12 + 7 * s0.toNatClampNeg + 2) x0) n else 0)) ∧ w = if ((if seE d s0 = true then 1 else if setE x0 = true then 2 else if d (12 + 7 * s0.toNatClampNeg + 1) = 0 then 3 else 0 : Int32)) = 0 then (hiW g m h (reS (s.wth 0)) (upd d (12 + 7 * s0.toNatClampNeg + 2) x0) (reR s.ud d R)) else (hiW g m h (s.wth ((if seE d s0 = true then 1 else if setE x0 = true then 2 else if d (12 + 7 * s0.toNatClampNeg + 1) = 0 then 3 else 0 : Int32))) (d) (R))) noX := by
  refine Ct.intro [some (.ref (m 0)), some (.int s0), some (.int x0)] (by decide +kernel) (fun _ h => h) (Nat.le_of_ble_eq_true rfl) (fun A H0 K ok => ?_)
  refine A_aload_n ok.b rfl dX7_setFan_0 gp0 ?_
  refine A_iconst ok.b (v := 0) dX7_setFan_1 (by decide) ?_
  refine A_putf ok.b cf7 0 (by decide) rfl fl_X7_45 gp0 rfl rfl (gp_lt gp0) wp0 wp0 dX7_setFan_2 ?_
  refine A_aload_n ok.b rfl dX7_setFan_5 gp0 ?_
  refine A_iload_n ok.b rfl dX7_setFan_6 (gps gp0) ?_
  refine A_callVR ok [0, 1] [2, 3, 4, 5, 6, 7, 8, 9, 10] (As := [_]) (wr := ([(m 5, .inl (g.2.1 5, 8, .inr (.inr (.inr (.inr (fun j => some (h j))))))), rowC g h (R) 0, rowC g h (R) 1, rowC g h (R) 2, rowC g h (R) 3, rowC g h (R) 4, rowC g h (R) 5, rowC g h (R) 6, rowC g h (R) 7] : va_W)) mf_X7_noSection ml_X7_259 in_X7_noSection se_X7_noSection cf7 gp0 (r_noSection l g m (s.wth 0) d rfl s0) rfl rfl rfl dX7_setFan_7 rfl rfl rfl (by decide) (Nat.le_of_ble_eq_true rfl) ⟨(Nat.le_of_ble_eq_true rfl), (Nat.le_of_ble_eq_true rfl)⟩ ⟨(Nat.le_of_ble_eq_true rfl), (Nat.le_of_ble_eq_true rfl)⟩ (fun _ _ hx => hx.elim) (fun v7 w7 q7 => ?_)
  obtain ⟨rfl, rfl⟩ := q7
  refine A_sub [9, 10, 0, 1, 2, 3, 4, 5, 6, 7, 8] (ws2 := (hiW g m h (thS (seE d s0) 1 (s.wth 0)) (d) (R))) rfl rfl ?_
  refine A_if_ne ok.b (tgt := 64) dX7_setFan_10 (by decide) (fun c10 => ?_) (fun c10 => ?_)
  · skip
    refine A_iconst ok.b (v := 0) dX7_setFan_64 (by decide) ?_
    refine A_iret ok dX7_setFan_65 (Nat.le_of_ble_eq_true rfl) (Nat.le_of_ble_eq_true rfl) ?_
    have hb : seE d s0 = true := bI_n c10
    have eE : (if seE d s0 = true then 1 else if setE x0 = true then 2 else if d (12 + 7 * s0.toNatClampNeg + 1) = 0 then 3 else 0 : Int32) = 1 := by rw [if_pos hb]
    exact ⟨by rw [eE]; rfl, by rw [eE, if_neg (by decide), thS_t hb]; rfl⟩
  · skip
    have hb : seE d s0 = false := bI_ff c10
    rw [thS_f hb]
    obtain ⟨t, ht, rfl⟩ := se_inn hn h0 hb
    refine A_aload_n ok.b rfl dX7_setFan_13 gp0 ?_
    refine A_iload_n ok.b rfl dX7_setFan_14 (gps (gps gp0)) ?_
    refine A_bipush ok.b (v := (-10)) dX7_setFan_15 (by decide) ?_
    refine A_bipush ok.b (v := 10) dX7_setFan_17 (by decide) ?_
    refine A_pureS ok.b (As := [_, _, _]) mf_X7_in ml_X7_67 rfl sc_X7_in (r_in l g _ _ _) rfl rfl dX7_setFan_19 (Nat.le_of_ble_eq_true rfl) ⟨(Nat.le_of_ble_eq_true rfl), (Nat.le_of_ble_eq_true rfl)⟩ ⟨(Nat.le_of_ble_eq_true rfl), (Nat.le_of_ble_eq_true rfl)⟩ ?_
    refine A_if_ne ok.b (tgt := 29) dX7_setFan_22 (by decide) (fun c22 => ?_) (fun c22 => ?_)
    · skip
      refine A_iconst ok.b (v := 0) dX7_setFan_29 (by decide) ?_
      refine A_iconst ok.b (v := 2) dX7_setFan_30 (by decide) ?_
      refine A_callVR ok [0] [1, 2, 3, 4, 5, 6, 7, 8, 9, 10] (As := [_, _]) (wr := ([(m 2, .inl (g.2.1 0, 1476, .inl (d))), (m 5, .inl (g.2.1 5, 8, .inr (.inr (.inr (.inr (fun j => some (h j))))))), rowC g h (R) 0, rowC g h (R) 1, rowC g h (R) 2, rowC g h (R) 3, rowC g h (R) 4, rowC g h (R) 5, rowC g h (R) 6, rowC g h (R) 7] : va_W)) mf_X7_fails ml_X7_194 in_X7_fails se_X7_fails cf7 gp0 (r_fails l g m (s.wth 0) rfl false 2 (by decide)) rfl rfl rfl dX7_setFan_31 rfl rfl rfl (by decide) (Nat.le_of_ble_eq_true rfl) ⟨(Nat.le_of_ble_eq_true rfl), (Nat.le_of_ble_eq_true rfl)⟩ ⟨(Nat.le_of_ble_eq_true rfl), (Nat.le_of_ble_eq_true rfl)⟩ (fun _ _ hx => hx.elim) (fun v31 w31 q31 => ?_)
      obtain ⟨rfl, rfl⟩ := q31
      refine A_sub [10, 0, 1, 2, 3, 4, 5, 6, 7, 8, 9] (ws2 := (hiW g m h (thS false 2 (s.wth 0)) (d) (R))) rfl rfl ?_
      refine A_if_ne ok.b (tgt := 64) dX7_setFan_34 (by decide) (fun c34 => ((show False from c34 rfl)).elim) (fun c34 => ?_)
      have hx : setE x0 = false := by rw [setE, bI_n c22]; rfl
      rw [show thS false 2 (s.wth 0) = s.wth 0 from rfl]
      refine A_aload_n ok.b rfl dX7_setFan_37 gp0 ?_
      refine A_aload_n ok.b rfl dX7_setFan_38 gp0 ?_
      refine A_getf ok.b cf7 8 (by decide) fl_X7_17 gp0 (gps (gps (gps (gps (gps (gps (gps (gps gp0)))))))) dX7_setFan_39 ?_
      refine A_iload_n ok.b rfl dX7_setFan_42 (gps gp0) ?_
      refine A_pureS ok.b (As := [_]) mf_X7_section ml_X7_143 rfl sc_X7_section (r_section l g _) rfl rfl dX7_setFan_43 (Nat.le_of_ble_eq_true rfl) ⟨(Nat.le_of_ble_eq_true rfl), (Nat.le_of_ble_eq_true rfl)⟩ ⟨(Nat.le_of_ble_eq_true rfl), (Nat.le_of_ble_eq_true rfl)⟩ ?_
      rw [sec_n (by omega)]
      refine A_iconst ok.b (v := 1) dX7_setFan_46 (by decide) ?_
      refine A_iadd ok.b dX7_setFan_47 ?_
      rw [show nI (12 + 7 * t) + 1 = nI (12 + 7 * t + 1) from nI_add _ 1]
      refine A_iald ok.b (gps gp0) (ix_n (by omega) (by decide)) dX7_setFan_48 ?_
      refine A_if_ne ok.b (tgt := 56) dX7_setFan_49 (by decide) (fun c49 => ?_) (fun c49 => ?_)
      · skip
        refine A_iconst ok.b (v := 0) dX7_setFan_56 (by decide) ?_
        refine A_iconst ok.b (v := 3) dX7_setFan_57 (by decide) ?_
        refine A_callVR ok [0] [1, 2, 3, 4, 5, 6, 7, 8, 9, 10] (As := [_, _]) (wr := ([(m 2, .inl (g.2.1 0, 1476, .inl (d))), (m 5, .inl (g.2.1 5, 8, .inr (.inr (.inr (.inr (fun j => some (h j))))))), rowC g h (R) 0, rowC g h (R) 1, rowC g h (R) 2, rowC g h (R) 3, rowC g h (R) 4, rowC g h (R) 5, rowC g h (R) 6, rowC g h (R) 7] : va_W)) mf_X7_fails ml_X7_194 in_X7_fails se_X7_fails cf7 gp0 (r_fails l g m (s.wth 0) rfl false 3 (by decide)) rfl rfl rfl dX7_setFan_58 rfl rfl rfl (by decide) (Nat.le_of_ble_eq_true rfl) ⟨(Nat.le_of_ble_eq_true rfl), (Nat.le_of_ble_eq_true rfl)⟩ ⟨(Nat.le_of_ble_eq_true rfl), (Nat.le_of_ble_eq_true rfl)⟩ (fun _ _ hx => hx.elim) (fun v58 w58 q58 => ?_)
        obtain ⟨rfl, rfl⟩ := q58
        refine A_sub [10, 0, 1, 2, 3, 4, 5, 6, 7, 8, 9] (ws2 := (hiW g m h (thS false 3 (s.wth 0)) (d) (R))) rfl rfl ?_
        refine A_if_eq ok.b (tgt := 66) dX7_setFan_61 (by decide) (fun c61 => ?_) (fun c61 => ((show False from c61 rfl)).elim)
        have eE : (if seE d (nI t) = true then 1 else if setE x0 = true then 2 else if d (12 + 7 * (nI t).toNatClampNeg + 1) = 0 then 3 else 0 : Int32) = 0 := by rw [if_neg (by rw [hb]; decide), if_neg (by rw [hx]; decide), nI_clamp (by omega), if_neg c49]
        rw [show thS false 3 (s.wth 0) = s.wth 0 from rfl]
        refine A_aload_n ok.b rfl dX7_setFan_66 gp0 ?_
        refine A_sameVR ok (As := []) mf_X7_remember ml_X7_203 in_X7_remember se_X7_remember cf7 gp0 (r_remember l g m h (s.wth 0) d R hu) rfl rfl dX7_setFan_67 (Nat.le_of_ble_eq_true rfl) ⟨(Nat.le_of_ble_eq_true rfl), (Nat.le_of_ble_eq_true rfl)⟩ ⟨(Nat.le_of_ble_eq_true rfl), (Nat.le_of_ble_eq_true rfl)⟩ (fun _ _ hx => hx.elim) (fun v67 w67 q67 => ?_)
        obtain ⟨rfl, rfl⟩ := q67
        refine A_aload_n ok.b rfl dX7_setFan_70 gp0 ?_
        refine A_getf ok.b cf7 8 (by decide) fl_X7_17 gp0 (gps (gps (gps (gps (gps (gps (gps (gps gp0)))))))) dX7_setFan_71 ?_
        refine A_iload_n ok.b rfl dX7_setFan_74 (gps gp0) ?_
        refine A_pureS ok.b (As := [_]) mf_X7_section ml_X7_143 rfl sc_X7_section (r_section l g _) rfl rfl dX7_setFan_75 (Nat.le_of_ble_eq_true rfl) ⟨(Nat.le_of_ble_eq_true rfl), (Nat.le_of_ble_eq_true rfl)⟩ ⟨(Nat.le_of_ble_eq_true rfl), (Nat.le_of_ble_eq_true rfl)⟩ ?_
        rw [sec_n (by omega)]
        refine A_iconst ok.b (v := 2) dX7_setFan_78 (by decide) ?_
        refine A_iadd ok.b dX7_setFan_79 ?_
        rw [show nI (12 + 7 * t) + 2 = nI (12 + 7 * t + 2) from nI_add _ 2]
        refine A_iload_n ok.b rfl dX7_setFan_80 (gps (gps gp0)) ?_
        refine A_iast ok.b (gps gp0) (ix_n (by omega) (by decide)) (wps wp0) dX7_setFan_81 ?_
        refine A_aload_n ok.b rfl dX7_setFan_82 gp0 ?_
        refine A_getf ok.b cf7 8 (by decide) fl_X7_17 gp0 (gps (gps (gps (gps (gps (gps (gps (gps gp0)))))))) dX7_setFan_83 ?_
        refine A_callSR ok [1] [0, 2, 3, 4, 5, 6, 7, 8, 9, 10] (As := [_]) (wr := ([moC m (reS (s.wth 0)), (m 5, .inl (g.2.1 5, 8, .inr (.inr (.inr (.inr (fun j => some (h j))))))), rowC g h (reR s.ud d R) 0, rowC g h (reR s.ud d R) 1, rowC g h (reR s.ud d R) 2, rowC g h (reR s.ud d R) 3, rowC g h (reR s.ud d R) 4, rowC g h (reR s.ud d R) 5, rowC g h (reR s.ud d R) 6, rowC g h (reR s.ud d R) 7] : va_W)) mf_X7_flowOf ml_X7_222 rfl sc_X7_flowOf  (r_flowOf l g (m 2) (upd d (12 + 7 * t + 2) x0) n hn (by rw [upd_at, if_neg (by omega)]; exact h0)) rfl rfl rfl dX7_setFan_86 rfl rfl rfl (by decide) (Nat.le_of_ble_eq_true rfl) ⟨(Nat.le_of_ble_eq_true rfl), (Nat.le_of_ble_eq_true rfl)⟩ ⟨(Nat.le_of_ble_eq_true rfl), (Nat.le_of_ble_eq_true rfl)⟩ (fun _ _ hx => hx.elim) (fun v86 w86 q86 => ?_)
        obtain ⟨rfl, rfl⟩ := q86
        refine A_sub [0, 10, 1, 2, 3, 4, 5, 6, 7, 8, 9] (ws2 := (hiW g m h (reS (s.wth 0)) (upd d (12 + 7 * t + 2) x0) (reR s.ud d R))) rfl rfl ?_
        refine A_iret ok dX7_setFan_89 (Nat.le_of_ble_eq_true rfl) (Nat.le_of_ble_eq_true rfl) ?_
        exact ⟨by rw [eE, if_pos rfl, nI_clamp (by omega)], by rw [eE, if_pos rfl, nI_clamp (by omega)]⟩
      · skip
        refine A_iconst ok.b (v := 1) dX7_setFan_52 (by decide) ?_
        refine A_goto ok.b (tgt := 57) dX7_setFan_53 (by decide) ?_
        refine A_iconst ok.b (v := 3) dX7_setFan_57 (by decide) ?_
        refine A_callVR ok [0] [1, 2, 3, 4, 5, 6, 7, 8, 9, 10] (As := [_, _]) (wr := ([(m 2, .inl (g.2.1 0, 1476, .inl (d))), (m 5, .inl (g.2.1 5, 8, .inr (.inr (.inr (.inr (fun j => some (h j))))))), rowC g h (R) 0, rowC g h (R) 1, rowC g h (R) 2, rowC g h (R) 3, rowC g h (R) 4, rowC g h (R) 5, rowC g h (R) 6, rowC g h (R) 7] : va_W)) mf_X7_fails ml_X7_194 in_X7_fails se_X7_fails cf7 gp0 (r_fails l g m (s.wth 0) rfl true 3 (by decide)) rfl rfl rfl dX7_setFan_58 rfl rfl rfl (by decide) (Nat.le_of_ble_eq_true rfl) ⟨(Nat.le_of_ble_eq_true rfl), (Nat.le_of_ble_eq_true rfl)⟩ ⟨(Nat.le_of_ble_eq_true rfl), (Nat.le_of_ble_eq_true rfl)⟩ (fun _ _ hx => hx.elim) (fun v58 w58 q58 => ?_)
        obtain ⟨rfl, rfl⟩ := q58
        refine A_sub [10, 0, 1, 2, 3, 4, 5, 6, 7, 8, 9] (ws2 := (hiW g m h (thS true 3 (s.wth 0)) (d) (R))) rfl rfl ?_
        refine A_if_eq ok.b (tgt := 66) dX7_setFan_61 (by decide) (fun c61 => ((show False from absurd c61 (by decide))).elim) (fun c61 => ?_)
        refine A_iconst ok.b (v := 0) dX7_setFan_64 (by decide) ?_
        refine A_iret ok dX7_setFan_65 (Nat.le_of_ble_eq_true rfl) (Nat.le_of_ble_eq_true rfl) ?_
        have eE : (if seE d (nI t) = true then 1 else if setE x0 = true then 2 else if d (12 + 7 * (nI t).toNatClampNeg + 1) = 0 then 3 else 0 : Int32) = 3 := by rw [if_neg (by rw [hb]; decide), if_neg (by rw [hx]; decide), nI_clamp (by omega), if_pos c49]
        exact ⟨by rw [eE]; rfl, by rw [eE, if_neg (by decide)]; rfl⟩
    · skip
      refine A_iconst ok.b (v := 1) dX7_setFan_25 (by decide) ?_
      refine A_goto ok.b (tgt := 30) dX7_setFan_26 (by decide) ?_
      refine A_iconst ok.b (v := 2) dX7_setFan_30 (by decide) ?_
      refine A_callVR ok [0] [1, 2, 3, 4, 5, 6, 7, 8, 9, 10] (As := [_, _]) (wr := ([(m 2, .inl (g.2.1 0, 1476, .inl (d))), (m 5, .inl (g.2.1 5, 8, .inr (.inr (.inr (.inr (fun j => some (h j))))))), rowC g h (R) 0, rowC g h (R) 1, rowC g h (R) 2, rowC g h (R) 3, rowC g h (R) 4, rowC g h (R) 5, rowC g h (R) 6, rowC g h (R) 7] : va_W)) mf_X7_fails ml_X7_194 in_X7_fails se_X7_fails cf7 gp0 (r_fails l g m (s.wth 0) rfl true 2 (by decide)) rfl rfl rfl dX7_setFan_31 rfl rfl rfl (by decide) (Nat.le_of_ble_eq_true rfl) ⟨(Nat.le_of_ble_eq_true rfl), (Nat.le_of_ble_eq_true rfl)⟩ ⟨(Nat.le_of_ble_eq_true rfl), (Nat.le_of_ble_eq_true rfl)⟩ (fun _ _ hx => hx.elim) (fun v31 w31 q31 => ?_)
      obtain ⟨rfl, rfl⟩ := q31
      refine A_sub [10, 0, 1, 2, 3, 4, 5, 6, 7, 8, 9] (ws2 := (hiW g m h (thS true 2 (s.wth 0)) (d) (R))) rfl rfl ?_
      refine A_if_ne ok.b (tgt := 64) dX7_setFan_34 (by decide) (fun c34 => ?_) (fun c34 => ((show False from absurd c34 (by decide))).elim)
      refine A_iconst ok.b (v := 0) dX7_setFan_64 (by decide) ?_
      refine A_iret ok dX7_setFan_65 (Nat.le_of_ble_eq_true rfl) (Nat.le_of_ble_eq_true rfl) ?_
      have hx : setE x0 = true := by rw [setE, bI_ff c22]; rfl
      have eE : (if seE d (nI t) = true then 1 else if setE x0 = true then 2 else if d (12 + 7 * (nI t).toNatClampNeg + 1) = 0 then 3 else 0 : Int32) = 2 := by rw [if_neg (by rw [hb]; decide), if_pos hx]
      exact ⟨by rw [eE]; rfl, by rw [eE, if_neg (by decide)]; rfl⟩
set_option maxRecDepth 20000 in
set_option maxHeartbeats 2000000 in
theorem r_setBay (l : Launch) (g : Gl) (m h : Nat → Nat) (s : MS) (d : Nat → Int32) (R : Nat → Nat → Int32) (hu : s.ud ≤ 8) (n nc : Nat) (hn : n ≤ 12) (hnc : nc ≤ 20) (h0 : d 0 = nI n) (h2 : d 2 = nI nc) (s0 x0 : Int32) : Ct l g yX7_setBay cX7_setBay 4 (some .boolean) 3 200 0 0 [.ref (m 0), .int s0, .int x0] (hiW g m h (s) (d) (R)) (fun v w => v = some (.int (if (if seE d s0 = true then 1 else if d (12 + 7 * s0.toNatClampNeg + 4) < 0 then 2 else 0 : Int32) = 0 then (if d (12 + 7 * s0.toNatClampNeg + 4) = 1 then 1 else 0) else 0)) ∧ w = if ((if seE d s0 = true then 1 else if d (12 + 7 * s0.toNatClampNeg + 4) < 0 then 2 else 0 : Int32)) = 0 then (hiW g m h (reS (s.wth 0)) (upd d (12 + 7 * s0.toNatClampNeg + 4) (if x0 = 0 then 0 else 1)) (reR s.ud d R)) else (hiW g m h (s.wth ((if seE d s0 = true then 1 else if d (12 + 7 * s0.toNatClampNeg + 4) < 0 then 2 else 0 : Int32))) (d) (R))) noX := by
  refine Ct.intro [some (.ref (m 0)), some (.int s0), some (.int x0), none] (by decide +kernel) (fun _ h => h) (Nat.le_of_ble_eq_true rfl) (fun A H0 K ok => ?_)
  refine A_aload_n ok.b rfl dX7_setBay_0 gp0 ?_
  refine A_iconst ok.b (v := 0) dX7_setBay_1 (by decide) ?_
  refine A_putf ok.b cf7 0 (by decide) rfl fl_X7_45 gp0 rfl rfl (gp_lt gp0) wp0 wp0 dX7_setBay_2 ?_
  refine A_aload_n ok.b rfl dX7_setBay_5 gp0 ?_
  refine A_iload_n ok.b rfl dX7_setBay_6 (gps gp0) ?_
  refine A_callVR ok [0, 1] [2, 3, 4, 5, 6, 7, 8, 9, 10] (As := [_]) (wr := ([(m 5, .inl (g.2.1 5, 8, .inr (.inr (.inr (.inr (fun j => some (h j))))))), rowC g h (R) 0, rowC g h (R) 1, rowC g h (R) 2, rowC g h (R) 3, rowC g h (R) 4, rowC g h (R) 5, rowC g h (R) 6, rowC g h (R) 7] : va_W)) mf_X7_noSection ml_X7_259 in_X7_noSection se_X7_noSection cf7 gp0 (r_noSection l g m (s.wth 0) d rfl s0) rfl rfl rfl dX7_setBay_7 rfl rfl rfl (by decide) (Nat.le_of_ble_eq_true rfl) ⟨(Nat.le_of_ble_eq_true rfl), (Nat.le_of_ble_eq_true rfl)⟩ ⟨(Nat.le_of_ble_eq_true rfl), (Nat.le_of_ble_eq_true rfl)⟩ (fun _ _ hx => hx.elim) (fun v7 w7 q7 => ?_)
  obtain ⟨rfl, rfl⟩ := q7
  refine A_sub [9, 10, 0, 1, 2, 3, 4, 5, 6, 7, 8] (ws2 := (hiW g m h (thS (seE d s0) 1 (s.wth 0)) (d) (R))) rfl rfl ?_
  refine A_if_ne ok.b (tgt := 40) dX7_setBay_10 (by decide) (fun c10 => ?_) (fun c10 => ?_)
  · skip
    refine A_iconst ok.b (v := 0) dX7_setBay_40 (by decide) ?_
    refine A_zret ok dX7_setBay_41 (by decide) (Nat.le_of_ble_eq_true rfl) (Nat.le_of_ble_eq_true rfl) ?_
    have hb : seE d s0 = true := bI_n c10
    have eE : (if seE d s0 = true then 1 else if d (12 + 7 * s0.toNatClampNeg + 4) < 0 then 2 else 0 : Int32) = 1 := by rw [if_pos hb]
    exact ⟨by rw [eE]; rfl, by rw [eE, if_neg (by decide), thS_t hb]; rfl⟩
  · skip
    have hb : seE d s0 = false := bI_ff c10
    rw [thS_f hb]
    obtain ⟨t, ht, rfl⟩ := se_inn hn h0 hb
    refine A_aload_n ok.b rfl dX7_setBay_13 gp0 ?_
    refine A_aload_n ok.b rfl dX7_setBay_14 gp0 ?_
    refine A_getf ok.b cf7 8 (by decide) fl_X7_17 gp0 (gps (gps (gps (gps (gps (gps (gps (gps gp0)))))))) dX7_setBay_15 ?_
    refine A_iload_n ok.b rfl dX7_setBay_18 (gps gp0) ?_
    refine A_pureS ok.b (As := [_]) mf_X7_section ml_X7_143 rfl sc_X7_section (r_section l g _) rfl rfl dX7_setBay_19 (Nat.le_of_ble_eq_true rfl) ⟨(Nat.le_of_ble_eq_true rfl), (Nat.le_of_ble_eq_true rfl)⟩ ⟨(Nat.le_of_ble_eq_true rfl), (Nat.le_of_ble_eq_true rfl)⟩ ?_
    rw [sec_n (by omega)]
    refine A_iconst ok.b (v := 4) dX7_setBay_22 (by decide) ?_
    refine A_iadd ok.b dX7_setBay_23 ?_
    rw [show nI (12 + 7 * t) + 4 = nI (12 + 7 * t + 4) from nI_add _ 4]
    refine A_iald ok.b (gps gp0) (ix_n (by omega) (by decide)) dX7_setBay_24 ?_
    refine A_if_ge ok.b (tgt := 32) dX7_setBay_25 (by decide) (fun c25 => ?_) (fun c25 => ?_)
    · skip
      refine A_iconst ok.b (v := 0) dX7_setBay_32 (by decide) ?_
      refine A_iconst ok.b (v := 2) dX7_setBay_33 (by decide) ?_
      refine A_callVR ok [0] [1, 2, 3, 4, 5, 6, 7, 8, 9, 10] (As := [_, _]) (wr := ([(m 2, .inl (g.2.1 0, 1476, .inl (d))), (m 5, .inl (g.2.1 5, 8, .inr (.inr (.inr (.inr (fun j => some (h j))))))), rowC g h (R) 0, rowC g h (R) 1, rowC g h (R) 2, rowC g h (R) 3, rowC g h (R) 4, rowC g h (R) 5, rowC g h (R) 6, rowC g h (R) 7] : va_W)) mf_X7_fails ml_X7_194 in_X7_fails se_X7_fails cf7 gp0 (r_fails l g m (s.wth 0) rfl false 2 (by decide)) rfl rfl rfl dX7_setBay_34 rfl rfl rfl (by decide) (Nat.le_of_ble_eq_true rfl) ⟨(Nat.le_of_ble_eq_true rfl), (Nat.le_of_ble_eq_true rfl)⟩ ⟨(Nat.le_of_ble_eq_true rfl), (Nat.le_of_ble_eq_true rfl)⟩ (fun _ _ hx => hx.elim) (fun v34 w34 q34 => ?_)
      obtain ⟨rfl, rfl⟩ := q34
      refine A_sub [10, 0, 1, 2, 3, 4, 5, 6, 7, 8, 9] (ws2 := (hiW g m h (thS false 2 (s.wth 0)) (d) (R))) rfl rfl ?_
      refine A_if_eq ok.b (tgt := 42) dX7_setBay_37 (by decide) (fun c37 => ?_) (fun c37 => ((show False from c37 rfl)).elim)
      have eE : (if seE d (nI t) = true then 1 else if d (12 + 7 * (nI t).toNatClampNeg + 4) < 0 then 2 else 0 : Int32) = 0 := by rw [if_neg (by rw [hb]; decide), nI_clamp (by omega), if_neg (Int32.not_lt.mpr c25)]
      rw [show thS false 2 (s.wth 0) = s.wth 0 from rfl]
      refine A_aload_n ok.b rfl dX7_setBay_42 gp0 ?_
      refine A_sameVR ok (As := []) mf_X7_remember ml_X7_203 in_X7_remember se_X7_remember cf7 gp0 (r_remember l g m h (s.wth 0) d R hu) rfl rfl dX7_setBay_43 (Nat.le_of_ble_eq_true rfl) ⟨(Nat.le_of_ble_eq_true rfl), (Nat.le_of_ble_eq_true rfl)⟩ ⟨(Nat.le_of_ble_eq_true rfl), (Nat.le_of_ble_eq_true rfl)⟩ (fun _ _ hx => hx.elim) (fun v43 w43 q43 => ?_)
      obtain ⟨rfl, rfl⟩ := q43
      refine A_aload_n ok.b rfl dX7_setBay_46 gp0 ?_
      refine A_getf ok.b cf7 8 (by decide) fl_X7_17 gp0 (gps (gps (gps (gps (gps (gps (gps (gps gp0)))))))) dX7_setBay_47 ?_
      refine A_iload_n ok.b rfl dX7_setBay_50 (gps gp0) ?_
      refine A_pureS ok.b (As := [_]) mf_X7_section ml_X7_143 rfl sc_X7_section (r_section l g _) rfl rfl dX7_setBay_51 (Nat.le_of_ble_eq_true rfl) ⟨(Nat.le_of_ble_eq_true rfl), (Nat.le_of_ble_eq_true rfl)⟩ ⟨(Nat.le_of_ble_eq_true rfl), (Nat.le_of_ble_eq_true rfl)⟩ ?_
      rw [sec_n (by omega)]
      refine A_iconst ok.b (v := 4) dX7_setBay_54 (by decide) ?_
      refine A_iadd ok.b dX7_setBay_55 ?_
      rw [show nI (12 + 7 * t) + 4 = nI (12 + 7 * t + 4) from nI_add _ 4]
      refine A_iald ok.b (gps gp0) (ix_n (by omega) (by decide)) dX7_setBay_56 ?_
      refine A_iconst ok.b (v := 1) dX7_setBay_57 (by decide) ?_
      refine A_icmp_ne ok.b (tgt := 65) dX7_setBay_58 (by decide) (fun c58 => ?_) (fun c58 => ?_)
      · skip
        refine A_iconst ok.b (v := 0) dX7_setBay_65 (by decide) ?_
        refine A_istore_n ok.b rfl dX7_setBay_66 (by decide) (sts (sts (sts1 rfl st0))) ?_
        refine A_aload_n ok.b rfl dX7_setBay_67 gp0 ?_
        refine A_getf ok.b cf7 8 (by decide) fl_X7_17 gp0 (gps (gps (gps (gps (gps (gps (gps (gps gp0)))))))) dX7_setBay_68 ?_
        refine A_iload_n ok.b rfl dX7_setBay_71 (gps gp0) ?_
        refine A_pureS ok.b (As := [_]) mf_X7_section ml_X7_143 rfl sc_X7_section (r_section l g _) rfl rfl dX7_setBay_72 (Nat.le_of_ble_eq_true rfl) ⟨(Nat.le_of_ble_eq_true rfl), (Nat.le_of_ble_eq_true rfl)⟩ ⟨(Nat.le_of_ble_eq_true rfl), (Nat.le_of_ble_eq_true rfl)⟩ ?_
        rw [sec_n (by omega)]
        refine A_iconst ok.b (v := 4) dX7_setBay_75 (by decide) ?_
        refine A_iadd ok.b dX7_setBay_76 ?_
        refine A_iload_n ok.b rfl dX7_setBay_77 (gps (gps gp0)) ?_
        refine A_if_eq ok.b (tgt := 85) dX7_setBay_78 (by decide) (fun c78 => ?_) (fun c78 => ?_)
        · skip
          refine A_iconst ok.b (v := 0) dX7_setBay_85 (by decide) ?_
          rw [show nI (12 + 7 * t) + 4 = nI (12 + 7 * t + 4) from nI_add _ 4]
          refine A_iast ok.b (gps gp0) (ix_n (by omega) (by decide)) (wps wp0) dX7_setBay_86 ?_
          refine A_iload_n ok.b rfl dX7_setBay_87 (gps (gps (gps gp0))) ?_
          refine A_zret ok dX7_setBay_88 (by decide) (Nat.le_of_ble_eq_true rfl) (Nat.le_of_ble_eq_true rfl) ?_
          exact ⟨by rw [eE, if_pos rfl, nI_clamp (by omega), if_neg c58], by rw [eE, if_pos rfl, nI_clamp (by omega), if_pos c78]; rfl⟩
        · skip
          refine A_iconst ok.b (v := 1) dX7_setBay_81 (by decide) ?_
          refine A_goto ok.b (tgt := 86) dX7_setBay_82 (by decide) ?_
          rw [show nI (12 + 7 * t) + 4 = nI (12 + 7 * t + 4) from nI_add _ 4]
          refine A_iast ok.b (gps gp0) (ix_n (by omega) (by decide)) (wps wp0) dX7_setBay_86 ?_
          refine A_iload_n ok.b rfl dX7_setBay_87 (gps (gps (gps gp0))) ?_
          refine A_zret ok dX7_setBay_88 (by decide) (Nat.le_of_ble_eq_true rfl) (Nat.le_of_ble_eq_true rfl) ?_
          exact ⟨by rw [eE, if_pos rfl, nI_clamp (by omega), if_neg c58], by rw [eE, if_pos rfl, nI_clamp (by omega), if_neg c78]; rfl⟩
      · skip
        refine A_iconst ok.b (v := 1) dX7_setBay_61 (by decide) ?_
        refine A_goto ok.b (tgt := 66) dX7_setBay_62 (by decide) ?_
        refine A_istore_n ok.b rfl dX7_setBay_66 (by decide) (sts (sts (sts1 rfl st0))) ?_
        refine A_aload_n ok.b rfl dX7_setBay_67 gp0 ?_
        refine A_getf ok.b cf7 8 (by decide) fl_X7_17 gp0 (gps (gps (gps (gps (gps (gps (gps (gps gp0)))))))) dX7_setBay_68 ?_
        refine A_iload_n ok.b rfl dX7_setBay_71 (gps gp0) ?_
        refine A_pureS ok.b (As := [_]) mf_X7_section ml_X7_143 rfl sc_X7_section (r_section l g _) rfl rfl dX7_setBay_72 (Nat.le_of_ble_eq_true rfl) ⟨(Nat.le_of_ble_eq_true rfl), (Nat.le_of_ble_eq_true rfl)⟩ ⟨(Nat.le_of_ble_eq_true rfl), (Nat.le_of_ble_eq_true rfl)⟩ ?_
        rw [sec_n (by omega)]
        refine A_iconst ok.b (v := 4) dX7_setBay_75 (by decide) ?_
        refine A_iadd ok.b dX7_setBay_76 ?_
        refine A_iload_n ok.b rfl dX7_setBay_77 (gps (gps gp0)) ?_
        refine A_if_eq ok.b (tgt := 85) dX7_setBay_78 (by decide) (fun c78 => ?_) (fun c78 => ?_)
        · skip
          refine A_iconst ok.b (v := 0) dX7_setBay_85 (by decide) ?_
          rw [show nI (12 + 7 * t) + 4 = nI (12 + 7 * t + 4) from nI_add _ 4]
          refine A_iast ok.b (gps gp0) (ix_n (by omega) (by decide)) (wps wp0) dX7_setBay_86 ?_
          refine A_iload_n ok.b rfl dX7_setBay_87 (gps (gps (gps gp0))) ?_
          refine A_zret ok dX7_setBay_88 (by decide) (Nat.le_of_ble_eq_true rfl) (Nat.le_of_ble_eq_true rfl) ?_
          exact ⟨by rw [eE, if_pos rfl, nI_clamp (by omega), if_pos c58], by rw [eE, if_pos rfl, nI_clamp (by omega), if_pos c78]; rfl⟩
        · skip
          refine A_iconst ok.b (v := 1) dX7_setBay_81 (by decide) ?_
          refine A_goto ok.b (tgt := 86) dX7_setBay_82 (by decide) ?_
          rw [show nI (12 + 7 * t) + 4 = nI (12 + 7 * t + 4) from nI_add _ 4]
          refine A_iast ok.b (gps gp0) (ix_n (by omega) (by decide)) (wps wp0) dX7_setBay_86 ?_
          refine A_iload_n ok.b rfl dX7_setBay_87 (gps (gps (gps gp0))) ?_
          refine A_zret ok dX7_setBay_88 (by decide) (Nat.le_of_ble_eq_true rfl) (Nat.le_of_ble_eq_true rfl) ?_
          exact ⟨by rw [eE, if_pos rfl, nI_clamp (by omega), if_pos c58], by rw [eE, if_pos rfl, nI_clamp (by omega), if_neg c78]; rfl⟩
    · skip
      refine A_iconst ok.b (v := 1) dX7_setBay_28 (by decide) ?_
      refine A_goto ok.b (tgt := 33) dX7_setBay_29 (by decide) ?_
      refine A_iconst ok.b (v := 2) dX7_setBay_33 (by decide) ?_
      refine A_callVR ok [0] [1, 2, 3, 4, 5, 6, 7, 8, 9, 10] (As := [_, _]) (wr := ([(m 2, .inl (g.2.1 0, 1476, .inl (d))), (m 5, .inl (g.2.1 5, 8, .inr (.inr (.inr (.inr (fun j => some (h j))))))), rowC g h (R) 0, rowC g h (R) 1, rowC g h (R) 2, rowC g h (R) 3, rowC g h (R) 4, rowC g h (R) 5, rowC g h (R) 6, rowC g h (R) 7] : va_W)) mf_X7_fails ml_X7_194 in_X7_fails se_X7_fails cf7 gp0 (r_fails l g m (s.wth 0) rfl true 2 (by decide)) rfl rfl rfl dX7_setBay_34 rfl rfl rfl (by decide) (Nat.le_of_ble_eq_true rfl) ⟨(Nat.le_of_ble_eq_true rfl), (Nat.le_of_ble_eq_true rfl)⟩ ⟨(Nat.le_of_ble_eq_true rfl), (Nat.le_of_ble_eq_true rfl)⟩ (fun _ _ hx => hx.elim) (fun v34 w34 q34 => ?_)
      obtain ⟨rfl, rfl⟩ := q34
      refine A_sub [10, 0, 1, 2, 3, 4, 5, 6, 7, 8, 9] (ws2 := (hiW g m h (thS true 2 (s.wth 0)) (d) (R))) rfl rfl ?_
      refine A_if_eq ok.b (tgt := 42) dX7_setBay_37 (by decide) (fun c37 => ((show False from absurd c37 (by decide))).elim) (fun c37 => ?_)
      refine A_iconst ok.b (v := 0) dX7_setBay_40 (by decide) ?_
      refine A_zret ok dX7_setBay_41 (by decide) (Nat.le_of_ble_eq_true rfl) (Nat.le_of_ble_eq_true rfl) ?_
      have eE : (if seE d (nI t) = true then 1 else if d (12 + 7 * (nI t).toNatClampNeg + 4) < 0 then 2 else 0 : Int32) = 2 := by rw [if_neg (by rw [hb]; decide), nI_clamp (by omega), if_pos (Int32.not_le.mp c25)]
      exact ⟨by rw [eE]; rfl, by rw [eE, if_neg (by decide)]; rfl⟩
set_option maxRecDepth 20000 in
set_option maxHeartbeats 2000000 in
theorem r_setSignal (l : Launch) (g : Gl) (m h : Nat → Nat) (s : MS) (d : Nat → Int32) (R : Nat → Nat → Int32) (hu : s.ud ≤ 8) (n nc : Nat) (hn : n ≤ 12) (hnc : nc ≤ 20) (h0 : d 0 = nI n) (h2 : d 2 = nI nc) (s0 w0 x0 : Int32) : Ct l g yX7_setSignal cX7_setSignal 5 (some .boolean) 3 200 0 0 [.ref (m 0), .int s0, .int w0, .int x0] (hiW g m h (s) (d) (R)) (fun v w => v = some (.int (if (if seE d s0 = true then 1 else if wyE w0 = true then 2 else 0 : Int32) = 0 then (if d (12 + 7 * s0.toNatClampNeg + (if w0 = 1 then 5 else 6)) = 1 then 1 else 0) else 0)) ∧ w = if ((if seE d s0 = true then 1 else if wyE w0 = true then 2 else 0 : Int32)) = 0 then (hiW g m h (reS (s.wth 0)) (upd d (12 + 7 * s0.toNatClampNeg + (if w0 = 1 then 5 else 6)) (if x0 = 0 then 0 else 1)) (reR s.ud d R)) else (hiW g m h (s.wth ((if seE d s0 = true then 1 else if wyE w0 = true then 2 else 0 : Int32))) (d) (R))) noX := by
  refine Ct.intro [some (.ref (m 0)), some (.int s0), some (.int w0), some (.int x0), none] (by decide +kernel) (fun _ h => h) (Nat.le_of_ble_eq_true rfl) (fun A H0 K ok => ?_)
  refine A_aload_n ok.b rfl dX7_setSignal_0 gp0 ?_
  refine A_iconst ok.b (v := 0) dX7_setSignal_1 (by decide) ?_
  refine A_putf ok.b cf7 0 (by decide) rfl fl_X7_45 gp0 rfl rfl (gp_lt gp0) wp0 wp0 dX7_setSignal_2 ?_
  refine A_aload_n ok.b rfl dX7_setSignal_5 gp0 ?_
  refine A_iload_n ok.b rfl dX7_setSignal_6 (gps gp0) ?_
  refine A_callVR ok [0, 1] [2, 3, 4, 5, 6, 7, 8, 9, 10] (As := [_]) (wr := ([(m 5, .inl (g.2.1 5, 8, .inr (.inr (.inr (.inr (fun j => some (h j))))))), rowC g h (R) 0, rowC g h (R) 1, rowC g h (R) 2, rowC g h (R) 3, rowC g h (R) 4, rowC g h (R) 5, rowC g h (R) 6, rowC g h (R) 7] : va_W)) mf_X7_noSection ml_X7_259 in_X7_noSection se_X7_noSection cf7 gp0 (r_noSection l g m (s.wth 0) d rfl s0) rfl rfl rfl dX7_setSignal_7 rfl rfl rfl (by decide) (Nat.le_of_ble_eq_true rfl) ⟨(Nat.le_of_ble_eq_true rfl), (Nat.le_of_ble_eq_true rfl)⟩ ⟨(Nat.le_of_ble_eq_true rfl), (Nat.le_of_ble_eq_true rfl)⟩ (fun _ _ hx => hx.elim) (fun v7 w7 q7 => ?_)
  obtain ⟨rfl, rfl⟩ := q7
  refine A_sub [9, 10, 0, 1, 2, 3, 4, 5, 6, 7, 8] (ws2 := (hiW g m h (thS (seE d s0) 1 (s.wth 0)) (d) (R))) rfl rfl ?_
  refine A_if_ne ok.b (tgt := 21) dX7_setSignal_10 (by decide) (fun c10 => ?_) (fun c10 => ?_)
  · skip
    refine A_iconst ok.b (v := 0) dX7_setSignal_21 (by decide) ?_
    refine A_zret ok dX7_setSignal_22 (by decide) (Nat.le_of_ble_eq_true rfl) (Nat.le_of_ble_eq_true rfl) ?_
    have hb : seE d s0 = true := bI_n c10
    have eE : (if seE d s0 = true then 1 else if wyE w0 = true then 2 else 0 : Int32) = 1 := by rw [if_pos hb]
    exact ⟨by rw [eE]; rfl, by rw [eE, if_neg (by decide), thS_t hb]; rfl⟩
  · skip
    have hb : seE d s0 = false := bI_ff c10
    rw [thS_f hb]
    obtain ⟨t, ht, rfl⟩ := se_inn hn h0 hb
    refine A_aload_n ok.b rfl dX7_setSignal_13 gp0 ?_
    refine A_iload_n ok.b rfl dX7_setSignal_14 (gps (gps gp0)) ?_
    refine A_callVR ok [0] [1, 2, 3, 4, 5, 6, 7, 8, 9, 10] (As := [_]) (wr := ([(m 2, .inl (g.2.1 0, 1476, .inl (d))), (m 5, .inl (g.2.1 5, 8, .inr (.inr (.inr (.inr (fun j => some (h j))))))), rowC g h (R) 0, rowC g h (R) 1, rowC g h (R) 2, rowC g h (R) 3, rowC g h (R) 4, rowC g h (R) 5, rowC g h (R) 6, rowC g h (R) 7] : va_W)) mf_X7_noWay ml_X7_262 in_X7_noWay se_X7_noWay cf7 gp0 (r_noWay l g m (s.wth 0) rfl w0) rfl rfl rfl dX7_setSignal_15 rfl rfl rfl (by decide) (Nat.le_of_ble_eq_true rfl) ⟨(Nat.le_of_ble_eq_true rfl), (Nat.le_of_ble_eq_true rfl)⟩ ⟨(Nat.le_of_ble_eq_true rfl), (Nat.le_of_ble_eq_true rfl)⟩ (fun _ _ hx => hx.elim) (fun v15 w15 q15 => ?_)
    obtain ⟨rfl, rfl⟩ := q15
    refine A_sub [10, 0, 1, 2, 3, 4, 5, 6, 7, 8, 9] (ws2 := (hiW g m h (thS (wyE w0) 2 (s.wth 0)) (d) (R))) rfl rfl ?_
    refine A_if_eq ok.b (tgt := 23) dX7_setSignal_18 (by decide) (fun c18 => ?_) (fun c18 => ?_)
    · skip
      have hw : wyE w0 = false := bI_ff c18
      rw [thS_f hw]
      have eE : (if seE d (nI t) = true then 1 else if wyE w0 = true then 2 else 0 : Int32) = 0 := by rw [if_neg (by rw [hb]; decide), if_neg (by rw [hw]; decide)]
      refine A_aload_n ok.b rfl dX7_setSignal_23 gp0 ?_
      refine A_sameVR ok (As := []) mf_X7_remember ml_X7_203 in_X7_remember se_X7_remember cf7 gp0 (r_remember l g m h (s.wth 0) d R hu) rfl rfl dX7_setSignal_24 (Nat.le_of_ble_eq_true rfl) ⟨(Nat.le_of_ble_eq_true rfl), (Nat.le_of_ble_eq_true rfl)⟩ ⟨(Nat.le_of_ble_eq_true rfl), (Nat.le_of_ble_eq_true rfl)⟩ (fun _ _ hx => hx.elim) (fun v24 w24 q24 => ?_)
      obtain ⟨rfl, rfl⟩ := q24
      refine A_aload_n ok.b rfl dX7_setSignal_27 gp0 ?_
      refine A_getf ok.b cf7 8 (by decide) fl_X7_17 gp0 (gps (gps (gps (gps (gps (gps (gps (gps gp0)))))))) dX7_setSignal_28 ?_
      refine A_iload_n ok.b rfl dX7_setSignal_31 (gps gp0) ?_
      refine A_iload_n ok.b rfl dX7_setSignal_32 (gps (gps gp0)) ?_
      refine A_pureS ok.b (As := [_, _]) mf_X7_signal ml_X7_265 rfl sc_X7_signal (r_signal l g _ _) rfl rfl dX7_setSignal_33 (Nat.le_of_ble_eq_true rfl) ⟨(Nat.le_of_ble_eq_true rfl), (Nat.le_of_ble_eq_true rfl)⟩ ⟨(Nat.le_of_ble_eq_true rfl), (Nat.le_of_ble_eq_true rfl)⟩ ?_
      rw [sec_n (by omega), sig_n (by omega)]
      refine A_iald ok.b (gps gp0) (ix_n (sig_lt (by omega) w0) (by decide)) dX7_setSignal_36 ?_
      refine A_iconst ok.b (v := 1) dX7_setSignal_37 (by decide) ?_
      refine A_icmp_ne ok.b (tgt := 45) dX7_setSignal_38 (by decide) (fun c38 => ?_) (fun c38 => ?_)
      · skip
        refine A_iconst ok.b (v := 0) dX7_setSignal_45 (by decide) ?_
        refine A_istore ok.b dX7_setSignal_46 (by decide) (sts (sts (sts (sts1 rfl st0)))) ?_
        refine A_aload_n ok.b rfl dX7_setSignal_48 gp0 ?_
        refine A_getf ok.b cf7 8 (by decide) fl_X7_17 gp0 (gps (gps (gps (gps (gps (gps (gps (gps gp0)))))))) dX7_setSignal_49 ?_
        refine A_iload_n ok.b rfl dX7_setSignal_52 (gps gp0) ?_
        refine A_iload_n ok.b rfl dX7_setSignal_53 (gps (gps gp0)) ?_
        refine A_pureS ok.b (As := [_, _]) mf_X7_signal ml_X7_265 rfl sc_X7_signal (r_signal l g _ _) rfl rfl dX7_setSignal_54 (Nat.le_of_ble_eq_true rfl) ⟨(Nat.le_of_ble_eq_true rfl), (Nat.le_of_ble_eq_true rfl)⟩ ⟨(Nat.le_of_ble_eq_true rfl), (Nat.le_of_ble_eq_true rfl)⟩ ?_
        rw [sec_n (by omega), sig_n (by omega)]
        refine A_iload_n ok.b rfl dX7_setSignal_57 (gps (gps (gps gp0))) ?_
        refine A_if_eq ok.b (tgt := 65) dX7_setSignal_58 (by decide) (fun c58 => ?_) (fun c58 => ?_)
        · skip
          refine A_iconst ok.b (v := 0) dX7_setSignal_65 (by decide) ?_
          refine A_iast ok.b (gps gp0) (ix_n (sig_lt (by omega) w0) (by decide)) (wps wp0) dX7_setSignal_66 ?_
          refine A_iload ok.b dX7_setSignal_67 (gps (gps (gps (gps gp0)))) ?_
          refine A_zret ok dX7_setSignal_69 (by decide) (Nat.le_of_ble_eq_true rfl) (Nat.le_of_ble_eq_true rfl) ?_
          exact ⟨by rw [eE, if_pos rfl, nI_clamp (by omega), if_neg c38], by rw [eE, if_pos rfl, nI_clamp (by omega), if_pos c58]; rfl⟩
        · skip
          refine A_iconst ok.b (v := 1) dX7_setSignal_61 (by decide) ?_
          refine A_goto ok.b (tgt := 66) dX7_setSignal_62 (by decide) ?_
          refine A_iast ok.b (gps gp0) (ix_n (sig_lt (by omega) w0) (by decide)) (wps wp0) dX7_setSignal_66 ?_
          refine A_iload ok.b dX7_setSignal_67 (gps (gps (gps (gps gp0)))) ?_
          refine A_zret ok dX7_setSignal_69 (by decide) (Nat.le_of_ble_eq_true rfl) (Nat.le_of_ble_eq_true rfl) ?_
          exact ⟨by rw [eE, if_pos rfl, nI_clamp (by omega), if_neg c38], by rw [eE, if_pos rfl, nI_clamp (by omega), if_neg c58]; rfl⟩
      · skip
        refine A_iconst ok.b (v := 1) dX7_setSignal_41 (by decide) ?_
        refine A_goto ok.b (tgt := 46) dX7_setSignal_42 (by decide) ?_
        refine A_istore ok.b dX7_setSignal_46 (by decide) (sts (sts (sts (sts1 rfl st0)))) ?_
        refine A_aload_n ok.b rfl dX7_setSignal_48 gp0 ?_
        refine A_getf ok.b cf7 8 (by decide) fl_X7_17 gp0 (gps (gps (gps (gps (gps (gps (gps (gps gp0)))))))) dX7_setSignal_49 ?_
        refine A_iload_n ok.b rfl dX7_setSignal_52 (gps gp0) ?_
        refine A_iload_n ok.b rfl dX7_setSignal_53 (gps (gps gp0)) ?_
        refine A_pureS ok.b (As := [_, _]) mf_X7_signal ml_X7_265 rfl sc_X7_signal (r_signal l g _ _) rfl rfl dX7_setSignal_54 (Nat.le_of_ble_eq_true rfl) ⟨(Nat.le_of_ble_eq_true rfl), (Nat.le_of_ble_eq_true rfl)⟩ ⟨(Nat.le_of_ble_eq_true rfl), (Nat.le_of_ble_eq_true rfl)⟩ ?_
        rw [sec_n (by omega), sig_n (by omega)]
        refine A_iload_n ok.b rfl dX7_setSignal_57 (gps (gps (gps gp0))) ?_
        refine A_if_eq ok.b (tgt := 65) dX7_setSignal_58 (by decide) (fun c58 => ?_) (fun c58 => ?_)
        · skip
          refine A_iconst ok.b (v := 0) dX7_setSignal_65 (by decide) ?_
          refine A_iast ok.b (gps gp0) (ix_n (sig_lt (by omega) w0) (by decide)) (wps wp0) dX7_setSignal_66 ?_
          refine A_iload ok.b dX7_setSignal_67 (gps (gps (gps (gps gp0)))) ?_
          refine A_zret ok dX7_setSignal_69 (by decide) (Nat.le_of_ble_eq_true rfl) (Nat.le_of_ble_eq_true rfl) ?_
          exact ⟨by rw [eE, if_pos rfl, nI_clamp (by omega), if_pos c38], by rw [eE, if_pos rfl, nI_clamp (by omega), if_pos c58]; rfl⟩
        · skip
          refine A_iconst ok.b (v := 1) dX7_setSignal_61 (by decide) ?_
          refine A_goto ok.b (tgt := 66) dX7_setSignal_62 (by decide) ?_
          refine A_iast ok.b (gps gp0) (ix_n (sig_lt (by omega) w0) (by decide)) (wps wp0) dX7_setSignal_66 ?_
          refine A_iload ok.b dX7_setSignal_67 (gps (gps (gps (gps gp0)))) ?_
          refine A_zret ok dX7_setSignal_69 (by decide) (Nat.le_of_ble_eq_true rfl) (Nat.le_of_ble_eq_true rfl) ?_
          exact ⟨by rw [eE, if_pos rfl, nI_clamp (by omega), if_pos c38], by rw [eE, if_pos rfl, nI_clamp (by omega), if_neg c58]; rfl⟩
    · skip
      refine A_iconst ok.b (v := 0) dX7_setSignal_21 (by decide) ?_
      refine A_zret ok dX7_setSignal_22 (by decide) (Nat.le_of_ble_eq_true rfl) (Nat.le_of_ble_eq_true rfl) ?_
      have hw : wyE w0 = true := bI_n c18
      have eE : (if seE d (nI t) = true then 1 else if wyE w0 = true then 2 else 0 : Int32) = 2 := by rw [if_neg (by rw [hb]; decide), if_pos hw]
      exact ⟨by rw [eE]; rfl, by rw [eE, if_neg (by decide), thS_t hw]; rfl⟩
/-- the cells of a run -/
def ruW (g : Gl) (m h : Nat → Nat) (s : MS) (X : TS) (R : Nat → Nat → Int32) : va_W := hiW g m h s X.d R ++ [(m 7, .inl (g.2.1 0, 12, .inl X.re)), (m 8, .inl (g.2.1 3, 20, .inl X.st)), (m 9, .inl (g.2.1 3, 20, .inl X.dr)), (m 6, .inl (g.2.1 1, 1300, .inr (.inl X.sk)))]
def rnE (d : Nat → Int32) (x : Int32) : Int32 := if inB x 1 100 = true then (if d 0 = 0 then 2 else if 10000 < d 3 + x then 2 else 0) else 1
def tksF (n nc : Nat) (cs : Nat → Int32) (kc : Nat) (X : TS) (k : Nat) : TS := foldN (fun _ Y => tkF n nc cs kc Y) X k
theorem TKd_tks {n nc : Nat} (hn : n ≤ 12) (hnc : nc ≤ 20) {cs : Nat → Int32} {kc : Nat} {X : TS} (h : TKd n nc cs kc X.d) : ∀ k, TKd n nc cs kc (tksF n nc cs kc X k).d
  | 0 => h
  | k + 1 => TKd_tick hn hnc (TKd_tks hn hnc h k)
theorem in_1 {x : Int32} (h : inB x 1 100 = true) : ∃ t, t ≤ 100 ∧ x = nI t := by
  have h1 : ¬ x < 1 := fun h2 => by rw [inB_f1 h2] at h; exact absurd h Bool.false_ne_true
  have h2 : ¬ 100 < x := fun h3 => by rw [inB_f2 h3] at h; exact absurd h Bool.false_ne_true
  exact nI_of2 (M := nI 100) (by decide) (fun h3 => h1 (Int32.lt_trans h3 (by decide))) (Int32.not_lt.mp h2)
set_option maxRecDepth 20000 in
set_option maxHeartbeats 2000000 in
theorem r_run (l : Launch) (g : Gl) (m h : Nat → Nat) (s : MS) (X : TS) (R : Nat → Nat → Int32) (hu : s.ud ≤ 8) (n nc : Nat) (hn : n ≤ 12) (hnc : nc ≤ 20) (cs : Nat → Int32) (kc : Nat) (hT : TKd n nc cs kc X.d) (x0 : Int32) : Ct l g yX7_run cX7_run 4 (some .int) 6 300 0 0 [.ref (m 0), .int x0] (ruW g m h (s) (X) (R)) (fun v w => v = some (.int (if rnE X.d x0 = 0 then insR X.d nc - insR (tksF n nc cs kc X x0.toNatClampNeg).d nc else 0)) ∧ w = if rnE X.d x0 = 0 then (ruW g m h (reS (s.wth 0)) (tksF n nc cs kc X x0.toNatClampNeg) (reR s.ud X.d R)) else (ruW g m h (s.wth (rnE X.d x0)) (X) (R))) noX := by
  refine Ct.intro [some (.ref (m 0)), some (.int x0), none, none] (by decide +kernel) (fun _ h => h) (Nat.le_of_ble_eq_true rfl) (fun A H0 K ok => ?_)
  have LK : rnE X.d x0 = 0 → ∀ T, x0 = nI T → T ≤ 100 → ∀ k, k ≤ T → AW g A H0 4 K 80 [some (.ref (m 0)), some (.int x0), some (.int (insR X.d nc)), some (.int (nI k))] [] (ruW g m h (reS (s.wth 0)) ((tksF n nc cs kc X (k))) (reR s.ud X.d R)) 0 0 := by
    intro hb T hT0 hTl
    refine up_ind T ?_ (fun k hk ih => ?_)
    · have hY := TKd_tks hn hnc hT T
      rw [hT0]
      refine A_iload_n ok.b rfl dX7_run_80 (gps (gps (gps gp0))) ?_
      refine A_iload_n ok.b rfl dX7_run_81 (gps gp0) ?_
      refine A_icmp_ge ok.b (tgt := 99) dX7_run_82 (by decide) (fun c82 => ?_) (fun c82 => ((show False from c82 (nI_le (Nat.le_refl _) (by omega)))).elim)
      refine A_iload_n ok.b rfl dX7_run_99 (gps (gps gp0)) ?_
      refine A_aload_n ok.b rfl dX7_run_100 gp0 ?_
      refine A_getf ok.b cf7 8 (by decide) fl_X7_17 gp0 (gps (gps (gps (gps (gps (gps (gps (gps gp0)))))))) dX7_run_101 ?_
      refine A_callSR ok [1] [0, 2, 3, 4, 5, 6, 7, 8, 9, 10, 11, 12, 13, 14] (As := [_]) (wr := ([moC m (reS (s.wth 0)), (m 5, .inl (g.2.1 5, 8, .inr (.inr (.inr (.inr (fun j => some (h j))))))), rowC g h (reR s.ud X.d R) 0, rowC g h (reR s.ud X.d R) 1, rowC g h (reR s.ud X.d R) 2, rowC g h (reR s.ud X.d R) 3, rowC g h (reR s.ud X.d R) 4, rowC g h (reR s.ud X.d R) 5, rowC g h (reR s.ud X.d R) 6, rowC g h (reR s.ud X.d R) 7, (m 7, .inl (g.2.1 0, 12, .inl ((tksF n nc cs kc X (T))).re)), (m 8, .inl (g.2.1 3, 20, .inl ((tksF n nc cs kc X (T))).st)), (m 9, .inl (g.2.1 3, 20, .inl ((tksF n nc cs kc X (T))).dr)), (m 6, .inl (g.2.1 1, 1300, .inr (.inl ((tksF n nc cs kc X (T))).sk)))] : va_W)) mf_X7_insideOf ml_X7_218 rfl sc_X7_insideOf  (r_insideOf l g (m 2) (tksF n nc cs kc X (T)).d nc hnc hY.2.1) rfl rfl rfl dX7_run_104 rfl rfl rfl (by decide) (Nat.le_of_ble_eq_true rfl) ⟨(Nat.le_of_ble_eq_true rfl), (Nat.le_of_ble_eq_true rfl)⟩ ⟨(Nat.le_of_ble_eq_true rfl), (Nat.le_of_ble_eq_true rfl)⟩ (fun _ _ hx => hx.elim) (fun v104 w104 q104 => ?_)
      obtain ⟨rfl, rfl⟩ := q104
      refine A_sub [0, 14, 1, 2, 3, 4, 5, 6, 7, 8, 9, 10, 11, 12, 13] (ws2 := (ruW g m h (reS (s.wth 0)) ((tksF n nc cs kc X (T))) (reR s.ud X.d R))) rfl rfl ?_
      refine A_isub ok.b dX7_run_107 ?_
      refine A_iret ok dX7_run_108 (Nat.le_of_ble_eq_true rfl) (Nat.le_of_ble_eq_true rfl) ?_
      rw [hb]
      exact ⟨by rw [if_pos rfl, hT0, nI_clamp (by omega)], by rw [if_pos rfl, hT0, nI_clamp (by omega)]⟩
    · have hY := TKd_tks hn hnc hT k
      rw [show (tksF n nc cs kc X (k + 1)) = tkF n nc cs kc (tksF n nc cs kc X (k)) from rfl] at ih
      generalize (tksF n nc cs kc X (k)) = Y at hY ih ⊢
      rw [hT0]
      refine A_iload_n ok.b rfl dX7_run_80 (gps (gps (gps gp0))) ?_
      refine A_iload_n ok.b rfl dX7_run_81 (gps gp0) ?_
      refine A_icmp_ge ok.b (tgt := 99) dX7_run_82 (by decide) (fun c82 => ((show False from nI_ge hk (by omega) c82)).elim) (fun c82 => ?_)
      refine A_aload_n ok.b rfl dX7_run_85 gp0 ?_
      refine A_aload_n ok.b rfl dX7_run_86 gp0 ?_
      refine A_getf ok.b cf7 8 (by decide) fl_X7_17 gp0 (gps (gps (gps (gps (gps (gps (gps (gps gp0)))))))) dX7_run_87 ?_
      refine A_callVR ok [0, 11, 12, 13, 14, 1] [2, 3, 4, 5, 6, 7, 8, 9, 10] (As := [_]) (wr := ([(m 5, .inl (g.2.1 5, 8, .inr (.inr (.inr (.inr (fun j => some (h j))))))), rowC g h (reR s.ud X.d R) 0, rowC g h (reR s.ud X.d R) 1, rowC g h (reR s.ud X.d R) 2, rowC g h (reR s.ud X.d R) 3, rowC g h (reR s.ud X.d R) 4, rowC g h (reR s.ud X.d R) 5, rowC g h (reR s.ud X.d R) 6, rowC g h (reR s.ud X.d R) 7] : va_W)) mf_X7_tick ml_X7_271 in_X7_tick se_X7_tick cf7 gp0 (r_tick l g m (m 2) (reS (s.wth 0)) Y n nc hn hnc cs kc hY) rfl rfl rfl dX7_run_90 rfl rfl rfl (by decide) (Nat.le_of_ble_eq_true rfl) ⟨(Nat.le_of_ble_eq_true rfl), (Nat.le_of_ble_eq_true rfl)⟩ ⟨(Nat.le_of_ble_eq_true rfl), (Nat.le_of_ble_eq_true rfl)⟩ (fun _ _ hx => hx.elim) (fun v90 w90 q90 => ?_)
      obtain ⟨rfl, rfl⟩ := q90
      refine A_sub [9, 14, 0, 1, 2, 3, 4, 5, 6, 7, 8, 10, 11, 12, 13] (ws2 := (ruW g m h (reS (s.wth 0)) (tkF n nc cs kc Y) (reR s.ud X.d R))) rfl rfl ?_
      refine A_iinc ok.b (v := _ + 1) dX7_run_93 (gps (gps (gps gp0))) rfl (by decide) (sts (sts (sts1 rfl st0))) ?_
      refine A_goto ok.b (tgt := 80) dX7_run_96 (by decide) ?_
      rw [nI_1, ← hT0]
      exact ih
  refine A_aload_n ok.b rfl dX7_run_0 gp0 ?_
  refine A_iconst ok.b (v := 0) dX7_run_1 (by decide) ?_
  refine A_putf ok.b cf7 0 (by decide) rfl fl_X7_45 gp0 rfl rfl (gp_lt gp0) wp0 wp0 dX7_run_2 ?_
  refine A_aload_n ok.b rfl dX7_run_5 gp0 ?_
  refine A_iload_n ok.b rfl dX7_run_6 (gps gp0) ?_
  refine A_iconst ok.b (v := 1) dX7_run_7 (by decide) ?_
  refine A_bipush ok.b (v := 100) dX7_run_8 (by decide) ?_
  refine A_pureS ok.b (As := [_, _, _]) mf_X7_in ml_X7_67 rfl sc_X7_in (r_in l g _ _ _) rfl rfl dX7_run_10 (Nat.le_of_ble_eq_true rfl) ⟨(Nat.le_of_ble_eq_true rfl), (Nat.le_of_ble_eq_true rfl)⟩ ⟨(Nat.le_of_ble_eq_true rfl), (Nat.le_of_ble_eq_true rfl)⟩ ?_
  refine A_if_ne ok.b (tgt := 20) dX7_run_13 (by decide) (fun c13 => ?_) (fun c13 => ?_)
  · skip
    refine A_iconst ok.b (v := 0) dX7_run_20 (by decide) ?_
    refine A_iconst ok.b (v := 1) dX7_run_21 (by decide) ?_
    refine A_callVR ok [0] [1, 2, 3, 4, 5, 6, 7, 8, 9, 10, 11, 12, 13, 14] (As := [_, _]) (wr := ([(m 2, .inl (g.2.1 0, 1476, .inl ((X).d))), (m 5, .inl (g.2.1 5, 8, .inr (.inr (.inr (.inr (fun j => some (h j))))))), rowC g h (R) 0, rowC g h (R) 1, rowC g h (R) 2, rowC g h (R) 3, rowC g h (R) 4, rowC g h (R) 5, rowC g h (R) 6, rowC g h (R) 7, (m 7, .inl (g.2.1 0, 12, .inl (X).re)), (m 8, .inl (g.2.1 3, 20, .inl (X).st)), (m 9, .inl (g.2.1 3, 20, .inl (X).dr)), (m 6, .inl (g.2.1 1, 1300, .inr (.inl (X).sk)))] : va_W)) mf_X7_fails ml_X7_194 in_X7_fails se_X7_fails cf7 gp0 (r_fails l g m (s.wth 0) rfl false 1 (by decide)) rfl rfl rfl dX7_run_22 rfl rfl rfl (by decide) (Nat.le_of_ble_eq_true rfl) ⟨(Nat.le_of_ble_eq_true rfl), (Nat.le_of_ble_eq_true rfl)⟩ ⟨(Nat.le_of_ble_eq_true rfl), (Nat.le_of_ble_eq_true rfl)⟩ (fun _ _ hx => hx.elim) (fun v22 w22 q22 => ?_)
    obtain ⟨rfl, rfl⟩ := q22
    refine A_sub [14, 0, 1, 2, 3, 4, 5, 6, 7, 8, 9, 10, 11, 12, 13] (ws2 := (ruW g m h (thS false 1 (s.wth 0)) (X) (R))) rfl rfl ?_
    refine A_if_ne ok.b (tgt := 64) dX7_run_25 (by decide) (fun c25 => ((show False from c25 rfl)).elim) (fun c25 => ?_)
    have hin : inB x0 1 100 = true := bI_n c13
    rw [show thS false 1 (s.wth 0) = s.wth 0 from rfl]
    refine A_aload_n ok.b rfl dX7_run_28 gp0 ?_
    refine A_aload_n ok.b rfl dX7_run_29 gp0 ?_
    refine A_getf ok.b cf7 8 (by decide) fl_X7_17 gp0 (gps (gps (gps (gps (gps (gps (gps (gps gp0)))))))) dX7_run_30 ?_
    refine A_iconst ok.b (v := 0) dX7_run_33 (by decide) ?_
    refine A_iald ok.b (gps gp0) (ix_n (j := 0) (by decide) (by decide)) dX7_run_34 ?_
    refine A_if_eq ok.b (tgt := 52) dX7_run_35 (by decide) (fun c35 => ?_) (fun c35 => ?_)
    · skip
      refine A_iconst ok.b (v := 1) dX7_run_52 (by decide) ?_
      refine A_goto ok.b (tgt := 57) dX7_run_53 (by decide) ?_
      refine A_iconst ok.b (v := 2) dX7_run_57 (by decide) ?_
      refine A_callVR ok [0] [1, 2, 3, 4, 5, 6, 7, 8, 9, 10, 11, 12, 13, 14] (As := [_, _]) (wr := ([(m 2, .inl (g.2.1 0, 1476, .inl ((X).d))), (m 5, .inl (g.2.1 5, 8, .inr (.inr (.inr (.inr (fun j => some (h j))))))), rowC g h (R) 0, rowC g h (R) 1, rowC g h (R) 2, rowC g h (R) 3, rowC g h (R) 4, rowC g h (R) 5, rowC g h (R) 6, rowC g h (R) 7, (m 7, .inl (g.2.1 0, 12, .inl (X).re)), (m 8, .inl (g.2.1 3, 20, .inl (X).st)), (m 9, .inl (g.2.1 3, 20, .inl (X).dr)), (m 6, .inl (g.2.1 1, 1300, .inr (.inl (X).sk)))] : va_W)) mf_X7_fails ml_X7_194 in_X7_fails se_X7_fails cf7 gp0 (r_fails l g m (s.wth 0) rfl true 2 (by decide)) rfl rfl rfl dX7_run_58 rfl rfl rfl (by decide) (Nat.le_of_ble_eq_true rfl) ⟨(Nat.le_of_ble_eq_true rfl), (Nat.le_of_ble_eq_true rfl)⟩ ⟨(Nat.le_of_ble_eq_true rfl), (Nat.le_of_ble_eq_true rfl)⟩ (fun _ _ hx => hx.elim) (fun v58 w58 q58 => ?_)
      obtain ⟨rfl, rfl⟩ := q58
      refine A_sub [14, 0, 1, 2, 3, 4, 5, 6, 7, 8, 9, 10, 11, 12, 13] (ws2 := (ruW g m h (thS true 2 (s.wth 0)) (X) (R))) rfl rfl ?_
      refine A_if_eq ok.b (tgt := 66) dX7_run_61 (by decide) (fun c61 => ((show False from absurd c61 (by decide))).elim) (fun c61 => ?_)
      refine A_iconst ok.b (v := 0) dX7_run_64 (by decide) ?_
      refine A_iret ok dX7_run_65 (Nat.le_of_ble_eq_true rfl) (Nat.le_of_ble_eq_true rfl) ?_
      have hb : rnE X.d x0 = 2 := by rw [rnE, if_pos hin, if_pos c35]
      rw [hb]
      exact ⟨by rw [if_neg (by decide)], by rw [if_neg (by decide)]; rfl⟩
    · skip
      refine A_aload_n ok.b rfl dX7_run_38 gp0 ?_
      refine A_getf ok.b cf7 8 (by decide) fl_X7_17 gp0 (gps (gps (gps (gps (gps (gps (gps (gps gp0)))))))) dX7_run_39 ?_
      refine A_iconst ok.b (v := 3) dX7_run_42 (by decide) ?_
      refine A_iald ok.b (gps gp0) (ix_n (j := 3) (by decide) (by decide)) dX7_run_43 ?_
      refine A_iload_n ok.b rfl dX7_run_44 (gps gp0) ?_
      refine A_iadd ok.b dX7_run_45 ?_
      refine A_sipush ok.b (v := 10000) dX7_run_46 (by decide) ?_
      refine A_icmp_le ok.b (tgt := 56) dX7_run_49 (by decide) (fun c49 => ?_) (fun c49 => ?_)
      · skip
        refine A_iconst ok.b (v := 0) dX7_run_56 (by decide) ?_
        refine A_iconst ok.b (v := 2) dX7_run_57 (by decide) ?_
        refine A_callVR ok [0] [1, 2, 3, 4, 5, 6, 7, 8, 9, 10, 11, 12, 13, 14] (As := [_, _]) (wr := ([(m 2, .inl (g.2.1 0, 1476, .inl ((X).d))), (m 5, .inl (g.2.1 5, 8, .inr (.inr (.inr (.inr (fun j => some (h j))))))), rowC g h (R) 0, rowC g h (R) 1, rowC g h (R) 2, rowC g h (R) 3, rowC g h (R) 4, rowC g h (R) 5, rowC g h (R) 6, rowC g h (R) 7, (m 7, .inl (g.2.1 0, 12, .inl (X).re)), (m 8, .inl (g.2.1 3, 20, .inl (X).st)), (m 9, .inl (g.2.1 3, 20, .inl (X).dr)), (m 6, .inl (g.2.1 1, 1300, .inr (.inl (X).sk)))] : va_W)) mf_X7_fails ml_X7_194 in_X7_fails se_X7_fails cf7 gp0 (r_fails l g m (s.wth 0) rfl false 2 (by decide)) rfl rfl rfl dX7_run_58 rfl rfl rfl (by decide) (Nat.le_of_ble_eq_true rfl) ⟨(Nat.le_of_ble_eq_true rfl), (Nat.le_of_ble_eq_true rfl)⟩ ⟨(Nat.le_of_ble_eq_true rfl), (Nat.le_of_ble_eq_true rfl)⟩ (fun _ _ hx => hx.elim) (fun v58 w58 q58 => ?_)
        obtain ⟨rfl, rfl⟩ := q58
        refine A_sub [14, 0, 1, 2, 3, 4, 5, 6, 7, 8, 9, 10, 11, 12, 13] (ws2 := (ruW g m h (thS false 2 (s.wth 0)) (X) (R))) rfl rfl ?_
        refine A_if_eq ok.b (tgt := 66) dX7_run_61 (by decide) (fun c61 => ?_) (fun c61 => ((show False from c61 rfl)).elim)
        have hb : rnE X.d x0 = 0 := by rw [rnE, if_pos hin, if_neg c35, if_neg (Int32.not_lt.mpr c49)]
        obtain ⟨T, hTl, hT0⟩ := in_1 hin
        rw [show thS false 2 (s.wth 0) = s.wth 0 from rfl]
        refine A_aload_n ok.b rfl dX7_run_66 gp0 ?_
        refine A_callVR ok [0, 1, 2, 3, 4, 5, 6, 7, 8, 9, 10] [11, 12, 13, 14] (As := []) (wr := ([(m 7, .inl (g.2.1 0, 12, .inl (X).re)), (m 8, .inl (g.2.1 3, 20, .inl (X).st)), (m 9, .inl (g.2.1 3, 20, .inl (X).dr)), (m 6, .inl (g.2.1 1, 1300, .inr (.inl (X).sk)))] : va_W)) mf_X7_remember ml_X7_203 in_X7_remember se_X7_remember cf7 gp0 (r_remember l g m h (s.wth 0) X.d R hu) rfl rfl rfl dX7_run_67 rfl rfl rfl (by decide) (Nat.le_of_ble_eq_true rfl) ⟨(Nat.le_of_ble_eq_true rfl), (Nat.le_of_ble_eq_true rfl)⟩ ⟨(Nat.le_of_ble_eq_true rfl), (Nat.le_of_ble_eq_true rfl)⟩ (fun _ _ hx => hx.elim) (fun v67 w67 q67 => ?_)
        obtain ⟨rfl, rfl⟩ := q67
        refine A_sub [4, 5, 6, 7, 8, 9, 10, 11, 12, 13, 14, 0, 1, 2, 3] (ws2 := (ruW g m h (reS (s.wth 0)) (X) (reR s.ud X.d R))) rfl rfl ?_
        refine A_aload_n ok.b rfl dX7_run_70 gp0 ?_
        refine A_getf ok.b cf7 8 (by decide) fl_X7_17 gp0 (gps (gps (gps (gps (gps (gps (gps (gps gp0)))))))) dX7_run_71 ?_
        refine A_callSR ok [1] [0, 2, 3, 4, 5, 6, 7, 8, 9, 10, 11, 12, 13, 14] (As := [_]) (wr := ([moC m (reS (s.wth 0)), (m 5, .inl (g.2.1 5, 8, .inr (.inr (.inr (.inr (fun j => some (h j))))))), rowC g h (reR s.ud X.d R) 0, rowC g h (reR s.ud X.d R) 1, rowC g h (reR s.ud X.d R) 2, rowC g h (reR s.ud X.d R) 3, rowC g h (reR s.ud X.d R) 4, rowC g h (reR s.ud X.d R) 5, rowC g h (reR s.ud X.d R) 6, rowC g h (reR s.ud X.d R) 7, (m 7, .inl (g.2.1 0, 12, .inl (X).re)), (m 8, .inl (g.2.1 3, 20, .inl (X).st)), (m 9, .inl (g.2.1 3, 20, .inl (X).dr)), (m 6, .inl (g.2.1 1, 1300, .inr (.inl (X).sk)))] : va_W)) mf_X7_insideOf ml_X7_218 rfl sc_X7_insideOf  (r_insideOf l g (m 2) X.d nc hnc hT.2.1) rfl rfl rfl dX7_run_74 rfl rfl rfl (by decide) (Nat.le_of_ble_eq_true rfl) ⟨(Nat.le_of_ble_eq_true rfl), (Nat.le_of_ble_eq_true rfl)⟩ ⟨(Nat.le_of_ble_eq_true rfl), (Nat.le_of_ble_eq_true rfl)⟩ (fun _ _ hx => hx.elim) (fun v74 w74 q74 => ?_)
        obtain ⟨rfl, rfl⟩ := q74
        refine A_sub [0, 14, 1, 2, 3, 4, 5, 6, 7, 8, 9, 10, 11, 12, 13] (ws2 := (ruW g m h (reS (s.wth 0)) (X) (reR s.ud X.d R))) rfl rfl ?_
        refine A_istore_n ok.b rfl dX7_run_77 (by decide) (sts (sts1 rfl st0)) ?_
        refine A_iconst ok.b (v := 0) dX7_run_78 (by decide) ?_
        refine A_istore_n ok.b rfl dX7_run_79 (by decide) (sts (sts (sts1 rfl st0))) ?_
        exact LK hb T hT0 hTl 0 (Nat.zero_le _)
      · skip
        refine A_iconst ok.b (v := 1) dX7_run_52 (by decide) ?_
        refine A_goto ok.b (tgt := 57) dX7_run_53 (by decide) ?_
        refine A_iconst ok.b (v := 2) dX7_run_57 (by decide) ?_
        refine A_callVR ok [0] [1, 2, 3, 4, 5, 6, 7, 8, 9, 10, 11, 12, 13, 14] (As := [_, _]) (wr := ([(m 2, .inl (g.2.1 0, 1476, .inl ((X).d))), (m 5, .inl (g.2.1 5, 8, .inr (.inr (.inr (.inr (fun j => some (h j))))))), rowC g h (R) 0, rowC g h (R) 1, rowC g h (R) 2, rowC g h (R) 3, rowC g h (R) 4, rowC g h (R) 5, rowC g h (R) 6, rowC g h (R) 7, (m 7, .inl (g.2.1 0, 12, .inl (X).re)), (m 8, .inl (g.2.1 3, 20, .inl (X).st)), (m 9, .inl (g.2.1 3, 20, .inl (X).dr)), (m 6, .inl (g.2.1 1, 1300, .inr (.inl (X).sk)))] : va_W)) mf_X7_fails ml_X7_194 in_X7_fails se_X7_fails cf7 gp0 (r_fails l g m (s.wth 0) rfl true 2 (by decide)) rfl rfl rfl dX7_run_58 rfl rfl rfl (by decide) (Nat.le_of_ble_eq_true rfl) ⟨(Nat.le_of_ble_eq_true rfl), (Nat.le_of_ble_eq_true rfl)⟩ ⟨(Nat.le_of_ble_eq_true rfl), (Nat.le_of_ble_eq_true rfl)⟩ (fun _ _ hx => hx.elim) (fun v58 w58 q58 => ?_)
        obtain ⟨rfl, rfl⟩ := q58
        refine A_sub [14, 0, 1, 2, 3, 4, 5, 6, 7, 8, 9, 10, 11, 12, 13] (ws2 := (ruW g m h (thS true 2 (s.wth 0)) (X) (R))) rfl rfl ?_
        refine A_if_eq ok.b (tgt := 66) dX7_run_61 (by decide) (fun c61 => ((show False from absurd c61 (by decide))).elim) (fun c61 => ?_)
        refine A_iconst ok.b (v := 0) dX7_run_64 (by decide) ?_
        refine A_iret ok dX7_run_65 (Nat.le_of_ble_eq_true rfl) (Nat.le_of_ble_eq_true rfl) ?_
        have hb : rnE X.d x0 = 2 := by rw [rnE, if_pos hin, if_neg c35, if_pos (Int32.not_le.mp c49)]
        rw [hb]
        exact ⟨by rw [if_neg (by decide)], by rw [if_neg (by decide)]; rfl⟩
  · skip
    refine A_iconst ok.b (v := 1) dX7_run_16 (by decide) ?_
    refine A_goto ok.b (tgt := 21) dX7_run_17 (by decide) ?_
    refine A_iconst ok.b (v := 1) dX7_run_21 (by decide) ?_
    refine A_callVR ok [0] [1, 2, 3, 4, 5, 6, 7, 8, 9, 10, 11, 12, 13, 14] (As := [_, _]) (wr := ([(m 2, .inl (g.2.1 0, 1476, .inl ((X).d))), (m 5, .inl (g.2.1 5, 8, .inr (.inr (.inr (.inr (fun j => some (h j))))))), rowC g h (R) 0, rowC g h (R) 1, rowC g h (R) 2, rowC g h (R) 3, rowC g h (R) 4, rowC g h (R) 5, rowC g h (R) 6, rowC g h (R) 7, (m 7, .inl (g.2.1 0, 12, .inl (X).re)), (m 8, .inl (g.2.1 3, 20, .inl (X).st)), (m 9, .inl (g.2.1 3, 20, .inl (X).dr)), (m 6, .inl (g.2.1 1, 1300, .inr (.inl (X).sk)))] : va_W)) mf_X7_fails ml_X7_194 in_X7_fails se_X7_fails cf7 gp0 (r_fails l g m (s.wth 0) rfl true 1 (by decide)) rfl rfl rfl dX7_run_22 rfl rfl rfl (by decide) (Nat.le_of_ble_eq_true rfl) ⟨(Nat.le_of_ble_eq_true rfl), (Nat.le_of_ble_eq_true rfl)⟩ ⟨(Nat.le_of_ble_eq_true rfl), (Nat.le_of_ble_eq_true rfl)⟩ (fun _ _ hx => hx.elim) (fun v22 w22 q22 => ?_)
    obtain ⟨rfl, rfl⟩ := q22
    refine A_sub [14, 0, 1, 2, 3, 4, 5, 6, 7, 8, 9, 10, 11, 12, 13] (ws2 := (ruW g m h (thS true 1 (s.wth 0)) (X) (R))) rfl rfl ?_
    refine A_if_ne ok.b (tgt := 64) dX7_run_25 (by decide) (fun c25 => ?_) (fun c25 => ((show False from absurd c25 (by decide))).elim)
    refine A_iconst ok.b (v := 0) dX7_run_64 (by decide) ?_
    refine A_iret ok dX7_run_65 (Nat.le_of_ble_eq_true rfl) (Nat.le_of_ble_eq_true rfl) ?_
    have hb : rnE X.d x0 = 1 := by rw [rnE, if_neg (by rw [show inB x0 1 100 = false from bI_ff c13]; decide)]
    rw [hb]
    exact ⟨by rw [if_neg (by decide)], by rw [if_neg (by decide)]; rfl⟩
