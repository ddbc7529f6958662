set_option maxRecDepth 20000 in
set_option maxHeartbeats 2000000 in
theorem r_term (l : Launch) (g : Gl) (m : Nat → Nat) (B : Nat → Int32) (d0 : Int32) (f : LQ → LQ) (hf : GK f) (fr lo : Nat) (hfr : 3 ≤ fr) (hlo : 160 ≤ lo) (hct : ∀ X : LQ, MJ X.1 → EI 2 X → X.1.ne = d0 → Ct l g yX7_factor cX7_factor 4 none fr lo 0 0 [.ref (m 0)] (lcW g m (X).1 B (X).2) (fun v w => v = none ∧ w = (lcW g m (f X).1 B (f X).2)) noX) (X : LQ) (hJ : MJ X.1) (hI : EI 1 X) (hne0 : X.1.ne = d0) : Ct l g yX7_term cX7_term 2 none (fr + 1) (lo + 40) 0 0 [.ref (m 0)] (lcW g m (X).1 B (X).2) (fun v w => v = none ∧ w = (lcW g m (termL B f X).1 B (termL B f X).2)) noX := by
  refine Ct.intro [some (.ref (m 0)), none] (by decide +kernel) (fun _ h => h) (Nat.le_of_ble_eq_true rfl) (fun A H0 K ok => ?_)
  have L : ∀ (mm : Nat) (Y : LQ), MJ Y.1 → EI 2 Y → Y.1.ne = d0 → Y.1.tl + 1 ≤ Y.1.po + mm → termL B f X = loL B 42 47 4 5 f mm Y → AW g A H0 2 K 4 [some (.ref (m 0)), none] [] (lcW g m Y.1 B Y.2) 0 0 := by
    intro mm
    induction mm with
    | zero =>
      intro Y hj hi hne hmm e
      have := hj.1
      omega
    | succ mm ih =>
      intro Y hj hi hne hmm e
      refine A_aload_n ok.b rfl dX7_term_4 gp0 ?_
      refine A_callVR ok [0, 1] [2] (As := []) (wr := ([(m 3, .inl (g.2.1 0, 1476, .inl (Y.2)))] : va_W)) mf_X7_isGood ml_X7_71 in_X7_isGood se_X7_isGood cf7 gp0 (r_isGood l g m Y.1 B hj.mi.1) rfl rfl rfl dX7_term_5 rfl rfl rfl (by decide) (Nat.le_of_ble_eq_true rfl) ⟨by show _ ≤ fr + 1; omega, by show _ ≤ lo + 40; omega⟩ ⟨(Nat.le_of_ble_eq_true rfl), (Nat.le_of_ble_eq_true rfl)⟩ (fun _ _ hx => hx.elim) (fun v5 w5 q5 => ?_)
      obtain ⟨rfl, rfl⟩ := q5
      refine A_sub [1, 2, 0] (ws2 := (lcW g m (Y.1) B (Y.2))) rfl rfl ?_
      refine A_if_eq ok.b (tgt := 74) dX7_term_8 (by decide) (fun c8 => ?_) (fun c8 => ?_)
      · skip
        refine A_vret ok dX7_term_74 (Nat.le_of_ble_eq_true rfl) (Nat.le_of_ble_eq_true rfl) ?_
        have h9 : ¬ (Y.1).er = 0 := fun h => by rw [if_pos h] at c8; exact absurd c8 (by decide)
        rw [loL_s, if_neg h9] at e
        exact ⟨rfl, by rw [e]⟩
      · skip
        have h9 : (Y.1).er = 0 := by
          by_cases h : (Y.1).er = 0
          · exact h
          · rw [if_neg h] at c8; exact absurd rfl c8
        rw [loL_s, if_pos h9] at e
        refine A_aload_n ok.b rfl dX7_term_11 gp0 ?_
        refine A_callVR ok [0, 1] [2] (As := []) (wr := ([(m 3, .inl (g.2.1 0, 1476, .inl (Y.2)))] : va_W)) mf_X7_next ml_X7_75 in_X7_next se_X7_next cf7 gp0 (r_next l g m Y.1 B hj.mi.1 hj.mi.2) rfl rfl rfl dX7_term_12 rfl rfl rfl (by decide) (Nat.le_of_ble_eq_true rfl) ⟨by show _ ≤ fr + 1; omega, by show _ ≤ lo + 40; omega⟩ ⟨(Nat.le_of_ble_eq_true rfl), (Nat.le_of_ble_eq_true rfl)⟩ (fun _ _ hx => hx.elim) (fun v12 w12 q12 => ?_)
        obtain ⟨rfl, rfl⟩ := q12
        have hSJ : MJ (nxR B Y.1) := (Kp_nx hj).mj hj
        have hSS : nxR B (nxR B Y.1) = nxR B Y.1 := nx_nx
        have hst := fun (x : Int32) (hx : ¬ btL B (nxL B Y) = -1) => lo_step hf hj (x := x) hx
        have hSn : (nxR B Y.1).ne = d0 := hne
        have hSE : EI 2 (nxR B Y.1, Y.2) := hi.mv (Kp_nx hj)
        have eb : byR B Y.1.tl (scanE fSp B Y.1.tl Y.1.po) = btL B (nxR B Y.1, Y.2) := rfl
        have eSt : (nxR B Y.1).tl = Y.1.tl := rfl
        rw [show nxL B Y = (nxR B Y.1, Y.2) from rfl] at e hst
        rw [eb]
        generalize nxR B Y.1 = S at hSJ hSS hst hSn hSE e eSt ⊢
        have e2 : scanE fSp B S.tl S.po = S.po := congrArg (fun t : MS => t.po) hSS
        refine A_sub [1, 2, 0] (ws2 := (lcW g m (S) B (Y.2))) rfl rfl ?_
        refine A_bipush ok.b (v := 42) dX7_term_15 (by decide) ?_
        refine A_icmp_eq ok.b (tgt := 29) dX7_term_17 (by decide) (fun c17 => ?_) (fun c17 => ?_)
        · skip
          have hx : ¬ btL B (S, Y.2) = -1 := fun h => absurd (c17.symm.trans h) (by decide)
          have hst2 := hst 4 hx
          rw [if_pos (Or.inl c17), if_pos c17] at e
          have hPJ : MJ (S.wpo (S.po + 1)) := ⟨by
            show S.po + 1 ≤ S.tl
            rcases Nat.lt_or_ge S.po S.tl with h | h
            · exact h
            · exact absurd (show btL B (S, Y.2) = -1 from byR_f (Nat.not_lt.mpr h)) hx, hSJ.2⟩
          have hPE : EI (2 - 3) (S.wpo (S.po + 1), Y.2) := hSE.mv1 ⟨rfl, Nat.le_succ _, hPJ.1, rfl, id, rfl⟩ (fun _ => Nat.lt_succ_self _)
          refine A_aload_n ok.b rfl dX7_term_29 gp0 ?_
          refine A_callVR ok [0, 1] [2] (As := []) (wr := ([(m 3, .inl (g.2.1 0, 1476, .inl (Y.2)))] : va_W)) mf_X7_next ml_X7_75 in_X7_next se_X7_next cf7 gp0 (r_next l g m S B hSJ.mi.1 hSJ.mi.2) rfl rfl rfl dX7_term_30 rfl rfl rfl (by decide) (Nat.le_of_ble_eq_true rfl) ⟨by show _ ≤ fr + 1; omega, by show _ ≤ lo + 40; omega⟩ ⟨(Nat.le_of_ble_eq_true rfl), (Nat.le_of_ble_eq_true rfl)⟩ (fun _ _ hx => hx.elim) (fun v30 w30 q30 => ?_)
          obtain ⟨rfl, rfl⟩ := q30
          rw [hSS, e2, show byR B S.tl S.po = btL B (S, Y.2) from rfl]
          refine A_sub [1, 2, 0] (ws2 := (lcW g m (S) B (Y.2))) rfl rfl ?_
          refine A_bipush ok.b (v := 42) dX7_term_33 (by decide) ?_
          refine A_icmp_ne ok.b (tgt := 42) dX7_term_35 (by decide) (fun c35 => ((show False from c35 c17)).elim) (fun c35 => ?_)
          refine A_iconst ok.b (v := 1) dX7_term_38 (by decide) ?_
          refine A_goto ok.b (tgt := 43) dX7_term_39 (by decide) ?_
          refine A_istore_n ok.b rfl dX7_term_43 (by decide) (sts1 rfl st0) ?_
          refine A_aload_n ok.b rfl dX7_term_44 gp0 ?_
          refine A_dup ok.b dX7_term_45 rfl ?_
          refine A_getf ok.b cf7 4 (by decide) fl_X7_54 gp0 (gps (gps (gps (gps gp0)))) dX7_term_46 ?_
          refine A_iconst ok.b (v := 1) dX7_term_49 (by decide) ?_
          refine A_iadd ok.b dX7_term_50 ?_
          rw [nI_1]
          refine A_putf ok.b cf7 4 (by decide) rfl fl_X7_54 gp0 rfl rfl (gp_lt (gps (gps (gps (gps gp0))))) (wps (wps (wps (wps wp0)))) wp0 dX7_term_51 ?_
          refine A_aload_n ok.b rfl dX7_term_54 gp0 ?_
          refine A_sameVR ok (As := []) mf_X7_factor ml_X7_134 in_X7_factor se_X7_factor cf7 gp0 (hct (S.wpo (S.po + 1), Y.2) hPJ (hPE.w (by decide)) hSn) rfl rfl dX7_term_55 (Nat.le_of_ble_eq_true rfl) ⟨by show _ ≤ fr + 1; omega, by show _ ≤ lo + 40; omega⟩ ⟨(Nat.le_of_ble_eq_true rfl), (Nat.le_of_ble_eq_true rfl)⟩ (fun _ _ hx => hx.elim) (fun v55 w55 q55 => ?_)
          obtain ⟨rfl, rfl⟩ := q55
          have hGJ : MJ (f (S.wpo (S.po + 1), Y.2)).1 := (hf _ hPJ).1.mj hPJ
          have hGE : EI 2 (f (S.wpo (S.po + 1), Y.2)) := ((hf _ hPJ).2 _ hPE).w (by decide)
          generalize f (S.wpo (S.po + 1), Y.2) = G at hGJ hGE hst2 e ⊢
          refine A_aload_n ok.b rfl dX7_term_58 gp0 ?_
          refine A_iload_n ok.b rfl dX7_term_59 (gps gp0) ?_
          refine A_if_eq ok.b (tgt := 67) dX7_term_60 (by decide) (fun c60 => ((show False from absurd c60 (by decide))).elim) (fun c60 => ?_)
          refine A_iconst ok.b (v := 4) dX7_term_63 (by decide) ?_
          refine A_goto ok.b (tgt := 68) dX7_term_64 (by decide) ?_
          refine A_sameVR ok (As := [_]) mf_X7_emit ml_X7_131 in_X7_emit se_X7_emit cf7 gp0 (r_emit l g m G.1 B G.2 hGJ.mi (hGE.room hGJ) _) rfl rfl dX7_term_68 (Nat.le_of_ble_eq_true rfl) ⟨by show _ ≤ fr + 1; omega, by show _ ≤ lo + 40; omega⟩ ⟨(Nat.le_of_ble_eq_true rfl), (Nat.le_of_ble_eq_true rfl)⟩ (fun _ _ hx => hx.elim) (fun v68 w68 q68 => ?_)
          obtain ⟨rfl, rfl⟩ := q68
          refine A_goto ok.b (tgt := 4) dX7_term_71 (by decide) ?_
          have hk := hst2.1
          have hlt := hst2.2.1
          refine A_lv (lleK (lleD lle0)) ?_
          exact ih _ (hk.mj hj) (hst2.2.2 _ hi) (hk.2.2.2.1.trans hne) (by rw [hk.1]; show Y.1.tl + 1 ≤ (emR 4 G).1.po + mm; omega) e
        · skip
          refine A_aload_n ok.b rfl dX7_term_20 gp0 ?_
          refine A_callVR ok [0, 1] [2] (As := []) (wr := ([(m 3, .inl (g.2.1 0, 1476, .inl (Y.2)))] : va_W)) mf_X7_next ml_X7_75 in_X7_next se_X7_next cf7 gp0 (r_next l g m S B hSJ.mi.1 hSJ.mi.2) rfl rfl rfl dX7_term_21 rfl rfl rfl (by decide) (Nat.le_of_ble_eq_true rfl) ⟨by show _ ≤ fr + 1; omega, by show _ ≤ lo + 40; omega⟩ ⟨(Nat.le_of_ble_eq_true rfl), (Nat.le_of_ble_eq_true rfl)⟩ (fun _ _ hx => hx.elim) (fun v21 w21 q21 => ?_)
          obtain ⟨rfl, rfl⟩ := q21
          rw [hSS, e2, show byR B S.tl S.po = btL B (S, Y.2) from rfl]
          refine A_sub [1, 2, 0] (ws2 := (lcW g m (S) B (Y.2))) rfl rfl ?_
          refine A_bipush ok.b (v := 47) dX7_term_24 (by decide) ?_
          refine A_icmp_ne ok.b (tgt := 74) dX7_term_26 (by decide) (fun c26 => ?_) (fun c26 => ?_)
          · skip
            refine A_vret ok dX7_term_74 (Nat.le_of_ble_eq_true rfl) (Nat.le_of_ble_eq_true rfl) ?_
            rw [if_neg (not_or.mpr ⟨c17, c26⟩)] at e
            exact ⟨rfl, by rw [e]⟩
          · skip
            have hx : ¬ btL B (S, Y.2) = -1 := fun h => absurd (c26.symm.trans h) (by decide)
            have hst2 := hst 5 hx
            rw [if_pos (Or.inr c26), if_neg c17] at e
            have hPJ : MJ (S.wpo (S.po + 1)) := ⟨by
              show S.po + 1 ≤ S.tl
              rcases Nat.lt_or_ge S.po S.tl with h | h
              · exact h
              · exact absurd (show btL B (S, Y.2) = -1 from byR_f (Nat.not_lt.mpr h)) hx, hSJ.2⟩
            have hPE : EI (2 - 3) (S.wpo (S.po + 1), Y.2) := hSE.mv1 ⟨rfl, Nat.le_succ _, hPJ.1, rfl, id, rfl⟩ (fun _ => Nat.lt_succ_self _)
            refine A_aload_n ok.b rfl dX7_term_29 gp0 ?_
            refine A_callVR ok [0, 1] [2] (As := []) (wr := ([(m 3, .inl (g.2.1 0, 1476, .inl (Y.2)))] : va_W)) mf_X7_next ml_X7_75 in_X7_next se_X7_next cf7 gp0 (r_next l g m S B hSJ.mi.1 hSJ.mi.2) rfl rfl rfl dX7_term_30 rfl rfl rfl (by decide) (Nat.le_of_ble_eq_true rfl) ⟨by show _ ≤ fr + 1; omega, by show _ ≤ lo + 40; omega⟩ ⟨(Nat.le_of_ble_eq_true rfl), (Nat.le_of_ble_eq_true rfl)⟩ (fun _ _ hx => hx.elim) (fun v30 w30 q30 => ?_)
            obtain ⟨rfl, rfl⟩ := q30
            rw [hSS, e2, show byR B S.tl S.po = btL B (S, Y.2) from rfl]
            refine A_sub [1, 2, 0] (ws2 := (lcW g m (S) B (Y.2))) rfl rfl ?_
            refine A_bipush ok.b (v := 42) dX7_term_33 (by decide) ?_
            refine A_icmp_ne ok.b (tgt := 42) dX7_term_35 (by decide) (fun c35 => ?_) (fun c35 => ((show False from c17 c35)).elim)
            refine A_iconst ok.b (v := 0) dX7_term_42 (by decide) ?_
            refine A_istore_n ok.b rfl dX7_term_43 (by decide) (sts1 rfl st0) ?_
            refine A_aload_n ok.b rfl dX7_term_44 gp0 ?_
            refine A_dup ok.b dX7_term_45 rfl ?_
            refine A_getf ok.b cf7 4 (by decide) fl_X7_54 gp0 (gps (gps (gps (gps gp0)))) dX7_term_46 ?_
            refine A_iconst ok.b (v := 1) dX7_term_49 (by decide) ?_
            refine A_iadd ok.b dX7_term_50 ?_
            rw [nI_1]
            refine A_putf ok.b cf7 4 (by decide) rfl fl_X7_54 gp0 rfl rfl (gp_lt (gps (gps (gps (gps gp0))))) (wps (wps (wps (wps wp0)))) wp0 dX7_term_51 ?_
            refine A_aload_n ok.b rfl dX7_term_54 gp0 ?_
            refine A_sameVR ok (As := []) mf_X7_factor ml_X7_134 in_X7_factor se_X7_factor cf7 gp0 (hct (S.wpo (S.po + 1), Y.2) hPJ (hPE.w (by decide)) hSn) rfl rfl dX7_term_55 (Nat.le_of_ble_eq_true rfl) ⟨by show _ ≤ fr + 1; omega, by show _ ≤ lo + 40; omega⟩ ⟨(Nat.le_of_ble_eq_true rfl), (Nat.le_of_ble_eq_true rfl)⟩ (fun _ _ hx => hx.elim) (fun v55 w55 q55 => ?_)
            obtain ⟨rfl, rfl⟩ := q55
            have hGJ : MJ (f (S.wpo (S.po + 1), Y.2)).1 := (hf _ hPJ).1.mj hPJ
            have hGE : EI 2 (f (S.wpo (S.po + 1), Y.2)) := ((hf _ hPJ).2 _ hPE).w (by decide)
            generalize f (S.wpo (S.po + 1), Y.2) = G at hGJ hGE hst2 e ⊢
            refine A_aload_n ok.b rfl dX7_term_58 gp0 ?_
            refine A_iload_n ok.b rfl dX7_term_59 (gps gp0) ?_
            refine A_if_eq ok.b (tgt := 67) dX7_term_60 (by decide) (fun c60 => ?_) (fun c60 => ((show False from c60 rfl)).elim)
            refine A_iconst ok.b (v := 5) dX7_term_67 (by decide) ?_
            refine A_sameVR ok (As := [_]) mf_X7_emit ml_X7_131 in_X7_emit se_X7_emit cf7 gp0 (r_emit l g m G.1 B G.2 hGJ.mi (hGE.room hGJ) _) rfl rfl dX7_term_68 (Nat.le_of_ble_eq_true rfl) ⟨by show _ ≤ fr + 1; omega, by show _ ≤ lo + 40; omega⟩ ⟨(Nat.le_of_ble_eq_true rfl), (Nat.le_of_ble_eq_true rfl)⟩ (fun _ _ hx => hx.elim) (fun v68 w68 q68 => ?_)
            obtain ⟨rfl, rfl⟩ := q68
            refine A_goto ok.b (tgt := 4) dX7_term_71 (by decide) ?_
            have hk := hst2.1
            have hlt := hst2.2.1
            refine A_lv (lleK (lleD lle0)) ?_
            exact ih _ (hk.mj hj) (hst2.2.2 _ hi) (hk.2.2.2.1.trans hne) (by rw [hk.1]; show Y.1.tl + 1 ≤ (emR 5 G).1.po + mm; omega) e
  refine A_aload_n ok.b rfl dX7_term_0 gp0 ?_
  refine A_sameVR ok (As := []) mf_X7_factor ml_X7_134 in_X7_factor se_X7_factor cf7 gp0 (hct X hJ (hI.w (by decide)) hne0) rfl rfl dX7_term_1 (Nat.le_of_ble_eq_true rfl) ⟨by show _ ≤ fr + 1; omega, by show _ ≤ lo + 40; omega⟩ ⟨(Nat.le_of_ble_eq_true rfl), (Nat.le_of_ble_eq_true rfl)⟩ (fun _ _ hx => hx.elim) (fun v1 w1 q1 => ?_)
  obtain ⟨rfl, rfl⟩ := q1
  exact L 801 (f X) ((hf X hJ).1.mj hJ) (((hf X hJ).2 _ hI).w (by decide)) ((hf X hJ).1.2.2.2.1.trans hne0) (by have h1 := ((hf X hJ).1.mj hJ).2; omega) rfl
set_option maxRecDepth 20000 in
set_option maxHeartbeats 2000000 in
theorem r_sum (l : Launch) (g : Gl) (m : Nat → Nat) (B : Nat → Int32) (d0 : Int32) (f : LQ → LQ) (hf : GK f) (fr lo : Nat) (hfr : 3 ≤ fr) (hlo : 160 ≤ lo) (hct : ∀ X : LQ, MJ X.1 → EI 1 X → X.1.ne = d0 → Ct l g yX7_term cX7_term 2 none fr lo 0 0 [.ref (m 0)] (lcW g m (X).1 B (X).2) (fun v w => v = none ∧ w = (lcW g m (f X).1 B (f X).2)) noX) (X : LQ) (hJ : MJ X.1) (hI : EI 0 X) (hne0 : X.1.ne = d0) : Ct l g yX7_sum cX7_sum 2 none (fr + 1) (lo + 40) 0 0 [.ref (m 0)] (lcW g m (X).1 B (X).2) (fun v w => v = none ∧ w = (lcW g m (sum1L B f X).1 B (sum1L B f X).2)) noX := by
  refine Ct.intro [some (.ref (m 0)), none] (by decide +kernel) (fun _ h => h) (Nat.le_of_ble_eq_true rfl) (fun A H0 K ok => ?_)
  have L : ∀ (mm : Nat) (Y : LQ), MJ Y.1 → EI 1 Y → Y.1.ne = d0 → Y.1.tl + 1 ≤ Y.1.po + mm → sum1L B f X = loL B 43 45 2 3 f mm Y → AW g A H0 2 K 4 [some (.ref (m 0)), none] [] (lcW g m Y.1 B Y.2) 0 0 := by
    intro mm
    induction mm with
    | zero =>
      intro Y hj hi hne hmm e
      have := hj.1
      omega
    | succ mm ih =>
      intro Y hj hi hne hmm e
      refine A_aload_n ok.b rfl dX7_sum_4 gp0 ?_
      refine A_callVR ok [0, 1] [2] (As := []) (wr := ([(m 3, .inl (g.2.1 0, 1476, .inl (Y.2)))] : va_W)) mf_X7_isGood ml_X7_71 in_X7_isGood se_X7_isGood cf7 gp0 (r_isGood l g m Y.1 B hj.mi.1) rfl rfl rfl dX7_sum_5 rfl rfl rfl (by decide) (Nat.le_of_ble_eq_true rfl) ⟨by show _ ≤ fr + 1; omega, by show _ ≤ lo + 40; omega⟩ ⟨(Nat.le_of_ble_eq_true rfl), (Nat.le_of_ble_eq_true rfl)⟩ (fun _ _ hx => hx.elim) (fun v5 w5 q5 => ?_)
      obtain ⟨rfl, rfl⟩ := q5
      refine A_sub [1, 2, 0] (ws2 := (lcW g m (Y.1) B (Y.2))) rfl rfl ?_
      refine A_if_eq ok.b (tgt := 74) dX7_sum_8 (by decide) (fun c8 => ?_) (fun c8 => ?_)
      · skip
        refine A_vret ok dX7_sum_74 (Nat.le_of_ble_eq_true rfl) (Nat.le_of_ble_eq_true rfl) ?_
        have h9 : ¬ (Y.1).er = 0 := fun h => by rw [if_pos h] at c8; exact absurd c8 (by decide)
        rw [loL_s, if_neg h9] at e
        exact ⟨rfl, by rw [e]⟩
      · skip
        have h9 : (Y.1).er = 0 := by
          by_cases h : (Y.1).er = 0
          · exact h
          · rw [if_neg h] at c8; exact absurd rfl c8
        rw [loL_s, if_pos h9] at e
        refine A_aload_n ok.b rfl dX7_sum_11 gp0 ?_
        refine A_callVR ok [0, 1] [2] (As := []) (wr := ([(m 3, .inl (g.2.1 0, 1476, .inl (Y.2)))] : va_W)) mf_X7_next ml_X7_75 in_X7_next se_X7_next cf7 gp0 (r_next l g m Y.1 B hj.mi.1 hj.mi.2) rfl rfl rfl dX7_sum_12 rfl rfl rfl (by decide) (Nat.le_of_ble_eq_true rfl) ⟨by show _ ≤ fr + 1; omega, by show _ ≤ lo + 40; omega⟩ ⟨(Nat.le_of_ble_eq_true rfl), (Nat.le_of_ble_eq_true rfl)⟩ (fun _ _ hx => hx.elim) (fun v12 w12 q12 => ?_)
        obtain ⟨rfl, rfl⟩ := q12
        have hSJ : MJ (nxR B Y.1) := (Kp_nx hj).mj hj
        have hSS : nxR B (nxR B Y.1) = nxR B Y.1 := nx_nx
        have hst := fun (x : Int32) (hx : ¬ btL B (nxL B Y) = -1) => lo_step hf hj (x := x) hx
        have hSn : (nxR B Y.1).ne = d0 := hne
        have hSE : EI 1 (nxR B Y.1, Y.2) := hi.mv (Kp_nx hj)
        have eb : byR B Y.1.tl (scanE fSp B Y.1.tl Y.1.po) = btL B (nxR B Y.1, Y.2) := rfl
        have eSt : (nxR B Y.1).tl = Y.1.tl := rfl
        rw [show nxL B Y = (nxR B Y.1, Y.2) from rfl] at e hst
        rw [eb]
        generalize nxR B Y.1 = S at hSJ hSS hst hSn hSE e eSt ⊢
        have e2 : scanE fSp B S.tl S.po = S.po := congrArg (fun t : MS => t.po) hSS
        refine A_sub [1, 2, 0] (ws2 := (lcW g m (S) B (Y.2))) rfl rfl ?_
        refine A_bipush ok.b (v := 43) dX7_sum_15 (by decide) ?_
        refine A_icmp_eq ok.b (tgt := 29) dX7_sum_17 (by decide) (fun c17 => ?_) (fun c17 => ?_)
        · skip
          have hx : ¬ btL B (S, Y.2) = -1 := fun h => absurd (c17.symm.trans h) (by decide)
          have hst2 := hst 2 hx
          rw [if_pos (Or.inl c17), if_pos c17] at e
          have hPJ : MJ (S.wpo (S.po + 1)) := ⟨by
            show S.po + 1 ≤ S.tl
            rcases Nat.lt_or_ge S.po S.tl with h | h
            · exact h
            · exact absurd (show btL B (S, Y.2) = -1 from byR_f (Nat.not_lt.mpr h)) hx, hSJ.2⟩
          have hPE : EI (1 - 3) (S.wpo (S.po + 1), Y.2) := hSE.mv1 ⟨rfl, Nat.le_succ _, hPJ.1, rfl, id, rfl⟩ (fun _ => Nat.lt_succ_self _)
          refine A_aload_n ok.b rfl dX7_sum_29 gp0 ?_
          refine A_callVR ok [0, 1] [2] (As := []) (wr := ([(m 3, .inl (g.2.1 0, 1476, .inl (Y.2)))] : va_W)) mf_X7_next ml_X7_75 in_X7_next se_X7_next cf7 gp0 (r_next l g m S B hSJ.mi.1 hSJ.mi.2) rfl rfl rfl dX7_sum_30 rfl rfl rfl (by decide) (Nat.le_of_ble_eq_true rfl) ⟨by show _ ≤ fr + 1; omega, by show _ ≤ lo + 40; omega⟩ ⟨(Nat.le_of_ble_eq_true rfl), (Nat.le_of_ble_eq_true rfl)⟩ (fun _ _ hx => hx.elim) (fun v30 w30 q30 => ?_)
          obtain ⟨rfl, rfl⟩ := q30
          rw [hSS, e2, show byR B S.tl S.po = btL B (S, Y.2) from rfl]
          refine A_sub [1, 2, 0] (ws2 := (lcW g m (S) B (Y.2))) rfl rfl ?_
          refine A_bipush ok.b (v := 43) dX7_sum_33 (by decide) ?_
          refine A_icmp_ne ok.b (tgt := 42) dX7_sum_35 (by decide) (fun c35 => ((show False from c35 c17)).elim) (fun c35 => ?_)
          refine A_iconst ok.b (v := 1) dX7_sum_38 (by decide) ?_
          refine A_goto ok.b (tgt := 43) dX7_sum_39 (by decide) ?_
          refine A_istore_n ok.b rfl dX7_sum_43 (by decide) (sts1 rfl st0) ?_
          refine A_aload_n ok.b rfl dX7_sum_44 gp0 ?_
          refine A_dup ok.b dX7_sum_45 rfl ?_
          refine A_getf ok.b cf7 4 (by decide) fl_X7_54 gp0 (gps (gps (gps (gps gp0)))) dX7_sum_46 ?_
          refine A_iconst ok.b (v := 1) dX7_sum_49 (by decide) ?_
          refine A_iadd ok.b dX7_sum_50 ?_
          rw [nI_1]
          refine A_putf ok.b cf7 4 (by decide) rfl fl_X7_54 gp0 rfl rfl (gp_lt (gps (gps (gps (gps gp0))))) (wps (wps (wps (wps wp0)))) wp0 dX7_sum_51 ?_
          refine A_aload_n ok.b rfl dX7_sum_54 gp0 ?_
          refine A_sameVR ok (As := []) mf_X7_term ml_X7_137 in_X7_term se_X7_term cf7 gp0 (hct (S.wpo (S.po + 1), Y.2) hPJ (hPE.w (by decide)) hSn) rfl rfl dX7_sum_55 (Nat.le_of_ble_eq_true rfl) ⟨by show _ ≤ fr + 1; omega, by show _ ≤ lo + 40; omega⟩ ⟨(Nat.le_of_ble_eq_true rfl), (Nat.le_of_ble_eq_true rfl)⟩ (fun _ _ hx => hx.elim) (fun v55 w55 q55 => ?_)
          obtain ⟨rfl, rfl⟩ := q55
          have hGJ : MJ (f (S.wpo (S.po + 1), Y.2)).1 := (hf _ hPJ).1.mj hPJ
          have hGE : EI 2 (f (S.wpo (S.po + 1), Y.2)) := ((hf _ hPJ).2 _ hPE).w (by decide)
          generalize f (S.wpo (S.po + 1), Y.2) = G at hGJ hGE hst2 e ⊢
          refine A_aload_n ok.b rfl dX7_sum_58 gp0 ?_
          refine A_iload_n ok.b rfl dX7_sum_59 (gps gp0) ?_
          refine A_if_eq ok.b (tgt := 67) dX7_sum_60 (by decide) (fun c60 => ((show False from absurd c60 (by decide))).elim) (fun c60 => ?_)
          refine A_iconst ok.b (v := 2) dX7_sum_63 (by decide) ?_
          refine A_goto ok.b (tgt := 68) dX7_sum_64 (by decide) ?_
          refine A_sameVR ok (As := [_]) mf_X7_emit ml_X7_131 in_X7_emit se_X7_emit cf7 gp0 (r_emit l g m G.1 B G.2 hGJ.mi (hGE.room hGJ) _) rfl rfl dX7_sum_68 (Nat.le_of_ble_eq_true rfl) ⟨by show _ ≤ fr + 1; omega, by show _ ≤ lo + 40; omega⟩ ⟨(Nat.le_of_ble_eq_true rfl), (Nat.le_of_ble_eq_true rfl)⟩ (fun _ _ hx => hx.elim) (fun v68 w68 q68 => ?_)
          obtain ⟨rfl, rfl⟩ := q68
          refine A_goto ok.b (tgt := 4) dX7_sum_71 (by decide) ?_
          have hk := hst2.1
          have hlt := hst2.2.1
          refine A_lv (lleK (lleD lle0)) ?_
          exact ih _ (hk.mj hj) (hst2.2.2 _ hi) (hk.2.2.2.1.trans hne) (by rw [hk.1]; show Y.1.tl + 1 ≤ (emR 2 G).1.po + mm; omega) e
        · skip
          refine A_aload_n ok.b rfl dX7_sum_20 gp0 ?_
          refine A_callVR ok [0, 1] [2] (As := []) (wr := ([(m 3, .inl (g.2.1 0, 1476, .inl (Y.2)))] : va_W)) mf_X7_next ml_X7_75 in_X7_next se_X7_next cf7 gp0 (r_next l g m S B hSJ.mi.1 hSJ.mi.2) rfl rfl rfl dX7_sum_21 rfl rfl rfl (by decide) (Nat.le_of_ble_eq_true rfl) ⟨by show _ ≤ fr + 1; omega, by show _ ≤ lo + 40; omega⟩ ⟨(Nat.le_of_ble_eq_true rfl), (Nat.le_of_ble_eq_true rfl)⟩ (fun _ _ hx => hx.elim) (fun v21 w21 q21 => ?_)
          obtain ⟨rfl, rfl⟩ := q21
          rw [hSS, e2, show byR B S.tl S.po = btL B (S, Y.2) from rfl]
          refine A_sub [1, 2, 0] (ws2 := (lcW g m (S) B (Y.2))) rfl rfl ?_
          refine A_bipush ok.b (v := 45) dX7_sum_24 (by decide) ?_
          refine A_icmp_ne ok.b (tgt := 74) dX7_sum_26 (by decide) (fun c26 => ?_) (fun c26 => ?_)
          · skip
            refine A_vret ok dX7_sum_74 (Nat.le_of_ble_eq_true rfl) (Nat.le_of_ble_eq_true rfl) ?_
            rw [if_neg (not_or.mpr ⟨c17, c26⟩)] at e
            exact ⟨rfl, by rw [e]⟩
          · skip
            have hx : ¬ btL B (S, Y.2) = -1 := fun h => absurd (c26.symm.trans h) (by decide)
            have hst2 := hst 3 hx
            rw [if_pos (Or.inr c26), if_neg c17] at e
            have hPJ : MJ (S.wpo (S.po + 1)) := ⟨by
              show S.po + 1 ≤ S.tl
              rcases Nat.lt_or_ge S.po S.tl with h | h
              · exact h
              · exact absurd (show btL B (S, Y.2) = -1 from byR_f (Nat.not_lt.mpr h)) hx, hSJ.2⟩
            have hPE : EI (1 - 3) (S.wpo (S.po + 1), Y.2) := hSE.mv1 ⟨rfl, Nat.le_succ _, hPJ.1, rfl, id, rfl⟩ (fun _ => Nat.lt_succ_self _)
            refine A_aload_n ok.b rfl dX7_sum_29 gp0 ?_
            refine A_callVR ok [0, 1] [2] (As := []) (wr := ([(m 3, .inl (g.2.1 0, 1476, .inl (Y.2)))] : va_W)) mf_X7_next ml_X7_75 in_X7_next se_X7_next cf7 gp0 (r_next l g m S B hSJ.mi.1 hSJ.mi.2) rfl rfl rfl dX7_sum_30 rfl rfl rfl (by decide) (Nat.le_of_ble_eq_true rfl) ⟨by show _ ≤ fr + 1; omega, by show _ ≤ lo + 40; omega⟩ ⟨(Nat.le_of_ble_eq_true rfl), (Nat.le_of_ble_eq_true rfl)⟩ (fun _ _ hx => hx.elim) (fun v30 w30 q30 => ?_)
            obtain ⟨rfl, rfl⟩ := q30
            rw [hSS, e2, show byR B S.tl S.po = btL B (S, Y.2) from rfl]
            refine A_sub [1, 2, 0] (ws2 := (lcW g m (S) B (Y.2))) rfl rfl ?_
            refine A_bipush ok.b (v := 43) dX7_sum_33 (by decide) ?_
            refine A_icmp_ne ok.b (tgt := 42) dX7_sum_35 (by decide) (fun c35 => ?_) (fun c35 => ((show False from c17 c35)).elim)
            refine A_iconst ok.b (v := 0) dX7_sum_42 (by decide) ?_
            refine A_istore_n ok.b rfl dX7_sum_43 (by decide) (sts1 rfl st0) ?_
            refine A_aload_n ok.b rfl dX7_sum_44 gp0 ?_
            refine A_dup ok.b dX7_sum_45 rfl ?_
            refine A_getf ok.b cf7 4 (by decide) fl_X7_54 gp0 (gps (gps (gps (gps gp0)))) dX7_sum_46 ?_
            refine A_iconst ok.b (v := 1) dX7_sum_49 (by decide) ?_
            refine A_iadd ok.b dX7_sum_50 ?_
            rw [nI_1]
            refine A_putf ok.b cf7 4 (by decide) rfl fl_X7_54 gp0 rfl rfl (gp_lt (gps (gps (gps (gps gp0))))) (wps (wps (wps (wps wp0)))) wp0 dX7_sum_51 ?_
            refine A_aload_n ok.b rfl dX7_sum_54 gp0 ?_
            refine A_sameVR ok (As := []) mf_X7_term ml_X7_137 in_X7_term se_X7_term cf7 gp0 (hct (S.wpo (S.po + 1), Y.2) hPJ (hPE.w (by decide)) hSn) rfl rfl dX7_sum_55 (Nat.le_of_ble_eq_true rfl) ⟨by show _ ≤ fr + 1; omega, by show _ ≤ lo + 40; omega⟩ ⟨(Nat.le_of_ble_eq_true rfl), (Nat.le_of_ble_eq_true rfl)⟩ (fun _ _ hx => hx.elim) (fun v55 w55 q55 => ?_)
            obtain ⟨rfl, rfl⟩ := q55
            have hGJ : MJ (f (S.wpo (S.po + 1), Y.2)).1 := (hf _ hPJ).1.mj hPJ
            have hGE : EI 2 (f (S.wpo (S.po + 1), Y.2)) := ((hf _ hPJ).2 _ hPE).w (by decide)
            generalize f (S.wpo (S.po + 1), Y.2) = G at hGJ hGE hst2 e ⊢
            refine A_aload_n ok.b rfl dX7_sum_58 gp0 ?_
            refine A_iload_n ok.b rfl dX7_sum_59 (gps gp0) ?_
            refine A_if_eq ok.b (tgt := 67) dX7_sum_60 (by decide) (fun c60 => ?_) (fun c60 => ((show False from c60 rfl)).elim)
            refine A_iconst ok.b (v := 3) dX7_sum_67 (by decide) ?_
            refine A_sameVR ok (As := [_]) mf_X7_emit ml_X7_131 in_X7_emit se_X7_emit cf7 gp0 (r_emit l g m G.1 B G.2 hGJ.mi (hGE.room hGJ) _) rfl rfl dX7_sum_68 (Nat.le_of_ble_eq_true rfl) ⟨by show _ ≤ fr + 1; omega, by show _ ≤ lo + 40; omega⟩ ⟨(Nat.le_of_ble_eq_true rfl), (Nat.le_of_ble_eq_true rfl)⟩ (fun _ _ hx => hx.elim) (fun v68 w68 q68 => ?_)
            obtain ⟨rfl, rfl⟩ := q68
            refine A_goto ok.b (tgt := 4) dX7_sum_71 (by decide) ?_
            have hk := hst2.1
            have hlt := hst2.2.1
            refine A_lv (lleK (lleD lle0)) ?_
            exact ih _ (hk.mj hj) (hst2.2.2 _ hi) (hk.2.2.2.1.trans hne) (by rw [hk.1]; show Y.1.tl + 1 ≤ (emR 3 G).1.po + mm; omega) e
  refine A_aload_n ok.b rfl dX7_sum_0 gp0 ?_
  refine A_sameVR ok (As := []) mf_X7_term ml_X7_137 in_X7_term se_X7_term cf7 gp0 (hct X hJ (hI.w (by decide)) hne0) rfl rfl dX7_sum_1 (Nat.le_of_ble_eq_true rfl) ⟨by show _ ≤ fr + 1; omega, by show _ ≤ lo + 40; omega⟩ ⟨(Nat.le_of_ble_eq_true rfl), (Nat.le_of_ble_eq_true rfl)⟩ (fun _ _ hx => hx.elim) (fun v1 w1 q1 => ?_)
  obtain ⟨rfl, rfl⟩ := q1
  exact L 801 (f X) ((hf X hJ).1.mj hJ) (((hf X hJ).2 _ hI).w (by decide)) ((hf X hJ).1.2.2.2.1.trans hne0) (by have h1 := ((hf X hJ).1.mj hJ).2; omega) rfl
theorem r_sumAll (l : Launch) (g : Gl) (m : Nat → Nat) (B : Nat → Int32) : ∀ (n : Nat), n ≤ 4 → ∀ (X : LQ), MJ X.1 → EI 0 X → X.1.ne = nI (4 - n) → Ct l g yX7_sum cX7_sum 2 none (7 + 3 * n) (280 + 120 * n) 0 0 [.ref (m 0)] (lcW g m (X).1 B (X).2) (fun v w => v = none ∧ w = (lcW g m (sumL2 B n X).1 B (sumL2 B n X).2)) noX := by
  intro n
  induction n with
  | zero =>
    intro _ X hJ hI hne
    exact r_sum l g m B (nI 4) (termL B (facL B id)) (GK_term (GK_fac GK_id)) 6 240 (by decide) (by decide) (fun X hJ hI hne => r_term l g m B (nI 4) (facL B id) (GK_fac GK_id) 5 200 (by decide) (by decide) (fun X hJ hI hne => r_factor0 l g m B (nI 4) rfl id rfl X hJ hI hne) X hJ hI hne) X hJ hI hne
  | succ n ih =>
    intro hn X hJ hI hne
    have e1 : nI (4 - (n + 1)) + 1 = nI (4 - n) := by rw [nI_1, show 4 - (n + 1) + 1 = 4 - n by omega]
    have hd : ¬ nI (4 - (n + 1)) = 4 := fun h => by
      have := (nI_eq (a := 4 - (n + 1)) (b := 4) (by omega) (by decide)).mp h
      omega
    have hS := GK_sum (B := B) n
    exact r_sum l g m B _ (termL B (facL B (sumL2 B n))) (GK_term (GK_fac hS)) (7 + 3 * n + 2) (280 + 120 * n + 80) (by omega) (by omega) (fun X hJ hI hne => r_term l g m B _ (facL B (sumL2 B n)) (GK_fac hS) (7 + 3 * n + 1) (280 + 120 * n + 40) (by omega) (by omega) (fun X hJ hI hne => r_factorS l g m B _ hd (sumL2 B n) hS (7 + 3 * n) (280 + 120 * n) (by omega) (by omega) (fun Y h1 h2 h3 => ih (by omega) Y h1 h2 (by rw [h3, e1])) X hJ hI hne) X hJ hI hne) X hJ hI hne
