theorem drv_keep {n nc c : Nat} {S : (Nat → Int32) × (Nat → Int32)} {j : Nat} (hj : j < 96) : (drvR n nc c S).2 j = S.2 j := by
  unfold drvR
  split
  · split
    · show upd S.2 (96 + 4 * c) _ j = _
      rw [upd_at, if_neg (by omega)]
    · rfl
  · show upd S.2 (96 + 4 * c) _ j = _
    rw [upd_at, if_neg (by omega)]
/-- who has driven, who stayed, the data -/
abbrev D3 : Type := (Nat → Int32) × (Nat → Int32) × (Nat → Int32)
def dfF (n nc : Nat) (s w : Int32) (c : Nat) (S : D3) : D3 :=
  if S.1 c = 0 ∧ S.2.2 (96 + 4 * c) = s ∧ S.2.2 (96 + 4 * c + 1) = w then (upd S.1 c 1, drvR n nc c S.2) else S
def dfR (n nc : Nat) (s w : Int32) (S : D3) : D3 := foldN (dfF n nc s w) S nc
theorem df_keep1 {n nc c : Nat} {s w : Int32} {S : D3} {j : Nat} (hj : j < 96) : (dfF n nc s w c S).2.2 j = S.2.2 j := by
  unfold dfF
  split
  · exact drv_keep hj
  · rfl
theorem df_keep {n nc : Nat} {s w : Int32} {S : D3} {j : Nat} (hj : j < 96) : ∀ k, (foldN (dfF n nc s w) S k).2.2 j = S.2.2 j
  | 0 => rfl
  | k + 1 => by rw [foldN_s, df_keep1 hj]; exact df_keep hj k
set_option maxRecDepth 20000 in
set_option maxHeartbeats 2000000 in
theorem r_driveFrom (l : Launch) (g : Gl) (m : Nat → Nat) (q : Nat) (s : MS) (re : Nat → Int32) (sk : Nat → Int64) (S : D3) (n nc : Nat) (hn : n ≤ 12) (hnc : nc ≤ 20) (h0 : S.2.2 0 = nI n) (h2 : S.2.2 2 = nI nc) (s0 w0 : Int32) : Ct l g yX7_driveFrom cX7_driveFrom 5 none 3 120 0 0 [.ref (m 0), .ref q, .int s0, .int w0] (ttW g m q s re (S).2.1 (S).1 sk (S).2.2) (fun v w => v = none ∧ w = (ttW g m q s re (dfR n nc s0 w0 S).2.1 (dfR n nc s0 w0 S).1 sk (dfR n nc s0 w0 S).2.2)) noX := by
  refine Ct.intro [some (.ref (m 0)), some (.ref q), some (.int s0), some (.int w0), none] (by decide +kernel) (fun _ h => h) (Nat.le_of_ble_eq_true rfl) (fun A H0 K ok => ?_)
  have L : ∀ k, k ≤ nc → AW g A H0 5 K 3 [some (.ref (m 0)), some (.ref q), some (.int s0), some (.int w0), some (.int (nI (k)))] [] (ttW g m q s re (foldN (dfF n nc s0 w0) S (k)).2.1 (foldN (dfF n nc s0 w0) S (k)).1 sk (foldN (dfF n nc s0 w0) S (k)).2.2) 0 0 := by
    refine up_ind nc ?_ (fun k hk ih => ?_)
    · have h2F := (df_keep (n := n) (nc := nc) (s := s0) (w := w0) (S := S) (j := 2) (by decide) nc).trans h2
      refine A_iload ok.b dX7_driveFrom_3 (gps (gps (gps (gps gp0)))) ?_
      refine A_aload_n ok.b rfl dX7_driveFrom_5 (gps gp0) ?_
      refine A_iconst ok.b (v := 2) dX7_driveFrom_6 (by decide) ?_
      refine A_iald ok.b (gps (gps (gps (gps (gps gp0))))) (ix_n (j := 2) (by decide) (by decide)) dX7_driveFrom_7 ?_
      rw [h2F]
      refine A_icmp_ge ok.b (tgt := 69) dX7_driveFrom_8 (by decide) (fun c8 => ?_) (fun c8 => (c8 (nI_le (Nat.le_refl _) (by omega))).elim)
      refine A_vret ok dX7_driveFrom_69 (Nat.le_of_ble_eq_true rfl) (Nat.le_of_ble_eq_true rfl) ?_
      exact ⟨rfl, rfl⟩
    · have h2F := (df_keep (n := n) (nc := nc) (s := s0) (w := w0) (S := S) (j := 2) (by decide) k).trans h2
      have h0F := (df_keep (n := n) (nc := nc) (s := s0) (w := w0) (S := S) (j := 0) (by decide) k).trans h0
      generalize hF : foldN (dfF n nc s0 w0) S k = F at h2F h0F ⊢
      refine A_iload ok.b dX7_driveFrom_3 (gps (gps (gps (gps gp0)))) ?_
      refine A_aload_n ok.b rfl dX7_driveFrom_5 (gps gp0) ?_
      refine A_iconst ok.b (v := 2) dX7_driveFrom_6 (by decide) ?_
      refine A_iald ok.b (gps (gps (gps (gps (gps gp0))))) (ix_n (j := 2) (by decide) (by decide)) dX7_driveFrom_7 ?_
      rw [h2F]
      refine A_icmp_ge ok.b (tgt := 69) dX7_driveFrom_8 (by decide) (fun c8 => (nI_ge hk (by omega) c8).elim) (fun c8 => ?_)
      refine A_aload_n ok.b rfl dX7_driveFrom_11 gp0 ?_
      refine A_getf ok.b cf7 20 (by decide) fl_X7_42 gp0 (gps (gps (gps (gps (gps (gps (gps (gps (gps (gps (gps (gps (gps (gps (gps (gps (gps (gps (gps (gps gp0)))))))))))))))))))) dX7_driveFrom_12 ?_
      refine A_iload ok.b dX7_driveFrom_15 (gps (gps (gps (gps gp0)))) ?_
      refine A_zald ok.b (gps (gps (gps gp0))) (ix_n (by omega) (by decide)) dX7_driveFrom_17 ?_
      refine A_if_ne ok.b (tgt := 63) dX7_driveFrom_18 (by decide) (fun c18 => ?_) (fun c18 => ?_)
      · skip
        refine A_iinc ok.b (v := _ + 1) dX7_driveFrom_63 (gps (gps (gps (gps gp0)))) rfl (by decide) (sts (sts (sts (sts1 rfl st0)))) ?_
        refine A_goto ok.b (tgt := 3) dX7_driveFrom_66 (by decide) ?_
        rw [foldN_s] at ih
        rw [hF] at ih
        rw [dfF, if_neg (fun h => c18 h.1)] at ih
        rw [nI_1]
        exact ih
      · skip
        refine A_aload_n ok.b rfl dX7_driveFrom_21 (gps gp0) ?_
        refine A_iload ok.b dX7_driveFrom_22 (gps (gps (gps (gps gp0)))) ?_
        refine A_pureS ok.b (As := [_]) mf_X7_car ml_X7_162 rfl sc_X7_car (r_car l g _) rfl rfl dX7_driveFrom_24 (Nat.le_of_ble_eq_true rfl) ⟨(Nat.le_of_ble_eq_true rfl), (Nat.le_of_ble_eq_true rfl)⟩ ⟨(Nat.le_of_ble_eq_true rfl), (Nat.le_of_ble_eq_true rfl)⟩ ?_
        rw [car_n (by omega)]
        refine A_iald ok.b (gps (gps (gps (gps (gps gp0))))) (ix_n (by omega) (by decide)) dX7_driveFrom_27 ?_
        refine A_iload_n ok.b rfl dX7_driveFrom_28 (gps (gps gp0)) ?_
        refine A_icmp_ne ok.b (tgt := 63) dX7_driveFrom_29 (by decide) (fun c29 => ?_) (fun c29 => ?_)
        · skip
          refine A_iinc ok.b (v := _ + 1) dX7_driveFrom_63 (gps (gps (gps (gps gp0)))) rfl (by decide) (sts (sts (sts (sts1 rfl st0)))) ?_
          refine A_goto ok.b (tgt := 3) dX7_driveFrom_66 (by decide) ?_
          rw [foldN_s] at ih
          rw [hF] at ih
          rw [dfF, if_neg (fun h => c29 h.2.1)] at ih
          rw [nI_1]
          exact ih
        · skip
          refine A_aload_n ok.b rfl dX7_driveFrom_32 (gps gp0) ?_
          refine A_iload ok.b dX7_driveFrom_33 (gps (gps (gps (gps gp0)))) ?_
          refine A_pureS ok.b (As := [_]) mf_X7_car ml_X7_162 rfl sc_X7_car (r_car l g _) rfl rfl dX7_driveFrom_35 (Nat.le_of_ble_eq_true rfl) ⟨(Nat.le_of_ble_eq_true rfl), (Nat.le_of_ble_eq_true rfl)⟩ ⟨(Nat.le_of_ble_eq_true rfl), (Nat.le_of_ble_eq_true rfl)⟩ ?_
          rw [car_n (by omega)]
          refine A_iconst ok.b (v := 1) dX7_driveFrom_38 (by decide) ?_
          refine A_iadd ok.b dX7_driveFrom_39 ?_
          rw [show nI (96 + 4 * k) + 1 = nI (96 + 4 * k + 1) from nI_1 _]
          refine A_iald ok.b (gps (gps (gps (gps (gps gp0))))) (ix_n (by omega) (by decide)) dX7_driveFrom_40 ?_
          refine A_iload_n ok.b rfl dX7_driveFrom_41 (gps (gps (gps gp0))) ?_
          refine A_icmp_eq ok.b (tgt := 48) dX7_driveFrom_42 (by decide) (fun c42 => ?_) (fun c42 => ?_)
          · skip
            refine A_aload_n ok.b rfl dX7_driveFrom_48 gp0 ?_
            refine A_getf ok.b cf7 20 (by decide) fl_X7_42 gp0 (gps (gps (gps (gps (gps (gps (gps (gps (gps (gps (gps (gps (gps (gps (gps (gps (gps (gps (gps (gps gp0)))))))))))))))))))) dX7_driveFrom_49 ?_
            refine A_iload ok.b dX7_driveFrom_52 (gps (gps (gps (gps gp0)))) ?_
            refine A_iconst ok.b (v := 1) dX7_driveFrom_54 (by decide) ?_
            refine A_zast ok.b (gps (gps (gps gp0))) (ix_n (by omega) (by decide)) (wps (wps (wps wp0))) dX7_driveFrom_55 ?_
            refine A_aload_n ok.b rfl dX7_driveFrom_56 gp0 ?_
            refine A_aload_n ok.b rfl dX7_driveFrom_57 (gps gp0) ?_
            refine A_iload ok.b dX7_driveFrom_58 (gps (gps (gps (gps gp0)))) ?_
            refine A_sameVR ok (As := [_, _]) mf_X7_drive ml_X7_236 in_X7_drive se_X7_drive cf7 gp0 (r_drive l g m q s re F.2.1 (upd F.1 k 1) sk F.2.2 n nc hn hnc h0F h2F k hk) rfl rfl dX7_driveFrom_60 (Nat.le_of_ble_eq_true rfl) ⟨(Nat.le_of_ble_eq_true rfl), (Nat.le_of_ble_eq_true rfl)⟩ ⟨(Nat.le_of_ble_eq_true rfl), (Nat.le_of_ble_eq_true rfl)⟩ (fun _ _ hx => hx.elim) (fun v60 w60 q60 => ?_)
            obtain ⟨rfl, rfl⟩ := q60
            refine A_iinc ok.b (v := _ + 1) dX7_driveFrom_63 (gps (gps (gps (gps gp0)))) rfl (by decide) (sts (sts (sts (sts1 rfl st0)))) ?_
            refine A_goto ok.b (tgt := 3) dX7_driveFrom_66 (by decide) ?_
            rw [foldN_s, hF, dfF, if_pos ⟨c18, c29, c42⟩] at ih
            rw [nI_1]
            exact ih
          · skip
            refine A_goto ok.b (tgt := 63) dX7_driveFrom_45 (by decide) ?_
            refine A_iinc ok.b (v := _ + 1) dX7_driveFrom_63 (gps (gps (gps (gps gp0)))) rfl (by decide) (sts (sts (sts (sts1 rfl st0)))) ?_
            refine A_goto ok.b (tgt := 3) dX7_driveFrom_66 (by decide) ?_
            rw [foldN_s] at ih
            rw [hF] at ih
            rw [dfF, if_neg (fun h => c42 h.2.2)] at ih
            rw [nI_1]
            exact ih
  refine A_iconst ok.b (v := 0) dX7_driveFrom_0 (by decide) ?_
  refine A_istore ok.b dX7_driveFrom_1 (by decide) (sts (sts (sts (sts1 rfl st0)))) ?_
  exact L 0 (Nat.zero_le _)
/-- a car turns -/
def trR (nc c : Nat) (d : Nat → Int32) : Nat → Int32 :=
  if ¬ d 4 < 0 ∧ ¬ (d 4 - d (96 + 4 * c)) * d (96 + 4 * c + 1) ≤ 0 ∧ d (12 + 7 * (d (96 + 4 * c)).toNatClampNeg + 4) = 1 ∧ laneR d (d (96 + 4 * c)) (-(d (96 + 4 * c + 1))) nc < d 1
  then upd d (96 + 4 * c + 1) (-(d (96 + 4 * c + 1))) else d
theorem tr_keep {nc c : Nat} {d : Nat → Int32} {j : Nat} (hj : j < 96) : trR nc c d j = d j := by
  unfold trR
  split
  · rw [upd_at, if_neg (by omega)]
  · rfl
set_option maxRecDepth 20000 in
set_option maxHeartbeats 2000000 in
theorem r_turn (l : Launch) (g : Gl) (m : Nat → Nat) (q : Nat) (s : MS) (re st dr : Nat → Int32) (sk : Nat → Int64) (d : Nat → Int32) (n nc : Nat) (hn : n ≤ 12) (hnc : nc ≤ 20) (h0 : d 0 = nI n) (h2 : d 2 = nI nc) (c : Nat) (hc : c < nc) (hin : Inn (d (96 + 4 * c)) n) : Ct l g yX7_turn cX7_turn 7 none 2 80 0 0 [.ref (m 0), .ref q, .int (nI c)] (ttW g m q s (re) (st) (dr) sk (d)) (fun v w => v = none ∧ w = (ttW g m q s (re) (st) (dr) sk (trR nc c d))) noX := by
  refine Ct.intro [some (.ref (m 0)), some (.ref q), some (.int (nI c)), none, none, none, none] (by decide +kernel) (fun _ h => h) (Nat.le_of_ble_eq_true rfl) (fun A H0 K ok => ?_)
  obtain ⟨t, ht, et⟩ := hin
  refine A_iload_n ok.b rfl dX7_turn_0 (gps (gps gp0)) ?_
  refine A_pureS ok.b (As := [_]) mf_X7_car ml_X7_162 rfl sc_X7_car (r_car l g _) rfl rfl dX7_turn_1 (Nat.le_of_ble_eq_true rfl) ⟨(Nat.le_of_ble_eq_true rfl), (Nat.le_of_ble_eq_true rfl)⟩ ⟨(Nat.le_of_ble_eq_true rfl), (Nat.le_of_ble_eq_true rfl)⟩ ?_
  rw [car_n (by omega)]
  refine A_istore_n ok.b rfl dX7_turn_4 (by decide) (sts (sts (sts1 rfl st0))) ?_
  refine A_aload_n ok.b rfl dX7_turn_5 (gps gp0) ?_
  refine A_iload_n ok.b rfl dX7_turn_6 (gps (gps (gps gp0))) ?_
  refine A_iald ok.b (gps (gps (gps (gps (gps gp0))))) (ix_n (by omega) (by decide)) dX7_turn_7 ?_
  refine A_istore ok.b dX7_turn_8 (by decide) (sts (sts (sts (sts1 rfl st0)))) ?_
  refine A_aload_n ok.b rfl dX7_turn_10 (gps gp0) ?_
  refine A_iload_n ok.b rfl dX7_turn_11 (gps (gps (gps gp0))) ?_
  refine A_iconst ok.b (v := 1) dX7_turn_12 (by decide) ?_
  refine A_iadd ok.b dX7_turn_13 ?_
  rw [show nI (96 + 4 * c) + 1 = nI (96 + 4 * c + 1) from nI_1 _]
  refine A_iald ok.b (gps (gps (gps (gps (gps gp0))))) (ix_n (by omega) (by decide)) dX7_turn_14 ?_
  refine A_istore ok.b dX7_turn_15 (by decide) (sts (sts (sts (sts (sts1 rfl st0))))) ?_
  refine A_aload_n ok.b rfl dX7_turn_17 (gps gp0) ?_
  refine A_iconst ok.b (v := 4) dX7_turn_18 (by decide) ?_
  refine A_iald ok.b (gps (gps (gps (gps (gps gp0))))) (ix_n (j := 4) (by decide) (by decide)) dX7_turn_19 ?_
  refine A_if_lt ok.b (tgt := 39) dX7_turn_20 (by decide) (fun c20 => ?_) (fun c20 => ?_)
  · skip
    refine A_iconst ok.b (v := 0) dX7_turn_39 (by decide) ?_
    refine A_istore ok.b dX7_turn_40 (by decide) (sts (sts (sts (sts (sts (sts1 rfl st0)))))) ?_
    refine A_iload ok.b dX7_turn_42 (gps (gps (gps (gps (gps (gps gp0)))))) ?_
    refine A_if_eq ok.b (tgt := 83) dX7_turn_44 (by decide) (fun c44 => ?_) (fun c44 => ((show False from absurd rfl c44)).elim)
    refine A_vret ok dX7_turn_83 (Nat.le_of_ble_eq_true rfl) (Nat.le_of_ble_eq_true rfl) ?_
    exact ⟨rfl, by rw [trR, if_neg (fun h => h.1 c20)]⟩
  · skip
    refine A_aload_n ok.b rfl dX7_turn_23 (gps gp0) ?_
    refine A_iconst ok.b (v := 4) dX7_turn_24 (by decide) ?_
    refine A_iald ok.b (gps (gps (gps (gps (gps gp0))))) (ix_n (j := 4) (by decide) (by decide)) dX7_turn_25 ?_
    refine A_iload ok.b dX7_turn_26 (gps (gps (gps (gps gp0)))) ?_
    refine A_isub ok.b dX7_turn_28 ?_
    refine A_iload ok.b dX7_turn_29 (gps (gps (gps (gps (gps gp0))))) ?_
    refine A_imul ok.b dX7_turn_31 ?_
    refine A_if_le ok.b (tgt := 39) dX7_turn_32 (by decide) (fun c32 => ?_) (fun c32 => ?_)
    · skip
      refine A_iconst ok.b (v := 0) dX7_turn_39 (by decide) ?_
      refine A_istore ok.b dX7_turn_40 (by decide) (sts (sts (sts (sts (sts (sts1 rfl st0)))))) ?_
      refine A_iload ok.b dX7_turn_42 (gps (gps (gps (gps (gps (gps gp0)))))) ?_
      refine A_if_eq ok.b (tgt := 83) dX7_turn_44 (by decide) (fun c44 => ?_) (fun c44 => ((show False from absurd rfl c44)).elim)
      refine A_vret ok dX7_turn_83 (Nat.le_of_ble_eq_true rfl) (Nat.le_of_ble_eq_true rfl) ?_
      exact ⟨rfl, by rw [trR, if_neg (fun h => h.2.1 c32)]⟩
    · skip
      refine A_iconst ok.b (v := 1) dX7_turn_35 (by decide) ?_
      refine A_goto ok.b (tgt := 40) dX7_turn_36 (by decide) ?_
      refine A_istore ok.b dX7_turn_40 (by decide) (sts (sts (sts (sts (sts (sts1 rfl st0)))))) ?_
      refine A_iload ok.b dX7_turn_42 (gps (gps (gps (gps (gps (gps gp0)))))) ?_
      refine A_if_eq ok.b (tgt := 83) dX7_turn_44 (by decide) (fun c44 => ((show False from absurd c44 (by decide))).elim) (fun c44 => ?_)
      refine A_aload_n ok.b rfl dX7_turn_47 (gps gp0) ?_
      refine A_iload ok.b dX7_turn_48 (gps (gps (gps (gps gp0)))) ?_
      rw [et]
      refine A_pureS ok.b (As := [_]) mf_X7_section ml_X7_143 rfl sc_X7_section (r_section l g _) rfl rfl dX7_turn_50 (Nat.le_of_ble_eq_true rfl) ⟨(Nat.le_of_ble_eq_true rfl), (Nat.le_of_ble_eq_true rfl)⟩ ⟨(Nat.le_of_ble_eq_true rfl), (Nat.le_of_ble_eq_true rfl)⟩ ?_
      rw [sec_n (by omega)]
      refine A_iconst ok.b (v := 4) dX7_turn_53 (by decide) ?_
      refine A_iadd ok.b dX7_turn_54 ?_
      rw [show nI (12 + 7 * t) + 4 = nI (12 + 7 * t + 4) from nI_add _ 4]
      refine A_iald ok.b (gps (gps (gps (gps (gps gp0))))) (ix_n (by omega) (by decide)) dX7_turn_55 ?_
      refine A_iconst ok.b (v := 1) dX7_turn_56 (by decide) ?_
      refine A_icmp_ne ok.b (tgt := 83) dX7_turn_57 (by decide) (fun c57 => ?_) (fun c57 => ?_)
      · skip
        refine A_vret ok dX7_turn_83 (Nat.le_of_ble_eq_true rfl) (Nat.le_of_ble_eq_true rfl) ?_
        exact ⟨rfl, by rw [trR, if_neg (fun h => by have h3 := h.2.2.1; rw [et, nI_clamp (by omega)] at h3; exact c57 h3)]⟩
      · skip
        refine A_aload_n ok.b rfl dX7_turn_60 (gps gp0) ?_
        refine A_iload ok.b dX7_turn_61 (gps (gps (gps (gps gp0)))) ?_
        refine A_iload ok.b dX7_turn_63 (gps (gps (gps (gps (gps gp0))))) ?_
        refine A_ineg ok.b dX7_turn_65 ?_
        refine A_callSR ok [5] [0, 1, 2, 3, 4] (As := [_, _, _]) (wr := ([moC m s, (m 7, .inl (g.2.1 0, 12, .inl re)), (m 8, .inl (g.2.1 3, 20, .inl st)), (m 9, .inl (g.2.1 3, 20, .inl dr)), (m 6, .inl (g.2.1 1, 1300, .inr (.inl sk)))] : va_W)) mf_X7_lane ml_X7_158 rfl sc_X7_lane  (r_lane l g q d _ _ nc hnc h2) rfl rfl rfl dX7_turn_66 rfl rfl rfl (by decide) (Nat.le_of_ble_eq_true rfl) ⟨(Nat.le_of_ble_eq_true rfl), (Nat.le_of_ble_eq_true rfl)⟩ ⟨(Nat.le_of_ble_eq_true rfl), (Nat.le_of_ble_eq_true rfl)⟩ (fun _ _ hx => hx.elim) (fun v66 w66 q66 => ?_)
        obtain ⟨rfl, rfl⟩ := q66
        refine A_sub [0, 1, 2, 3, 4, 5] (ws2 := (ttW g m q s (re) (st) (dr) sk (d))) rfl rfl ?_
        refine A_aload_n ok.b rfl dX7_turn_69 (gps gp0) ?_
        refine A_iconst ok.b (v := 1) dX7_turn_70 (by decide) ?_
        refine A_iald ok.b (gps (gps (gps (gps (gps gp0))))) (ix_n (j := 1) (by decide) (by decide)) dX7_turn_71 ?_
        refine A_icmp_ge ok.b (tgt := 83) dX7_turn_72 (by decide) (fun c72 => ?_) (fun c72 => ?_)
        · skip
          refine A_vret ok dX7_turn_83 (Nat.le_of_ble_eq_true rfl) (Nat.le_of_ble_eq_true rfl) ?_
          exact ⟨rfl, by rw [trR, if_neg (fun h => by have h3 := h.2.2.2; rw [et] at h3; exact absurd h3 (Int32.not_lt.mpr c72))]⟩
        · skip
          refine A_aload_n ok.b rfl dX7_turn_75 (gps gp0) ?_
          refine A_iload_n ok.b rfl dX7_turn_76 (gps (gps (gps gp0))) ?_
          refine A_iconst ok.b (v := 1) dX7_turn_77 (by decide) ?_
          refine A_iadd ok.b dX7_turn_78 ?_
          refine A_iload ok.b dX7_turn_79 (gps (gps (gps (gps (gps gp0))))) ?_
          refine A_ineg ok.b dX7_turn_81 ?_
          rw [show nI (96 + 4 * c) + 1 = nI (96 + 4 * c + 1) from nI_1 _]
          refine A_iast ok.b (gps (gps (gps (gps (gps gp0))))) (ix_n (by omega) (by decide)) (wps (wps (wps (wps (wps wp0))))) dX7_turn_82 ?_
          refine A_vret ok dX7_turn_83 (Nat.le_of_ble_eq_true rfl) (Nat.le_of_ble_eq_true rfl) ?_
          exact ⟨rfl, by rw [trR, if_pos ⟨c20, c32, by rw [et, nI_clamp (by omega)]; exact c57, by rw [et]; exact Int32.not_le.mp c72⟩]; rfl⟩
