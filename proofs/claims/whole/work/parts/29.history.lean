def hsW (g : Gl) (h0 h1 : Nat) (cnt nx : Nat) (sa : Nat → Nat) : va_W := [(h0, .inr (0, [.int (nI cnt), .int (nI nx), .ref h1])), (h1, .inl (g.2.1 4, 8, .inr (.inr (.inr (.inr (fun j => some (sa j)))))))]
def cntS (c : Nat) : Nat := if c < 8 then c + 1 else 8
theorem nx_s {j : Nat} (h : j < 8) : (nI j + 1) - (nI j + 1) / 8 * 8 = nI ((j + 1) % 8) := by
  have k : ∀ j, j < 8 → (nI j + 1) - (nI j + 1) / 8 * 8 = nI ((j + 1) % 8) := by decide
  exact k j h
theorem nx_p {j : Nat} (h : j < 8) : (nI j + 8 - 1) - (nI j + 8 - 1) / 8 * 8 = nI ((j + 7) % 8) := by
  have k : ∀ j, j < 8 → (nI j + 8 - 1) - (nI j + 8 - 1) / 8 * 8 = nI ((j + 7) % 8) := by decide
  exact k j h
theorem cnt_s {c : Nat} (h : c ≤ 8) : (if (8 : Int32) < nI c + 1 then 8 else nI c + 1) = nI (cntS c) := by
  have k : ∀ c, c < 9 → (if (8 : Int32) < nI c + 1 then 8 else nI c + 1) = nI (cntS c) := by decide
  exact k c (by omega)
theorem cnt_p {c : Nat} (h : c ≤ 8) (h0 : ¬ c = 0) : nI c - 1 = nI (c - 1) := by
  obtain ⟨d, rfl⟩ : ∃ d, c = d + 1 := ⟨c - 1, by omega⟩
  exact nI_pred d

set_option maxRecDepth 20000 in
set_option maxHeartbeats 2000000 in
theorem c_save (l : Launch) (g : Gl) (h0 h1 : Nat) (cnt nx : Nat) (sa : Nat → Nat) (a2 : Nat → Nat) (p2 : Nat) (T2 : TD) (hcnt : cnt ≤ 8) (hnx : nx < 8) (hsa : sa nx = a2 0) (a : Nat → Nat) (p : Nat) (T : TD) (hrd : ∀ j, j < 24 → tRed T j = 0 ∨ tRed T j = 1) : Ct l g yX0_save cX0_save 2 none 2 120 0 0 [.ref h0, .ref (a 0)] (hsW g h0 h1 cnt nx sa ++ (tunW g a2 p2 T2 ++ tunW g a p T)) (fun v w => v = none ∧ w = (hsW g h0 h1 (cntS cnt) ((nx + 1) % 8) sa ++ (tunW g a2 p T ++ tunW g a p T))) noX := by
  refine Ct.intro [some (.ref h0), some (.ref (a 0))] (by decide +kernel) (fun _ h => h) (Nat.le_of_ble_eq_true rfl) (fun A H0 K ok => ?_)
  refine A_aload_n ok.b rfl dX0_save_0 gp0 ?_
  refine A_getf ok.b cf0 2 (by decide) fl_X0_11 gp0 (gps (gps gp0)) dX0_save_1 ?_
  refine A_aload_n ok.b rfl dX0_save_4 gp0 ?_
  refine A_getf ok.b cf0 1 (by decide) fl_X0_20 gp0 (gps gp0) dX0_save_5 ?_
  refine A_aldq ok.b (gps gp0) (ix_n hnx (by decide)) dX0_save_8 ?_
  change AW g A H0 2 K 9 _ (.ref (sa nx) :: _) _ 0 0
  rw [hsa]
  refine A_aload_n ok.b rfl dX0_save_9 (gps gp0) ?_
  refine A_callVR ok [2, 3, 4, 5, 6, 7, 8, 9, 10, 11, 12, 13, 14, 15, 16, 17, 18, 19] [0, 1] (As := [_]) (wr := hsW g h0 h1 cnt nx sa) mf_X5_copyFrom ml_X0_24 in_X5_copyFrom se_X5_copyFrom cf5 (gps (gps gp0)) (c_copyFrom l g a2 a p2 p T2 T hrd) rfl rfl rfl dX0_save_10 rfl rfl rfl (by decide) (Nat.le_of_ble_eq_true rfl) ⟨(Nat.le_of_ble_eq_true rfl), (Nat.le_of_ble_eq_true rfl)⟩ ⟨(Nat.le_of_ble_eq_true rfl), (Nat.le_of_ble_eq_true rfl)⟩ (fun _ _ hx => hx.elim) (fun v10 w10 q10 => ?_)
  obtain ⟨rfl, rfl⟩ := q10
  refine A_sub [0, 1, 2, 3, 4, 5, 6, 7, 8, 9, 10, 11, 12, 13, 14, 15, 16, 17, 18, 19] (ws2 := (hsW g h0 h1 cnt nx sa ++ (tunW g a2 p T ++ tunW g a p T))) rfl rfl ?_
  refine A_aload_n ok.b rfl dX0_save_13 gp0 ?_
  refine A_aload_n ok.b rfl dX0_save_14 gp0 ?_
  refine A_getf ok.b cf0 1 (by decide) fl_X0_20 gp0 (gps gp0) dX0_save_15 ?_
  refine A_iconst ok.b (v := 1) dX0_save_18 (by decide) ?_
  refine A_iadd ok.b dX0_save_19 ?_
  refine A_bipush ok.b (v := 8) dX0_save_20 (by decide) ?_
  refine A_irem ok.b dX0_save_22 (by decide) ?_
  rw [nx_s hnx]
  refine A_putf ok.b cf0 1 (by decide) rfl fl_X0_20 gp0 rfl rfl (gp_lt (gps gp0)) (wps wp0) wp0 dX0_save_23 ?_
  refine A_aload_n ok.b rfl dX0_save_26 gp0 ?_
  refine A_aload_n ok.b rfl dX0_save_27 gp0 ?_
  refine A_getf ok.b cf0 0 (by decide) fl_X0_28 gp0 gp0 dX0_save_28 ?_
  refine A_iconst ok.b (v := 1) dX0_save_31 (by decide) ?_
  refine A_iadd ok.b dX0_save_32 ?_
  refine A_bipush ok.b (v := 8) dX0_save_33 (by decide) ?_
  refine A_min ok.b (ml_X0_31) dX0_save_35 (Nat.le_of_ble_eq_true rfl) (Nat.le_of_ble_eq_true rfl) (Nat.le_of_ble_eq_true rfl) (Nat.le_of_ble_eq_true rfl) ?_
  rw [cnt_s hcnt]
  refine A_putf ok.b cf0 0 (by decide) rfl fl_X0_28 gp0 rfl rfl (gp_lt gp0) wp0 wp0 dX0_save_38 ?_
  refine A_vret ok dX0_save_41 (Nat.le_of_ble_eq_true rfl) (Nat.le_of_ble_eq_true rfl) ?_
  exact ⟨rfl, rfl⟩
set_option maxRecDepth 20000 in
set_option maxHeartbeats 2000000 in
theorem c_restore (l : Launch) (g : Gl) (h0 h1 : Nat) (cnt nx : Nat) (sa : Nat → Nat) (a2 : Nat → Nat) (p2 : Nat) (T2 : TD) (hcnt : cnt ≤ 8) (hnx : nx < 8) (hc0 : ¬ cnt = 0) (hsa : sa ((nx + 7) % 8) = a2 0) (a : Nat → Nat) (p : Nat) (T : TD) (hrd : ∀ j, j < 24 → tRed T2 j = 0 ∨ tRed T2 j = 1) : Ct l g yX0_restore cX0_restore 2 none 2 120 0 0 [.ref h0, .ref (a 0)] (hsW g h0 h1 cnt nx sa ++ (tunW g a2 p2 T2 ++ tunW g a p T)) (fun v w => v = none ∧ w = (hsW g h0 h1 (cnt - 1) ((nx + 7) % 8) sa ++ (tunW g a2 p2 T2 ++ tunW g a p2 T2))) noX := by
  refine Ct.intro [some (.ref h0), some (.ref (a 0))] (by decide +kernel) (fun _ h => h) (Nat.le_of_ble_eq_true rfl) (fun A H0 K ok => ?_)
  refine A_aload_n ok.b rfl dX0_restore_0 gp0 ?_
  refine A_aload_n ok.b rfl dX0_restore_1 gp0 ?_
  refine A_getf ok.b cf0 1 (by decide) fl_X0_20 gp0 (gps gp0) dX0_restore_2 ?_
  refine A_bipush ok.b (v := 8) dX0_restore_5 (by decide) ?_
  refine A_iadd ok.b dX0_restore_7 ?_
  refine A_iconst ok.b (v := 1) dX0_restore_8 (by decide) ?_
  refine A_isub ok.b dX0_restore_9 ?_
  refine A_bipush ok.b (v := 8) dX0_restore_10 (by decide) ?_
  refine A_irem ok.b dX0_restore_12 (by decide) ?_
  rw [nx_p hnx]
  refine A_putf ok.b cf0 1 (by decide) rfl fl_X0_20 gp0 rfl rfl (gp_lt (gps gp0)) (wps wp0) wp0 dX0_restore_13 ?_
  refine A_aload_n ok.b rfl dX0_restore_16 gp0 ?_
  refine A_dup ok.b dX0_restore_17 rfl ?_
  refine A_getf ok.b cf0 0 (by decide) fl_X0_28 gp0 gp0 dX0_restore_18 ?_
  refine A_iconst ok.b (v := 1) dX0_restore_21 (by decide) ?_
  refine A_isub ok.b dX0_restore_22 ?_
  rw [cnt_p hcnt hc0]
  refine A_putf ok.b cf0 0 (by decide) rfl fl_X0_28 gp0 rfl rfl (gp_lt gp0) wp0 wp0 dX0_restore_23 ?_
  refine A_aload_n ok.b rfl dX0_restore_26 (gps gp0) ?_
  refine A_aload_n ok.b rfl dX0_restore_27 gp0 ?_
  refine A_getf ok.b cf0 2 (by decide) fl_X0_11 gp0 (gps (gps gp0)) dX0_restore_28 ?_
  refine A_aload_n ok.b rfl dX0_restore_31 gp0 ?_
  refine A_getf ok.b cf0 1 (by decide) fl_X0_20 gp0 (gps gp0) dX0_restore_32 ?_
  refine A_aldq ok.b (gps gp0) (ix_n (Nat.mod_lt _ (by decide)) (by decide)) dX0_restore_35 ?_
  change AW g A H0 2 K 36 _ (.ref (sa ((nx + 7) % 8)) :: _) _ 0 0
  rw [hsa]
  refine A_callVR ok [11, 12, 13, 14, 15, 16, 17, 18, 19, 2, 3, 4, 5, 6, 7, 8, 9, 10] [0, 1] (As := [_]) (wr := hsW g h0 h1 (cnt - 1) ((nx + 7) % 8) sa) mf_X5_copyFrom ml_X0_24 in_X5_copyFrom se_X5_copyFrom cf5 (gps (gps (gps (gps (gps (gps (gps (gps (gps (gps (gps gp0))))))))))) (c_copyFrom l g a a2 p p2 T T2 hrd) rfl rfl rfl dX0_restore_36 rfl rfl rfl (by decide) (Nat.le_of_ble_eq_true rfl) ⟨(Nat.le_of_ble_eq_true rfl), (Nat.le_of_ble_eq_true rfl)⟩ ⟨(Nat.le_of_ble_eq_true rfl), (Nat.le_of_ble_eq_true rfl)⟩ (fun _ _ hx => hx.elim) (fun v36 w36 q36 => ?_)
  obtain ⟨rfl, rfl⟩ := q36
  refine A_sub [0, 1, 11, 12, 13, 14, 15, 16, 17, 18, 19, 2, 3, 4, 5, 6, 7, 8, 9, 10] (ws2 := (hsW g h0 h1 (cnt - 1) ((nx + 7) % 8) sa ++ (tunW g a2 p2 T2 ++ tunW g a p2 T2))) rfl rfl ?_
  refine A_vret ok dX0_restore_39 (Nat.le_of_ble_eq_true rfl) (Nat.le_of_ble_eq_true rfl) ?_
  exact ⟨rfl, rfl⟩
set_option maxRecDepth 20000 in
set_option maxHeartbeats 2000000 in
theorem c_setFan (l : Launch) (g : Gl) (k rd h0 tr : Nat) (eo : Int32) (a b : Nat → Nat) (T : TD) (P : PD) (hn : pN P ≤ 12) (hc : pCar P ≤ 20) (hl0 : l.stackTraces = false) (hrd : ∀ j, j < 24 → tRed T j = 0 ∨ tRed T j = 1) (h1 : Nat) (cnt nx : Nat) (sa : Nat → Nat) (a2 : Nat → Nat) (p2 : Nat) (T2 : TD) (hcnt : cnt ≤ 8) (hnx : nx < 8) (hsa : sa nx = a2 0) (s0 x0 : Int32) : Ct l g yX6_setFan cX6_setFan 3 (some .int) 7 480 3 18 [.ref k, .int s0, .int x0] (dkW g k rd h0 tr eo a b (T) (P) ++ (hsW g h0 h1 (cnt) (nx) sa ++ tunW g a2 (p2) (T2))) (fun v w => (orX (secX P s0) (orX (setX x0) (fanX P s0))) = none ∧ v = some (.int (flowF (sFan T (upd (tFan T) s0.toNatClampNeg x0)) P)) ∧ w = (dkW g k rd h0 tr eo a b (sFan T (upd (tFan T) s0.toNatClampNeg x0)) (P) ++ (hsW g h0 h1 (cntS cnt) ((nx + 1) % 8) sa ++ tunW g a2 (b 0) (T)))) (XX (dkW g k rd h0 tr eo a b (T) (P) ++ (hsW g h0 h1 (cnt) (nx) sa ++ tunW g a2 (p2) (T2))) ((orX (secX P s0) (orX (setX x0) (fanX P s0))))) := by
  refine Ct.intro [some (.ref k), some (.int s0), some (.int x0)] (by decide +kernel) (fun _ h => h) (Nat.le_of_ble_eq_true rfl) (fun A H0 K ok => ?_)
  refine A_aload_n ok.b rfl dX6_setFan_0 gp0 ?_
  refine A_iload_n ok.b rfl dX6_setFan_1 (gps gp0) ?_
  refine A_callVR ok [0, 1, 2, 3, 4, 5, 6, 7, 8, 9, 10, 11, 12, 13, 14, 15] [16, 17, 18, 19, 20, 21, 22, 23, 24, 25, 26] (As := [_]) (wr := hsW g h0 h1 cnt nx sa ++ tunW g a2 p2 T2) mf_X6_requireSection ml_X6_105 in_X6_requireSection se_X6_requireSection cf6 gp0 (c_requireSection l g k rd h0 tr eo a b T P hn hc hl0 s0) rfl rfl rfl dX6_setFan_2 rfl rfl rfl (by decide) (Nat.le_of_ble_eq_true rfl) ⟨(Nat.le_of_ble_eq_true rfl), (Nat.le_of_ble_eq_true rfl)⟩ ⟨(Nat.le_of_ble_eq_true rfl), (Nat.le_of_ble_eq_true rfl)⟩ (XX_app (wr := hsW g h0 h1 cnt nx sa ++ tunW g a2 p2 T2) (fun E h => orX_s h)) (fun v2 w2 q2 => ?_)
  obtain ⟨o1, rfl, rfl⟩ := q2
  refine A_sub [11, 12, 13, 14, 15, 16, 17, 18, 19, 20, 21, 22, 23, 24, 25, 26, 0, 1, 2, 3, 4, 5, 6, 7, 8, 9, 10] (ws2 := (dkW g k rd h0 tr eo a b (T) (P) ++ (hsW g h0 h1 (cnt) (nx) sa ++ tunW g a2 (p2) (T2)))) rfl rfl ?_
  refine A_iload_n ok.b rfl dX6_setFan_5 (gps (gps gp0)) ?_
  refine A_bipush ok.b (v := (-10)) dX6_setFan_6 (by decide) ?_
  refine A_icmp_lt ok.b (tgt := 17) dX6_setFan_8 (by decide) (fun c8 => ?_) (fun c8 => ?_)
  · skip
    refine A_throw2 ok hl0 (names := nmsX) (ik := 55) (is := 184) (ic := 59) (by decide +kernel) (by decide +kernel) xk_55 xi_IAE (List.mem_of_getElem? (i := 3) rfl) xa_59 cc_IAE dX6_setFan_17 dX6_setFan_20 dX6_setFan_21 dX6_setFan_23 dX6_setFan_26 (Nat.le_of_ble_eq_true rfl) (Nat.le_of_ble_eq_true rfl) (Nat.le_of_ble_eq_true rfl) (Nat.le_of_ble_eq_true rfl) ?_
    exact ⟨by rw [orX_n o1, orX, setX, if_pos (Or.inl c8), if_neg nofun], List.Perm.refl _⟩
  · skip
    refine A_iload_n ok.b rfl dX6_setFan_11 (gps (gps gp0)) ?_
    refine A_bipush ok.b (v := 10) dX6_setFan_12 (by decide) ?_
    refine A_icmp_le ok.b (tgt := 27) dX6_setFan_14 (by decide) (fun c14 => ?_) (fun c14 => ?_)
    · skip
      have o2 : setX x0 = none := by rw [setX, if_neg (fun h => h.elim c8 (Int32.not_lt.mpr c14))]
      refine A_aload_n ok.b rfl dX6_setFan_27 gp0 ?_
      refine A_iload_n ok.b rfl dX6_setFan_28 (gps gp0) ?_
      refine A_callVR ok [0, 1, 2, 3, 4, 5, 6, 7, 8, 9, 10, 11, 12, 13, 14, 15] [16, 17, 18, 19, 20, 21, 22, 23, 24, 25, 26] (As := [_]) (wr := hsW g h0 h1 cnt nx sa ++ tunW g a2 p2 T2) mf_X6_requireFan ml_X6_125 in_X6_requireFan se_X6_requireFan cf6 gp0 (c_requireFan l g k rd h0 tr eo a b T P hn hc hl0 s0 (secX_inn hn o1)) rfl rfl rfl dX6_setFan_29 rfl rfl rfl (by decide) (Nat.le_of_ble_eq_true rfl) ⟨(Nat.le_of_ble_eq_true rfl), (Nat.le_of_ble_eq_true rfl)⟩ ⟨(Nat.le_of_ble_eq_true rfl), (Nat.le_of_ble_eq_true rfl)⟩ (XX_app (wr := hsW g h0 h1 cnt nx sa ++ tunW g a2 p2 T2) (fun E h => by rw [orX_n o1, orX_n o2]; exact h)) (fun v29 w29 q29 => ?_)
      obtain ⟨o3, rfl, rfl⟩ := q29
      refine A_sub [11, 12, 13, 14, 15, 16, 17, 18, 19, 20, 21, 22, 23, 24, 25, 26, 0, 1, 2, 3, 4, 5, 6, 7, 8, 9, 10] (ws2 := (dkW g k rd h0 tr eo a b (T) (P) ++ (hsW g h0 h1 (cnt) (nx) sa ++ tunW g a2 (p2) (T2)))) rfl rfl ?_
      refine A_aload_n ok.b rfl dX6_setFan_32 gp0 ?_
      refine A_getf ok.b cf6 1 (by decide) fl_X6_24 gp0 (gps gp0) dX6_setFan_33 ?_
      refine A_aload_n ok.b rfl dX6_setFan_36 gp0 ?_
      refine A_getf ok.b cf6 2 (by decide) fl_X6_31 gp0 (gps (gps gp0)) dX6_setFan_37 ?_
      refine A_callVR ok [16, 17, 18, 19, 20, 21, 22, 23, 24, 25, 26, 1, 2, 3, 4, 5, 6, 7, 8, 9] [0, 10, 11, 12, 13, 14, 15] (As := [_]) (wr := ([(k, .inr (6, [.ref rd, .ref h0, .ref (a 0), .ref tr, .int eo]))] : va_W) ++ planW g b P) mf_X0_save ml_X6_72 in_X0_save se_X0_save cf0 (gps (gps (gps (gps (gps (gps (gps (gps (gps (gps (gps (gps (gps (gps (gps (gps gp0)))))))))))))))) (c_save l g h0 h1 cnt nx sa a2 p2 T2 hcnt hnx hsa a (b 0) T hrd) rfl rfl rfl dX6_setFan_40 rfl rfl rfl (by decide) (Nat.le_of_ble_eq_true rfl) ⟨(Nat.le_of_ble_eq_true rfl), (Nat.le_of_ble_eq_true rfl)⟩ ⟨(Nat.le_of_ble_eq_true rfl), (Nat.le_of_ble_eq_true rfl)⟩ (fun _ _ hx => hx.elim) (fun v40 w40 q40 => ?_)
      obtain ⟨rfl, rfl⟩ := q40
      refine A_sub [0, 18, 19, 20, 21, 22, 23, 24, 25, 26, 1, 2, 3, 4, 5, 6, 7, 8, 9, 10, 11, 12, 13, 14, 15, 16, 17] (ws2 := (dkW g k rd h0 tr eo a b (T) (P) ++ (hsW g h0 h1 (cntS cnt) ((nx + 1) % 8) sa ++ tunW g a2 (b 0) (T)))) rfl rfl ?_
      refine A_aload_n ok.b rfl dX6_setFan_43 gp0 ?_
      refine A_getf ok.b cf6 2 (by decide) fl_X6_31 gp0 (gps (gps gp0)) dX6_setFan_44 ?_
      refine A_getf ok.b cf5 7 (by decide) fl_X6_128 (gps gp0) (gps (gps (gps (gps (gps (gps (gps gp0))))))) dX6_setFan_47 ?_
      refine A_iload_n ok.b rfl dX6_setFan_50 (gps gp0) ?_
      refine A_iload_n ok.b rfl dX6_setFan_51 (gps (gps gp0)) ?_
      refine A_iast ok.b (gps (gps (gps gp0))) (inn_ix hn (by decide) (secX_inn hn o1)) (wps (wps (wps wp0))) dX6_setFan_52 ?_
      refine A_aload_n ok.b rfl dX6_setFan_53 gp0 ?_
      refine A_getf ok.b cf6 2 (by decide) fl_X6_31 gp0 (gps (gps gp0)) dX6_setFan_54 ?_
      refine A_callVR ok [1, 2, 3, 4, 5, 6, 7, 8, 9, 10, 11, 12, 13, 14, 15] [0, 16, 17, 18, 19, 20, 21, 22, 23, 24, 25, 26] (As := []) (wr := ([(k, .inr (6, [.ref rd, .ref h0, .ref (a 0), .ref tr, .int eo]))] : va_W) ++ (hsW g h0 h1 (cntS cnt) ((nx + 1) % 8) sa ++ tunW g a2 (b 0) T)) mf_X5_airFlow ml_X6_95 in_X5_airFlow se_X5_airFlow cf5 (gps gp0) (c_airFlow l g a b (sFan T (upd (tFan T) s0.toNatClampNeg x0)) P hn) rfl rfl rfl dX6_setFan_57 rfl rfl rfl (by decide) (Nat.le_of_ble_eq_true rfl) ⟨(Nat.le_of_ble_eq_true rfl), (Nat.le_of_ble_eq_true rfl)⟩ ⟨(Nat.le_of_ble_eq_true rfl), (Nat.le_of_ble_eq_true rfl)⟩ (fun _ _ hx => hx.elim) (fun v57 w57 q57 => ?_)
      obtain ⟨rfl, rfl⟩ := q57
      refine A_sub [0, 12, 13, 14, 15, 16, 17, 18, 19, 20, 21, 22, 23, 24, 25, 26, 1, 2, 3, 4, 5, 6, 7, 8, 9, 10, 11] (ws2 := (dkW g k rd h0 tr eo a b (sFan T (upd (tFan T) s0.toNatClampNeg x0)) (P) ++ (hsW g h0 h1 (cntS cnt) ((nx + 1) % 8) sa ++ tunW g a2 (b 0) (T)))) rfl rfl ?_
      refine A_iret ok dX6_setFan_60 (Nat.le_of_ble_eq_true rfl) (Nat.le_of_ble_eq_true rfl) ?_
      exact ⟨by rw [orX_n o1, orX_n o2]; exact o3, rfl, rfl⟩
    · skip
      refine A_throw2 ok hl0 (names := nmsX) (ik := 55) (is := 184) (ic := 59) (by decide +kernel) (by decide +kernel) xk_55 xi_IAE (List.mem_of_getElem? (i := 3) rfl) xa_59 cc_IAE dX6_setFan_17 dX6_setFan_20 dX6_setFan_21 dX6_setFan_23 dX6_setFan_26 (Nat.le_of_ble_eq_true rfl) (Nat.le_of_ble_eq_true rfl) (Nat.le_of_ble_eq_true rfl) (Nat.le_of_ble_eq_true rfl) ?_
      exact ⟨by rw [orX_n o1, orX, setX, if_pos (Or.inr (Int32.not_le.mp c14)), if_neg nofun], List.Perm.refl _⟩
def fireX (P : PD) (s : Int32) : Option String := if s = -1 then none else secX P s
set_option maxRecDepth 20000 in
set_option maxHeartbeats 2000000 in
theorem c_setFire (l : Launch) (g : Gl) (k rd h0 tr : Nat) (eo : Int32) (a b : Nat → Nat) (T : TD) (P : PD) (hn : pN P ≤ 12) (hc : pCar P ≤ 20) (hl0 : l.stackTraces = false) (hrd : ∀ j, j < 24 → tRed T j = 0 ∨ tRed T j = 1) (h1 : Nat) (cnt nx : Nat) (sa : Nat → Nat) (a2 : Nat → Nat) (p2 : Nat) (T2 : TD) (hcnt : cnt ≤ 8) (hnx : nx < 8) (hsa : sa nx = a2 0) (s0 : Int32) : Ct l g yX6_setFire cX6_setFire 3 (some .int) 7 480 3 18 [.ref k, .int s0] (dkW g k rd h0 tr eo a b (T) (P) ++ (hsW g h0 h1 (cnt) (nx) sa ++ tunW g a2 (p2) (T2))) (fun v w => (fireX P s0) = none ∧ v = some (.int (tFire T)) ∧ w = (dkW g k rd h0 tr eo a b (sFire T s0) (P) ++ (hsW g h0 h1 (cntS cnt) ((nx + 1) % 8) sa ++ tunW g a2 (b 0) (T)))) (XX (dkW g k rd h0 tr eo a b (T) (P) ++ (hsW g h0 h1 (cnt) (nx) sa ++ tunW g a2 (p2) (T2))) ((fireX P s0))) := by
  refine Ct.intro [some (.ref k), some (.int s0), none] (by decide +kernel) (fun _ h => h) (Nat.le_of_ble_eq_true rfl) (fun A H0 K ok => ?_)
  refine A_iload_n ok.b rfl dX6_setFire_0 (gps gp0) ?_
  refine A_iconst ok.b (v := (-1)) dX6_setFire_1 (by decide) ?_
  refine A_icmp_eq ok.b (tgt := 10) dX6_setFire_2 (by decide) (fun c2 => ?_) (fun c2 => ?_)
  · skip
    refine A_aload_n ok.b rfl dX6_setFire_10 gp0 ?_
    refine A_getf ok.b cf6 1 (by decide) fl_X6_24 gp0 (gps gp0) dX6_setFire_11 ?_
    refine A_aload_n ok.b rfl dX6_setFire_14 gp0 ?_
    refine A_getf ok.b cf6 2 (by decide) fl_X6_31 gp0 (gps (gps gp0)) dX6_setFire_15 ?_
    refine A_callVR ok [16, 17, 18, 19, 20, 21, 22, 23, 24, 25, 26, 1, 2, 3, 4, 5, 6, 7, 8, 9] [0, 10, 11, 12, 13, 14, 15] (As := [_]) (wr := ([(k, .inr (6, [.ref rd, .ref h0, .ref (a 0), .ref tr, .int eo]))] : va_W) ++ planW g b P) mf_X0_save ml_X6_72 in_X0_save se_X0_save cf0 (gps (gps (gps (gps (gps (gps (gps (gps (gps (gps (gps (gps (gps (gps (gps (gps gp0)))))))))))))))) (c_save l g h0 h1 cnt nx sa a2 p2 T2 hcnt hnx hsa a (b 0) T hrd) rfl rfl rfl dX6_setFire_18 rfl rfl rfl (by decide) (Nat.le_of_ble_eq_true rfl) ⟨(Nat.le_of_ble_eq_true rfl), (Nat.le_of_ble_eq_true rfl)⟩ ⟨(Nat.le_of_ble_eq_true rfl), (Nat.le_of_ble_eq_true rfl)⟩ (fun _ _ hx => hx.elim) (fun v18 w18 q18 => ?_)
    obtain ⟨rfl, rfl⟩ := q18
    refine A_sub [0, 18, 19, 20, 21, 22, 23, 24, 25, 26, 1, 2, 3, 4, 5, 6, 7, 8, 9, 10, 11, 12, 13, 14, 15, 16, 17] (ws2 := (dkW g k rd h0 tr eo a b (T) (P) ++ (hsW g h0 h1 (cntS cnt) ((nx + 1) % 8) sa ++ tunW g a2 (b 0) (T)))) rfl rfl ?_
    refine A_aload_n ok.b rfl dX6_setFire_21 gp0 ?_
    refine A_getf ok.b cf6 2 (by decide) fl_X6_31 gp0 (gps (gps gp0)) dX6_setFire_22 ?_
    refine A_getf ok.b cf5 2 (by decide) fl_X6_102 (gps gp0) (gps (gps gp0)) dX6_setFire_25 ?_
    refine A_istore_n ok.b rfl dX6_setFire_28 (by decide) (sts (sts1 rfl st0)) ?_
    refine A_aload_n ok.b rfl dX6_setFire_29 gp0 ?_
    refine A_getf ok.b cf6 2 (by decide) fl_X6_31 gp0 (gps (gps gp0)) dX6_setFire_30 ?_
    refine A_iload_n ok.b rfl dX6_setFire_33 (gps gp0) ?_
    refine A_putf ok.b cf5 2 (by decide) rfl fl_X6_102 (gps gp0) rfl rfl (gp_lt (gps (gps gp0))) (wps (wps wp0)) (wps wp0) dX6_setFire_34 ?_
    refine A_iload_n ok.b rfl dX6_setFire_37 (gps (gps gp0)) ?_
    refine A_iret ok dX6_setFire_38 (Nat.le_of_ble_eq_true rfl) (Nat.le_of_ble_eq_true rfl) ?_
    exact ⟨by rw [fireX, if_pos c2], rfl, rfl⟩
  · skip
    refine A_aload_n ok.b rfl dX6_setFire_5 gp0 ?_
    refine A_iload_n ok.b rfl dX6_setFire_6 (gps gp0) ?_
    refine A_callVR ok [0, 1, 2, 3, 4, 5, 6, 7, 8, 9, 10, 11, 12, 13, 14, 15] [16, 17, 18, 19, 20, 21, 22, 23, 24, 25, 26] (As := [_]) (wr := hsW g h0 h1 cnt nx sa ++ tunW g a2 p2 T2) mf_X6_requireSection ml_X6_105 in_X6_requireSection se_X6_requireSection cf6 gp0 (c_requireSection l g k rd h0 tr eo a b T P hn hc hl0 s0) rfl rfl rfl dX6_setFire_7 rfl rfl rfl (by decide) (Nat.le_of_ble_eq_true rfl) ⟨(Nat.le_of_ble_eq_true rfl), (Nat.le_of_ble_eq_true rfl)⟩ ⟨(Nat.le_of_ble_eq_true rfl), (Nat.le_of_ble_eq_true rfl)⟩ (XX_app (wr := hsW g h0 h1 cnt nx sa ++ tunW g a2 p2 T2) (fun E h => by rw [fireX, if_neg c2]; exact h)) (fun v7 w7 q7 => ?_)
    obtain ⟨o1, rfl, rfl⟩ := q7
    refine A_sub [11, 12, 13, 14, 15, 16, 17, 18, 19, 20, 21, 22, 23, 24, 25, 26, 0, 1, 2, 3, 4, 5, 6, 7, 8, 9, 10] (ws2 := (dkW g k rd h0 tr eo a b (T) (P) ++ (hsW g h0 h1 (cnt) (nx) sa ++ tunW g a2 (p2) (T2)))) rfl rfl ?_
    refine A_aload_n ok.b rfl dX6_setFire_10 gp0 ?_
    refine A_getf ok.b cf6 1 (by decide) fl_X6_24 gp0 (gps gp0) dX6_setFire_11 ?_
    refine A_aload_n ok.b rfl dX6_setFire_14 gp0 ?_
    refine A_getf ok.b cf6 2 (by decide) fl_X6_31 gp0 (gps (gps gp0)) dX6_setFire_15 ?_
    refine A_callVR ok [16, 17, 18, 19, 20, 21, 22, 23, 24, 25, 26, 1, 2, 3, 4, 5, 6, 7, 8, 9] [0, 10, 11, 12, 13, 14, 15] (As := [_]) (wr := ([(k, .inr (6, [.ref rd, .ref h0, .ref (a 0), .ref tr, .int eo]))] : va_W) ++ planW g b P) mf_X0_save ml_X6_72 in_X0_save se_X0_save cf0 (gps (gps (gps (gps (gps (gps (gps (gps (gps (gps (gps (gps (gps (gps (gps (gps gp0)))))))))))))))) (c_save l g h0 h1 cnt nx sa a2 p2 T2 hcnt hnx hsa a (b 0) T hrd) rfl rfl rfl dX6_setFire_18 rfl rfl rfl (by decide) (Nat.le_of_ble_eq_true rfl) ⟨(Nat.le_of_ble_eq_true rfl), (Nat.le_of_ble_eq_true rfl)⟩ ⟨(Nat.le_of_ble_eq_true rfl), (Nat.le_of_ble_eq_true rfl)⟩ (fun _ _ hx => hx.elim) (fun v18 w18 q18 => ?_)
    obtain ⟨rfl, rfl⟩ := q18
    refine A_sub [0, 18, 19, 20, 21, 22, 23, 24, 25, 26, 1, 2, 3, 4, 5, 6, 7, 8, 9, 10, 11, 12, 13, 14, 15, 16, 17] (ws2 := (dkW g k rd h0 tr eo a b (T) (P) ++ (hsW g h0 h1 (cntS cnt) ((nx + 1) % 8) sa ++ tunW g a2 (b 0) (T)))) rfl rfl ?_
    refine A_aload_n ok.b rfl dX6_setFire_21 gp0 ?_
    refine A_getf ok.b cf6 2 (by decide) fl_X6_31 gp0 (gps (gps gp0)) dX6_setFire_22 ?_
    refine A_getf ok.b cf5 2 (by decide) fl_X6_102 (gps gp0) (gps (gps gp0)) dX6_setFire_25 ?_
    refine A_istore_n ok.b rfl dX6_setFire_28 (by decide) (sts (sts1 rfl st0)) ?_
    refine A_aload_n ok.b rfl dX6_setFire_29 gp0 ?_
    refine A_getf ok.b cf6 2 (by decide) fl_X6_31 gp0 (gps (gps gp0)) dX6_setFire_30 ?_
    refine A_iload_n ok.b rfl dX6_setFire_33 (gps gp0) ?_
    refine A_putf ok.b cf5 2 (by decide) rfl fl_X6_102 (gps gp0) rfl rfl (gp_lt (gps (gps gp0))) (wps (wps wp0)) (wps wp0) dX6_setFire_34 ?_
    refine A_iload_n ok.b rfl dX6_setFire_37 (gps (gps gp0)) ?_
    refine A_iret ok dX6_setFire_38 (Nat.le_of_ble_eq_true rfl) (Nat.le_of_ble_eq_true rfl) ?_
    exact ⟨by rw [fireX, if_neg c2]; exact o1, rfl, rfl⟩
set_option maxRecDepth 20000 in
set_option maxHeartbeats 2000000 in
theorem c_setSignal (l : Launch) (g : Gl) (k rd h0 tr : Nat) (eo : Int32) (a b : Nat → Nat) (T : TD) (P : PD) (hn : pN P ≤ 12) (hc : pCar P ≤ 20) (hl0 : l.stackTraces = false) (hrd : ∀ j, j < 24 → tRed T j = 0 ∨ tRed T j = 1) (h1 : Nat) (cnt nx : Nat) (sa : Nat → Nat) (a2 : Nat → Nat) (p2 : Nat) (T2 : TD) (hcnt : cnt ≤ 8) (hnx : nx < 8) (hsa : sa nx = a2 0) (s0 d0 x0 : Int32) (hx : x0 = 0 ∨ x0 = 1) : Ct l g yX6_setSignal cX6_setSignal 6 (some .boolean) 7 480 3 18 [.ref k, .int s0, .int d0, .int x0] (dkW g k rd h0 tr eo a b (T) (P) ++ (hsW g h0 h1 (cnt) (nx) sa ++ tunW g a2 (p2) (T2))) (fun v w => (orX (secX P s0) (dirX d0)) = none ∧ v = some (.int (tRed T (lx s0 d0))) ∧ w = (dkW g k rd h0 tr eo a b (sRed T (upd (tRed T) (lx s0 d0) x0)) (P) ++ (hsW g h0 h1 (cntS cnt) ((nx + 1) % 8) sa ++ tunW g a2 (b 0) (T)))) (XX (dkW g k rd h0 tr eo a b (T) (P) ++ (hsW g h0 h1 (cnt) (nx) sa ++ tunW g a2 (p2) (T2))) ((orX (secX P s0) (dirX d0)))) := by
  refine Ct.intro [some (.ref k), some (.int s0), some (.int d0), some (.int x0), none, none] (by decide +kernel) (fun _ h => h) (Nat.le_of_ble_eq_true rfl) (fun A H0 K ok => ?_)
  refine A_aload_n ok.b rfl dX6_setSignal_0 gp0 ?_
  refine A_iload_n ok.b rfl dX6_setSignal_1 (gps gp0) ?_
  refine A_callVR ok [0, 1, 2, 3, 4, 5, 6, 7, 8, 9, 10, 11, 12, 13, 14, 15] [16, 17, 18, 19, 20, 21, 22, 23, 24, 25, 26] (As := [_]) (wr := hsW g h0 h1 cnt nx sa ++ tunW g a2 p2 T2) mf_X6_requireSection ml_X6_105 in_X6_requireSection se_X6_requireSection cf6 gp0 (c_requireSection l g k rd h0 tr eo a b T P hn hc hl0 s0) rfl rfl rfl dX6_setSignal_2 rfl rfl rfl (by decide) (Nat.le_of_ble_eq_true rfl) ⟨(Nat.le_of_ble_eq_true rfl), (Nat.le_of_ble_eq_true rfl)⟩ ⟨(Nat.le_of_ble_eq_true rfl), (Nat.le_of_ble_eq_true rfl)⟩ (XX_app (wr := hsW g h0 h1 cnt nx sa ++ tunW g a2 p2 T2) (fun E h => orX_s h)) (fun v2 w2 q2 => ?_)
  obtain ⟨o1, rfl, rfl⟩ := q2
  refine A_sub [11, 12, 13, 14, 15, 16, 17, 18, 19, 20, 21, 22, 23, 24, 25, 26, 0, 1, 2, 3, 4, 5, 6, 7, 8, 9, 10] (ws2 := (dkW g k rd h0 tr eo a b (T) (P) ++ (hsW g h0 h1 (cnt) (nx) sa ++ tunW g a2 (p2) (T2)))) rfl rfl ?_
  refine A_iload_n ok.b rfl dX6_setSignal_5 (gps (gps gp0)) ?_
  refine A_callSR ok [] [0, 1, 2, 3, 4, 5, 6, 7, 8, 9, 10, 11, 12, 13, 14, 15, 16, 17, 18, 19, 20, 21, 22, 23, 24, 25, 26] (As := [_]) (wr := (dkW g k rd h0 tr eo a b (T) (P) ++ (hsW g h0 h1 (cnt) (nx) sa ++ tunW g a2 (p2) (T2)))) mf_X6_requireDirection ml_X6_135 rfl sc_X6_requireDirection  (c_requireDirection l g d0 hl0) rfl rfl rfl dX6_setSignal_6 rfl rfl rfl (by decide) (Nat.le_of_ble_eq_true rfl) ⟨(Nat.le_of_ble_eq_true rfl), (Nat.le_of_ble_eq_true rfl)⟩ ⟨(Nat.le_of_ble_eq_true rfl), (Nat.le_of_ble_eq_true rfl)⟩ (XX_app (W := []) (wr := (dkW g k rd h0 tr eo a b (T) (P) ++ (hsW g h0 h1 (cnt) (nx) sa ++ tunW g a2 (p2) (T2)))) (fun E h => by rw [orX_n o1]; exact h)) (fun v6 w6 q6 => ?_)
  obtain ⟨o2, rfl, rfl⟩ := q6
  refine A_sub [0, 1, 2, 3, 4, 5, 6, 7, 8, 9, 10, 11, 12, 13, 14, 15, 16, 17, 18, 19, 20, 21, 22, 23, 24, 25, 26] (ws2 := (dkW g k rd h0 tr eo a b (T) (P) ++ (hsW g h0 h1 (cnt) (nx) sa ++ tunW g a2 (p2) (T2)))) rfl rfl ?_
  refine A_aload_n ok.b rfl dX6_setSignal_9 gp0 ?_
  refine A_getf ok.b cf6 1 (by decide) fl_X6_24 gp0 (gps gp0) dX6_setSignal_10 ?_
  refine A_aload_n ok.b rfl dX6_setSignal_13 gp0 ?_
  refine A_getf ok.b cf6 2 (by decide) fl_X6_31 gp0 (gps (gps gp0)) dX6_setSignal_14 ?_
  refine A_callVR ok [16, 17, 18, 19, 20, 21, 22, 23, 24, 25, 26, 1, 2, 3, 4, 5, 6, 7, 8, 9] [0, 10, 11, 12, 13, 14, 15] (As := [_]) (wr := ([(k, .inr (6, [.ref rd, .ref h0, .ref (a 0), .ref tr, .int eo]))] : va_W) ++ planW g b P) mf_X0_save ml_X6_72 in_X0_save se_X0_save cf0 (gps (gps (gps (gps (gps (gps (gps (gps (gps (gps (gps (gps (gps (gps (gps (gps gp0)))))))))))))))) (c_save l g h0 h1 cnt nx sa a2 p2 T2 hcnt hnx hsa a (b 0) T hrd) rfl rfl rfl dX6_setSignal_17 rfl rfl rfl (by decide) (Nat.le_of_ble_eq_true rfl) ⟨(Nat.le_of_ble_eq_true rfl), (Nat.le_of_ble_eq_true rfl)⟩ ⟨(Nat.le_of_ble_eq_true rfl), (Nat.le_of_ble_eq_true rfl)⟩ (fun _ _ hx => hx.elim) (fun v17 w17 q17 => ?_)
  obtain ⟨rfl, rfl⟩ := q17
  refine A_sub [0, 18, 19, 20, 21, 22, 23, 24, 25, 26, 1, 2, 3, 4, 5, 6, 7, 8, 9, 10, 11, 12, 13, 14, 15, 16, 17] (ws2 := (dkW g k rd h0 tr eo a b (T) (P) ++ (hsW g h0 h1 (cntS cnt) ((nx + 1) % 8) sa ++ tunW g a2 (b 0) (T)))) rfl rfl ?_
  refine A_iload_n ok.b rfl dX6_setSignal_20 (gps gp0) ?_
  refine A_iload_n ok.b rfl dX6_setSignal_21 (gps (gps gp0)) ?_
  refine A_pureS ok.b (As := [_, _]) mf_X6_laneIndex ml_X6_142 rfl sc_X6_laneIndex (c_laneIndex l g _ _) rfl rfl dX6_setSignal_22 (Nat.le_of_ble_eq_true rfl) ⟨(Nat.le_of_ble_eq_true rfl), (Nat.le_of_ble_eq_true rfl)⟩ ⟨(Nat.le_of_ble_eq_true rfl), (Nat.le_of_ble_eq_true rfl)⟩ ?_
  refine A_istore ok.b dX6_setSignal_25 (by decide) (sts (sts (sts (sts1 rfl st0)))) ?_
  refine A_aload_n ok.b rfl dX6_setSignal_27 gp0 ?_
  refine A_getf ok.b cf6 2 (by decide) fl_X6_31 gp0 (gps (gps gp0)) dX6_setSignal_28 ?_
  refine A_getf ok.b cf5 9 (by decide) fl_X6_138 (gps gp0) (gps (gps (gps (gps (gps (gps (gps (gps (gps gp0))))))))) dX6_setSignal_31 ?_
  refine A_iload ok.b dX6_setSignal_34 (gps (gps (gps (gps gp0)))) ?_
  refine A_zald ok.b (gps (gps (gps (gps (gps gp0))))) (lx_ix hn (secX_inn hn o1) _) dX6_setSignal_36 ?_
  refine A_istore ok.b dX6_setSignal_37 (by decide) (sts (sts (sts (sts (sts1 rfl st0))))) ?_
  refine A_aload_n ok.b rfl dX6_setSignal_39 gp0 ?_
  refine A_getf ok.b cf6 2 (by decide) fl_X6_31 gp0 (gps (gps gp0)) dX6_setSignal_40 ?_
  refine A_getf ok.b cf5 9 (by decide) fl_X6_138 (gps gp0) (gps (gps (gps (gps (gps (gps (gps (gps (gps gp0))))))))) dX6_setSignal_43 ?_
  refine A_iload ok.b dX6_setSignal_46 (gps (gps (gps (gps gp0)))) ?_
  refine A_iload_n ok.b rfl dX6_setSignal_48 (gps (gps (gps gp0))) ?_
  refine A_zast ok.b (gps (gps (gps (gps (gps gp0))))) (lx_ix hn (secX_inn hn o1) _) (wps (wps (wps (wps (wps wp0))))) dX6_setSignal_49 ?_
  rw [nar_b hx]
  refine A_iload ok.b dX6_setSignal_50 (gps (gps (gps (gps (gps gp0))))) ?_
  refine A_zret ok dX6_setSignal_52 (hrd _ (lx_lt hn (secX_inn hn o1) _)) (Nat.le_of_ble_eq_true rfl) (Nat.le_of_ble_eq_true rfl) ?_
  exact ⟨by rw [orX_n o1]; exact o2, rfl, rfl⟩
def bayX (T : TD) (s : Int32) : Option String := if tBay T s.toNatClampNeg = -1 then some ISE else none
set_option maxRecDepth 20000 in
set_option maxHeartbeats 2000000 in
theorem c_setBay (l : Launch) (g : Gl) (k rd h0 tr : Nat) (eo : Int32) (a b : Nat → Nat) (T : TD) (P : PD) (hn : pN P ≤ 12) (hc : pCar P ≤ 20) (hl0 : l.stackTraces = false) (hrd : ∀ j, j < 24 → tRed T j = 0 ∨ tRed T j = 1) (h1 : Nat) (cnt nx : Nat) (sa : Nat → Nat) (a2 : Nat → Nat) (p2 : Nat) (T2 : TD) (hcnt : cnt ≤ 8) (hnx : nx < 8) (hsa : sa nx = a2 0) (s0 x0 : Int32) : Ct l g yX6_setBay cX6_setBay 4 (some .boolean) 7 480 3 18 [.ref k, .int s0, .int x0] (dkW g k rd h0 tr eo a b (T) (P) ++ (hsW g h0 h1 (cnt) (nx) sa ++ tunW g a2 (p2) (T2))) (fun v w => (orX (secX P s0) (bayX T s0)) = none ∧ v = some (.int (if tBay T s0.toNatClampNeg = 1 then 1 else 0)) ∧ w = (dkW g k rd h0 tr eo a b (sBay T (upd (tBay T) s0.toNatClampNeg (if x0 = 0 then 0 else 1))) (P) ++ (hsW g h0 h1 (cntS cnt) ((nx + 1) % 8) sa ++ tunW g a2 (b 0) (T)))) (XX (dkW g k rd h0 tr eo a b (T) (P) ++ (hsW g h0 h1 (cnt) (nx) sa ++ tunW g a2 (p2) (T2))) ((orX (secX P s0) (bayX T s0)))) := by
  refine Ct.intro [some (.ref k), some (.int s0), some (.int x0), none] (by decide +kernel) (fun _ h => h) (Nat.le_of_ble_eq_true rfl) (fun A H0 K ok => ?_)
  refine A_aload_n ok.b rfl dX6_setBay_0 gp0 ?_
  refine A_iload_n ok.b rfl dX6_setBay_1 (gps gp0) ?_
  refine A_callVR ok [0, 1, 2, 3, 4, 5, 6, 7, 8, 9, 10, 11, 12, 13, 14, 15] [16, 17, 18, 19, 20, 21, 22, 23, 24, 25, 26] (As := [_]) (wr := hsW g h0 h1 cnt nx sa ++ tunW g a2 p2 T2) mf_X6_requireSection ml_X6_105 in_X6_requireSection se_X6_requireSection cf6 gp0 (c_requireSection l g k rd h0 tr eo a b T P hn hc hl0 s0) rfl rfl rfl dX6_setBay_2 rfl rfl rfl (by decide) (Nat.le_of_ble_eq_true rfl) ⟨(Nat.le_of_ble_eq_true rfl), (Nat.le_of_ble_eq_true rfl)⟩ ⟨(Nat.le_of_ble_eq_true rfl), (Nat.le_of_ble_eq_true rfl)⟩ (XX_app (wr := hsW g h0 h1 cnt nx sa ++ tunW g a2 p2 T2) (fun E h => orX_s h)) (fun v2 w2 q2 => ?_)
  obtain ⟨o1, rfl, rfl⟩ := q2
  refine A_sub [11, 12, 13, 14, 15, 16, 17, 18, 19, 20, 21, 22, 23, 24, 25, 26, 0, 1, 2, 3, 4, 5, 6, 7, 8, 9, 10] (ws2 := (dkW g k rd h0 tr eo a b (T) (P) ++ (hsW g h0 h1 (cnt) (nx) sa ++ tunW g a2 (p2) (T2)))) rfl rfl ?_
  refine A_aload_n ok.b rfl dX6_setBay_5 gp0 ?_
  refine A_getf ok.b cf6 2 (by decide) fl_X6_31 gp0 (gps (gps gp0)) dX6_setBay_6 ?_
  refine A_getf ok.b cf5 8 (by decide) fl_X6_132 (gps gp0) (gps (gps (gps (gps (gps (gps (gps (gps gp0)))))))) dX6_setBay_9 ?_
  refine A_iload_n ok.b rfl dX6_setBay_12 (gps gp0) ?_
  refine A_iald ok.b (gps (gps (gps (gps gp0)))) (inn_ix hn (by decide) (secX_inn hn o1)) dX6_setBay_13 ?_
  refine A_iconst ok.b (v := (-1)) dX6_setBay_14 (by decide) ?_
  refine A_icmp_ne ok.b (tgt := 28) dX6_setBay_15 (by decide) (fun c15 => ?_) (fun c15 => ?_)
  · skip
    refine A_aload_n ok.b rfl dX6_setBay_28 gp0 ?_
    refine A_getf ok.b cf6 1 (by decide) fl_X6_24 gp0 (gps gp0) dX6_setBay_29 ?_
    refine A_aload_n ok.b rfl dX6_setBay_32 gp0 ?_
    refine A_getf ok.b cf6 2 (by decide) fl_X6_31 gp0 (gps (gps gp0)) dX6_setBay_33 ?_
    refine A_callVR ok [16, 17, 18, 19, 20, 21, 22, 23, 24, 25, 26, 1, 2, 3, 4, 5, 6, 7, 8, 9] [0, 10, 11, 12, 13, 14, 15] (As := [_]) (wr := ([(k, .inr (6, [.ref rd, .ref h0, .ref (a 0), .ref tr, .int eo]))] : va_W) ++ planW g b P) mf_X0_save ml_X6_72 in_X0_save se_X0_save cf0 (gps (gps (gps (gps (gps (gps (gps (gps (gps (gps (gps (gps (gps (gps (gps (gps gp0)))))))))))))))) (c_save l g h0 h1 cnt nx sa a2 p2 T2 hcnt hnx hsa a (b 0) T hrd) rfl rfl rfl dX6_setBay_36 rfl rfl rfl (by decide) (Nat.le_of_ble_eq_true rfl) ⟨(Nat.le_of_ble_eq_true rfl), (Nat.le_of_ble_eq_true rfl)⟩ ⟨(Nat.le_of_ble_eq_true rfl), (Nat.le_of_ble_eq_true rfl)⟩ (fun _ _ hx => hx.elim) (fun v36 w36 q36 => ?_)
    obtain ⟨rfl, rfl⟩ := q36
    refine A_sub [0, 18, 19, 20, 21, 22, 23, 24, 25, 26, 1, 2, 3, 4, 5, 6, 7, 8, 9, 10, 11, 12, 13, 14, 15, 16, 17] (ws2 := (dkW g k rd h0 tr eo a b (T) (P) ++ (hsW g h0 h1 (cntS cnt) ((nx + 1) % 8) sa ++ tunW g a2 (b 0) (T)))) rfl rfl ?_
    refine A_aload_n ok.b rfl dX6_setBay_39 gp0 ?_
    refine A_getf ok.b cf6 2 (by decide) fl_X6_31 gp0 (gps (gps gp0)) dX6_setBay_40 ?_
    refine A_getf ok.b cf5 8 (by decide) fl_X6_132 (gps gp0) (gps (gps (gps (gps (gps (gps (gps (gps gp0)))))))) dX6_setBay_43 ?_
    refine A_iload_n ok.b rfl dX6_setBay_46 (gps gp0) ?_
    refine A_iald ok.b (gps (gps (gps (gps gp0)))) (inn_ix hn (by decide) (secX_inn hn o1)) dX6_setBay_47 ?_
    refine A_iconst ok.b (v := 1) dX6_setBay_48 (by decide) ?_
    refine A_icmp_ne ok.b (tgt := 56) dX6_setBay_49 (by decide) (fun c49 => ?_) (fun c49 => ?_)
    · skip
      refine A_iconst ok.b (v := 0) dX6_setBay_56 (by decide) ?_
      refine A_istore_n ok.b rfl dX6_setBay_57 (by decide) (sts (sts (sts1 rfl st0))) ?_
      refine A_aload_n ok.b rfl dX6_setBay_58 gp0 ?_
      refine A_getf ok.b cf6 2 (by decide) fl_X6_31 gp0 (gps (gps gp0)) dX6_setBay_59 ?_
      refine A_getf ok.b cf5 8 (by decide) fl_X6_132 (gps gp0) (gps (gps (gps (gps (gps (gps (gps (gps gp0)))))))) dX6_setBay_62 ?_
      refine A_iload_n ok.b rfl dX6_setBay_65 (gps gp0) ?_
      refine A_iload_n ok.b rfl dX6_setBay_66 (gps (gps gp0)) ?_
      refine A_if_eq ok.b (tgt := 74) dX6_setBay_67 (by decide) (fun c67 => ?_) (fun c67 => ?_)
      · skip
        refine A_iconst ok.b (v := 0) dX6_setBay_74 (by decide) ?_
        refine A_iast ok.b (gps (gps (gps (gps gp0)))) (inn_ix hn (by decide) (secX_inn hn o1)) (wps (wps (wps (wps wp0)))) dX6_setBay_75 ?_
        refine A_iload_n ok.b rfl dX6_setBay_76 (gps (gps (gps gp0))) ?_
        refine A_zret ok dX6_setBay_77 (by decide) (Nat.le_of_ble_eq_true rfl) (Nat.le_of_ble_eq_true rfl) ?_
        exact ⟨by rw [orX_n o1, bayX, if_neg c15], by rw [if_neg c49], by rw [if_pos c67]; rfl⟩
      · skip
        refine A_iconst ok.b (v := 1) dX6_setBay_70 (by decide) ?_
        refine A_goto ok.b (tgt := 75) dX6_setBay_71 (by decide) ?_
        refine A_iast ok.b (gps (gps (gps (gps gp0)))) (inn_ix hn (by decide) (secX_inn hn o1)) (wps (wps (wps (wps wp0)))) dX6_setBay_75 ?_
        refine A_iload_n ok.b rfl dX6_setBay_76 (gps (gps (gps gp0))) ?_
        refine A_zret ok dX6_setBay_77 (by decide) (Nat.le_of_ble_eq_true rfl) (Nat.le_of_ble_eq_true rfl) ?_
        exact ⟨by rw [orX_n o1, bayX, if_neg c15], by rw [if_neg c49], by rw [if_neg c67]; rfl⟩
    · skip
      refine A_iconst ok.b (v := 1) dX6_setBay_52 (by decide) ?_
      refine A_goto ok.b (tgt := 57) dX6_setBay_53 (by decide) ?_
      refine A_istore_n ok.b rfl dX6_setBay_57 (by decide) (sts (sts (sts1 rfl st0))) ?_
      refine A_aload_n ok.b rfl dX6_setBay_58 gp0 ?_
      refine A_getf ok.b cf6 2 (by decide) fl_X6_31 gp0 (gps (gps gp0)) dX6_setBay_59 ?_
      refine A_getf ok.b cf5 8 (by decide) fl_X6_132 (gps gp0) (gps (gps (gps (gps (gps (gps (gps (gps gp0)))))))) dX6_setBay_62 ?_
      refine A_iload_n ok.b rfl dX6_setBay_65 (gps gp0) ?_
      refine A_iload_n ok.b rfl dX6_setBay_66 (gps (gps gp0)) ?_
      refine A_if_eq ok.b (tgt := 74) dX6_setBay_67 (by decide) (fun c67 => ?_) (fun c67 => ?_)
      · skip
        refine A_iconst ok.b (v := 0) dX6_setBay_74 (by decide) ?_
        refine A_iast ok.b (gps (gps (gps (gps gp0)))) (inn_ix hn (by decide) (secX_inn hn o1)) (wps (wps (wps (wps wp0)))) dX6_setBay_75 ?_
        refine A_iload_n ok.b rfl dX6_setBay_76 (gps (gps (gps gp0))) ?_
        refine A_zret ok dX6_setBay_77 (by decide) (Nat.le_of_ble_eq_true rfl) (Nat.le_of_ble_eq_true rfl) ?_
        exact ⟨by rw [orX_n o1, bayX, if_neg c15], by rw [if_pos c49], by rw [if_pos c67]; rfl⟩
      · skip
        refine A_iconst ok.b (v := 1) dX6_setBay_70 (by decide) ?_
        refine A_goto ok.b (tgt := 75) dX6_setBay_71 (by decide) ?_
        refine A_iast ok.b (gps (gps (gps (gps gp0)))) (inn_ix hn (by decide) (secX_inn hn o1)) (wps (wps (wps (wps wp0)))) dX6_setBay_75 ?_
        refine A_iload_n ok.b rfl dX6_setBay_76 (gps (gps (gps gp0))) ?_
        refine A_zret ok dX6_setBay_77 (by decide) (Nat.le_of_ble_eq_true rfl) (Nat.le_of_ble_eq_true rfl) ?_
        exact ⟨by rw [orX_n o1, bayX, if_neg c15], by rw [if_pos c49], by rw [if_neg c67]; rfl⟩
  · skip
    refine A_throw2 ok hl0 (names := nmsX) (ik := 201) (is := 211) (ic := 205) (by decide +kernel) (by decide +kernel) xk_201 xi_ISE (List.mem_of_getElem? (i := 8) rfl) xa_205 cc_ISE dX6_setBay_18 dX6_setBay_21 dX6_setBay_22 dX6_setBay_24 dX6_setBay_27 (Nat.le_of_ble_eq_true rfl) (Nat.le_of_ble_eq_true rfl) (Nat.le_of_ble_eq_true rfl) (Nat.le_of_ble_eq_true rfl) ?_
    exact ⟨by rw [orX_n o1, bayX, if_pos c15], List.Perm.refl _⟩
