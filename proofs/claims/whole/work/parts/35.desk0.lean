set_option maxRecDepth 20000 in
set_option maxHeartbeats 2000000 in
theorem c_X6init (l : Launch) (g : Gl) (q : Nat) : Ct l g yX6_init cX6_init 2 none 3 160 111 3414 [.ref q] [(q, .inr (6, [.null, .null, .null, .null, .int 0]))] (fun v w => ∃ (b r i a c d : Nat → Nat) (h0 h1 : Nat) (at_ : Nat → Nat → Nat), v = none ∧ w = ((((([(q, .inr (6, [.ref (r 0), .ref h0, .ref (c 0), .ref (d 0), .int (-1)]))] ++ planW g b P0) ++ rdT g r i a (b 0) 0 0 (fun _ => 0) RS0) ++ (hs0 g h0 h1 at_ 8 ++ tunsW g at_ (b 0) 8)) ++ tunW g c (b 0) T0) ++ tunW g d (b 0) T0 : va_W)) noX := by
  refine Ct.intro [some (.ref q), none] (by decide +kernel) (fun _ h => h) (Nat.le_of_ble_eq_true rfl) (fun A H0 K ok => ?_)
  refine A_aload_n ok.b rfl dX6_init_0 gp0 ?_
  refine A_objInit ok.b ml_X6_1 dX6_init_1 (Nat.le_of_ble_eq_true rfl) (Nat.le_of_ble_eq_true rfl) ?_
  refine A_new ok.b cf2 cl_X6_7 it_X2 ii_X2 df_X2 (Nat.le_of_ble_eq_true rfl) (Nat.le_of_ble_eq_true rfl) dX6_init_4 (fun q4 => ?_)
  refine A_dup ok.b dX6_init_7 rfl ?_
  refine A_lastINB ok.b (As := []) _ [(q4, .inr (2, [.int 0, .int 0, .int 0, .int 0, .null, .null, .null]))] mf_X2_init (List.mem_of_getElem? (i := 0) rfl) in_X2_init rfl (c_X2init l g _) rfl rfl dX6_init_8 (Nat.le_of_ble_eq_true rfl) ⟨(Nat.le_of_ble_eq_true rfl), (Nat.le_of_ble_eq_true rfl)⟩ ⟨(Nat.le_of_ble_eq_true rfl), (Nat.le_of_ble_eq_true rfl)⟩ (fun _ _ hx => hx.elim) (fun v8 w8 q8 => ?_)
  obtain ⟨b, rfl, rfl, rfl⟩ := q8
  refine A_astore_n ok.b rfl dX6_init_11 (by decide) (sts1 rfl st0) ?_
  refine A_aload_n ok.b rfl dX6_init_12 gp0 ?_
  refine A_new ok.b cf4 cl_X6_10 it_X4 ii_X4 df_X4 (Nat.le_of_ble_eq_true rfl) (Nat.le_of_ble_eq_true rfl) dX6_init_13 (fun q13 => ?_)
  refine A_dup ok.b dX6_init_16 rfl ?_
  refine A_aload_n ok.b rfl dX6_init_17 (gps gp0) ?_
  refine A_lastIB ok.b (As := [_]) _ [(q13, .inr (4, [.null, .null, .int 0, .int 0, .int 0, .int 0, .int 0, .int 0, .int 0, .int 0, .int 0, .int 0, .null]))] mf_X4_init ml_X6_12 in_X4_init rfl (c_X4init l g _ _) rfl rfl dX6_init_18 (Nat.le_of_ble_eq_true rfl) ⟨(Nat.le_of_ble_eq_true rfl), (Nat.le_of_ble_eq_true rfl)⟩ ⟨(Nat.le_of_ble_eq_true rfl), (Nat.le_of_ble_eq_true rfl)⟩ (fun _ _ hx => hx.elim) (fun v18 w18 q18 => ?_)
  obtain ⟨r, i, a, rfl, rfl, rfl⟩ := q18
  refine A_putF ok.b cf6 0 (by decide) rfl rfl fl_X6_15 gp0 rfl rfl (gp_lt gp0) wp0 wp0 dX6_init_21 ?_
  refine A_aload_n ok.b rfl dX6_init_24 gp0 ?_
  refine A_new ok.b cf0 cl_X6_21 it_X0 ii_X0 df_X0 (Nat.le_of_ble_eq_true rfl) (Nat.le_of_ble_eq_true rfl) dX6_init_25 (fun q25 => ?_)
  refine A_dup ok.b dX6_init_28 rfl ?_
  refine A_aload_n ok.b rfl dX6_init_29 (gps gp0) ?_
  refine A_lastIB ok.b (As := [_]) _ [(q25, .inr (0, [.int 0, .int 0, .null]))] mf_X0_init ml_X6_23 in_X0_init rfl (c_X0init l g _ _) rfl rfl dX6_init_30 (Nat.le_of_ble_eq_true rfl) ⟨(Nat.le_of_ble_eq_true rfl), (Nat.le_of_ble_eq_true rfl)⟩ ⟨(Nat.le_of_ble_eq_true rfl), (Nat.le_of_ble_eq_true rfl)⟩ (fun _ _ hx => hx.elim) (fun v30 w30 q30 => ?_)
  obtain ⟨h1, at_, rfl, rfl⟩ := q30
  refine A_putF ok.b cf6 1 (by decide) rfl rfl fl_X6_24 gp0 rfl rfl (gp_lt (gps gp0)) (wps wp0) wp0 dX6_init_33 ?_
  refine A_aload_n ok.b rfl dX6_init_36 gp0 ?_
  refine A_new ok.b cf5 cl_X6_28 it_X5 ii_X5 df_X5 (Nat.le_of_ble_eq_true rfl) (Nat.le_of_ble_eq_true rfl) dX6_init_37 (fun q37 => ?_)
  refine A_dup ok.b dX6_init_40 rfl ?_
  refine A_aload_n ok.b rfl dX6_init_41 (gps gp0) ?_
  refine A_lastIB ok.b (As := [_]) _ [(q37, .inr (5, [.null, .int 0, .int 0, .int 0, .long 0, .long 0, .null, .null, .null, .null, .null, .null, .null, .null]))] mf_X5_init ml_X6_30 in_X5_init rfl (c_X5init l g _ _) rfl rfl dX6_init_42 (Nat.le_of_ble_eq_true rfl) ⟨(Nat.le_of_ble_eq_true rfl), (Nat.le_of_ble_eq_true rfl)⟩ ⟨(Nat.le_of_ble_eq_true rfl), (Nat.le_of_ble_eq_true rfl)⟩ (fun _ _ hx => hx.elim) (fun v42 w42 q42 => ?_)
  obtain ⟨c, rfl, rfl, rfl⟩ := q42
  refine A_putF ok.b cf6 2 (by decide) rfl rfl fl_X6_31 gp0 rfl rfl (gp_lt (gps (gps gp0))) (wps (wps wp0)) wp0 dX6_init_45 ?_
  refine A_aload_n ok.b rfl dX6_init_48 gp0 ?_
  refine A_new ok.b cf5 cl_X6_28 it_X5 ii_X5 df_X5 (Nat.le_of_ble_eq_true rfl) (Nat.le_of_ble_eq_true rfl) dX6_init_49 (fun q49 => ?_)
  refine A_dup ok.b dX6_init_52 rfl ?_
  refine A_aload_n ok.b rfl dX6_init_53 (gps gp0) ?_
  refine A_lastIB ok.b (As := [_]) _ [(q49, .inr (5, [.null, .int 0, .int 0, .int 0, .long 0, .long 0, .null, .null, .null, .null, .null, .null, .null, .null]))] mf_X5_init ml_X6_30 in_X5_init rfl (c_X5init l g _ _) rfl rfl dX6_init_54 (Nat.le_of_ble_eq_true rfl) ⟨(Nat.le_of_ble_eq_true rfl), (Nat.le_of_ble_eq_true rfl)⟩ ⟨(Nat.le_of_ble_eq_true rfl), (Nat.le_of_ble_eq_true rfl)⟩ (fun _ _ hx => hx.elim) (fun v54 w54 q54 => ?_)
  obtain ⟨d, rfl, rfl, rfl⟩ := q54
  refine A_putF ok.b cf6 3 (by decide) rfl rfl fl_X6_35 gp0 rfl rfl (gp_lt (gps (gps (gps gp0)))) (wps (wps (wps wp0))) wp0 dX6_init_57 ?_
  refine A_aload_n ok.b rfl dX6_init_60 gp0 ?_
  refine A_iconst ok.b (v := (-1)) dX6_init_61 (by decide) ?_
  refine A_putf ok.b cf6 4 (by decide) rfl fl_X6_38 gp0 rfl rfl (gp_lt (gps (gps (gps (gps gp0))))) (wps (wps (wps (wps wp0)))) wp0 dX6_init_62 ?_
  refine A_vret ok dX6_init_65 (Nat.le_of_ble_eq_true rfl) (Nat.le_of_ble_eq_true rfl) ?_
  exact ⟨b, r, i, a, c, d, q25, h1, at_, rfl, rfl⟩
