theorem n_1 (j : Nat) : nI j + 1 = nI (j + 1) := nI_1 j
def exR (d : Nat → Int32) (j : Nat) : Int64 := ((d (j + 1)).toInt64 <<< ((32 : Int32).toInt64 &&& 63)) ||| ((d j).toInt64 &&& 4294967295)
set_option maxRecDepth 20000 in
set_option maxHeartbeats 2000000 in
theorem r_exposed (l : Launch) (g : Gl) (q : Nat) (d : Nat → Int32) (j : Nat) (hj : j < 1400) : Ct l g yX7_exposed cX7_exposed 2 (some .long) 0 0 0 0 [.ref q, .int (nI j)] (daW g q d) (fun v w => v = some (.long (exR d j)) ∧ w = daW g q d) noX := by
  refine Ct.intro [some (.ref q), some (.int (nI j))] (by decide +kernel) (fun _ h => h) (Nat.le_of_ble_eq_true rfl) (fun A H0 K ok => ?_)
  refine A_aload_n ok.b rfl dX7_exposed_0 gp0 ?_
  refine A_iload_n ok.b rfl dX7_exposed_1 (gps gp0) ?_
  refine A_iconst ok.b (v := 1) dX7_exposed_2 (by decide) ?_
  refine A_iadd ok.b dX7_exposed_3 ?_
  rw [n_1]
  refine A_iald ok.b gp0 (ix_n (by omega) (by decide)) dX7_exposed_4 ?_
  refine A_i2l ok.b dX7_exposed_5 ?_
  refine A_bipush ok.b (v := 32) dX7_exposed_6 (by decide) ?_
  refine A_lshl ok.b dX7_exposed_8 ?_
  refine A_aload_n ok.b rfl dX7_exposed_9 gp0 ?_
  refine A_iload_n ok.b rfl dX7_exposed_10 (gps gp0) ?_
  refine A_iald ok.b gp0 (ix_n (by omega) (by decide)) dX7_exposed_11 ?_
  refine A_i2l ok.b dX7_exposed_12 ?_
  refine A_ldc2 ok.b dX7_exposed_13 kl_X7_240 ?_
  refine A_land ok.b dX7_exposed_16 ?_
  refine A_lor ok.b dX7_exposed_17 ?_
  refine A_lret ok dX7_exposed_18 (Nat.le_of_ble_eq_true rfl) (Nat.le_of_ble_eq_true rfl) ?_
  exact ⟨rfl, rfl⟩
def xpV (d : Nat → Int32) (j : Nat) (x : Int32) : Int64 := exR d j + x.toInt64
def xpR (d : Nat → Int32) (j : Nat) (x : Int32) : Nat → Int32 := upd (upd d j (xpV d j x).toInt32) (j + 1) (xpV d j x >>> ((32 : Int32).toInt64 &&& 63)).toInt32
set_option maxRecDepth 20000 in
set_option maxHeartbeats 2000000 in
theorem r_expose (l : Launch) (g : Gl) (q : Nat) (d : Nat → Int32) (j : Nat) (hj : j < 1400) (x : Int32) : Ct l g yX7_expose cX7_expose 5 none 1 40 0 0 [.ref q, .int (nI j), .int x] (daW g q d) (fun v w => v = none ∧ w = daW g q (xpR d j x)) noX := by
  refine Ct.intro [some (.ref q), some (.int (nI j)), some (.int x), none, none] (by decide +kernel) (fun _ h => h) (Nat.le_of_ble_eq_true rfl) (fun A H0 K ok => ?_)
  refine A_aload_n ok.b rfl dX7_expose_0 gp0 ?_
  refine A_iload_n ok.b rfl dX7_expose_1 (gps gp0) ?_
  refine A_sameSR ok (As := [_, _]) mf_X7_exposed ml_X7_242 rfl sc_X7_exposed  (r_exposed l g q d j hj) rfl rfl dX7_expose_2 (Nat.le_of_ble_eq_true rfl) ⟨(Nat.le_of_ble_eq_true rfl), (Nat.le_of_ble_eq_true rfl)⟩ ⟨(Nat.le_of_ble_eq_true rfl), (Nat.le_of_ble_eq_true rfl)⟩ (fun _ _ hx => hx.elim) (fun v2 w2 q2 => ?_)
  obtain ⟨rfl, rfl⟩ := q2
  refine A_iload_n ok.b rfl dX7_expose_5 (gps (gps gp0)) ?_
  refine A_i2l ok.b dX7_expose_6 ?_
  refine A_ladd ok.b dX7_expose_7 ?_
  refine A_lstore_n ok.b rfl dX7_expose_8 (by decide) (sts (sts (sts1 rfl st0w))) ?_
  refine A_aload_n ok.b rfl dX7_expose_9 gp0 ?_
  refine A_iload_n ok.b rfl dX7_expose_10 (gps gp0) ?_
  refine A_lload_n ok.b rfl dX7_expose_11 (gps (gps (gps gp0))) ?_
  refine A_l2i ok.b dX7_expose_12 ?_
  refine A_iast ok.b gp0 (ix_n (by omega) (by decide)) wp0 dX7_expose_13 ?_
  refine A_aload_n ok.b rfl dX7_expose_14 gp0 ?_
  refine A_iload_n ok.b rfl dX7_expose_15 (gps gp0) ?_
  refine A_iconst ok.b (v := 1) dX7_expose_16 (by decide) ?_
  refine A_iadd ok.b dX7_expose_17 ?_
  rw [n_1]
  refine A_lload_n ok.b rfl dX7_expose_18 (gps (gps (gps gp0))) ?_
  refine A_bipush ok.b (v := 32) dX7_expose_19 (by decide) ?_
  refine A_lshr ok.b dX7_expose_21 ?_
  refine A_l2i ok.b dX7_expose_22 ?_
  refine A_iast ok.b gp0 (ix_n (by omega) (by decide)) wp0 dX7_expose_23 ?_
  refine A_vret ok dX7_expose_24 (Nat.le_of_ble_eq_true rfl) (Nat.le_of_ble_eq_true rfl) ?_
  exact ⟨rfl, rfl⟩
