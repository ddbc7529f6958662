/-- a byte of a word -/
def byF (x sh : Int32) : Int32 := vp_nar .byte ((x.toUInt32 >>> (sh.toUInt32 &&& Int32.toUInt32 31)).toInt32).toInt8.toInt32
def putW (x : Int32) (n : Nat) (B : Nat → Int32) : Nat → Int32 := upd (upd (upd (upd B n (byF x 24)) (n + 1) (byF x 16)) (n + 2) (byF x 8)) (n + 3) (byF x 0)
set_option maxRecDepth 20000 in
set_option maxHeartbeats 2000000 in
theorem c_putWord (l : Launch) (g : Gl) (i0 i1 : Nat) (k0 s0 v0 x0 l0 x : Int32) (n : Nat) (hn : n + 4 ≤ 800) (B : Nat → Int32) : Ct l g yX1_putWord cX1_putWord 3 none 0 0 0 0 [.ref i0, .int x] (inW g i0 i1 (nI n) k0 s0 v0 x0 l0 B) (fun v w => v = none ∧ w = inW g i0 i1 (nI (n + 4)) k0 s0 v0 x0 l0 (putW x n B)) noX := by
  refine Ct.intro [some (.ref i0), some (.int x), none] (by decide +kernel) (fun _ h => h) (Nat.le_of_ble_eq_true rfl) (fun A H0 K ok => ?_)
  refine A_bipush ok.b (v := 24) dX1_putWord_0 (by decide) ?_
  refine A_istore_n ok.b rfl dX1_putWord_2 (by decide) (sts (sts1 rfl st0)) ?_
  refine A_iload_n ok.b rfl dX1_putWord_3 (gps (gps gp0)) ?_
  refine A_if_lt ok.b (tgt := 46) dX1_putWord_4 (by decide) (fun c4 => ((show False from absurd c4 (by decide))).elim) (fun c4 => ?_)
  refine A_aload_n ok.b rfl dX1_putWord_7 gp0 ?_
  refine A_getf ok.b cf1 0 (by decide) fl_X1_15 gp0 gp0 dX1_putWord_8 ?_
  refine A_sipush ok.b (v := 800) dX1_putWord_11 (by decide) ?_
  refine A_icmp_ge ok.b (tgt := 46) dX1_putWord_14 (by decide) (fun c14 => (nI_ge (a := n + 0) (b := 800) (by omega) (by decide) c14).elim) (fun c14 => ?_)
  refine A_aload_n ok.b rfl dX1_putWord_17 gp0 ?_
  refine A_getf ok.b cf1 6 (by decide) fl_X1_9 gp0 (gps (gps (gps (gps (gps (gps gp0)))))) dX1_putWord_18 ?_
  refine A_aload_n ok.b rfl dX1_putWord_21 gp0 ?_
  refine A_getf ok.b cf1 0 (by decide) fl_X1_15 gp0 gp0 dX1_putWord_22 ?_
  refine A_iload_n ok.b rfl dX1_putWord_25 (gps gp0) ?_
  refine A_iload_n ok.b rfl dX1_putWord_26 (gps (gps gp0)) ?_
  refine A_iushr ok.b dX1_putWord_27 ?_
  refine A_i2b ok.b dX1_putWord_28 ?_
  refine A_bast ok.b (gps gp0) (ix_n (by omega) (by decide)) (wps wp0) dX1_putWord_29 ?_
  refine A_aload_n ok.b rfl dX1_putWord_30 gp0 ?_
  refine A_dup ok.b dX1_putWord_31 rfl ?_
  refine A_getf ok.b cf1 0 (by decide) fl_X1_15 gp0 gp0 dX1_putWord_32 ?_
  refine A_iconst ok.b (v := 1) dX1_putWord_35 (by decide) ?_
  refine A_iadd ok.b dX1_putWord_36 ?_
  rw [nI_1]
  refine A_putf ok.b cf1 0 (by decide) rfl fl_X1_15 gp0 rfl rfl (gp_lt gp0) wp0 wp0 dX1_putWord_37 ?_
  refine A_iinc ok.b (v := _ + (-8)) dX1_putWord_40 (gps (gps gp0)) rfl (by decide) (sts (sts1 rfl st0)) ?_
  refine A_goto ok.b (tgt := 3) dX1_putWord_43 (by decide) ?_
  refine A_iload_n ok.b rfl dX1_putWord_3 (gps (gps gp0)) ?_
  refine A_if_lt ok.b (tgt := 46) dX1_putWord_4 (by decide) (fun c4 => ((show False from absurd c4 (by decide))).elim) (fun c4 => ?_)
  refine A_aload_n ok.b rfl dX1_putWord_7 gp0 ?_
  refine A_getf ok.b cf1 0 (by decide) fl_X1_15 gp0 gp0 dX1_putWord_8 ?_
  refine A_sipush ok.b (v := 800) dX1_putWord_11 (by decide) ?_
  refine A_icmp_ge ok.b (tgt := 46) dX1_putWord_14 (by decide) (fun c14 => (nI_ge (a := n + 1) (b := 800) (by omega) (by decide) c14).elim) (fun c14 => ?_)
  refine A_aload_n ok.b rfl dX1_putWord_17 gp0 ?_
  refine A_getf ok.b cf1 6 (by decide) fl_X1_9 gp0 (gps (gps (gps (gps (gps (gps gp0)))))) dX1_putWord_18 ?_
  refine A_aload_n ok.b rfl dX1_putWord_21 gp0 ?_
  refine A_getf ok.b cf1 0 (by decide) fl_X1_15 gp0 gp0 dX1_putWord_22 ?_
  refine A_iload_n ok.b rfl dX1_putWord_25 (gps gp0) ?_
  refine A_iload_n ok.b rfl dX1_putWord_26 (gps (gps gp0)) ?_
  refine A_iushr ok.b dX1_putWord_27 ?_
  refine A_i2b ok.b dX1_putWord_28 ?_
  refine A_bast ok.b (gps gp0) (ix_n (by omega) (by decide)) (wps wp0) dX1_putWord_29 ?_
  refine A_aload_n ok.b rfl dX1_putWord_30 gp0 ?_
  refine A_dup ok.b dX1_putWord_31 rfl ?_
  refine A_getf ok.b cf1 0 (by decide) fl_X1_15 gp0 gp0 dX1_putWord_32 ?_
  refine A_iconst ok.b (v := 1) dX1_putWord_35 (by decide) ?_
  refine A_iadd ok.b dX1_putWord_36 ?_
  rw [nI_1]
  refine A_putf ok.b cf1 0 (by decide) rfl fl_X1_15 gp0 rfl rfl (gp_lt gp0) wp0 wp0 dX1_putWord_37 ?_
  refine A_iinc ok.b (v := _ + (-8)) dX1_putWord_40 (gps (gps gp0)) rfl (by decide) (sts (sts1 rfl st0)) ?_
  refine A_goto ok.b (tgt := 3) dX1_putWord_43 (by decide) ?_
  refine A_iload_n ok.b rfl dX1_putWord_3 (gps (gps gp0)) ?_
  refine A_if_lt ok.b (tgt := 46) dX1_putWord_4 (by decide) (fun c4 => ((show False from absurd c4 (by decide))).elim) (fun c4 => ?_)
  refine A_aload_n ok.b rfl dX1_putWord_7 gp0 ?_
  refine A_getf ok.b cf1 0 (by decide) fl_X1_15 gp0 gp0 dX1_putWord_8 ?_
  refine A_sipush ok.b (v := 800) dX1_putWord_11 (by decide) ?_
  refine A_icmp_ge ok.b (tgt := 46) dX1_putWord_14 (by decide) (fun c14 => (nI_ge (a := n + 2) (b := 800) (by omega) (by decide) c14).elim) (fun c14 => ?_)
  refine A_aload_n ok.b rfl dX1_putWord_17 gp0 ?_
  refine A_getf ok.b cf1 6 (by decide) fl_X1_9 gp0 (gps (gps (gps (gps (gps (gps gp0)))))) dX1_putWord_18 ?_
  refine A_aload_n ok.b rfl dX1_putWord_21 gp0 ?_
  refine A_getf ok.b cf1 0 (by decide) fl_X1_15 gp0 gp0 dX1_putWord_22 ?_
  refine A_iload_n ok.b rfl dX1_putWord_25 (gps gp0) ?_
  refine A_iload_n ok.b rfl dX1_putWord_26 (gps (gps gp0)) ?_
  refine A_iushr ok.b dX1_putWord_27 ?_
  refine A_i2b ok.b dX1_putWord_28 ?_
  refine A_bast ok.b (gps gp0) (ix_n (by omega) (by decide)) (wps wp0) dX1_putWord_29 ?_
  refine A_aload_n ok.b rfl dX1_putWord_30 gp0 ?_
  refine A_dup ok.b dX1_putWord_31 rfl ?_
  refine A_getf ok.b cf1 0 (by decide) fl_X1_15 gp0 gp0 dX1_putWord_32 ?_
  refine A_iconst ok.b (v := 1) dX1_putWord_35 (by decide) ?_
  refine A_iadd ok.b dX1_putWord_36 ?_
  rw [nI_1]
  refine A_putf ok.b cf1 0 (by decide) rfl fl_X1_15 gp0 rfl rfl (gp_lt gp0) wp0 wp0 dX1_putWord_37 ?_
  refine A_iinc ok.b (v := _ + (-8)) dX1_putWord_40 (gps (gps gp0)) rfl (by decide) (sts (sts1 rfl st0)) ?_
  refine A_goto ok.b (tgt := 3) dX1_putWord_43 (by decide) ?_
  refine A_iload_n ok.b rfl dX1_putWord_3 (gps (gps gp0)) ?_
  refine A_if_lt ok.b (tgt := 46) dX1_putWord_4 (by decide) (fun c4 => ((show False from absurd c4 (by decide))).elim) (fun c4 => ?_)
  refine A_aload_n ok.b rfl dX1_putWord_7 gp0 ?_
  refine A_getf ok.b cf1 0 (by decide) fl_X1_15 gp0 gp0 dX1_putWord_8 ?_
  refine A_sipush ok.b (v := 800) dX1_putWord_11 (by decide) ?_
  refine A_icmp_ge ok.b (tgt := 46) dX1_putWord_14 (by decide) (fun c14 => (nI_ge (a := n + 3) (b := 800) (by omega) (by decide) c14).elim) (fun c14 => ?_)
  refine A_aload_n ok.b rfl dX1_putWord_17 gp0 ?_
  refine A_getf ok.b cf1 6 (by decide) fl_X1_9 gp0 (gps (gps (gps (gps (gps (gps gp0)))))) dX1_putWord_18 ?_
  refine A_aload_n ok.b rfl dX1_putWord_21 gp0 ?_
  refine A_getf ok.b cf1 0 (by decide) fl_X1_15 gp0 gp0 dX1_putWord_22 ?_
  refine A_iload_n ok.b rfl dX1_putWord_25 (gps gp0) ?_
  refine A_iload_n ok.b rfl dX1_putWord_26 (gps (gps gp0)) ?_
  refine A_iushr ok.b dX1_putWord_27 ?_
  refine A_i2b ok.b dX1_putWord_28 ?_
  refine A_bast ok.b (gps gp0) (ix_n (by omega) (by decide)) (wps wp0) dX1_putWord_29 ?_
  refine A_aload_n ok.b rfl dX1_putWord_30 gp0 ?_
  refine A_dup ok.b dX1_putWord_31 rfl ?_
  refine A_getf ok.b cf1 0 (by decide) fl_X1_15 gp0 gp0 dX1_putWord_32 ?_
  refine A_iconst ok.b (v := 1) dX1_putWord_35 (by decide) ?_
  refine A_iadd ok.b dX1_putWord_36 ?_
  rw [nI_1]
  refine A_putf ok.b cf1 0 (by decide) rfl fl_X1_15 gp0 rfl rfl (gp_lt gp0) wp0 wp0 dX1_putWord_37 ?_
  refine A_iinc ok.b (v := _ + (-8)) dX1_putWord_40 (gps (gps gp0)) rfl (by decide) (sts (sts1 rfl st0)) ?_
  refine A_goto ok.b (tgt := 3) dX1_putWord_43 (by decide) ?_
  refine A_iload_n ok.b rfl dX1_putWord_3 (gps (gps gp0)) ?_
  refine A_if_lt ok.b (tgt := 46) dX1_putWord_4 (by decide) (fun c4 => ?_) (fun c4 => ((show False from absurd (by decide) c4)).elim)
  refine A_vret ok dX1_putWord_46 (Nat.le_of_ble_eq_true rfl) (Nat.le_of_ble_eq_true rfl) ?_
  exact ⟨rfl, rfl⟩
set_option maxRecDepth 20000 in
set_option maxHeartbeats 2000000 in
theorem c_begin (l : Launch) (g : Gl) (i0 i1 : Nat) (size k0 s0 v0 x0 l0 : Int32) (B : Nat → Int32) (len : Nat) (hlen : len ≤ 800) : Ct l g yX1_begin cX1_begin 2 none 1 40 0 0 [.ref i0, .int (nI len)] (inW g i0 i1 size k0 s0 v0 x0 l0 B) (fun v w => v = none ∧ w = tkW g i0 i1 size len B (tokF B len 0 v0)) noX := by
  refine Ct.intro [some (.ref i0), some (.int (nI len))] (by decide +kernel) (fun _ h => h) (Nat.le_of_ble_eq_true rfl) (fun A H0 K ok => ?_)
  refine A_aload_n ok.b rfl dX1_begin_0 gp0 ?_
  refine A_iload_n ok.b rfl dX1_begin_1 (gps gp0) ?_
  refine A_putf ok.b cf1 5 (by decide) rfl fl_X1_19 gp0 rfl rfl (gp_lt (gps (gps (gps (gps (gps gp0)))))) (wps (wps (wps (wps (wps wp0))))) wp0 dX1_begin_2 ?_
  refine A_aload_n ok.b rfl dX1_begin_5 gp0 ?_
  refine A_iconst ok.b (v := 0) dX1_begin_6 (by decide) ?_
  refine A_putf ok.b cf1 4 (by decide) rfl fl_X1_22 gp0 rfl rfl (gp_lt (gps (gps (gps (gps gp0))))) (wps (wps (wps (wps wp0)))) wp0 dX1_begin_7 ?_
  refine A_aload_n ok.b rfl dX1_begin_10 gp0 ?_
  refine A_sameVR ok (As := []) mf_X1_advance ml_X1_25 in_X1_advance se_X1_advance cf1 gp0 (c_advance l g i0 i1 size k0 s0 v0 B len 0 hlen (Nat.zero_le _)) rfl rfl dX1_begin_11 (Nat.le_of_ble_eq_true rfl) ⟨(Nat.le_of_ble_eq_true rfl), (Nat.le_of_ble_eq_true rfl)⟩ ⟨(Nat.le_of_ble_eq_true rfl), (Nat.le_of_ble_eq_true rfl)⟩ (fun _ _ hx => hx.elim) (fun v11 w11 q11 => ?_)
  obtain ⟨rfl, rfl⟩ := q11
  refine A_vret ok dX1_begin_14 (Nat.le_of_ble_eq_true rfl) (Nat.le_of_ble_eq_true rfl) ?_
  exact ⟨rfl, rfl⟩
/-- the bytes from s on are the word i -/
def sameW (B : Nat → Int32) (s i k : Nat) : Prop := ∀ j, j < k → B (s + j) = chS i j
def isW (kd : Int32) (s e : Nat) (B : Nat → Int32) (i : Nat) : Bool := decide (kd = 257) && decide (e = s + lenS.getD i 0) && (List.range (lenS.getD i 0)).all (fun j => decide (B (s + j) = chS i j))
theorem isW_iff {kd : Int32} {s e : Nat} {B : Nat → Int32} {i : Nat} : isW kd s e B i = true ↔ kd = 257 ∧ e = s + lenS.getD i 0 ∧ sameW B s i (lenS.getD i 0) := by
  simp [isW, sameW, and_assoc]
def bI (b : Bool) : Int32 := if b = true then 1 else 0
theorem bI_t {b : Bool} (h : b = true) : bI b = 1 := by rw [bI, if_pos h]
theorem bI_f {b : Bool} (h : ¬ b = true) : bI b = 0 := by rw [bI, if_neg h]
theorem lenS_le {i : Nat} (hi : i < 14) : lenS.getD i 0 ≤ 6 := by
  have h : ∀ j, j < 14 → lenS.getD j 0 ≤ 6 := by decide
  exact h i hi
set_option maxRecDepth 20000 in
set_option maxHeartbeats 2000000 in
theorem c_isWord (l : Launch) (g : Gl) (i0 i1 : Nat) (size kd v0 l0 : Int32) (s e : Nat) (hse : s ≤ e) (he : e ≤ 800) (B : Nat → Int32) (i : Nat) (hi : i < 14) : Ct l g yX1_isWord cX1_isWord 3 (some .boolean) 4 160 0 0 [.ref i0, .ref (g.2.2.1 i)] (inW g i0 i1 size kd (nI s) v0 (nI e) l0 B) (fun v w => v = some (.int (bI (isW kd s e B i))) ∧ w = inW g i0 i1 size kd (nI s) v0 (nI e) l0 B) noX := by
  refine Ct.intro [some (.ref i0), some (.ref (g.2.2.1 i)), none] (by decide +kernel) (fun _ h => h) (Nat.le_of_ble_eq_true rfl) (fun A H0 K ok => ?_)
  have hl6 := lenS_le hi
  have esub : nI e - nI s = nI (e - s) := pk_sub hse
  have L : kd = 257 → e = s + lenS.getD i 0 → ∀ k, k ≤ lenS.getD i 0 → sameW B s i k → AW g A H0 3 K 30 [some (.ref i0), some (.ref (g.2.2.1 i)), some (.int (nI k))] [] (inW g i0 i1 size kd (nI s) v0 (nI e) l0 B) 0 0 := by
    intro hkd hee
    refine up_ind (lenS.getD i 0) ?_ (fun k hk ih => ?_)
    · intro hsm
      refine A_iload_n ok.b rfl dX1_isWord_30 (gps (gps gp0)) ?_
      refine A_aload_n ok.b rfl dX1_isWord_31 (gps gp0) ?_
      refine A_str ok.b (As := []) hi rfl mf_J0_length_8abf5 ml_X1_38 in_J0_length_8abf5 se_J0_length_8abf5 (c_strlen l g i hi) rfl rfl dX1_isWord_32 (Nat.le_of_ble_eq_true rfl) ⟨Nat.le_of_ble_eq_true rfl, Nat.le_of_ble_eq_true rfl⟩ ⟨Nat.le_of_ble_eq_true rfl, Nat.le_of_ble_eq_true rfl⟩ ?_
      refine A_icmp_ge ok.b (tgt := 65) dX1_isWord_35 (by decide) (fun c35 => ?_) (fun c35 => (c35 (nI_le (Nat.le_refl _) (by omega))).elim)
      refine A_iconst ok.b (v := 1) dX1_isWord_65 (by decide) ?_
      refine A_zret ok dX1_isWord_66 (by decide) (Nat.le_of_ble_eq_true rfl) (Nat.le_of_ble_eq_true rfl) ?_
      exact ⟨by rw [bI_t (isW_iff.mpr ⟨hkd, hee, hsm⟩)], rfl⟩
    · intro hsm
      refine A_iload_n ok.b rfl dX1_isWord_30 (gps (gps gp0)) ?_
      refine A_aload_n ok.b rfl dX1_isWord_31 (gps gp0) ?_
      refine A_str ok.b (As := []) hi rfl mf_J0_length_8abf5 ml_X1_38 in_J0_length_8abf5 se_J0_length_8abf5 (c_strlen l g i hi) rfl rfl dX1_isWord_32 (Nat.le_of_ble_eq_true rfl) ⟨Nat.le_of_ble_eq_true rfl, Nat.le_of_ble_eq_true rfl⟩ ⟨Nat.le_of_ble_eq_true rfl, Nat.le_of_ble_eq_true rfl⟩ ?_
      refine A_icmp_ge ok.b (tgt := 65) dX1_isWord_35 (by decide) (fun c35 => (nI_ge hk (by omega) c35).elim) (fun c35 => ?_)
      refine A_aload_n ok.b rfl dX1_isWord_38 gp0 ?_
      refine A_getf ok.b cf1 6 (by decide) fl_X1_9 gp0 (gps (gps (gps (gps (gps (gps gp0)))))) dX1_isWord_39 ?_
      refine A_aload_n ok.b rfl dX1_isWord_42 gp0 ?_
      refine A_getf ok.b cf1 2 (by decide) fl_X1_28 gp0 (gps (gps gp0)) dX1_isWord_43 ?_
      refine A_iload_n ok.b rfl dX1_isWord_46 (gps (gps gp0)) ?_
      refine A_iadd ok.b dX1_isWord_47 ?_
      rw [nI_add]
      refine A_bald ok.b (gps gp0) (ix_n (by omega) (by decide)) dX1_isWord_48 ?_
      refine A_aload_n ok.b rfl dX1_isWord_49 (gps gp0) ?_
      refine A_iload_n ok.b rfl dX1_isWord_50 (gps (gps gp0)) ?_
      refine A_str ok.b (As := [.int (nI k)]) hi rfl mf_J0_charAt_5068e ml_X1_43 in_J0_charAt_5068e se_J0_charAt_5068e (c_charAt l g i k hi hk) rfl rfl dX1_isWord_51 (Nat.le_of_ble_eq_true rfl) ⟨Nat.le_of_ble_eq_true rfl, Nat.le_of_ble_eq_true rfl⟩ ⟨Nat.le_of_ble_eq_true rfl, Nat.le_of_ble_eq_true rfl⟩ ?_
      refine A_icmp_eq ok.b (tgt := 59) dX1_isWord_54 (by decide) (fun c54 => ?_) (fun c54 => ?_)
      · skip
        refine A_iinc ok.b (v := _ + 1) dX1_isWord_59 (gps (gps gp0)) rfl (by decide) (sts (sts1 rfl st0)) ?_
        refine A_goto ok.b (tgt := 30) dX1_isWord_62 (by decide) ?_
        rw [nI_1]
        refine ih (fun j hj => ?_)
        by_cases h : j = k
        · rw [h]; exact c54
        · exact hsm j (by omega)
      · skip
        refine A_iconst ok.b (v := 0) dX1_isWord_57 (by decide) ?_
        refine A_zret ok dX1_isWord_58 (by decide) (Nat.le_of_ble_eq_true rfl) (Nat.le_of_ble_eq_true rfl) ?_
        exact ⟨by rw [bI_f (fun h => c54 ((isW_iff.mp h).2.2 k hk))], rfl⟩
  refine A_aload_n ok.b rfl dX1_isWord_0 gp0 ?_
  refine A_getf ok.b cf1 1 (by decide) fl_X1_31 gp0 (gps gp0) dX1_isWord_1 ?_
  refine A_sipush ok.b (v := 257) dX1_isWord_4 (by decide) ?_
  refine A_icmp_ne ok.b (tgt := 26) dX1_isWord_7 (by decide) (fun c7 => ?_) (fun c7 => ?_)
  · skip
    refine A_iconst ok.b (v := 0) dX1_isWord_26 (by decide) ?_
    refine A_zret ok dX1_isWord_27 (by decide) (Nat.le_of_ble_eq_true rfl) (Nat.le_of_ble_eq_true rfl) ?_
    exact ⟨by rw [bI_f (fun h => c7 (isW_iff.mp h).1)], rfl⟩
  · skip
    refine A_aload_n ok.b rfl dX1_isWord_10 gp0 ?_
    refine A_getf ok.b cf1 4 (by decide) fl_X1_22 gp0 (gps (gps (gps (gps gp0)))) dX1_isWord_11 ?_
    refine A_aload_n ok.b rfl dX1_isWord_14 gp0 ?_
    refine A_getf ok.b cf1 2 (by decide) fl_X1_28 gp0 (gps (gps gp0)) dX1_isWord_15 ?_
    refine A_isub ok.b dX1_isWord_18 ?_
    rw [esub]
    refine A_aload_n ok.b rfl dX1_isWord_19 (gps gp0) ?_
    refine A_str ok.b (As := []) hi rfl mf_J0_length_8abf5 ml_X1_38 in_J0_length_8abf5 se_J0_length_8abf5 (c_strlen l g i hi) rfl rfl dX1_isWord_20 (Nat.le_of_ble_eq_true rfl) ⟨Nat.le_of_ble_eq_true rfl, Nat.le_of_ble_eq_true rfl⟩ ⟨Nat.le_of_ble_eq_true rfl, Nat.le_of_ble_eq_true rfl⟩ ?_
    refine A_icmp_eq ok.b (tgt := 28) dX1_isWord_23 (by decide) (fun c23 => ?_) (fun c23 => ?_)
    · skip
      refine A_iconst ok.b (v := 0) dX1_isWord_28 (by decide) ?_
      refine A_istore_n ok.b rfl dX1_isWord_29 (by decide) (sts (sts1 rfl st0)) ?_
      exact L c7 (by have h := (nI_eq (by omega) (by omega)).mp c23; omega) 0 (Nat.zero_le _) (fun j hj => absurd hj (Nat.not_lt_zero j))
    · skip
      refine A_iconst ok.b (v := 0) dX1_isWord_26 (by decide) ?_
      refine A_zret ok dX1_isWord_27 (by decide) (Nat.le_of_ble_eq_true rfl) (Nat.le_of_ble_eq_true rfl) ?_
      exact ⟨by rw [bI_f (fun h => c23 (by rw [show e - s = lenS.getD i 0 by have := (isW_iff.mp h).2.1; omega]))], rfl⟩
