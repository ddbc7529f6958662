/-- the reference's cells while it reads -/
def lcW (g : Gl) (m : Nat → Nat) (s : MS) (B D : Nat → Int32) : va_W := [moC m s, (m 1, .inl (g.2.1 0, 800, .inl B)), (m 3, .inl (g.2.1 0, 1476, .inl D))]
abbrev LQ : Type := MS × (Nat → Int32)
def emD (v : Int32) (D : Nat → Int32) : Nat → Int32 := upd (upd D (176 + (D 7).toNatClampNeg) v) 7 (D 7 + 1)
def emR (v : Int32) (X : LQ) : LQ := if X.1.er = 0 then (X.1, emD v X.2) else X
def rsM (B D : Nat → Int32) (s : MS) : Int32 × MS := (if (numM B 0 (D 0 - 1) s).2.er = 0 then (numM B 0 (D 0 - 1) s).1 else 0, (numM B 0 (D 0 - 1) s).2)
def fsM (B D : Nat → Int32) (mk : Nat) (vl : Int32) (s : MS) : Int32 × MS :=
  (12 + 7 * (rsM B D s).1, if (rsM B D s).2.er = 0 ∧ ¬ D (12 + 7 * (rsM B D s).1.toNatClampNeg + mk) = vl then repR (-3) (rsM B D s).2.ns (rsM B D s).2 else (rsM B D s).2)
/-- the number of sections stands -/
def NK (X : LQ) : Prop := X.1.er = 0 → ∃ n, n ≤ 12 ∧ X.2 0 = nI n
theorem num_er {B : Nat → Int32} {lo hi : Int32} {s : MS} (h : (numM B lo hi s).2.er = 0) : s.er = 0 := by
  by_cases h9 : s.er = 0
  · exact h9
  · rw [numM, if_neg h9] at h; exact h
theorem rep_er {k o : Int32} {s : MS} (hk : k ≠ 0) : ¬ (repR k o s).er = 0 := by
  unfold repR
  split
  · exact hk
  · rename_i h; exact h
theorem rep_er0 {k o : Int32} {s : MS} (h : (repR k o s).er = 0) (hk : k ≠ 0) : False := rep_er hk h
theorem num_in {B : Nat → Int32} {lo hi : Int32} {s : MS} (h : (numM B lo hi s).2.er = 0) : inB (numM B lo hi s).1 lo hi = true := by
  have h9 := num_er h
  rw [numM, if_pos h9] at h ⊢
  split at h
  · rename_i hd
    rw [if_pos hd]
    split at h
    · rename_i hi
      rw [if_pos hi]; exact hi
    · exact (rep_er0 h (by decide)).elim
  · exact (rep_er0 h (by decide)).elim
theorem rs_in {B D : Nat → Int32} {s : MS} (hN : NK (s, D)) : ∃ t, t < 12 ∧ (rsM B D s).1 = nI t ∧ ((rsM B D s).2.er = 0 → Inn (rsM B D s).1 (D 0).toNatClampNeg) := by
  unfold rsM
  by_cases h : (numM B 0 (D 0 - 1) s).2.er = 0
  · obtain ⟨n, hn, e0⟩ := hN (num_er h)
    have hi := num_in h
    have e2 : D 0 = nI n := e0
    have e1 : (D 0).toNatClampNeg = n := by rw [e2, nI_clamp (by omega)]
    have hi2 : Inn (numM B 0 (D 0 - 1) s).1 n := by
      rw [e2] at hi ⊢
      exact in_inn hn hi
    rw [if_pos h, e1]
    obtain ⟨t, ht, et⟩ := hi2
    exact ⟨t, by omega, et, fun _ => ⟨t, ht, et⟩⟩
  · rw [if_neg h]
    exact ⟨0, by decide, rfl, fun h2 => absurd h2 h⟩
theorem MI_rs {B D : Nat → Int32} {s : MS} (h : MI s) : MI (rsM B D s).2 := MI_num h
theorem MI_fs {B D : Nat → Int32} {mk : Nat} {vl : Int32} {s : MS} (h : MI s) : MI (fsM B D mk vl s).2 := by
  show MI (if _ then repR (-3) (rsM B D s).2.ns (rsM B D s).2 else (rsM B D s).2)
  split
  · exact MI_rep (MI_rs h)
  · exact MI_rs h
theorem rs_er {B D : Nat → Int32} {s : MS} (h : (rsM B D s).2.er = 0) : s.er = 0 := num_er h
theorem fs_er {B D : Nat → Int32} {mk : Nat} {vl : Int32} {s : MS} (h : (fsM B D mk vl s).2.er = 0) : (rsM B D s).2.er = 0 := by
  have h2 : (if (rsM B D s).2.er = 0 ∧ ¬ D (12 + 7 * (rsM B D s).1.toNatClampNeg + mk) = vl then repR (-3) (rsM B D s).2.ns (rsM B D s).2 else (rsM B D s).2).er = 0 := h
  split at h2
  · exact (rep_er0 h2 (by decide)).elim
  · exact h2
/-- a fresh section's place -/
theorem fs_at {B D : Nat → Int32} {mk : Nat} {vl : Int32} {s : MS} (hN : NK (s, D)) : ∃ t, t < 12 ∧ (fsM B D mk vl s).1 = nI (12 + 7 * t) ∧ (rsM B D s).1 = nI t := by
  obtain ⟨t, ht, et, _⟩ := rs_in (B := B) hN
  exact ⟨t, ht, by show 12 + 7 * (rsM B D s).1 = _; rw [et, sec_n (by omega)], et⟩
def rbS (st : Int32) (s : MS) : MS := if s.ba = 6 then repR (-4) st s else s
def bayM (B : Nat → Int32) (st : Int32) (X : LQ) : LQ :=
  ((fsM B X.2 4 (-1) (rbS st X.1)).2.wba ((fsM B X.2 4 (-1) (rbS st X.1)).2.ba + 1), upd X.2 ((fsM B X.2 4 (-1) (rbS st X.1)).1 + 4).toNatClampNeg 1)
def fanM (B : Nat → Int32) (X : LQ) : LQ :=
  ((setM B 10 (fsM B X.2 1 0 X.1).2).2, upd (upd X.2 ((fsM B X.2 1 0 X.1).1 + 1).toNatClampNeg 1) ((fsM B X.2 1 0 X.1).1 + 2).toNatClampNeg (setM B 10 (fsM B X.2 1 0 X.1).2).1)
def rcS (st : Int32) (X : LQ) : MS := if X.2 2 = 20 then repR (-4) st X.1 else X.1
def rcR (B : Nat → Int32) (st : Int32) (X : LQ) : Int32 × MS := rsM B X.2 (rcS st X)
def rcW (B : Nat → Int32) (st : Int32) (X : LQ) : Int32 × MS := wayM B (rcR B st X).2
def rcE (B : Nat → Int32) (st : Int32) (X : LQ) : MS := if (rcW B st X).2.er = 0 ∧ laneR X.2 (rcR B st X).1 (rcW B st X).1 (X.2 2).toNatClampNeg = X.2 1 then repR (-3) (rcR B st X).2.ns (rcW B st X).2 else (rcW B st X).2
def rcD (sc wy : Int32) (D : Nat → Int32) : Nat → Int32 := upd (upd (upd D (96 + 4 * (D 2).toNatClampNeg) sc) (96 + 4 * (D 2).toNatClampNeg + 1) wy) 2 (D 2 + 1)
def carM (B : Nat → Int32) (st : Int32) (X : LQ) : LQ := (rcE B st X, if (rcE B st X).er = 0 then rcD (rcR B st X).1 (rcW B st X).1 X.2 else X.2)
def onS (b st : Int32) (s : MS) : MS := if (s.se >>> (b &&& 31)) &&& 1 = 1 then repR (-2) st s else s
def onM (b st : Int32) (s : MS) : MS := (onS b st s).wse ((onS b st s).se ||| (1 <<< (b &&& 31)))
theorem tw_er {B : Nat → Int32} {i : Nat} {s : MS} (h : (twR B i s).2.er = 0) : s.er = 0 := by
  by_cases h9 : s.er = 0
  · exact h9
  · rw [twR, if_neg h9] at h; exact h
theorem way_er {B : Nat → Int32} {s : MS} (h : (wayM B s).2.er = 0) : s.er = 0 := by
  unfold wayM at h
  split at h
  · exact tw_er h
  · split at h
    · exact tw_er (tw_er h)
    · exact (rep_er0 h (by decide)).elim
theorem set_er {B : Nat → Int32} {lm : Int32} {s : MS} (h : (setM B lm s).2.er = 0) : s.er = 0 := by
  by_cases h9 : s.er = 0
  · exact h9
  · rw [setM, if_neg h9] at h; exact num_er h
theorem MI_rb {st : Int32} {s : MS} (h : MI s) : MI (rbS st s) := by
  unfold rbS
  split
  · exact MI_rep h
  · exact h
theorem rb_er {st : Int32} {s : MS} (h : (rbS st s).er = 0) : s.er = 0 := by
  unfold rbS at h
  split at h
  · exact (rep_er0 h (by decide)).elim
  · exact h
theorem MI_rc {st : Int32} {X : LQ} (h : MI X.1) : MI (rcS st X) := by
  unfold rcS
  split
  · exact MI_rep h
  · exact h
theorem rc_er {st : Int32} {X : LQ} (h : (rcS st X).er = 0) : X.1.er = 0 ∧ ¬ X.2 2 = 20 := by
  unfold rcS at h
  split at h
  · exact (rep_er0 h (by decide)).elim
  · rename_i h2; exact ⟨h, h2⟩
set_option maxRecDepth 20000 in
set_option maxHeartbeats 2000000 in
theorem r_emit (l : Launch) (g : Gl) (m : Nat → Nat) (s : MS) (B D : Nat → Int32) (hM : MI s) (hE : s.er = 0 → ∃ k, k < 1300 ∧ D 7 = nI k) (x0 : Int32) : Ct l g yX7_emit cX7_emit 2 none 2 80 0 0 [.ref (m 0), .int x0] (lcW g m (s) B (D)) (fun v w => v = none ∧ w = lcW g m ((emR x0 (s, D)).1) B ((emR x0 (s, D)).2)) noX := by
  refine Ct.intro [some (.ref (m 0)), some (.int x0)] (by decide +kernel) (fun _ h => h) (Nat.le_of_ble_eq_true rfl) (fun A H0 K ok => ?_)
  refine A_aload_n ok.b rfl dX7_emit_0 gp0 ?_
  refine A_callVR ok [0, 1] [2] (As := []) (wr := ([(m 3, .inl (g.2.1 0, 1476, .inl (D)))] : va_W)) mf_X7_isGood ml_X7_71 in_X7_isGood se_X7_isGood cf7 gp0 (r_isGood l g m (s) B hM.1) rfl rfl rfl dX7_emit_1 rfl rfl rfl (by decide) (Nat.le_of_ble_eq_true rfl) ⟨(Nat.le_of_ble_eq_true rfl), (Nat.le_of_ble_eq_true rfl)⟩ ⟨(Nat.le_of_ble_eq_true rfl), (Nat.le_of_ble_eq_true rfl)⟩ (fun _ _ hx => hx.elim) (fun v1 w1 q1 => ?_)
  obtain ⟨rfl, rfl⟩ := q1
  refine A_sub [1, 2, 0] (ws2 := (lcW g m (s) B (D))) rfl rfl ?_
  refine A_if_ne ok.b (tgt := 8) dX7_emit_4 (by decide) (fun c4 => ?_) (fun c4 => ?_)
  · skip
    have h9 : (s).er = 0 := by
      by_cases h : (s).er = 0
      · exact h
      · rw [if_neg h] at c4; exact absurd rfl c4
    obtain ⟨k, hk, h7⟩ := hE h9
    refine A_aload_n ok.b rfl dX7_emit_8 gp0 ?_
    refine A_getf ok.b cf7 9 (by decide) fl_X7_20 gp0 (gps (gps (gps (gps (gps (gps (gps (gps (gps gp0))))))))) dX7_emit_9 ?_
    refine A_sipush ok.b (v := 176) dX7_emit_12 (by decide) ?_
    refine A_aload_n ok.b rfl dX7_emit_15 gp0 ?_
    refine A_getf ok.b cf7 9 (by decide) fl_X7_20 gp0 (gps (gps (gps (gps (gps (gps (gps (gps (gps gp0))))))))) dX7_emit_16 ?_
    refine A_bipush ok.b (v := 7) dX7_emit_19 (by decide) ?_
    refine A_iald ok.b (gps (gps gp0)) (ix_n (j := 7) (by decide) (by decide)) dX7_emit_21 ?_
    rw [h7]
    refine A_iadd ok.b dX7_emit_22 ?_
    rw [show (176 : Int32) + nI k = nI (176 + k) from nI_add 176 _]
    refine A_iload_n ok.b rfl dX7_emit_23 (gps gp0) ?_
    refine A_iast ok.b (gps (gps gp0)) (ix_n (by omega) (by decide)) (wps (wps wp0)) dX7_emit_24 ?_
    refine A_aload_n ok.b rfl dX7_emit_25 gp0 ?_
    refine A_getf ok.b cf7 9 (by decide) fl_X7_20 gp0 (gps (gps (gps (gps (gps (gps (gps (gps (gps gp0))))))))) dX7_emit_26 ?_
    refine A_bipush ok.b (v := 7) dX7_emit_29 (by decide) ?_
    refine A_dup2_11 ok.b dX7_emit_31 rfl rfl ?_
    refine A_iald ok.b (gps (gps gp0)) (ix_n (j := 7) (by decide) (by decide)) dX7_emit_32 ?_
    rw [upd_at, if_neg (by omega), h7]
    refine A_iconst ok.b (v := 1) dX7_emit_33 (by decide) ?_
    refine A_iadd ok.b dX7_emit_34 ?_
    refine A_iast ok.b (gps (gps gp0)) (ix_n (j := 7) (by decide) (by decide)) (wps (wps wp0)) dX7_emit_35 ?_
    refine A_vret ok dX7_emit_36 (Nat.le_of_ble_eq_true rfl) (Nat.le_of_ble_eq_true rfl) ?_
    exact ⟨rfl, by rw [emR, if_pos h9, emD]; show _ = lcW g m s B (upd (upd D (176 + (D 7).toNatClampNeg) x0) 7 (D 7 + 1)); rw [h7, nI_clamp (by omega)]; rfl⟩
  · skip
    refine A_vret ok dX7_emit_7 (Nat.le_of_ble_eq_true rfl) (Nat.le_of_ble_eq_true rfl) ?_
    have h9 : ¬ (s).er = 0 := fun h => by rw [if_pos h] at c4; exact absurd c4 (by decide)
    exact ⟨rfl, by rw [emR, if_neg h9]⟩
set_option maxRecDepth 20000 in
set_option maxHeartbeats 2000000 in
theorem r_readSection (l : Launch) (g : Gl) (m : Nat → Nat) (s : MS) (B D : Nat → Int32) (hM : MI s)  : Ct l g yX7_readSection cX7_readSection 2 (some .int) 3 120 0 0 [.ref (m 0)] (lcW g m (s) B (D)) (fun v w => v = some (.int (rsM B D s).1) ∧ w = lcW g m ((rsM B D s).2) B (D)) noX := by
  refine Ct.intro [some (.ref (m 0)), none] (by decide +kernel) (fun _ h => h) (Nat.le_of_ble_eq_true rfl) (fun A H0 K ok => ?_)
  refine A_aload_n ok.b rfl dX7_readSection_0 gp0 ?_
  refine A_iconst ok.b (v := 0) dX7_readSection_1 (by decide) ?_
  refine A_aload_n ok.b rfl dX7_readSection_2 gp0 ?_
  refine A_getf ok.b cf7 9 (by decide) fl_X7_20 gp0 (gps (gps (gps (gps (gps (gps (gps (gps (gps gp0))))))))) dX7_readSection_3 ?_
  refine A_iconst ok.b (v := 0) dX7_readSection_6 (by decide) ?_
  refine A_iald ok.b (gps (gps gp0)) (ix_n (j := 0) (by decide) (by decide)) dX7_readSection_7 ?_
  refine A_iconst ok.b (v := 1) dX7_readSection_8 (by decide) ?_
  refine A_isub ok.b dX7_readSection_9 ?_
  refine A_callVR ok [0, 1] [2] (As := [_, _]) (wr := ([(m 3, .inl (g.2.1 0, 1476, .inl (D)))] : va_W)) mf_X7_number ml_X7_104 in_X7_number se_X7_number cf7 gp0 (r_number l g m s B hM.1 hM.2 0 (D 0 - 1)) rfl rfl rfl dX7_readSection_10 rfl rfl rfl (by decide) (Nat.le_of_ble_eq_true rfl) ⟨(Nat.le_of_ble_eq_true rfl), (Nat.le_of_ble_eq_true rfl)⟩ ⟨(Nat.le_of_ble_eq_true rfl), (Nat.le_of_ble_eq_true rfl)⟩ (fun _ _ hx => hx.elim) (fun v10 w10 q10 => ?_)
  obtain ⟨rfl, rfl⟩ := q10
  have e1 : (numM B 0 (D 0 - 1) s).2 = (rsM B D s).2 := rfl
  rw [e1]
  refine A_sub [1, 2, 0] (ws2 := (lcW g m ((rsM B D s).2) B (D))) rfl rfl ?_
  refine A_istore_n ok.b rfl dX7_readSection_13 (by decide) (sts1 rfl st0) ?_
  refine A_aload_n ok.b rfl dX7_readSection_14 gp0 ?_
  refine A_callVR ok [0, 1] [2] (As := []) (wr := ([(m 3, .inl (g.2.1 0, 1476, .inl (D)))] : va_W)) mf_X7_isGood ml_X7_71 in_X7_isGood se_X7_isGood cf7 gp0 (r_isGood l g m ((rsM B D s).2) B (MI_rs hM).1) rfl rfl rfl dX7_readSection_15 rfl rfl rfl (by decide) (Nat.le_of_ble_eq_true rfl) ⟨(Nat.le_of_ble_eq_true rfl), (Nat.le_of_ble_eq_true rfl)⟩ ⟨(Nat.le_of_ble_eq_true rfl), (Nat.le_of_ble_eq_true rfl)⟩ (fun _ _ hx => hx.elim) (fun v15 w15 q15 => ?_)
  obtain ⟨rfl, rfl⟩ := q15
  refine A_sub [1, 2, 0] (ws2 := (lcW g m ((rsM B D s).2) B (D))) rfl rfl ?_
  refine A_if_eq ok.b (tgt := 25) dX7_readSection_18 (by decide) (fun c18 => ?_) (fun c18 => ?_)
  · skip
    refine A_iconst ok.b (v := 0) dX7_readSection_25 (by decide) ?_
    refine A_iret ok dX7_readSection_26 (Nat.le_of_ble_eq_true rfl) (Nat.le_of_ble_eq_true rfl) ?_
    have h9 : ¬ ((rsM B D s).2).er = 0 := fun h => by rw [if_pos h] at c18; exact absurd c18 (by decide)
    exact ⟨by rw [rsM, if_neg (show ¬ (numM B 0 (D 0 - 1) s).2.er = 0 from h9)], rfl⟩
  · skip
    refine A_iload_n ok.b rfl dX7_readSection_21 (gps gp0) ?_
    refine A_goto ok.b (tgt := 26) dX7_readSection_22 (by decide) ?_
    refine A_iret ok dX7_readSection_26 (Nat.le_of_ble_eq_true rfl) (Nat.le_of_ble_eq_true rfl) ?_
    have h9 : ((rsM B D s).2).er = 0 := by
      by_cases h : ((rsM B D s).2).er = 0
      · exact h
      · rw [if_neg h] at c18; exact absurd rfl c18
    exact ⟨by rw [rsM, if_pos (show (numM B 0 (D 0 - 1) s).2.er = 0 from h9)], rfl⟩
set_option maxRecDepth 20000 in
set_option maxHeartbeats 2000000 in
theorem r_freshSection (l : Launch) (g : Gl) (m : Nat → Nat) (s : MS) (B D : Nat → Int32) (hM : MI s) (hN : NK (s, D)) (mk : Nat) (hmk : mk < 7) (vl : Int32) : Ct l g yX7_freshSection cX7_freshSection 4 (some .int) 4 160 0 0 [.ref (m 0), .int (nI mk), .int vl] (lcW g m (s) B (D)) (fun v w => v = some (.int (fsM B D mk vl s).1) ∧ w = lcW g m ((fsM B D mk vl s).2) B (D)) noX := by
  refine Ct.intro [some (.ref (m 0)), some (.int (nI mk)), some (.int vl), none] (by decide +kernel) (fun _ h => h) (Nat.le_of_ble_eq_true rfl) (fun A H0 K ok => ?_)
  obtain ⟨t, ht, et, _⟩ := rs_in (B := B) hN
  have e1 : (fsM B D mk vl s).1 = 12 + 7 * (rsM B D s).1 := rfl
  refine A_aload_n ok.b rfl dX7_freshSection_0 gp0 ?_
  refine A_sameVR ok (As := []) mf_X7_readSection ml_X7_140 in_X7_readSection se_X7_readSection cf7 gp0 (r_readSection l g m s B D hM) rfl rfl dX7_freshSection_1 (Nat.le_of_ble_eq_true rfl) ⟨(Nat.le_of_ble_eq_true rfl), (Nat.le_of_ble_eq_true rfl)⟩ ⟨(Nat.le_of_ble_eq_true rfl), (Nat.le_of_ble_eq_true rfl)⟩ (fun _ _ hx => hx.elim) (fun v1 w1 q1 => ?_)
  obtain ⟨rfl, rfl⟩ := q1
  refine A_pureS ok.b (As := [_]) mf_X7_section ml_X7_143 rfl sc_X7_section (r_section l g _) rfl rfl dX7_freshSection_4 (Nat.le_of_ble_eq_true rfl) ⟨(Nat.le_of_ble_eq_true rfl), (Nat.le_of_ble_eq_true rfl)⟩ ⟨(Nat.le_of_ble_eq_true rfl), (Nat.le_of_ble_eq_true rfl)⟩ ?_
  refine A_istore_n ok.b rfl dX7_freshSection_7 (by decide) (sts (sts (sts1 rfl st0))) ?_
  refine A_aload_n ok.b rfl dX7_freshSection_8 gp0 ?_
  refine A_callVR ok [0, 1] [2] (As := []) (wr := ([(m 3, .inl (g.2.1 0, 1476, .inl (D)))] : va_W)) mf_X7_isGood ml_X7_71 in_X7_isGood se_X7_isGood cf7 gp0 (r_isGood l g m ((rsM B D s).2) B (MI_rs hM).1) rfl rfl rfl dX7_freshSection_9 rfl rfl rfl (by decide) (Nat.le_of_ble_eq_true rfl) ⟨(Nat.le_of_ble_eq_true rfl), (Nat.le_of_ble_eq_true rfl)⟩ ⟨(Nat.le_of_ble_eq_true rfl), (Nat.le_of_ble_eq_true rfl)⟩ (fun _ _ hx => hx.elim) (fun v9 w9 q9 => ?_)
  obtain ⟨rfl, rfl⟩ := q9
  refine A_sub [1, 2, 0] (ws2 := (lcW g m ((rsM B D s).2) B (D))) rfl rfl ?_
  refine A_if_eq ok.b (tgt := 37) dX7_freshSection_12 (by decide) (fun c12 => ?_) (fun c12 => ?_)
  · skip
    refine A_iload_n ok.b rfl dX7_freshSection_37 (gps (gps (gps gp0))) ?_
    refine A_iret ok dX7_freshSection_38 (Nat.le_of_ble_eq_true rfl) (Nat.le_of_ble_eq_true rfl) ?_
    have h9 : ¬ ((rsM B D s).2).er = 0 := fun h => by rw [if_pos h] at c12; exact absurd c12 (by decide)
    exact ⟨rfl, by rw [fsM, if_neg (fun z => h9 z.1)]⟩
  · skip
    refine A_aload_n ok.b rfl dX7_freshSection_15 gp0 ?_
    refine A_getf ok.b cf7 9 (by decide) fl_X7_20 gp0 (gps (gps (gps (gps (gps (gps (gps (gps (gps gp0))))))))) dX7_freshSection_16 ?_
    refine A_iload_n ok.b rfl dX7_freshSection_19 (gps (gps (gps gp0))) ?_
    refine A_iload_n ok.b rfl dX7_freshSection_20 (gps gp0) ?_
    refine A_iadd ok.b dX7_freshSection_21 ?_
    rw [et, sec_n (by omega), nI_add]
    refine A_iald ok.b (gps (gps gp0)) (ix_n (by omega) (by decide)) dX7_freshSection_22 ?_
    refine A_iload_n ok.b rfl dX7_freshSection_23 (gps (gps gp0)) ?_
    refine A_icmp_eq ok.b (tgt := 37) dX7_freshSection_24 (by decide) (fun c24 => ?_) (fun c24 => ?_)
    · skip
      refine A_iload_n ok.b rfl dX7_freshSection_37 (gps (gps (gps gp0))) ?_
      refine A_iret ok dX7_freshSection_38 (Nat.le_of_ble_eq_true rfl) (Nat.le_of_ble_eq_true rfl) ?_
      exact ⟨by rw [e1, et, sec_n (by omega)], by rw [fsM, if_neg (fun z => z.2 (by rw [et, nI_clamp (by omega)]; exact c24))]⟩
    · skip
      refine A_aload_n ok.b rfl dX7_freshSection_27 gp0 ?_
      refine A_bipush ok.b (v := (-3)) dX7_freshSection_28 (by decide) ?_
      refine A_aload_n ok.b rfl dX7_freshSection_30 gp0 ?_
      refine A_getf ok.b cf7 13 (by decide) fl_X7_96 gp0 (gps (gps (gps (gps (gps (gps (gps (gps (gps (gps (gps (gps (gps gp0))))))))))))) dX7_freshSection_31 ?_
      refine A_callVR ok [0, 1] [2] (As := [_, _]) (wr := ([(m 3, .inl (g.2.1 0, 1476, .inl (D)))] : va_W)) mf_X7_report ml_X7_88 in_X7_report se_X7_report cf7 gp0 (r_report l g m (rsM B D s).2 B (MI_rs hM).1 _ _) rfl rfl rfl dX7_freshSection_34 rfl rfl rfl (by decide) (Nat.le_of_ble_eq_true rfl) ⟨(Nat.le_of_ble_eq_true rfl), (Nat.le_of_ble_eq_true rfl)⟩ ⟨(Nat.le_of_ble_eq_true rfl), (Nat.le_of_ble_eq_true rfl)⟩ (fun _ _ hx => hx.elim) (fun v34 w34 q34 => ?_)
      obtain ⟨rfl, rfl⟩ := q34
      refine A_sub [1, 2, 0] (ws2 := (lcW g m (repR (-3) (rsM B D s).2.ns (rsM B D s).2) B (D))) rfl rfl ?_
      refine A_iload_n ok.b rfl dX7_freshSection_37 (gps (gps (gps gp0))) ?_
      refine A_iret ok dX7_freshSection_38 (Nat.le_of_ble_eq_true rfl) (Nat.le_of_ble_eq_true rfl) ?_
      have h9 : ((rsM B D s).2).er = 0 := by
        by_cases h : ((rsM B D s).2).er = 0
        · exact h
        · rw [if_neg h] at c12; exact absurd rfl c12
      exact ⟨by rw [e1, et, sec_n (by omega)], by rw [fsM, if_pos ⟨h9, fun z => c24 (by rw [et, nI_clamp (by omega)] at z; exact z)⟩]⟩
