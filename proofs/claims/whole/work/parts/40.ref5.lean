/-- the position's bound -/
def MI (s : MS) : Prop := s.tl ≤ 800 ∧ s.po ≤ 900
theorem MI_nx {B : Nat → Int32} {s : MS} (h : MI s) : MI (nxR B s) := ⟨h.1, nx_po h.1 h.2⟩
theorem MI_rep {k o : Int32} {s : MS} (h : MI s) : MI (repR k o s) := by
  unfold repR
  split
  · exact ⟨h.1, h.2⟩
  · exact h
theorem byR_in {B : Nat → Int32} {tl k : Nat} {x : Int32} (h : byR B tl k = x) (hx : x ≠ -1) : k < tl := by
  by_cases h2 : k < tl
  · exact h2
  · rw [byR_f h2] at h; exact absurd h.symm hx
theorem ch_ok {i j : Nat} (hi : i < 14) (hj : j < lenS.getD i 0) : chS i j ≠ -1 := by
  have h : ∀ i, i < 14 → ∀ j, j < lenS.getD i 0 → chS i j ≠ -1 := by decide
  exact h i hi j hj
theorem len_pos {i : Nat} (hi : i < 14) : 0 < lenS.getD i 0 := by
  have h : ∀ i, i < 14 → 0 < lenS.getD i 0 := by decide
  exact h i hi
theorem MI_tw {B : Nat → Int32} {i : Nat} (hi : i < 14) {s : MS} (h : MI s) : MI (twR B i s).2 := by
  unfold twR
  split
  · split
    · rename_i h2
      have h3 := (swR_iff.mp h2).1 (lenS.getD i 0 - 1) (by have := len_pos hi; omega)
      have h4 := byR_in h3 (ch_ok hi (by have := len_pos hi; omega))
      have h5 := h.1
      refine ⟨h.1, ?_⟩
      show (nxR B s).po + lenS.getD i 0 ≤ 900
      have := len_pos hi
      omega
    · exact MI_nx h
  · exact h
theorem MI_num {B : Nat → Int32} {lo hi : Int32} {s : MS} (h : MI s) : MI (numM B lo hi s).2 := by
  have hn := MI_nx (B := B) h
  unfold numM
  split
  · split
    · rename_i hd
      have hp := (byR_dig.mp hd).1
      have h5 := h.1
      have h6 : scanE fDig B s.tl (nxR B s).po ≤ s.tl := scanE_le _ (by omega)
      have h7 : MI (((nxR B s).wns (nI (nxR B s).po)).wpo (scanE fDig B s.tl (nxR B s).po)) := ⟨h.1, by show scanE fDig B s.tl (nxR B s).po ≤ 900; omega⟩
      split
      · exact h7
      · exact MI_rep h7
    · exact MI_rep hn
  · exact h
def setM (B : Nat → Int32) (lm : Int32) (s : MS) : Int32 × MS :=
  if s.er = 0 then (if byR B s.tl (nxR B s).po = 45 then (-(numM B 0 lm ((nxR B s).wpo ((nxR B s).po + 1))).1, (numM B 0 lm ((nxR B s).wpo ((nxR B s).po + 1))).2) else numM B 0 lm (nxR B s)) else numM B 0 lm s
def wayM (B : Nat → Int32) (s : MS) : Int32 × MS :=
  if (twR B 12 s).1 = true then (1, (twR B 12 s).2) else if (twR B 13 (twR B 12 s).2).1 = true then (-1, (twR B 13 (twR B 12 s).2).2) else (-1, repR (-2) (nI (twR B 13 (twR B 12 s).2).2.po) (twR B 13 (twR B 12 s).2).2)
theorem MI_way {B : Nat → Int32} {s : MS} (h : MI s) : MI (wayM B s).2 := by
  have h1 := MI_tw (B := B) (i := 12) (by decide) h
  have h2 := MI_tw (B := B) (i := 13) (by decide) h1
  unfold wayM
  split
  · exact h1
  · split
    · exact h2
    · exact MI_rep h2
theorem MI_set {B : Nat → Int32} {lm : Int32} {s : MS} (h : MI s) : MI (setM B lm s).2 := by
  unfold setM
  split
  · split
    · rename_i h2
      have h4 := byR_in h2 (by decide)
      have h5 := h.1
      exact MI_num ⟨h.1, by show (nxR B s).po + 1 ≤ 900; omega⟩
    · exact MI_num (MI_nx h)
  · exact MI_num h
set_option maxRecDepth 20000 in
set_option maxHeartbeats 2000000 in
theorem r_setting (l : Launch) (g : Gl) (m : Nat → Nat) (s : MS) (B : Nat → Int32) (htl : s.tl ≤ 800) (hpo : s.po ≤ 900) (lm : Int32) : Ct l g yX7_setting cX7_setting 4 (some .int) 3 120 0 0 [.ref (m 0), .int lm] (lxW g m s B) (fun v w => v = some (.int (setM B lm s).1) ∧ w = lxW g m ((setM B lm s).2) B) noX := by
  refine Ct.intro [some (.ref (m 0)), some (.int lm), none, none] (by decide +kernel) (fun _ h => h) (Nat.le_of_ble_eq_true rfl) (fun A H0 K ok => ?_)
  refine A_aload_n ok.b rfl dX7_setting_0 gp0 ?_
  refine A_sameVR ok (As := []) mf_X7_isGood ml_X7_71 in_X7_isGood se_X7_isGood cf7 gp0 (r_isGood l g m s B htl) rfl rfl dX7_setting_1 (Nat.le_of_ble_eq_true rfl) ⟨(Nat.le_of_ble_eq_true rfl), (Nat.le_of_ble_eq_true rfl)⟩ ⟨(Nat.le_of_ble_eq_true rfl), (Nat.le_of_ble_eq_true rfl)⟩ (fun _ _ hx => hx.elim) (fun v1 w1 q1 => ?_)
  obtain ⟨rfl, rfl⟩ := q1
  refine A_if_eq ok.b (tgt := 20) dX7_setting_4 (by decide) (fun c4 => ?_) (fun c4 => ?_)
  · skip
    refine A_iconst ok.b (v := 0) dX7_setting_20 (by decide) ?_
    refine A_istore_n ok.b rfl dX7_setting_21 (by decide) (sts (sts1 rfl st0)) ?_
    refine A_iload_n ok.b rfl dX7_setting_22 (gps (gps gp0)) ?_
    refine A_if_eq ok.b (tgt := 36) dX7_setting_23 (by decide) (fun c23 => ?_) (fun c23 => ((show False from absurd rfl c23)).elim)
    refine A_aload_n ok.b rfl dX7_setting_36 gp0 ?_
    refine A_iconst ok.b (v := 0) dX7_setting_37 (by decide) ?_
    refine A_iload_n ok.b rfl dX7_setting_38 (gps gp0) ?_
    refine A_sameVR ok (As := [_, _]) mf_X7_number ml_X7_104 in_X7_number se_X7_number cf7 gp0 (r_number l g m (s) B htl hpo 0 lm) rfl rfl dX7_setting_39 (Nat.le_of_ble_eq_true rfl) ⟨(Nat.le_of_ble_eq_true rfl), (Nat.le_of_ble_eq_true rfl)⟩ ⟨(Nat.le_of_ble_eq_true rfl), (Nat.le_of_ble_eq_true rfl)⟩ (fun _ _ hx => hx.elim) (fun v39 w39 q39 => ?_)
    obtain ⟨rfl, rfl⟩ := q39
    refine A_istore_n ok.b rfl dX7_setting_42 (by decide) (sts (sts (sts1 rfl st0))) ?_
    refine A_iload_n ok.b rfl dX7_setting_43 (gps (gps gp0)) ?_
    refine A_if_eq ok.b (tgt := 52) dX7_setting_44 (by decide) (fun c44 => ?_) (fun c44 => ((show False from absurd rfl c44)).elim)
    refine A_iload_n ok.b rfl dX7_setting_52 (gps (gps (gps gp0))) ?_
    refine A_iret ok dX7_setting_53 (Nat.le_of_ble_eq_true rfl) (Nat.le_of_ble_eq_true rfl) ?_
    have h9 : ¬ s.er = 0 := fun h => by rw [if_pos h] at c4; exact absurd c4 (by decide)
    have e9 : setM B lm s = numM B 0 lm s := by rw [setM, if_neg h9]
    exact ⟨by rw [e9], by rw [e9]⟩
  · skip
    have h9 : s.er = 0 := by
      by_cases h : s.er = 0
      · exact h
      · rw [if_neg h] at c4; exact absurd rfl c4
    refine A_aload_n ok.b rfl dX7_setting_7 gp0 ?_
    refine A_sameVR ok (As := []) mf_X7_next ml_X7_75 in_X7_next se_X7_next cf7 gp0 (r_next l g m s B htl hpo) rfl rfl dX7_setting_8 (Nat.le_of_ble_eq_true rfl) ⟨(Nat.le_of_ble_eq_true rfl), (Nat.le_of_ble_eq_true rfl)⟩ ⟨(Nat.le_of_ble_eq_true rfl), (Nat.le_of_ble_eq_true rfl)⟩ (fun _ _ hx => hx.elim) (fun v8 w8 q8 => ?_)
    obtain ⟨rfl, rfl⟩ := q8
    have hn := nx_po (B := B) htl hpo
    have htl2 : (nxR B s).tl ≤ 800 := htl
    have e3 : (nxR B s).tl = s.tl := rfl
    have e1 : scanE fSp B s.tl s.po = (nxR B s).po := rfl
    rw [e1]
    generalize hS : nxR B s = S at e3 hn htl2 ⊢
    refine A_bipush ok.b (v := 45) dX7_setting_11 (by decide) ?_
    refine A_icmp_ne ok.b (tgt := 20) dX7_setting_13 (by decide) (fun c13 => ?_) (fun c13 => ?_)
    · skip
      refine A_iconst ok.b (v := 0) dX7_setting_20 (by decide) ?_
      refine A_istore_n ok.b rfl dX7_setting_21 (by decide) (sts (sts1 rfl st0)) ?_
      refine A_iload_n ok.b rfl dX7_setting_22 (gps (gps gp0)) ?_
      refine A_if_eq ok.b (tgt := 36) dX7_setting_23 (by decide) (fun c23 => ?_) (fun c23 => ((show False from absurd rfl c23)).elim)
      refine A_aload_n ok.b rfl dX7_setting_36 gp0 ?_
      refine A_iconst ok.b (v := 0) dX7_setting_37 (by decide) ?_
      refine A_iload_n ok.b rfl dX7_setting_38 (gps gp0) ?_
      refine A_sameVR ok (As := [_, _]) mf_X7_number ml_X7_104 in_X7_number se_X7_number cf7 gp0 (r_number l g m (S) B htl2 hn 0 lm) rfl rfl dX7_setting_39 (Nat.le_of_ble_eq_true rfl) ⟨(Nat.le_of_ble_eq_true rfl), (Nat.le_of_ble_eq_true rfl)⟩ ⟨(Nat.le_of_ble_eq_true rfl), (Nat.le_of_ble_eq_true rfl)⟩ (fun _ _ hx => hx.elim) (fun v39 w39 q39 => ?_)
      obtain ⟨rfl, rfl⟩ := q39
      refine A_istore_n ok.b rfl dX7_setting_42 (by decide) (sts (sts (sts1 rfl st0))) ?_
      refine A_iload_n ok.b rfl dX7_setting_43 (gps (gps gp0)) ?_
      refine A_if_eq ok.b (tgt := 52) dX7_setting_44 (by decide) (fun c44 => ?_) (fun c44 => ((show False from absurd rfl c44)).elim)
      refine A_iload_n ok.b rfl dX7_setting_52 (gps (gps (gps gp0))) ?_
      refine A_iret ok dX7_setting_53 (Nat.le_of_ble_eq_true rfl) (Nat.le_of_ble_eq_true rfl) ?_
      have e9 : setM B lm s = numM B 0 lm S := by rw [setM, if_pos h9, hS, if_neg c13]
      exact ⟨by rw [e9], by rw [e9]⟩
    · skip
      refine A_iconst ok.b (v := 1) dX7_setting_16 (by decide) ?_
      refine A_goto ok.b (tgt := 21) dX7_setting_17 (by decide) ?_
      refine A_istore_n ok.b rfl dX7_setting_21 (by decide) (sts (sts1 rfl st0)) ?_
      refine A_iload_n ok.b rfl dX7_setting_22 (gps (gps gp0)) ?_
      refine A_if_eq ok.b (tgt := 36) dX7_setting_23 (by decide) (fun c23 => ((show False from absurd c23 (by decide))).elim) (fun c23 => ?_)
      have h4 := byR_in c13 (by decide)
      refine A_aload_n ok.b rfl dX7_setting_26 gp0 ?_
      refine A_dup ok.b dX7_setting_27 rfl ?_
      refine A_getf ok.b cf7 4 (by decide) fl_X7_54 gp0 (gps (gps (gps (gps gp0)))) dX7_setting_28 ?_
      refine A_iconst ok.b (v := 1) dX7_setting_31 (by decide) ?_
      refine A_iadd ok.b dX7_setting_32 ?_
      rw [nI_1]
      refine A_putf ok.b cf7 4 (by decide) rfl fl_X7_54 gp0 rfl rfl (gp_lt (gps (gps (gps (gps gp0))))) (wps (wps (wps (wps wp0)))) wp0 dX7_setting_33 ?_
      refine A_aload_n ok.b rfl dX7_setting_36 gp0 ?_
      refine A_iconst ok.b (v := 0) dX7_setting_37 (by decide) ?_
      refine A_iload_n ok.b rfl dX7_setting_38 (gps gp0) ?_
      refine A_sameVR ok (As := [_, _]) mf_X7_number ml_X7_104 in_X7_number se_X7_number cf7 gp0 (r_number l g m (S.wpo (S.po + 1)) B htl2 (by show S.po + 1 ≤ 900; omega) 0 lm) rfl rfl dX7_setting_39 (Nat.le_of_ble_eq_true rfl) ⟨(Nat.le_of_ble_eq_true rfl), (Nat.le_of_ble_eq_true rfl)⟩ ⟨(Nat.le_of_ble_eq_true rfl), (Nat.le_of_ble_eq_true rfl)⟩ (fun _ _ hx => hx.elim) (fun v39 w39 q39 => ?_)
      obtain ⟨rfl, rfl⟩ := q39
      refine A_istore_n ok.b rfl dX7_setting_42 (by decide) (sts (sts (sts1 rfl st0))) ?_
      refine A_iload_n ok.b rfl dX7_setting_43 (gps (gps gp0)) ?_
      refine A_if_eq ok.b (tgt := 52) dX7_setting_44 (by decide) (fun c44 => ((show False from absurd c44 (by decide))).elim) (fun c44 => ?_)
      refine A_iload_n ok.b rfl dX7_setting_47 (gps (gps (gps gp0))) ?_
      refine A_ineg ok.b dX7_setting_48 ?_
      refine A_goto ok.b (tgt := 53) dX7_setting_49 (by decide) ?_
      refine A_iret ok dX7_setting_53 (Nat.le_of_ble_eq_true rfl) (Nat.le_of_ble_eq_true rfl) ?_
      have e9 : setM B lm s = (-(numM B 0 lm (S.wpo (S.po + 1))).1, (numM B 0 lm (S.wpo (S.po + 1))).2) := by rw [setM, if_pos h9, hS, if_pos c13]
      exact ⟨by rw [e9], by rw [e9]⟩
set_option maxRecDepth 20000 in
set_option maxHeartbeats 2000000 in
theorem r_way (l : Launch) (g : Gl) (m : Nat → Nat) (s : MS) (B : Nat → Int32) (hM : MI s) : Ct l g yX7_way cX7_way 1 (some .int) 5 200 0 0 [.ref (m 0)] (lxW g m s B) (fun v w => v = some (.int (wayM B s).1) ∧ w = lxW g m (wayM B s).2 B) noX := by
  refine Ct.intro [some (.ref (m 0))] (by decide +kernel) (fun _ h => h) (Nat.le_of_ble_eq_true rfl) (fun A H0 K ok => ?_)
  refine A_aload_n ok.b rfl dX7_way_0 gp0 ?_
  refine A_ldcS ok.b (List.mem_of_getElem? (l := sTab) (i := 26) rfl) dX7_way_1 ?_
  refine A_sameVR ok (As := [_]) mf_X7_takeWord ml_X7_109 in_X7_takeWord se_X7_takeWord cf7 gp0 (r_takeWord l g m (s) B hM.1 hM.2 12 (by decide)) rfl rfl dX7_way_3 (Nat.le_of_ble_eq_true rfl) ⟨(Nat.le_of_ble_eq_true rfl), (Nat.le_of_ble_eq_true rfl)⟩ ⟨(Nat.le_of_ble_eq_true rfl), (Nat.le_of_ble_eq_true rfl)⟩ (fun _ _ hx => hx.elim) (fun v3 w3 q3 => ?_)
  obtain ⟨rfl, rfl⟩ := q3
  have k1 : MI (twR B 12 (s)).2 := MI_tw (by decide) hM
  generalize hk1 : twR B 12 (s) = Fk1 at k1 ⊢
  refine A_if_eq ok.b (tgt := 11) dX7_way_6 (by decide) (fun c6 => ?_) (fun c6 => ?_)
  · skip
    refine A_aload_n ok.b rfl dX7_way_11 gp0 ?_
    refine A_ldcS ok.b (List.mem_of_getElem? (l := sTab) (i := 27) rfl) dX7_way_12 ?_
    refine A_sameVR ok (As := [_]) mf_X7_takeWord ml_X7_109 in_X7_takeWord se_X7_takeWord cf7 gp0 (r_takeWord l g m (Fk1.2) B k1.1 k1.2 13 (by decide)) rfl rfl dX7_way_14 (Nat.le_of_ble_eq_true rfl) ⟨(Nat.le_of_ble_eq_true rfl), (Nat.le_of_ble_eq_true rfl)⟩ ⟨(Nat.le_of_ble_eq_true rfl), (Nat.le_of_ble_eq_true rfl)⟩ (fun _ _ hx => hx.elim) (fun v14 w14 q14 => ?_)
    obtain ⟨rfl, rfl⟩ := q14
    have k2 : MI (twR B 13 (Fk1.2)).2 := MI_tw (by decide) k1
    generalize hk2 : twR B 13 (Fk1.2) = Fk2 at k2 ⊢
    refine A_if_ne ok.b (tgt := 30) dX7_way_17 (by decide) (fun c17 => ?_) (fun c17 => ?_)
    · skip
      refine A_iconst ok.b (v := (-1)) dX7_way_30 (by decide) ?_
      refine A_iret ok dX7_way_31 (Nat.le_of_ble_eq_true rfl) (Nat.le_of_ble_eq_true rfl) ?_
      have e9 : wayM B s = (-1, Fk2.2) := by rw [wayM, hk1, if_neg (bI_z c6), hk2, if_pos (bI_n c17)]
      exact ⟨by rw [e9], by rw [e9]⟩
    · skip
      refine A_aload_n ok.b rfl dX7_way_20 gp0 ?_
      refine A_bipush ok.b (v := (-2)) dX7_way_21 (by decide) ?_
      refine A_aload_n ok.b rfl dX7_way_23 gp0 ?_
      refine A_getf ok.b cf7 4 (by decide) fl_X7_54 gp0 (gps (gps (gps (gps gp0)))) dX7_way_24 ?_
      refine A_sameVR ok (As := [_, _]) mf_X7_report ml_X7_88 in_X7_report se_X7_report cf7 gp0 (r_report l g m Fk2.2 B k2.1 _ _) rfl rfl dX7_way_27 (Nat.le_of_ble_eq_true rfl) ⟨(Nat.le_of_ble_eq_true rfl), (Nat.le_of_ble_eq_true rfl)⟩ ⟨(Nat.le_of_ble_eq_true rfl), (Nat.le_of_ble_eq_true rfl)⟩ (fun _ _ hx => hx.elim) (fun v27 w27 q27 => ?_)
      obtain ⟨rfl, rfl⟩ := q27
      refine A_iconst ok.b (v := (-1)) dX7_way_30 (by decide) ?_
      refine A_iret ok dX7_way_31 (Nat.le_of_ble_eq_true rfl) (Nat.le_of_ble_eq_true rfl) ?_
      have e9 : wayM B s = (-1, repR (-2) (nI Fk2.2.po) Fk2.2) := by rw [wayM, hk1, if_neg (bI_z c6), hk2, if_neg (bI_z c17)]
      exact ⟨by rw [e9], by rw [e9]⟩
  · skip
    refine A_iconst ok.b (v := 1) dX7_way_9 (by decide) ?_
    refine A_iret ok dX7_way_10 (Nat.le_of_ble_eq_true rfl) (Nat.le_of_ble_eq_true rfl) ?_
    have e9 : wayM B s = (1, Fk1.2) := by rw [wayM, hk1, if_pos (bI_n c6)]
    exact ⟨by rw [e9], by rw [e9]⟩
