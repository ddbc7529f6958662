/-- the bytes from the position on are the word i, and no letter follows -/
def swR (B : Nat → Int32) (tl po i : Nat) : Bool := (List.range (lenS.getD i 0)).all (fun j => decide (byR B tl (po + j) = chS i j)) && !inB (byR B tl (po + lenS.getD i 0)) 97 122
theorem swR_iff {B : Nat → Int32} {tl po i : Nat} : swR B tl po i = true ↔ (∀ j, j < lenS.getD i 0 → byR B tl (po + j) = chS i j) ∧ inB (byR B tl (po + lenS.getD i 0)) 97 122 = false := by
  simp [swR]
def twR (B : Nat → Int32) (i : Nat) (s : MS) : Bool × MS := if s.er = 0 then (if swR B s.tl (nxR B s).po i = true then (true, (nxR B s).wpo ((nxR B s).po + lenS.getD i 0)) else (false, nxR B s)) else (false, s)
set_option maxRecDepth 20000 in
set_option maxHeartbeats 2000000 in
theorem r_takeWord (l : Launch) (g : Gl) (m : Nat → Nat) (s : MS) (B : Nat → Int32) (htl : s.tl ≤ 800) (hpo : s.po ≤ 900) (i : Nat) (hi : i < 14) : Ct l g yX7_takeWord cX7_takeWord 3 (some .boolean) 4 160 0 0 [.ref (m 0), .ref (g.2.2.1 i)] (lxW g m s B) (fun v w => v = some (.int (bI (twR B i s).1)) ∧ w = lxW g m ((twR B i s).2) B) noX := by
  refine Ct.intro [some (.ref (m 0)), some (.ref (g.2.2.1 i)), none] (by decide +kernel) (fun _ h => h) (Nat.le_of_ble_eq_true rfl) (fun A H0 K ok => ?_)
  have hl6 := lenS_le hi
  refine A_aload_n ok.b rfl dX7_takeWord_0 gp0 ?_
  refine A_sameVR ok (As := []) mf_X7_isGood ml_X7_71 in_X7_isGood se_X7_isGood cf7 gp0 (r_isGood l g m s B htl) rfl rfl dX7_takeWord_1 (Nat.le_of_ble_eq_true rfl) ⟨(Nat.le_of_ble_eq_true rfl), (Nat.le_of_ble_eq_true rfl)⟩ ⟨(Nat.le_of_ble_eq_true rfl), (Nat.le_of_ble_eq_true rfl)⟩ (fun _ _ hx => hx.elim) (fun v1 w1 q1 => ?_)
  obtain ⟨rfl, rfl⟩ := q1
  refine A_if_ne ok.b (tgt := 9) dX7_takeWord_4 (by decide) (fun c4 => ?_) (fun c4 => ?_)
  · skip
    have h9 : s.er = 0 := by
      by_cases h : s.er = 0
      · exact h
      · rw [if_neg h] at c4; exact absurd rfl c4
    refine A_aload_n ok.b rfl dX7_takeWord_9 gp0 ?_
    refine A_sameVR ok (As := []) mf_X7_next ml_X7_75 in_X7_next se_X7_next cf7 gp0 (r_next l g m s B htl hpo) rfl rfl dX7_takeWord_10 (Nat.le_of_ble_eq_true rfl) ⟨(Nat.le_of_ble_eq_true rfl), (Nat.le_of_ble_eq_true rfl)⟩ ⟨(Nat.le_of_ble_eq_true rfl), (Nat.le_of_ble_eq_true rfl)⟩ (fun _ _ hx => hx.elim) (fun v10 w10 q10 => ?_)
    obtain ⟨rfl, rfl⟩ := q10
    have hn := nx_po (B := B) htl hpo
    have htl2 : (nxR B s).tl ≤ 800 := htl
    have e3 : (nxR B s).tl = s.tl := rfl
    have e1 : scanE fSp B s.tl s.po = (nxR B s).po := rfl
    rw [e1]
    generalize hS : nxR B s = S at e3 hn htl2 ⊢
    refine A_pop ok.b dX7_takeWord_13 rfl ?_
    refine A_iconst ok.b (v := 0) dX7_takeWord_14 (by decide) ?_
    refine A_istore_n ok.b rfl dX7_takeWord_15 (by decide) (sts (sts1 rfl st0)) ?_
    have L : ∀ k, k ≤ lenS.getD i 0 → (∀ j, j < k → byR B s.tl (S.po + j) = chS i j) → AW g A H0 3 K 16 [some (.ref (m 0)), some (.ref (g.2.2.1 i)), some (.int (nI k))] [] (lxW g m S B) 0 0 := by
      refine up_ind (lenS.getD i 0) ?_ (fun k hk ih => ?_)
      · intro hsm
        refine A_iload_n ok.b rfl dX7_takeWord_16 (gps (gps gp0)) ?_
        refine A_aload_n ok.b rfl dX7_takeWord_17 (gps gp0) ?_
        refine A_str ok.b (As := []) hi rfl mf_J0_length_8abf5 ml_X7_79 in_J0_length_8abf5 se_J0_length_8abf5 (c_strlen l g i hi) rfl rfl dX7_takeWord_18 (Nat.le_of_ble_eq_true rfl) ⟨Nat.le_of_ble_eq_true rfl, Nat.le_of_ble_eq_true rfl⟩ ⟨Nat.le_of_ble_eq_true rfl, Nat.le_of_ble_eq_true rfl⟩ ?_
        refine A_icmp_ge ok.b (tgt := 48) dX7_takeWord_21 (by decide) (fun c21 => ?_) (fun c21 => (c21 (nI_le (Nat.le_refl _) (by omega))).elim)
        refine A_iload_n ok.b rfl dX7_takeWord_48 (gps (gps gp0)) ?_
        refine A_aload_n ok.b rfl dX7_takeWord_49 (gps gp0) ?_
        refine A_str ok.b (As := []) hi rfl mf_J0_length_8abf5 ml_X7_79 in_J0_length_8abf5 se_J0_length_8abf5 (c_strlen l g i hi) rfl rfl dX7_takeWord_50 (Nat.le_of_ble_eq_true rfl) ⟨Nat.le_of_ble_eq_true rfl, Nat.le_of_ble_eq_true rfl⟩ ⟨Nat.le_of_ble_eq_true rfl, Nat.le_of_ble_eq_true rfl⟩ ?_
        refine A_icmp_lt ok.b (tgt := 76) dX7_takeWord_53 (by decide) (fun c53 => (nI_nlt (Nat.le_refl _) (by omega) c53).elim) (fun c53 => ?_)
        refine A_aload_n ok.b rfl dX7_takeWord_56 gp0 ?_
        refine A_aload_n ok.b rfl dX7_takeWord_57 gp0 ?_
        refine A_getf ok.b cf7 4 (by decide) fl_X7_54 gp0 (gps (gps (gps (gps gp0)))) dX7_takeWord_58 ?_
        refine A_iload_n ok.b rfl dX7_takeWord_61 (gps (gps gp0)) ?_
        refine A_iadd ok.b dX7_takeWord_62 ?_
        rw [show nI S.po + nI (lenS.getD i 0) = nI (S.po + (lenS.getD i 0)) from nI_add _ _]
        refine A_sameVR ok (As := [_]) mf_X7_byteAt ml_X7_57 in_X7_byteAt se_X7_byteAt cf7 gp0 (r_byteAt l g m S B htl2 (S.po + (lenS.getD i 0)) (by omega)) rfl rfl dX7_takeWord_63 (Nat.le_of_ble_eq_true rfl) ⟨(Nat.le_of_ble_eq_true rfl), (Nat.le_of_ble_eq_true rfl)⟩ ⟨(Nat.le_of_ble_eq_true rfl), (Nat.le_of_ble_eq_true rfl)⟩ (fun _ _ hx => hx.elim) (fun v63 w63 q63 => ?_)
        obtain ⟨rfl, rfl⟩ := q63
        refine A_bipush ok.b (v := 97) dX7_takeWord_66 (by decide) ?_
        refine A_bipush ok.b (v := 122) dX7_takeWord_68 (by decide) ?_
        refine A_pureS ok.b (As := [_, _, _]) mf_X7_in ml_X7_67 rfl sc_X7_in (r_in l g _ _ _) rfl rfl dX7_takeWord_70 (Nat.le_of_ble_eq_true rfl) ⟨(Nat.le_of_ble_eq_true rfl), (Nat.le_of_ble_eq_true rfl)⟩ ⟨(Nat.le_of_ble_eq_true rfl), (Nat.le_of_ble_eq_true rfl)⟩ ?_
        refine A_if_eq ok.b (tgt := 78) dX7_takeWord_73 (by decide) (fun c73 => ?_) (fun c73 => ?_)
        · skip
          refine A_aload_n ok.b rfl dX7_takeWord_78 gp0 ?_
          refine A_dup ok.b dX7_takeWord_79 rfl ?_
          refine A_getf ok.b cf7 4 (by decide) fl_X7_54 gp0 (gps (gps (gps (gps gp0)))) dX7_takeWord_80 ?_
          refine A_iload_n ok.b rfl dX7_takeWord_83 (gps (gps gp0)) ?_
          refine A_iadd ok.b dX7_takeWord_84 ?_
          rw [show nI S.po + nI (lenS.getD i 0) = nI (S.po + lenS.getD i 0) from nI_add _ _]
          refine A_putf ok.b cf7 4 (by decide) rfl fl_X7_54 gp0 rfl rfl (gp_lt (gps (gps (gps (gps gp0))))) (wps (wps (wps (wps wp0)))) wp0 dX7_takeWord_85 ?_
          refine A_iconst ok.b (v := 1) dX7_takeWord_88 (by decide) ?_
          refine A_zret ok dX7_takeWord_89 (by decide) (Nat.le_of_ble_eq_true rfl) (Nat.le_of_ble_eq_true rfl) ?_
          have e9 : twR B i s = (true, S.wpo (S.po + lenS.getD i 0)) := by rw [twR, if_pos h9, hS, if_pos (swR_iff.mpr ⟨hsm, by rw [← e3]; cases hb : inB (byR B S.tl (S.po + lenS.getD i 0)) 97 122; rfl; rw [hb] at c73; exact absurd c73 (by decide)⟩)]
          exact ⟨by rw [e9] <;> rfl, by rw [e9] <;> rfl⟩
        · skip
          refine A_iconst ok.b (v := 0) dX7_takeWord_76 (by decide) ?_
          refine A_zret ok dX7_takeWord_77 (by decide) (Nat.le_of_ble_eq_true rfl) (Nat.le_of_ble_eq_true rfl) ?_
          have e9 : twR B i s = (false, S) := by rw [twR, if_pos h9, hS, if_neg (fun h => by have h2 := (swR_iff.mp h).2; rw [← e3] at h2; rw [h2] at c73; exact c73 rfl)]
          exact ⟨by rw [e9] <;> rfl, by rw [e9]⟩
      · intro hsm
        refine A_iload_n ok.b rfl dX7_takeWord_16 (gps (gps gp0)) ?_
        refine A_aload_n ok.b rfl dX7_takeWord_17 (gps gp0) ?_
        refine A_str ok.b (As := []) hi rfl mf_J0_length_8abf5 ml_X7_79 in_J0_length_8abf5 se_J0_length_8abf5 (c_strlen l g i hi) rfl rfl dX7_takeWord_18 (Nat.le_of_ble_eq_true rfl) ⟨Nat.le_of_ble_eq_true rfl, Nat.le_of_ble_eq_true rfl⟩ ⟨Nat.le_of_ble_eq_true rfl, Nat.le_of_ble_eq_true rfl⟩ ?_
        refine A_icmp_ge ok.b (tgt := 48) dX7_takeWord_21 (by decide) (fun c21 => (nI_ge hk (by omega) c21).elim) (fun c21 => ?_)
        refine A_aload_n ok.b rfl dX7_takeWord_24 gp0 ?_
        refine A_aload_n ok.b rfl dX7_takeWord_25 gp0 ?_
        refine A_getf ok.b cf7 4 (by decide) fl_X7_54 gp0 (gps (gps (gps (gps gp0)))) dX7_takeWord_26 ?_
        refine A_iload_n ok.b rfl dX7_takeWord_29 (gps (gps gp0)) ?_
        refine A_iadd ok.b dX7_takeWord_30 ?_
        rw [show nI S.po + nI k = nI (S.po + k) from nI_add _ _]
        refine A_sameVR ok (As := [_]) mf_X7_byteAt ml_X7_57 in_X7_byteAt se_X7_byteAt cf7 gp0 (r_byteAt l g m S B htl2 (S.po + k) (by omega)) rfl rfl dX7_takeWord_31 (Nat.le_of_ble_eq_true rfl) ⟨(Nat.le_of_ble_eq_true rfl), (Nat.le_of_ble_eq_true rfl)⟩ ⟨(Nat.le_of_ble_eq_true rfl), (Nat.le_of_ble_eq_true rfl)⟩ (fun _ _ hx => hx.elim) (fun v31 w31 q31 => ?_)
        obtain ⟨rfl, rfl⟩ := q31
        refine A_aload_n ok.b rfl dX7_takeWord_34 (gps gp0) ?_
        refine A_iload_n ok.b rfl dX7_takeWord_35 (gps (gps gp0)) ?_
        refine A_str ok.b (As := [.int (nI k)]) hi rfl mf_J0_charAt_5068e ml_X7_84 in_J0_charAt_5068e se_J0_charAt_5068e (c_charAt l g i k hi hk) rfl rfl dX7_takeWord_36 (Nat.le_of_ble_eq_true rfl) ⟨Nat.le_of_ble_eq_true rfl, Nat.le_of_ble_eq_true rfl⟩ ⟨Nat.le_of_ble_eq_true rfl, Nat.le_of_ble_eq_true rfl⟩ ?_
        refine A_icmp_ne ok.b (tgt := 48) dX7_takeWord_39 (by decide) (fun c39 => ?_) (fun c39 => ?_)
        · skip
          refine A_iload_n ok.b rfl dX7_takeWord_48 (gps (gps gp0)) ?_
          refine A_aload_n ok.b rfl dX7_takeWord_49 (gps gp0) ?_
          refine A_str ok.b (As := []) hi rfl mf_J0_length_8abf5 ml_X7_79 in_J0_length_8abf5 se_J0_length_8abf5 (c_strlen l g i hi) rfl rfl dX7_takeWord_50 (Nat.le_of_ble_eq_true rfl) ⟨Nat.le_of_ble_eq_true rfl, Nat.le_of_ble_eq_true rfl⟩ ⟨Nat.le_of_ble_eq_true rfl, Nat.le_of_ble_eq_true rfl⟩ ?_
          refine A_icmp_lt ok.b (tgt := 76) dX7_takeWord_53 (by decide) (fun c53 => ?_) (fun c53 => (c53 (nI_lt hk (by omega))).elim)
          refine A_iconst ok.b (v := 0) dX7_takeWord_76 (by decide) ?_
          refine A_zret ok dX7_takeWord_77 (by decide) (Nat.le_of_ble_eq_true rfl) (Nat.le_of_ble_eq_true rfl) ?_
          have e9 : twR B i s = (false, S) := by rw [twR, if_pos h9, hS, if_neg (fun h => c39 (by have h2 := (swR_iff.mp h).1 k hk; rw [← e3] at h2; exact h2))]
          exact ⟨by rw [e9] <;> rfl, by rw [e9]⟩
        · skip
          refine A_iinc ok.b (v := _ + 1) dX7_takeWord_42 (gps (gps gp0)) rfl (by decide) (sts (sts1 rfl st0)) ?_
          refine A_goto ok.b (tgt := 16) dX7_takeWord_45 (by decide) ?_
          rw [nI_1]
          refine ih (fun j hj => ?_)
          by_cases e : j = k
          · rw [e, ← e3]; exact c39
          · exact hsm j (by omega)
    exact L 0 (Nat.zero_le _) (fun j hj => absurd hj (Nat.not_lt_zero j))
  · skip
    refine A_iconst ok.b (v := 0) dX7_takeWord_7 (by decide) ?_
    refine A_zret ok dX7_takeWord_8 (by decide) (Nat.le_of_ble_eq_true rfl) (Nat.le_of_ble_eq_true rfl) ?_
    have h9 : ¬ s.er = 0 := fun h => by rw [if_pos h] at c4; exact absurd c4 (by decide)
    exact ⟨by rw [twR, if_neg h9]; rfl, by rw [twR, if_neg h9]⟩
