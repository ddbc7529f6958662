theorem inB_dig (b : Int32) : inB b 48 57 = fDig b := by
  by_cases h1 : b < 48
  · rw [inB_f1 h1]
    cases hd : fDig b
    · rfl
    · exact absurd hd (dig_no1 h1)
  · by_cases h2 : 57 < b
    · rw [inB_f2 h2]
      cases hd : fDig b
      · rfl
      · exact absurd hd (dig_no2 h2)
    · rw [inB_t h1 h2, dig_of h1 h2]
theorem byR_dig {B : Nat → Int32} {tl q : Nat} : fDig (byR B tl q) = true ↔ (q < tl ∧ fDig (B q) = true) := by
  by_cases h : q < tl
  · rw [byR_t h]; exact ⟨fun h2 => ⟨h, h2⟩, fun h2 => h2.2⟩
  · rw [byR_f h]
    exact ⟨fun h2 => absurd h2 (by decide), fun h2 => absurd h2.1 h⟩
def nvR (B : Nat → Int32) (p : Nat) : Nat → Int32
  | 0 => 0
  | k + 1 => if 10 * nvR B p k + B (p + k) - 48 ≤ 1000000 then 10 * nvR B p k + B (p + k) - 48 else 1000000
/-- a number, and what is left behind -/
def numM (B : Nat → Int32) (lo hi : Int32) (s : MS) : Int32 × MS :=
  if s.er = 0 then
    (if fDig (byR B s.tl (nxR B s).po) = true then
      (if inB (nvR B (nxR B s).po (scanE fDig B s.tl (nxR B s).po - (nxR B s).po)) lo hi = true
        then (nvR B (nxR B s).po (scanE fDig B s.tl (nxR B s).po - (nxR B s).po), ((nxR B s).wns (nI (nxR B s).po)).wpo (scanE fDig B s.tl (nxR B s).po))
        else (nvR B (nxR B s).po (scanE fDig B s.tl (nxR B s).po - (nxR B s).po), repR (-3) (nI (nxR B s).po) (((nxR B s).wns (nI (nxR B s).po)).wpo (scanE fDig B s.tl (nxR B s).po))))
    else (0, repR (-2) (nI (nxR B s).po) (nxR B s)))
  else (0, s)
set_option maxRecDepth 20000 in
set_option maxHeartbeats 2000000 in
theorem r_number (l : Launch) (g : Gl) (m : Nat → Nat) (s : MS) (B : Nat → Int32) (htl : s.tl ≤ 800) (hpo : s.po ≤ 900) (lo hi : Int32) : Ct l g yX7_number cX7_number 4 (some .int) 2 80 0 0 [.ref (m 0), .int lo, .int hi] (lxW g m s B) (fun v w => v = some (.int (numM B lo hi s).1) ∧ w = lxW g m ((numM B lo hi s).2) B) noX := by
  refine Ct.intro [some (.ref (m 0)), some (.int lo), some (.int hi), none] (by decide +kernel) (fun _ h => h) (Nat.le_of_ble_eq_true rfl) (fun A H0 K ok => ?_)
  refine A_aload_n ok.b rfl dX7_number_0 gp0 ?_
  refine A_sameVR ok (As := []) mf_X7_isGood ml_X7_71 in_X7_isGood se_X7_isGood cf7 gp0 (r_isGood l g m s B htl) rfl rfl dX7_number_1 (Nat.le_of_ble_eq_true rfl) ⟨(Nat.le_of_ble_eq_true rfl), (Nat.le_of_ble_eq_true rfl)⟩ ⟨(Nat.le_of_ble_eq_true rfl), (Nat.le_of_ble_eq_true rfl)⟩ (fun _ _ hx => hx.elim) (fun v1 w1 q1 => ?_)
  obtain ⟨rfl, rfl⟩ := q1
  refine A_if_ne ok.b (tgt := 9) dX7_number_4 (by decide) (fun c4 => ?_) (fun c4 => ?_)
  · skip
    have h9 : s.er = 0 := by
      by_cases h : s.er = 0
      · exact h
      · rw [if_neg h] at c4; exact absurd rfl c4
    refine A_aload_n ok.b rfl dX7_number_9 gp0 ?_
    refine A_sameVR ok (As := []) mf_X7_next ml_X7_75 in_X7_next se_X7_next cf7 gp0 (r_next l g m s B htl hpo) rfl rfl dX7_number_10 (Nat.le_of_ble_eq_true rfl) ⟨(Nat.le_of_ble_eq_true rfl), (Nat.le_of_ble_eq_true rfl)⟩ ⟨(Nat.le_of_ble_eq_true rfl), (Nat.le_of_ble_eq_true rfl)⟩ (fun _ _ hx => hx.elim) (fun v10 w10 q10 => ?_)
    obtain ⟨rfl, rfl⟩ := q10
    have hn := nx_po (B := B) htl hpo
    have htl2 : (nxR B s).tl ≤ 800 := htl
    have e3 : (nxR B s).tl = s.tl := rfl
    have e1 : scanE fSp B s.tl s.po = (nxR B s).po := rfl
    rw [e1]
    generalize hS : nxR B s = S at e3 hn htl2 ⊢
    refine A_pureS ok.b (As := [_]) mf_X7_isDigit ml_X7_92 rfl sc_X7_isDigit (r_isDigit l g _) rfl rfl dX7_number_13 (Nat.le_of_ble_eq_true rfl) ⟨(Nat.le_of_ble_eq_true rfl), (Nat.le_of_ble_eq_true rfl)⟩ ⟨(Nat.le_of_ble_eq_true rfl), (Nat.le_of_ble_eq_true rfl)⟩ ?_
    refine A_if_ne ok.b (tgt := 31) dX7_number_16 (by decide) (fun c16 => ?_) (fun c16 => ?_)
    · skip
      refine A_aload_n ok.b rfl dX7_number_31 gp0 ?_
      refine A_aload_n ok.b rfl dX7_number_32 gp0 ?_
      refine A_getf ok.b cf7 4 (by decide) fl_X7_54 gp0 (gps (gps (gps (gps gp0)))) dX7_number_33 ?_
      refine A_putf ok.b cf7 13 (by decide) rfl fl_X7_96 gp0 rfl rfl (gp_lt (gps (gps (gps (gps (gps (gps (gps (gps (gps (gps (gps (gps (gps gp0)))))))))))))) (wps (wps (wps (wps (wps (wps (wps (wps (wps (wps (wps (wps (wps wp0))))))))))))) wp0 dX7_number_36 ?_
      refine A_iconst ok.b (v := 0) dX7_number_39 (by decide) ?_
      refine A_istore_n ok.b rfl dX7_number_40 (by decide) (sts (sts (sts1 rfl st0))) ?_
      have hd0 : fDig (byR B s.tl S.po) = true := by
        rw [← inB_dig]; exact bI_n c16
      have hp0 : S.po < S.tl := by
        rw [← e3] at hd0; exact (byR_dig.mp hd0).1
      have T : ∀ q, q = scanE fDig B S.tl S.po → AW g A H0 4 K 90 [some (.ref (m 0)), some (.int lo), some (.int hi), some (.int (nvR B S.po (q - S.po)))] [] (lxW g m ((S.wns (nI S.po)).wpo q) B) 0 0 := by
        intro q hq
        refine A_iload_n ok.b rfl dX7_number_90 (gps (gps (gps gp0))) ?_
        refine A_iload_n ok.b rfl dX7_number_91 (gps gp0) ?_
        refine A_iload_n ok.b rfl dX7_number_92 (gps (gps gp0)) ?_
        refine A_pureS ok.b (As := [_, _, _]) mf_X7_in ml_X7_67 rfl sc_X7_in (r_in l g _ _ _) rfl rfl dX7_number_93 (Nat.le_of_ble_eq_true rfl) ⟨(Nat.le_of_ble_eq_true rfl), (Nat.le_of_ble_eq_true rfl)⟩ ⟨(Nat.le_of_ble_eq_true rfl), (Nat.le_of_ble_eq_true rfl)⟩ ?_
        refine A_if_ne ok.b (tgt := 109) dX7_number_96 (by decide) (fun c96 => ?_) (fun c96 => ?_)
        · skip
          refine A_iload_n ok.b rfl dX7_number_109 (gps (gps (gps gp0))) ?_
          refine A_iret ok dX7_number_110 (Nat.le_of_ble_eq_true rfl) (Nat.le_of_ble_eq_true rfl) ?_
          have e9 : numM B lo hi s = (nvR B S.po (q - S.po), (S.wns (nI S.po)).wpo q) := by rw [numM, if_pos h9, hS, if_pos hd0, ← e3, ← hq, if_pos (bI_n c96)]
          exact ⟨by rw [e9], by rw [e9]⟩
        · skip
          refine A_aload_n ok.b rfl dX7_number_99 gp0 ?_
          refine A_bipush ok.b (v := (-3)) dX7_number_100 (by decide) ?_
          refine A_aload_n ok.b rfl dX7_number_102 gp0 ?_
          refine A_getf ok.b cf7 13 (by decide) fl_X7_96 gp0 (gps (gps (gps (gps (gps (gps (gps (gps (gps (gps (gps (gps (gps gp0))))))))))))) dX7_number_103 ?_
          refine A_sameVR ok (As := [_, _]) mf_X7_report ml_X7_88 in_X7_report se_X7_report cf7 gp0 (r_report l g m ((S.wns (nI S.po)).wpo q) B htl2 _ _) rfl rfl dX7_number_106 (Nat.le_of_ble_eq_true rfl) ⟨(Nat.le_of_ble_eq_true rfl), (Nat.le_of_ble_eq_true rfl)⟩ ⟨(Nat.le_of_ble_eq_true rfl), (Nat.le_of_ble_eq_true rfl)⟩ (fun _ _ hx => hx.elim) (fun v106 w106 q106 => ?_)
          obtain ⟨rfl, rfl⟩ := q106
          refine A_iload_n ok.b rfl dX7_number_109 (gps (gps (gps gp0))) ?_
          refine A_iret ok dX7_number_110 (Nat.le_of_ble_eq_true rfl) (Nat.le_of_ble_eq_true rfl) ?_
          have e9 : numM B lo hi s = (nvR B S.po (q - S.po), repR (-3) (nI S.po) ((S.wns (nI S.po)).wpo q)) := by rw [numM, if_pos h9, hS, if_pos hd0, ← e3, ← hq, if_neg (bI_z c96)]
          exact ⟨by rw [e9], by rw [e9] <;> rfl⟩
      have L : ∀ q, S.po ≤ q → scanE fDig B S.tl q = scanE fDig B S.tl S.po → q ≤ 900 → AW g A H0 4 K 41 [some (.ref (m 0)), some (.int lo), some (.int hi), some (.int (nvR B S.po (q - S.po)))] [] (lxW g m ((S.wns (nI S.po)).wpo q) B) 0 0 := by
        intro q hq hqe hq8
        refine scanE_ind (f := fDig) (B := B) (len := S.tl) (P := fun q => S.po ≤ q → scanE fDig B S.tl q = scanE fDig B S.tl S.po → q ≤ 900 → AW g A H0 4 K 41 [some (.ref (m 0)), some (.int lo), some (.int hi), some (.int (nvR B S.po (q - S.po)))] [] (lxW g m ((S.wns (nI S.po)).wpo q) B) 0 0) q (fun q _ ih => ?_) (by omega) hq hqe hq8
        intro hq hqe hq8
        refine A_aload_n ok.b rfl dX7_number_41 gp0 ?_
        refine A_aload_n ok.b rfl dX7_number_42 gp0 ?_
        refine A_getf ok.b cf7 4 (by decide) fl_X7_54 gp0 (gps (gps (gps (gps gp0)))) dX7_number_43 ?_
        refine A_sameVR ok (As := [_]) mf_X7_byteAt ml_X7_57 in_X7_byteAt se_X7_byteAt cf7 gp0 (r_byteAt l g m ((S.wns (nI S.po)).wpo q) B htl2 q (by omega)) rfl rfl dX7_number_46 (Nat.le_of_ble_eq_true rfl) ⟨(Nat.le_of_ble_eq_true rfl), (Nat.le_of_ble_eq_true rfl)⟩ ⟨(Nat.le_of_ble_eq_true rfl), (Nat.le_of_ble_eq_true rfl)⟩ (fun _ _ hx => hx.elim) (fun v46 w46 q46 => ?_)
        obtain ⟨rfl, rfl⟩ := q46
        refine A_pureS ok.b (As := [_]) mf_X7_isDigit ml_X7_92 rfl sc_X7_isDigit (r_isDigit l g _) rfl rfl dX7_number_49 (Nat.le_of_ble_eq_true rfl) ⟨Nat.le_of_ble_eq_true rfl, Nat.le_of_ble_eq_true rfl⟩ ⟨(Nat.le_of_ble_eq_true rfl), (Nat.le_of_ble_eq_true rfl)⟩ ?_
        refine A_if_eq ok.b (tgt := 90) dX7_number_52 (by decide) (fun c52 => ?_) (fun c52 => ?_)
        · skip
          refine T q ?_
          rw [← hqe]
          exact (scanE_f (fun h => bI_z c52 (by rw [inB_dig]; exact byR_dig.mpr h))).symm
        · skip
          have hdq : q < S.tl ∧ fDig (B q) = true := by
            have h8 := bI_n c52
            rw [inB_dig] at h8
            exact byR_dig.mp h8
          refine A_ldc ok.b dX7_number_55 kc_X7_99 ?_
          refine A_bipush ok.b (v := 10) dX7_number_57 (by decide) ?_
          refine A_iload_n ok.b rfl dX7_number_59 (gps (gps (gps gp0))) ?_
          refine A_imul ok.b dX7_number_60 ?_
          refine A_aload_n ok.b rfl dX7_number_61 gp0 ?_
          refine A_aload_n ok.b rfl dX7_number_62 gp0 ?_
          refine A_getf ok.b cf7 4 (by decide) fl_X7_54 gp0 (gps (gps (gps (gps gp0)))) dX7_number_63 ?_
          refine A_sameVR ok (As := [_]) mf_X7_byteAt ml_X7_57 in_X7_byteAt se_X7_byteAt cf7 gp0 (r_byteAt l g m ((S.wns (nI S.po)).wpo q) B htl2 q (by omega)) rfl rfl dX7_number_66 (Nat.le_of_ble_eq_true rfl) ⟨(Nat.le_of_ble_eq_true rfl), (Nat.le_of_ble_eq_true rfl)⟩ ⟨(Nat.le_of_ble_eq_true rfl), (Nat.le_of_ble_eq_true rfl)⟩ (fun _ _ hx => hx.elim) (fun v66 w66 q66 => ?_)
          obtain ⟨rfl, rfl⟩ := q66
          rw [show byR B ((S.wns (nI S.po)).wpo q).tl q = B q from byR_t hdq.1]
          refine A_iadd ok.b dX7_number_69 ?_
          refine A_bipush ok.b (v := 48) dX7_number_70 (by decide) ?_
          refine A_isub ok.b dX7_number_72 ?_
          refine A_pureS ok.b (As := [_, _]) mf_X7_min ml_X7_100 rfl sc_X7_min (r_min l g _ _) rfl rfl dX7_number_73 (Nat.le_of_ble_eq_true rfl) ⟨(Nat.le_of_ble_eq_true rfl), (Nat.le_of_ble_eq_true rfl)⟩ ⟨(Nat.le_of_ble_eq_true rfl), (Nat.le_of_ble_eq_true rfl)⟩ ?_
          refine A_istore_n ok.b rfl dX7_number_76 (by decide) (sts (sts (sts1 rfl st0))) ?_
          refine A_aload_n ok.b rfl dX7_number_77 gp0 ?_
          refine A_dup ok.b dX7_number_78 rfl ?_
          refine A_getf ok.b cf7 4 (by decide) fl_X7_54 gp0 (gps (gps (gps (gps gp0)))) dX7_number_79 ?_
          refine A_iconst ok.b (v := 1) dX7_number_82 (by decide) ?_
          refine A_iadd ok.b dX7_number_83 ?_
          refine A_putf ok.b cf7 4 (by decide) rfl fl_X7_54 gp0 rfl rfl (gp_lt (gps (gps (gps (gps gp0))))) (wps (wps (wps (wps wp0)))) wp0 dX7_number_84 ?_
          refine A_goto ok.b (tgt := 41) dX7_number_87 (by decide) ?_
          have ih2 := ih hdq (by omega) (by rw [← scanE_t hdq.1 hdq.2]; exact hqe) (by have := hdq.1; omega)
          rw [show q + 1 - S.po = (q - S.po) + 1 by omega, nvR, show S.po + (q - S.po) = q by omega] at ih2
          rw [nI_1]
          exact ih2
      have h0 := L S.po (Nat.le_refl _) rfl hn
      rw [Nat.sub_self] at h0
      exact h0
    · skip
      refine A_aload_n ok.b rfl dX7_number_19 gp0 ?_
      refine A_bipush ok.b (v := (-2)) dX7_number_20 (by decide) ?_
      refine A_aload_n ok.b rfl dX7_number_22 gp0 ?_
      refine A_getf ok.b cf7 4 (by decide) fl_X7_54 gp0 (gps (gps (gps (gps gp0)))) dX7_number_23 ?_
      refine A_sameVR ok (As := [_, _]) mf_X7_report ml_X7_88 in_X7_report se_X7_report cf7 gp0 (r_report l g m S B htl2 _ _) rfl rfl dX7_number_26 (Nat.le_of_ble_eq_true rfl) ⟨(Nat.le_of_ble_eq_true rfl), (Nat.le_of_ble_eq_true rfl)⟩ ⟨(Nat.le_of_ble_eq_true rfl), (Nat.le_of_ble_eq_true rfl)⟩ (fun _ _ hx => hx.elim) (fun v26 w26 q26 => ?_)
      obtain ⟨rfl, rfl⟩ := q26
      refine A_iconst ok.b (v := 0) dX7_number_29 (by decide) ?_
      refine A_iret ok dX7_number_30 (Nat.le_of_ble_eq_true rfl) (Nat.le_of_ble_eq_true rfl) ?_
      have hd0 : ¬ fDig (byR B s.tl S.po) = true := by
        rw [← inB_dig]; exact bI_z c16
      have e9 : numM B lo hi s = (0, repR (-2) (nI S.po) S) := by rw [numM, if_pos h9, hS, if_neg hd0]
      exact ⟨by rw [e9], by rw [e9]⟩
  · skip
    refine A_iconst ok.b (v := 0) dX7_number_7 (by decide) ?_
    refine A_iret ok dX7_number_8 (Nat.le_of_ble_eq_true rfl) (Nat.le_of_ble_eq_true rfl) ?_
    have h9 : ¬ s.er = 0 := fun h => by rw [if_pos h] at c4; exact absurd c4 (by decide)
    exact ⟨by rw [numM, if_neg h9], by rw [numM, if_neg h9]⟩
