theorem expR_keep (n : Nat) : ∀ (S : TD × PD), pN (expR n S).2 = pN S.2 ∧ pCar (expR n S).2 = pCar S.2 ∧ pNc (expR n S).2 = pNc S.2 := by
  induction n with
  | zero => exact fun S => ⟨rfl, rfl, rfl⟩
  | succ n ih =>
    intro S
    rw [expR]
    split
    · exact ⟨rfl, rfl, rfl⟩
    · obtain ⟨h1, h2, h3⟩ := ih (tick2 S)
      exact ⟨h1.trans (rateP_n S.1 S.2), h2.trans (rateP_c S.1 S.2), h3.trans (rateP_k S.1 S.2)⟩
theorem TOK_plan {T : TD} {P P2 : PD} (h : TOK (T, P)) (h1 : pN P2 = pN P) (h2 : pCar P2 = pCar P) (h3 : pNc P2 = pNc P) : TOK (T, P2) := by
  obtain ⟨k1, k2, k3, k4, k5⟩ := h
  refine ⟨by show pN P2 ≤ 12; rw [h1]; exact k1, by show pCar P2 ≤ 20; rw [h2]; exact k2, by show pNc P2 < 1000; rw [h3]; exact k3, COK_of k4 h1 h2 rfl, ?_⟩
  show tFire T < 0 ∨ Inn (tFire T) (pN P2)
  rw [h1]; exact k5
theorem TOK_ew {T : TD} {P : PD} {x : Int32} {n : Nat} (h : TOK (T, P)) : TOK (T, ewP x n T P) := by
  obtain ⟨h1, h2, h3⟩ := expR_keep n (fansF P x T, P)
  exact TOK_plan h h1 h2 h3
/-- one size, both ways: the best so far, the least so far, the plan -/
def bsStep (n : Nat) (T : TD) (j : Nat) (S : Int32 × Int64 × PD) : Int32 × Int64 × PD :=
  let f := ewF (nI (j + 1)) n T S.2.2
  let P1 := ewP (nI (j + 1)) n T S.2.2
  let b1 := if f < S.2.1 then nI (j + 1) else S.1
  let l1 := if f < S.2.1 then f else S.2.1
  let b := ewF (-(nI (j + 1))) n T P1
  (if b < l1 then -(nI (j + 1)) else b1, if b < l1 then b else l1, ewP (-(nI (j + 1))) n T P1)
def bsF (n : Nat) (T : TD) (P : PD) (k : Nat) : Int32 × Int64 × PD := foldN (bsStep n T) (0, ewF 0 n T P, ewP 0 n T P) k
theorem set_ok {j : Nat} (h : j < 10) : setX (nI (j + 1)) = none ∧ setX (-(nI (j + 1))) = none := by
  have k : ∀ j, j < 10 → setX (nI (j + 1)) = none ∧ setX (-(nI (j + 1))) = none := by decide
  exact k j h
theorem fore_ok {n : Nat} (h : n ≤ 60) : foreX (nI n) = none := by
  have k : ∀ j, j < 61 → foreX (nI j) = none := by decide
  exact k n (by omega)
theorem ge_lt {x y : Int64} (h : 0 ≤ lg_cmp x y) : ¬ x < y := by rw [lg_cmp_ge] at h; exact Int64.not_lt.mpr h
theorem nge_lt {x y : Int64} (h : ¬ 0 ≤ lg_cmp x y) : x < y := by rw [lg_cmp_ge] at h; exact Int64.not_le.mp h
theorem TOK_bs {T : TD} {P : PD} {n : Nat} (h : TOK (T, P)) (k : Nat) : TOK (T, (bsF n T P k).2.2) := foldN_inv (fun S : Int32 × Int64 × PD => TOK (T, S.2.2)) (bsStep n T) (0, ewF 0 n T P, ewP 0 n T P) (TOK_ew h) (fun _ _ hS => TOK_ew (TOK_ew hS)) k

set_option maxRecDepth 20000 in
set_option maxHeartbeats 2000000 in
theorem c_bestSetting (l : Launch) (g : Gl) (k rd hs : Nat) (eo : Int32) (a b : Nat → Nat) (T : TD) (P : PD) (hn : pN P ≤ 12) (hc : pCar P ≤ 20) (hl0 : l.stackTraces = false) (a3 : Nat → Nat) (p3 : Nat) (T3 : TD) (hrd : ∀ j, j < 24 → tRed T j = 0 ∨ tRed T j = 1) (hok : TOK (T, P)) (t0 : Int32) : Ct l g yX6_bestSetting cX6_bestSetting 10 (some .int) 8 440 30 180 [.ref k, .int t0] (dkW g k rd hs (a3 0) eo a b T (P) ++ tunW g a3 (p3) (T3)) (fun v w => foreX t0 = none ∧ v = some (.int (bsF t0.toNatClampNeg T P 10).1) ∧ ∃ T4 : TD, w = (dkW g k rd hs (a3 0) eo a b T ((bsF t0.toNatClampNeg T P 10).2.2) ++ tunW g a3 (b 0) (T4))) (XX (dkW g k rd hs (a3 0) eo a b T (P) ++ tunW g a3 (p3) (T3)) (foreX t0)) := by
  refine Ct.intro [some (.ref k), some (.int t0), none, none, none, none, none, none, none, none] (by decide +kernel) (fun _ h => h) (Nat.le_of_ble_eq_true rfl) (fun A H0 K ok => ?_)
  refine A_iload_n ok.b rfl dX6_bestSetting_0 (gps gp0) ?_
  refine A_if_lt ok.b (tgt := 10) dX6_bestSetting_1 (by decide) (fun c1 => ?_) (fun c1 => ?_)
  · skip
    refine A_throw2 ok hl0 (names := nmsX) (ik := 55) (is := 186) (ic := 59) (by decide +kernel) (by decide +kernel) xk_55 xi_IAE (List.mem_of_getElem? (i := 4) rfl) xa_59 cc_IAE dX6_bestSetting_10 dX6_bestSetting_13 dX6_bestSetting_14 dX6_bestSetting_16 dX6_bestSetting_19 (Nat.le_of_ble_eq_true rfl) (Nat.le_of_ble_eq_true rfl) (Nat.le_of_ble_eq_true rfl) (Nat.le_of_ble_eq_true rfl) ?_
    exact ⟨by rw [foreX, if_pos (Or.inl c1)], List.Perm.refl _⟩
  · skip
    refine A_iload_n ok.b rfl dX6_bestSetting_4 (gps gp0) ?_
    refine A_bipush ok.b (v := 60) dX6_bestSetting_5 (by decide) ?_
    refine A_icmp_le ok.b (tgt := 20) dX6_bestSetting_7 (by decide) (fun c7 => ?_) (fun c7 => ?_)
    · skip
      have o1 : foreX t0 = none := by rw [foreX, if_neg (fun h => h.elim c1 (Int32.not_lt.mpr c7))]
      obtain ⟨n0, hn0, rfl⟩ := fore_n c1 (Int32.not_lt.mpr c7)
      refine A_iconst ok.b (v := 0) dX6_bestSetting_20 (by decide) ?_
      refine A_istore_n ok.b rfl dX6_bestSetting_21 (by decide) (sts (sts1 rfl st0)) ?_
      refine A_aload_n ok.b rfl dX6_bestSetting_22 gp0 ?_
      refine A_iconst ok.b (v := 0) dX6_bestSetting_23 (by decide) ?_
      refine A_iload_n ok.b rfl dX6_bestSetting_24 (gps gp0) ?_
      refine A_sameVR ok (As := [_, _]) mf_X6_exposureWith ml_X6_195 in_X6_exposureWith se_X6_exposureWith cf6 gp0 (c_exposureWith l g k rd hs eo a b T (P) (hok).1 (hok).2.1 hl0 a3 (p3) (T3) hrd (hok) (0) (nI n0)) rfl rfl dX6_bestSetting_25 (Nat.le_of_ble_eq_true rfl) ⟨(Nat.le_of_ble_eq_true rfl), (Nat.le_of_ble_eq_true rfl)⟩ ⟨(Nat.le_of_ble_eq_true rfl), (Nat.le_of_ble_eq_true rfl)⟩ (fun E w hx => absurd hx.1 (by rw [orX_n (show setX 0 = none by decide), fore_ok hn0]; exact nofun)) (fun v25 w25 q25 => ?_)
      obtain ⟨-, rfl, T4_z, rfl⟩ := q25
      rw [nI_clamp (by omega)]
      generalize he_z : ewF (0) n0 T (P) = e_z
      generalize hp_z : ewP (0) n0 T (P) = P_z
      refine A_lstore_n ok.b rfl dX6_bestSetting_28 (by decide) (sts (sts (sts1 rfl st0w))) ?_
      refine A_iconst ok.b (v := 1) dX6_bestSetting_29 (by decide) ?_
      refine A_istore ok.b dX6_bestSetting_30 (by decide) (sts (sts (sts (sts (sts1n st0))))) ?_
      have L : ∀ j, j ≤ 10 → ∀ T5 : TD, AW g A H0 10 K 32 [some (.ref k), some (.int (nI n0)), some (.int (bsF n0 T P j).1), some (.long (bsF n0 T P j).2.1), none, some (.int (nI (j + 1))), none, none, none, none] [] (dkW g k rd hs (a3 0) eo a b T ((bsF n0 T P j).2.2) ++ tunW g a3 (b 0) (T5)) (1 + 2 * j) (6 + 12 * j) := by
        refine up_ind 10 ?_ (fun j hj ih => ?_)
        · intro T5
          refine A_iload ok.b dX6_bestSetting_32 (gps (gps (gps (gps (gps gp0))))) ?_
          refine A_bipush ok.b (v := 10) dX6_bestSetting_34 (by decide) ?_
          refine A_icmp_gt ok.b (tgt := 91) dX6_bestSetting_36 (by decide) (fun c36 => ?_) (fun c36 => (c36 (by decide)).elim)
          refine A_iload_n ok.b rfl dX6_bestSetting_91 (gps (gps gp0)) ?_
          refine A_iret ok dX6_bestSetting_92 (Nat.le_of_ble_eq_true rfl) (Nat.le_of_ble_eq_true rfl) ?_
          exact ⟨o1, by rw [nI_clamp (by omega)], T5, by rw [nI_clamp (by omega)]⟩
        · intro T5
          have hT : TOK (T, (bsF n0 T P j).2.2) := TOK_bs hok j
          have e1 : bsF n0 T P (j + 1) = bsStep n0 T j (bsF n0 T P j) := rfl
          rw [e1, show 1 + 2 * (j + 1) = 1 + 2 * j + 1 + 1 by omega, show 6 + 12 * (j + 1) = 6 + 12 * j + 6 + 6 by omega] at ih
          generalize bsF n0 T P j = S at hT ih ⊢
          refine A_iload ok.b dX6_bestSetting_32 (gps (gps (gps (gps (gps gp0))))) ?_
          refine A_bipush ok.b (v := 10) dX6_bestSetting_34 (by decide) ?_
          refine A_icmp_gt ok.b (tgt := 91) dX6_bestSetting_36 (by decide) (fun c36 => (nI_nlt (a := 10) (b := j + 1) (by omega) (by decide) c36).elim) (fun c36 => ?_)
          refine A_aload_n ok.b rfl dX6_bestSetting_39 gp0 ?_
          refine A_iload ok.b dX6_bestSetting_40 (gps (gps (gps (gps (gps gp0))))) ?_
          refine A_iload_n ok.b rfl dX6_bestSetting_42 (gps gp0) ?_
          refine A_sameVR ok (As := [_, _]) mf_X6_exposureWith ml_X6_195 in_X6_exposureWith se_X6_exposureWith cf6 gp0 (c_exposureWith l g k rd hs eo a b T (S.2.2) (hT).1 (hT).2.1 hl0 a3 (b 0) (T5) hrd (hT) (nI (j + 1)) (nI n0)) rfl rfl dX6_bestSetting_43 (Nat.le_of_ble_eq_true rfl) ⟨(Nat.le_of_ble_eq_true rfl), (Nat.le_of_ble_eq_true rfl)⟩ ⟨by show 1 + 2 * j + 1 ≤ 30; omega, by show 6 + 12 * j + 6 ≤ 180; omega⟩ (fun E w hx => absurd hx.1 (by rw [orX_n (set_ok hj).1, fore_ok hn0]; exact nofun)) (fun v43 w43 q43 => ?_)
          obtain ⟨-, rfl, T4_f, rfl⟩ := q43
          rw [nI_clamp (by omega)]
          generalize he_f : ewF (nI (j + 1)) n0 T (S.2.2) = e_f
          generalize hp_f : ewP (nI (j + 1)) n0 T (S.2.2) = P_f
          have hT1 : TOK (T, P_f) := by rw [← hp_f]; exact TOK_ew hT
          refine A_lstore ok.b dX6_bestSetting_46 (by decide) (sts (sts (sts (sts (sts (sts1 rfl st0w)))))) ?_
          refine A_lload ok.b dX6_bestSetting_48 (gps (gps (gps (gps (gps (gps gp0)))))) ?_
          refine A_lload_n ok.b rfl dX6_bestSetting_50 (gps (gps (gps gp0))) ?_
          refine A_lcmp ok.b dX6_bestSetting_51 ?_
          refine A_if_ge ok.b (tgt := 61) dX6_bestSetting_52 (by decide) (fun c52 => ?_) (fun c52 => ?_)
          · skip
            refine A_aload_n ok.b rfl dX6_bestSetting_61 gp0 ?_
            refine A_iload ok.b dX6_bestSetting_62 (gps (gps (gps (gps (gps gp0))))) ?_
            refine A_ineg ok.b dX6_bestSetting_64 ?_
            refine A_iload_n ok.b rfl dX6_bestSetting_65 (gps gp0) ?_
            refine A_sameVR ok (As := [_, _]) mf_X6_exposureWith ml_X6_195 in_X6_exposureWith se_X6_exposureWith cf6 gp0 (c_exposureWith l g k rd hs eo a b T (P_f) (hT1).1 (hT1).2.1 hl0 a3 (b 0) (T4_f) hrd (hT1) (-(nI (j + 1))) (nI n0)) rfl rfl dX6_bestSetting_66 (Nat.le_of_ble_eq_true rfl) ⟨(Nat.le_of_ble_eq_true rfl), (Nat.le_of_ble_eq_true rfl)⟩ ⟨by show 1 + 2 * j + 1 + 1 ≤ 30; omega, by show 6 + 12 * j + 6 + 6 ≤ 180; omega⟩ (fun E w hx => absurd hx.1 (by rw [orX_n (set_ok hj).2, fore_ok hn0]; exact nofun)) (fun v66 w66 q66 => ?_)
            obtain ⟨-, rfl, T4_b, rfl⟩ := q66
            rw [nI_clamp (by omega)]
            generalize he_b : ewF (-(nI (j + 1))) n0 T (P_f) = e_b
            generalize hp_b : ewP (-(nI (j + 1))) n0 T (P_f) = P_b
            refine A_lstore ok.b dX6_bestSetting_69 (by decide) (sts (sts (sts (sts (sts (sts (sts (sts1n st0w)))))))) ?_
            refine A_lload ok.b dX6_bestSetting_71 (gps (gps (gps (gps (gps (gps (gps (gps gp0)))))))) ?_
            refine A_lload_n ok.b rfl dX6_bestSetting_73 (gps (gps (gps gp0))) ?_
            refine A_lcmp ok.b dX6_bestSetting_74 ?_
            refine A_if_ge ok.b (tgt := 85) dX6_bestSetting_75 (by decide) (fun c75 => ?_) (fun c75 => ?_)
            · skip
              refine A_iinc ok.b (v := _ + 1) dX6_bestSetting_85 (gps (gps (gps (gps (gps gp0))))) rfl (by decide) (sts (sts (sts (sts (sts1n st0))))) ?_
              refine A_goto ok.b (tgt := 32) dX6_bestSetting_88 (by decide) ?_
              have ih2 := ih T4_b
              rw [bsStep] at ih2
              simp only [he_f, hp_f, he_b, hp_b] at ih2
              simp only [if_neg (ge_lt c52), if_neg (ge_lt c75)] at ih2
              refine A_lv (lleK (lleK (lleK (lleK (lleK (lleK (lleD (lleD (lleD (lleD lle0)))))))))) ?_
              rw [nI_1]
              exact ih2
            · skip
              refine A_lload ok.b dX6_bestSetting_78 (gps (gps (gps (gps (gps (gps (gps (gps gp0)))))))) ?_
              refine A_lstore_n ok.b rfl dX6_bestSetting_80 (by decide) (sts (sts (sts1 rfl st0w))) ?_
              refine A_iload ok.b dX6_bestSetting_81 (gps (gps (gps (gps (gps gp0))))) ?_
              refine A_ineg ok.b dX6_bestSetting_83 ?_
              refine A_istore_n ok.b rfl dX6_bestSetting_84 (by decide) (sts (sts1 rfl st0)) ?_
              refine A_iinc ok.b (v := _ + 1) dX6_bestSetting_85 (gps (gps (gps (gps (gps gp0))))) rfl (by decide) (sts (sts (sts (sts (sts1n st0))))) ?_
              refine A_goto ok.b (tgt := 32) dX6_bestSetting_88 (by decide) ?_
              have ih2 := ih T4_b
              rw [bsStep] at ih2
              simp only [he_f, hp_f, he_b, hp_b] at ih2
              simp only [if_neg (ge_lt c52), if_pos (nge_lt c75)] at ih2
              refine A_lv (lleK (lleK (lleK (lleK (lleK (lleK (lleD (lleD (lleD (lleD lle0)))))))))) ?_
              rw [nI_1]
              exact ih2
          · skip
            refine A_lload ok.b dX6_bestSetting_55 (gps (gps (gps (gps (gps (gps gp0)))))) ?_
            refine A_lstore_n ok.b rfl dX6_bestSetting_57 (by decide) (sts (sts (sts1 rfl st0w))) ?_
            refine A_iload ok.b dX6_bestSetting_58 (gps (gps (gps (gps (gps gp0))))) ?_
            refine A_istore_n ok.b rfl dX6_bestSetting_60 (by decide) (sts (sts1 rfl st0)) ?_
            refine A_aload_n ok.b rfl dX6_bestSetting_61 gp0 ?_
            refine A_iload ok.b dX6_bestSetting_62 (gps (gps (gps (gps (gps gp0))))) ?_
            refine A_ineg ok.b dX6_bestSetting_64 ?_
            refine A_iload_n ok.b rfl dX6_bestSetting_65 (gps gp0) ?_
            refine A_sameVR ok (As := [_, _]) mf_X6_exposureWith ml_X6_195 in_X6_exposureWith se_X6_exposureWith cf6 gp0 (c_exposureWith l g k rd hs eo a b T (P_f) (hT1).1 (hT1).2.1 hl0 a3 (b 0) (T4_f) hrd (hT1) (-(nI (j + 1))) (nI n0)) rfl rfl dX6_bestSetting_66 (Nat.le_of_ble_eq_true rfl) ⟨(Nat.le_of_ble_eq_true rfl), (Nat.le_of_ble_eq_true rfl)⟩ ⟨by show 1 + 2 * j + 1 + 1 ≤ 30; omega, by show 6 + 12 * j + 6 + 6 ≤ 180; omega⟩ (fun E w hx => absurd hx.1 (by rw [orX_n (set_ok hj).2, fore_ok hn0]; exact nofun)) (fun v66 w66 q66 => ?_)
            obtain ⟨-, rfl, T4_b, rfl⟩ := q66
            rw [nI_clamp (by omega)]
            generalize he_b : ewF (-(nI (j + 1))) n0 T (P_f) = e_b
            generalize hp_b : ewP (-(nI (j + 1))) n0 T (P_f) = P_b
            refine A_lstore ok.b dX6_bestSetting_69 (by decide) (sts (sts (sts (sts (sts (sts (sts (sts1n st0w)))))))) ?_
            refine A_lload ok.b dX6_bestSetting_71 (gps (gps (gps (gps (gps (gps (gps (gps gp0)))))))) ?_
            refine A_lload_n ok.b rfl dX6_bestSetting_73 (gps (gps (gps gp0))) ?_
            refine A_lcmp ok.b dX6_bestSetting_74 ?_
            refine A_if_ge ok.b (tgt := 85) dX6_bestSetting_75 (by decide) (fun c75 => ?_) (fun c75 => ?_)
            · skip
              refine A_iinc ok.b (v := _ + 1) dX6_bestSetting_85 (gps (gps (gps (gps (gps gp0))))) rfl (by decide) (sts (sts (sts (sts (sts1n st0))))) ?_
              refine A_goto ok.b (tgt := 32) dX6_bestSetting_88 (by decide) ?_
              have ih2 := ih T4_b
              rw [bsStep] at ih2
              simp only [he_f, hp_f, he_b, hp_b] at ih2
              simp only [if_pos (nge_lt c52), if_neg (ge_lt c75)] at ih2
              refine A_lv (lleK (lleK (lleK (lleK (lleK (lleK (lleD (lleD (lleD (lleD lle0)))))))))) ?_
              rw [nI_1]
              exact ih2
            · skip
              refine A_lload ok.b dX6_bestSetting_78 (gps (gps (gps (gps (gps (gps (gps (gps gp0)))))))) ?_
              refine A_lstore_n ok.b rfl dX6_bestSetting_80 (by decide) (sts (sts (sts1 rfl st0w))) ?_
              refine A_iload ok.b dX6_bestSetting_81 (gps (gps (gps (gps (gps gp0))))) ?_
              refine A_ineg ok.b dX6_bestSetting_83 ?_
              refine A_istore_n ok.b rfl dX6_bestSetting_84 (by decide) (sts (sts1 rfl st0)) ?_
              refine A_iinc ok.b (v := _ + 1) dX6_bestSetting_85 (gps (gps (gps (gps (gps gp0))))) rfl (by decide) (sts (sts (sts (sts (sts1n st0))))) ?_
              refine A_goto ok.b (tgt := 32) dX6_bestSetting_88 (by decide) ?_
              have ih2 := ih T4_b
              rw [bsStep] at ih2
              simp only [he_f, hp_f, he_b, hp_b] at ih2
              simp only [if_pos (nge_lt c52), if_pos (nge_lt c75)] at ih2
              refine A_lv (lleK (lleK (lleK (lleK (lleK (lleK (lleD (lleD (lleD (lleD lle0)))))))))) ?_
              rw [nI_1]
              exact ih2
      have l0 := L 0 (Nat.zero_le _) T4_z
      rw [show bsF n0 T P 0 = (0, e_z, P_z) by rw [← he_z, ← hp_z]; rfl] at l0
      exact l0
    · skip
      refine A_throw2 ok hl0 (names := nmsX) (ik := 55) (is := 186) (ic := 59) (by decide +kernel) (by decide +kernel) xk_55 xi_IAE (List.mem_of_getElem? (i := 4) rfl) xa_59 cc_IAE dX6_bestSetting_10 dX6_bestSetting_13 dX6_bestSetting_14 dX6_bestSetting_16 dX6_bestSetting_19 (Nat.le_of_ble_eq_true rfl) (Nat.le_of_ble_eq_true rfl) (Nat.le_of_ble_eq_true rfl) (Nat.le_of_ble_eq_true rfl) ?_
      exact ⟨by rw [foreX, if_pos (Or.inr (Int32.not_le.mp c7))], List.Perm.refl _⟩
