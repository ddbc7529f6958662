def sVent (P : PD) (f : Nat → Int32) : PD := (pN P, pCap P, pDraft P, pCar P, f, P.2.2.2.2.2)
def sHf (P : PD) (f : Nat → Int32) : PD := (pN P, pCap P, pDraft P, pCar P, pVent P, f, P.2.2.2.2.2.2)
def sDraft (P : PD) (x : Int32) : PD := (pN P, pCap P, x, P.2.2.2)
def sCap (P : PD) (x : Int32) : PD := (pN P, x, P.2.2)
def sN (P : PD) (n : Nat) : PD := (n, P.2)
def RS.ix (s : RS) : Nat := s.num.toNatClampNeg
def bayK : RM := fun s => if tBay s.T s.ix = -1 then (true, (s.wT (sBay s.T (upd (tBay s.T) s.ix 1))).wbays (s.bays + 1)) else (false, failN (-3) s)
def bayR (len : Nat) (B : Nat → Int32) : RM := fun s => if s.bays < 6 then andM (secR len B) bayK (advR len B s) else (false, failR (-4) s)
def ventK2 (n : Nat) : RM := fun s => (true, s.wP (sVent s.P (upd (pVent s.P) n s.num)))
def ventK (len : Nat) (B : Nat → Int32) : RM := fun s => if pVent s.P s.ix = 0 then andM (numR len B 1 100) (ventK2 s.ix) s else (false, failN (-3) s)
def ventR (len : Nat) (B : Nat → Int32) : RM := fun s => andM (secR len B) (ventK len B) (advR len B s)
def fanK2 (n : Nat) : RM := fun s => (true, (s.wP (sHf s.P (upd (pHf s.P) n 1))).wT (sFan s.T (upd (tFan s.T) n s.num)))
def fanK (len : Nat) (B : Nat → Int32) : RM := fun s => if pHf s.P s.ix = 0 then andM (setR len B 10) (fanK2 s.ix) s else (false, failN (-3) s)
def fanR (len : Nat) (B : Nat → Int32) : RM := fun s => andM (secR len B) (fanK len B) (advR len B s)
def carK : RM := fun s => if roomF s.T s.P s.num s.way = 0 then (false, failN (-3) s) else (true, (s.wT (addF s.P s.num s.way s.T)).wP (sCar s.P (pCar s.P + 1)))
def carR (len : Nat) (B : Nat → Int32) : RM := fun s => if pCar s.P < 20 then andM (secR len B) (andM (wayR len B) carK) (advR len B s) else (false, failR (-4) s)
def fireK : RM := fun s => (true, s.wT (sFire s.T s.num))
def fireR (len : Nat) (B : Nat → Int32) : RM := fun s => if s.fr = 0 then andM (secR len B) fireK (advR len B (s.wfr 1)) else (false, failR (-2) s)
def draftK : RM := fun s => (true, s.wP (sDraft s.P s.num))
def draftR (len : Nat) (B : Nat → Int32) : RM := fun s => if s.dr = 0 then andM (setR len B 100) draftK (advR len B (s.wdr 1)) else (false, failR (-2) s)
def redK2 : RM := fun s => (true, s.wT (sRed s.T (upd (tRed s.T) (lx s.num s.way) 1)))
def redR (len : Nat) (B : Nat → Int32) : RM := fun s => andM (secR len B) (andM (wayR len B) redK2) (advR len B s)
def begR (len : Nat) (B : Nat → Int32) : RM := fun s => if s.rr = 0 then (true, (advR len B (s.wrr 1)).wcc 0) else (false, failR (-2) s)

set_option maxRecDepth 20000 in
set_option maxHeartbeats 2000000 in
theorem c_readBay (l : Launch) (g : Gl) (r i a b : Nat → Nat) (size : Int32) (len : Nat) (B : Nat → Int32) (hlen : len ≤ 800) (s : RS) (hI : RI s)  : Ct l g yX4_readBay cX4_readBay 1 (some .boolean) 3 120 0 0 [.ref (r 0)] (rdW g r i a b size len B s) (fun v w => v = some (.int (bI (bayR len B s).1)) ∧ w = rdW g r i a b size len B (bayR len B s).2) noX := by
  refine Ct.intro [some (.ref (r 0))] (by decide +kernel) (fun _ h => h) (Nat.le_of_ble_eq_true rfl) (fun A H0 K ok => ?_)
  refine A_aload_n ok.b rfl dX4_readBay_0 gp0 ?_
  refine A_getf ok.b cf4 7 (by decide) fl_X4_37 gp0 (gps (gps (gps (gps (gps (gps (gps gp0))))))) dX4_readBay_1 ?_
  refine A_bipush ok.b (v := 6) dX4_readBay_4 (by decide) ?_
  refine A_icmp_lt ok.b (tgt := 23) dX4_readBay_6 (by decide) (fun c6 => ?_) (fun c6 => ?_)
  · skip
    refine A_aload_n ok.b rfl dX4_readBay_23 gp0 ?_
    refine A_getf ok.b cf4 0 (by decide) fl_X4_12 gp0 gp0 dX4_readBay_24 ?_
    refine A_adv ok.b (s) hlen (hI) dX4_readBay_27 (Nat.le_of_ble_eq_true rfl) ⟨(Nat.le_of_ble_eq_true rfl), (Nat.le_of_ble_eq_true rfl)⟩ ⟨(Nat.le_of_ble_eq_true rfl), (Nat.le_of_ble_eq_true rfl)⟩ ?_
    refine A_aload_n ok.b rfl dX4_readBay_30 gp0 ?_
    refine A_sameVR ok (As := []) mf_X4_readSection ml_X4_146 in_X4_readSection se_X4_readSection cf4 gp0 (c_readSection l g r i a b size len B hlen (advR len B s) (RI_adv hlen hI)) rfl rfl dX4_readBay_31 (Nat.le_of_ble_eq_true rfl) ⟨(Nat.le_of_ble_eq_true rfl), (Nat.le_of_ble_eq_true rfl)⟩ ⟨(Nat.le_of_ble_eq_true rfl), (Nat.le_of_ble_eq_true rfl)⟩ (fun _ _ hx => hx.elim) (fun v31 w31 q31 => ?_)
    obtain ⟨rfl, rfl⟩ := q31
    have hI1 : RI (secR len B (advR len B s)).2 := RK_sec hlen _ (RI_adv hlen hI)
    generalize hF1 : secR len B (advR len B s) = F1 at hI1 ⊢
    refine A_if_ne ok.b (tgt := 39) dX4_readBay_34 (by decide) (fun c34 => ?_) (fun c34 => ?_)
    · skip
      have hin : Inn F1.2.num (pN F1.2.P) := by
        have h := sec_inn (len := len) (B := B) (s := advR len B s) hI.n (by rw [hF1]; exact bI_n c34)
        rw [hF1] at h; exact h
      have hix : Ix F1.2.num 12 F1.2.ix := inn_ix hI1.n (by decide) hin
      refine A_aload_n ok.b rfl dX4_readBay_39 gp0 ?_
      refine A_getf ok.b cf4 1 (by decide) fl_X4_27 gp0 (gps gp0) dX4_readBay_40 ?_
      refine A_getf ok.b cf5 8 (by decide) fl_X4_149 (gps (gps (gps (gps gp0)))) (gps (gps (gps (gps (gps (gps (gps (gps gp0)))))))) dX4_readBay_43 ?_
      refine A_aload_n ok.b rfl dX4_readBay_46 gp0 ?_
      refine A_getf ok.b cf4 4 (by decide) fl_X4_91 gp0 (gps (gps (gps (gps gp0)))) dX4_readBay_47 ?_
      refine A_iald ok.b (gps (gps (gps (gps (gps (gps (gps gp0))))))) hix dX4_readBay_50 ?_
      refine A_iconst ok.b (v := (-1)) dX4_readBay_51 (by decide) ?_
      refine A_icmp_eq ok.b (tgt := 66) dX4_readBay_52 (by decide) (fun c52 => ?_) (fun c52 => ?_)
      · skip
        refine A_aload_n ok.b rfl dX4_readBay_66 gp0 ?_
        refine A_getf ok.b cf4 1 (by decide) fl_X4_27 gp0 (gps gp0) dX4_readBay_67 ?_
        refine A_getf ok.b cf5 8 (by decide) fl_X4_149 (gps (gps (gps (gps gp0)))) (gps (gps (gps (gps (gps (gps (gps (gps gp0)))))))) dX4_readBay_70 ?_
        refine A_aload_n ok.b rfl dX4_readBay_73 gp0 ?_
        refine A_getf ok.b cf4 4 (by decide) fl_X4_91 gp0 (gps (gps (gps (gps gp0)))) dX4_readBay_74 ?_
        refine A_iconst ok.b (v := 1) dX4_readBay_77 (by decide) ?_
        refine A_iast ok.b (gps (gps (gps (gps (gps (gps (gps gp0))))))) hix (wps (wps (wps (wps (wps (wps (wps wp0))))))) dX4_readBay_78 ?_
        refine A_aload_n ok.b rfl dX4_readBay_79 gp0 ?_
        refine A_dup ok.b dX4_readBay_80 rfl ?_
        refine A_getf ok.b cf4 7 (by decide) fl_X4_37 gp0 (gps (gps (gps (gps (gps (gps (gps gp0))))))) dX4_readBay_81 ?_
        refine A_iconst ok.b (v := 1) dX4_readBay_84 (by decide) ?_
        refine A_iadd ok.b dX4_readBay_85 ?_
        refine A_putf ok.b cf4 7 (by decide) rfl fl_X4_37 gp0 rfl rfl (gp_lt (gps (gps (gps (gps (gps (gps (gps gp0)))))))) (wps (wps (wps (wps (wps (wps (wps wp0))))))) wp0 dX4_readBay_86 ?_
        refine A_iconst ok.b (v := 1) dX4_readBay_89 (by decide) ?_
        refine A_zret ok dX4_readBay_90 (by decide) (Nat.le_of_ble_eq_true rfl) (Nat.le_of_ble_eq_true rfl) ?_
        have e9 : bayR len B s = (true, (F1.2.wT (sBay F1.2.T (upd (tBay F1.2.T) F1.2.ix 1))).wbays (F1.2.bays + 1)) := by rw [bayR, if_pos c6, andM_t (f := secR len B) (s := advR len B s) (by rw [hF1]; exact bI_n c34), hF1, bayK, if_pos c52]
        exact ⟨by rw [e9] <;> rfl, by rw [e9] <;> rfl⟩
      · skip
        refine A_aload_n ok.b rfl dX4_readBay_55 gp0 ?_
        refine A_bipush ok.b (v := (-3)) dX4_readBay_56 (by decide) ?_
        refine A_aload_n ok.b rfl dX4_readBay_58 gp0 ?_
        refine A_getf ok.b cf4 5 (by decide) fl_X4_151 gp0 (gps (gps (gps (gps (gps gp0))))) dX4_readBay_59 ?_
        refine A_sameVR ok (As := [_, _]) mf_X4_fail ml_X4_77 in_X4_fail se_X4_fail cf4 gp0 (c_fail l g r i a b size len B hlen (F1.2) (hI1) _ _) rfl rfl dX4_readBay_62 (Nat.le_of_ble_eq_true rfl) ⟨(Nat.le_of_ble_eq_true rfl), (Nat.le_of_ble_eq_true rfl)⟩ ⟨(Nat.le_of_ble_eq_true rfl), (Nat.le_of_ble_eq_true rfl)⟩ (fun _ _ hx => hx.elim) (fun v62 w62 q62 => ?_)
        obtain ⟨rfl, rfl⟩ := q62
        refine A_zret ok dX4_readBay_65 (by decide) (Nat.le_of_ble_eq_true rfl) (Nat.le_of_ble_eq_true rfl) ?_
        have e9 : bayR len B s = (false, failN (-3) F1.2) := by rw [bayR, if_pos c6, andM_t (f := secR len B) (s := advR len B s) (by rw [hF1]; exact bI_n c34), hF1, bayK, if_neg c52]
        exact ⟨by rw [e9] <;> rfl, by rw [e9] <;> rfl⟩
    · skip
      refine A_iconst ok.b (v := 0) dX4_readBay_37 (by decide) ?_
      refine A_zret ok dX4_readBay_38 (by decide) (Nat.le_of_ble_eq_true rfl) (Nat.le_of_ble_eq_true rfl) ?_
      have e9 : bayR len B s = (false, F1.2) := by rw [bayR, if_pos c6, andM_f (f := secR len B) (s := advR len B s) (by rw [hF1]; exact bI_z c34), hF1]
      exact ⟨by rw [e9] <;> rfl, by rw [e9] <;> rfl⟩
  · skip
    refine A_aload_n ok.b rfl dX4_readBay_9 gp0 ?_
    refine A_bipush ok.b (v := (-4)) dX4_readBay_10 (by decide) ?_
    refine A_aload_n ok.b rfl dX4_readBay_12 gp0 ?_
    refine A_getf ok.b cf4 0 (by decide) fl_X4_12 gp0 gp0 dX4_readBay_13 ?_
    refine A_getf ok.b cf1 2 (by decide) fl_X4_74 (gps gp0) (gps (gps gp0)) dX4_readBay_16 ?_
    refine A_sameVR ok (As := [_, _]) mf_X4_fail ml_X4_77 in_X4_fail se_X4_fail cf4 gp0 (c_fail l g r i a b size len B hlen (s) (hI) _ _) rfl rfl dX4_readBay_19 (Nat.le_of_ble_eq_true rfl) ⟨(Nat.le_of_ble_eq_true rfl), (Nat.le_of_ble_eq_true rfl)⟩ ⟨(Nat.le_of_ble_eq_true rfl), (Nat.le_of_ble_eq_true rfl)⟩ (fun _ _ hx => hx.elim) (fun v19 w19 q19 => ?_)
    obtain ⟨rfl, rfl⟩ := q19
    refine A_zret ok dX4_readBay_22 (by decide) (Nat.le_of_ble_eq_true rfl) (Nat.le_of_ble_eq_true rfl) ?_
    have e9 : bayR len B s = (false, failR (-4) s) := by rw [bayR, if_neg c6]
    exact ⟨by rw [e9] <;> rfl, by rw [e9] <;> rfl⟩
set_option maxRecDepth 20000 in
set_option maxHeartbeats 2000000 in
theorem c_readVent (l : Launch) (g : Gl) (r i a b : Nat → Nat) (size : Int32) (len : Nat) (B : Nat → Int32) (hlen : len ≤ 800) (s : RS) (hI : RI s)  : Ct l g yX4_readVent cX4_readVent 2 (some .boolean) 3 120 0 0 [.ref (r 0)] (rdW g r i a b size len B s) (fun v w => v = some (.int (bI (ventR len B s).1)) ∧ w = rdW g r i a b size len B (ventR len B s).2) noX := by
  refine Ct.intro [some (.ref (r 0)), none] (by decide +kernel) (fun _ h => h) (Nat.le_of_ble_eq_true rfl) (fun A H0 K ok => ?_)
  refine A_aload_n ok.b rfl dX4_readVent_0 gp0 ?_
  refine A_getf ok.b cf4 0 (by decide) fl_X4_12 gp0 gp0 dX4_readVent_1 ?_
  refine A_adv ok.b (s) hlen (hI) dX4_readVent_4 (Nat.le_of_ble_eq_true rfl) ⟨(Nat.le_of_ble_eq_true rfl), (Nat.le_of_ble_eq_true rfl)⟩ ⟨(Nat.le_of_ble_eq_true rfl), (Nat.le_of_ble_eq_true rfl)⟩ ?_
  refine A_aload_n ok.b rfl dX4_readVent_7 gp0 ?_
  refine A_sameVR ok (As := []) mf_X4_readSection ml_X4_146 in_X4_readSection se_X4_readSection cf4 gp0 (c_readSection l g r i a b size len B hlen (advR len B s) (RI_adv hlen hI)) rfl rfl dX4_readVent_8 (Nat.le_of_ble_eq_true rfl) ⟨(Nat.le_of_ble_eq_true rfl), (Nat.le_of_ble_eq_true rfl)⟩ ⟨(Nat.le_of_ble_eq_true rfl), (Nat.le_of_ble_eq_true rfl)⟩ (fun _ _ hx => hx.elim) (fun v8 w8 q8 => ?_)
  obtain ⟨rfl, rfl⟩ := q8
  have hI1 : RI (secR len B (advR len B s)).2 := RK_sec hlen _ (RI_adv hlen hI)
  generalize hF1 : secR len B (advR len B s) = F1 at hI1 ⊢
  refine A_if_ne ok.b (tgt := 16) dX4_readVent_11 (by decide) (fun c11 => ?_) (fun c11 => ?_)
  · skip
    have hin : Inn F1.2.num (pN F1.2.P) := by
      have h := sec_inn (len := len) (B := B) (s := advR len B s) hI.n (by rw [hF1]; exact bI_n c11)
      rw [hF1] at h; exact h
    have hix : Ix F1.2.num 12 F1.2.ix := inn_ix hI1.n (by decide) hin
    refine A_aload_n ok.b rfl dX4_readVent_16 gp0 ?_
    refine A_getf ok.b cf4 4 (by decide) fl_X4_91 gp0 (gps (gps (gps (gps gp0)))) dX4_readVent_17 ?_
    refine A_istore_n ok.b rfl dX4_readVent_20 (by decide) (sts1 rfl st0) ?_
    refine A_aload_n ok.b rfl dX4_readVent_21 gp0 ?_
    refine A_getf ok.b cf4 1 (by decide) fl_X4_27 gp0 (gps gp0) dX4_readVent_22 ?_
    refine A_getf ok.b cf5 0 (by decide) fl_X4_87 (gps (gps (gps (gps gp0)))) gp0 dX4_readVent_25 ?_
    refine A_getf ok.b cf2 4 (by decide) fl_X4_154 (gps (gps (gps (gps (gps (gps (gps (gps (gps (gps (gps (gps (gps gp0))))))))))))) (gps (gps (gps (gps gp0)))) dX4_readVent_28 ?_
    refine A_iload_n ok.b rfl dX4_readVent_31 (gps gp0) ?_
    refine A_iald ok.b (gps (gps (gps (gps (gps (gps (gps (gps (gps (gps (gps (gps (gps (gps gp0)))))))))))))) hix dX4_readVent_32 ?_
    refine A_if_eq ok.b (tgt := 47) dX4_readVent_33 (by decide) (fun c33 => ?_) (fun c33 => ?_)
    · skip
      refine A_aload_n ok.b rfl dX4_readVent_47 gp0 ?_
      refine A_iconst ok.b (v := 1) dX4_readVent_48 (by decide) ?_
      refine A_bipush ok.b (v := 100) dX4_readVent_49 (by decide) ?_
      refine A_sameVR ok (As := [_, _]) mf_X4_readNumber ml_X4_84 in_X4_readNumber se_X4_readNumber cf4 gp0 (c_readNumber l g r i a b size len B hlen F1.2 hI1 1 100) rfl rfl dX4_readVent_51 (Nat.le_of_ble_eq_true rfl) ⟨(Nat.le_of_ble_eq_true rfl), (Nat.le_of_ble_eq_true rfl)⟩ ⟨(Nat.le_of_ble_eq_true rfl), (Nat.le_of_ble_eq_true rfl)⟩ (fun _ _ hx => hx.elim) (fun v51 w51 q51 => ?_)
      obtain ⟨rfl, rfl⟩ := q51
      have hI2 : RI (numR len B 1 100 F1.2).2 := RK_num hlen _ _ _ hI1
      generalize hF2 : numR len B 1 100 F1.2 = F2 at hI2 ⊢
      refine A_if_ne ok.b (tgt := 59) dX4_readVent_54 (by decide) (fun c54 => ?_) (fun c54 => ?_)
      · skip
        refine A_aload_n ok.b rfl dX4_readVent_59 gp0 ?_
        refine A_getf ok.b cf4 1 (by decide) fl_X4_27 gp0 (gps gp0) dX4_readVent_60 ?_
        refine A_getf ok.b cf5 0 (by decide) fl_X4_87 (gps (gps (gps (gps gp0)))) gp0 dX4_readVent_63 ?_
        refine A_getf ok.b cf2 4 (by decide) fl_X4_154 (gps (gps (gps (gps (gps (gps (gps (gps (gps (gps (gps (gps (gps gp0))))))))))))) (gps (gps (gps (gps gp0)))) dX4_readVent_66 ?_
        refine A_iload_n ok.b rfl dX4_readVent_69 (gps gp0) ?_
        refine A_aload_n ok.b rfl dX4_readVent_70 gp0 ?_
        refine A_getf ok.b cf4 4 (by decide) fl_X4_91 gp0 (gps (gps (gps (gps gp0)))) dX4_readVent_71 ?_
        refine A_iast ok.b (gps (gps (gps (gps (gps (gps (gps (gps (gps (gps (gps (gps (gps (gps gp0)))))))))))))) hix (wps (wps (wps (wps (wps (wps (wps (wps (wps (wps (wps (wps (wps (wps wp0)))))))))))))) dX4_readVent_74 ?_
        refine A_iconst ok.b (v := 1) dX4_readVent_75 (by decide) ?_
        refine A_zret ok dX4_readVent_76 (by decide) (Nat.le_of_ble_eq_true rfl) (Nat.le_of_ble_eq_true rfl) ?_
        have e9 : ventR len B s = (true, F2.2.wP (sVent F2.2.P (upd (pVent F2.2.P) F1.2.ix F2.2.num))) := by rw [ventR, andM_t (f := secR len B) (s := advR len B s) (by rw [hF1]; exact bI_n c11), hF1, ventK, if_pos c33, andM_t (f := numR len B 1 100) (s := F1.2) (by rw [hF2]; exact bI_n c54), hF2, ventK2]
        exact ⟨by rw [e9] <;> rfl, by rw [e9] <;> rfl⟩
      · skip
        refine A_iconst ok.b (v := 0) dX4_readVent_57 (by decide) ?_
        refine A_zret ok dX4_readVent_58 (by decide) (Nat.le_of_ble_eq_true rfl) (Nat.le_of_ble_eq_true rfl) ?_
        have e9 : ventR len B s = (false, F2.2) := by rw [ventR, andM_t (f := secR len B) (s := advR len B s) (by rw [hF1]; exact bI_n c11), hF1, ventK, if_pos c33, andM_f (f := numR len B 1 100) (s := F1.2) (by rw [hF2]; exact bI_z c54), hF2]
        exact ⟨by rw [e9] <;> rfl, by rw [e9] <;> rfl⟩
    · skip
      refine A_aload_n ok.b rfl dX4_readVent_36 gp0 ?_
      refine A_bipush ok.b (v := (-3)) dX4_readVent_37 (by decide) ?_
      refine A_aload_n ok.b rfl dX4_readVent_39 gp0 ?_
      refine A_getf ok.b cf4 5 (by decide) fl_X4_151 gp0 (gps (gps (gps (gps (gps gp0))))) dX4_readVent_40 ?_
      refine A_sameVR ok (As := [_, _]) mf_X4_fail ml_X4_77 in_X4_fail se_X4_fail cf4 gp0 (c_fail l g r i a b size len B hlen (F1.2) (hI1) _ _) rfl rfl dX4_readVent_43 (Nat.le_of_ble_eq_true rfl) ⟨(Nat.le_of_ble_eq_true rfl), (Nat.le_of_ble_eq_true rfl)⟩ ⟨(Nat.le_of_ble_eq_true rfl), (Nat.le_of_ble_eq_true rfl)⟩ (fun _ _ hx => hx.elim) (fun v43 w43 q43 => ?_)
      obtain ⟨rfl, rfl⟩ := q43
      refine A_zret ok dX4_readVent_46 (by decide) (Nat.le_of_ble_eq_true rfl) (Nat.le_of_ble_eq_true rfl) ?_
      have e9 : ventR len B s = (false, failN (-3) F1.2) := by rw [ventR, andM_t (f := secR len B) (s := advR len B s) (by rw [hF1]; exact bI_n c11), hF1, ventK, if_neg c33]
      exact ⟨by rw [e9] <;> rfl, by rw [e9] <;> rfl⟩
  · skip
    refine A_iconst ok.b (v := 0) dX4_readVent_14 (by decide) ?_
    refine A_zret ok dX4_readVent_15 (by decide) (Nat.le_of_ble_eq_true rfl) (Nat.le_of_ble_eq_true rfl) ?_
    have e9 : ventR len B s = (false, F1.2) := by rw [ventR, andM_f (f := secR len B) (s := advR len B s) (by rw [hF1]; exact bI_z c11), hF1]
    exact ⟨by rw [e9] <;> rfl, by rw [e9] <;> rfl⟩
set_option maxRecDepth 20000 in
set_option maxHeartbeats 2000000 in
theorem c_readFan (l : Launch) (g : Gl) (r i a b : Nat → Nat) (size : Int32) (len : Nat) (B : Nat → Int32) (hlen : len ≤ 800) (s : RS) (hI : RI s)  : Ct l g yX4_readFan cX4_readFan 2 (some .boolean) 3 120 0 0 [.ref (r 0)] (rdW g r i a b size len B s) (fun v w => v = some (.int (bI (fanR len B s).1)) ∧ w = rdW g r i a b size len B (fanR len B s).2) noX := by
  refine Ct.intro [some (.ref (r 0)), none] (by decide +kernel) (fun _ h => h) (Nat.le_of_ble_eq_true rfl) (fun A H0 K ok => ?_)
  refine A_aload_n ok.b rfl dX4_readFan_0 gp0 ?_
  refine A_getf ok.b cf4 0 (by decide) fl_X4_12 gp0 gp0 dX4_readFan_1 ?_
  refine A_adv ok.b (s) hlen (hI) dX4_readFan_4 (Nat.le_of_ble_eq_true rfl) ⟨(Nat.le_of_ble_eq_true rfl), (Nat.le_of_ble_eq_true rfl)⟩ ⟨(Nat.le_of_ble_eq_true rfl), (Nat.le_of_ble_eq_true rfl)⟩ ?_
  refine A_aload_n ok.b rfl dX4_readFan_7 gp0 ?_
  refine A_sameVR ok (As := []) mf_X4_readSection ml_X4_146 in_X4_readSection se_X4_readSection cf4 gp0 (c_readSection l g r i a b size len B hlen (advR len B s) (RI_adv hlen hI)) rfl rfl dX4_readFan_8 (Nat.le_of_ble_eq_true rfl) ⟨(Nat.le_of_ble_eq_true rfl), (Nat.le_of_ble_eq_true rfl)⟩ ⟨(Nat.le_of_ble_eq_true rfl), (Nat.le_of_ble_eq_true rfl)⟩ (fun _ _ hx => hx.elim) (fun v8 w8 q8 => ?_)
  obtain ⟨rfl, rfl⟩ := q8
  have hI1 : RI (secR len B (advR len B s)).2 := RK_sec hlen _ (RI_adv hlen hI)
  generalize hF1 : secR len B (advR len B s) = F1 at hI1 ⊢
  refine A_if_ne ok.b (tgt := 16) dX4_readFan_11 (by decide) (fun c11 => ?_) (fun c11 => ?_)
  · skip
    have hin : Inn F1.2.num (pN F1.2.P) := by
      have h := sec_inn (len := len) (B := B) (s := advR len B s) hI.n (by rw [hF1]; exact bI_n c11)
      rw [hF1] at h; exact h
    have hix : Ix F1.2.num 12 F1.2.ix := inn_ix hI1.n (by decide) hin
    refine A_aload_n ok.b rfl dX4_readFan_16 gp0 ?_
    refine A_getf ok.b cf4 4 (by decide) fl_X4_91 gp0 (gps (gps (gps (gps gp0)))) dX4_readFan_17 ?_
    refine A_istore_n ok.b rfl dX4_readFan_20 (by decide) (sts1 rfl st0) ?_
    refine A_aload_n ok.b rfl dX4_readFan_21 gp0 ?_
    refine A_getf ok.b cf4 1 (by decide) fl_X4_27 gp0 (gps gp0) dX4_readFan_22 ?_
    refine A_getf ok.b cf5 0 (by decide) fl_X4_87 (gps (gps (gps (gps gp0)))) gp0 dX4_readFan_25 ?_
    refine A_getf ok.b cf2 5 (by decide) fl_X4_156 (gps (gps (gps (gps (gps (gps (gps (gps (gps (gps (gps (gps (gps gp0))))))))))))) (gps (gps (gps (gps (gps gp0))))) dX4_readFan_28 ?_
    refine A_iload_n ok.b rfl dX4_readFan_31 (gps gp0) ?_
    refine A_zald ok.b (gps (gps (gps (gps (gps (gps (gps (gps (gps (gps (gps (gps (gps (gps (gps gp0))))))))))))))) hix dX4_readFan_32 ?_
    refine A_if_eq ok.b (tgt := 47) dX4_readFan_33 (by decide) (fun c33 => ?_) (fun c33 => ?_)
    · skip
      refine A_aload_n ok.b rfl dX4_readFan_47 gp0 ?_
      refine A_bipush ok.b (v := 10) dX4_readFan_48 (by decide) ?_
      refine A_sameVR ok (As := [_]) mf_X4_readSetting ml_X4_160 in_X4_readSetting se_X4_readSetting cf4 gp0 (c_readSetting l g r i a b size len B hlen F1.2 hI1 10) rfl rfl dX4_readFan_50 (Nat.le_of_ble_eq_true rfl) ⟨(Nat.le_of_ble_eq_true rfl), (Nat.le_of_ble_eq_true rfl)⟩ ⟨(Nat.le_of_ble_eq_true rfl), (Nat.le_of_ble_eq_true rfl)⟩ (fun _ _ hx => hx.elim) (fun v50 w50 q50 => ?_)
      obtain ⟨rfl, rfl⟩ := q50
      have hI2 : RI (setR len B 10 F1.2).2 := RK_set hlen _ _ hI1
      generalize hF2 : setR len B 10 F1.2 = F2 at hI2 ⊢
      refine A_if_ne ok.b (tgt := 58) dX4_readFan_53 (by decide) (fun c53 => ?_) (fun c53 => ?_)
      · skip
        refine A_aload_n ok.b rfl dX4_readFan_58 gp0 ?_
        refine A_getf ok.b cf4 1 (by decide) fl_X4_27 gp0 (gps gp0) dX4_readFan_59 ?_
        refine A_getf ok.b cf5 0 (by decide) fl_X4_87 (gps (gps (gps (gps gp0)))) gp0 dX4_readFan_62 ?_
        refine A_getf ok.b cf2 5 (by decide) fl_X4_156 (gps (gps (gps (gps (gps (gps (gps (gps (gps (gps (gps (gps (gps gp0))))))))))))) (gps (gps (gps (gps (gps gp0))))) dX4_readFan_65 ?_
        refine A_iload_n ok.b rfl dX4_readFan_68 (gps gp0) ?_
        refine A_iconst ok.b (v := 1) dX4_readFan_69 (by decide) ?_
        refine A_zast ok.b (gps (gps (gps (gps (gps (gps (gps (gps (gps (gps (gps (gps (gps (gps (gps gp0))))))))))))))) hix (wps (wps (wps (wps (wps (wps (wps (wps (wps (wps (wps (wps (wps (wps (wps wp0))))))))))))))) dX4_readFan_70 ?_
        refine A_aload_n ok.b rfl dX4_readFan_71 gp0 ?_
        refine A_getf ok.b cf4 1 (by decide) fl_X4_27 gp0 (gps gp0) dX4_readFan_72 ?_
        refine A_getf ok.b cf5 7 (by decide) fl_X4_163 (gps (gps (gps (gps gp0)))) (gps (gps (gps (gps (gps (gps (gps gp0))))))) dX4_readFan_75 ?_
        refine A_iload_n ok.b rfl dX4_readFan_78 (gps gp0) ?_
        refine A_aload_n ok.b rfl dX4_readFan_79 gp0 ?_
        refine A_getf ok.b cf4 4 (by decide) fl_X4_91 gp0 (gps (gps (gps (gps gp0)))) dX4_readFan_80 ?_
        refine A_iast ok.b (gps (gps (gps (gps (gps (gps gp0)))))) hix (wps (wps (wps (wps (wps (wps wp0)))))) dX4_readFan_83 ?_
        refine A_iconst ok.b (v := 1) dX4_readFan_84 (by decide) ?_
        refine A_zret ok dX4_readFan_85 (by decide) (Nat.le_of_ble_eq_true rfl) (Nat.le_of_ble_eq_true rfl) ?_
        have e9 : fanR len B s = (true, (F2.2.wP (sHf F2.2.P (upd (pHf F2.2.P) F1.2.ix 1))).wT (sFan F2.2.T (upd (tFan F2.2.T) F1.2.ix F2.2.num))) := by rw [fanR, andM_t (f := secR len B) (s := advR len B s) (by rw [hF1]; exact bI_n c11), hF1, fanK, if_pos c33, andM_t (f := setR len B 10) (s := F1.2) (by rw [hF2]; exact bI_n c53), hF2, fanK2]
        exact ⟨by rw [e9] <;> rfl, by rw [e9] <;> rfl⟩
      · skip
        refine A_iconst ok.b (v := 0) dX4_readFan_56 (by decide) ?_
        refine A_zret ok dX4_readFan_57 (by decide) (Nat.le_of_ble_eq_true rfl) (Nat.le_of_ble_eq_true rfl) ?_
        have e9 : fanR len B s = (false, F2.2) := by rw [fanR, andM_t (f := secR len B) (s := advR len B s) (by rw [hF1]; exact bI_n c11), hF1, fanK, if_pos c33, andM_f (f := setR len B 10) (s := F1.2) (by rw [hF2]; exact bI_z c53), hF2]
        exact ⟨by rw [e9] <;> rfl, by rw [e9] <;> rfl⟩
    · skip
      refine A_aload_n ok.b rfl dX4_readFan_36 gp0 ?_
      refine A_bipush ok.b (v := (-3)) dX4_readFan_37 (by decide) ?_
      refine A_aload_n ok.b rfl dX4_readFan_39 gp0 ?_
      refine A_getf ok.b cf4 5 (by decide) fl_X4_151 gp0 (gps (gps (gps (gps (gps gp0))))) dX4_readFan_40 ?_
      refine A_sameVR ok (As := [_, _]) mf_X4_fail ml_X4_77 in_X4_fail se_X4_fail cf4 gp0 (c_fail l g r i a b size len B hlen (F1.2) (hI1) _ _) rfl rfl dX4_readFan_43 (Nat.le_of_ble_eq_true rfl) ⟨(Nat.le_of_ble_eq_true rfl), (Nat.le_of_ble_eq_true rfl)⟩ ⟨(Nat.le_of_ble_eq_true rfl), (Nat.le_of_ble_eq_true rfl)⟩ (fun _ _ hx => hx.elim) (fun v43 w43 q43 => ?_)
      obtain ⟨rfl, rfl⟩ := q43
      refine A_zret ok dX4_readFan_46 (by decide) (Nat.le_of_ble_eq_true rfl) (Nat.le_of_ble_eq_true rfl) ?_
      have e9 : fanR len B s = (false, failN (-3) F1.2) := by rw [fanR, andM_t (f := secR len B) (s := advR len B s) (by rw [hF1]; exact bI_n c11), hF1, fanK, if_neg c33]
      exact ⟨by rw [e9] <;> rfl, by rw [e9] <;> rfl⟩
  · skip
    refine A_iconst ok.b (v := 0) dX4_readFan_14 (by decide) ?_
    refine A_zret ok dX4_readFan_15 (by decide) (Nat.le_of_ble_eq_true rfl) (Nat.le_of_ble_eq_true rfl) ?_
    have e9 : fanR len B s = (false, F1.2) := by rw [fanR, andM_f (f := secR len B) (s := advR len B s) (by rw [hF1]; exact bI_z c11), hF1]
    exact ⟨by rw [e9] <;> rfl, by rw [e9] <;> rfl⟩
theorem num_P {len : Nat} {B : Nat → Int32} {lo hi : Int32} {s : RS} : (numR len B lo hi s).2.P = s.P := by
  unfold numR
  split
  · split
    · rfl
    · rfl
  · rfl
theorem sec_P {len : Nat} {B : Nat → Int32} {s : RS} : (secR len B s).2.P = s.P := num_P
set_option maxRecDepth 20000 in
set_option maxHeartbeats 2000000 in
theorem c_readCar (l : Launch) (g : Gl) (r i a b : Nat → Nat) (size : Int32) (len : Nat) (B : Nat → Int32) (hlen : len ≤ 800) (s : RS) (hI : RI s)  : Ct l g yX4_readCar cX4_readCar 1 (some .boolean) 6 240 0 0 [.ref (r 0)] (rdW g r i a b size len B s) (fun v w => v = some (.int (bI (carR len B s).1)) ∧ w = rdW g r i a b size len B (carR len B s).2) noX := by
  refine Ct.intro [some (.ref (r 0))] (by decide +kernel) (fun _ h => h) (Nat.le_of_ble_eq_true rfl) (fun A H0 K ok => ?_)
  refine A_aload_n ok.b rfl dX4_readCar_0 gp0 ?_
  refine A_getf ok.b cf4 1 (by decide) fl_X4_27 gp0 (gps gp0) dX4_readCar_1 ?_
  refine A_getf ok.b cf5 0 (by decide) fl_X4_87 (gps (gps (gps (gps gp0)))) gp0 dX4_readCar_4 ?_
  refine A_getf ok.b cf2 3 (by decide) fl_X4_165 (gps (gps (gps (gps (gps (gps (gps (gps (gps (gps (gps (gps (gps gp0))))))))))))) (gps (gps (gps gp0))) dX4_readCar_7 ?_
  refine A_bipush ok.b (v := 20) dX4_readCar_10 (by decide) ?_
  refine A_icmp_lt ok.b (tgt := 29) dX4_readCar_12 (by decide) (fun c12 => ?_) (fun c12 => ?_)
  · skip
    have hc20 : pCar s.P < 20 := by
      rcases Nat.lt_or_ge (pCar s.P) 20 with h | h
      · exact h
      · exact absurd c12 (nI_nlt (a := pCar s.P) (b := 20) h (by have := hI.c; omega))
    refine A_aload_n ok.b rfl dX4_readCar_29 gp0 ?_
    refine A_getf ok.b cf4 0 (by decide) fl_X4_12 gp0 gp0 dX4_readCar_30 ?_
    refine A_adv ok.b (s) hlen (hI) dX4_readCar_33 (Nat.le_of_ble_eq_true rfl) ⟨(Nat.le_of_ble_eq_true rfl), (Nat.le_of_ble_eq_true rfl)⟩ ⟨(Nat.le_of_ble_eq_true rfl), (Nat.le_of_ble_eq_true rfl)⟩ ?_
    refine A_aload_n ok.b rfl dX4_readCar_36 gp0 ?_
    refine A_sameVR ok (As := []) mf_X4_readSection ml_X4_146 in_X4_readSection se_X4_readSection cf4 gp0 (c_readSection l g r i a b size len B hlen (advR len B s) (RI_adv hlen hI)) rfl rfl dX4_readCar_37 (Nat.le_of_ble_eq_true rfl) ⟨(Nat.le_of_ble_eq_true rfl), (Nat.le_of_ble_eq_true rfl)⟩ ⟨(Nat.le_of_ble_eq_true rfl), (Nat.le_of_ble_eq_true rfl)⟩ (fun _ _ hx => hx.elim) (fun v37 w37 q37 => ?_)
    obtain ⟨rfl, rfl⟩ := q37
    have hI1 : RI (secR len B (advR len B s)).2 := RK_sec hlen _ (RI_adv hlen hI)
    generalize hF1 : secR len B (advR len B s) = F1 at hI1 ⊢
    refine A_if_eq ok.b (tgt := 50) dX4_readCar_40 (by decide) (fun c40 => ?_) (fun c40 => ?_)
    · skip
      refine A_iconst ok.b (v := 0) dX4_readCar_50 (by decide) ?_
      refine A_zret ok dX4_readCar_51 (by decide) (Nat.le_of_ble_eq_true rfl) (Nat.le_of_ble_eq_true rfl) ?_
      have e9 : carR len B s = (false, F1.2) := by rw [carR, if_pos hc20, andM_f (f := secR len B) (s := advR len B s) (by rw [hF1]; exact bI_z c40), hF1]
      exact ⟨by rw [e9] <;> rfl, by rw [e9] <;> rfl⟩
    · skip
      refine A_aload_n ok.b rfl dX4_readCar_43 gp0 ?_
      refine A_sameVR ok (As := []) mf_X4_readWay ml_X4_168 in_X4_readWay se_X4_readWay cf4 gp0 (c_readWay l g r i a b size len B hlen F1.2 hI1) rfl rfl dX4_readCar_44 (Nat.le_of_ble_eq_true rfl) ⟨(Nat.le_of_ble_eq_true rfl), (Nat.le_of_ble_eq_true rfl)⟩ ⟨(Nat.le_of_ble_eq_true rfl), (Nat.le_of_ble_eq_true rfl)⟩ (fun _ _ hx => hx.elim) (fun v44 w44 q44 => ?_)
      obtain ⟨rfl, rfl⟩ := q44
      have hI2 : RI (wayR len B F1.2).2 := RK_way hlen _ hI1
      generalize hF2 : wayR len B F1.2 = F2 at hI2 ⊢
      refine A_if_ne ok.b (tgt := 52) dX4_readCar_47 (by decide) (fun c47 => ?_) (fun c47 => ?_)
      · skip
        have hin2 : Inn F2.2.num (pN F2.2.P) := by
          have hk := way_keep (len := len) (B := B) (s := F1.2)
          rw [hF2] at hk
          rw [hk.1, hk.2]
          have h := sec_inn (len := len) (B := B) (s := advR len B s) hI.n (by rw [hF1]; exact bI_n c40)
          rw [hF1] at h; exact h
        have hcp : pCar F2.2.P < 20 := by
          have hk := way_keep (len := len) (B := B) (s := F1.2)
          have hk2 := sec_P (len := len) (B := B) (s := advR len B s)
          rw [hF2] at hk
          rw [hF1] at hk2
          rw [hk.2, hk2]; exact hc20
        refine A_aload_n ok.b rfl dX4_readCar_52 gp0 ?_
        refine A_getf ok.b cf4 1 (by decide) fl_X4_27 gp0 (gps gp0) dX4_readCar_53 ?_
        refine A_aload_n ok.b rfl dX4_readCar_56 gp0 ?_
        refine A_getf ok.b cf4 4 (by decide) fl_X4_91 gp0 (gps (gps (gps (gps gp0)))) dX4_readCar_57 ?_
        refine A_aload_n ok.b rfl dX4_readCar_60 gp0 ?_
        refine A_getf ok.b cf4 6 (by decide) fl_X4_171 gp0 (gps (gps (gps (gps (gps (gps gp0)))))) dX4_readCar_61 ?_
        refine A_callVR ok [4, 5, 6, 7, 8, 9, 10, 11, 12, 13, 14, 15, 16, 17, 18] [0, 1, 2, 3] (As := [_, _]) (wr := ([(r 0, .inr (4, [.ref (i 0), .ref (a 0), .int F2.2.ec, .int F2.2.eo, .int F2.2.num, .int F2.2.nof, .int F2.2.way, .int F2.2.bays, .int F2.2.fr, .int F2.2.dr, .int F2.2.rr, .int (nI F2.2.cc), .ref (r 1)])), (i 0, .inr (1, [.int size, .int F2.2.tk.1, .int (nI F2.2.tk.2.1), .int F2.2.tk.2.2.1, .int (nI F2.2.tk.2.2.2), .int (nI len), .ref (i 1)])), (i 1, .inl (g.2.1 2, 800, .inl B)), (r 1, .inl (g.2.1 0, 800, .inl F2.2.co))] : va_W)) mf_X5_hasRoom ml_X4_174 in_X5_hasRoom se_X5_hasRoom cf5 (gps (gps (gps (gps gp0)))) (c_hasRoom l g a b F2.2.T F2.2.P hI2.n _ _ hin2) rfl rfl rfl dX4_readCar_64 rfl rfl rfl (by decide) (Nat.le_of_ble_eq_true rfl) ⟨(Nat.le_of_ble_eq_true rfl), (Nat.le_of_ble_eq_true rfl)⟩ ⟨(Nat.le_of_ble_eq_true rfl), (Nat.le_of_ble_eq_true rfl)⟩ (fun _ _ hx => hx.elim) (fun v64 w64 q64 => ?_)
        obtain ⟨rfl, rfl⟩ := q64
        refine A_sub [0, 1, 2, 3, 4, 5, 6, 7, 8, 9, 10, 11, 12, 13, 14, 15, 16, 17, 18] (ws2 := rdW g r i a b size len B F2.2) rfl rfl ?_
        refine A_if_ne ok.b (tgt := 81) dX4_readCar_67 (by decide) (fun c67 => ?_) (fun c67 => ?_)
        · skip
          refine A_aload_n ok.b rfl dX4_readCar_81 gp0 ?_
          refine A_getf ok.b cf4 1 (by decide) fl_X4_27 gp0 (gps gp0) dX4_readCar_82 ?_
          refine A_aload_n ok.b rfl dX4_readCar_85 gp0 ?_
          refine A_getf ok.b cf4 4 (by decide) fl_X4_91 gp0 (gps (gps (gps (gps gp0)))) dX4_readCar_86 ?_
          refine A_aload_n ok.b rfl dX4_readCar_89 gp0 ?_
          refine A_getf ok.b cf4 6 (by decide) fl_X4_171 gp0 (gps (gps (gps (gps (gps (gps gp0)))))) dX4_readCar_90 ?_
          refine A_callVR ok [4, 5, 6, 7, 8, 9, 10, 11, 12, 13, 14, 15, 16, 17, 18] [0, 1, 2, 3] (As := [_, _]) (wr := ([(r 0, .inr (4, [.ref (i 0), .ref (a 0), .int F2.2.ec, .int F2.2.eo, .int F2.2.num, .int F2.2.nof, .int F2.2.way, .int F2.2.bays, .int F2.2.fr, .int F2.2.dr, .int F2.2.rr, .int (nI F2.2.cc), .ref (r 1)])), (i 0, .inr (1, [.int size, .int F2.2.tk.1, .int (nI F2.2.tk.2.1), .int F2.2.tk.2.2.1, .int (nI F2.2.tk.2.2.2), .int (nI len), .ref (i 1)])), (i 1, .inl (g.2.1 2, 800, .inl B)), (r 1, .inl (g.2.1 0, 800, .inl F2.2.co))] : va_W)) mf_X5_addCar ml_X4_177 in_X5_addCar se_X5_addCar cf5 (gps (gps (gps (gps gp0)))) (c_addCar l g a b F2.2.T F2.2.P hI2.n hcp _ _ hin2) rfl rfl rfl dX4_readCar_93 rfl rfl rfl (by decide) (Nat.le_of_ble_eq_true rfl) ⟨(Nat.le_of_ble_eq_true rfl), (Nat.le_of_ble_eq_true rfl)⟩ ⟨(Nat.le_of_ble_eq_true rfl), (Nat.le_of_ble_eq_true rfl)⟩ (fun _ _ hx => hx.elim) (fun v93 w93 q93 => ?_)
          obtain ⟨rfl, rfl⟩ := q93
          generalize hT3 : addF F2.2.P F2.2.num F2.2.way F2.2.T = T3
          generalize hP3 : sCar F2.2.P (pCar F2.2.P + 1) = P3
          refine A_sub [0, 1, 2, 3, 4, 5, 6, 7, 8, 9, 10, 11, 12, 13, 14, 15, 16, 17, 18] (ws2 := rdW g r i a b size len B ((F2.2.wT T3).wP P3)) rfl rfl ?_
          refine A_iconst ok.b (v := 1) dX4_readCar_96 (by decide) ?_
          refine A_zret ok dX4_readCar_97 (by decide) (Nat.le_of_ble_eq_true rfl) (Nat.le_of_ble_eq_true rfl) ?_
          have e9 : carR len B s = (true, (F2.2.wT T3).wP P3) := by rw [carR, if_pos hc20, andM_t (f := secR len B) (s := advR len B s) (by rw [hF1]; exact bI_n c40), hF1, andM_t (f := wayR len B) (s := F1.2) (by rw [hF2]; exact bI_n c47), hF2, carK, if_neg c67, hT3, hP3]
          exact ⟨by rw [e9] <;> rfl, by rw [e9] <;> rfl⟩
        · skip
          refine A_aload_n ok.b rfl dX4_readCar_70 gp0 ?_
          refine A_bipush ok.b (v := (-3)) dX4_readCar_71 (by decide) ?_
          refine A_aload_n ok.b rfl dX4_readCar_73 gp0 ?_
          refine A_getf ok.b cf4 5 (by decide) fl_X4_151 gp0 (gps (gps (gps (gps (gps gp0))))) dX4_readCar_74 ?_
          refine A_sameVR ok (As := [_, _]) mf_X4_fail ml_X4_77 in_X4_fail se_X4_fail cf4 gp0 (c_fail l g r i a b size len B hlen (F2.2) (hI2) _ _) rfl rfl dX4_readCar_77 (Nat.le_of_ble_eq_true rfl) ⟨(Nat.le_of_ble_eq_true rfl), (Nat.le_of_ble_eq_true rfl)⟩ ⟨(Nat.le_of_ble_eq_true rfl), (Nat.le_of_ble_eq_true rfl)⟩ (fun _ _ hx => hx.elim) (fun v77 w77 q77 => ?_)
          obtain ⟨rfl, rfl⟩ := q77
          refine A_zret ok dX4_readCar_80 (by decide) (Nat.le_of_ble_eq_true rfl) (Nat.le_of_ble_eq_true rfl) ?_
          have e9 : carR len B s = (false, failN (-3) F2.2) := by rw [carR, if_pos hc20, andM_t (f := secR len B) (s := advR len B s) (by rw [hF1]; exact bI_n c40), hF1, andM_t (f := wayR len B) (s := F1.2) (by rw [hF2]; exact bI_n c47), hF2, carK, if_pos c67]
          exact ⟨by rw [e9] <;> rfl, by rw [e9] <;> rfl⟩
      · skip
        refine A_iconst ok.b (v := 0) dX4_readCar_50 (by decide) ?_
        refine A_zret ok dX4_readCar_51 (by decide) (Nat.le_of_ble_eq_true rfl) (Nat.le_of_ble_eq_true rfl) ?_
        have e9 : carR len B s = (false, F2.2) := by rw [carR, if_pos hc20, andM_t (f := secR len B) (s := advR len B s) (by rw [hF1]; exact bI_n c40), hF1, andM_f (f := wayR len B) (s := F1.2) (by rw [hF2]; exact bI_z c47), hF2]
        exact ⟨by rw [e9] <;> rfl, by rw [e9] <;> rfl⟩
  · skip
    refine A_aload_n ok.b rfl dX4_readCar_15 gp0 ?_
    refine A_bipush ok.b (v := (-4)) dX4_readCar_16 (by decide) ?_
    refine A_aload_n ok.b rfl dX4_readCar_18 gp0 ?_
    refine A_getf ok.b cf4 0 (by decide) fl_X4_12 gp0 gp0 dX4_readCar_19 ?_
    refine A_getf ok.b cf1 2 (by decide) fl_X4_74 (gps gp0) (gps (gps gp0)) dX4_readCar_22 ?_
    refine A_sameVR ok (As := [_, _]) mf_X4_fail ml_X4_77 in_X4_fail se_X4_fail cf4 gp0 (c_fail l g r i a b size len B hlen (s) (hI) _ _) rfl rfl dX4_readCar_25 (Nat.le_of_ble_eq_true rfl) ⟨(Nat.le_of_ble_eq_true rfl), (Nat.le_of_ble_eq_true rfl)⟩ ⟨(Nat.le_of_ble_eq_true rfl), (Nat.le_of_ble_eq_true rfl)⟩ (fun _ _ hx => hx.elim) (fun v25 w25 q25 => ?_)
    obtain ⟨rfl, rfl⟩ := q25
    refine A_zret ok dX4_readCar_28 (by decide) (Nat.le_of_ble_eq_true rfl) (Nat.le_of_ble_eq_true rfl) ?_
    have e9 : carR len B s = (false, failR (-4) s) := by rw [carR, if_neg (fun h => c12 (nI_lt h (by decide)))]
    exact ⟨by rw [e9] <;> rfl, by rw [e9] <;> rfl⟩
set_option maxRecDepth 20000 in
set_option maxHeartbeats 2000000 in
theorem c_readFire (l : Launch) (g : Gl) (r i a b : Nat → Nat) (size : Int32) (len : Nat) (B : Nat → Int32) (hlen : len ≤ 800) (s : RS) (hI : RI s)  : Ct l g yX4_readFire cX4_readFire 1 (some .boolean) 3 120 0 0 [.ref (r 0)] (rdW g r i a b size len B s) (fun v w => v = some (.int (bI (fireR len B s).1)) ∧ w = rdW g r i a b size len B (fireR len B s).2) noX := by
  refine Ct.intro [some (.ref (r 0))] (by decide +kernel) (fun _ h => h) (Nat.le_of_ble_eq_true rfl) (fun A H0 K ok => ?_)
  have hI0 : RI (s.wfr 1) := ⟨hI.t1, hI.t2, hI.n, hI.c, hI.k⟩
  refine A_aload_n ok.b rfl dX4_readFire_0 gp0 ?_
  refine A_getf ok.b cf4 8 (by decide) fl_X4_41 gp0 (gps (gps (gps (gps (gps (gps (gps (gps gp0)))))))) dX4_readFire_1 ?_
  refine A_if_eq ok.b (tgt := 21) dX4_readFire_4 (by decide) (fun c4 => ?_) (fun c4 => ?_)
  · skip
    refine A_aload_n ok.b rfl dX4_readFire_21 gp0 ?_
    refine A_iconst ok.b (v := 1) dX4_readFire_22 (by decide) ?_
    refine A_putf ok.b cf4 8 (by decide) rfl fl_X4_41 gp0 rfl rfl (gp_lt (gps (gps (gps (gps (gps (gps (gps (gps gp0))))))))) (wps (wps (wps (wps (wps (wps (wps (wps wp0)))))))) wp0 dX4_readFire_23 ?_
    refine A_aload_n ok.b rfl dX4_readFire_26 gp0 ?_
    refine A_getf ok.b cf4 0 (by decide) fl_X4_12 gp0 gp0 dX4_readFire_27 ?_
    refine A_adv ok.b (s.wfr 1) hlen (hI0) dX4_readFire_30 (Nat.le_of_ble_eq_true rfl) ⟨(Nat.le_of_ble_eq_true rfl), (Nat.le_of_ble_eq_true rfl)⟩ ⟨(Nat.le_of_ble_eq_true rfl), (Nat.le_of_ble_eq_true rfl)⟩ ?_
    refine A_aload_n ok.b rfl dX4_readFire_33 gp0 ?_
    refine A_sameVR ok (As := []) mf_X4_readSection ml_X4_146 in_X4_readSection se_X4_readSection cf4 gp0 (c_readSection l g r i a b size len B hlen (advR len B (s.wfr 1)) (RI_adv hlen hI0)) rfl rfl dX4_readFire_34 (Nat.le_of_ble_eq_true rfl) ⟨(Nat.le_of_ble_eq_true rfl), (Nat.le_of_ble_eq_true rfl)⟩ ⟨(Nat.le_of_ble_eq_true rfl), (Nat.le_of_ble_eq_true rfl)⟩ (fun _ _ hx => hx.elim) (fun v34 w34 q34 => ?_)
    obtain ⟨rfl, rfl⟩ := q34
    have hI1 : RI (secR len B (advR len B (s.wfr 1))).2 := RK_sec hlen _ (RI_adv hlen hI0)
    generalize hF1 : secR len B (advR len B (s.wfr 1)) = F1 at hI1 ⊢
    refine A_if_ne ok.b (tgt := 42) dX4_readFire_37 (by decide) (fun c37 => ?_) (fun c37 => ?_)
    · skip
      refine A_aload_n ok.b rfl dX4_readFire_42 gp0 ?_
      refine A_getf ok.b cf4 1 (by decide) fl_X4_27 gp0 (gps gp0) dX4_readFire_43 ?_
      refine A_aload_n ok.b rfl dX4_readFire_46 gp0 ?_
      refine A_getf ok.b cf4 4 (by decide) fl_X4_91 gp0 (gps (gps (gps (gps gp0)))) dX4_readFire_47 ?_
      refine A_putf ok.b cf5 2 (by decide) rfl fl_X4_181 (gps (gps (gps (gps gp0)))) rfl rfl (gp_lt (gps (gps gp0))) (wps (wps wp0)) (wps (wps (wps (wps wp0)))) dX4_readFire_50 ?_
      refine A_iconst ok.b (v := 1) dX4_readFire_53 (by decide) ?_
      refine A_zret ok dX4_readFire_54 (by decide) (Nat.le_of_ble_eq_true rfl) (Nat.le_of_ble_eq_true rfl) ?_
      have e9 : fireR len B s = (true, F1.2.wT (sFire F1.2.T F1.2.num)) := by rw [fireR, if_pos c4, andM_t (f := secR len B) (s := advR len B (s.wfr 1)) (by rw [hF1]; exact bI_n c37), hF1, fireK]
      exact ⟨by rw [e9] <;> rfl, by rw [e9] <;> rfl⟩
    · skip
      refine A_iconst ok.b (v := 0) dX4_readFire_40 (by decide) ?_
      refine A_zret ok dX4_readFire_41 (by decide) (Nat.le_of_ble_eq_true rfl) (Nat.le_of_ble_eq_true rfl) ?_
      have e9 : fireR len B s = (false, F1.2) := by rw [fireR, if_pos c4, andM_f (f := secR len B) (s := advR len B (s.wfr 1)) (by rw [hF1]; exact bI_z c37), hF1]
      exact ⟨by rw [e9] <;> rfl, by rw [e9] <;> rfl⟩
  · skip
    refine A_aload_n ok.b rfl dX4_readFire_7 gp0 ?_
    refine A_bipush ok.b (v := (-2)) dX4_readFire_8 (by decide) ?_
    refine A_aload_n ok.b rfl dX4_readFire_10 gp0 ?_
    refine A_getf ok.b cf4 0 (by decide) fl_X4_12 gp0 gp0 dX4_readFire_11 ?_
    refine A_getf ok.b cf1 2 (by decide) fl_X4_74 (gps gp0) (gps (gps gp0)) dX4_readFire_14 ?_
    refine A_sameVR ok (As := [_, _]) mf_X4_fail ml_X4_77 in_X4_fail se_X4_fail cf4 gp0 (c_fail l g r i a b size len B hlen (s) (hI) _ _) rfl rfl dX4_readFire_17 (Nat.le_of_ble_eq_true rfl) ⟨(Nat.le_of_ble_eq_true rfl), (Nat.le_of_ble_eq_true rfl)⟩ ⟨(Nat.le_of_ble_eq_true rfl), (Nat.le_of_ble_eq_true rfl)⟩ (fun _ _ hx => hx.elim) (fun v17 w17 q17 => ?_)
    obtain ⟨rfl, rfl⟩ := q17
    refine A_zret ok dX4_readFire_20 (by decide) (Nat.le_of_ble_eq_true rfl) (Nat.le_of_ble_eq_true rfl) ?_
    have e9 : fireR len B s = (false, failR (-2) s) := by rw [fireR, if_neg c4]
    exact ⟨by rw [e9] <;> rfl, by rw [e9] <;> rfl⟩
set_option maxRecDepth 20000 in
set_option maxHeartbeats 2000000 in
theorem c_readDraft (l : Launch) (g : Gl) (r i a b : Nat → Nat) (size : Int32) (len : Nat) (B : Nat → Int32) (hlen : len ≤ 800) (s : RS) (hI : RI s)  : Ct l g yX4_readDraft cX4_readDraft 1 (some .boolean) 3 120 0 0 [.ref (r 0)] (rdW g r i a b size len B s) (fun v w => v = some (.int (bI (draftR len B s).1)) ∧ w = rdW g r i a b size len B (draftR len B s).2) noX := by
  refine Ct.intro [some (.ref (r 0))] (by decide +kernel) (fun _ h => h) (Nat.le_of_ble_eq_true rfl) (fun A H0 K ok => ?_)
  have hI0 : RI (s.wdr 1) := ⟨hI.t1, hI.t2, hI.n, hI.c, hI.k⟩
  refine A_aload_n ok.b rfl dX4_readDraft_0 gp0 ?_
  refine A_getf ok.b cf4 9 (by decide) fl_X4_45 gp0 (gps (gps (gps (gps (gps (gps (gps (gps (gps gp0))))))))) dX4_readDraft_1 ?_
  refine A_if_eq ok.b (tgt := 21) dX4_readDraft_4 (by decide) (fun c4 => ?_) (fun c4 => ?_)
  · skip
    refine A_aload_n ok.b rfl dX4_readDraft_21 gp0 ?_
    refine A_iconst ok.b (v := 1) dX4_readDraft_22 (by decide) ?_
    refine A_putf ok.b cf4 9 (by decide) rfl fl_X4_45 gp0 rfl rfl (gp_lt (gps (gps (gps (gps (gps (gps (gps (gps (gps gp0)))))))))) (wps (wps (wps (wps (wps (wps (wps (wps (wps wp0))))))))) wp0 dX4_readDraft_23 ?_
    refine A_aload_n ok.b rfl dX4_readDraft_26 gp0 ?_
    refine A_getf ok.b cf4 0 (by decide) fl_X4_12 gp0 gp0 dX4_readDraft_27 ?_
    refine A_adv ok.b (s.wdr 1) hlen (hI0) dX4_readDraft_30 (Nat.le_of_ble_eq_true rfl) ⟨(Nat.le_of_ble_eq_true rfl), (Nat.le_of_ble_eq_true rfl)⟩ ⟨(Nat.le_of_ble_eq_true rfl), (Nat.le_of_ble_eq_true rfl)⟩ ?_
    refine A_aload_n ok.b rfl dX4_readDraft_33 gp0 ?_
    refine A_bipush ok.b (v := 100) dX4_readDraft_34 (by decide) ?_
    refine A_sameVR ok (As := [_]) mf_X4_readSetting ml_X4_160 in_X4_readSetting se_X4_readSetting cf4 gp0 (c_readSetting l g r i a b size len B hlen (advR len B (s.wdr 1)) (RI_adv hlen hI0) 100) rfl rfl dX4_readDraft_36 (Nat.le_of_ble_eq_true rfl) ⟨(Nat.le_of_ble_eq_true rfl), (Nat.le_of_ble_eq_true rfl)⟩ ⟨(Nat.le_of_ble_eq_true rfl), (Nat.le_of_ble_eq_true rfl)⟩ (fun _ _ hx => hx.elim) (fun v36 w36 q36 => ?_)
    obtain ⟨rfl, rfl⟩ := q36
    have hI1 : RI (setR len B 100 (advR len B (s.wdr 1))).2 := RK_set hlen _ _ (RI_adv hlen hI0)
    generalize hF1 : setR len B 100 (advR len B (s.wdr 1)) = F1 at hI1 ⊢
    refine A_if_ne ok.b (tgt := 44) dX4_readDraft_39 (by decide) (fun c39 => ?_) (fun c39 => ?_)
    · skip
      refine A_aload_n ok.b rfl dX4_readDraft_44 gp0 ?_
      refine A_getf ok.b cf4 1 (by decide) fl_X4_27 gp0 (gps gp0) dX4_readDraft_45 ?_
      refine A_getf ok.b cf5 0 (by decide) fl_X4_87 (gps (gps (gps (gps gp0)))) gp0 dX4_readDraft_48 ?_
      refine A_aload_n ok.b rfl dX4_readDraft_51 gp0 ?_
      refine A_getf ok.b cf4 4 (by decide) fl_X4_91 gp0 (gps (gps (gps (gps gp0)))) dX4_readDraft_52 ?_
      refine A_putf ok.b cf2 2 (by decide) rfl fl_X4_183 (gps (gps (gps (gps (gps (gps (gps (gps (gps (gps (gps (gps (gps gp0))))))))))))) rfl rfl (gp_lt (gps (gps gp0))) (wps (wps wp0)) (wps (wps (wps (wps (wps (wps (wps (wps (wps (wps (wps (wps (wps wp0))))))))))))) dX4_readDraft_55 ?_
      refine A_iconst ok.b (v := 1) dX4_readDraft_58 (by decide) ?_
      refine A_zret ok dX4_readDraft_59 (by decide) (Nat.le_of_ble_eq_true rfl) (Nat.le_of_ble_eq_true rfl) ?_
      have e9 : draftR len B s = (true, F1.2.wP (sDraft F1.2.P F1.2.num)) := by rw [draftR, if_pos c4, andM_t (f := setR len B 100) (s := advR len B (s.wdr 1)) (by rw [hF1]; exact bI_n c39), hF1, draftK]
      exact ⟨by rw [e9] <;> rfl, by rw [e9] <;> rfl⟩
    · skip
      refine A_iconst ok.b (v := 0) dX4_readDraft_42 (by decide) ?_
      refine A_zret ok dX4_readDraft_43 (by decide) (Nat.le_of_ble_eq_true rfl) (Nat.le_of_ble_eq_true rfl) ?_
      have e9 : draftR len B s = (false, F1.2) := by rw [draftR, if_pos c4, andM_f (f := setR len B 100) (s := advR len B (s.wdr 1)) (by rw [hF1]; exact bI_z c39), hF1]
      exact ⟨by rw [e9] <;> rfl, by rw [e9] <;> rfl⟩
  · skip
    refine A_aload_n ok.b rfl dX4_readDraft_7 gp0 ?_
    refine A_bipush ok.b (v := (-2)) dX4_readDraft_8 (by decide) ?_
    refine A_aload_n ok.b rfl dX4_readDraft_10 gp0 ?_
    refine A_getf ok.b cf4 0 (by decide) fl_X4_12 gp0 gp0 dX4_readDraft_11 ?_
    refine A_getf ok.b cf1 2 (by decide) fl_X4_74 (gps gp0) (gps (gps gp0)) dX4_readDraft_14 ?_
    refine A_sameVR ok (As := [_, _]) mf_X4_fail ml_X4_77 in_X4_fail se_X4_fail cf4 gp0 (c_fail l g r i a b size len B hlen (s) (hI) _ _) rfl rfl dX4_readDraft_17 (Nat.le_of_ble_eq_true rfl) ⟨(Nat.le_of_ble_eq_true rfl), (Nat.le_of_ble_eq_true rfl)⟩ ⟨(Nat.le_of_ble_eq_true rfl), (Nat.le_of_ble_eq_true rfl)⟩ (fun _ _ hx => hx.elim) (fun v17 w17 q17 => ?_)
    obtain ⟨rfl, rfl⟩ := q17
    refine A_zret ok dX4_readDraft_20 (by decide) (Nat.le_of_ble_eq_true rfl) (Nat.le_of_ble_eq_true rfl) ?_
    have e9 : draftR len B s = (false, failR (-2) s) := by rw [draftR, if_neg c4]
    exact ⟨by rw [e9] <;> rfl, by rw [e9] <;> rfl⟩
set_option maxRecDepth 20000 in
set_option maxHeartbeats 2000000 in
theorem c_readRed (l : Launch) (g : Gl) (r i a b : Nat → Nat) (size : Int32) (len : Nat) (B : Nat → Int32) (hlen : len ≤ 800) (s : RS) (hI : RI s)  : Ct l g yX4_readRed cX4_readRed 1 (some .boolean) 6 240 0 0 [.ref (r 0)] (rdW g r i a b size len B s) (fun v w => v = some (.int (bI (redR len B s).1)) ∧ w = rdW g r i a b size len B (redR len B s).2) noX := by
  refine Ct.intro [some (.ref (r 0))] (by decide +kernel) (fun _ h => h) (Nat.le_of_ble_eq_true rfl) (fun A H0 K ok => ?_)
  refine A_aload_n ok.b rfl dX4_readRed_0 gp0 ?_
  refine A_getf ok.b cf4 0 (by decide) fl_X4_12 gp0 gp0 dX4_readRed_1 ?_
  refine A_adv ok.b (s) hlen (hI) dX4_readRed_4 (Nat.le_of_ble_eq_true rfl) ⟨(Nat.le_of_ble_eq_true rfl), (Nat.le_of_ble_eq_true rfl)⟩ ⟨(Nat.le_of_ble_eq_true rfl), (Nat.le_of_ble_eq_true rfl)⟩ ?_
  refine A_aload_n ok.b rfl dX4_readRed_7 gp0 ?_
  refine A_sameVR ok (As := []) mf_X4_readSection ml_X4_146 in_X4_readSection se_X4_readSection cf4 gp0 (c_readSection l g r i a b size len B hlen (advR len B s) (RI_adv hlen hI)) rfl rfl dX4_readRed_8 (Nat.le_of_ble_eq_true rfl) ⟨(Nat.le_of_ble_eq_true rfl), (Nat.le_of_ble_eq_true rfl)⟩ ⟨(Nat.le_of_ble_eq_true rfl), (Nat.le_of_ble_eq_true rfl)⟩ (fun _ _ hx => hx.elim) (fun v8 w8 q8 => ?_)
  obtain ⟨rfl, rfl⟩ := q8
  have hI1 : RI (secR len B (advR len B s)).2 := RK_sec hlen _ (RI_adv hlen hI)
  generalize hF1 : secR len B (advR len B s) = F1 at hI1 ⊢
  refine A_if_eq ok.b (tgt := 21) dX4_readRed_11 (by decide) (fun c11 => ?_) (fun c11 => ?_)
  · skip
    refine A_iconst ok.b (v := 0) dX4_readRed_21 (by decide) ?_
    refine A_zret ok dX4_readRed_22 (by decide) (Nat.le_of_ble_eq_true rfl) (Nat.le_of_ble_eq_true rfl) ?_
    have e9 : redR len B s = (false, F1.2) := by rw [redR, andM_f (f := secR len B) (s := advR len B s) (by rw [hF1]; exact bI_z c11), hF1]
    exact ⟨by rw [e9] <;> rfl, by rw [e9] <;> rfl⟩
  · skip
    refine A_aload_n ok.b rfl dX4_readRed_14 gp0 ?_
    refine A_sameVR ok (As := []) mf_X4_readWay ml_X4_168 in_X4_readWay se_X4_readWay cf4 gp0 (c_readWay l g r i a b size len B hlen F1.2 hI1) rfl rfl dX4_readRed_15 (Nat.le_of_ble_eq_true rfl) ⟨(Nat.le_of_ble_eq_true rfl), (Nat.le_of_ble_eq_true rfl)⟩ ⟨(Nat.le_of_ble_eq_true rfl), (Nat.le_of_ble_eq_true rfl)⟩ (fun _ _ hx => hx.elim) (fun v15 w15 q15 => ?_)
    obtain ⟨rfl, rfl⟩ := q15
    have hI2 : RI (wayR len B F1.2).2 := RK_way hlen _ hI1
    generalize hF2 : wayR len B F1.2 = F2 at hI2 ⊢
    refine A_if_ne ok.b (tgt := 23) dX4_readRed_18 (by decide) (fun c18 => ?_) (fun c18 => ?_)
    · skip
      have hin2 : Inn F2.2.num (pN F2.2.P) := by
        have hk := way_keep (len := len) (B := B) (s := F1.2)
        rw [hF2] at hk
        rw [hk.1, hk.2]
        have h := sec_inn (len := len) (B := B) (s := advR len B s) hI.n (by rw [hF1]; exact bI_n c11)
        rw [hF1] at h; exact h
      refine A_aload_n ok.b rfl dX4_readRed_23 gp0 ?_
      refine A_getf ok.b cf4 1 (by decide) fl_X4_27 gp0 (gps gp0) dX4_readRed_24 ?_
      refine A_getf ok.b cf5 9 (by decide) fl_X4_185 (gps (gps (gps (gps gp0)))) (gps (gps (gps (gps (gps (gps (gps (gps (gps gp0))))))))) dX4_readRed_27 ?_
      refine A_aload_n ok.b rfl dX4_readRed_30 gp0 ?_
      refine A_getf ok.b cf4 4 (by decide) fl_X4_91 gp0 (gps (gps (gps (gps gp0)))) dX4_readRed_31 ?_
      refine A_aload_n ok.b rfl dX4_readRed_34 gp0 ?_
      refine A_getf ok.b cf4 6 (by decide) fl_X4_171 gp0 (gps (gps (gps (gps (gps (gps gp0)))))) dX4_readRed_35 ?_
      refine A_pureSN ok.b (As := [_, _]) mf_X6_laneIndex (List.mem_of_getElem? (i := 2) rfl) sc_X6_laneIndex (c_laneIndex l g _ _) rfl rfl dX4_readRed_38 (Nat.le_of_ble_eq_true rfl) ⟨(Nat.le_of_ble_eq_true rfl), (Nat.le_of_ble_eq_true rfl)⟩ ⟨(Nat.le_of_ble_eq_true rfl), (Nat.le_of_ble_eq_true rfl)⟩ ?_
      refine A_iconst ok.b (v := 1) dX4_readRed_41 (by decide) ?_
      refine A_zast ok.b (gps (gps (gps (gps (gps (gps (gps (gps gp0)))))))) (lx_ix hI2.n hin2 _) (wps (wps (wps (wps (wps (wps (wps (wps wp0)))))))) dX4_readRed_42 ?_
      refine A_iconst ok.b (v := 1) dX4_readRed_43 (by decide) ?_
      refine A_zret ok dX4_readRed_44 (by decide) (Nat.le_of_ble_eq_true rfl) (Nat.le_of_ble_eq_true rfl) ?_
      have e9 : redR len B s = (true, F2.2.wT (sRed F2.2.T (upd (tRed F2.2.T) (lx F2.2.num F2.2.way) 1))) := by rw [redR, andM_t (f := secR len B) (s := advR len B s) (by rw [hF1]; exact bI_n c11), hF1, andM_t (f := wayR len B) (s := F1.2) (by rw [hF2]; exact bI_n c18), hF2, redK2]
      exact ⟨by rw [e9] <;> rfl, by rw [e9] <;> rfl⟩
    · skip
      refine A_iconst ok.b (v := 0) dX4_readRed_21 (by decide) ?_
      refine A_zret ok dX4_readRed_22 (by decide) (Nat.le_of_ble_eq_true rfl) (Nat.le_of_ble_eq_true rfl) ?_
      have e9 : redR len B s = (false, F2.2) := by rw [redR, andM_t (f := secR len B) (s := advR len B s) (by rw [hF1]; exact bI_n c11), hF1, andM_f (f := wayR len B) (s := F1.2) (by rw [hF2]; exact bI_z c18), hF2]
      exact ⟨by rw [e9] <;> rfl, by rw [e9] <;> rfl⟩
set_option maxRecDepth 20000 in
set_option maxHeartbeats 2000000 in
theorem c_beginRate (l : Launch) (g : Gl) (r i a b : Nat → Nat) (size : Int32) (len : Nat) (B : Nat → Int32) (hlen : len ≤ 800) (s : RS) (hI : RI s)  : Ct l g yX4_beginRate cX4_beginRate 1 (some .boolean) 1 40 0 0 [.ref (r 0)] (rdW g r i a b size len B s) (fun v w => v = some (.int (bI (begR len B s).1)) ∧ w = rdW g r i a b size len B (begR len B s).2) noX := by
  refine Ct.intro [some (.ref (r 0))] (by decide +kernel) (fun _ h => h) (Nat.le_of_ble_eq_true rfl) (fun A H0 K ok => ?_)
  have hI0 : RI (s.wrr 1) := ⟨hI.t1, hI.t2, hI.n, hI.c, hI.k⟩
  refine A_aload_n ok.b rfl dX4_beginRate_0 gp0 ?_
  refine A_getf ok.b cf4 10 (by decide) fl_X4_48 gp0 (gps (gps (gps (gps (gps (gps (gps (gps (gps (gps gp0)))))))))) dX4_beginRate_1 ?_
  refine A_if_eq ok.b (tgt := 21) dX4_beginRate_4 (by decide) (fun c4 => ?_) (fun c4 => ?_)
  · skip
    refine A_aload_n ok.b rfl dX4_beginRate_21 gp0 ?_
    refine A_iconst ok.b (v := 1) dX4_beginRate_22 (by decide) ?_
    refine A_putf ok.b cf4 10 (by decide) rfl fl_X4_48 gp0 rfl rfl (gp_lt (gps (gps (gps (gps (gps (gps (gps (gps (gps (gps gp0))))))))))) (wps (wps (wps (wps (wps (wps (wps (wps (wps (wps wp0)))))))))) wp0 dX4_beginRate_23 ?_
    refine A_aload_n ok.b rfl dX4_beginRate_26 gp0 ?_
    refine A_getf ok.b cf4 0 (by decide) fl_X4_12 gp0 gp0 dX4_beginRate_27 ?_
    refine A_adv ok.b (s.wrr 1) hlen (hI0) dX4_beginRate_30 (Nat.le_of_ble_eq_true rfl) ⟨(Nat.le_of_ble_eq_true rfl), (Nat.le_of_ble_eq_true rfl)⟩ ⟨(Nat.le_of_ble_eq_true rfl), (Nat.le_of_ble_eq_true rfl)⟩ ?_
    refine A_aload_n ok.b rfl dX4_beginRate_33 gp0 ?_
    refine A_iconst ok.b (v := 0) dX4_beginRate_34 (by decide) ?_
    refine A_putf ok.b cf4 11 (by decide) rfl fl_X4_191 gp0 rfl rfl (gp_lt (gps (gps (gps (gps (gps (gps (gps (gps (gps (gps (gps gp0)))))))))))) (wps (wps (wps (wps (wps (wps (wps (wps (wps (wps (wps wp0))))))))))) wp0 dX4_beginRate_35 ?_
    refine A_iconst ok.b (v := 1) dX4_beginRate_38 (by decide) ?_
    refine A_zret ok dX4_beginRate_39 (by decide) (Nat.le_of_ble_eq_true rfl) (Nat.le_of_ble_eq_true rfl) ?_
    have e9 : begR len B s = (true, (advR len B (s.wrr 1)).wcc 0) := by rw [begR, if_pos c4]
    exact ⟨by rw [e9] <;> rfl, by rw [e9] <;> rfl⟩
  · skip
    refine A_aload_n ok.b rfl dX4_beginRate_7 gp0 ?_
    refine A_bipush ok.b (v := (-2)) dX4_beginRate_8 (by decide) ?_
    refine A_aload_n ok.b rfl dX4_beginRate_10 gp0 ?_
    refine A_getf ok.b cf4 0 (by decide) fl_X4_12 gp0 gp0 dX4_beginRate_11 ?_
    refine A_getf ok.b cf1 2 (by decide) fl_X4_74 (gps gp0) (gps (gps gp0)) dX4_beginRate_14 ?_
    refine A_sameVR ok (As := [_, _]) mf_X4_fail ml_X4_77 in_X4_fail se_X4_fail cf4 gp0 (c_fail l g r i a b size len B hlen (s) (hI) _ _) rfl rfl dX4_beginRate_17 (Nat.le_of_ble_eq_true rfl) ⟨(Nat.le_of_ble_eq_true rfl), (Nat.le_of_ble_eq_true rfl)⟩ ⟨(Nat.le_of_ble_eq_true rfl), (Nat.le_of_ble_eq_true rfl)⟩ (fun _ _ hx => hx.elim) (fun v17 w17 q17 => ?_)
    obtain ⟨rfl, rfl⟩ := q17
    refine A_zret ok dX4_beginRate_20 (by decide) (Nat.le_of_ble_eq_true rfl) (Nat.le_of_ble_eq_true rfl) ?_
    have e9 : begR len B s = (false, failR (-2) s) := by rw [begR, if_neg c4]
    exact ⟨by rw [e9] <;> rfl, by rw [e9] <;> rfl⟩
