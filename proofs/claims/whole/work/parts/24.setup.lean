theorem ml_X4_194 : Cond.methodLink RX4 194 arraycopyName ∈ GT := gt_of (by decide +kernel) rfl
def sRate (P : PD) (n : Nat) (c : Nat → Int32) : PD := (pN P, pCap P, pDraft P, pCar P, pVent P, pHf P, n, c, (fun _ => 0))
def bR (b : Nat → Nat) (o a s : Nat) : Nat → Nat
  | 3 => o
  | 4 => a
  | 5 => s
  | n => b n
def endR (s : RS) : RS := s.wP (sRate s.P s.cc s.co)
def rcost (s : RS) : Nat := if s.rr = 0 then 1 else 0
def tunK2 : RM := fun s => (true, s.wP (sCap s.P s.num))
def tunK (len : Nat) (B : Nat → Int32) : RM := fun s => andM (numR len B 1 4) tunK2 (s.wP (sN s.P s.ix))
def tunR (len : Nat) (B : Nat → Int32) : RM := fun s => if wdR B s 0 = true then andM (numR len B 2 12) (tunK len B) (advR len B s) else (false, failR (-2) s)
def rateR (len : Nat) (B : Nat → Int32) : RM := andM (begR len B) (andM (sumR len B 4) (fun s => (true, endR s)))
def stmtR (len : Nat) (B : Nat → Int32) : RM := fun s => if wdR B s 1 = true then bayR len B s else if wdR B s 2 = true then ventR len B s else if wdR B s 3 = true then fanR len B s else if wdR B s 4 = true then carR len B s else if wdR B s 5 = true then fireR len B s else if wdR B s 6 = true then draftR len B s else if wdR B s 7 = true then redR len B s else if wdR B s 8 = true then rateR len B s else (false, failR (-2) s)
def stmtsR (len : Nat) (B : Nat → Int32) : Nat → RM
  | 0 => fun s => (true, s)
  | k + 1 => fun s => if s.tk.1 = 258 then (true, s) else andM (stmtR len B) (andM (sgnR len B 59) (stmtsR len B k)) s
theorem stmtsR_s {len : Nat} {B : Nat → Int32} {k : Nat} {s : RS} : stmtsR len B (k + 1) s = if s.tk.1 = 258 then (true, s) else andM (stmtR len B) (andM (sgnR len B 59) (stmtsR len B k)) s := rfl
def initR (len : Nat) (B : Nat → Int32) (s : RS) : RS := (((((((s.wT (clr s.T)).wP P0).wbays 0).wfr 0).wdr 0).wrr 0).wtk (tokF B len 0 s.tk.2.2.1))
def setupR (len : Nat) (B : Nat → Int32) : RM := fun s => andM (tunR len B) (andM (sgnR len B 59) (stmtsR len B 800)) (initR len B s)
def RR (f : RM) : Prop := ∀ s, (f s).2.rr = s.rr
theorem RR_and {f k : RM} (hf : RR f) (hk : RR k) : RR (andM f k) := by
  intro s
  by_cases h : (f s).1 = true
  · rw [andM_t h]; exact (hk _).trans (hf s)
  · rw [andM_f h]; exact hf s
theorem RR_num {len : Nat} {B : Nat → Int32} (lo hi : Int32) : RR (numR len B lo hi) := by
  intro s
  unfold numR
  split
  · split <;> rfl
  · rfl
theorem RR_sgn {len : Nat} {B : Nat → Int32} (c : Int32) : RR (sgnR len B c) := by
  intro s
  unfold sgnR
  split <;> rfl
theorem RR_sec {len : Nat} {B : Nat → Int32} : RR (secR len B) := fun s => RR_num _ _ s
theorem RR_way {len : Nat} {B : Nat → Int32} : RR (wayR len B) := by
  intro s
  unfold wayR
  split
  · rfl
  · split <;> rfl
theorem RR_set {len : Nat} {B : Nat → Int32} (lm : Int32) : RR (setR len B lm) := by
  intro s
  unfold setR
  split
  · exact RR_and (RR_num 0 lm) (fun _ => rfl) _
  · exact RR_num 0 lm s
theorem RR_put {s : RS} (c : Int32) : (putC c s).rr = s.rr := by unfold putC; split <;> rfl
theorem RR_bay {len : Nat} {B : Nat → Int32} : RR (bayR len B) := by
  intro s
  unfold bayR
  split
  · exact RR_and RR_sec (fun s => by unfold bayK; split <;> rfl) _
  · rfl
theorem RR_vent {len : Nat} {B : Nat → Int32} : RR (ventR len B) := by
  intro s
  refine RR_and RR_sec (fun s => ?_) _
  unfold ventK
  split
  · exact RR_and (RR_num _ _) (fun _ => rfl) _
  · rfl
theorem RR_fan {len : Nat} {B : Nat → Int32} : RR (fanR len B) := by
  intro s
  refine RR_and RR_sec (fun s => ?_) _
  unfold fanK
  split
  · exact RR_and (RR_set _) (fun _ => rfl) _
  · rfl
theorem RR_car {len : Nat} {B : Nat → Int32} : RR (carR len B) := by
  intro s
  unfold carR
  split
  · exact RR_and RR_sec (RR_and RR_way (fun s => by unfold carK; split <;> rfl)) _
  · rfl
theorem RR_fire {len : Nat} {B : Nat → Int32} : RR (fireR len B) := by
  intro s
  unfold fireR
  split
  · exact RR_and RR_sec (fun _ => rfl) _
  · rfl
theorem RR_draft {len : Nat} {B : Nat → Int32} : RR (draftR len B) := by
  intro s
  unfold draftR
  split
  · exact RR_and (RR_set _) (fun _ => rfl) _
  · rfl
theorem RR_red {len : Nat} {B : Nat → Int32} : RR (redR len B) := fun _ => RR_and RR_sec (RR_and RR_way (fun _ => rfl)) _
theorem RR_facT {len : Nat} {B : Nat → Int32} : RR (facT len B) := by
  intro s
  unfold facT
  split
  · split
    · rfl
    · exact RR_put _
  · split
    · exact RR_put _
    · split
      · exact RR_put _
      · split
        · exact RR_put _
        · rfl
theorem RR_loop {len : Nat} {B : Nat → Int32} {c1 c2 o1 o2 : Int32} {f : RM} (hf : RR f) : ∀ k, RR (loopR len B c1 c2 o1 o2 f k)
  | 0 => fun _ => rfl
  | k + 1 => by
    intro s
    rw [loopR_s]
    split
    · exact RR_and (k := fun s2 => loopR len B c1 c2 o1 o2 f k (putC (if s.tk.1 = c1 then o1 else o2) s2)) hf (fun s2 => (RR_loop hf k _).trans (RR_put _)) _
    · rfl
theorem RR_sum {len : Nat} {B : Nat → Int32} : ∀ n, RR (sumR len B n)
  | 0 => RR_and (RR_and (fun s => by unfold fac0; split; rfl; exact RR_facT s) (RR_loop (fun s => by unfold fac0; split; rfl; exact RR_facT s) 800)) (RR_loop (RR_and (fun s => by unfold fac0; split; rfl; exact RR_facT s) (RR_loop (fun s => by unfold fac0; split; rfl; exact RR_facT s) 800)) 800)
  | n + 1 => by
    have h : RR (facS len B (sumR len B n)) := by
      intro s
      unfold facS
      split
      · exact RR_and (RR_sum n) (RR_sgn _) _
      · exact RR_facT s
    have h2 : RR (termR len B (facS len B (sumR len B n))) := RR_and h (RR_loop h 800)
    exact RR_and h2 (RR_loop h2 800)
theorem rate_rr {len : Nat} {B : Nat → Int32} (s : RS) : (rateR len B s).2.rr = if s.rr = 0 then 1 else s.rr := by
  unfold rateR
  by_cases h : s.rr = 0
  · have e : begR len B s = (true, (advR len B (s.wrr 1)).wcc 0) := by rw [begR, if_pos h]
    rw [andM_t (by rw [e]), e, RR_and (RR_sum 4) (fun _ => rfl), if_pos h]
    rfl
  · have e : begR len B s = (false, failR (-2) s) := by rw [begR, if_neg h]
    rw [andM_f (by rw [e]; exact Bool.false_ne_true), e, if_neg h]
    rfl
theorem stmt_rr {len : Nat} {B : Nat → Int32} (s : RS) : rcost (stmtR len B s).2 ≤ rcost s := by
  have key : (stmtR len B s).2.rr = s.rr ∨ (stmtR len B s).2.rr = if s.rr = 0 then 1 else s.rr := by
    unfold stmtR
    split
    · exact Or.inl (RR_bay s)
    split
    · exact Or.inl (RR_vent s)
    split
    · exact Or.inl (RR_fan s)
    split
    · exact Or.inl (RR_car s)
    split
    · exact Or.inl (RR_fire s)
    split
    · exact Or.inl (RR_draft s)
    split
    · exact Or.inl (RR_red s)
    split
    · exact Or.inr (rate_rr s)
    · exact Or.inl rfl
  unfold rcost
  rcases key with h | h
  · rw [h]; exact Nat.le_refl _
  · rw [h]
    by_cases h2 : s.rr = 0
    · rw [if_pos h2, if_pos h2, if_neg (by decide)]; exact Nat.zero_le _
    · rw [if_neg h2, if_neg h2]; exact Nat.le_refl _
theorem num_bd {len : Nat} {B : Nat → Int32} {lo hi : Int32} {s : RS} (h : (numR len B lo hi s).1 = true) : ¬ (numR len B lo hi s).2.num < lo ∧ ¬ hi < (numR len B lo hi s).2.num := by
  revert h
  unfold numR
  split
  · split
    · exact fun h => absurd h Bool.false_ne_true
    · rename_i h2
      intro _
      exact not_or.mp h2
  · exact fun h => absurd h Bool.false_ne_true

set_option maxRecDepth 20000 in
set_option maxHeartbeats 2000000 in
theorem c_endRate (l : Launch) (g : Gl) (r i a b : Nat → Nat) (size : Int32) (len : Nat) (B : Nat → Int32) (hlen : len ≤ 800) (s : RS) (hI : RI s) : Ct l g yX4_endRate cX4_endRate 2 (some .boolean) 2 80 3 813 [.ref (r 0)] (rdW g r i a b size len B s) (fun v w => ∃ b' : Nat → Nat, (b' 0 = b 0 ∧ b' 1 = b 1 ∧ b' 2 = b 2) ∧ v = some (.int 1) ∧ w = rdW g r i a b' size len B (endR s)) noX := by
  refine Ct.intro [some (.ref (r 0)), none] (by decide +kernel) (fun _ h => h) (Nat.le_of_ble_eq_true rfl) (fun A H0 K ok => ?_)
  refine A_aload_n ok.b rfl dX4_endRate_0 gp0 ?_
  refine A_getf ok.b cf4 11 (by decide) fl_X4_191 gp0 (gps (gps (gps (gps (gps (gps (gps (gps (gps (gps (gps gp0))))))))))) dX4_endRate_1 ?_
  refine A_newaI ok.b (N := s.cc) (nI_nlt (a := s.cc) (b := 0) (Nat.zero_le _) (by have := hI.k; omega)) (nI_clamp (by have := hI.k; omega)) (by have := hI.k; omega) (Nat.le_of_ble_eq_true rfl) (by show 0 + s.cc ≤ 813; have := hI.k; omega) dX4_endRate_4 (fun q4 => ?_)
  refine A_astore_n ok.b rfl dX4_endRate_6 (by decide) (sts1 rfl st0) ?_
  refine A_aload_n ok.b rfl dX4_endRate_7 gp0 ?_
  refine A_getf ok.b cf4 12 (by decide) fl_X4_18 gp0 (gps (gps (gps (gps (gps (gps (gps (gps (gps (gps (gps (gps gp0)))))))))))) dX4_endRate_8 ?_
  refine A_iconst ok.b (v := 0) dX4_endRate_11 (by decide) ?_
  refine A_aload_n ok.b rfl dX4_endRate_12 (gps gp0) ?_
  refine A_iconst ok.b (v := 0) dX4_endRate_13 (by decide) ?_
  refine A_aload_n ok.b rfl dX4_endRate_14 gp0 ?_
  refine A_getf ok.b cf4 11 (by decide) fl_X4_191 gp0 (gps (gps (gps (gps (gps (gps (gps (gps (gps (gps (gps gp0))))))))))) dX4_endRate_15 ?_
  refine A_cpyi ok.b 0 ml_X4_194 (gps (gps (gps gp0))) (gps (gps (gps (gps (gps (gps (gps (gps (gps (gps (gps (gps (gps (gps (gps (gps (gps (gps (gps gp0))))))))))))))))))) rfl rfl (by decide) (by decide) (nI_nlt (a := s.cc) (b := 0) (Nat.zero_le _) (by have := hI.k; omega)) (by rw [nI_clamp (by have := hI.k; omega)]; show 0 + s.cc ≤ 800; have := hI.k; omega) (by rw [nI_clamp (by have := hI.k; omega)]; show 0 + s.cc ≤ s.cc; omega) (fun _ _ => rfl) (Nat.le_of_ble_eq_true rfl) (by decide) (wps (wps (wps (wps (wps (wps (wps (wps (wps (wps (wps (wps (wps (wps (wps (wps (wps (wps (wps wp0))))))))))))))))))) dX4_endRate_18 ?_
  refine A_aload_n ok.b rfl dX4_endRate_21 gp0 ?_
  refine A_getf ok.b cf4 1 (by decide) fl_X4_27 gp0 (gps gp0) dX4_endRate_22 ?_
  refine A_getf ok.b cf5 0 (by decide) fl_X4_87 (gps (gps (gps (gps gp0)))) gp0 dX4_endRate_25 ?_
  refine A_new ok.b cf3 cl_X4_200 it_X3 ii_X3 df_X3 (Nat.le_of_ble_eq_true rfl) (by show 0 + s.cc + 2 ≤ 813; have := hI.k; omega) dX4_endRate_28 (fun q28 => ?_)
  refine A_dup ok.b dX4_endRate_31 rfl ?_
  refine A_aload_n ok.b rfl dX4_endRate_32 (gps gp0) ?_
  refine A_lastIB ok.b (As := [_]) _ _ mf_X3_init ml_X4_202 in_X3_init rfl (c_X3init l g _ _) rfl rfl dX4_endRate_33 (Nat.le_of_ble_eq_true rfl) ⟨(Nat.le_of_ble_eq_true rfl), (Nat.le_of_ble_eq_true rfl)⟩ ⟨by show 0 + 1 + 1 + 1 ≤ 3; omega, by show 0 + s.cc + 2 + 11 ≤ 813; have := hI.k; omega⟩ (fun _ _ hx => hx.elim) (fun v33 w33 q33 => ?_)
  obtain ⟨q5, rfl, rfl⟩ := q33
  refine A_putf ok.b cf2 6 (by decide) rfl fl_X4_205 (gps (gps (gps (gps (gps (gps (gps (gps (gps (gps (gps (gps (gps gp0))))))))))))) rfl rfl (gp_lt (gps (gps (gps (gps (gps (gps gp0))))))) (wps (wps (wps (wps (wps (wps wp0)))))) (wps (wps (wps (wps (wps (wps (wps (wps (wps (wps (wps (wps (wps wp0))))))))))))) dX4_endRate_36 ?_
  refine A_iconst ok.b (v := 1) dX4_endRate_39 (by decide) ?_
  refine A_sub [0, 1, 2, 3, 4, 5, 6, 7, 8, 9, 10, 11, 12, 13, 14, 15, 20, 19, 21] (ws2 := rdW g r i a (bR b q28 q4 q5) size len B (s.wP (sRate s.P s.cc (va_cpy s.co (fun _ => 0) (0 : Int32).toNatClampNeg (0 : Int32).toNatClampNeg (nI s.cc).toNatClampNeg)))) rfl rfl ?_
  refine A_ext (ws2 := rdW g r i a (bR b q28 q4 q5) size len B (endR s)) (weqs (weqs (weqs (weqs (weqs (weqs (weqs (weqs (weqs (weqs (weqs (weqs (weqs (weqs (weqs (weqs (weqs (weqc (ceq_i (fun j hj => cpy_at (f := s.co) (g := fun _ => (0 : Int32)) (n := nI s.cc) (N := s.cc) (nI_clamp (by have := hI.k; omega)) (show j < s.cc from hj))) (weq_r _))))))))))))))))))) ?_
  refine A_zret ok dX4_endRate_40 (by decide) (by show 0 + 1 + 1 + 1 ≤ 3; omega) (by show 0 + s.cc + 2 + 11 ≤ 813; have := hI.k; omega) ?_
  exact ⟨bR b q28 q4 q5, ⟨rfl, rfl, rfl⟩, rfl, rfl⟩
set_option maxRecDepth 20000 in
set_option maxHeartbeats 2000000 in
theorem c_readTunnel (l : Launch) (g : Gl) (r i a b : Nat → Nat) (size : Int32) (len : Nat) (B : Nat → Int32) (hlen : len ≤ 800) (s : RS) (hI : RI s)  : Ct l g yX4_readTunnel cX4_readTunnel 1 (some .boolean) 5 200 0 0 [.ref (r 0)] (rdW g r i a b size len B s) (fun v w => v = some (.int (bI (tunR len B s).1)) ∧ w = rdW g r i a b size len B (tunR len B s).2) noX := by
  refine Ct.intro [some (.ref (r 0))] (by decide +kernel) (fun _ h => h) (Nat.le_of_ble_eq_true rfl) (fun A H0 K ok => ?_)
  refine A_aload_n ok.b rfl dX4_readTunnel_0 gp0 ?_
  refine A_getf ok.b cf4 0 (by decide) fl_X4_12 gp0 gp0 dX4_readTunnel_1 ?_
  refine A_ldcS ok.b (List.mem_of_getElem? (l := sTab) (i := 0) rfl) dX4_readTunnel_4 ?_
  refine A_word ok.b (s) (by decide) (hI) dX4_readTunnel_6 (Nat.le_of_ble_eq_true rfl) ⟨(Nat.le_of_ble_eq_true rfl), (Nat.le_of_ble_eq_true rfl)⟩ ⟨(Nat.le_of_ble_eq_true rfl), (Nat.le_of_ble_eq_true rfl)⟩ ?_
  refine A_if_ne ok.b (tgt := 26) dX4_readTunnel_9 (by decide) (fun c9 => ?_) (fun c9 => ?_)
  · skip
    refine A_aload_n ok.b rfl dX4_readTunnel_26 gp0 ?_
    refine A_getf ok.b cf4 0 (by decide) fl_X4_12 gp0 gp0 dX4_readTunnel_27 ?_
    refine A_adv ok.b (s) hlen (hI) dX4_readTunnel_30 (Nat.le_of_ble_eq_true rfl) ⟨(Nat.le_of_ble_eq_true rfl), (Nat.le_of_ble_eq_true rfl)⟩ ⟨(Nat.le_of_ble_eq_true rfl), (Nat.le_of_ble_eq_true rfl)⟩ ?_
    refine A_aload_n ok.b rfl dX4_readTunnel_33 gp0 ?_
    refine A_iconst ok.b (v := 2) dX4_readTunnel_34 (by decide) ?_
    refine A_bipush ok.b (v := 12) dX4_readTunnel_35 (by decide) ?_
    refine A_sameVR ok (As := [_, _]) mf_X4_readNumber ml_X4_84 in_X4_readNumber se_X4_readNumber cf4 gp0 (c_readNumber l g r i a b size len B hlen (advR len B s) (RI_adv hlen hI) 2 12) rfl rfl dX4_readTunnel_37 (Nat.le_of_ble_eq_true rfl) ⟨(Nat.le_of_ble_eq_true rfl), (Nat.le_of_ble_eq_true rfl)⟩ ⟨(Nat.le_of_ble_eq_true rfl), (Nat.le_of_ble_eq_true rfl)⟩ (fun _ _ hx => hx.elim) (fun v37 w37 q37 => ?_)
    obtain ⟨rfl, rfl⟩ := q37
    have hI1 : RI (numR len B 2 12 (advR len B s)).2 := RK_num hlen _ _ _ (RI_adv hlen hI)
    generalize hF1 : numR len B 2 12 (advR len B s) = F1 at hI1 ⊢
    refine A_if_ne ok.b (tgt := 45) dX4_readTunnel_40 (by decide) (fun c40 => ?_) (fun c40 => ?_)
    · skip
      have hb2 := num_bd (len := len) (B := B) (lo := 2) (hi := 12) (s := advR len B s) (by rw [hF1]; exact bI_n c40)
      rw [hF1] at hb2
      obtain ⟨n0, hn0, e0⟩ := inn_of (x := F1.2.num) (n := 13) (by decide) (fun h => hb2.1 (Int32.lt_iff_toInt_lt.mpr (by have := Int32.lt_iff_toInt_lt.mp h; exact Int.lt_trans this (by decide)))) (fun h => hb2.2 (Int32.lt_iff_toInt_lt.mpr (by have h1 := Int32.le_iff_toInt_le.mp h; exact Int.lt_of_lt_of_le (by decide) h1)))
      have ei : F1.2.ix = n0 := by rw [RS.ix, e0]; exact nI_clamp (by omega)
      have e1 : F1.2.num = nI F1.2.ix := by rw [ei, ← e0]
      have hI2 : RI (F1.2.wP (sN F1.2.P F1.2.ix)) := ⟨hI1.t1, hI1.t2, by show F1.2.ix ≤ 12; omega, hI1.c, hI1.k⟩
      refine A_aload_n ok.b rfl dX4_readTunnel_45 gp0 ?_
      refine A_getf ok.b cf4 1 (by decide) fl_X4_27 gp0 (gps gp0) dX4_readTunnel_46 ?_
      refine A_getf ok.b cf5 0 (by decide) fl_X4_87 (gps (gps (gps (gps gp0)))) gp0 dX4_readTunnel_49 ?_
      refine A_aload_n ok.b rfl dX4_readTunnel_52 gp0 ?_
      refine A_getf ok.b cf4 4 (by decide) fl_X4_91 gp0 (gps (gps (gps (gps gp0)))) dX4_readTunnel_53 ?_
      rw [e1]
      refine A_putf ok.b cf2 0 (by decide) rfl fl_X4_94 (gps (gps (gps (gps (gps (gps (gps (gps (gps (gps (gps (gps (gps gp0))))))))))))) rfl rfl (gp_lt gp0) wp0 (wps (wps (wps (wps (wps (wps (wps (wps (wps (wps (wps (wps (wps wp0))))))))))))) dX4_readTunnel_56 ?_
      refine A_aload_n ok.b rfl dX4_readTunnel_59 gp0 ?_
      refine A_iconst ok.b (v := 1) dX4_readTunnel_60 (by decide) ?_
      refine A_iconst ok.b (v := 4) dX4_readTunnel_61 (by decide) ?_
      refine A_sameVR ok (As := [_, _]) mf_X4_readNumber ml_X4_84 in_X4_readNumber se_X4_readNumber cf4 gp0 (c_readNumber l g r i a b size len B hlen (F1.2.wP (sN F1.2.P F1.2.ix)) hI2 1 4) rfl rfl dX4_readTunnel_62 (Nat.le_of_ble_eq_true rfl) ⟨(Nat.le_of_ble_eq_true rfl), (Nat.le_of_ble_eq_true rfl)⟩ ⟨(Nat.le_of_ble_eq_true rfl), (Nat.le_of_ble_eq_true rfl)⟩ (fun _ _ hx => hx.elim) (fun v62 w62 q62 => ?_)
      obtain ⟨rfl, rfl⟩ := q62
      have hI3 : RI (numR len B 1 4 (F1.2.wP (sN F1.2.P F1.2.ix))).2 := RK_num hlen _ _ _ hI2
      generalize hF2 : numR len B 1 4 (F1.2.wP (sN F1.2.P F1.2.ix)) = F2 at hI3 ⊢
      refine A_if_ne ok.b (tgt := 70) dX4_readTunnel_65 (by decide) (fun c65 => ?_) (fun c65 => ?_)
      · skip
        refine A_aload_n ok.b rfl dX4_readTunnel_70 gp0 ?_
        refine A_getf ok.b cf4 1 (by decide) fl_X4_27 gp0 (gps gp0) dX4_readTunnel_71 ?_
        refine A_getf ok.b cf5 0 (by decide) fl_X4_87 (gps (gps (gps (gps gp0)))) gp0 dX4_readTunnel_74 ?_
        refine A_aload_n ok.b rfl dX4_readTunnel_77 gp0 ?_
        refine A_getf ok.b cf4 4 (by decide) fl_X4_91 gp0 (gps (gps (gps (gps gp0)))) dX4_readTunnel_78 ?_
        refine A_putf ok.b cf2 1 (by decide) rfl fl_X4_97 (gps (gps (gps (gps (gps (gps (gps (gps (gps (gps (gps (gps (gps gp0))))))))))))) rfl rfl (gp_lt (gps gp0)) (wps wp0) (wps (wps (wps (wps (wps (wps (wps (wps (wps (wps (wps (wps (wps wp0))))))))))))) dX4_readTunnel_81 ?_
        refine A_iconst ok.b (v := 1) dX4_readTunnel_84 (by decide) ?_
        refine A_zret ok dX4_readTunnel_85 (by decide) (Nat.le_of_ble_eq_true rfl) (Nat.le_of_ble_eq_true rfl) ?_
        have e9 : tunR len B s = (true, F2.2.wP (sCap F2.2.P F2.2.num)) := by rw [tunR, if_pos (bI_n c9), andM_t (f := numR len B 2 12) (s := advR len B s) (by rw [hF1]; exact bI_n c40), hF1, tunK, andM_t (f := numR len B 1 4) (s := F1.2.wP (sN F1.2.P F1.2.ix)) (by rw [hF2]; exact bI_n c65), hF2, tunK2]
        exact ⟨by rw [e9] <;> rfl, by rw [e9] <;> rfl⟩
      · skip
        refine A_iconst ok.b (v := 0) dX4_readTunnel_68 (by decide) ?_
        refine A_zret ok dX4_readTunnel_69 (by decide) (Nat.le_of_ble_eq_true rfl) (Nat.le_of_ble_eq_true rfl) ?_
        have e9 : tunR len B s = (false, F2.2) := by rw [tunR, if_pos (bI_n c9), andM_t (f := numR len B 2 12) (s := advR len B s) (by rw [hF1]; exact bI_n c40), hF1, tunK, andM_f (f := numR len B 1 4) (s := F1.2.wP (sN F1.2.P F1.2.ix)) (by rw [hF2]; exact bI_z c65), hF2]
        exact ⟨by rw [e9] <;> rfl, by rw [e9] <;> rfl⟩
    · skip
      refine A_iconst ok.b (v := 0) dX4_readTunnel_43 (by decide) ?_
      refine A_zret ok dX4_readTunnel_44 (by decide) (Nat.le_of_ble_eq_true rfl) (Nat.le_of_ble_eq_true rfl) ?_
      have e9 : tunR len B s = (false, F1.2) := by rw [tunR, if_pos (bI_n c9), andM_f (f := numR len B 2 12) (s := advR len B s) (by rw [hF1]; exact bI_z c40), hF1]
      exact ⟨by rw [e9] <;> rfl, by rw [e9] <;> rfl⟩
  · skip
    refine A_aload_n ok.b rfl dX4_readTunnel_12 gp0 ?_
    refine A_bipush ok.b (v := (-2)) dX4_readTunnel_13 (by decide) ?_
    refine A_aload_n ok.b rfl dX4_readTunnel_15 gp0 ?_
    refine A_getf ok.b cf4 0 (by decide) fl_X4_12 gp0 gp0 dX4_readTunnel_16 ?_
    refine A_getf ok.b cf1 2 (by decide) fl_X4_74 (gps gp0) (gps (gps gp0)) dX4_readTunnel_19 ?_
    refine A_sameVR ok (As := [_, _]) mf_X4_fail ml_X4_77 in_X4_fail se_X4_fail cf4 gp0 (c_fail l g r i a b size len B hlen (s) (hI) _ _) rfl rfl dX4_readTunnel_22 (Nat.le_of_ble_eq_true rfl) ⟨(Nat.le_of_ble_eq_true rfl), (Nat.le_of_ble_eq_true rfl)⟩ ⟨(Nat.le_of_ble_eq_true rfl), (Nat.le_of_ble_eq_true rfl)⟩ (fun _ _ hx => hx.elim) (fun v22 w22 q22 => ?_)
    obtain ⟨rfl, rfl⟩ := q22
    refine A_zret ok dX4_readTunnel_25 (by decide) (Nat.le_of_ble_eq_true rfl) (Nat.le_of_ble_eq_true rfl) ?_
    have e9 : tunR len B s = (false, failR (-2) s) := by rw [tunR, if_neg (bI_z c9)]
    exact ⟨by rw [e9] <;> rfl, by rw [e9] <;> rfl⟩
theorem beg_rr {len : Nat} {B : Nat → Int32} (s : RS) (h : (begR len B s).1 = true) : s.rr = 0 := by
  by_cases h2 : s.rr = 0
  · exact h2
  · rw [begR, if_neg h2] at h
    exact absurd h Bool.false_ne_true
theorem RK_beg {len : Nat} {B : Nat → Int32} (hlen : len ≤ 800) : RK (begR len B) := by
  intro s h
  unfold begR
  split
  · have h1 : RI (advR len B (s.wrr 1)) := RI_adv hlen ⟨h.t1, h.t2, h.n, h.c, h.k⟩
    exact ⟨h1.t1, h1.t2, h1.n, h1.c, Nat.zero_le _⟩
  · exact RI_fail _ h
set_option maxRecDepth 20000 in
set_option maxHeartbeats 2000000 in
theorem c_readStatement (l : Launch) (g : Gl) (r i a b : Nat → Nat) (size : Int32) (len : Nat) (B : Nat → Int32) (hlen : len ≤ 800) (s : RS) (hI : RI s) : Ct l g yX4_readStatement cX4_readStatement 1 (some .boolean) 20 800 (3 * (rcost s - rcost (stmtR len B s).2)) (813 * (rcost s - rcost (stmtR len B s).2)) [.ref (r 0)] (rdW g r i a b size len B s) (fun v w => ∃ b' : Nat → Nat, (b' 0 = b 0 ∧ b' 1 = b 1 ∧ b' 2 = b 2) ∧ v = some (.int (bI (stmtR len B s).1)) ∧ w = rdW g r i a b' size len B (stmtR len B s).2) noX := by
  refine Ct.intro [some (.ref (r 0))] (by decide +kernel) (fun _ h => h) (Nat.le_of_ble_eq_true rfl) (fun A H0 K ok => ?_)
  refine A_aload_n ok.b rfl dX4_readStatement_0 gp0 ?_
  refine A_getf ok.b cf4 0 (by decide) fl_X4_12 gp0 gp0 dX4_readStatement_1 ?_
  refine A_ldcS ok.b (List.mem_of_getElem? (l := sTab) (i := 1) rfl) dX4_readStatement_4 ?_
  refine A_word ok.b s (by decide) hI dX4_readStatement_6 (Nat.le_of_ble_eq_true rfl) ⟨(Nat.le_of_ble_eq_true rfl), (Nat.le_of_ble_eq_true rfl)⟩ ⟨Nat.zero_le _, Nat.zero_le _⟩ ?_
  refine A_if_eq ok.b (tgt := 17) dX4_readStatement_9 (by decide) (fun c9 => ?_) (fun c9 => ?_)
  · skip
    refine A_aload_n ok.b rfl dX4_readStatement_17 gp0 ?_
    refine A_getf ok.b cf4 0 (by decide) fl_X4_12 gp0 gp0 dX4_readStatement_18 ?_
    refine A_ldcS ok.b (List.mem_of_getElem? (l := sTab) (i := 2) rfl) dX4_readStatement_21 ?_
    refine A_word ok.b s (by decide) hI dX4_readStatement_23 (Nat.le_of_ble_eq_true rfl) ⟨(Nat.le_of_ble_eq_true rfl), (Nat.le_of_ble_eq_true rfl)⟩ ⟨Nat.zero_le _, Nat.zero_le _⟩ ?_
    refine A_if_eq ok.b (tgt := 34) dX4_readStatement_26 (by decide) (fun c26 => ?_) (fun c26 => ?_)
    · skip
      refine A_aload_n ok.b rfl dX4_readStatement_34 gp0 ?_
      refine A_getf ok.b cf4 0 (by decide) fl_X4_12 gp0 gp0 dX4_readStatement_35 ?_
      refine A_ldcS ok.b (List.mem_of_getElem? (l := sTab) (i := 3) rfl) dX4_readStatement_38 ?_
      refine A_word ok.b s (by decide) hI dX4_readStatement_40 (Nat.le_of_ble_eq_true rfl) ⟨(Nat.le_of_ble_eq_true rfl), (Nat.le_of_ble_eq_true rfl)⟩ ⟨Nat.zero_le _, Nat.zero_le _⟩ ?_
      refine A_if_eq ok.b (tgt := 51) dX4_readStatement_43 (by decide) (fun c43 => ?_) (fun c43 => ?_)
      · skip
        refine A_aload_n ok.b rfl dX4_readStatement_51 gp0 ?_
        refine A_getf ok.b cf4 0 (by decide) fl_X4_12 gp0 gp0 dX4_readStatement_52 ?_
        refine A_ldcS ok.b (List.mem_of_getElem? (l := sTab) (i := 4) rfl) dX4_readStatement_55 ?_
        refine A_word ok.b s (by decide) hI dX4_readStatement_57 (Nat.le_of_ble_eq_true rfl) ⟨(Nat.le_of_ble_eq_true rfl), (Nat.le_of_ble_eq_true rfl)⟩ ⟨Nat.zero_le _, Nat.zero_le _⟩ ?_
        refine A_if_eq ok.b (tgt := 68) dX4_readStatement_60 (by decide) (fun c60 => ?_) (fun c60 => ?_)
        · skip
          refine A_aload_n ok.b rfl dX4_readStatement_68 gp0 ?_
          refine A_getf ok.b cf4 0 (by decide) fl_X4_12 gp0 gp0 dX4_readStatement_69 ?_
          refine A_ldcS ok.b (List.mem_of_getElem? (l := sTab) (i := 5) rfl) dX4_readStatement_72 ?_
          refine A_word ok.b s (by decide) hI dX4_readStatement_74 (Nat.le_of_ble_eq_true rfl) ⟨(Nat.le_of_ble_eq_true rfl), (Nat.le_of_ble_eq_true rfl)⟩ ⟨Nat.zero_le _, Nat.zero_le _⟩ ?_
          refine A_if_eq ok.b (tgt := 85) dX4_readStatement_77 (by decide) (fun c77 => ?_) (fun c77 => ?_)
          · skip
            refine A_aload_n ok.b rfl dX4_readStatement_85 gp0 ?_
            refine A_getf ok.b cf4 0 (by decide) fl_X4_12 gp0 gp0 dX4_readStatement_86 ?_
            refine A_ldcS ok.b (List.mem_of_getElem? (l := sTab) (i := 6) rfl) dX4_readStatement_89 ?_
            refine A_word ok.b s (by decide) hI dX4_readStatement_91 (Nat.le_of_ble_eq_true rfl) ⟨(Nat.le_of_ble_eq_true rfl), (Nat.le_of_ble_eq_true rfl)⟩ ⟨Nat.zero_le _, Nat.zero_le _⟩ ?_
            refine A_if_eq ok.b (tgt := 102) dX4_readStatement_94 (by decide) (fun c94 => ?_) (fun c94 => ?_)
            · skip
              refine A_aload_n ok.b rfl dX4_readStatement_102 gp0 ?_
              refine A_getf ok.b cf4 0 (by decide) fl_X4_12 gp0 gp0 dX4_readStatement_103 ?_
              refine A_ldcS ok.b (List.mem_of_getElem? (l := sTab) (i := 7) rfl) dX4_readStatement_106 ?_
              refine A_word ok.b s (by decide) hI dX4_readStatement_108 (Nat.le_of_ble_eq_true rfl) ⟨(Nat.le_of_ble_eq_true rfl), (Nat.le_of_ble_eq_true rfl)⟩ ⟨Nat.zero_le _, Nat.zero_le _⟩ ?_
              refine A_if_eq ok.b (tgt := 119) dX4_readStatement_111 (by decide) (fun c111 => ?_) (fun c111 => ?_)
              · skip
                refine A_aload_n ok.b rfl dX4_readStatement_119 gp0 ?_
                refine A_getf ok.b cf4 0 (by decide) fl_X4_12 gp0 gp0 dX4_readStatement_120 ?_
                refine A_ldcS ok.b (List.mem_of_getElem? (l := sTab) (i := 8) rfl) dX4_readStatement_123 ?_
                refine A_word ok.b s (by decide) hI dX4_readStatement_125 (Nat.le_of_ble_eq_true rfl) ⟨(Nat.le_of_ble_eq_true rfl), (Nat.le_of_ble_eq_true rfl)⟩ ⟨Nat.zero_le _, Nat.zero_le _⟩ ?_
                refine A_if_eq ok.b (tgt := 159) dX4_readStatement_128 (by decide) (fun c128 => ?_) (fun c128 => ?_)
                · skip
                  refine A_aload_n ok.b rfl dX4_readStatement_159 gp0 ?_
                  refine A_bipush ok.b (v := (-2)) dX4_readStatement_160 (by decide) ?_
                  refine A_aload_n ok.b rfl dX4_readStatement_162 gp0 ?_
                  refine A_getf ok.b cf4 0 (by decide) fl_X4_12 gp0 gp0 dX4_readStatement_163 ?_
                  refine A_getf ok.b cf1 2 (by decide) fl_X4_74 (gps gp0) (gps (gps gp0)) dX4_readStatement_166 ?_
                  refine A_sameVR ok (As := [_, _]) mf_X4_fail ml_X4_77 in_X4_fail se_X4_fail cf4 gp0 (c_fail l g r i a b size len B hlen s hI _ _) rfl rfl dX4_readStatement_169 (Nat.le_of_ble_eq_true rfl) ⟨(Nat.le_of_ble_eq_true rfl), (Nat.le_of_ble_eq_true rfl)⟩ ⟨Nat.zero_le _, Nat.zero_le _⟩ (fun _ _ hx => hx.elim) (fun v169 w169 q169 => ?_)
                  obtain ⟨rfl, rfl⟩ := q169
                  refine A_zret ok dX4_readStatement_172 (by decide) (Nat.zero_le _) (Nat.zero_le _) ?_
                  have e9 : stmtR len B s = (false, failR (-2) s) := by rw [stmtR, if_neg (bI_z c9), if_neg (bI_z c26), if_neg (bI_z c43), if_neg (bI_z c60), if_neg (bI_z c77), if_neg (bI_z c94), if_neg (bI_z c111), if_neg (bI_z c128)]
                  exact ⟨b, ⟨rfl, rfl, rfl⟩, by rw [e9] <;> rfl, by rw [e9] <;> rfl⟩
                · skip
                  refine A_aload_n ok.b rfl dX4_readStatement_131 gp0 ?_
                  refine A_sameVR ok (As := []) mf_X4_beginRate ml_X4_137 in_X4_beginRate se_X4_beginRate cf4 gp0 (c_beginRate l g r i a b size len B hlen s hI) rfl rfl dX4_readStatement_132 (Nat.le_of_ble_eq_true rfl) ⟨(Nat.le_of_ble_eq_true rfl), (Nat.le_of_ble_eq_true rfl)⟩ ⟨Nat.zero_le _, Nat.zero_le _⟩ (fun _ _ hx => hx.elim) (fun v132 w132 q132 => ?_)
                  obtain ⟨rfl, rfl⟩ := q132
                  have e8 : stmtR len B s = rateR len B s := by rw [stmtR, if_neg (bI_z c9), if_neg (bI_z c26), if_neg (bI_z c43), if_neg (bI_z c60), if_neg (bI_z c77), if_neg (bI_z c94), if_neg (bI_z c111), if_pos (bI_n c128)]
                  have hI1 : RI (begR len B s).2 := RK_beg hlen s hI
                  have hb0 := beg_rr (len := len) (B := B) s
                  generalize hF1 : begR len B s = F1 at hI1 hb0 ⊢
                  refine A_if_eq ok.b (tgt := 157) dX4_readStatement_135 (by decide) (fun c135 => ?_) (fun c135 => ?_)
                  · skip
                    refine A_iconst ok.b (v := 0) dX4_readStatement_157 (by decide) ?_
                    refine A_zret ok dX4_readStatement_158 (by decide) (Nat.zero_le _) (Nat.zero_le _) ?_
                    have e9 : stmtR len B s = (false, F1.2) := by rw [e8, rateR, andM_f (f := begR len B) (s := s) (by rw [hF1]; exact bI_z c135), hF1]
                    exact ⟨b, ⟨rfl, rfl, rfl⟩, by rw [e9] <;> rfl, by rw [e9] <;> rfl⟩
                  · skip
                    refine A_aload_n ok.b rfl dX4_readStatement_138 gp0 ?_
                    refine A_iconst ok.b (v := 0) dX4_readStatement_139 (by decide) ?_
                    refine A_sameVR ok (As := [_]) mf_X4_readSum ml_X4_140 in_X4_readSum se_X4_readSum cf4 gp0 (c_sumAll l g r i a b size len B hlen 4 (Nat.le_refl _) F1.2 hI1) rfl rfl dX4_readStatement_140 (Nat.le_of_ble_eq_true rfl) ⟨(Nat.le_of_ble_eq_true rfl), (Nat.le_of_ble_eq_true rfl)⟩ ⟨Nat.zero_le _, Nat.zero_le _⟩ (fun _ _ hx => hx.elim) (fun v140 w140 q140 => ?_)
                    obtain ⟨rfl, rfl⟩ := q140
                    have hI2 : RI (sumR len B 4 F1.2).2 := RK_sum hlen 4 _ hI1
                    generalize hF2 : sumR len B 4 F1.2 = F2 at hI2 ⊢
                    refine A_if_eq ok.b (tgt := 157) dX4_readStatement_143 (by decide) (fun c143 => ?_) (fun c143 => ?_)
                    · skip
                      refine A_iconst ok.b (v := 0) dX4_readStatement_157 (by decide) ?_
                      refine A_zret ok dX4_readStatement_158 (by decide) (Nat.zero_le _) (Nat.zero_le _) ?_
                      have e9 : stmtR len B s = (false, F2.2) := by rw [e8, rateR, andM_t (f := begR len B) (s := s) (by rw [hF1]; exact bI_n c135), hF1, andM_f (f := sumR len B 4) (s := F1.2) (by rw [hF2]; exact bI_z c143), hF2]
                      exact ⟨b, ⟨rfl, rfl, rfl⟩, by rw [e9] <;> rfl, by rw [e9] <;> rfl⟩
                    · skip
                      have e9 : stmtR len B s = (true, endR F2.2) := by rw [e8, rateR, andM_t (f := begR len B) (s := s) (by rw [hF1]; exact bI_n c135), hF1, andM_t (f := sumR len B 4) (s := F1.2) (by rw [hF2]; exact bI_n c143), hF2]
                      have hrc : rcost s - rcost (stmtR len B s).2 = 1 := by
                        have h1 := (congrArg (fun q : Bool × RS => q.2.rr) e8).trans (rate_rr s)
                        have h2 := hb0 (bI_n c135)
                        rw [if_pos h2] at h1
                        have h3 : (stmtR len B s).2.rr = 1 := h1
                        rw [rcost, rcost, h3, if_pos h2, if_neg (by decide)]
                      refine A_aload_n ok.b rfl dX4_readStatement_146 gp0 ?_
                      refine A_sameVR ok (As := []) mf_X4_endRate ml_X4_143 in_X4_endRate se_X4_endRate cf4 gp0 (c_endRate l g r i a b size len B hlen F2.2 hI2) rfl rfl dX4_readStatement_147 (Nat.le_of_ble_eq_true rfl) ⟨(Nat.le_of_ble_eq_true rfl), (Nat.le_of_ble_eq_true rfl)⟩ ⟨by show 0 + 0 + 0 + 3 ≤ 3 * (rcost s - rcost (stmtR len B s).2); rw [hrc]; omega, by show 0 + 0 + 0 + 813 ≤ 813 * (rcost s - rcost (stmtR len B s).2); rw [hrc]; omega⟩ (fun _ _ hx => hx.elim) (fun v147 w147 q147 => ?_)
                      obtain ⟨b2, hb2, rfl, rfl⟩ := q147
                      refine A_if_eq ok.b (tgt := 157) dX4_readStatement_150 (by decide) (fun c150 => ((show False from absurd c150 (by decide))).elim) (fun c150 => ?_)
                      refine A_iconst ok.b (v := 1) dX4_readStatement_153 (by decide) ?_
                      refine A_goto ok.b (tgt := 158) dX4_readStatement_154 (by decide) ?_
                      refine A_zret ok dX4_readStatement_158 (by decide) (by show 0 + 0 + 0 + 3 ≤ 3 * (rcost s - rcost (stmtR len B s).2); rw [hrc]; omega) (by show 0 + 0 + 0 + 813 ≤ 813 * (rcost s - rcost (stmtR len B s).2); rw [hrc]; omega) ?_
                      exact ⟨b2, hb2, by rw [e9] <;> rfl, by rw [e9] <;> rfl⟩
              · skip
                refine A_aload_n ok.b rfl dX4_readStatement_114 gp0 ?_
                refine A_sameVR ok (As := []) mf_X4_readRed ml_X4_132 in_X4_readRed se_X4_readRed cf4 gp0 (c_readRed l g r i a b size len B hlen s hI) rfl rfl dX4_readStatement_115 (Nat.le_of_ble_eq_true rfl) ⟨(Nat.le_of_ble_eq_true rfl), (Nat.le_of_ble_eq_true rfl)⟩ ⟨Nat.zero_le _, Nat.zero_le _⟩ (fun _ _ hx => hx.elim) (fun v115 w115 q115 => ?_)
                obtain ⟨rfl, rfl⟩ := q115
                have e9 : stmtR len B s = redR len B s := by rw [stmtR, if_neg (bI_z c9), if_neg (bI_z c26), if_neg (bI_z c43), if_neg (bI_z c60), if_neg (bI_z c77), if_neg (bI_z c94), if_pos (bI_n c111)]
                refine A_zret ok dX4_readStatement_118 (bI_z01 _) (Nat.zero_le _) (Nat.zero_le _) ?_
                exact ⟨b, ⟨rfl, rfl, rfl⟩, by rw [e9], by rw [e9]⟩
            · skip
              refine A_aload_n ok.b rfl dX4_readStatement_97 gp0 ?_
              refine A_sameVR ok (As := []) mf_X4_readDraft ml_X4_127 in_X4_readDraft se_X4_readDraft cf4 gp0 (c_readDraft l g r i a b size len B hlen s hI) rfl rfl dX4_readStatement_98 (Nat.le_of_ble_eq_true rfl) ⟨(Nat.le_of_ble_eq_true rfl), (Nat.le_of_ble_eq_true rfl)⟩ ⟨Nat.zero_le _, Nat.zero_le _⟩ (fun _ _ hx => hx.elim) (fun v98 w98 q98 => ?_)
              obtain ⟨rfl, rfl⟩ := q98
              have e9 : stmtR len B s = draftR len B s := by rw [stmtR, if_neg (bI_z c9), if_neg (bI_z c26), if_neg (bI_z c43), if_neg (bI_z c60), if_neg (bI_z c77), if_pos (bI_n c94)]
              refine A_zret ok dX4_readStatement_101 (bI_z01 _) (Nat.zero_le _) (Nat.zero_le _) ?_
              exact ⟨b, ⟨rfl, rfl, rfl⟩, by rw [e9], by rw [e9]⟩
          · skip
            refine A_aload_n ok.b rfl dX4_readStatement_80 gp0 ?_
            refine A_sameVR ok (As := []) mf_X4_readFire ml_X4_122 in_X4_readFire se_X4_readFire cf4 gp0 (c_readFire l g r i a b size len B hlen s hI) rfl rfl dX4_readStatement_81 (Nat.le_of_ble_eq_true rfl) ⟨(Nat.le_of_ble_eq_true rfl), (Nat.le_of_ble_eq_true rfl)⟩ ⟨Nat.zero_le _, Nat.zero_le _⟩ (fun _ _ hx => hx.elim) (fun v81 w81 q81 => ?_)
            obtain ⟨rfl, rfl⟩ := q81
            have e9 : stmtR len B s = fireR len B s := by rw [stmtR, if_neg (bI_z c9), if_neg (bI_z c26), if_neg (bI_z c43), if_neg (bI_z c60), if_pos (bI_n c77)]
            refine A_zret ok dX4_readStatement_84 (bI_z01 _) (Nat.zero_le _) (Nat.zero_le _) ?_
            exact ⟨b, ⟨rfl, rfl, rfl⟩, by rw [e9], by rw [e9]⟩
        · skip
          refine A_aload_n ok.b rfl dX4_readStatement_63 gp0 ?_
          refine A_sameVR ok (As := []) mf_X4_readCar ml_X4_117 in_X4_readCar se_X4_readCar cf4 gp0 (c_readCar l g r i a b size len B hlen s hI) rfl rfl dX4_readStatement_64 (Nat.le_of_ble_eq_true rfl) ⟨(Nat.le_of_ble_eq_true rfl), (Nat.le_of_ble_eq_true rfl)⟩ ⟨Nat.zero_le _, Nat.zero_le _⟩ (fun _ _ hx => hx.elim) (fun v64 w64 q64 => ?_)
          obtain ⟨rfl, rfl⟩ := q64
          have e9 : stmtR len B s = carR len B s := by rw [stmtR, if_neg (bI_z c9), if_neg (bI_z c26), if_neg (bI_z c43), if_pos (bI_n c60)]
          refine A_zret ok dX4_readStatement_67 (bI_z01 _) (Nat.zero_le _) (Nat.zero_le _) ?_
          exact ⟨b, ⟨rfl, rfl, rfl⟩, by rw [e9], by rw [e9]⟩
      · skip
        refine A_aload_n ok.b rfl dX4_readStatement_46 gp0 ?_
        refine A_sameVR ok (As := []) mf_X4_readFan ml_X4_112 in_X4_readFan se_X4_readFan cf4 gp0 (c_readFan l g r i a b size len B hlen s hI) rfl rfl dX4_readStatement_47 (Nat.le_of_ble_eq_true rfl) ⟨(Nat.le_of_ble_eq_true rfl), (Nat.le_of_ble_eq_true rfl)⟩ ⟨Nat.zero_le _, Nat.zero_le _⟩ (fun _ _ hx => hx.elim) (fun v47 w47 q47 => ?_)
        obtain ⟨rfl, rfl⟩ := q47
        have e9 : stmtR len B s = fanR len B s := by rw [stmtR, if_neg (bI_z c9), if_neg (bI_z c26), if_pos (bI_n c43)]
        refine A_zret ok dX4_readStatement_50 (bI_z01 _) (Nat.zero_le _) (Nat.zero_le _) ?_
        exact ⟨b, ⟨rfl, rfl, rfl⟩, by rw [e9], by rw [e9]⟩
    · skip
      refine A_aload_n ok.b rfl dX4_readStatement_29 gp0 ?_
      refine A_sameVR ok (As := []) mf_X4_readVent ml_X4_107 in_X4_readVent se_X4_readVent cf4 gp0 (c_readVent l g r i a b size len B hlen s hI) rfl rfl dX4_readStatement_30 (Nat.le_of_ble_eq_true rfl) ⟨(Nat.le_of_ble_eq_true rfl), (Nat.le_of_ble_eq_true rfl)⟩ ⟨Nat.zero_le _, Nat.zero_le _⟩ (fun _ _ hx => hx.elim) (fun v30 w30 q30 => ?_)
      obtain ⟨rfl, rfl⟩ := q30
      have e9 : stmtR len B s = ventR len B s := by rw [stmtR, if_neg (bI_z c9), if_pos (bI_n c26)]
      refine A_zret ok dX4_readStatement_33 (bI_z01 _) (Nat.zero_le _) (Nat.zero_le _) ?_
      exact ⟨b, ⟨rfl, rfl, rfl⟩, by rw [e9], by rw [e9]⟩
  · skip
    refine A_aload_n ok.b rfl dX4_readStatement_12 gp0 ?_
    refine A_sameVR ok (As := []) mf_X4_readBay ml_X4_102 in_X4_readBay se_X4_readBay cf4 gp0 (c_readBay l g r i a b size len B hlen s hI) rfl rfl dX4_readStatement_13 (Nat.le_of_ble_eq_true rfl) ⟨(Nat.le_of_ble_eq_true rfl), (Nat.le_of_ble_eq_true rfl)⟩ ⟨Nat.zero_le _, Nat.zero_le _⟩ (fun _ _ hx => hx.elim) (fun v13 w13 q13 => ?_)
    obtain ⟨rfl, rfl⟩ := q13
    have e9 : stmtR len B s = bayR len B s := by rw [stmtR, if_pos (bI_n c9)]
    refine A_zret ok dX4_readStatement_16 (bI_z01 _) (Nat.zero_le _) (Nat.zero_le _) ?_
    exact ⟨b, ⟨rfl, rfl, rfl⟩, by rw [e9], by rw [e9]⟩
