def facT (len : Nat) (B : Nat → Int32) : RM := fun s => if s.tk.1 = 256 then (if 9999 < s.tk.2.2.1 then (false, failR (-3) s) else (true, advR len B (putC s.tk.2.2.1 s)))
  else if wdR B s 9 = true then (true, advR len B (putC (-1) s)) else if wdR B s 10 = true then (true, advR len B (putC (-2) s)) else if wdR B s 11 = true then (true, advR len B (putC (-3) s)) else (false, failR (-2) s)
def fac0 (len : Nat) (B : Nat → Int32) : RM := fun s => if s.tk.1 = 40 then (false, failR (-5) s) else facT len B s
def facS (len : Nat) (B : Nat → Int32) (f : RM) : RM := fun s => if s.tk.1 = 40 then andM f (sgnR len B 41) (advR len B s) else facT len B s
def loopR (len : Nat) (B : Nat → Int32) (c1 c2 o1 o2 : Int32) (f : RM) : Nat → RM
  | 0 => fun s => (true, s)
  | k + 1 => fun s => if s.tk.1 = c1 ∨ s.tk.1 = c2 then andM f (fun s2 => loopR len B c1 c2 o1 o2 f k (putC (if s.tk.1 = c1 then o1 else o2) s2)) (advR len B s) else (true, s)
theorem loopR_s {len : Nat} {B : Nat → Int32} {c1 c2 o1 o2 : Int32} {f : RM} {k : Nat} {s : RS} : loopR len B c1 c2 o1 o2 f (k + 1) s = if s.tk.1 = c1 ∨ s.tk.1 = c2 then andM f (fun s2 => loopR len B c1 c2 o1 o2 f k (putC (if s.tk.1 = c1 then o1 else o2) s2)) (advR len B s) else (true, s) := rfl
def termR (len : Nat) (B : Nat → Int32) (f : RM) : RM := andM f (loopR len B 42 47 (-6) (-7) f 800)
def sum1R (len : Nat) (B : Nat → Int32) (f : RM) : RM := andM f (loopR len B 43 45 (-4) (-5) f 800)
def sumR (len : Nat) (B : Nat → Int32) : Nat → RM
  | 0 => sum1R len B (termR len B (fac0 len B))
  | r + 1 => sum1R len B (termR len B (facS len B (sumR len B r)))
theorem RK_facT {len : Nat} {B : Nat → Int32} (hlen : len ≤ 800) : RK (facT len B) := by
  intro s h
  unfold facT
  split
  · split
    · exact RI_fail _ h
    · exact RI_adv hlen (RI_put _ h)
  · split
    · exact RI_adv hlen (RI_put _ h)
    · split
      · exact RI_adv hlen (RI_put _ h)
      · split
        · exact RI_adv hlen (RI_put _ h)
        · exact RI_fail _ h
theorem RK_fac0 {len : Nat} {B : Nat → Int32} (hlen : len ≤ 800) : RK (fac0 len B) := by
  intro s h
  unfold fac0
  split
  · exact RI_fail _ h
  · exact RK_facT hlen s h
theorem RK_facS {len : Nat} {B : Nat → Int32} (hlen : len ≤ 800) {f : RM} (hf : RK f) : RK (facS len B f) := by
  intro s h
  unfold facS
  split
  · exact RK_and hf (RK_sgn hlen _) _ (RI_adv hlen h)
  · exact RK_facT hlen s h
theorem RK_loop {len : Nat} {B : Nat → Int32} (hlen : len ≤ 800) {c1 c2 o1 o2 : Int32} {f : RM} (hf : RK f) : ∀ k, RK (loopR len B c1 c2 o1 o2 f k)
  | 0 => fun _ h => h
  | k + 1 => by
    intro s h
    rw [loopR_s]
    split
    · exact RK_and (k := fun s2 => loopR len B c1 c2 o1 o2 f k (putC (if s.tk.1 = c1 then o1 else o2) s2)) hf (fun s2 h2 => RK_loop hlen hf k _ (RI_put _ h2)) _ (RI_adv hlen h)
    · exact h
theorem RK_term {len : Nat} {B : Nat → Int32} (hlen : len ≤ 800) {f : RM} (hf : RK f) : RK (termR len B f) := RK_and hf (RK_loop hlen hf 800)
theorem RK_sum1 {len : Nat} {B : Nat → Int32} (hlen : len ≤ 800) {f : RM} (hf : RK f) : RK (sum1R len B f) := RK_and hf (RK_loop hlen hf 800)
theorem RK_sum {len : Nat} {B : Nat → Int32} (hlen : len ≤ 800) : ∀ r, RK (sumR len B r)
  | 0 => RK_sum1 hlen (RK_term hlen (RK_fac0 hlen))
  | r + 1 => RK_sum1 hlen (RK_term hlen (RK_facS hlen (RK_sum hlen r)))
/-- what a reading method answers and leaves -/
def PQ (g : Gl) (r i a b : Nat → Nat) (size : Int32) (len : Nat) (B : Nat → Int32) (F : Bool × RS) : QT := fun v w => v = some (.int (bI F.1)) ∧ w = rdW g r i a b size len B F.2

set_option maxRecDepth 20000 in
set_option maxHeartbeats 2000000 in
theorem c_readTerm (l : Launch) (g : Gl) (r i a b : Nat → Nat) (size : Int32) (len : Nat) (B : Nat → Int32) (hlen : len ≤ 800) (d0 : Int32) (f : RM) (hf : RK f) (fr lo : Nat) (hct : ∀ s, RI s → Ct l g yX4_readFactor cX4_readFactor 2 (some .boolean) fr lo 0 0 [.ref (r 0), .int d0] (rdW g r i a b size len B s) (PQ g r i a b size len B (f s)) noX) (s : RS) (hI : RI s) : Ct l g yX4_readTerm cX4_readTerm 4 (some .boolean) (fr + 1) (lo + 40) 0 0 [.ref (r 0), .int d0] (rdW g r i a b size len B s) (PQ g r i a b size len B (termR len B f s)) noX := by
  refine Ct.intro [some (.ref (r 0)), some (.int d0), none, none] (by decide +kernel) (fun _ h => h) (Nat.le_of_ble_eq_true rfl) (fun A H0 K ok => ?_)
  have L : ∀ (m k : Nat) (s1 : RS), k + m = 800 → RI s1 → termR len B f s = loopR len B 42 47 (-6) (-7) f m s1 → AW g A H0 4 K 12 [some (.ref (r 0)), some (.int d0), some (.int (nI k)), none] [] (rdW g r i a b size len B s1) 0 0 := by
    intro m
    induction m with
    | zero =>
      intro k s1 hk h1 e
      refine A_iload_n ok.b rfl dX4_readTerm_12 (gps (gps gp0)) ?_
      refine A_sipush ok.b (v := 800) dX4_readTerm_13 (by decide) ?_
      refine A_icmp_ge ok.b (tgt := 91) dX4_readTerm_16 (by decide) (fun c16 => ?_) (fun c16 => (c16 (nI_le (a := 800) (b := k) (by omega) (by omega))).elim)
      refine A_iconst ok.b (v := 1) dX4_readTerm_91 (by decide) ?_
      refine A_zret ok dX4_readTerm_92 (by decide) (Nat.le_of_ble_eq_true rfl) (Nat.le_of_ble_eq_true rfl) ?_
      exact ⟨by rw [e] <;> rfl, by rw [e] <;> rfl⟩
    | succ m ih =>
      intro k s1 hk h1 e
      rw [loopR_s] at e
      refine A_iload_n ok.b rfl dX4_readTerm_12 (gps (gps gp0)) ?_
      refine A_sipush ok.b (v := 800) dX4_readTerm_13 (by decide) ?_
      refine A_icmp_ge ok.b (tgt := 91) dX4_readTerm_16 (by decide) (fun c16 => (nI_ge (a := k) (b := 800) (by omega) (by omega) c16).elim) (fun c16 => ?_)
      refine A_aload_n ok.b rfl dX4_readTerm_19 gp0 ?_
      refine A_getf ok.b cf4 0 (by decide) fl_X4_12 gp0 gp0 dX4_readTerm_20 ?_
      refine A_getf ok.b cf1 1 (by decide) fl_X4_63 (gps gp0) (gps gp0) dX4_readTerm_23 ?_
      refine A_bipush ok.b (v := 42) dX4_readTerm_26 (by decide) ?_
      refine A_icmp_eq ok.b (tgt := 43) dX4_readTerm_28 (by decide) (fun c28 => ?_) (fun c28 => ?_)
      · skip
        rw [if_pos (Or.inl c28)] at e
        refine A_aload_n ok.b rfl dX4_readTerm_43 gp0 ?_
        refine A_getf ok.b cf4 0 (by decide) fl_X4_12 gp0 gp0 dX4_readTerm_44 ?_
        refine A_getf ok.b cf1 1 (by decide) fl_X4_63 (gps gp0) (gps gp0) dX4_readTerm_47 ?_
        refine A_bipush ok.b (v := 42) dX4_readTerm_50 (by decide) ?_
        refine A_icmp_ne ok.b (tgt := 60) dX4_readTerm_52 (by decide) (fun c52 => ?_) (fun c52 => ?_)
        · skip
          exact absurd c28 c52
        · skip
          rw [if_pos c28] at e
          refine A_bipush ok.b (v := (-6)) dX4_readTerm_55 (by decide) ?_
          refine A_goto ok.b (tgt := 62) dX4_readTerm_57 (by decide) ?_
          refine A_istore_n ok.b rfl dX4_readTerm_62 (by decide) (sts (sts (sts1 rfl st0))) ?_
          refine A_aload_n ok.b rfl dX4_readTerm_63 gp0 ?_
          refine A_getf ok.b cf4 0 (by decide) fl_X4_12 gp0 gp0 dX4_readTerm_64 ?_
          refine A_adv ok.b (s1) hlen (h1) dX4_readTerm_67 (Nat.le_of_ble_eq_true rfl) ⟨by show 1 ≤ fr + 1; omega, by show 8 + (1 + 11) + 0 ≤ lo + 40; omega⟩ ⟨(Nat.le_of_ble_eq_true rfl), (Nat.le_of_ble_eq_true rfl)⟩ ?_
          refine A_aload_n ok.b rfl dX4_readTerm_70 gp0 ?_
          refine A_iload_n ok.b rfl dX4_readTerm_71 (gps gp0) ?_
          refine A_sameVR ok (As := [_]) mf_X4_readFactor ml_X4_215 in_X4_readFactor se_X4_readFactor cf4 gp0 (hct (advR len B s1) (RI_adv hlen h1)) rfl rfl dX4_readTerm_72 (Nat.le_of_ble_eq_true rfl) ⟨by show fr + 1 ≤ fr + 1; omega, by show 8 + (2 + 11) + lo ≤ lo + 40; omega⟩ ⟨(Nat.le_of_ble_eq_true rfl), (Nat.le_of_ble_eq_true rfl)⟩ (fun _ _ hx => hx.elim) (fun v72 w72 q72 => ?_)
          obtain ⟨rfl, rfl⟩ := q72
          have hI2 : RI (f (advR len B s1)).2 := hf _ (RI_adv hlen h1)
          generalize hF2 : f (advR len B s1) = F2 at hI2 ⊢
          refine A_if_ne ok.b (tgt := 80) dX4_readTerm_75 (by decide) (fun c75 => ?_) (fun c75 => ?_)
          · skip
            refine A_aload_n ok.b rfl dX4_readTerm_80 gp0 ?_
            refine A_iload_n ok.b rfl dX4_readTerm_81 (gps (gps (gps gp0))) ?_
            refine A_sameVR ok (As := [_]) mf_X4_putCode ml_X4_212 in_X4_putCode se_X4_putCode cf4 gp0 (c_putCode l g r i a b size len B hlen (F2.2) (hI2) _) rfl rfl dX4_readTerm_82 (Nat.le_of_ble_eq_true rfl) ⟨by show 1 ≤ fr + 1; omega, by show 8 + (2 + 11) + 0 ≤ lo + 40; omega⟩ ⟨(Nat.le_of_ble_eq_true rfl), (Nat.le_of_ble_eq_true rfl)⟩ (fun _ _ hx => hx.elim) (fun v82 w82 q82 => ?_)
            obtain ⟨rfl, rfl⟩ := q82
            refine A_iinc ok.b (v := _ + 1) dX4_readTerm_85 (gps (gps gp0)) rfl (by decide) (sts (sts1 rfl st0)) ?_
            refine A_goto ok.b (tgt := 12) dX4_readTerm_88 (by decide) ?_
            rw [andM_t (f := f) (s := advR len B s1) (by rw [hF2]; exact bI_n c75), hF2] at e
            refine A_lv (lleK (lleK (lleK (lleD lle0)))) ?_
            rw [nI_1]
            exact ih (k + 1) _ (by omega) (RI_put _ hI2) e
          · skip
            refine A_iconst ok.b (v := 0) dX4_readTerm_78 (by decide) ?_
            refine A_zret ok dX4_readTerm_79 (by decide) (Nat.le_of_ble_eq_true rfl) (Nat.le_of_ble_eq_true rfl) ?_
            have e9 : termR len B f s = (false, F2.2) := by rw [e, andM_f (f := f) (s := advR len B s1) (by rw [hF2]; exact bI_z c75), hF2]
            exact ⟨by rw [e9] <;> rfl, by rw [e9] <;> rfl⟩
      · skip
        refine A_aload_n ok.b rfl dX4_readTerm_31 gp0 ?_
        refine A_getf ok.b cf4 0 (by decide) fl_X4_12 gp0 gp0 dX4_readTerm_32 ?_
        refine A_getf ok.b cf1 1 (by decide) fl_X4_63 (gps gp0) (gps gp0) dX4_readTerm_35 ?_
        refine A_bipush ok.b (v := 47) dX4_readTerm_38 (by decide) ?_
        refine A_icmp_ne ok.b (tgt := 91) dX4_readTerm_40 (by decide) (fun c40 => ?_) (fun c40 => ?_)
        · skip
          refine A_iconst ok.b (v := 1) dX4_readTerm_91 (by decide) ?_
          refine A_zret ok dX4_readTerm_92 (by decide) (Nat.le_of_ble_eq_true rfl) (Nat.le_of_ble_eq_true rfl) ?_
          rw [if_neg (not_or.mpr ⟨c28, c40⟩)] at e
          exact ⟨by rw [e] <;> rfl, by rw [e] <;> rfl⟩
        · skip
          rw [if_pos (Or.inr c40)] at e
          refine A_aload_n ok.b rfl dX4_readTerm_43 gp0 ?_
          refine A_getf ok.b cf4 0 (by decide) fl_X4_12 gp0 gp0 dX4_readTerm_44 ?_
          refine A_getf ok.b cf1 1 (by decide) fl_X4_63 (gps gp0) (gps gp0) dX4_readTerm_47 ?_
          refine A_bipush ok.b (v := 42) dX4_readTerm_50 (by decide) ?_
          refine A_icmp_ne ok.b (tgt := 60) dX4_readTerm_52 (by decide) (fun c52 => ?_) (fun c52 => ?_)
          · skip
            rw [if_neg c28] at e
            refine A_bipush ok.b (v := (-7)) dX4_readTerm_60 (by decide) ?_
            refine A_istore_n ok.b rfl dX4_readTerm_62 (by decide) (sts (sts (sts1 rfl st0))) ?_
            refine A_aload_n ok.b rfl dX4_readTerm_63 gp0 ?_
            refine A_getf ok.b cf4 0 (by decide) fl_X4_12 gp0 gp0 dX4_readTerm_64 ?_
            refine A_adv ok.b (s1) hlen (h1) dX4_readTerm_67 (Nat.le_of_ble_eq_true rfl) ⟨by show 1 ≤ fr + 1; omega, by show 8 + (1 + 11) + 0 ≤ lo + 40; omega⟩ ⟨(Nat.le_of_ble_eq_true rfl), (Nat.le_of_ble_eq_true rfl)⟩ ?_
            refine A_aload_n ok.b rfl dX4_readTerm_70 gp0 ?_
            refine A_iload_n ok.b rfl dX4_readTerm_71 (gps gp0) ?_
            refine A_sameVR ok (As := [_]) mf_X4_readFactor ml_X4_215 in_X4_readFactor se_X4_readFactor cf4 gp0 (hct (advR len B s1) (RI_adv hlen h1)) rfl rfl dX4_readTerm_72 (Nat.le_of_ble_eq_true rfl) ⟨by show fr + 1 ≤ fr + 1; omega, by show 8 + (2 + 11) + lo ≤ lo + 40; omega⟩ ⟨(Nat.le_of_ble_eq_true rfl), (Nat.le_of_ble_eq_true rfl)⟩ (fun _ _ hx => hx.elim) (fun v72 w72 q72 => ?_)
            obtain ⟨rfl, rfl⟩ := q72
            have hI2 : RI (f (advR len B s1)).2 := hf _ (RI_adv hlen h1)
            generalize hF2 : f (advR len B s1) = F2 at hI2 ⊢
            refine A_if_ne ok.b (tgt := 80) dX4_readTerm_75 (by decide) (fun c75 => ?_) (fun c75 => ?_)
            · skip
              refine A_aload_n ok.b rfl dX4_readTerm_80 gp0 ?_
              refine A_iload_n ok.b rfl dX4_readTerm_81 (gps (gps (gps gp0))) ?_
              refine A_sameVR ok (As := [_]) mf_X4_putCode ml_X4_212 in_X4_putCode se_X4_putCode cf4 gp0 (c_putCode l g r i a b size len B hlen (F2.2) (hI2) _) rfl rfl dX4_readTerm_82 (Nat.le_of_ble_eq_true rfl) ⟨by show 1 ≤ fr + 1; omega, by show 8 + (2 + 11) + 0 ≤ lo + 40; omega⟩ ⟨(Nat.le_of_ble_eq_true rfl), (Nat.le_of_ble_eq_true rfl)⟩ (fun _ _ hx => hx.elim) (fun v82 w82 q82 => ?_)
              obtain ⟨rfl, rfl⟩ := q82
              refine A_iinc ok.b (v := _ + 1) dX4_readTerm_85 (gps (gps gp0)) rfl (by decide) (sts (sts1 rfl st0)) ?_
              refine A_goto ok.b (tgt := 12) dX4_readTerm_88 (by decide) ?_
              rw [andM_t (f := f) (s := advR len B s1) (by rw [hF2]; exact bI_n c75), hF2] at e
              refine A_lv (lleK (lleK (lleK (lleD lle0)))) ?_
              rw [nI_1]
              exact ih (k + 1) _ (by omega) (RI_put _ hI2) e
            · skip
              refine A_iconst ok.b (v := 0) dX4_readTerm_78 (by decide) ?_
              refine A_zret ok dX4_readTerm_79 (by decide) (Nat.le_of_ble_eq_true rfl) (Nat.le_of_ble_eq_true rfl) ?_
              have e9 : termR len B f s = (false, F2.2) := by rw [e, andM_f (f := f) (s := advR len B s1) (by rw [hF2]; exact bI_z c75), hF2]
              exact ⟨by rw [e9] <;> rfl, by rw [e9] <;> rfl⟩
          · skip
            exact absurd c52 c28
  refine A_aload_n ok.b rfl dX4_readTerm_0 gp0 ?_
  refine A_iload_n ok.b rfl dX4_readTerm_1 (gps gp0) ?_
  refine A_sameVR ok (As := [_]) mf_X4_readFactor ml_X4_215 in_X4_readFactor se_X4_readFactor cf4 gp0 (hct (s) (hI)) rfl rfl dX4_readTerm_2 (Nat.le_of_ble_eq_true rfl) ⟨by show fr + 1 ≤ fr + 1; omega, by show 8 + (2 + 11) + lo ≤ lo + 40; omega⟩ ⟨(Nat.le_of_ble_eq_true rfl), (Nat.le_of_ble_eq_true rfl)⟩ (fun _ _ hx => hx.elim) (fun v2 w2 q2 => ?_)
  obtain ⟨rfl, rfl⟩ := q2
  have hI1 : RI (f (s)).2 := hf _ (hI)
  generalize hF1 : f (s) = F1 at hI1 ⊢
  refine A_if_ne ok.b (tgt := 10) dX4_readTerm_5 (by decide) (fun c5 => ?_) (fun c5 => ?_)
  · skip
    refine A_iconst ok.b (v := 0) dX4_readTerm_10 (by decide) ?_
    refine A_istore_n ok.b rfl dX4_readTerm_11 (by decide) (sts (sts1 rfl st0)) ?_
    exact L 800 0 F1.2 rfl hI1 (by rw [termR, andM_t (f := f) (s := s) (by rw [hF1]; exact bI_n c5), hF1])
  · skip
    refine A_iconst ok.b (v := 0) dX4_readTerm_8 (by decide) ?_
    refine A_zret ok dX4_readTerm_9 (by decide) (Nat.le_of_ble_eq_true rfl) (Nat.le_of_ble_eq_true rfl) ?_
    have e9 : termR len B f s = (false, F1.2) := by rw [termR, andM_f (f := f) (s := s) (by rw [hF1]; exact bI_z c5), hF1]
    exact ⟨by rw [e9] <;> rfl, by rw [e9] <;> rfl⟩
set_option maxRecDepth 20000 in
set_option maxHeartbeats 2000000 in
theorem c_readSum (l : Launch) (g : Gl) (r i a b : Nat → Nat) (size : Int32) (len : Nat) (B : Nat → Int32) (hlen : len ≤ 800) (d0 : Int32) (f : RM) (hf : RK f) (fr lo : Nat) (hct : ∀ s, RI s → Ct l g yX4_readTerm cX4_readTerm 4 (some .boolean) fr lo 0 0 [.ref (r 0), .int d0] (rdW g r i a b size len B s) (PQ g r i a b size len B (f s)) noX) (s : RS) (hI : RI s) : Ct l g yX4_readSum cX4_readSum 4 (some .boolean) (fr + 1) (lo + 40) 0 0 [.ref (r 0), .int d0] (rdW g r i a b size len B s) (PQ g r i a b size len B (sum1R len B f s)) noX := by
  refine Ct.intro [some (.ref (r 0)), some (.int d0), none, none] (by decide +kernel) (fun _ h => h) (Nat.le_of_ble_eq_true rfl) (fun A H0 K ok => ?_)
  have L : ∀ (m k : Nat) (s1 : RS), k + m = 800 → RI s1 → sum1R len B f s = loopR len B 43 45 (-4) (-5) f m s1 → AW g A H0 4 K 12 [some (.ref (r 0)), some (.int d0), some (.int (nI k)), none] [] (rdW g r i a b size len B s1) 0 0 := by
    intro m
    induction m with
    | zero =>
      intro k s1 hk h1 e
      refine A_iload_n ok.b rfl dX4_readSum_12 (gps (gps gp0)) ?_
      refine A_sipush ok.b (v := 800) dX4_readSum_13 (by decide) ?_
      refine A_icmp_ge ok.b (tgt := 91) dX4_readSum_16 (by decide) (fun c16 => ?_) (fun c16 => (c16 (nI_le (a := 800) (b := k) (by omega) (by omega))).elim)
      refine A_iconst ok.b (v := 1) dX4_readSum_91 (by decide) ?_
      refine A_zret ok dX4_readSum_92 (by decide) (Nat.le_of_ble_eq_true rfl) (Nat.le_of_ble_eq_true rfl) ?_
      exact ⟨by rw [e] <;> rfl, by rw [e] <;> rfl⟩
    | succ m ih =>
      intro k s1 hk h1 e
      rw [loopR_s] at e
      refine A_iload_n ok.b rfl dX4_readSum_12 (gps (gps gp0)) ?_
      refine A_sipush ok.b (v := 800) dX4_readSum_13 (by decide) ?_
      refine A_icmp_ge ok.b (tgt := 91) dX4_readSum_16 (by decide) (fun c16 => (nI_ge (a := k) (b := 800) (by omega) (by omega) c16).elim) (fun c16 => ?_)
      refine A_aload_n ok.b rfl dX4_readSum_19 gp0 ?_
      refine A_getf ok.b cf4 0 (by decide) fl_X4_12 gp0 gp0 dX4_readSum_20 ?_
      refine A_getf ok.b cf1 1 (by decide) fl_X4_63 (gps gp0) (gps gp0) dX4_readSum_23 ?_
      refine A_bipush ok.b (v := 43) dX4_readSum_26 (by decide) ?_
      refine A_icmp_eq ok.b (tgt := 43) dX4_readSum_28 (by decide) (fun c28 => ?_) (fun c28 => ?_)
      · skip
        rw [if_pos (Or.inl c28)] at e
        refine A_aload_n ok.b rfl dX4_readSum_43 gp0 ?_
        refine A_getf ok.b cf4 0 (by decide) fl_X4_12 gp0 gp0 dX4_readSum_44 ?_
        refine A_getf ok.b cf1 1 (by decide) fl_X4_63 (gps gp0) (gps gp0) dX4_readSum_47 ?_
        refine A_bipush ok.b (v := 43) dX4_readSum_50 (by decide) ?_
        refine A_icmp_ne ok.b (tgt := 60) dX4_readSum_52 (by decide) (fun c52 => ?_) (fun c52 => ?_)
        · skip
          exact absurd c28 c52
        · skip
          rw [if_pos c28] at e
          refine A_bipush ok.b (v := (-4)) dX4_readSum_55 (by decide) ?_
          refine A_goto ok.b (tgt := 62) dX4_readSum_57 (by decide) ?_
          refine A_istore_n ok.b rfl dX4_readSum_62 (by decide) (sts (sts (sts1 rfl st0))) ?_
          refine A_aload_n ok.b rfl dX4_readSum_63 gp0 ?_
          refine A_getf ok.b cf4 0 (by decide) fl_X4_12 gp0 gp0 dX4_readSum_64 ?_
          refine A_adv ok.b (s1) hlen (h1) dX4_readSum_67 (Nat.le_of_ble_eq_true rfl) ⟨by show 1 ≤ fr + 1; omega, by show 8 + (1 + 11) + 0 ≤ lo + 40; omega⟩ ⟨(Nat.le_of_ble_eq_true rfl), (Nat.le_of_ble_eq_true rfl)⟩ ?_
          refine A_aload_n ok.b rfl dX4_readSum_70 gp0 ?_
          refine A_iload_n ok.b rfl dX4_readSum_71 (gps gp0) ?_
          refine A_sameVR ok (As := [_]) mf_X4_readTerm ml_X4_209 in_X4_readTerm se_X4_readTerm cf4 gp0 (hct (advR len B s1) (RI_adv hlen h1)) rfl rfl dX4_readSum_72 (Nat.le_of_ble_eq_true rfl) ⟨by show fr + 1 ≤ fr + 1; omega, by show 8 + (4 + 11) + lo ≤ lo + 40; omega⟩ ⟨(Nat.le_of_ble_eq_true rfl), (Nat.le_of_ble_eq_true rfl)⟩ (fun _ _ hx => hx.elim) (fun v72 w72 q72 => ?_)
          obtain ⟨rfl, rfl⟩ := q72
          have hI2 : RI (f (advR len B s1)).2 := hf _ (RI_adv hlen h1)
          generalize hF2 : f (advR len B s1) = F2 at hI2 ⊢
          refine A_if_ne ok.b (tgt := 80) dX4_readSum_75 (by decide) (fun c75 => ?_) (fun c75 => ?_)
          · skip
            refine A_aload_n ok.b rfl dX4_readSum_80 gp0 ?_
            refine A_iload_n ok.b rfl dX4_readSum_81 (gps (gps (gps gp0))) ?_
            refine A_sameVR ok (As := [_]) mf_X4_putCode ml_X4_212 in_X4_putCode se_X4_putCode cf4 gp0 (c_putCode l g r i a b size len B hlen (F2.2) (hI2) _) rfl rfl dX4_readSum_82 (Nat.le_of_ble_eq_true rfl) ⟨by show 1 ≤ fr + 1; omega, by show 8 + (2 + 11) + 0 ≤ lo + 40; omega⟩ ⟨(Nat.le_of_ble_eq_true rfl), (Nat.le_of_ble_eq_true rfl)⟩ (fun _ _ hx => hx.elim) (fun v82 w82 q82 => ?_)
            obtain ⟨rfl, rfl⟩ := q82
            refine A_iinc ok.b (v := _ + 1) dX4_readSum_85 (gps (gps gp0)) rfl (by decide) (sts (sts1 rfl st0)) ?_
            refine A_goto ok.b (tgt := 12) dX4_readSum_88 (by decide) ?_
            rw [andM_t (f := f) (s := advR len B s1) (by rw [hF2]; exact bI_n c75), hF2] at e
            refine A_lv (lleK (lleK (lleK (lleD lle0)))) ?_
            rw [nI_1]
            exact ih (k + 1) _ (by omega) (RI_put _ hI2) e
          · skip
            refine A_iconst ok.b (v := 0) dX4_readSum_78 (by decide) ?_
            refine A_zret ok dX4_readSum_79 (by decide) (Nat.le_of_ble_eq_true rfl) (Nat.le_of_ble_eq_true rfl) ?_
            have e9 : sum1R len B f s = (false, F2.2) := by rw [e, andM_f (f := f) (s := advR len B s1) (by rw [hF2]; exact bI_z c75), hF2]
            exact ⟨by rw [e9] <;> rfl, by rw [e9] <;> rfl⟩
      · skip
        refine A_aload_n ok.b rfl dX4_readSum_31 gp0 ?_
        refine A_getf ok.b cf4 0 (by decide) fl_X4_12 gp0 gp0 dX4_readSum_32 ?_
        refine A_getf ok.b cf1 1 (by decide) fl_X4_63 (gps gp0) (gps gp0) dX4_readSum_35 ?_
        refine A_bipush ok.b (v := 45) dX4_readSum_38 (by decide) ?_
        refine A_icmp_ne ok.b (tgt := 91) dX4_readSum_40 (by decide) (fun c40 => ?_) (fun c40 => ?_)
        · skip
          refine A_iconst ok.b (v := 1) dX4_readSum_91 (by decide) ?_
          refine A_zret ok dX4_readSum_92 (by decide) (Nat.le_of_ble_eq_true rfl) (Nat.le_of_ble_eq_true rfl) ?_
          rw [if_neg (not_or.mpr ⟨c28, c40⟩)] at e
          exact ⟨by rw [e] <;> rfl, by rw [e] <;> rfl⟩
        · skip
          rw [if_pos (Or.inr c40)] at e
          refine A_aload_n ok.b rfl dX4_readSum_43 gp0 ?_
          refine A_getf ok.b cf4 0 (by decide) fl_X4_12 gp0 gp0 dX4_readSum_44 ?_
          refine A_getf ok.b cf1 1 (by decide) fl_X4_63 (gps gp0) (gps gp0) dX4_readSum_47 ?_
          refine A_bipush ok.b (v := 43) dX4_readSum_50 (by decide) ?_
          refine A_icmp_ne ok.b (tgt := 60) dX4_readSum_52 (by decide) (fun c52 => ?_) (fun c52 => ?_)
          · skip
            rw [if_neg c28] at e
            refine A_bipush ok.b (v := (-5)) dX4_readSum_60 (by decide) ?_
            refine A_istore_n ok.b rfl dX4_readSum_62 (by decide) (sts (sts (sts1 rfl st0))) ?_
            refine A_aload_n ok.b rfl dX4_readSum_63 gp0 ?_
            refine A_getf ok.b cf4 0 (by decide) fl_X4_12 gp0 gp0 dX4_readSum_64 ?_
            refine A_adv ok.b (s1) hlen (h1) dX4_readSum_67 (Nat.le_of_ble_eq_true rfl) ⟨by show 1 ≤ fr + 1; omega, by show 8 + (1 + 11) + 0 ≤ lo + 40; omega⟩ ⟨(Nat.le_of_ble_eq_true rfl), (Nat.le_of_ble_eq_true rfl)⟩ ?_
            refine A_aload_n ok.b rfl dX4_readSum_70 gp0 ?_
            refine A_iload_n ok.b rfl dX4_readSum_71 (gps gp0) ?_
            refine A_sameVR ok (As := [_]) mf_X4_readTerm ml_X4_209 in_X4_readTerm se_X4_readTerm cf4 gp0 (hct (advR len B s1) (RI_adv hlen h1)) rfl rfl dX4_readSum_72 (Nat.le_of_ble_eq_true rfl) ⟨by show fr + 1 ≤ fr + 1; omega, by show 8 + (4 + 11) + lo ≤ lo + 40; omega⟩ ⟨(Nat.le_of_ble_eq_true rfl), (Nat.le_of_ble_eq_true rfl)⟩ (fun _ _ hx => hx.elim) (fun v72 w72 q72 => ?_)
            obtain ⟨rfl, rfl⟩ := q72
            have hI2 : RI (f (advR len B s1)).2 := hf _ (RI_adv hlen h1)
            generalize hF2 : f (advR len B s1) = F2 at hI2 ⊢
            refine A_if_ne ok.b (tgt := 80) dX4_readSum_75 (by decide) (fun c75 => ?_) (fun c75 => ?_)
            · skip
              refine A_aload_n ok.b rfl dX4_readSum_80 gp0 ?_
              refine A_iload_n ok.b rfl dX4_readSum_81 (gps (gps (gps gp0))) ?_
              refine A_sameVR ok (As := [_]) mf_X4_putCode ml_X4_212 in_X4_putCode se_X4_putCode cf4 gp0 (c_putCode l g r i a b size len B hlen (F2.2) (hI2) _) rfl rfl dX4_readSum_82 (Nat.le_of_ble_eq_true rfl) ⟨by show 1 ≤ fr + 1; omega, by show 8 + (2 + 11) + 0 ≤ lo + 40; omega⟩ ⟨(Nat.le_of_ble_eq_true rfl), (Nat.le_of_ble_eq_true rfl)⟩ (fun _ _ hx => hx.elim) (fun v82 w82 q82 => ?_)
              obtain ⟨rfl, rfl⟩ := q82
              refine A_iinc ok.b (v := _ + 1) dX4_readSum_85 (gps (gps gp0)) rfl (by decide) (sts (sts1 rfl st0)) ?_
              refine A_goto ok.b (tgt := 12) dX4_readSum_88 (by decide) ?_
              rw [andM_t (f := f) (s := advR len B s1) (by rw [hF2]; exact bI_n c75), hF2] at e
              refine A_lv (lleK (lleK (lleK (lleD lle0)))) ?_
              rw [nI_1]
              exact ih (k + 1) _ (by omega) (RI_put _ hI2) e
            · skip
              refine A_iconst ok.b (v := 0) dX4_readSum_78 (by decide) ?_
              refine A_zret ok dX4_readSum_79 (by decide) (Nat.le_of_ble_eq_true rfl) (Nat.le_of_ble_eq_true rfl) ?_
              have e9 : sum1R len B f s = (false, F2.2) := by rw [e, andM_f (f := f) (s := advR len B s1) (by rw [hF2]; exact bI_z c75), hF2]
              exact ⟨by rw [e9] <;> rfl, by rw [e9] <;> rfl⟩
          · skip
            exact absurd c52 c28
  refine A_aload_n ok.b rfl dX4_readSum_0 gp0 ?_
  refine A_iload_n ok.b rfl dX4_readSum_1 (gps gp0) ?_
  refine A_sameVR ok (As := [_]) mf_X4_readTerm ml_X4_209 in_X4_readTerm se_X4_readTerm cf4 gp0 (hct (s) (hI)) rfl rfl dX4_readSum_2 (Nat.le_of_ble_eq_true rfl) ⟨by show fr + 1 ≤ fr + 1; omega, by show 8 + (4 + 11) + lo ≤ lo + 40; omega⟩ ⟨(Nat.le_of_ble_eq_true rfl), (Nat.le_of_ble_eq_true rfl)⟩ (fun _ _ hx => hx.elim) (fun v2 w2 q2 => ?_)
  obtain ⟨rfl, rfl⟩ := q2
  have hI1 : RI (f (s)).2 := hf _ (hI)
  generalize hF1 : f (s) = F1 at hI1 ⊢
  refine A_if_ne ok.b (tgt := 10) dX4_readSum_5 (by decide) (fun c5 => ?_) (fun c5 => ?_)
  · skip
    refine A_iconst ok.b (v := 0) dX4_readSum_10 (by decide) ?_
    refine A_istore_n ok.b rfl dX4_readSum_11 (by decide) (sts (sts1 rfl st0)) ?_
    exact L 800 0 F1.2 rfl hI1 (by rw [sum1R, andM_t (f := f) (s := s) (by rw [hF1]; exact bI_n c5), hF1])
  · skip
    refine A_iconst ok.b (v := 0) dX4_readSum_8 (by decide) ?_
    refine A_zret ok dX4_readSum_9 (by decide) (Nat.le_of_ble_eq_true rfl) (Nat.le_of_ble_eq_true rfl) ?_
    have e9 : sum1R len B f s = (false, F1.2) := by rw [sum1R, andM_f (f := f) (s := s) (by rw [hF1]; exact bI_z c5), hF1]
    exact ⟨by rw [e9] <;> rfl, by rw [e9] <;> rfl⟩
set_option maxRecDepth 20000 in
set_option maxHeartbeats 2000000 in
theorem c_factor0 (l : Launch) (g : Gl) (r i a b : Nat → Nat) (size : Int32) (len : Nat) (B : Nat → Int32) (hlen : len ≤ 800) (fr lo : Nat) (hfr : 4 ≤ fr) (hlo : 160 ≤ lo) (s : RS) (hI : RI s) : Ct l g yX4_readFactor cX4_readFactor 2 (some .boolean) (fr + 1) (lo + 40) 0 0 [.ref (r 0), .int 4] (rdW g r i a b size len B s) (PQ g r i a b size len B (fac0 len B s)) noX := by
  refine Ct.intro [some (.ref (r 0)), some (.int 4)] (by decide +kernel) (fun _ h => h) (Nat.le_of_ble_eq_true rfl) (fun A H0 K ok => ?_)
  refine A_aload_n ok.b rfl dX4_readFactor_0 gp0 ?_
  refine A_getf ok.b cf4 0 (by decide) fl_X4_12 gp0 gp0 dX4_readFactor_1 ?_
  refine A_getf ok.b cf1 1 (by decide) fl_X4_63 (gps gp0) (gps gp0) dX4_readFactor_4 ?_
  refine A_bipush ok.b (v := 40) dX4_readFactor_7 (by decide) ?_
  refine A_icmp_ne ok.b (tgt := 63) dX4_readFactor_9 (by decide) (fun c9 => ?_) (fun c9 => ?_)
  · skip
    refine A_aload_n ok.b rfl dX4_readFactor_63 gp0 ?_
    refine A_getf ok.b cf4 0 (by decide) fl_X4_12 gp0 gp0 dX4_readFactor_64 ?_
    refine A_getf ok.b cf1 1 (by decide) fl_X4_63 (gps gp0) (gps gp0) dX4_readFactor_67 ?_
    refine A_sipush ok.b (v := 256) dX4_readFactor_70 (by decide) ?_
    refine A_icmp_ne ok.b (tgt := 117) dX4_readFactor_73 (by decide) (fun c73 => ?_) (fun c73 => ?_)
    · skip
      refine A_aload_n ok.b rfl dX4_readFactor_117 gp0 ?_
      refine A_getf ok.b cf4 0 (by decide) fl_X4_12 gp0 gp0 dX4_readFactor_118 ?_
      refine A_ldcS ok.b (List.mem_of_getElem? (l := sTab) (i := 9) rfl) dX4_readFactor_121 ?_
      refine A_word ok.b (s) (by decide) (hI) dX4_readFactor_123 (Nat.le_of_ble_eq_true rfl) ⟨by show 5 ≤ fr + 1; omega, by show 8 + (3 + 11) + 160 ≤ lo + 40; omega⟩ ⟨(Nat.le_of_ble_eq_true rfl), (Nat.le_of_ble_eq_true rfl)⟩ ?_
      refine A_if_eq ok.b (tgt := 137) dX4_readFactor_126 (by decide) (fun c126 => ?_) (fun c126 => ?_)
      · skip
        refine A_aload_n ok.b rfl dX4_readFactor_137 gp0 ?_
        refine A_getf ok.b cf4 0 (by decide) fl_X4_12 gp0 gp0 dX4_readFactor_138 ?_
        refine A_ldcS ok.b (List.mem_of_getElem? (l := sTab) (i := 10) rfl) dX4_readFactor_141 ?_
        refine A_word ok.b (s) (by decide) (hI) dX4_readFactor_143 (Nat.le_of_ble_eq_true rfl) ⟨by show 5 ≤ fr + 1; omega, by show 8 + (3 + 11) + 160 ≤ lo + 40; omega⟩ ⟨(Nat.le_of_ble_eq_true rfl), (Nat.le_of_ble_eq_true rfl)⟩ ?_
        refine A_if_eq ok.b (tgt := 158) dX4_readFactor_146 (by decide) (fun c146 => ?_) (fun c146 => ?_)
        · skip
          refine A_aload_n ok.b rfl dX4_readFactor_158 gp0 ?_
          refine A_getf ok.b cf4 0 (by decide) fl_X4_12 gp0 gp0 dX4_readFactor_159 ?_
          refine A_ldcS ok.b (List.mem_of_getElem? (l := sTab) (i := 11) rfl) dX4_readFactor_162 ?_
          refine A_word ok.b (s) (by decide) (hI) dX4_readFactor_164 (Nat.le_of_ble_eq_true rfl) ⟨by show 5 ≤ fr + 1; omega, by show 8 + (3 + 11) + 160 ≤ lo + 40; omega⟩ ⟨(Nat.le_of_ble_eq_true rfl), (Nat.le_of_ble_eq_true rfl)⟩ ?_
          refine A_if_eq ok.b (tgt := 179) dX4_readFactor_167 (by decide) (fun c167 => ?_) (fun c167 => ?_)
          · skip
            refine A_aload_n ok.b rfl dX4_readFactor_179 gp0 ?_
            refine A_bipush ok.b (v := (-2)) dX4_readFactor_180 (by decide) ?_
            refine A_aload_n ok.b rfl dX4_readFactor_182 gp0 ?_
            refine A_getf ok.b cf4 0 (by decide) fl_X4_12 gp0 gp0 dX4_readFactor_183 ?_
            refine A_getf ok.b cf1 2 (by decide) fl_X4_74 (gps gp0) (gps (gps gp0)) dX4_readFactor_186 ?_
            refine A_sameVR ok (As := [_, _]) mf_X4_fail ml_X4_77 in_X4_fail se_X4_fail cf4 gp0 (c_fail l g r i a b size len B hlen (s) (hI) _ _) rfl rfl dX4_readFactor_189 (Nat.le_of_ble_eq_true rfl) ⟨by show 1 ≤ fr + 1; omega, by show 8 + (3 + 11) + 0 ≤ lo + 40; omega⟩ ⟨(Nat.le_of_ble_eq_true rfl), (Nat.le_of_ble_eq_true rfl)⟩ (fun _ _ hx => hx.elim) (fun v189 w189 q189 => ?_)
            obtain ⟨rfl, rfl⟩ := q189
            refine A_zret ok dX4_readFactor_192 (by decide) (Nat.le_of_ble_eq_true rfl) (Nat.le_of_ble_eq_true rfl) ?_
            have e9 : fac0 len B s = (false, failR (-2) s) := by rw [fac0, if_neg c9, facT, if_neg c73, if_neg (bI_z c126), if_neg (bI_z c146), if_neg (bI_z c167)]
            exact ⟨by rw [e9] <;> rfl, by rw [e9] <;> rfl⟩
          · skip
            refine A_aload_n ok.b rfl dX4_readFactor_170 gp0 ?_
            refine A_bipush ok.b (v := (-3)) dX4_readFactor_171 (by decide) ?_
            refine A_sameVR ok (As := [_]) mf_X4_putCode ml_X4_212 in_X4_putCode se_X4_putCode cf4 gp0 (c_putCode l g r i a b size len B hlen (s) (hI) _) rfl rfl dX4_readFactor_173 (Nat.le_of_ble_eq_true rfl) ⟨by show 1 ≤ fr + 1; omega, by show 8 + (2 + 11) + 0 ≤ lo + 40; omega⟩ ⟨(Nat.le_of_ble_eq_true rfl), (Nat.le_of_ble_eq_true rfl)⟩ (fun _ _ hx => hx.elim) (fun v173 w173 q173 => ?_)
            obtain ⟨rfl, rfl⟩ := q173
            refine A_goto ok.b (tgt := 193) dX4_readFactor_176 (by decide) ?_
            refine A_aload_n ok.b rfl dX4_readFactor_193 gp0 ?_
            refine A_getf ok.b cf4 0 (by decide) fl_X4_12 gp0 gp0 dX4_readFactor_194 ?_
            refine A_adv ok.b (putC (-3) s) hlen (RI_put _ hI) dX4_readFactor_197 (Nat.le_of_ble_eq_true rfl) ⟨by show 1 ≤ fr + 1; omega, by show 8 + (1 + 11) + 0 ≤ lo + 40; omega⟩ ⟨(Nat.le_of_ble_eq_true rfl), (Nat.le_of_ble_eq_true rfl)⟩ ?_
            refine A_iconst ok.b (v := 1) dX4_readFactor_200 (by decide) ?_
            refine A_zret ok dX4_readFactor_201 (by decide) (Nat.le_of_ble_eq_true rfl) (Nat.le_of_ble_eq_true rfl) ?_
            have e9 : fac0 len B s = (true, advR len B (putC (-3) s)) := by rw [fac0, if_neg c9, facT, if_neg c73, if_neg (bI_z c126), if_neg (bI_z c146), if_pos (bI_n c167)]
            exact ⟨by rw [e9] <;> rfl, by rw [e9] <;> rfl⟩
        · skip
          refine A_aload_n ok.b rfl dX4_readFactor_149 gp0 ?_
          refine A_bipush ok.b (v := (-2)) dX4_readFactor_150 (by decide) ?_
          refine A_sameVR ok (As := [_]) mf_X4_putCode ml_X4_212 in_X4_putCode se_X4_putCode cf4 gp0 (c_putCode l g r i a b size len B hlen (s) (hI) _) rfl rfl dX4_readFactor_152 (Nat.le_of_ble_eq_true rfl) ⟨by show 1 ≤ fr + 1; omega, by show 8 + (2 + 11) + 0 ≤ lo + 40; omega⟩ ⟨(Nat.le_of_ble_eq_true rfl), (Nat.le_of_ble_eq_true rfl)⟩ (fun _ _ hx => hx.elim) (fun v152 w152 q152 => ?_)
          obtain ⟨rfl, rfl⟩ := q152
          refine A_goto ok.b (tgt := 193) dX4_readFactor_155 (by decide) ?_
          refine A_aload_n ok.b rfl dX4_readFactor_193 gp0 ?_
          refine A_getf ok.b cf4 0 (by decide) fl_X4_12 gp0 gp0 dX4_readFactor_194 ?_
          refine A_adv ok.b (putC (-2) s) hlen (RI_put _ hI) dX4_readFactor_197 (Nat.le_of_ble_eq_true rfl) ⟨by show 1 ≤ fr + 1; omega, by show 8 + (1 + 11) + 0 ≤ lo + 40; omega⟩ ⟨(Nat.le_of_ble_eq_true rfl), (Nat.le_of_ble_eq_true rfl)⟩ ?_
          refine A_iconst ok.b (v := 1) dX4_readFactor_200 (by decide) ?_
          refine A_zret ok dX4_readFactor_201 (by decide) (Nat.le_of_ble_eq_true rfl) (Nat.le_of_ble_eq_true rfl) ?_
          have e9 : fac0 len B s = (true, advR len B (putC (-2) s)) := by rw [fac0, if_neg c9, facT, if_neg c73, if_neg (bI_z c126), if_pos (bI_n c146)]
          exact ⟨by rw [e9] <;> rfl, by rw [e9] <;> rfl⟩
      · skip
        refine A_aload_n ok.b rfl dX4_readFactor_129 gp0 ?_
        refine A_iconst ok.b (v := (-1)) dX4_readFactor_130 (by decide) ?_
        refine A_sameVR ok (As := [_]) mf_X4_putCode ml_X4_212 in_X4_putCode se_X4_putCode cf4 gp0 (c_putCode l g r i a b size len B hlen (s) (hI) _) rfl rfl dX4_readFactor_131 (Nat.le_of_ble_eq_true rfl) ⟨by show 1 ≤ fr + 1; omega, by show 8 + (2 + 11) + 0 ≤ lo + 40; omega⟩ ⟨(Nat.le_of_ble_eq_true rfl), (Nat.le_of_ble_eq_true rfl)⟩ (fun _ _ hx => hx.elim) (fun v131 w131 q131 => ?_)
        obtain ⟨rfl, rfl⟩ := q131
        refine A_goto ok.b (tgt := 193) dX4_readFactor_134 (by decide) ?_
        refine A_aload_n ok.b rfl dX4_readFactor_193 gp0 ?_
        refine A_getf ok.b cf4 0 (by decide) fl_X4_12 gp0 gp0 dX4_readFactor_194 ?_
        refine A_adv ok.b (putC (-1) s) hlen (RI_put _ hI) dX4_readFactor_197 (Nat.le_of_ble_eq_true rfl) ⟨by show 1 ≤ fr + 1; omega, by show 8 + (1 + 11) + 0 ≤ lo + 40; omega⟩ ⟨(Nat.le_of_ble_eq_true rfl), (Nat.le_of_ble_eq_true rfl)⟩ ?_
        refine A_iconst ok.b (v := 1) dX4_readFactor_200 (by decide) ?_
        refine A_zret ok dX4_readFactor_201 (by decide) (Nat.le_of_ble_eq_true rfl) (Nat.le_of_ble_eq_true rfl) ?_
        have e9 : fac0 len B s = (true, advR len B (putC (-1) s)) := by rw [fac0, if_neg c9, facT, if_neg c73, if_pos (bI_n c126)]
        exact ⟨by rw [e9] <;> rfl, by rw [e9] <;> rfl⟩
    · skip
      refine A_aload_n ok.b rfl dX4_readFactor_76 gp0 ?_
      refine A_getf ok.b cf4 0 (by decide) fl_X4_12 gp0 gp0 dX4_readFactor_77 ?_
      refine A_getf ok.b cf1 3 (by decide) fl_X4_218 (gps gp0) (gps (gps (gps gp0))) dX4_readFactor_80 ?_
      refine A_sipush ok.b (v := 9999) dX4_readFactor_83 (by decide) ?_
      refine A_icmp_le ok.b (tgt := 103) dX4_readFactor_86 (by decide) (fun c86 => ?_) (fun c86 => ?_)
      · skip
        refine A_aload_n ok.b rfl dX4_readFactor_103 gp0 ?_
        refine A_aload_n ok.b rfl dX4_readFactor_104 gp0 ?_
        refine A_getf ok.b cf4 0 (by decide) fl_X4_12 gp0 gp0 dX4_readFactor_105 ?_
        refine A_getf ok.b cf1 3 (by decide) fl_X4_218 (gps gp0) (gps (gps (gps gp0))) dX4_readFactor_108 ?_
        refine A_sameVR ok (As := [_]) mf_X4_putCode ml_X4_212 in_X4_putCode se_X4_putCode cf4 gp0 (c_putCode l g r i a b size len B hlen (s) (hI) _) rfl rfl dX4_readFactor_111 (Nat.le_of_ble_eq_true rfl) ⟨by show 1 ≤ fr + 1; omega, by show 8 + (2 + 11) + 0 ≤ lo + 40; omega⟩ ⟨(Nat.le_of_ble_eq_true rfl), (Nat.le_of_ble_eq_true rfl)⟩ (fun _ _ hx => hx.elim) (fun v111 w111 q111 => ?_)
        obtain ⟨rfl, rfl⟩ := q111
        refine A_goto ok.b (tgt := 193) dX4_readFactor_114 (by decide) ?_
        refine A_aload_n ok.b rfl dX4_readFactor_193 gp0 ?_
        refine A_getf ok.b cf4 0 (by decide) fl_X4_12 gp0 gp0 dX4_readFactor_194 ?_
        refine A_adv ok.b (putC s.tk.2.2.1 s) hlen (RI_put _ hI) dX4_readFactor_197 (Nat.le_of_ble_eq_true rfl) ⟨by show 1 ≤ fr + 1; omega, by show 8 + (1 + 11) + 0 ≤ lo + 40; omega⟩ ⟨(Nat.le_of_ble_eq_true rfl), (Nat.le_of_ble_eq_true rfl)⟩ ?_
        refine A_iconst ok.b (v := 1) dX4_readFactor_200 (by decide) ?_
        refine A_zret ok dX4_readFactor_201 (by decide) (Nat.le_of_ble_eq_true rfl) (Nat.le_of_ble_eq_true rfl) ?_
        have e9 : fac0 len B s = (true, advR len B (putC s.tk.2.2.1 s)) := by rw [fac0, if_neg c9, facT, if_pos c73, if_neg (fun h => Int32.not_lt.mpr c86 h)]
        exact ⟨by rw [e9] <;> rfl, by rw [e9] <;> rfl⟩
      · skip
        refine A_aload_n ok.b rfl dX4_readFactor_89 gp0 ?_
        refine A_bipush ok.b (v := (-3)) dX4_readFactor_90 (by decide) ?_
        refine A_aload_n ok.b rfl dX4_readFactor_92 gp0 ?_
        refine A_getf ok.b cf4 0 (by decide) fl_X4_12 gp0 gp0 dX4_readFactor_93 ?_
        refine A_getf ok.b cf1 2 (by decide) fl_X4_74 (gps gp0) (gps (gps gp0)) dX4_readFactor_96 ?_
        refine A_sameVR ok (As := [_, _]) mf_X4_fail ml_X4_77 in_X4_fail se_X4_fail cf4 gp0 (c_fail l g r i a b size len B hlen (s) (hI) _ _) rfl rfl dX4_readFactor_99 (Nat.le_of_ble_eq_true rfl) ⟨by show 1 ≤ fr + 1; omega, by show 8 + (3 + 11) + 0 ≤ lo + 40; omega⟩ ⟨(Nat.le_of_ble_eq_true rfl), (Nat.le_of_ble_eq_true rfl)⟩ (fun _ _ hx => hx.elim) (fun v99 w99 q99 => ?_)
        obtain ⟨rfl, rfl⟩ := q99
        refine A_zret ok dX4_readFactor_102 (by decide) (Nat.le_of_ble_eq_true rfl) (Nat.le_of_ble_eq_true rfl) ?_
        have e9 : fac0 len B s = (false, failR (-3) s) := by rw [fac0, if_neg c9, facT, if_pos c73, if_pos (Int32.not_le.mp c86)]
        exact ⟨by rw [e9] <;> rfl, by rw [e9] <;> rfl⟩
  · skip
    refine A_iload_n ok.b rfl dX4_readFactor_12 (gps gp0) ?_
    refine A_iconst ok.b (v := 4) dX4_readFactor_13 (by decide) ?_
    refine A_icmp_lt ok.b (tgt := 31) dX4_readFactor_14 (by decide) (fun c14 => ((show False from absurd c14 (by decide))).elim) (fun c14 => ?_)
    refine A_aload_n ok.b rfl dX4_readFactor_17 gp0 ?_
    refine A_bipush ok.b (v := (-5)) dX4_readFactor_18 (by decide) ?_
    refine A_aload_n ok.b rfl dX4_readFactor_20 gp0 ?_
    refine A_getf ok.b cf4 0 (by decide) fl_X4_12 gp0 gp0 dX4_readFactor_21 ?_
    refine A_getf ok.b cf1 2 (by decide) fl_X4_74 (gps gp0) (gps (gps gp0)) dX4_readFactor_24 ?_
    refine A_sameVR ok (As := [_, _]) mf_X4_fail ml_X4_77 in_X4_fail se_X4_fail cf4 gp0 (c_fail l g r i a b size len B hlen (s) (hI) _ _) rfl rfl dX4_readFactor_27 (Nat.le_of_ble_eq_true rfl) ⟨by show 1 ≤ fr + 1; omega, by show 8 + (3 + 11) + 0 ≤ lo + 40; omega⟩ ⟨(Nat.le_of_ble_eq_true rfl), (Nat.le_of_ble_eq_true rfl)⟩ (fun _ _ hx => hx.elim) (fun v27 w27 q27 => ?_)
    obtain ⟨rfl, rfl⟩ := q27
    refine A_zret ok dX4_readFactor_30 (by decide) (Nat.le_of_ble_eq_true rfl) (Nat.le_of_ble_eq_true rfl) ?_
    have e9 : fac0 len B s = (false, failR (-5) s) := by rw [fac0, if_pos c9]
    exact ⟨by rw [e9] <;> rfl, by rw [e9] <;> rfl⟩
set_option maxRecDepth 20000 in
set_option maxHeartbeats 2000000 in
theorem c_factorS (l : Launch) (g : Gl) (r i a b : Nat → Nat) (size : Int32) (len : Nat) (B : Nat → Int32) (hlen : len ≤ 800) (fr lo : Nat) (hfr : 4 ≤ fr) (hlo : 160 ≤ lo) (d0 : Int32) (hd : d0 < 4) (f : RM) (hf : RK f) (hct : ∀ s, RI s → Ct l g yX4_readSum cX4_readSum 4 (some .boolean) fr lo 0 0 [.ref (r 0), .int (d0 + 1)] (rdW g r i a b size len B s) (PQ g r i a b size len B (f s)) noX) (s : RS) (hI : RI s) : Ct l g yX4_readFactor cX4_readFactor 2 (some .boolean) (fr + 1) (lo + 40) 0 0 [.ref (r 0), .int d0] (rdW g r i a b size len B s) (PQ g r i a b size len B (facS len B f s)) noX := by
  refine Ct.intro [some (.ref (r 0)), some (.int d0)] (by decide +kernel) (fun _ h => h) (Nat.le_of_ble_eq_true rfl) (fun A H0 K ok => ?_)
  refine A_aload_n ok.b rfl dX4_readFactor_0 gp0 ?_
  refine A_getf ok.b cf4 0 (by decide) fl_X4_12 gp0 gp0 dX4_readFactor_1 ?_
  refine A_getf ok.b cf1 1 (by decide) fl_X4_63 (gps gp0) (gps gp0) dX4_readFactor_4 ?_
  refine A_bipush ok.b (v := 40) dX4_readFactor_7 (by decide) ?_
  refine A_icmp_ne ok.b (tgt := 63) dX4_readFactor_9 (by decide) (fun c9 => ?_) (fun c9 => ?_)
  · skip
    refine A_aload_n ok.b rfl dX4_readFactor_63 gp0 ?_
    refine A_getf ok.b cf4 0 (by decide) fl_X4_12 gp0 gp0 dX4_readFactor_64 ?_
    refine A_getf ok.b cf1 1 (by decide) fl_X4_63 (gps gp0) (gps gp0) dX4_readFactor_67 ?_
    refine A_sipush ok.b (v := 256) dX4_readFactor_70 (by decide) ?_
    refine A_icmp_ne ok.b (tgt := 117) dX4_readFactor_73 (by decide) (fun c73 => ?_) (fun c73 => ?_)
    · skip
      refine A_aload_n ok.b rfl dX4_readFactor_117 gp0 ?_
      refine A_getf ok.b cf4 0 (by decide) fl_X4_12 gp0 gp0 dX4_readFactor_118 ?_
      refine A_ldcS ok.b (List.mem_of_getElem? (l := sTab) (i := 9) rfl) dX4_readFactor_121 ?_
      refine A_word ok.b (s) (by decide) (hI) dX4_readFactor_123 (Nat.le_of_ble_eq_true rfl) ⟨by show 5 ≤ fr + 1; omega, by show 8 + (3 + 11) + 160 ≤ lo + 40; omega⟩ ⟨(Nat.le_of_ble_eq_true rfl), (Nat.le_of_ble_eq_true rfl)⟩ ?_
      refine A_if_eq ok.b (tgt := 137) dX4_readFactor_126 (by decide) (fun c126 => ?_) (fun c126 => ?_)
      · skip
        refine A_aload_n ok.b rfl dX4_readFactor_137 gp0 ?_
        refine A_getf ok.b cf4 0 (by decide) fl_X4_12 gp0 gp0 dX4_readFactor_138 ?_
        refine A_ldcS ok.b (List.mem_of_getElem? (l := sTab) (i := 10) rfl) dX4_readFactor_141 ?_
        refine A_word ok.b (s) (by decide) (hI) dX4_readFactor_143 (Nat.le_of_ble_eq_true rfl) ⟨by show 5 ≤ fr + 1; omega, by show 8 + (3 + 11) + 160 ≤ lo + 40; omega⟩ ⟨(Nat.le_of_ble_eq_true rfl), (Nat.le_of_ble_eq_true rfl)⟩ ?_
        refine A_if_eq ok.b (tgt := 158) dX4_readFactor_146 (by decide) (fun c146 => ?_) (fun c146 => ?_)
        · skip
          refine A_aload_n ok.b rfl dX4_readFactor_158 gp0 ?_
          refine A_getf ok.b cf4 0 (by decide) fl_X4_12 gp0 gp0 dX4_readFactor_159 ?_
          refine A_ldcS ok.b (List.mem_of_getElem? (l := sTab) (i := 11) rfl) dX4_readFactor_162 ?_
          refine A_word ok.b (s) (by decide) (hI) dX4_readFactor_164 (Nat.le_of_ble_eq_true rfl) ⟨by show 5 ≤ fr + 1; omega, by show 8 + (3 + 11) + 160 ≤ lo + 40; omega⟩ ⟨(Nat.le_of_ble_eq_true rfl), (Nat.le_of_ble_eq_true rfl)⟩ ?_
          refine A_if_eq ok.b (tgt := 179) dX4_readFactor_167 (by decide) (fun c167 => ?_) (fun c167 => ?_)
          · skip
            refine A_aload_n ok.b rfl dX4_readFactor_179 gp0 ?_
            refine A_bipush ok.b (v := (-2)) dX4_readFactor_180 (by decide) ?_
            refine A_aload_n ok.b rfl dX4_readFactor_182 gp0 ?_
            refine A_getf ok.b cf4 0 (by decide) fl_X4_12 gp0 gp0 dX4_readFactor_183 ?_
            refine A_getf ok.b cf1 2 (by decide) fl_X4_74 (gps gp0) (gps (gps gp0)) dX4_readFactor_186 ?_
            refine A_sameVR ok (As := [_, _]) mf_X4_fail ml_X4_77 in_X4_fail se_X4_fail cf4 gp0 (c_fail l g r i a b size len B hlen (s) (hI) _ _) rfl rfl dX4_readFactor_189 (Nat.le_of_ble_eq_true rfl) ⟨by show 1 ≤ fr + 1; omega, by show 8 + (3 + 11) + 0 ≤ lo + 40; omega⟩ ⟨(Nat.le_of_ble_eq_true rfl), (Nat.le_of_ble_eq_true rfl)⟩ (fun _ _ hx => hx.elim) (fun v189 w189 q189 => ?_)
            obtain ⟨rfl, rfl⟩ := q189
            refine A_zret ok dX4_readFactor_192 (by decide) (Nat.le_of_ble_eq_true rfl) (Nat.le_of_ble_eq_true rfl) ?_
            have e9 : facS len B f s = (false, failR (-2) s) := by rw [facS, if_neg c9, facT, if_neg c73, if_neg (bI_z c126), if_neg (bI_z c146), if_neg (bI_z c167)]
            exact ⟨by rw [e9] <;> rfl, by rw [e9] <;> rfl⟩
          · skip
            refine A_aload_n ok.b rfl dX4_readFactor_170 gp0 ?_
            refine A_bipush ok.b (v := (-3)) dX4_readFactor_171 (by decide) ?_
            refine A_sameVR ok (As := [_]) mf_X4_putCode ml_X4_212 in_X4_putCode se_X4_putCode cf4 gp0 (c_putCode l g r i a b size len B hlen (s) (hI) _) rfl rfl dX4_readFactor_173 (Nat.le_of_ble_eq_true rfl) ⟨by show 1 ≤ fr + 1; omega, by show 8 + (2 + 11) + 0 ≤ lo + 40; omega⟩ ⟨(Nat.le_of_ble_eq_true rfl), (Nat.le_of_ble_eq_true rfl)⟩ (fun _ _ hx => hx.elim) (fun v173 w173 q173 => ?_)
            obtain ⟨rfl, rfl⟩ := q173
            refine A_goto ok.b (tgt := 193) dX4_readFactor_176 (by decide) ?_
            refine A_aload_n ok.b rfl dX4_readFactor_193 gp0 ?_
            refine A_getf ok.b cf4 0 (by decide) fl_X4_12 gp0 gp0 dX4_readFactor_194 ?_
            refine A_adv ok.b (putC (-3) s) hlen (RI_put _ hI) dX4_readFactor_197 (Nat.le_of_ble_eq_true rfl) ⟨by show 1 ≤ fr + 1; omega, by show 8 + (1 + 11) + 0 ≤ lo + 40; omega⟩ ⟨(Nat.le_of_ble_eq_true rfl), (Nat.le_of_ble_eq_true rfl)⟩ ?_
            refine A_iconst ok.b (v := 1) dX4_readFactor_200 (by decide) ?_
            refine A_zret ok dX4_readFactor_201 (by decide) (Nat.le_of_ble_eq_true rfl) (Nat.le_of_ble_eq_true rfl) ?_
            have e9 : facS len B f s = (true, advR len B (putC (-3) s)) := by rw [facS, if_neg c9, facT, if_neg c73, if_neg (bI_z c126), if_neg (bI_z c146), if_pos (bI_n c167)]
            exact ⟨by rw [e9] <;> rfl, by rw [e9] <;> rfl⟩
        · skip
          refine A_aload_n ok.b rfl dX4_readFactor_149 gp0 ?_
          refine A_bipush ok.b (v := (-2)) dX4_readFactor_150 (by decide) ?_
          refine A_sameVR ok (As := [_]) mf_X4_putCode ml_X4_212 in_X4_putCode se_X4_putCode cf4 gp0 (c_putCode l g r i a b size len B hlen (s) (hI) _) rfl rfl dX4_readFactor_152 (Nat.le_of_ble_eq_true rfl) ⟨by show 1 ≤ fr + 1; omega, by show 8 + (2 + 11) + 0 ≤ lo + 40; omega⟩ ⟨(Nat.le_of_ble_eq_true rfl), (Nat.le_of_ble_eq_true rfl)⟩ (fun _ _ hx => hx.elim) (fun v152 w152 q152 => ?_)
          obtain ⟨rfl, rfl⟩ := q152
          refine A_goto ok.b (tgt := 193) dX4_readFactor_155 (by decide) ?_
          refine A_aload_n ok.b rfl dX4_readFactor_193 gp0 ?_
          refine A_getf ok.b cf4 0 (by decide) fl_X4_12 gp0 gp0 dX4_readFactor_194 ?_
          refine A_adv ok.b (putC (-2) s) hlen (RI_put _ hI) dX4_readFactor_197 (Nat.le_of_ble_eq_true rfl) ⟨by show 1 ≤ fr + 1; omega, by show 8 + (1 + 11) + 0 ≤ lo + 40; omega⟩ ⟨(Nat.le_of_ble_eq_true rfl), (Nat.le_of_ble_eq_true rfl)⟩ ?_
          refine A_iconst ok.b (v := 1) dX4_readFactor_200 (by decide) ?_
          refine A_zret ok dX4_readFactor_201 (by decide) (Nat.le_of_ble_eq_true rfl) (Nat.le_of_ble_eq_true rfl) ?_
          have e9 : facS len B f s = (true, advR len B (putC (-2) s)) := by rw [facS, if_neg c9, facT, if_neg c73, if_neg (bI_z c126), if_pos (bI_n c146)]
          exact ⟨by rw [e9] <;> rfl, by rw [e9] <;> rfl⟩
      · skip
        refine A_aload_n ok.b rfl dX4_readFactor_129 gp0 ?_
        refine A_iconst ok.b (v := (-1)) dX4_readFactor_130 (by decide) ?_
        refine A_sameVR ok (As := [_]) mf_X4_putCode ml_X4_212 in_X4_putCode se_X4_putCode cf4 gp0 (c_putCode l g r i a b size len B hlen (s) (hI) _) rfl rfl dX4_readFactor_131 (Nat.le_of_ble_eq_true rfl) ⟨by show 1 ≤ fr + 1; omega, by show 8 + (2 + 11) + 0 ≤ lo + 40; omega⟩ ⟨(Nat.le_of_ble_eq_true rfl), (Nat.le_of_ble_eq_true rfl)⟩ (fun _ _ hx => hx.elim) (fun v131 w131 q131 => ?_)
        obtain ⟨rfl, rfl⟩ := q131
        refine A_goto ok.b (tgt := 193) dX4_readFactor_134 (by decide) ?_
        refine A_aload_n ok.b rfl dX4_readFactor_193 gp0 ?_
        refine A_getf ok.b cf4 0 (by decide) fl_X4_12 gp0 gp0 dX4_readFactor_194 ?_
        refine A_adv ok.b (putC (-1) s) hlen (RI_put _ hI) dX4_readFactor_197 (Nat.le_of_ble_eq_true rfl) ⟨by show 1 ≤ fr + 1; omega, by show 8 + (1 + 11) + 0 ≤ lo + 40; omega⟩ ⟨(Nat.le_of_ble_eq_true rfl), (Nat.le_of_ble_eq_true rfl)⟩ ?_
        refine A_iconst ok.b (v := 1) dX4_readFactor_200 (by decide) ?_
        refine A_zret ok dX4_readFactor_201 (by decide) (Nat.le_of_ble_eq_true rfl) (Nat.le_of_ble_eq_true rfl) ?_
        have e9 : facS len B f s = (true, advR len B (putC (-1) s)) := by rw [facS, if_neg c9, facT, if_neg c73, if_pos (bI_n c126)]
        exact ⟨by rw [e9] <;> rfl, by rw [e9] <;> rfl⟩
    · skip
      refine A_aload_n ok.b rfl dX4_readFactor_76 gp0 ?_
      refine A_getf ok.b cf4 0 (by decide) fl_X4_12 gp0 gp0 dX4_readFactor_77 ?_
      refine A_getf ok.b cf1 3 (by decide) fl_X4_218 (gps gp0) (gps (gps (gps gp0))) dX4_readFactor_80 ?_
      refine A_sipush ok.b (v := 9999) dX4_readFactor_83 (by decide) ?_
      refine A_icmp_le ok.b (tgt := 103) dX4_readFactor_86 (by decide) (fun c86 => ?_) (fun c86 => ?_)
      · skip
        refine A_aload_n ok.b rfl dX4_readFactor_103 gp0 ?_
        refine A_aload_n ok.b rfl dX4_readFactor_104 gp0 ?_
        refine A_getf ok.b cf4 0 (by decide) fl_X4_12 gp0 gp0 dX4_readFactor_105 ?_
        refine A_getf ok.b cf1 3 (by decide) fl_X4_218 (gps gp0) (gps (gps (gps gp0))) dX4_readFactor_108 ?_
        refine A_sameVR ok (As := [_]) mf_X4_putCode ml_X4_212 in_X4_putCode se_X4_putCode cf4 gp0 (c_putCode l g r i a b size len B hlen (s) (hI) _) rfl rfl dX4_readFactor_111 (Nat.le_of_ble_eq_true rfl) ⟨by show 1 ≤ fr + 1; omega, by show 8 + (2 + 11) + 0 ≤ lo + 40; omega⟩ ⟨(Nat.le_of_ble_eq_true rfl), (Nat.le_of_ble_eq_true rfl)⟩ (fun _ _ hx => hx.elim) (fun v111 w111 q111 => ?_)
        obtain ⟨rfl, rfl⟩ := q111
        refine A_goto ok.b (tgt := 193) dX4_readFactor_114 (by decide) ?_
        refine A_aload_n ok.b rfl dX4_readFactor_193 gp0 ?_
        refine A_getf ok.b cf4 0 (by decide) fl_X4_12 gp0 gp0 dX4_readFactor_194 ?_
        refine A_adv ok.b (putC s.tk.2.2.1 s) hlen (RI_put _ hI) dX4_readFactor_197 (Nat.le_of_ble_eq_true rfl) ⟨by show 1 ≤ fr + 1; omega, by show 8 + (1 + 11) + 0 ≤ lo + 40; omega⟩ ⟨(Nat.le_of_ble_eq_true rfl), (Nat.le_of_ble_eq_true rfl)⟩ ?_
        refine A_iconst ok.b (v := 1) dX4_readFactor_200 (by decide) ?_
        refine A_zret ok dX4_readFactor_201 (by decide) (Nat.le_of_ble_eq_true rfl) (Nat.le_of_ble_eq_true rfl) ?_
        have e9 : facS len B f s = (true, advR len B (putC s.tk.2.2.1 s)) := by rw [facS, if_neg c9, facT, if_pos c73, if_neg (fun h => Int32.not_lt.mpr c86 h)]
        exact ⟨by rw [e9] <;> rfl, by rw [e9] <;> rfl⟩
      · skip
        refine A_aload_n ok.b rfl dX4_readFactor_89 gp0 ?_
        refine A_bipush ok.b (v := (-3)) dX4_readFactor_90 (by decide) ?_
        refine A_aload_n ok.b rfl dX4_readFactor_92 gp0 ?_
        refine A_getf ok.b cf4 0 (by decide) fl_X4_12 gp0 gp0 dX4_readFactor_93 ?_
        refine A_getf ok.b cf1 2 (by decide) fl_X4_74 (gps gp0) (gps (gps gp0)) dX4_readFactor_96 ?_
        refine A_sameVR ok (As := [_, _]) mf_X4_fail ml_X4_77 in_X4_fail se_X4_fail cf4 gp0 (c_fail l g r i a b size len B hlen (s) (hI) _ _) rfl rfl dX4_readFactor_99 (Nat.le_of_ble_eq_true rfl) ⟨by show 1 ≤ fr + 1; omega, by show 8 + (3 + 11) + 0 ≤ lo + 40; omega⟩ ⟨(Nat.le_of_ble_eq_true rfl), (Nat.le_of_ble_eq_true rfl)⟩ (fun _ _ hx => hx.elim) (fun v99 w99 q99 => ?_)
        obtain ⟨rfl, rfl⟩ := q99
        refine A_zret ok dX4_readFactor_102 (by decide) (Nat.le_of_ble_eq_true rfl) (Nat.le_of_ble_eq_true rfl) ?_
        have e9 : facS len B f s = (false, failR (-3) s) := by rw [facS, if_neg c9, facT, if_pos c73, if_pos (Int32.not_le.mp c86)]
        exact ⟨by rw [e9] <;> rfl, by rw [e9] <;> rfl⟩
  · skip
    refine A_iload_n ok.b rfl dX4_readFactor_12 (gps gp0) ?_
    refine A_iconst ok.b (v := 4) dX4_readFactor_13 (by decide) ?_
    refine A_icmp_lt ok.b (tgt := 31) dX4_readFactor_14 (by decide) (fun c14 => ?_) (fun c14 => (c14 hd).elim)
    refine A_aload_n ok.b rfl dX4_readFactor_31 gp0 ?_
    refine A_getf ok.b cf4 0 (by decide) fl_X4_12 gp0 gp0 dX4_readFactor_32 ?_
    refine A_adv ok.b (s) hlen (hI) dX4_readFactor_35 (Nat.le_of_ble_eq_true rfl) ⟨by show 1 ≤ fr + 1; omega, by show 8 + (1 + 11) + 0 ≤ lo + 40; omega⟩ ⟨(Nat.le_of_ble_eq_true rfl), (Nat.le_of_ble_eq_true rfl)⟩ ?_
    refine A_aload_n ok.b rfl dX4_readFactor_38 gp0 ?_
    refine A_iload_n ok.b rfl dX4_readFactor_39 (gps gp0) ?_
    refine A_iconst ok.b (v := 1) dX4_readFactor_40 (by decide) ?_
    refine A_iadd ok.b dX4_readFactor_41 ?_
    refine A_sameVR ok (As := [_]) mf_X4_readSum ml_X4_140 in_X4_readSum se_X4_readSum cf4 gp0 (hct (advR len B s) (RI_adv hlen hI)) rfl rfl dX4_readFactor_42 (Nat.le_of_ble_eq_true rfl) ⟨by show fr + 1 ≤ fr + 1; omega, by show 8 + (4 + 11) + lo ≤ lo + 40; omega⟩ ⟨(Nat.le_of_ble_eq_true rfl), (Nat.le_of_ble_eq_true rfl)⟩ (fun _ _ hx => hx.elim) (fun v42 w42 q42 => ?_)
    obtain ⟨rfl, rfl⟩ := q42
    have hI1 : RI (f (advR len B s)).2 := hf _ (RI_adv hlen hI)
    generalize hF1 : f (advR len B s) = F1 at hI1 ⊢
    refine A_if_eq ok.b (tgt := 61) dX4_readFactor_45 (by decide) (fun c45 => ?_) (fun c45 => ?_)
    · skip
      refine A_iconst ok.b (v := 0) dX4_readFactor_61 (by decide) ?_
      refine A_zret ok dX4_readFactor_62 (by decide) (Nat.le_of_ble_eq_true rfl) (Nat.le_of_ble_eq_true rfl) ?_
      have e9 : facS len B f s = (false, F1.2) := by rw [facS, if_pos c9, andM_f (f := f) (s := advR len B s) (by rw [hF1]; exact bI_z c45), hF1]
      exact ⟨by rw [e9] <;> rfl, by rw [e9] <;> rfl⟩
    · skip
      refine A_aload_n ok.b rfl dX4_readFactor_48 gp0 ?_
      refine A_bipush ok.b (v := 41) dX4_readFactor_49 (by decide) ?_
      refine A_sameVR ok (As := [_]) mf_X4_readSign ml_X4_59 in_X4_readSign se_X4_readSign cf4 gp0 (c_readSign l g r i a b size len B hlen F1.2 hI1 41) rfl rfl dX4_readFactor_51 (Nat.le_of_ble_eq_true rfl) ⟨by show 1 + 1 ≤ fr + 1; omega, by show 8 + (2 + 11) + 40 ≤ lo + 40; omega⟩ ⟨(Nat.le_of_ble_eq_true rfl), (Nat.le_of_ble_eq_true rfl)⟩ (fun _ _ hx => hx.elim) (fun v51 w51 q51 => ?_)
      obtain ⟨rfl, rfl⟩ := q51
      generalize hF2 : sgnR len B 41 F1.2 = F2
      refine A_if_eq ok.b (tgt := 61) dX4_readFactor_54 (by decide) (fun c54 => ?_) (fun c54 => ?_)
      · skip
        refine A_iconst ok.b (v := 0) dX4_readFactor_61 (by decide) ?_
        refine A_zret ok dX4_readFactor_62 (by decide) (Nat.le_of_ble_eq_true rfl) (Nat.le_of_ble_eq_true rfl) ?_
        have e9 : facS len B f s = F2 := by rw [facS, if_pos c9, andM_t (f := f) (s := advR len B s) (by rw [hF1]; exact bI_n c45), hF1, hF2]
        exact ⟨by rw [e9, bI_f (bI_z c54)], by rw [e9]⟩
      · skip
        refine A_iconst ok.b (v := 1) dX4_readFactor_57 (by decide) ?_
        refine A_goto ok.b (tgt := 62) dX4_readFactor_58 (by decide) ?_
        refine A_zret ok dX4_readFactor_62 (by decide) (Nat.le_of_ble_eq_true rfl) (Nat.le_of_ble_eq_true rfl) ?_
        have e9 : facS len B f s = F2 := by rw [facS, if_pos c9, andM_t (f := f) (s := advR len B s) (by rw [hF1]; exact bI_n c45), hF1, hF2]
        exact ⟨by rw [e9, bI_t (bI_n c54)], by rw [e9]⟩
theorem c_sumAll (l : Launch) (g : Gl) (r i a b : Nat → Nat) (size : Int32) (len : Nat) (B : Nat → Int32) (hlen : len ≤ 800) : ∀ (n : Nat), n ≤ 4 → ∀ (s : RS), RI s → Ct l g yX4_readSum cX4_readSum 4 (some .boolean) (7 + 3 * n) (280 + 120 * n) 0 0 [.ref (r 0), .int (nI (4 - n))] (rdW g r i a b size len B s) (PQ g r i a b size len B (sumR len B n s)) noX := by
  intro n
  induction n with
  | zero =>
    intro _ s hI
    exact c_readSum l g r i a b size len B hlen 4 (termR len B (fac0 len B)) (RK_term hlen (RK_fac0 hlen)) 6 240 (fun s hs => c_readTerm l g r i a b size len B hlen 4 (fac0 len B) (RK_fac0 hlen) 5 200 (fun s hs => c_factor0 l g r i a b size len B hlen 4 160 (Nat.le_refl _) (Nat.le_refl _) s hs) s hs) s hI
  | succ n ih =>
    intro hn s hI
    have e1 : nI (4 - (n + 1)) + 1 = nI (4 - n) := by rw [nI_1, show 4 - (n + 1) + 1 = 4 - n by omega]
    have hd : nI (4 - (n + 1)) < 4 := nI_lt (a := 4 - (n + 1)) (b := 4) (by omega) (by decide)
    have hS := RK_sum (B := B) hlen n
    exact c_readSum l g r i a b size len B hlen _ (termR len B (facS len B (sumR len B n))) (RK_term hlen (RK_facS hlen hS)) (7 + 3 * n + 2) (280 + 120 * n + 80) (fun s hs => c_readTerm l g r i a b size len B hlen _ (facS len B (sumR len B n)) (RK_facS hlen hS) (7 + 3 * n + 1) (280 + 120 * n + 40) (fun s hs => c_factorS l g r i a b size len B hlen (7 + 3 * n) (280 + 120 * n) (by omega) (by omega) _ hd (sumR len B n) hS (fun s hs => by rw [e1]; exact ih (by omega) s hs) s hs) s hs) s hI
