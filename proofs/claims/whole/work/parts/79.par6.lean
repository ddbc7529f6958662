theorem ps_ext {f g : Nat → Int32} : ∀ n, (∀ j, j < n → f j = g j) → psC f n = psC g n
  | 0, _ => rfl
  | n + 1, h => by rw [psC, psC, ps_ext n (fun j hj => h j (by omega)), h n (by omega)]
theorem ht_ext {f g : Nat → Int32} : ∀ n, (∀ j, j < n → f j = g j) → htC f n = htC g n
  | 0, _ => rfl
  | n + 1, h => by rw [htC, htC, ht_ext n (fun j hj => h j (by omega)), h n (by omega)]
/-- the codes here, the words there -/
def CDq (co : Nat → Int32) (cc : Nat) (D : Nat → Int32) : Prop := D 7 = nI (psC co cc) ∧ 2 * psC co cc = 3 * cc + htC co cc ∧ ∀ j, j < cc → CRd D (psC co j) (co j) ∧ -7 ≤ co j ∧ (co j ≤ -4 → 2 ≤ htC co j) ∧ (¬ co j ≤ -4 → htC co j < 11) ∧ co j ≤ 9999
theorem em_at {D : Nat → Int32} {p : Nat} {v : Int32} (h7 : D 7 = nI p) (hp : p < 2000) : emD v D 7 = nI (p + 1) ∧ emD v D (176 + p) = v ∧ ∀ j, j ≠ 7 → j ≠ 176 + p → emD v D j = D j := by
  have e : (D 7).toNatClampNeg = p := by rw [h7]; exact nI_clamp (by omega)
  unfold emD
  rw [e]
  refine ⟨by rw [u_eq, h7]; exact (nI_suc2 p).symm, by rw [u_ne (by omega), u_eq], fun j h1 h2 => by rw [u_ne h1, u_ne h2]⟩
theorem CRd_ext {d d2 : Nat → Int32} {p : Nat} {x : Int32} (h : CRd d p x) (h1 : d2 (176 + p) = d (176 + p)) (h2 : ¬ x ≤ -4 → d2 (176 + (p + 1)) = d (176 + (p + 1))) : CRd d2 p x := ⟨fun h9 => by rw [h1]; exact h.1 h9, fun h9 => by rw [h1, h2 h9]; exact h.2 h9⟩
theorem CD_op {co D : Nat → Int32} {cc : Nat} (h : CDq co cc D) {x v : Int32} (hx : x ≤ -4) (hx7 : -7 ≤ x) (hv : v = -x - 2) (hh : 2 ≤ htC co cc) (hcc : cc ≤ 800) (hht : htC co cc ≤ 12) : CDq (upd co cc x) (cc + 1) (emD v D) ∧ htC (upd co cc x) (cc + 1) = htC co cc - 1 := by
  obtain ⟨h7, h2, hj⟩ := h
  have hp : psC co cc < 2000 := by omega
  obtain ⟨e1, e2, e3⟩ := em_at (v := v) h7 hp
  have hps : ∀ n, n ≤ cc → psC (upd co cc x) n = psC co n := fun n hn => ps_ext n (fun j hj => u_ne (by omega))
  have hhs : ∀ n, n ≤ cc → htC (upd co cc x) n = htC co n := fun n hn => ht_ext n (fun j hj => u_ne (by omega))
  have p1 : psC (upd co cc x) (cc + 1) = psC co cc + 1 := by rw [psC, hps cc (Nat.le_refl _), u_eq, wdC, if_pos hx]
  have p2 : htC (upd co cc x) (cc + 1) = htC co cc - 1 := by rw [htC, hhs cc (Nat.le_refl _), u_eq, if_pos hx]
  refine ⟨⟨by rw [p1]; exact e1, by rw [p1, p2]; omega, fun j h9 => ?_⟩, p2⟩
  by_cases e : j = cc
  · rw [e, u_eq, hps cc (Nat.le_refl _), hhs cc (Nat.le_refl _)]
    exact ⟨⟨fun _ => by rw [e2]; exact hv, fun h8 => absurd hx h8⟩, hx7, fun _ => hh, fun h8 => absurd hx h8, Int32.le_trans hx (by decide)⟩
  · have q := hj j (by omega)
    have hl := ps_lt (cs := co) (j := j) (nc := cc) (by omega)
    rw [u_ne e, hps j (by omega), hhs j (by omega)]
    refine ⟨CRd_ext q.1 (e3 _ (by omega) ?_) (fun h8 => e3 _ (by omega) ?_), q.2⟩
    · have : 1 ≤ wdC (co j) := by unfold wdC; split <;> omega
      omega
    · have : wdC (co j) = 2 := by unfold wdC; rw [if_neg h8]
      omega
theorem CD_num {co D : Nat → Int32} {cc : Nat} (h : CDq co cc D) {x v1 v2 : Int32} (hx : ¬ x ≤ -4) (hx9 : x ≤ 9999) (hv1 : v1 = if x < 0 then 1 else 0) (hv2 : v2 = if x < 0 then -x - 1 else x) (hh : htC co cc < 11) (hcc : cc ≤ 800) : CDq (upd co cc x) (cc + 1) (emD v2 (emD v1 D)) ∧ htC (upd co cc x) (cc + 1) = htC co cc + 1 := by
  obtain ⟨h7, h2, hj⟩ := h
  have hp : psC co cc < 2000 := by omega
  obtain ⟨e1, e2, e3⟩ := em_at (v := v1) h7 hp
  obtain ⟨g1, g2, g3⟩ := em_at (v := v2) e1 (by omega)
  have hps : ∀ n, n ≤ cc → psC (upd co cc x) n = psC co n := fun n hn => ps_ext n (fun j hj => u_ne (by omega))
  have hhs : ∀ n, n ≤ cc → htC (upd co cc x) n = htC co n := fun n hn => ht_ext n (fun j hj => u_ne (by omega))
  have p1 : psC (upd co cc x) (cc + 1) = psC co cc + 2 := by rw [psC, hps cc (Nat.le_refl _), u_eq, wdC, if_neg hx]
  have p2 : htC (upd co cc x) (cc + 1) = htC co cc + 1 := by rw [htC, hhs cc (Nat.le_refl _), u_eq, if_neg hx]
  have hx7 : -7 ≤ x := by
    have h8 := Int32.not_le.mp hx
    exact Int32.le_of_lt (Int32.lt_of_lt_of_le (show (-7 : Int32) < -4 by decide) (Int32.le_of_lt h8))
  refine ⟨⟨by rw [p1]; exact g1, by rw [p1, p2]; omega, fun j h9 => ?_⟩, p2⟩
  by_cases e : j = cc
  · rw [e, u_eq, hps cc (Nat.le_refl _), hhs cc (Nat.le_refl _)]
    exact ⟨⟨fun h8 => absurd h8 hx, fun _ => ⟨by rw [g3 _ (by omega) (by omega), e2]; exact hv1, by rw [g2]; exact hv2⟩⟩, hx7, fun h8 => absurd h8 hx, fun _ => hh, hx9⟩
  · have q := hj j (by omega)
    have hl := ps_lt (cs := co) (j := j) (nc := cc) (by omega)
    rw [u_ne e, hps j (by omega), hhs j (by omega)]
    have hw1 : 1 ≤ wdC (co j) := by unfold wdC; split <;> omega
    refine ⟨CRd_ext q.1 ((g3 _ (by omega) (by omega)).trans (e3 _ (by omega) (by omega))) (fun h8 => ?_), q.2⟩
    have : wdC (co j) = 2 := by unfold wdC; rw [if_neg h8]
    exact (g3 _ (by omega) (by omega)).trans (e3 _ (by omega) (by omega))
def gS (s : RS) : Int32 × Int32 × Int32 × Int32 × TD × PD := (s.bays, s.fr, s.dr, s.rr, s.T, s.P)
def gM (t : MS) : Int32 × Int32 := (t.ba, t.se)
/-- while a sum is read: depth d, height h -/
def RQ (len : Nat) (cB : Nat → Int32) (c1 : Int32 × Int32 × Int32 × Int32 × TD × PD) (c2 : Int32 × Int32) (D0 : Nat → Int32) (d h a m : Nat) (s : RS) (X : LQ) : Prop :=
  TR len cB s X.1 ∧ (X.1.ne, X.1.ea) = (nI d, -1) ∧ gS s = c1 ∧ gM X.1 = c2 ∧ CDq s.co s.cc X.2 ∧ htC s.co s.cc = h ∧ s.cc + a ≤ s.tk.2.1 ∧ m ≤ s.tk.2.1 ∧ ∀ j, j < 176 → j ≠ 7 → X.2 j = D0 j
theorem put_at {c : Int32} {s : RS} (h : s.cc < 800) : putC c s = ((s.wco (upd s.co s.cc c)).wcc (s.cc + 1)) := by rw [putC, if_pos h]
theorem em_er {v : Int32} {X : LQ} (h : X.1.er = 0) : emR v X = (X.1, emD v X.2) := by rw [emR, if_pos h]
theorem em_low {D : Nat → Int32} {v : Int32} {p : Nat} (h7 : D 7 = nI p) (hp : p < 2000) {j : Nat} (hj : j < 176) (hj7 : j ≠ 7) : emD v D j = D j := (em_at h7 hp).2.2 j hj7 (by omega)
/-- an operand put on both sides -/
theorem put_num {len : Nat} {cB : Nat → Int32} {c1 : Int32 × Int32 × Int32 × Int32 × TD × PD} {c2 : Int32 × Int32} {D0 : Nat → Int32} {d h a m : Nat} {s : RS} {X : LQ} (hR : RQ len cB c1 c2 D0 d h a m s X) (ha : 1 ≤ a) (hlen : len ≤ 800) (hh : h < 11) {x v1 v2 : Int32} (hx : ¬ x ≤ -4) (hx9 : x ≤ 9999) (hv1 : v1 = if x < 0 then 1 else 0) (hv2 : v2 = if x < 0 then -x - 1 else x)
    {t : MS} (hT : TR len cB (advR len cB s) t) (hst : s.tk.2.1 ≤ len) (hadv : s.tk.2.1 + 1 ≤ (advR len cB s).tk.2.1) (ht : rfM t = rfM X.1) : RQ len cB c1 c2 D0 d (h + 1) a m (advR len cB (putC x s)) (emR v2 (emR v1 (t, X.2))) := by
  obtain ⟨_, r2, r3, r4, r5, r6, r7, r8, r9⟩ := hR
  obtain ⟨m1, m2, m3⟩ := rfM_b ht
  have hcc : s.cc < 800 := by omega
  have her : t.er = 0 := hT.2.2.1
  rw [em_er (X := (t, X.2)) her, em_er (X := (t, emD v1 X.2)) her, put_at hcc]
  have hp := r5.2.1
  have hC := CD_num r5 hx hx9 hv1 hv2 (by omega) (by omega)
  have h7 := (em_at (v := v1) r5.1 (by omega)).1
  refine ⟨⟨hT.1, hT.2⟩, m1.trans r2, r3, ?_, hC.1, hC.2.trans (by rw [r6]), ?_, ?_, fun j hj hj7 => ?_⟩
  · show (t.ba, t.se) = c2
    rw [m2, m3]; exact r4
  · show s.cc + 1 + a ≤ (advR len cB s).tk.2.1
    omega
  · show m ≤ (advR len cB s).tk.2.1
    omega
  · show emD v2 (emD v1 X.2) j = D0 j
    rw [em_low h7 (by omega) hj hj7, em_low r5.1 (by omega) hj hj7]
    exact r9 j hj hj7
/-- an operator put on both sides -/
theorem put_op {len : Nat} {cB : Nat → Int32} {c1 : Int32 × Int32 × Int32 × Int32 × TD × PD} {c2 : Int32 × Int32} {D0 : Nat → Int32} {d h a m : Nat} {s : RS} {X : LQ} (hR : RQ len cB c1 c2 D0 d (h + 1) (a + 1) m s X) (hst : s.tk.2.1 ≤ 800) (hh : 1 ≤ h ∧ h ≤ 11) {x v : Int32} (hx : x ≤ -4) (hx7 : -7 ≤ x) (hv : v = -x - 2) : RQ len cB c1 c2 D0 d h a m (putC x s) (emR v X) := by
  obtain ⟨r1, r2, r3, r4, r5, r6, r7, r8, r9⟩ := hR
  have hcc : s.cc < 800 := by omega
  rw [em_er r1.2.2.1, put_at hcc]
  have hp := r5.2.1
  have hC := CD_op r5 hx hx7 hv (by omega) (by omega) (by omega)
  refine ⟨⟨r1.1, r1.2⟩, r2, r3, r4, hC.1, hC.2.trans (by rw [r6]; rfl), ?_, r8, fun j hj hj7 => ?_⟩
  · show s.cc + 1 + a ≤ s.tk.2.1
    omega
  · show emD v X.2 j = D0 j
    rw [em_low r5.1 (by omega) hj hj7]
    exact r9 j hj hj7
def SimF (len : Nat) (cB : Nat → Int32) (f : RM) (g : LQ → LQ) (d H : Nat) : Prop := ∀ c1 c2 D0 h a m, h ≤ H → 1 ≤ a → Sim f g (RQ len cB c1 c2 D0 d h a m) (RQ len cB c1 c2 D0 d (h + 1) a m)
theorem ek_em {v : Int32} {X : LQ} (h : ¬ X.1.er = 0) : emR v X = X := by rw [emR, if_neg h]
/-- a number or a quantity -/
theorem facT_sim {len : Nat} {cB rB : Nat → Int32} (hlen : len ≤ 800) (hB : BRel cB rB) {c1 : Int32 × Int32 × Int32 × Int32 × TD × PD} {c2 : Int32 × Int32} {D0 : Nat → Int32} {d h a m : Nat} (hh : h < 11) (ha : 1 ≤ a) {s : RS} {X : LQ} (hR : RQ len cB c1 c2 D0 d h a m s X) :
    ((facT len cB s).1 = true → RQ len cB c1 c2 D0 d (h + 1) a m (facT len cB s).2 (facA rB (nxL rB X))) ∧ (¬ (facT len cB s).1 = true → ERR (facT len cB s).2 (facA rB (nxL rB X)).1) := by
  have hT := hR.1
  have h1 := tr_st hlen hB hT
  have h2 := tk_num hlen hB hT
  have hTn := tr_nx hlen hB hT
  have htl : (nxL rB X).1.tl = len := hTn.2.1
  have hpo : (nxL rB X).1.po = s.tk.2.1 := h1.1
  have hrf : rfM (nxL rB X).1 = rfM X.1 := rfl
  have hX2 : (nxL rB X).2 = X.2 := rfl
  change TR len cB s (nxL rB X).1 at hTn
  generalize nxL rB X = Y at hTn htl hpo hrf hX2 ⊢
  by_cases c : s.tk.1 = 256
  · have hd := h2.1.mp c
    have eV : vaM rB Y.1 = (-1, Y.1) := by rw [vaM, if_pos (by rw [htl, hpo]; exact hd)]
    have eN : nvM rB (-1, Y.1) = numM rB 0 9999 Y.1 := by rw [nvM, if_neg (by show ¬ (0 : Int32) ≤ -1; decide)]
    have hns := num_sim hlen hB hTn (lo := 0) (hi := 9999) (by decide)
    have hval : 0 ≤ s.tk.2.2.1.toInt := by
      obtain ⟨q1, q2, q3⟩ := h2.2 c
      have hge : scanE fDig rB len s.tk.2.1 ≤ len := scanE_le _ (by omega)
      have hrun : ∀ j, j < scanE fDig rB len s.tk.2.1 - s.tk.2.1 → fDig (rB (s.tk.2.1 + j)) = true := fun j hj => (scanE_run (f := fDig) (B := rB) (len := len) s.tk.2.1 (s.tk.2.1 + j) (by omega) (by omega)).2
      rw [q2]
      have hge2 := scanE_ge (f := fDig) (B := rB) (len := len) s.tk.2.1
      exact (num_val hB (p := s.tk.2.1) _ (by omega) hrun).1
    have hv0 : ¬ s.tk.2.2.1 < 0 := fun h9 => by
      have := Int32.lt_iff_toInt_lt.mp h9
      have c0 : (0 : Int32).toInt = 0 := by decide
      omega
    have eA : facA rB Y = emR (numM rB 0 9999 Y.1).1 (emR 0 ((numM rB 0 9999 Y.1).2, X.2)) := by
      rw [facA, eV, eN, hX2, if_neg (by show ¬ (0 : Int32) ≤ -1; decide)]
    rw [eA]
    by_cases c9 : 9999 < s.tk.2.2.1
    · have eC : facT len cB s = (false, failR (-3) s) := by rw [facT, if_pos c, if_pos c9]
      have eQ : numR len cB 0 9999 s = (false, failR (-3) s) := by rw [numR, if_pos c, if_pos (Or.inr c9)]
      rw [eQ] at hns
      have he := hns.2 (fun h9 => no_t h9)
      rw [eC]
      refine ⟨fun h9 => no_t h9, fun _ => ?_⟩
      rw [em_1, em_1]; exact he
    · have eC : facT len cB s = (true, advR len cB (putC s.tk.2.2.1 s)) := by rw [facT, if_pos c, if_neg c9]
      have eQ : numR len cB 0 9999 s = (true, advR len cB ((s.wnum s.tk.2.2.1).wnof (nI s.tk.2.1))) := by
        rw [numR, if_pos c, if_neg]
        rintro (h9 | h9)
        · exact hv0 h9
        · exact c9 h9
      rw [eQ] at hns
      obtain ⟨p1, p2, p3, p4, p5, p6⟩ := hns.1 rfl
      rw [eC, ← p2]
      refine ⟨fun _ => ?_, fun h9 => absurd rfl h9⟩
      have hx4 : ¬ s.tk.2.2.1 ≤ -4 := fun h9 => by
        have := Int32.le_iff_toInt_le.mp h9
        have c0 : (-4 : Int32).toInt = -4 := by decide
        omega
      exact put_num hR ha hlen hh (x := s.tk.2.2.1) (v1 := 0) (v2 := s.tk.2.2.1) hx4 (Int32.not_lt.mp c9) (by rw [if_neg hv0]) (by rw [if_neg hv0]) (t := (numM rB 0 9999 Y.1).2) ⟨p1.1, p1.2⟩ h1.2.2.1 p6 (p5.trans hrf)
  · have hd : ¬ fDig (byR rB Y.1.tl Y.1.po) = true := by rw [htl, hpo]; exact fun h9 => c (h2.1.mpr h9)
    have w1 := word_sim hlen hB hTn (i := 9) (by decide)
    have key : ∀ (x v2 : Int32) (t : MS), ¬ x ≤ -4 → x < 0 → v2 = -x - 1 → 0 ≤ v2 → vaM rB Y.1 = (v2, t) → facT len cB s = (true, advR len cB (putC x s)) → TR len cB (advR len cB s) t → rfM t = rfM X.1 → s.tk.2.1 + 1 ≤ (advR len cB s).tk.2.1 →
        ((facT len cB s).1 = true → RQ len cB c1 c2 D0 d (h + 1) a m (facT len cB s).2 (facA rB Y)) ∧ (¬ (facT len cB s).1 = true → ERR (facT len cB s).2 (facA rB Y).1) := by
      intro x v2 t hx hx0 hv hv0 eV eC hTt hrt hadv
      have eN : nvM rB (v2, t) = (v2, t) := by rw [nvM, if_pos hv0]
      have eA : facA rB Y = emR v2 (emR 1 (t, X.2)) := by rw [facA, eV, eN, hX2, if_pos hv0]
      rw [eC, eA]
      exact ⟨fun _ => put_num hR ha hlen hh (x := x) (v1 := 1) (v2 := v2) hx (Int32.le_of_lt (Int32.lt_trans hx0 (by decide))) (by rw [if_pos hx0]) (by rw [if_pos hx0]; exact hv) hTt h1.2.2.1 hadv hrt, fun h9 => absurd rfl h9⟩
    by_cases c9 : wdR cB s 9 = true
    · obtain ⟨q1, q2, q3⟩ := w1.2.1 c9
      exact key (-1) 0 (twR rB 9 Y.1).2 (by decide) (by decide) (by decide) (by decide) (by rw [vaM, if_neg hd, if_pos (w1.1.symm.trans c9)]) (by rw [facT, if_neg c, if_pos c9]) q1 (q2.trans hrf) q3
    · obtain ⟨q1, q2, _⟩ := w1.2.2 c9
      have n9 : ¬ (twR rB 9 Y.1).1 = true := fun h9 => c9 (w1.1.trans h9)
      have w2 := word_sim hlen hB q1 (i := 10) (by decide)
      by_cases c10 : wdR cB s 10 = true
      · obtain ⟨a1, a2, a3⟩ := w2.2.1 c10
        exact key (-2) 1 (twR rB 10 (twR rB 9 Y.1).2).2 (by decide) (by decide) (by decide) (by decide) (by rw [vaM, if_neg hd, if_neg n9, if_pos (w2.1.symm.trans c10)]) (by rw [facT, if_neg c, if_neg c9, if_pos c10]) a1 (a2.trans (q2.trans hrf)) a3
      · obtain ⟨a1, a2, _⟩ := w2.2.2 c10
        have n10 : ¬ (twR rB 10 (twR rB 9 Y.1).2).1 = true := fun h9 => c10 (w2.1.trans h9)
        have w3 := word_sim hlen hB a1 (i := 11) (by decide)
        by_cases c11 : wdR cB s 11 = true
        · obtain ⟨b1, b2, b3⟩ := w3.2.1 c11
          exact key (-3) 2 (twR rB 11 (twR rB 10 (twR rB 9 Y.1).2).2).2 (by decide) (by decide) (by decide) (by decide) (by rw [vaM, if_neg hd, if_neg n9, if_neg n10, if_pos (w3.1.symm.trans c11)]) (by rw [facT, if_neg c, if_neg c9, if_neg c10, if_pos c11]) b1 (b2.trans (a2.trans (q2.trans hrf))) b3
        · obtain ⟨b1, b2, _⟩ := w3.2.2 c11
          have n11 : ¬ (twR rB 11 (twR rB 10 (twR rB 9 Y.1).2).2).1 = true := fun h9 => c11 (w3.1.trans h9)
          have eC : facT len cB s = (false, failR (-2) s) := by rw [facT, if_neg c, if_neg c9, if_neg c10, if_neg c11]
          have eV : vaM rB Y.1 = (-1, (twR rB 11 (twR rB 10 (twR rB 9 Y.1).2).2).2) := by rw [vaM, if_neg hd, if_neg n9, if_neg n10, if_neg n11]
          generalize (twR rB 11 (twR rB 10 (twR rB 9 Y.1).2).2).2 = t at b1 eV
          have eN : nvM rB (-1, t) = numM rB 0 9999 t := by rw [nvM, if_neg (by show ¬ (0 : Int32) ≤ -1; decide)]
          have hns := num_sim hlen hB b1 (lo := 0) (hi := 9999) (by decide)
          have eQ : numR len cB 0 9999 s = (false, failR (-2) s) := by rw [numR, if_neg c]
          rw [eQ] at hns
          have he := hns.2 (fun h9 => no_t h9)
          rw [eC, facA, eV, eN]
          refine ⟨fun h9 => no_t h9, fun _ => ?_⟩
          rw [em_1, em_1]; exact he
