theorem ek_lo {B : Nat → Int32} {c1 c2 o1 o2 : Int32} {f : LQ → LQ} {X : LQ} (h : ¬ X.1.er = 0) : ∀ k, loL B c1 c2 o1 o2 f k X = X
  | 0 => rfl
  | k + 1 => by rw [loL_s, if_neg h]
theorem ek_fac {B : Nat → Int32} {f : LQ → LQ} {X : LQ} (h : ¬ X.1.er = 0) : facL B f X = X := by rw [facL, if_neg h]
theorem ek_sum1 {B : Nat → Int32} {f : LQ → LQ} {X : LQ} (h : ¬ X.1.er = 0) (hf : f X = X) : sum1L B f X = X := by rw [sum1L, hf, ek_lo h]
theorem ek_term {B : Nat → Int32} {f : LQ → LQ} {X : LQ} (h : ¬ X.1.er = 0) (hf : f X = X) : termL B f X = X := by rw [termL, hf, ek_lo h]
theorem ek_sum {B : Nat → Int32} {X : LQ} (h : ¬ X.1.er = 0) : ∀ n, sumL2 B n X = X
  | 0 => ek_sum1 h (ek_term h (ek_fac h))
  | n + 1 => ek_sum1 h (ek_term h (ek_fac h))
/-- a chain of operands -/
theorem loop_sim {len : Nat} {cB rB : Nat → Int32} (hlen : len ≤ 800) (hB : BRel cB rB) {n1 n2 : Nat} (hn1 : n1 < 128) (hn2 : n2 < 128) (hd1 : fDig (nI n1) = false ∧ fLet (nI n1) = false) (hd2 : fDig (nI n2) = false ∧ fLet (nI n2) = false) {o1 o2 v1 v2 : Int32} (ho1 : o1 ≤ -4 ∧ -7 ≤ o1 ∧ v1 = -o1 - 2) (ho2 : o2 ≤ -4 ∧ -7 ≤ o2 ∧ v2 = -o2 - 2)
    {f : RM} {g : LQ → LQ} {d H : Nat} (hH : H ≤ 10) (hf : SimF len cB f g d H) {c1 : Int32 × Int32 × Int32 × Int32 × TD × PD} {c2 : Int32 × Int32} {D0 : Nat → Int32} {h a m : Nat} (hh : 1 ≤ h ∧ h ≤ H) (ha : 1 ≤ a) :
    ∀ k s X, RQ len cB c1 c2 D0 d h a m s X → len ≤ s.tk.2.1 + k →
      ((loopR len cB (nI n1) (nI n2) o1 o2 f k s).1 = true → RQ len cB c1 c2 D0 d h a m (loopR len cB (nI n1) (nI n2) o1 o2 f k s).2 (loL rB (nI n1) (nI n2) v1 v2 g (k + 1) X)) ∧
      (¬ (loopR len cB (nI n1) (nI n2) o1 o2 f k s).1 = true → ERR (loopR len cB (nI n1) (nI n2) o1 o2 f k s).2 (loL rB (nI n1) (nI n2) v1 v2 g (k + 1) X).1) := by
  have base : ∀ (s : RS) (X : LQ) (k : Nat), RQ len cB c1 c2 D0 d h a m s X → ¬ (s.tk.1 = nI n1 ∨ s.tk.1 = nI n2) → RQ len cB c1 c2 D0 d h a m s (loL rB (nI n1) (nI n2) v1 v2 g (k + 1) X) := by
    intro s X k hR hno
    have hT := hR.1
    have h1 := tr_st hlen hB hT
    have s1 := (tk_sign hlen hB hT hn1 hd1.1 hd1.2).1
    have s2 := (tk_sign hlen hB hT hn2 hd2.1 hd2.2).1
    have eb : btL rB (nxL rB X) = byR rB len s.tk.2.1 := by
      show byR rB X.1.tl (nxR rB X.1).po = _
      rw [h1.1, hT.2.1]
    rw [loL_s, if_pos hT.2.2.1, eb, if_neg (fun h9 => hno (h9.elim (fun e => Or.inl (s1.mpr e)) (fun e => Or.inr (s2.mpr e))))]
    obtain ⟨r1, r2, r3, r4, r5, r6, r7, r8, r9⟩ := hR
    exact ⟨tr_nx hlen hB hT, r2, r3, r4, r5, r6, r7, r8, r9⟩
  intro k
  induction k with
  | zero =>
    intro s X hR hl
    have hT := hR.1
    have hno : ¬ (s.tk.1 = nI n1 ∨ s.tk.1 = nI n2) := fun h9 => by
      rcases h9 with e | e
      · have := ((tk_sign hlen hB hT hn1 hd1.1 hd1.2).2 e).2
        omega
      · have := ((tk_sign hlen hB hT hn2 hd2.1 hd2.2).2 e).2
        omega
    exact ⟨fun _ => base s X 0 hR hno, fun h9 => absurd rfl h9⟩
  | succ k ih =>
    intro s X hR hl
    have hT := hR.1
    by_cases c : s.tk.1 = nI n1 ∨ s.tk.1 = nI n2
    · have h1 := tr_st hlen hB hT
      have s1 := tk_sign hlen hB hT hn1 hd1.1 hd1.2
      have s2 := tk_sign hlen hB hT hn2 hd2.1 hd2.2
      have hend : s.tk.2.2.2 = s.tk.2.1 + 1 ∧ s.tk.2.1 < len := c.elim s1.2 s2.2
      have eb : btL rB (nxL rB X) = byR rB len s.tk.2.1 := by
        show byR rB X.1.tl (nxR rB X.1).po = _
        rw [h1.1, hT.2.1]
      have eC : loopR len cB (nI n1) (nI n2) o1 o2 f (k + 1) s = andM f (fun s2 => loopR len cB (nI n1) (nI n2) o1 o2 f k (putC (if s.tk.1 = nI n1 then o1 else o2) s2)) (advR len cB s) := by rw [loopR_s, if_pos c]
      have eR : loL rB (nI n1) (nI n2) v1 v2 g (k + 1 + 1) X = loL rB (nI n1) (nI n2) v1 v2 g (k + 1) (emR (if s.tk.1 = nI n1 then v1 else v2) (g ((nxL rB X).1.wpo (s.tk.2.1 + 1), X.2))) := by
        rw [loL_s, if_pos hT.2.2.1, eb, if_pos (c.elim (fun e => Or.inl (s1.1.mp e)) (fun e => Or.inr (s2.1.mp e)))]
        have e1 : (nxL rB X).1.po = s.tk.2.1 := h1.1
        rw [e1]
        by_cases e : s.tk.1 = nI n1
        · rw [if_pos e, if_pos (s1.1.mp e)]
        · rw [if_neg e, if_neg (fun h9 => e (s1.1.mpr h9))]
      have hTa : TR len cB (advR len cB s) ((nxL rB X).1.wpo (s.tk.2.1 + 1)) := tr_adv (s := s) rfl (by show s.tk.2.1 + 1 = _; rw [hend.1]) hT.2.1 hT.2.2.1 (by omega)
      have hst : s.tk.2.1 + 1 ≤ (advR len cB s).tk.2.1 := by
        show s.tk.2.1 + 1 ≤ (tokF cB len s.tk.2.2.2 s.tk.2.2.1).2.1
        rw [tok_st]
        have := scanE_ge (f := fSp) (B := cB) (len := len) s.tk.2.2.2
        omega
      obtain ⟨r1, r2, r3, r4, r5, r6, r7, r8, r9⟩ := hR
      have hRa : RQ len cB c1 c2 D0 d h (a + 1) (max m (s.tk.2.1 + 1)) (advR len cB s) ((nxL rB X).1.wpo (s.tk.2.1 + 1), X.2) :=
        ⟨hTa, r2, r3, r4, r5, r6, by show s.cc + (a + 1) ≤ _; omega, by omega, r9⟩
      have hfs := hf c1 c2 D0 h (a + 1) (max m (s.tk.2.1 + 1)) hh.2 (by omega) _ _ hRa
      rw [eC, eR]
      generalize ((nxL rB X).1.wpo (s.tk.2.1 + 1), X.2) = Y at hfs ⊢
      by_cases e : (f (advR len cB s)).1 = true
      · have hq := hfs.1 e
        rw [andM_t e]
        have hst2 := tr_st hlen hB hq.1
        have hox : ∀ (o v : Int32), o ≤ -4 ∧ -7 ≤ o ∧ v = -o - 2 → RQ len cB c1 c2 D0 d h a (max m (s.tk.2.1 + 1)) (putC o (f (advR len cB s)).2) (emR v (g Y)) := fun o v ho => put_op hq (by omega) ⟨hh.1, by omega⟩ ho.1 ho.2.1 ho.2.2
        have hp : RQ len cB c1 c2 D0 d h a (max m (s.tk.2.1 + 1)) (putC (if s.tk.1 = nI n1 then o1 else o2) (f (advR len cB s)).2) (emR (if s.tk.1 = nI n1 then v1 else v2) (g Y)) := by
          by_cases e1 : s.tk.1 = nI n1
          · rw [if_pos e1, if_pos e1]; exact hox o1 v1 ho1
          · rw [if_neg e1, if_neg e1]; exact hox o2 v2 ho2
        have hmm := hp.2.2.2.2.2.2.2.1
        obtain ⟨t1, t2, t3, t4, t5, t6, t7, t8, t9⟩ := hp
        exact ih _ _ ⟨t1, t2, t3, t4, t5, t6, t7, by omega, t9⟩ (by omega)
      · have he := hfs.2 e
        rw [andM_f e, ek_em he.2.2, ek_lo he.2.2]
        exact ⟨fun h9 => no_t h9, fun _ => he⟩
    · have eC : loopR len cB (nI n1) (nI n2) o1 o2 f (k + 1) s = (true, s) := by rw [loopR_s, if_neg c]
      rw [eC]
      exact ⟨fun _ => base s X (k + 1) hR c, fun h9 => absurd rfl h9⟩
theorem term_sim {len : Nat} {cB rB : Nat → Int32} (hlen : len ≤ 800) (hB : BRel cB rB) {f : RM} {g : LQ → LQ} {d H : Nat} (hH : H + 1 ≤ 10) (hf : SimF len cB f g d (H + 1)) : SimF len cB (termR len cB f) (termL rB g) d H := by
  intro c1 c2 D0 h a m hh ha s X hR
  have q := hf c1 c2 D0 h a m (by omega) ha s X hR
  rw [termR, termL]
  by_cases e : (f s).1 = true
  · rw [andM_t e]
    exact loop_sim hlen hB (n1 := 42) (n2 := 47) (by decide) (by decide) (by decide) (by decide) (by decide) (by decide) hH hf (by omega) ha 800 _ _ (q.1 e) (by omega)
  · have he := q.2 e
    rw [andM_f e, ek_lo he.2.2]
    exact ⟨fun h9 => no_t h9, fun _ => he⟩
theorem sum1_sim {len : Nat} {cB rB : Nat → Int32} (hlen : len ≤ 800) (hB : BRel cB rB) {f : RM} {g : LQ → LQ} {d H : Nat} (hH : H + 1 ≤ 10) (hf : SimF len cB f g d (H + 1)) : SimF len cB (sum1R len cB f) (sum1L rB g) d H := by
  intro c1 c2 D0 h a m hh ha s X hR
  have q := hf c1 c2 D0 h a m (by omega) ha s X hR
  rw [sum1R, sum1L]
  by_cases e : (f s).1 = true
  · rw [andM_t e]
    exact loop_sim hlen hB (n1 := 43) (n2 := 45) (by decide) (by decide) (by decide) (by decide) (by decide) (by decide) hH hf (by omega) ha 800 _ _ (q.1 e) (by omega)
  · have he := q.2 e
    rw [andM_f e, ek_lo he.2.2]
    exact ⟨fun h9 => no_t h9, fun _ => he⟩
theorem paren_iff {len : Nat} {cB rB : Nat → Int32} (hlen : len ≤ 800) (hB : BRel cB rB) {s : RS} {X : LQ} (hT : TR len cB s X.1) : (s.tk.1 = 40 ↔ btL rB (nxL rB X) = 40) ∧ (s.tk.1 = 40 → s.tk.2.2.2 = s.tk.2.1 + 1 ∧ s.tk.2.1 < len) := by
  have h1 := tr_st hlen hB hT
  have s1 := tk_sign hlen hB hT (c := 40) (by decide) (by decide) (by decide)
  have eb : btL rB (nxL rB X) = byR rB len s.tk.2.1 := by
    show byR rB X.1.tl (nxR rB X.1).po = _
    rw [h1.1, hT.2.1]
  rw [eb]; exact s1
theorem fac0_sim {len : Nat} {cB rB : Nat → Int32} (hlen : len ≤ 800) (hB : BRel cB rB) : SimF len cB (fac0 len cB) (facL rB id) 4 10 := by
  intro c1 c2 D0 h a m hh ha s X hR
  have hT := hR.1
  have hp := paren_iff hlen hB hT
  have h1 := tr_st hlen hB hT
  by_cases c : s.tk.1 = 40
  · have eC : fac0 len cB s = (false, failR (-5) s) := by rw [fac0, if_pos c]
    have eO : opS (nxL rB X).1 = repR (-5) (nI s.tk.2.1) (nxL rB X).1 := by
      have e1 : (nxL rB X).1.po = s.tk.2.1 := h1.1
      rw [opS, if_pos (by show X.1.ne = 4; rw [show X.1.ne = nI 4 from congrArg Prod.fst hR.2.1]; decide), e1]
    have hre := rep_err (k := -5) (o := nI s.tk.2.1) (t := (nxL rB X).1) hT.2.2.1 (by decide)
    have eR : facL rB id X = cloL rB (opnL (nxL rB X)) := by rw [facL, if_pos hT.2.2.1, if_pos (hp.1.mp c)]; rfl
    have e2 : (opnL (nxL rB X)).1 = ((repR (-5) (nI s.tk.2.1) (nxL rB X).1).wpo ((repR (-5) (nI s.tk.2.1) (nxL rB X).1).po + 1)).wne ((repR (-5) (nI s.tk.2.1) (nxL rB X).1).ne + 1) := by rw [opnL, eO]
    generalize repR (-5) (nI s.tk.2.1) (nxL rB X).1 = tq at hre e2
    have e3 : (opnL (nxL rB X)).1.er = tq.er ∧ (opnL (nxL rB X)).1.ea = tq.ea := by rw [e2]; exact ⟨rfl, rfl⟩
    generalize opnL (nxL rB X) = Y at e3 eR
    rw [eC, eR, cloL, ek_exp (by rw [e3.1]; exact hre.2.2)]
    exact ⟨fun h9 => no_t h9, fun _ => ⟨e3.1.trans hre.1, e3.2.trans hre.2.1, by show ¬ Y.1.er = 0; rw [e3.1]; exact hre.2.2⟩⟩
  · have eC : fac0 len cB s = facT len cB s := by rw [fac0, if_neg c]
    have eR : facL rB id X = facA rB (nxL rB X) := by rw [facL, if_pos hT.2.2.1, if_neg (fun h9 => c (hp.1.mpr h9))]
    rw [eC, eR]
    exact facT_sim hlen hB (by omega) ha hR
theorem facS_sim {len : Nat} {cB rB : Nat → Int32} (hlen : len ≤ 800) (hB : BRel cB rB) {f : RM} {g : LQ → LQ} {d H : Nat} (hd : d < 4) (hH : H ≤ 10) (hf : SimF len cB f g (d + 1) H) : SimF len cB (facS len cB f) (facL rB g) d H := by
  intro c1 c2 D0 h a m hh ha s X hR
  have hT := hR.1
  have hp := paren_iff hlen hB hT
  have h1 := tr_st hlen hB hT
  by_cases c : s.tk.1 = 40
  · have eC : facS len cB f s = andM f (sgnR len cB 41) (advR len cB s) := by rw [facS, if_pos c]
    have hne4 : ¬ X.1.ne = 4 := by
      have hk : ∀ d, d < 4 → ¬ nI d = 4 := by decide
      rw [show X.1.ne = nI d from congrArg Prod.fst hR.2.1]; exact hk d hd
    have eO : opnL (nxL rB X) = (((nxL rB X).1.wpo (s.tk.2.1 + 1)).wne (X.1.ne + 1), X.2) := by
      have e1 : (nxL rB X).1.po = s.tk.2.1 := h1.1
      have e0 : opS (nxL rB X).1 = (nxL rB X).1 := by rw [opS, if_neg (show ¬ (nxL rB X).1.ne = 4 from hne4)]
      rw [opnL, e0, e1]; rfl
    have eR : facL rB g X = cloL rB (g (((nxL rB X).1.wpo (s.tk.2.1 + 1)).wne (X.1.ne + 1), X.2)) := by rw [facL, if_pos hT.2.2.1, if_pos (hp.1.mp c), eO]
    obtain ⟨q1, q2⟩ := hp.2 c
    have hTa : TR len cB (advR len cB s) (((nxL rB X).1.wpo (s.tk.2.1 + 1)).wne (X.1.ne + 1)) := tr_adv (s := s) rfl (by show s.tk.2.1 + 1 = _; rw [q1]) hT.2.1 hT.2.2.1 (by omega)
    have hst : s.tk.2.1 + 1 ≤ (advR len cB s).tk.2.1 := by
      show s.tk.2.1 + 1 ≤ (tokF cB len s.tk.2.2.2 s.tk.2.2.1).2.1
      rw [tok_st]
      have := scanE_ge (f := fSp) (B := cB) (len := len) s.tk.2.2.2
      omega
    obtain ⟨r1, r2, r3, r4, r5, r6, r7, r8, r9⟩ := hR
    have hRa : RQ len cB c1 c2 D0 (d + 1) h a m (advR len cB s) (((nxL rB X).1.wpo (s.tk.2.1 + 1)).wne (X.1.ne + 1), X.2) :=
      ⟨hTa, by show (X.1.ne + 1, X.1.ea) = (nI (d + 1), -1); rw [show X.1.ne = nI d from congrArg Prod.fst r2, show X.1.ea = -1 from congrArg Prod.snd r2, nI_suc2], r3, r4, r5, r6, by show s.cc + a ≤ _; omega, by omega, r9⟩
    have hfs := hf c1 c2 D0 h a m hh ha _ _ hRa
    rw [eC, eR]
    generalize (((nxL rB X).1.wpo (s.tk.2.1 + 1)).wne (X.1.ne + 1), X.2) = Y at hfs ⊢
    by_cases e : (f (advR len cB s)).1 = true
    · have hq := hfs.1 e
      rw [andM_t e, cloL]
      generalize (f (advR len cB s)).2 = s1 at hq ⊢
      generalize g Y = Z at hq ⊢
      obtain ⟨t1, t2, t3, t4, t5, t6, t7, t8, t9⟩ := hq
      have hs := sgn_sim hlen hB t1 (c := 41) (by decide) (by decide) (by decide)
      by_cases e9 : (sgnR len cB 41 s1).1 = true
      · obtain ⟨b1, b2, b3, b4⟩ := hs.1 e9
        change TR len cB (sgnR len cB 41 s1).2 (expR2 rB 41 Z.1) at b1
        change rfS (sgnR len cB 41 s1).2 = _ at b2
        change rfM (expR2 rB 41 Z.1) = _ at b3
        change s1.tk.2.1 + 1 ≤ (sgnR len cB 41 s1).2.tk.2.1 at b4
        generalize (sgnR len cB 41 s1).2 = s2 at b1 b2 b4 ⊢
        generalize expR2 rB 41 Z.1 = t at b1 b3 ⊢
        obtain ⟨f1, f2, f3, f4, f5, f6, f7, f8⟩ := rfS_b b2
        obtain ⟨m1, m2, m3⟩ := rfM_b b3
        refine ⟨fun _ => ⟨⟨b1.1, b1.2⟩, ?_, ?_, ?_, by rw [f5, f6]; exact t5, by rw [f5, f6]; exact t6, by rw [f5]; omega, by omega, t9⟩, fun h9 => absurd e9 h9⟩
        · show (t.ne - 1, t.ea) = (nI d, -1)
          have e7 := m1.trans t2
          rw [show t.ne = nI (d + 1) from congrArg Prod.fst e7, show t.ea = -1 from congrArg Prod.snd e7, nI_suc2, Int32.add_sub_cancel]
        · rw [← t3]
          show (s2.bays, s2.fr, s2.dr, s2.rr, s2.T, s2.P) = (s1.bays, s1.fr, s1.dr, s1.rr, s1.T, s1.P)
          rw [f1, f2, f3, f4, f7, f8]
        · rw [← t4]
          show (t.ba, t.se) = (Z.1.ba, Z.1.se)
          rw [m2, m3]
      · exact ⟨fun h9 => absurd h9 e9, fun _ => hs.2 e9⟩
    · have he := hfs.2 e
      rw [andM_f e, cloL, ek_exp he.2.2]
      exact ⟨fun h9 => no_t h9, fun _ => he⟩
  · have eC : facS len cB f s = facT len cB s := by rw [facS, if_neg c]
    have eR : facL rB g X = facA rB (nxL rB X) := by rw [facL, if_pos hT.2.2.1, if_neg (fun h9 => c (hp.1.mpr h9))]
    rw [eC, eR]
    exact facT_sim hlen hB (by omega) ha hR
/-- sums within sums -/
theorem sum_sim {len : Nat} {cB rB : Nat → Int32} (hlen : len ≤ 800) (hB : BRel cB rB) : ∀ r, r ≤ 4 → SimF len cB (sumR len cB r) (sumL2 rB r) (4 - r) (8 - 2 * r)
  | 0, _ => sum1_sim hlen hB (by omega) (term_sim hlen hB (by omega) (fac0_sim hlen hB))
  | r + 1, h => by
    have ih := sum_sim hlen hB r (by omega)
    have e1 : 4 - r = (4 - (r + 1)) + 1 := by omega
    have e2 : 8 - 2 * r = (8 - 2 * (r + 1)) + 1 + 1 := by omega
    rw [e1, e2] at ih
    exact sum1_sim hlen hB (by omega) (term_sim hlen hB (by omega) (facS_sim hlen hB (by omega) (by omega) ih))
