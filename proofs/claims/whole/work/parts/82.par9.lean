theorem ld0_z {j : Nat} (h4 : j ≠ 4) (hk : ∀ k, k < 12 → j ≠ 12 + 7 * k + 4) : ld0 j = 0 := by
  have h : ∀ n, n ≤ 12 → foldN (fun k f => upd f (12 + 7 * k + 4) (-1)) (upd (fun _ => 0) 4 (-1)) n j = 0 := fun n => by
    induction n with
    | zero => intro _; show upd (fun _ => (0 : Int32)) 4 (-1) j = 0; exact u_ne h4
    | succ n ih => intro hn; rw [foldN_s, u_ne (hk n (by omega))]; exact ih (by omega)
  exact h 12 (Nat.le_refl _)
theorem ld0_b : ld0 4 = -1 ∧ ∀ s, s < 12 → ld0 (12 + 7 * s + 4) = -1 := by decide +kernel
/-- a tunnel of which only the size stands -/
theorem rel_start {n : Nat} (hn : n ≤ 12) {c : Int32} (hc : c.toInt ≤ 4 ∧ 0 ≤ c.toInt) (T : TD) : Rel (sCap (sN P0 n) c) (clr T) (upd (upd ld0 0 (nI n)) 1 c) ∧ LD (sCap (sN P0 n) c) (clr T) (upd (upd ld0 0 (nI n)) 1 c) := by
  have g : ∀ j, 2 ≤ j → upd (upd ld0 0 (nI n)) 1 c j = ld0 j := fun j hj => by rw [u_ne (by omega), u_ne (by omega)]
  have z : ∀ j, 2 ≤ j → j ≠ 4 → (∀ k, k < 12 → j ≠ 12 + 7 * k + 4) → upd (upd ld0 0 (nI n)) 1 c j = 0 := fun j h1 h2 h3 => by rw [g j h1, ld0_z h2 h3]
  have g0 : upd (upd ld0 0 (nI n)) 1 c 0 = nI n := by rw [u_ne (by decide), u_eq]
  have g1 : upd (upd ld0 0 (nI n)) 1 c 1 = c := u_eq
  have g4 : upd (upd ld0 0 (nI n)) 1 c 4 = -1 := by rw [g 4 (by decide)]; exact ld0_b.1
  have gb : ∀ s, s < 12 → upd (upd ld0 0 (nI n)) 1 c (12 + 7 * s + 4) = -1 := fun s hs => by rw [g _ (by omega)]; exact ld0_b.2 s hs
  generalize upd (upd ld0 0 (nI n)) 1 c = d at g z g0 g1 g4 gb ⊢
  have zz : (0 : Int64).toInt = 0 ∧ (0 : Int32).toInt = 0 := by decide
  refine ⟨⟨⟨⟨g0, g1, z 2 (by omega) (by omega) (fun k _ => by omega), g4, hn, Nat.zero_le _, Or.inl rfl⟩, fun s hs => ?_, fun c2 hc2 => absurd hc2 (Nat.not_lt_zero c2), fun s _ v _ => rfl, rfl⟩, ⟨fun s hs => ?_, ⟨?_, ?_⟩, ⟨?_, ?_⟩, ?_⟩, ⟨hn, g0, fun s hs => ?_⟩, ⟨z 5 (by omega) (by omega) (fun k _ => by omega), fun s hs => ?_, fun j _ => Or.inl rfl⟩, fun c2 hc2 => absurd hc2 (Nat.not_lt_zero c2), ⟨by show (1 : Nat) < 1000; decide, Or.inl ⟨z 6 (by omega) (by omega) (fun k _ => by omega), rfl, rfl⟩⟩, ⟨z 3 (by omega) (by omega) (fun k _ => by omega), ?_, ?_, ?_⟩⟩, ⟨fun c2 hc2 => ⟨rfl, z _ (by omega) (by omega) (fun k _ => by omega), z _ (by omega) (by omega) (fun k _ => by omega)⟩, fun s _ v _ => ?_, hc.1⟩⟩
  · replace hs : s < n := hs
    exact ⟨gb s (by omega), z _ (by omega) (by omega) (fun k _ => by omega), z _ (by omega) (by omega) (fun k _ => by omega)⟩
  · replace hs : s < n := hs
    rw [z _ (by omega) (by omega) (fun k _ => by omega)]
    exact ⟨show (0 : Int64).toInt = (0 : Int32).toInt by decide, by decide⟩
  · rw [z 9 (by omega) (by omega) (fun k _ => by omega)]; exact (show (0 : Int64).toInt = (0 : Int32).toInt by decide)
  · rw [z 9 (by omega) (by omega) (fun k _ => by omega)]; decide
  · rw [z 10 (by omega) (by omega) (fun k _ => by omega)]; exact (show (0 : Int64).toInt = (0 : Int32).toInt by decide)
  · rw [z 10 (by omega) (by omega) (fun k _ => by omega)]; decide
  · have hz : ∀ k, k ≤ n → sumZ (fun s => (d (12 + 7 * s)).toInt) k = 0 := fun k => by
      induction k with
      | zero => intro _; rfl
      | succ k ih => intro hk; rw [sumZ, ih (by omega), z _ (by omega) (by omega) (fun k _ => by omega)]; decide
    show sumZ (fun s => (d (12 + 7 * s)).toInt) n + (d 9).toInt + (d 10).toInt = (d 8).toInt
    rw [hz n (Nat.le_refl _), z 8 (by omega) (by omega) (fun k _ => by omega), z 9 (by omega) (by omega) (fun k _ => by omega), z 10 (by omega) (by omega) (fun k _ => by omega)]; decide
  · replace hs : s < n := hs
    rw [z _ (by omega) (by omega) (fun k _ => by omega)]
    exact ⟨rfl, show 0 ≤ (0 : Int32).toInt by decide, show (0 : Int32).toInt ≤ 100 by decide⟩
  · replace hs : s < n := hs
    rw [z _ (by omega) (by omega) (fun k _ => by omega), z _ (by omega) (by omega) (fun k _ => by omega)]
    exact ⟨rfl, rfl, Or.inl rfl, Or.inl rfl⟩
  · rw [z 3 (by omega) (by omega) (fun k _ => by omega)]; decide
  · rw [z 8 (by omega) (by omega) (fun k _ => by omega)]; decide
  · rw [z 8 (by omega) (by omega) (fun k _ => by omega), z 3 (by omega) (by omega) (fun k _ => by omega)]; decide
  · show (0 : Int32).toInt ≤ c.toInt ∧ 0 ≤ (0 : Int32).toInt
    rw [zz.2]; exact ⟨hc.2, Int.le_refl _⟩
theorem rfS_adv {len : Nat} {cB : Nat → Int32} {s : RS} : rfS (advR len cB s) = rfS s := rfl
/-- a whole text -/
theorem head_sim {len : Nat} {cB rB : Nat → Int32} (hlen : len ≤ 800) (hB : BRel cB rB) (s : RS) (t : MS) {f : RM} {g : LQ → LQ} (hfg : ∀ s X, SJ len cB s X → RES len cB (f s) (g X)) (hg : ∀ X, ¬ X.1.er = 0 → g X = X) : RES len cB (andM (tunR len cB) (andM (sgnR len cB 59) f) (initR len cB s)) (g (ldH rB (ldS t len))) := by
  have h0 : TR len cB (initR len cB s) (ldS t len) := ⟨⟨s.tk.2.2.1, rfl⟩, rfl, rfl, Nat.zero_le _⟩
  have f0 : (initR len cB s).T = clr s.T ∧ (initR len cB s).P = P0 ∧ (initR len cB s).bays = 0 ∧ (initR len cB s).fr = 0 ∧ (initR len cB s).dr = 0 ∧ (initR len cB s).rr = 0 := ⟨rfl, rfl, rfl, rfl, rfl, rfl⟩
  have m0 : ((ldS t len).ne, (ldS t len).ea) = (0, -1) ∧ (ldS t len).ba = 0 ∧ (ldS t len).se = 0 := ⟨rfl, rfl, rfl⟩
  generalize initR len cB s = s0 at h0 f0 ⊢
  generalize ldS t len = t0 at h0 m0 ⊢
  have w0 := word_sim hlen hB h0 (i := 0) (by decide)
  have fin : ∀ Y : LQ, ERR (failR (-2) s0) Y.1 → RES len cB (false, failR (-2) s0) (g Y) := fun Y h => by
    rw [hg Y h.2.2]; exact ⟨fun h9 => no_t h9, fun _ => h⟩
  by_cases c : wdR cB s0 0 = true
  · obtain ⟨q1, q2, q3⟩ := w0.2.1 c
    have eC : tunR len cB s0 = andM (numR len cB 2 12) (tunK len cB) (advR len cB s0) := by rw [tunR, if_pos c]
    have eB : ldB rB t0 = (twR rB 0 t0).2 := by rw [ldB, if_pos (w0.1.symm.trans c)]
    have eH : ldH rB t0 = (expR2 rB 59 (numM rB 1 4 (numM rB 2 12 (twR rB 0 t0).2).2).2, upd (upd ld0 0 (numM rB 2 12 (twR rB 0 t0).2).1) 1 (numM rB 1 4 (numM rB 2 12 (twR rB 0 t0).2).2).1) := by rw [ldH, ldK, ldN, eB]
    rw [eH]
    have n1 := num_sim hlen hB q1 (lo := 2) (hi := 12) (by decide)
    generalize (twR rB 0 t0).2 = t1 at q1 q2 n1 ⊢
    have fs1 : rfS (advR len cB s0) = rfS s0 := rfS_adv
    generalize advR len cB s0 = s1 at q1 q3 eC n1 fs1
    by_cases e1 : (numR len cB 2 12 s1).1 = true
    · obtain ⟨a1, a2, _, a4, a5, _⟩ := n1.1 e1
      have hr1 := num_rng e1
      have eC2 : tunR len cB s0 = tunK len cB (numR len cB 2 12 s1).2 := by rw [eC, andM_t e1]
      generalize (numR len cB 2 12 s1).2 = s2 at a1 a2 a4 hr1 eC2
      rw [← a2]
      generalize (numM rB 2 12 t1).2 = t2 at a1 a5 ⊢
      have hnum : ∃ n, n ≤ 12 ∧ s2.num = nI n := by
        refine ⟨s2.num.toInt.toNat, ?_, ?_⟩
        · have x2 := Int32.le_iff_toInt_le.mp (Int32.not_lt.mp (fun h9 => hr1 (Or.inr h9)))
          have c2 : (12 : Int32).toInt = 12 := by decide
          omega
        · have x1 := Int32.le_iff_toInt_le.mp (Int32.not_lt.mp (fun h9 => hr1 (Or.inl h9)))
          have x2 := Int32.le_iff_toInt_le.mp (Int32.not_lt.mp (fun h9 => hr1 (Or.inr h9)))
          have c1 : (2 : Int32).toInt = 2 := by decide
          have c2 : (12 : Int32).toInt = 12 := by decide
          apply Int32.toInt_inj.mp
          rw [nI_toInt (by omega)]
          omega
      obtain ⟨n, hn, en⟩ := hnum
      have eix : s2.ix = n := by rw [RS.ix, en]; exact nI_clamp (by omega)
      have hT2 : TR len cB (s2.wP (sN s2.P s2.ix)) t2 := ⟨a1.1, a1.2⟩
      have n2 := num_sim hlen hB hT2 (lo := 1) (hi := 4) (by decide)
      have eC3 : tunK len cB s2 = andM (numR len cB 1 4) tunK2 (s2.wP (sN s2.P s2.ix)) := rfl
      rw [eC3] at eC2
      have fs2 : rfS (s2.wP (sN s2.P s2.ix)) = (s2.bays, s2.fr, s2.dr, s2.rr, s2.cc, s2.co, s2.T, sN s2.P s2.ix) := rfl
      generalize s2.wP (sN s2.P s2.ix) = s3 at hT2 n2 eC2 fs2
      by_cases e2 : (numR len cB 1 4 s3).1 = true
      · obtain ⟨b1, b2, _, b4, b5, _⟩ := n2.1 e2
        have hr2 := num_rng e2
        rw [andM_t e2] at eC2
        have eT : tunK2 (numR len cB 1 4 s3).2 = (true, (numR len cB 1 4 s3).2.wP (sCap (numR len cB 1 4 s3).2.P (numR len cB 1 4 s3).2.num)) := rfl
        rw [eT] at eC2
        generalize (numR len cB 1 4 s3).2 = s4 at b1 b2 b4 hr2 eC2
        rw [← b2]
        generalize (numM rB 1 4 t2).2 = t3 at b1 b5 ⊢
        rw [andM_t (by rw [eC2]), eC2]
        have hcap : s4.num.toInt ≤ 4 ∧ 0 ≤ s4.num.toInt := by
          have x1 := Int32.le_iff_toInt_le.mp (Int32.not_lt.mp (fun h9 => hr2 (Or.inl h9)))
          have x2 := Int32.le_iff_toInt_le.mp (Int32.not_lt.mp (fun h9 => hr2 (Or.inr h9)))
          have c1 : (1 : Int32).toInt = 1 := by decide
          have c2 : (4 : Int32).toInt = 4 := by decide
          omega
        obtain ⟨f1, f2, f3, f4, f5, f6, f7, f8⟩ := rfS_b (a4.trans fs1)
        have b4' : rfS s4 = (s2.bays, s2.fr, s2.dr, s2.rr, s2.cc, s2.co, s2.T, sN s2.P s2.ix) := b4.trans fs2
        unfold rfS at b4'
        simp only [Prod.mk.injEq] at b4'
        obtain ⟨g1, g2, g3, g4, g5, g6, g7, g8⟩ := b4'
        obtain ⟨m1, m2, m3⟩ := rfM_b (b5.trans (a5.trans q2))
        have hrs := rel_start hn hcap s.T
        have eP : s4.P = sN P0 n := by
          rw [g8, eix, f8, f0.2.1]
        have eT4 : s4.T = clr s.T := by
          rw [g7]; exact f7.trans f0.1
        have hSD : SD (s4.wP (sCap s4.P s4.num)) (t3, upd (upd ld0 0 s2.num) 1 s4.num) := by
          refine ⟨?_, ?_, ⟨0, by decide, ?_, ?_⟩, ⟨0, by decide, ?_, ?_, ?_, ?_, fun _ => ⟨?_, ?_⟩⟩, m1.trans m0.1⟩
          · show Rel (sCap s4.P s4.num) s4.T (upd (upd ld0 0 s2.num) 1 s4.num)
            rw [eP, eT4, en]; exact hrs.1
          · show LD (sCap s4.P s4.num) s4.T (upd (upd ld0 0 s2.num) 1 s4.num)
            rw [eP, eT4, en]; exact hrs.2
          · show s4.bays = nI 0
            rw [nI01.1, g1, f1]; exact f0.2.2.1
          · show t3.ba = nI 0
            rw [nI01.1, m2]; exact m0.2.1
          · show t3.se = nI 0
            rw [nI01.1, m3]; exact m0.2.2
          · show s4.fr = nI 0
            rw [nI01.1, g2, f2]; exact f0.2.2.2.1
          · show s4.dr = nI 0
            rw [nI01.1, g3, f3]; exact f0.2.2.2.2.1
          · show s4.rr = nI 0
            rw [nI01.1, g4, f4]; exact f0.2.2.2.2.2
          · show upd (upd ld0 0 s2.num) 1 s4.num 6 = 0
            rw [u_ne (by decide), u_ne (by decide), ld0_z (by decide) (fun k _ => by omega)]
          · show upd (upd ld0 0 s2.num) 1 s4.num 7 = 0
            rw [u_ne (by decide), u_ne (by decide), ld0_z (by decide) (fun k _ => by omega)]
        have hT4 : TR len cB (s4.wP (sCap s4.P s4.num)) t3 := ⟨b1.1, b1.2⟩
        have hs := sgn_sim hlen hB hT4 (c := 59) (by decide) (by decide) (by decide)
        show RES len cB (andM (sgnR len cB 59) f (s4.wP (sCap s4.P s4.num))) _
        generalize s4.wP (sCap s4.P s4.num) = s5 at hSD hT4 hs ⊢
        generalize upd (upd ld0 0 s2.num) 1 s4.num = D5 at hSD ⊢
        by_cases e9 : (sgnR len cB 59 s5).1 = true
        · rw [andM_t e9]
          obtain ⟨p1, p2, p3, _⟩ := hs.1 e9
          change TR len cB (sgnR len cB 59 s5).2 (expR2 rB 59 t3) at p1
          change rfS (sgnR len cB 59 s5).2 = _ at p2
          change rfM (expR2 rB 59 t3) = _ at p3
          exact hfg _ (expR2 rB 59 t3, D5) ⟨p1, (hSD.m (t := expR2 rB 59 t3) p3).s p2⟩
        · rw [andM_f e9]
          have he := hs.2 e9
          change ERR (sgnR len cB 59 s5).2 (expR2 rB 59 t3) at he
          rw [hg (expR2 rB 59 t3, D5) he.2.2]
          exact ⟨fun h9 => no_t h9, fun _ => he⟩
      · have he := n2.2 e2
        rw [andM_f e2] at eC2
        rw [andM_f (by rw [eC2]; exact fun h => no_t h), eC2, ek_exp he.2.2, hg (_, _) he.2.2]
        exact ⟨fun h9 => no_t h9, fun _ => he⟩
    · have he := n1.2 e1
      have eC2 : tunR len cB s0 = (false, (numR len cB 2 12 s1).2) := by rw [eC, andM_f e1]
      rw [andM_f (by rw [eC2]; exact fun h => no_t h), eC2, ek_num (lo := 1) (hi := 4) he.2.2, ek_exp he.2.2, hg (_, _) he.2.2]
      exact ⟨fun h9 => no_t h9, fun _ => he⟩
  · obtain ⟨q1, q2, q3⟩ := w0.2.2 c
    have eC : tunR len cB s0 = (false, failR (-2) s0) := by rw [tunR, if_neg c]
    have eB : ldB rB t0 = repR (-2) (nI s0.tk.2.1) (twR rB 0 t0).2 := by
      rw [ldB, if_neg (fun h9 => c (w0.1.trans h9)), q3, (tr_st hlen hB h0).1]
    have hre := rep_err (k := -2) (o := nI s0.tk.2.1) (t := (twR rB 0 t0).2) q1.2.2.1 (by decide)
    have eH : (ldH rB t0).1 = repR (-2) (nI s0.tk.2.1) (twR rB 0 t0).2 := by
      rw [ldH, ldK, ldN, eB, ek_num (lo := 2) (hi := 12) hre.2.2, ek_num (lo := 1) (hi := 4) hre.2.2, ek_exp hre.2.2]
    rw [andM_f (by rw [eC]; exact fun h => no_t h), eC]
    exact fin _ (by rw [eH]; exact hre)
theorem text_sim {len : Nat} {cB rB : Nat → Int32} (hlen : len ≤ 800) (hB : BRel cB rB) (s : RS) (t : MS) : RES len cB (setupR len cB s) (ldF rB (ldS t len)) := by
  have h := head_sim hlen hB s t (f := stmtsR len cB 800) (g := liL rB 801) (fun s X h => stmts_sim hlen hB 800 s X h (by omega)) (fun X h => ek_li h 801)
  rw [setupR, ldF]
  exact h
