/-- which statements stood once: here, there -/
def FL (s : RS) (X : LQ) : Prop := ∃ k, k < 8 ∧ X.1.se = nI k ∧ s.fr = nI (k % 2) ∧ s.dr = nI (k / 2 % 2) ∧ s.rr = nI (k / 4) ∧ (k < 4 → X.2 6 = 0 ∧ X.2 7 = 0)
def SD (s : RS) (X : LQ) : Prop := Rel s.P s.T X.2 ∧ LD s.P s.T X.2 ∧ (∃ b, b ≤ 6 ∧ s.bays = nI b ∧ X.1.ba = nI b) ∧ FL s X ∧ (X.1.ne, X.1.ea) = (0, -1)
/-- at a statement's word, here; behind it, there -/
def KI (len : Nat) (cB : Nat → Int32) (st : Int32) (s : RS) (X : LQ) : Prop := TR len cB (advR len cB s) X.1 ∧ st = nI s.tk.2.1 ∧ SD s X
def SJ (len : Nat) (cB : Nat → Int32) (s : RS) (X : LQ) : Prop := TR len cB s X.1 ∧ SD s X
theorem rfS_b {s s2 : RS} (h : rfS s2 = rfS s) : s2.bays = s.bays ∧ s2.fr = s.fr ∧ s2.dr = s.dr ∧ s2.rr = s.rr ∧ s2.cc = s.cc ∧ s2.co = s.co ∧ s2.T = s.T ∧ s2.P = s.P := by
  unfold rfS at h
  simp only [Prod.mk.injEq] at h
  exact h
theorem rfM_b {t t2 : MS} (h : rfM t2 = rfM t) : (t2.ne, t2.ea) = (t.ne, t.ea) ∧ t2.ba = t.ba ∧ t2.se = t.se := by
  unfold rfM at h
  simp only [Prod.mk.injEq] at h
  exact ⟨by rw [h.1.1, h.1.2], h.2.1, h.2.2.1⟩
theorem FL.u {s s2 : RS} {X X2 : LQ} (h : FL s X) (hs : s2.fr = s.fr ∧ s2.dr = s.dr ∧ s2.rr = s.rr) (ht : X2.1.se = X.1.se) (hd : X2.2 6 = X.2 6 ∧ X2.2 7 = X.2 7) : FL s2 X2 := by
  obtain ⟨k, h1, h2, h3, h4, h5, h6⟩ := h
  exact ⟨k, h1, ht.trans h2, hs.1.trans h3, hs.2.1.trans h4, hs.2.2.trans h5, by rw [hd.1, hd.2]; exact h6⟩
theorem fs_sim {len : Nat} {cB rB : Nat → Int32} (hlen : len ≤ 800) (hB : BRel cB rB) {s : RS} {t : MS} (h : TR len cB s t) {D : Nat → Int32} (hn : pN s.P ≤ 12) (hD : D 0 = nI (pN s.P)) {mk : Nat} {vl : Int32} :
    ((secR len cB s).1 = true → ∃ k, k < pN s.P ∧ (secR len cB s).2.num = nI k ∧ (fsM rB D mk vl t).1 = 12 + 7 * nI k ∧ rfS (secR len cB s).2 = rfS s ∧ (D (12 + 7 * k + mk) = vl → TR len cB (secR len cB s).2 (fsM rB D mk vl t).2 ∧ rfM (fsM rB D mk vl t).2 = rfM t) ∧ (¬ D (12 + 7 * k + mk) = vl → ERR (failN (-3) (secR len cB s).2) (fsM rB D mk vl t).2)) ∧
    (¬ (secR len cB s).1 = true → ERR (secR len cB s).2 (fsM rB D mk vl t).2) := by
  have q := sec_sim hlen hB h hn hD
  constructor
  · intro e
    obtain ⟨p1, ⟨k, hk, e1, e2⟩, e3, p4, p5⟩ := q.1 e
    have ek : (rsM rB D t).1.toNatClampNeg = k := by rw [e2]; exact nI_clamp (by omega)
    refine ⟨k, hk, e1, by show 12 + 7 * (rsM rB D t).1 = _; rw [e2], p4, fun hv => ?_, fun hv => ?_⟩
    · have ef : (fsM rB D mk vl t).2 = (rsM rB D t).2 := by
        show (if _ ∧ _ then _ else _) = _
        rw [ek, if_neg (fun h9 => h9.2 hv)]
      rw [ef]; exact ⟨p1, p5⟩
    · have ef : (fsM rB D mk vl t).2 = repR (-3) (rsM rB D t).2.ns (rsM rB D t).2 := by
        show (if _ ∧ _ then _ else _) = _
        rw [ek, if_pos ⟨p1.2.2.1, hv⟩]
      rw [ef, ← e3]
      exact rep_err (k := -3) (o := (secR len cB s).2.nof) (t := (rsM rB D t).2) p1.2.2.1 (by decide)
  · intro e
    have he := q.2 e
    have ef : (fsM rB D mk vl t).2 = (rsM rB D t).2 := by
      show (if _ ∧ _ then _ else _) = _
      rw [if_neg (fun h9 => he.2.2 h9.1)]
    rw [ef]; exact he
theorem ix7 : ∀ k, k < 12 → (12 + 7 * nI k + 1).toNatClampNeg = 12 + 7 * k + 1 ∧ (12 + 7 * nI k + 2).toNatClampNeg = 12 + 7 * k + 2 ∧ (12 + 7 * nI k + 3).toNatClampNeg = 12 + 7 * k + 3 ∧ (12 + 7 * nI k + 4).toNatClampNeg = 12 + 7 * k + 4 := by decide +kernel
theorem on_bk : ∀ k, k < 8 → ((nI k >>> ((0 : Int32) &&& 31)) &&& 1 = 1 ↔ k % 2 = 1) ∧ ((nI k >>> ((1 : Int32) &&& 31)) &&& 1 = 1 ↔ k / 2 % 2 = 1) ∧ ((nI k >>> ((2 : Int32) &&& 31)) &&& 1 = 1 ↔ k / 4 = 1) ∧ (k % 2 = 0 → nI k ||| (1 <<< ((0 : Int32) &&& 31)) = nI (k + 1)) ∧ (k / 2 % 2 = 0 → nI k ||| (1 <<< ((1 : Int32) &&& 31)) = nI (k + 2)) ∧ (k / 4 = 0 → nI k ||| (1 <<< ((2 : Int32) &&& 31)) = nI (k + 4)) := by decide +kernel
theorem no_t {p : Prop} (h : (false : Bool) = true) : p := absurd h (by decide)
theorem bay_sim {len : Nat} {cB rB : Nat → Int32} (hlen : len ≤ 800) (hB : BRel cB rB) {st : Int32} : Sim (bayR len cB) (bayM rB st) (KI len cB st) (SJ len cB) := by
  rintro s X ⟨hT, hst, hR, hL, ⟨b, hb, eb1, eb2⟩, hF, hne⟩
  have hn := hR.n
  by_cases b6 : b = 6
  · have eC : bayR len cB s = (false, failR (-4) s) := by rw [bayR, if_neg (by rw [eb1, b6]; decide)]
    have eR : rbS st X.1 = repR (-4) st X.1 := by rw [rbS, if_pos (by rw [eb2, b6]; rfl)]
    have hre := rep_err (k := -4) (o := st) (t := X.1) hT.2.2.1 (by decide)
    have hfs := ek_fs (B := rB) (D := X.2) (mk := 4) (vl := -1) (t := rbS st X.1) (by rw [eR]; exact hre.2.2)
    rw [eC, bayM]
    generalize fsM rB X.2 4 (-1) (rbS st X.1) = Fq at hfs ⊢
    rw [hfs, eR]
    generalize repR (-4) st X.1 = tq at hre ⊢
    exact ⟨fun h9 => no_t h9, fun _ => ⟨hre.1, hre.2.1.trans hst, hre.2.2⟩⟩
  · have hlt : s.bays < 6 := by
      have hk : ∀ b, b ≤ 6 → ¬ b = 6 → nI b < 6 := by decide
      rw [eb1]; exact hk b hb b6
    have eC : bayR len cB s = andM (secR len cB) bayK (advR len cB s) := by rw [bayR, if_pos hlt]
    have eR : rbS st X.1 = X.1 := by
      rw [rbS, if_neg]
      have hk : ∀ b, b ≤ 6 → ¬ b = 6 → ¬ nI b = 6 := by decide
      rw [eb2]; exact hk b hb b6
    have q := fs_sim hlen hB hT (D := X.2) (show pN (advR len cB s).P ≤ 12 from hn) hR.1.1.1 (mk := 4) (vl := -1)
    rw [eC]
    have eM : bayM rB st X = ((fsM rB X.2 4 (-1) X.1).2.wba ((fsM rB X.2 4 (-1) X.1).2.ba + 1), upd X.2 ((fsM rB X.2 4 (-1) X.1).1 + 4).toNatClampNeg 1) := by rw [bayM, eR]
    rw [eM]
    by_cases e : (secR len cB (advR len cB s)).1 = true
    · obtain ⟨k, hk, e1, e2, e3, e4, e5⟩ := q.1 e
      rw [andM_t e, e2]
      generalize (secR len cB (advR len cB s)).2 = s1 at e1 e3 e4 e5 ⊢
      generalize (fsM rB X.2 4 (-1) X.1).2 = t1 at e4 e5 ⊢
      obtain ⟨f1, f2, f3, f4, f5, f6, f7, f8⟩ := rfS_b e3
      replace f7 : s1.T = s.T := f7
      replace f8 : s1.P = s.P := f8
      replace hk : k < pN s.P := hk
      have ei : s1.ix = k := by rw [RS.ix, e1]; exact nI_clamp (by omega)
      have ed : X.2 (12 + 7 * k + 4) = tBay s.T k := (hR.1.2.1 k hk).1
      by_cases hv : tBay s.T k = -1
      · have eK : bayK s1 = (true, (s1.wT (sBay s.T (upd (tBay s.T) k 1))).wbays (s1.bays + 1)) := by rw [bayK, ei, f7, if_pos hv]
        obtain ⟨p1, p2⟩ := e4 (ed.trans hv)
        obtain ⟨m1, m2, m3⟩ := rfM_b p2
        rw [eK, (ix7 k (by omega)).2.2.2]
        refine ⟨fun _ => ⟨⟨p1.1, p1.2⟩, ?_, ?_, ⟨b + 1, by omega, ?_, ?_⟩, hF.u ⟨f2, f3, f4⟩ m3 ⟨u_ne (by omega), u_ne (by omega)⟩, m1.trans hne⟩, fun h9 => absurd rfl h9⟩
        · show Rel s1.P (sBay s.T (upd (tBay s.T) k 1)) (upd X.2 (12 + 7 * k + 4) 1)
          rw [f8]; exact rel_bay hR hk (Or.inr rfl)
        · show LD s1.P (sBay s.T (upd (tBay s.T) k 1)) (upd X.2 (12 + 7 * k + 4) 1)
          rw [f8]; exact hL.u ⟨rfl, rfl⟩ ⟨rfl, rfl⟩ (fun c hc => ⟨u_ne (by omega), u_ne (by omega)⟩)
        · show s1.bays + 1 = nI (b + 1)
          rw [show s1.bays = s.bays from f1, eb1]; exact (nI_suc2 b).symm
        · show t1.ba + 1 = nI (b + 1)
          rw [m2, eb2]; exact (nI_suc2 b).symm
      · have eK : bayK s1 = (false, failN (-3) s1) := by rw [bayK, ei, f7, if_neg hv]
        have he := e5 (fun h9 => hv (ed.symm.trans h9))
        rw [eK]
        exact ⟨fun h9 => no_t h9, fun _ => he⟩
    · rw [andM_f e]
      exact ⟨fun h9 => no_t h9, fun _ => q.2 e⟩
theorem num_rng {len : Nat} {cB : Nat → Int32} {lo hi : Int32} {s : RS} (h : (numR len cB lo hi s).1 = true) : ¬ ((numR len cB lo hi s).2.num < lo ∨ hi < (numR len cB lo hi s).2.num) := by
  revert h
  unfold numR
  split
  · split
    · exact fun h => no_t h
    · rename_i h2
      exact fun _ => h2
  · exact fun h => no_t h
theorem vent_sim {len : Nat} {cB rB : Nat → Int32} (hlen : len ≤ 800) (hB : BRel cB rB) {st : Int32} : Sim (ventR len cB) (ventM rB) (KI len cB st) (SJ len cB) := by
  rintro s X ⟨hT, hst, hR, hL, hb, hF, hne⟩
  have hn := hR.n
  have q := fs_sim hlen hB hT (D := X.2) (show pN (advR len cB s).P ≤ 12 from hn) hR.1.1.1 (mk := 3) (vl := 0)
  rw [ventR]
  by_cases e : (secR len cB (advR len cB s)).1 = true
  · obtain ⟨k, hk, e1, e2, e3, e4, e5⟩ := q.1 e
    rw [andM_t e, ventM, e2]
    generalize (secR len cB (advR len cB s)).2 = s1 at e1 e3 e4 e5 ⊢
    generalize (fsM rB X.2 3 0 X.1).2 = t1 at e4 e5 ⊢
    obtain ⟨f1, f2, f3, f4, f5, f6, f7, f8⟩ := rfS_b e3
    replace f7 : s1.T = s.T := f7
    replace f8 : s1.P = s.P := f8
    replace hk : k < pN s.P := hk
    have ei : s1.ix = k := by rw [RS.ix, e1]; exact nI_clamp (by omega)
    have ed : X.2 (12 + 7 * k + 3) = pVent s.P k := (hR.2.2.1.2.2 k hk).1
    by_cases hv : pVent s.P k = 0
    · have eK : ventK len cB s1 = andM (numR len cB 1 100) (ventK2 k) s1 := by rw [ventK, ei, f8, if_pos hv]
      obtain ⟨p1, p2⟩ := e4 (ed.trans hv)
      have hs := num_sim hlen hB p1 (lo := 1) (hi := 100) (by decide)
      rw [eK, (ix7 k (by omega)).2.2.1]
      by_cases e9 : (numR len cB 1 100 s1).1 = true
      · have hrg := num_rng e9
        obtain ⟨a1, a2, a3, a4, a5, _⟩ := hs.1 e9
        rw [andM_t e9]
        rw [← a2]
        generalize (numR len cB 1 100 s1).2 = s2 at hrg a1 a2 a4 ⊢
        generalize (numM rB 1 100 t1).2 = t2 at a1 a5 ⊢
        obtain ⟨g1, g2, g3, g4, g5, g6, g7, g8⟩ := rfS_b a4
        obtain ⟨m1, m2, m3⟩ := rfM_b (a5.trans p2)
        have hr2 : 0 ≤ s2.num.toInt ∧ s2.num.toInt ≤ 100 := by
          have c1 : (1 : Int32).toInt = 1 := by decide
          have c2 : (100 : Int32).toInt = 100 := by decide
          have x1 := Int32.not_lt.mp (fun h9 => hrg (Or.inl h9))
          have x2 := Int32.not_lt.mp (fun h9 => hrg (Or.inr h9))
          have := Int32.le_iff_toInt_le.mp x1
          have := Int32.le_iff_toInt_le.mp x2
          omega
        refine ⟨fun _ => ⟨⟨a1.1, a1.2⟩, ?_, ?_, ?_, hF.u ⟨g2.trans f2, g3.trans f3, g4.trans f4⟩ m3 ⟨u_ne (by omega), u_ne (by omega)⟩, m1.trans hne⟩, fun h9 => absurd rfl h9⟩
        · show Rel (sVent s2.P (upd (pVent s2.P) k s2.num)) s2.T (upd X.2 (12 + 7 * k + 3) s2.num)
          rw [g8, f8, g7, f7]; exact rel_vent hR hk hr2
        · show LD (sVent s2.P (upd (pVent s2.P) k s2.num)) s2.T (upd X.2 (12 + 7 * k + 3) s2.num)
          rw [g8, f8, g7, f7]; exact hL.u ⟨rfl, rfl⟩ ⟨rfl, rfl⟩ (fun c hc => ⟨u_ne (by omega), u_ne (by omega)⟩)
        · show ∃ b, b ≤ 6 ∧ s2.bays = nI b ∧ t2.ba = nI b
          rw [g1, f1, m2]; exact hb
      · rw [andM_f e9]
        exact ⟨fun h9 => no_t h9, fun _ => hs.2 e9⟩
    · have eK : ventK len cB s1 = (false, failN (-3) s1) := by rw [ventK, ei, f8, if_neg hv]
      have he := e5 (fun h9 => hv (ed.symm.trans h9))
      rw [eK, ek_num he.2.2]
      exact ⟨fun h9 => no_t h9, fun _ => he⟩
  · have he := q.2 e
    rw [andM_f e, ventM, ek_num he.2.2]
    exact ⟨fun h9 => no_t h9, fun _ => he⟩
theorem fan_sim {len : Nat} {cB rB : Nat → Int32} (hlen : len ≤ 800) (hB : BRel cB rB) {st : Int32} : Sim (fanR len cB) (fanM rB) (KI len cB st) (SJ len cB) := by
  rintro s X ⟨hT, hst, hR, hL, hb, hF, hne⟩
  have hn := hR.n
  have q := fs_sim hlen hB hT (D := X.2) (show pN (advR len cB s).P ≤ 12 from hn) hR.1.1.1 (mk := 1) (vl := 0)
  rw [fanR]
  by_cases e : (secR len cB (advR len cB s)).1 = true
  · obtain ⟨k, hk, e1, e2, e3, e4, e5⟩ := q.1 e
    rw [andM_t e, fanM, e2]
    generalize (secR len cB (advR len cB s)).2 = s1 at e1 e3 e4 e5 ⊢
    generalize (fsM rB X.2 1 0 X.1).2 = t1 at e4 e5 ⊢
    obtain ⟨f1, f2, f3, f4, f5, f6, f7, f8⟩ := rfS_b e3
    replace f7 : s1.T = s.T := f7
    replace f8 : s1.P = s.P := f8
    replace hk : k < pN s.P := hk
    have ei : s1.ix = k := by rw [RS.ix, e1]; exact nI_clamp (by omega)
    have ed : X.2 (12 + 7 * k + 1) = pHf s.P k := (hR.2.2.2.1.2.1 k hk).2.1
    by_cases hv : pHf s.P k = 0
    · have eK : fanK len cB s1 = andM (setR len cB 10) (fanK2 k) s1 := by rw [fanK, ei, f8, if_pos hv]
      obtain ⟨p1, p2⟩ := e4 (ed.trans hv)
      have hs := set_sim hlen hB p1 (lm := 10) (by decide)
      rw [eK, (ix7 k (by omega)).1, (ix7 k (by omega)).2.1]
      by_cases e9 : (setR len cB 10 s1).1 = true
      · obtain ⟨a1, a2, a4, a5⟩ := hs.1 e9
        rw [andM_t e9]
        rw [← a2]
        generalize (setR len cB 10 s1).2 = s2 at a1 a2 a4 ⊢
        generalize (setM rB 10 t1).2 = t2 at a1 a5 ⊢
        obtain ⟨g1, g2, g3, g4, g5, g6, g7, g8⟩ := rfS_b a4
        obtain ⟨m1, m2, m3⟩ := rfM_b (a5.trans p2)
        refine ⟨fun _ => ⟨⟨a1.1, a1.2⟩, ?_, ?_, ?_, hF.u ⟨g2.trans f2, g3.trans f3, g4.trans f4⟩ m3 ⟨(u_ne (by omega)).trans (u_ne (by omega)), (u_ne (by omega)).trans (u_ne (by omega))⟩, m1.trans hne⟩, fun h9 => absurd rfl h9⟩
        · show Rel (sHf s2.P (upd (pHf s2.P) k 1)) (sFan s2.T (upd (tFan s2.T) k s2.num)) (upd (upd X.2 (12 + 7 * k + 1) 1) (12 + 7 * k + 2) s2.num)
          rw [g8, f8, g7, f7]; exact rel_fan (rel_hf hR hk) hk s2.num
        · show LD (sHf s2.P (upd (pHf s2.P) k 1)) (sFan s2.T (upd (tFan s2.T) k s2.num)) (upd (upd X.2 (12 + 7 * k + 1) 1) (12 + 7 * k + 2) s2.num)
          rw [g8, f8, g7, f7]; exact hL.u ⟨rfl, rfl⟩ ⟨rfl, rfl⟩ (fun c hc => ⟨(u_ne (by omega)).trans (u_ne (by omega)), (u_ne (by omega)).trans (u_ne (by omega))⟩)
        · show ∃ b, b ≤ 6 ∧ s2.bays = nI b ∧ t2.ba = nI b
          rw [g1, f1, m2]; exact hb
      · rw [andM_f e9]
        exact ⟨fun h9 => no_t h9, fun _ => hs.2 e9⟩
    · have eK : fanK len cB s1 = (false, failN (-3) s1) := by rw [fanK, ei, f8, if_neg hv]
      have he := e5 (fun h9 => hv (ed.symm.trans h9))
      rw [eK, ek_set he.2.2]
      exact ⟨fun h9 => no_t h9, fun _ => he⟩
  · have he := q.2 e
    rw [andM_f e, fanM, ek_set he.2.2]
    exact ⟨fun h9 => no_t h9, fun _ => he⟩
