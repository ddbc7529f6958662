theorem car_sim {len : Nat} {cB rB : Nat → Int32} (hlen : len ≤ 800) (hB : BRel cB rB) {st : Int32} : Sim (carR len cB) (carM rB st) (KI len cB st) (SJ len cB) := by
  rintro s X ⟨hT, hst, hR, hL, hb, hF, hne⟩
  have hn := hR.n
  have hnc := hR.nc
  have e2 : X.2 2 = nI (pCar s.P) := hR.1.1.2.2.1
  have hi2 : X.2 2 = 20 ↔ pCar s.P = 20 := by
    rw [e2]; exact nI_eq (a := pCar s.P) (b := 20) (by omega) (by omega)
  by_cases c20 : pCar s.P = 20
  · have eC : carR len cB s = (false, failR (-4) s) := by rw [carR, if_neg (by omega)]
    have eR : rcS st X = repR (-4) st X.1 := by rw [rcS, if_pos (hi2.mpr c20)]
    have hre := rep_err (k := -4) (o := st) (t := X.1) hT.2.2.1 (by decide)
    have h1 : (rcR rB st X).2 = repR (-4) st X.1 := by rw [rcR, eR, ek_rs hre.2.2]
    have h2 : (rcW rB st X).2 = repR (-4) st X.1 := by rw [rcW, h1, ek_way hre.2.2]
    have h3 : rcE rB st X = repR (-4) st X.1 := by rw [rcE, if_neg (fun h9 => by rw [h2] at h9; exact hre.2.2 h9.1), h2]
    rw [eC, carM, h3]
    exact ⟨fun h9 => no_t h9, fun _ => ⟨hre.1, hre.2.1.trans hst, hre.2.2⟩⟩
  · have hlt : pCar s.P < 20 := by omega
    have eC : carR len cB s = andM (secR len cB) (andM (wayR len cB) carK) (advR len cB s) := by rw [carR, if_pos hlt]
    have eR : rcS st X = X.1 := by rw [rcS, if_neg (fun h9 => c20 (hi2.mp h9))]
    have q := sec_sim hlen hB hT (D := X.2) (show pN (advR len cB s).P ≤ 12 from hn) hR.1.1.1
    have eRR : rcR rB st X = rsM rB X.2 X.1 := by rw [rcR, eR]
    rw [eC]
    by_cases e : (secR len cB (advR len cB s)).1 = true
    · obtain ⟨p1, ⟨k, hk, e1, e2'⟩, e3, p4, p5⟩ := q.1 e
      have q2 := way_sim hlen hB p1
      rw [andM_t e]
      have eW : rcW rB st X = wayM rB (rsM rB X.2 X.1).2 := by rw [rcW, eRR]
      by_cases ew : (wayR len cB (secR len cB (advR len cB s)).2).1 = true
      · obtain ⟨a1, a2, a3, a4, a5, a6, a7⟩ := q2.1 ew
        rw [andM_t ew]
        have hns : (wayR len cB (secR len cB (advR len cB s)).2).2.nof = (rsM rB X.2 X.1).2.ns := a6.trans e3
        have hnum : (wayR len cB (secR len cB (advR len cB s)).2).2.num = nI k := a5.trans e1
        have hfs := a4.trans p4
        have hfm := a7.trans p5
        have eE : rcE rB st X = if (rcW rB st X).2.er = 0 ∧ laneR X.2 (rcR rB st X).1 (rcW rB st X).1 (X.2 2).toNatClampNeg = X.2 1 then repR (-3) (rcR rB st X).2.ns (rcW rB st X).2 else (rcW rB st X).2 := rfl
        rw [eRR, eW, e2'] at eE
        rw [carM, eRR, eW, e2', ← a2]
        rw [← a2, ← hns] at eE
        generalize (wayR len cB (secR len cB (advR len cB s)).2).2 = s1 at a1 a2 hns hnum hfs eE ⊢
        rw [← a2] at a3
        generalize (wayM rB (rsM rB X.2 X.1).2).2 = t1 at a1 hfm eE ⊢
        generalize rcE rB st X = t2 at eE ⊢
        obtain ⟨f1, f2, f3, f4, f5, f6, f7, f8⟩ := rfS_b hfs
        replace f7 : s1.T = s.T := f7
        replace f8 : s1.P = s.P := f8
        replace hk : k < pN s.P := hk
        obtain ⟨m1, m2, m3⟩ := rfM_b hfm
        have ecl : (X.2 2).toNatClampNeg = pCar s.P := by rw [e2]; exact nI_clamp (by omega)
        have el : laneR X.2 (nI k) s1.way (pCar s.P) = tLane s.T (lx (nI k) s1.way) := (hR.1.2.2.2.1 k hk s1.way a3).symm
        have ecap : X.2 1 = pCap s.P := hR.1.1.2.1
        have hlq := hL.2.1 k hk s1.way a3
        rw [ecl, el, ecap] at eE
        have hx : tLane s.T (lx (nI k) s1.way) = pCap s.P ↔ pCap s.P ≤ tLane s.T (lx (nI k) s1.way) := by
          constructor
          · intro h9; rw [h9]; exact Int32.le_refl _
          · intro h9
            have := Int32.le_iff_toInt_le.mp h9
            exact Int32.toInt_inj.mp (by omega)
        by_cases hr : pCap s.P ≤ tLane s.T (lx (nI k) s1.way)
        · have eK : carK s1 = (false, failN (-3) s1) := by rw [carK, hnum, f7, f8, roomF, if_pos hr, if_pos rfl]
          rw [if_pos ⟨a1.2.2.1, hx.mpr hr⟩] at eE
          rw [eK, eE]
          have hre := rep_err (k := -3) (o := s1.nof) (t := t1) a1.2.2.1 (by decide)
          exact ⟨fun h9 => no_t h9, fun _ => hre⟩
        · have eK : carK s1 = (true, (s1.wT (addF s.P (nI k) s1.way s.T)).wP (sCar s.P (pCar s.P + 1))) := by rw [carK, hnum, f7, f8, roomF, if_neg hr, if_neg (by decide)]
          rw [if_neg (fun h9 => hr (hx.mp h9.2))] at eE
          have hcar := rel_car hR hL hlt (inn_n hk) a3 hr
          rw [eK, eE, if_pos a1.2.2.1]
          have hdd : ∀ j, j = 6 ∨ j = 7 → rcD (nI k) s1.way X.2 j = X.2 j := fun j hj => by
            rw [rcD, ecl, u_ne (by omega), u_ne (by omega), u_ne (by omega)]
          refine ⟨fun _ => ⟨⟨a1.1, a1.2⟩, hcar.1, hcar.2, ?_, hF.u ⟨f2, f3, f4⟩ m3 ⟨hdd 6 (Or.inl rfl), hdd 7 (Or.inr rfl)⟩, m1.trans hne⟩, fun h9 => absurd rfl h9⟩
          show ∃ b, b ≤ 6 ∧ s1.bays = nI b ∧ t1.ba = nI b
          rw [f1, m2]; exact hb
      · have he := q2.2 ew
        have h3 : rcE rB st X = (wayM rB (rsM rB X.2 X.1).2).2 := by rw [rcE, eW, if_neg (fun h9 => he.2.2 h9.1)]
        rw [andM_f ew, carM, h3]
        exact ⟨fun h9 => no_t h9, fun _ => he⟩
    · have he := q.2 e
      have h2 : (rcW rB st X).2 = (rsM rB X.2 X.1).2 := by rw [rcW, eRR, ek_way he.2.2]
      have h3 : rcE rB st X = (rsM rB X.2 X.1).2 := by rw [rcE, h2, if_neg (fun h9 => he.2.2 h9.1)]
      rw [andM_f e, carM, h3]
      exact ⟨fun h9 => no_t h9, fun _ => he⟩
theorem red_sim {len : Nat} {cB rB : Nat → Int32} (hlen : len ≤ 800) (hB : BRel cB rB) {st : Int32} : Sim (redR len cB) (redM rB) (KI len cB st) (SJ len cB) := by
  rintro s X ⟨hT, hst, hR, hL, hb, hF, hne⟩
  have hn := hR.n
  have q := sec_sim hlen hB hT (D := X.2) (show pN (advR len cB s).P ≤ 12 from hn) hR.1.1.1
  rw [redR]
  by_cases e : (secR len cB (advR len cB s)).1 = true
  · obtain ⟨p1, ⟨k, hk, e1, e2⟩, e3, p4, p5⟩ := q.1 e
    have q2 := way_sim hlen hB p1
    rw [andM_t e]
    by_cases ew : (wayR len cB (secR len cB (advR len cB s)).2).1 = true
    · obtain ⟨a1, a2, a3, a4, a5, a6, a7⟩ := q2.1 ew
      have hnum : (wayR len cB (secR len cB (advR len cB s)).2).2.num = nI k := a5.trans e1
      have hfs := a4.trans p4
      have hfm := a7.trans p5
      replace hk : k < pN s.P := hk
      have ek : (rsM rB X.2 X.1).1.toNatClampNeg = k := by rw [e2]; exact nI_clamp (by omega)
      rw [andM_t ew, redM, ek, ← a2]
      rw [← a2] at a3
      generalize (wayR len cB (secR len cB (advR len cB s)).2).2 = s1 at a1 a3 hnum hfs ⊢
      generalize (wayM rB (rsM rB X.2 X.1).2).2 = t1 at a1 hfm ⊢
      obtain ⟨f1, f2, f3, f4, f5, f6, f7, f8⟩ := rfS_b hfs
      replace f7 : s1.T = s.T := f7
      replace f8 : s1.P = s.P := f8
      replace hk : k < pN s.P := hk
      obtain ⟨m1, m2, m3⟩ := rfM_b hfm
      have hp : 12 + 7 * k + (if s1.way = 1 then 5 else 6) = 12 + 7 * k + 5 ∨ 12 + 7 * k + (if s1.way = 1 then 5 else 6) = 12 + 7 * k + 6 := by
        split
        · exact Or.inl rfl
        · exact Or.inr rfl
      have hrr := rel_red hR hk a3 (x := 1) (Or.inr rfl)
      generalize 12 + 7 * k + (if s1.way = 1 then 5 else 6) = p at hp hrr ⊢
      refine ⟨fun _ => ⟨⟨a1.1, a1.2⟩, ?_, ?_, ?_, hF.u ⟨f2, f3, f4⟩ m3 ⟨u_ne (by omega), u_ne (by omega)⟩, m1.trans hne⟩, fun h9 => absurd rfl h9⟩
      · show Rel s1.P (sRed s1.T (upd (tRed s1.T) (lx s1.num s1.way) 1)) (upd X.2 p 1)
        rw [f8, f7, hnum]; exact hrr
      · show LD s1.P (sRed s1.T (upd (tRed s1.T) (lx s1.num s1.way) 1)) (upd X.2 p 1)
        rw [f8, f7]; exact hL.u ⟨rfl, rfl⟩ ⟨rfl, rfl⟩ (fun c hc => ⟨u_ne (by omega), u_ne (by omega)⟩)
      · show ∃ b, b ≤ 6 ∧ s1.bays = nI b ∧ t1.ba = nI b
        rw [f1, m2]; exact hb
    · have he := q2.2 ew
      rw [andM_f ew, redM]
      exact ⟨fun h9 => no_t h9, fun _ => he⟩
  · have he := q.2 e
    rw [andM_f e, redM, ek_way he.2.2]
    exact ⟨fun h9 => no_t h9, fun _ => he⟩
/-- a statement that stands once -/
theorem nI01 : nI 0 = 0 ∧ nI 1 = 1 ∧ ¬ nI 1 = 0 := by decide
theorem fire_sim {len : Nat} {cB rB : Nat → Int32} (hlen : len ≤ 800) (hB : BRel cB rB) {st : Int32} : Sim (fireR len cB) (fireM rB st) (KI len cB st) (SJ len cB) := by
  rintro s X ⟨hT, hst, hR, hL, hb, ⟨kf, k1, k2, k3, k4, k5, k6⟩, hne⟩
  have hn := hR.n
  have hon := on_bk kf k1
  by_cases c : kf % 2 = 1
  · have eC : fireR len cB s = (false, failR (-2) s) := by rw [fireR, if_neg (by rw [k3, c]; decide)]
    have eR : onS 0 st X.1 = repR (-2) st X.1 := by rw [onS, k2, if_pos (hon.1.mpr c)]
    have hre := rep_err (k := -2) (o := st) (t := X.1) hT.2.2.1 (by decide)
    have h1 : ¬ (onM 0 st X.1).er = 0 := by rw [onM, eR]; exact hre.2.2
    rw [eC, fireM, ek_rs h1, onM, eR]
    generalize repR (-2) st X.1 = tq at hre ⊢
    exact ⟨fun h9 => no_t h9, fun _ => ⟨hre.1, hre.2.1.trans hst, hre.2.2⟩⟩
  · have c0 : kf % 2 = 0 := by omega
    have eC : fireR len cB s = andM (secR len cB) fireK (advR len cB (s.wfr 1)) := by rw [fireR, if_pos (by rw [k3, c0]; rfl)]
    have eR : onM 0 st X.1 = X.1.wse (nI (kf + 1)) := by rw [onM, onS, k2, if_neg (fun h9 => c (hon.1.mp h9)), k2, hon.2.2.2.1 c0]
    have hT2 : TR len cB (advR len cB (s.wfr 1)) (X.1.wse (nI (kf + 1))) := ⟨hT.1, hT.2⟩
    have q := sec_sim hlen hB hT2 (D := X.2) (show pN (advR len cB (s.wfr 1)).P ≤ 12 from hn) hR.1.1.1
    rw [eC, fireM, eR]
    by_cases e : (secR len cB (advR len cB (s.wfr 1))).1 = true
    · obtain ⟨p1, ⟨k, hk, e1, e2⟩, e3, p4, p5⟩ := q.1 e
      rw [andM_t e, e2]
      generalize (secR len cB (advR len cB (s.wfr 1))).2 = s1 at p1 e1 p4 ⊢
      generalize (rsM rB X.2 (X.1.wse (nI (kf + 1)))).2 = t1 at p1 p5 ⊢
      obtain ⟨f1, f2, f3, f4, f5, f6, f7, f8⟩ := rfS_b p4
      replace f7 : s1.T = s.T := f7
      replace f8 : s1.P = s.P := f8
      replace hk : k < pN s.P := hk
      obtain ⟨m1, m2, m3⟩ := rfM_b p5
      refine ⟨fun _ => ⟨⟨p1.1, p1.2⟩, ?_, ?_, ?_, ⟨kf + 1, by omega, m3, ?_, ?_, ?_, fun h9 => ?_⟩, m1.trans hne⟩, fun h9 => absurd rfl h9⟩
      · show Rel s1.P (sFire s1.T s1.num) (upd X.2 4 (nI k))
        rw [f8, f7, e1]; exact rel_fire hR (Or.inr (inn_n hk))
      · show LD s1.P (sFire s1.T s1.num) (upd X.2 4 (nI k))
        rw [f8, f7]; exact hL.u ⟨rfl, rfl⟩ ⟨rfl, rfl⟩ (fun c hc => ⟨u_ne (by omega), u_ne (by omega)⟩)
      · show ∃ b, b ≤ 6 ∧ s1.bays = nI b ∧ t1.ba = nI b
        rw [f1, m2]; exact hb
      · show s1.fr = nI ((kf + 1) % 2)
        rw [f2, show (kf + 1) % 2 = 1 by omega]; rfl
      · show s1.dr = nI ((kf + 1) / 2 % 2)
        rw [f3, show (kf + 1) / 2 % 2 = kf / 2 % 2 by omega]; exact k4
      · show s1.rr = nI ((kf + 1) / 4)
        rw [f4, show (kf + 1) / 4 = kf / 4 by omega]; exact k5
      · show upd X.2 4 (nI k) 6 = 0 ∧ upd X.2 4 (nI k) 7 = 0
        rw [u_ne (by omega), u_ne (by omega)]; exact k6 (by omega)
    · rw [andM_f e]
      exact ⟨fun h9 => no_t h9, fun _ => q.2 e⟩
theorem draft_sim {len : Nat} {cB rB : Nat → Int32} (hlen : len ≤ 800) (hB : BRel cB rB) {st : Int32} : Sim (draftR len cB) (draftM rB st) (KI len cB st) (SJ len cB) := by
  rintro s X ⟨hT, hst, hR, hL, hb, ⟨kf, k1, k2, k3, k4, k5, k6⟩, hne⟩
  have hn := hR.n
  have hon := on_bk kf k1
  by_cases c : kf / 2 % 2 = 1
  · have eC : draftR len cB s = (false, failR (-2) s) := by rw [draftR, if_neg (by rw [k4, c]; decide)]
    have eR : onS 1 st X.1 = repR (-2) st X.1 := by rw [onS, k2, if_pos (hon.2.1.mpr c)]
    have hre := rep_err (k := -2) (o := st) (t := X.1) hT.2.2.1 (by decide)
    have h1 : ¬ (onM 1 st X.1).er = 0 := by rw [onM, eR]; exact hre.2.2
    rw [eC, draftM, ek_set h1, onM, eR]
    generalize repR (-2) st X.1 = tq at hre ⊢
    exact ⟨fun h9 => no_t h9, fun _ => ⟨hre.1, hre.2.1.trans hst, hre.2.2⟩⟩
  · have c0 : kf / 2 % 2 = 0 := by omega
    have eC : draftR len cB s = andM (setR len cB 100) draftK (advR len cB (s.wdr 1)) := by rw [draftR, if_pos (by rw [k4, c0]; rfl)]
    have eR : onM 1 st X.1 = X.1.wse (nI (kf + 2)) := by rw [onM, onS, k2, if_neg (fun h9 => c (hon.2.1.mp h9)), k2, hon.2.2.2.2.1 c0]
    have hT2 : TR len cB (advR len cB (s.wdr 1)) (X.1.wse (nI (kf + 2))) := ⟨hT.1, hT.2⟩
    have q := set_sim hlen hB hT2 (lm := 100) (by decide)
    rw [eC, draftM, eR]
    by_cases e : (setR len cB 100 (advR len cB (s.wdr 1))).1 = true
    · obtain ⟨p1, e1, p4, p5⟩ := q.1 e
      rw [andM_t e, ← e1]
      generalize (setR len cB 100 (advR len cB (s.wdr 1))).2 = s1 at p1 e1 p4 ⊢
      generalize (setM rB 100 (X.1.wse (nI (kf + 2)))).2 = t1 at p1 p5 ⊢
      obtain ⟨f1, f2, f3, f4, f5, f6, f7, f8⟩ := rfS_b p4
      replace f7 : s1.T = s.T := f7
      replace f8 : s1.P = s.P := f8
      obtain ⟨m1, m2, m3⟩ := rfM_b p5
      refine ⟨fun _ => ⟨⟨p1.1, p1.2⟩, ?_, ?_, ?_, ⟨kf + 2, by omega, m3, ?_, ?_, ?_, fun h9 => ?_⟩, m1.trans hne⟩, fun h9 => absurd rfl h9⟩
      · show Rel (sDraft s1.P s1.num) s1.T (upd X.2 5 s1.num)
        rw [f8, f7]; exact rel_draft hR
      · show LD (sDraft s1.P s1.num) s1.T (upd X.2 5 s1.num)
        rw [f8, f7]; exact hL.u ⟨rfl, rfl⟩ ⟨rfl, rfl⟩ (fun c hc => ⟨u_ne (by omega), u_ne (by omega)⟩)
      · show ∃ b, b ≤ 6 ∧ s1.bays = nI b ∧ t1.ba = nI b
        rw [f1, m2]; exact hb
      · show s1.fr = nI ((kf + 2) % 2)
        rw [f2, show (kf + 2) % 2 = kf % 2 by omega]; exact k3
      · show s1.dr = nI ((kf + 2) / 2 % 2)
        rw [f3, show (kf + 2) / 2 % 2 = 1 by omega]; rfl
      · show s1.rr = nI ((kf + 2) / 4)
        rw [f4, show (kf + 2) / 4 = kf / 4 by omega]; exact k5
      · show upd X.2 5 s1.num 6 = 0 ∧ upd X.2 5 s1.num 7 = 0
        rw [u_ne (by omega), u_ne (by omega)]; exact k6 (by omega)
    · rw [andM_f e]
      exact ⟨fun h9 => no_t h9, fun _ => q.2 e⟩
