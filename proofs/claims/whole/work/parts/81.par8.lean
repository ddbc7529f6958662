theorem rel_rate2 {P : PD} {T : TD} {d d2 : Nat → Int32} (h : Rel P T d) {n : Nat} {c : Nat → Int32} (hd : ∀ j, j < 176 → j ≠ 6 → j ≠ 7 → d2 j = d j) (hR : RV (sRate P n c) d2) : Rel (sRate P n c) T d2 := by
  have hn := h.n
  have hnc := h.nc
  obtain ⟨hC, hS, hV, hF, hE, _, hK⟩ := h
  refine ⟨CR_ext (P := P) hC ⟨rfl, rfl, rfl, rfl, rfl, rfl, rfl⟩ (fun j hj _ => hd j (by omega) (by omega) (by omega)) (fun s _ => ⟨hd _ (by omega) (by omega) (by omega), hd _ (by omega) (by omega) (by omega), hd _ (by omega) (by omega) (by omega)⟩) (fun c _ => ⟨hd _ (by omega) (by omega) (by omega), hd _ (by omega) (by omega) (by omega)⟩),
    SM_ext hS rfl ⟨rfl, rfl, rfl⟩ ⟨hd 8 (by omega) (by omega) (by omega), hd 9 (by omega) (by omega) (by omega), hd 10 (by omega) (by omega) (by omega)⟩ (fun s _ => hd _ (by omega) (by omega) (by omega)), ⟨hV.1, (hd 0 (by omega) (by omega) (by omega)).trans hV.2.1, fun s hs => ?_⟩, ⟨(hd 5 (by omega) (by omega) (by omega)).trans hF.1, fun s hs => ?_, hF.2.2⟩, fun c2 hc => ?_, hR, CKr_ext hK rfl ⟨hd 3 (by omega) (by omega) (by omega), hd 8 (by omega) (by omega) (by omega)⟩⟩
  · replace hs : s < pN P := hs
    rw [hd _ (by omega) (by omega) (by omega)]; exact hV.2.2 s hs
  · replace hs : s < pN P := hs
    rw [hd _ (by omega) (by omega) (by omega), hd _ (by omega) (by omega) (by omega)]; exact hF.2.1 s hs
  · replace hc : c2 < pCar P := hc
    rw [exR, hd _ (by omega) (by omega) (by omega), hd _ (by omega) (by omega) (by omega)]; exact hE c2 hc
theorem rate_sim {len : Nat} {cB rB : Nat → Int32} (hlen : len ≤ 800) (hB : BRel cB rB) {st : Int32} {s : RS} {X : LQ} (hI : KI len cB st s X) (hadv : s.tk.2.1 + 1 ≤ (advR len cB s).tk.2.1) :
    ((rateR len cB s).1 = true → SJ len cB (rateR len cB s).2 (rateM rB st X)) ∧ (¬ (rateR len cB s).1 = true → ERR (rateR len cB s).2 (rateM rB st X).1) := by
  obtain ⟨hT, hst, hR, hL, hb, ⟨kf, k1, k2, k3, k4, k5, k6⟩, hne⟩ := hI
  have hon := on_bk kf k1
  by_cases c : kf / 4 = 1
  · have eB : begR len cB s = (false, failR (-2) s) := by rw [begR, if_neg (by rw [k5, c]; decide)]
    have eC : rateR len cB s = (false, failR (-2) s) := by rw [rateR, andM_f (by rw [eB]; exact fun h => no_t h), eB]
    have eR : onS 2 st X.1 = repR (-2) st X.1 := by rw [onS, k2, if_pos (hon.2.2.1.mpr c)]
    have hre := rep_err (k := -2) (o := st) (t := X.1) hT.2.2.1 (by decide)
    have h1 : ¬ (onM 2 st X.1).er = 0 := by rw [onM, eR]; exact hre.2.2
    rw [eC, rateM, ek_sum (X := (onM 2 st X.1, upd X.2 6 1)) h1, onM, eR]
    generalize repR (-2) st X.1 = tq at hre ⊢
    exact ⟨fun h9 => no_t h9, fun _ => ⟨hre.1, hre.2.1.trans hst, hre.2.2⟩⟩
  · have c0 : kf / 4 = 0 := by omega
    have eB : begR len cB s = (true, (advR len cB (s.wrr 1)).wcc 0) := by rw [begR, if_pos (by rw [k5, c0]; rfl)]
    have eC : rateR len cB s = andM (sumR len cB 4) (fun s => (true, endR s)) ((advR len cB (s.wrr 1)).wcc 0) := by rw [rateR, andM_t (by rw [eB]), eB]
    have eR : onM 2 st X.1 = X.1.wse (nI (kf + 4)) := by rw [onM, onS, k2, if_neg (fun h9 => c (hon.2.2.1.mp h9)), k2, hon.2.2.2.2.2 c0]
    have h67 := k6 (by omega)
    have hRQ : RQ len cB (s.bays, s.fr, s.dr, 1, s.T, s.P) (X.1.ba, nI (kf + 4)) (upd X.2 6 1) 0 0 1 0 ((advR len cB (s.wrr 1)).wcc 0) (X.1.wse (nI (kf + 4)), upd X.2 6 1) := by
      refine ⟨⟨hT.1, hT.2⟩, hne, rfl, rfl, ⟨?_, rfl, fun j hj => absurd hj (Nat.not_lt_zero j)⟩, rfl, ?_, Nat.zero_le _, fun j _ _ => rfl⟩
      · show upd X.2 6 1 7 = nI 0
        rw [u_ne (by decide)]; exact h67.2
      · show 0 + 1 ≤ (advR len cB s).tk.2.1
        omega
    have q := sum_sim hlen hB 4 (Nat.le_refl _) _ _ _ 0 1 0 (Nat.zero_le _) (Nat.le_refl _) _ _ hRQ
    rw [eC, rateM, eR]
    generalize ((advR len cB (s.wrr 1)).wcc 0) = s0 at q ⊢
    by_cases e : (sumR len cB 4 s0).1 = true
    · rw [andM_t e]
      have hq := q.1 e
      generalize (sumR len cB 4 s0).2 = s1 at hq ⊢
      generalize sumL2 rB 4 (X.1.wse (nI (kf + 4)), upd X.2 6 1) = Z at hq ⊢
      have hst1 := tr_st hlen hB hq.1
      obtain ⟨t1, t2, t3, t4, t5, t6, t7, t8, t9⟩ := hq
      unfold gS at t3
      unfold gM at t4
      simp only [Prod.mk.injEq] at t3 t4
      obtain ⟨f1, f2, f3, f4, f7, f8⟩ := t3
      have hlow : ∀ j, j < 176 → j ≠ 6 → j ≠ 7 → Z.2 j = X.2 j := fun j hj h6 h7 => by rw [t9 j hj h7, u_ne h6]
      have hcc0 : 0 < s1.cc := by
        rcases Nat.eq_zero_or_pos s1.cc with h0 | h0
        · rw [h0] at t6; exact absurd (show (0 : Nat) = 0 + 1 from t6) (by decide)
        · exact h0
      have hps := t5.2.1
      have hd6 : Z.2 6 = 1 := by rw [t9 6 (by decide) (by decide), u_eq]
      have hRV : RV (sRate s.P s1.cc s1.co) Z.2 := by
        refine ⟨by show s1.cc < 1000; omega, Or.inr ⟨by rw [hd6]; decide, ⟨t5.1, ?_, fun j hj => ?_⟩, hcc0, fun j hj => (t5.2.2 j hj).2.2.2.2⟩⟩
        · show psC s1.co s1.cc ≤ 1300
          omega
        · have qj := t5.2.2 j hj
          exact ⟨qj.1, qj.2.1, qj.2.2.1, qj.2.2.2.1⟩
      refine ⟨fun _ => ⟨⟨t1.1, t1.2⟩, ?_, ?_, ?_, ⟨kf + 4, by omega, t4.2, ?_, ?_, ?_, fun h9 => by omega⟩, t2⟩, fun h9 => absurd rfl h9⟩
      · show Rel (sRate s1.P s1.cc s1.co) s1.T Z.2
        rw [f8, f7]; exact rel_rate2 hR hlow hRV
      · show LD (sRate s1.P s1.cc s1.co) s1.T Z.2
        rw [f8, f7]; exact hL.u ⟨rfl, rfl⟩ ⟨rfl, rfl⟩ (fun c hc => ⟨hlow _ (by omega) (by omega) (by omega), hlow _ (by omega) (by omega) (by omega)⟩)
      · show ∃ b, b ≤ 6 ∧ s1.bays = nI b ∧ Z.1.ba = nI b
        rw [f1, t4.1]; exact hb
      · show s1.fr = nI ((kf + 4) % 2)
        rw [f2, show (kf + 4) % 2 = kf % 2 by omega]; exact k3
      · show s1.dr = nI ((kf + 4) / 2 % 2)
        rw [f3, show (kf + 4) / 2 % 2 = kf / 2 % 2 by omega]; exact k4
      · show s1.rr = nI ((kf + 4) / 4)
        rw [f4, show (kf + 4) / 4 = 1 by omega]; rfl
    · rw [andM_f e]
      exact ⟨fun h9 => no_t h9, fun _ => q.2 e⟩
/-- both sides of a statement -/
def RES (len : Nat) (cB : Nat → Int32) (p : Bool × RS) (Y : LQ) : Prop := (p.1 = true → SJ len cB p.2 Y) ∧ (¬ p.1 = true → ERR p.2 Y.1)
def PRE (len : Nat) (cB : Nat → Int32) (st : Int32) (s : RS) (S : MS) (D : Nat → Int32) : Prop := TR len cB s S ∧ st = nI s.tk.2.1 ∧ SD s (S, D)
theorem SD.m {s : RS} {X : LQ} {t : MS} (h : SD s X) (ht : rfM t = rfM X.1) : SD s (t, X.2) := by
  obtain ⟨h1, h2, h3, h4, h5⟩ := h
  obtain ⟨m1, m2, m3⟩ := rfM_b ht
  refine ⟨h1, h2, ?_, h4.u ⟨rfl, rfl, rfl⟩ m3 ⟨rfl, rfl⟩, m1.trans h5⟩
  show ∃ b, b ≤ 6 ∧ s.bays = nI b ∧ t.ba = nI b
  rw [m2]; exact h3
theorem SD.s {s s2 : RS} {X : LQ} (h : SD s X) (hs : rfS s2 = rfS s) : SD s2 X := by
  obtain ⟨h1, h2, h3, h4, h5⟩ := h
  obtain ⟨f1, f2, f3, f4, f5, f6, f7, f8⟩ := rfS_b hs
  exact ⟨by rw [f7, f8]; exact h1, by rw [f7, f8]; exact h2, by rw [f1]; exact h3, h4.u ⟨f2, f3, f4⟩ rfl ⟨rfl, rfl⟩, h5⟩
theorem st_step {len : Nat} {cB rB : Nat → Int32} (hlen : len ≤ 800) (hB : BRel cB rB) {st : Int32} {i : Nat} (hi : i < 14) {s : RS} {S : MS} {D : Nat → Int32} (h : PRE len cB st s S D) {p1 p2 : Bool × RS} {g : LQ → LQ} {r : LQ}
    (h1 : KI len cB st s ((twR rB i S).2, D) → s.tk.2.1 + 1 ≤ (advR len cB s).tk.2.1 → RES len cB p1 (g ((twR rB i S).2, D))) (h2 : PRE len cB st s (twR rB i S).2 D → RES len cB p2 r) :
    RES len cB (if wdR cB s i = true then p1 else p2) (if (twR rB i S).1 = true then g ((twR rB i S).2, D) else r) := by
  obtain ⟨hT, hst, hD⟩ := h
  have w := word_sim hlen hB hT hi
  by_cases c : wdR cB s i = true
  · obtain ⟨q1, q2, q3⟩ := w.2.1 c
    rw [if_pos c, if_pos (w.1.symm.trans c)]
    exact h1 ⟨q1, hst, hD.m q2⟩ q3
  · obtain ⟨q1, q2, q3⟩ := w.2.2 c
    rw [if_neg c, if_neg (fun h9 => c (w.1.trans h9))]
    exact h2 ⟨q1, hst, hD.m q2⟩
theorem st_sim9 {len : Nat} {cB : Nat → Int32} {st : Int32} {s : RS} {S : MS} {D : Nat → Int32} (h : PRE len cB st s S D) : RES len cB (false, failR (-2) s) (repR (-2) st S, D) := by
  refine ⟨fun h9 => no_t h9, fun _ => ?_⟩
  have hre := rep_err (k := -2) (o := st) (t := S) h.1.2.2.1 (by decide)
  exact ⟨hre.1, hre.2.1.trans h.2.1, hre.2.2⟩
theorem st_sim8 {len : Nat} {cB rB : Nat → Int32} (hlen : len ≤ 800) (hB : BRel cB rB) {st : Int32} {s : RS} {S : MS} {D : Nat → Int32} (h : PRE len cB st s S D) : RES len cB (if wdR cB s 8 = true then rateR len cB s else (false, failR (-2) s)) (st8 rB st S D) :=
  st_step hlen hB (i := 8) (by decide) (p1 := rateR len cB s) (p2 := (false, failR (-2) s)) (g := rateM rB st) (r := (repR (-2) st (twR rB 8 S).2, D)) h (fun q q2 => rate_sim hlen hB q q2) (fun h => st_sim9 h)
theorem st_sim7 {len : Nat} {cB rB : Nat → Int32} (hlen : len ≤ 800) (hB : BRel cB rB) {st : Int32} {s : RS} {S : MS} {D : Nat → Int32} (h : PRE len cB st s S D) : RES len cB (if wdR cB s 7 = true then redR len cB s else (if wdR cB s 8 = true then rateR len cB s else (false, failR (-2) s))) (st7 rB st S D) :=
  st_step hlen hB (i := 7) (by decide) (p1 := redR len cB s) (p2 := (if wdR cB s 8 = true then rateR len cB s else (false, failR (-2) s))) (g := redM rB) (r := st8 rB st (twR rB 7 S).2 D) h (fun q _ => red_sim hlen hB _ _ q) (fun h => st_sim8 hlen hB h)
theorem st_sim6 {len : Nat} {cB rB : Nat → Int32} (hlen : len ≤ 800) (hB : BRel cB rB) {st : Int32} {s : RS} {S : MS} {D : Nat → Int32} (h : PRE len cB st s S D) : RES len cB (if wdR cB s 6 = true then draftR len cB s else (if wdR cB s 7 = true then redR len cB s else (if wdR cB s 8 = true then rateR len cB s else (false, failR (-2) s)))) (st6 rB st S D) :=
  st_step hlen hB (i := 6) (by decide) (p1 := draftR len cB s) (p2 := (if wdR cB s 7 = true then redR len cB s else (if wdR cB s 8 = true then rateR len cB s else (false, failR (-2) s)))) (g := draftM rB st) (r := st7 rB st (twR rB 6 S).2 D) h (fun q _ => draft_sim hlen hB _ _ q) (fun h => st_sim7 hlen hB h)
theorem st_sim5 {len : Nat} {cB rB : Nat → Int32} (hlen : len ≤ 800) (hB : BRel cB rB) {st : Int32} {s : RS} {S : MS} {D : Nat → Int32} (h : PRE len cB st s S D) : RES len cB (if wdR cB s 5 = true then fireR len cB s else (if wdR cB s 6 = true then draftR len cB s else (if wdR cB s 7 = true then redR len cB s else (if wdR cB s 8 = true then rateR len cB s else (false, failR (-2) s))))) (st5 rB st S D) :=
  st_step hlen hB (i := 5) (by decide) (p1 := fireR len cB s) (p2 := (if wdR cB s 6 = true then draftR len cB s else (if wdR cB s 7 = true then redR len cB s else (if wdR cB s 8 = true then rateR len cB s else (false, failR (-2) s))))) (g := fireM rB st) (r := st6 rB st (twR rB 5 S).2 D) h (fun q _ => fire_sim hlen hB _ _ q) (fun h => st_sim6 hlen hB h)
theorem st_sim4 {len : Nat} {cB rB : Nat → Int32} (hlen : len ≤ 800) (hB : BRel cB rB) {st : Int32} {s : RS} {S : MS} {D : Nat → Int32} (h : PRE len cB st s S D) : RES len cB (if wdR cB s 4 = true then carR len cB s else (if wdR cB s 5 = true then fireR len cB s else (if wdR cB s 6 = true then draftR len cB s else (if wdR cB s 7 = true then redR len cB s else (if wdR cB s 8 = true then rateR len cB s else (false, failR (-2) s)))))) (st4 rB st S D) :=
  st_step hlen hB (i := 4) (by decide) (p1 := carR len cB s) (p2 := (if wdR cB s 5 = true then fireR len cB s else (if wdR cB s 6 = true then draftR len cB s else (if wdR cB s 7 = true then redR len cB s else (if wdR cB s 8 = true then rateR len cB s else (false, failR (-2) s)))))) (g := carM rB st) (r := st5 rB st (twR rB 4 S).2 D) h (fun q _ => car_sim hlen hB _ _ q) (fun h => st_sim5 hlen hB h)
theorem st_sim3 {len : Nat} {cB rB : Nat → Int32} (hlen : len ≤ 800) (hB : BRel cB rB) {st : Int32} {s : RS} {S : MS} {D : Nat → Int32} (h : PRE len cB st s S D) : RES len cB (if wdR cB s 3 = true then fanR len cB s else (if wdR cB s 4 = true then carR len cB s else (if wdR cB s 5 = true then fireR len cB s else (if wdR cB s 6 = true then draftR len cB s else (if wdR cB s 7 = true then redR len cB s else (if wdR cB s 8 = true then rateR len cB s else (false, failR (-2) s))))))) (st3 rB st S D) :=
  st_step hlen hB (i := 3) (by decide) (p1 := fanR len cB s) (p2 := (if wdR cB s 4 = true then carR len cB s else (if wdR cB s 5 = true then fireR len cB s else (if wdR cB s 6 = true then draftR len cB s else (if wdR cB s 7 = true then redR len cB s else (if wdR cB s 8 = true then rateR len cB s else (false, failR (-2) s))))))) (g := fanM rB) (r := st4 rB st (twR rB 3 S).2 D) h (fun q _ => fan_sim hlen hB _ _ q) (fun h => st_sim4 hlen hB h)
theorem st_sim2 {len : Nat} {cB rB : Nat → Int32} (hlen : len ≤ 800) (hB : BRel cB rB) {st : Int32} {s : RS} {S : MS} {D : Nat → Int32} (h : PRE len cB st s S D) : RES len cB (if wdR cB s 2 = true then ventR len cB s else (if wdR cB s 3 = true then fanR len cB s else (if wdR cB s 4 = true then carR len cB s else (if wdR cB s 5 = true then fireR len cB s else (if wdR cB s 6 = true then draftR len cB s else (if wdR cB s 7 = true then redR len cB s else (if wdR cB s 8 = true then rateR len cB s else (false, failR (-2) s)))))))) (st2 rB st S D) :=
  st_step hlen hB (i := 2) (by decide) (p1 := ventR len cB s) (p2 := (if wdR cB s 3 = true then fanR len cB s else (if wdR cB s 4 = true then carR len cB s else (if wdR cB s 5 = true then fireR len cB s else (if wdR cB s 6 = true then draftR len cB s else (if wdR cB s 7 = true then redR len cB s else (if wdR cB s 8 = true then rateR len cB s else (false, failR (-2) s)))))))) (g := ventM rB) (r := st3 rB st (twR rB 2 S).2 D) h (fun q _ => vent_sim hlen hB _ _ q) (fun h => st_sim3 hlen hB h)
theorem st_sim1 {len : Nat} {cB rB : Nat → Int32} (hlen : len ≤ 800) (hB : BRel cB rB) {st : Int32} {s : RS} {S : MS} {D : Nat → Int32} (h : PRE len cB st s S D) : RES len cB (if wdR cB s 1 = true then bayR len cB s else (if wdR cB s 2 = true then ventR len cB s else (if wdR cB s 3 = true then fanR len cB s else (if wdR cB s 4 = true then carR len cB s else (if wdR cB s 5 = true then fireR len cB s else (if wdR cB s 6 = true then draftR len cB s else (if wdR cB s 7 = true then redR len cB s else (if wdR cB s 8 = true then rateR len cB s else (false, failR (-2) s))))))))) (st1 rB st S D) :=
  st_step hlen hB (i := 1) (by decide) (p1 := bayR len cB s) (p2 := (if wdR cB s 2 = true then ventR len cB s else (if wdR cB s 3 = true then fanR len cB s else (if wdR cB s 4 = true then carR len cB s else (if wdR cB s 5 = true then fireR len cB s else (if wdR cB s 6 = true then draftR len cB s else (if wdR cB s 7 = true then redR len cB s else (if wdR cB s 8 = true then rateR len cB s else (false, failR (-2) s))))))))) (g := bayM rB st) (r := st2 rB st (twR rB 1 S).2 D) h (fun q _ => bay_sim hlen hB _ _ q) (fun h => st_sim2 hlen hB h)
theorem st_sim {len : Nat} {cB rB : Nat → Int32} (hlen : len ≤ 800) (hB : BRel cB rB) {st : Int32} {s : RS} {S : MS} {D : Nat → Int32} (h : PRE len cB st s S D) : RES len cB (stmtR len cB s) (st1 rB st S D) := st_sim1 hlen hB h
theorem ek_li {B : Nat → Int32} {X : LQ} (h : ¬ X.1.er = 0) : ∀ k, liL B k X = X
  | 0 => rfl
  | k + 1 => by rw [liL_s, if_neg h]
/-- statement by statement -/
theorem stmts_sim {len : Nat} {cB rB : Nat → Int32} (hlen : len ≤ 800) (hB : BRel cB rB) : ∀ k s X, SJ len cB s X → len ≤ X.1.po + k → RES len cB (stmtsR len cB k s) (liL rB (k + 1) X) := by
  have base : ∀ (s : RS) (X : LQ) (k : Nat), SJ len cB s X → s.tk.1 = 258 → SJ len cB s (liL rB (k + 1) X) := by
    intro s X k h c
    have h1 := tr_st hlen hB h.1
    have eb : btL rB (nxL rB X) = byR rB len s.tk.2.1 := by
      show byR rB X.1.tl (nxR rB X.1).po = _
      rw [h1.1, h.1.2.1]
    rw [liL_s, if_pos h.1.2.2.1, eb, if_pos ((tk_end hlen hB h.1).1.mp c)]
    exact ⟨tr_nx hlen hB h.1, h.2.m rfl⟩
  intro k
  induction k with
  | zero =>
    intro s X h hl
    have h1 := tr_st hlen hB h.1
    have c : s.tk.1 = 258 := (tk_end hlen hB h.1).2.mpr (by omega)
    exact ⟨fun _ => base s X 0 h c, fun h9 => absurd rfl h9⟩
  | succ k ih =>
    intro s X h hl
    have h1 := tr_st hlen hB h.1
    by_cases c : s.tk.1 = 258
    · have eC : stmtsR len cB (k + 1) s = (true, s) := by rw [stmtsR]; exact if_pos c
      rw [eC]
      exact ⟨fun _ => base s X (k + 1) h c, fun h9 => absurd rfl h9⟩
    · have eC : stmtsR len cB (k + 1) s = andM (stmtR len cB) (andM (sgnR len cB 59) (stmtsR len cB k)) s := by rw [stmtsR]; exact if_neg c
      have eb : btL rB (nxL rB X) = byR rB len s.tk.2.1 := by
        show byR rB X.1.tl (nxR rB X.1).po = _
        rw [h1.1, h.1.2.1]
      have eR : liL rB (k + 1 + 1) X = liL rB (k + 1) (stM rB (nxL rB X)) := by
        rw [liL_s, if_pos h.1.2.2.1, eb, if_neg (fun h9 => c ((tk_end hlen hB h.1).1.mpr h9))]
      have hT1 := tr_nx hlen hB h.1
      have hT2 := tr_nx hlen hB hT1
      have hpo2 : (nxR rB (nxR rB X.1)).po = s.tk.2.1 := (tr_st hlen hB hT1).1
      have hpre : PRE len cB (nI (nxR rB (nxR rB X.1)).po) s (nxR rB (nxR rB X.1)) X.2 := ⟨hT2, by rw [hpo2], h.2.m rfl⟩
      have hq := st_sim hlen hB hpre
      have hMJ : MJ (nxL rB X).1 := ⟨by have := hT1.2.1; have := hT1.2.2.2; show (nxR rB X.1).po ≤ (nxR rB X.1).tl; omega, by have := hT1.2.1; show (nxR rB X.1).tl ≤ 800; omega⟩
      have hpos := st_pos (B := rB) (X := nxL rB X) hMJ
      have hge : X.1.po ≤ (nxL rB X).1.po := scanE_ge _
      have eM : stM rB (nxL rB X) = (expR2 rB 59 (st1 rB (nI (nxR rB (nxR rB X.1)).po) (nxR rB (nxR rB X.1)) X.2).1, (st1 rB (nI (nxR rB (nxR rB X.1)).po) (nxR rB (nxR rB X.1)) X.2).2) := rfl
      rw [eC, eR]
      generalize (nxL rB X).1.po = pz at hpos hge
      rw [eM] at hpos ⊢
      generalize st1 rB (nI (nxR rB (nxR rB X.1)).po) (nxR rB (nxR rB X.1)) X.2 = Z at hq hpos ⊢
      by_cases e : (stmtR len cB s).1 = true
      · have hz := hq.1 e
        rw [andM_t e]
        generalize (stmtR len cB s).2 = s1 at hz ⊢
        have hs := sgn_sim hlen hB hz.1 (c := 59) (by decide) (by decide) (by decide)
        by_cases e9 : (sgnR len cB 59 s1).1 = true
        · rw [andM_t e9]
          obtain ⟨b1, b2, b3, b4⟩ := hs.1 e9
          change TR len cB (sgnR len cB 59 s1).2 (expR2 rB 59 Z.1) at b1
          change rfS (sgnR len cB 59 s1).2 = _ at b2
          change rfM (expR2 rB 59 Z.1) = _ at b3
          have hp := hpos b1.2.2.1
          refine ih _ _ ⟨b1, (hz.2.m b3).s b2⟩ ?_
          show len ≤ (expR2 rB 59 Z.1).po + k
          have hp' : pz < (expR2 rB 59 Z.1).po := hp
          omega
        · rw [andM_f e9]
          have he := hs.2 e9
          change ERR (sgnR len cB 59 s1).2 (expR2 rB 59 Z.1) at he
          rw [ek_li (X := (expR2 rB 59 Z.1, Z.2)) he.2.2]
          exact ⟨fun h9 => no_t h9, fun _ => he⟩
      · have he := hq.2 e
        rw [andM_f e, ek_exp he.2.2, ek_li (X := (Z.1, Z.2)) he.2.2]
        exact ⟨fun h9 => no_t h9, fun _ => he⟩
