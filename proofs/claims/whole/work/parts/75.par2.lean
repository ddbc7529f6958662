/-- an error stays -/
theorem ek_num {B : Nat → Int32} {lo hi : Int32} {t : MS} (h : ¬ t.er = 0) : numM B lo hi t = (0, t) := by rw [numM, if_neg h]
theorem ek_tw {B : Nat → Int32} {i : Nat} {t : MS} (h : ¬ t.er = 0) : twR B i t = (false, t) := by rw [twR, if_neg h]
theorem ek_exp {B : Nat → Int32} {c : Int32} {t : MS} (h : ¬ t.er = 0) : expR2 B c t = t := by rw [expR2, if_neg h]
theorem ek_set {B : Nat → Int32} {lm : Int32} {t : MS} (h : ¬ t.er = 0) : setM B lm t = (0, t) := by rw [setM, if_neg h, ek_num h]
theorem ek_way {B : Nat → Int32} {t : MS} (h : ¬ t.er = 0) : wayM B t = (-1, t) := by
  simp only [wayM, ek_tw h, Bool.false_eq_true, if_false, rep_keep h]
theorem ek_rs {B D : Nat → Int32} {t : MS} (h : ¬ t.er = 0) : rsM B D t = (0, t) := by
  simp only [rsM, ek_num h, ite_self]
theorem ek_fs {B D : Nat → Int32} {mk : Nat} {vl : Int32} {t : MS} (h : ¬ t.er = 0) : (fsM B D mk vl t).2 = t := by
  simp only [fsM, ek_rs h]
  rw [if_neg (fun h9 => h h9.1)]
theorem ek_on {b st : Int32} {t : MS} (h : ¬ t.er = 0) : (onM b st t).er = t.er ∧ (onM b st t).ea = t.ea := by
  have e : onS b st t = t := by
    unfold onS
    split
    · exact rep_keep h
    · rfl
  rw [onM, e]
  exact ⟨rfl, rfl⟩
/-- the class's reading and the reference's, from one relation to another -/
def Sim (f : RM) (g : LQ → LQ) (I J : RS → LQ → Prop) : Prop := ∀ s X, I s X → ((f s).1 = true → J (f s).2 (g X)) ∧ (¬ (f s).1 = true → ERR (f s).2 (g X).1)
def EK (g : LQ → LQ) : Prop := ∀ X, ¬ X.1.er = 0 → (g X).1.er = X.1.er ∧ (g X).1.ea = X.1.ea
theorem ERR.k {g : LQ → LQ} (hg : EK g) {C : RS} {X : LQ} (h : ERR C X.1) : ERR C (g X).1 := by
  have h1 := hg X h.2.2
  exact ⟨h1.1.trans h.1, h1.2.trans h.2.1, by rw [h1.1]; exact h.2.2⟩
theorem Sim.and {f1 f2 : RM} {g1 g2 : LQ → LQ} {I J K : RS → LQ → Prop} (h1 : Sim f1 g1 I J) (h2 : Sim f2 g2 J K) (hk : EK g2) : Sim (andM f1 f2) (fun X => g2 (g1 X)) I K := by
  intro s X h
  have q := h1 s X h
  by_cases e : (f1 s).1 = true
  · rw [andM_t e]
    exact h2 _ _ (q.1 e)
  · rw [andM_f e]
    exact ⟨fun h9 => absurd (show false = true from h9) (by decide), fun _ => (q.2 e).k hk⟩
theorem way_sim {len : Nat} {cB rB : Nat → Int32} (hlen : len ≤ 800) (hB : BRel cB rB) {s : RS} {t : MS} (h : TR len cB s t) :
    ((wayR len cB s).1 = true → TR len cB (wayR len cB s).2 (wayM rB t).2 ∧ (wayR len cB s).2.way = (wayM rB t).1 ∧ ((wayM rB t).1 = 1 ∨ (wayM rB t).1 = -1) ∧ rfS (wayR len cB s).2 = rfS s ∧ (wayR len cB s).2.num = s.num ∧ (wayR len cB s).2.nof = s.nof ∧ rfM (wayM rB t).2 = rfM t) ∧
    (¬ (wayR len cB s).1 = true → ERR (wayR len cB s).2 (wayM rB t).2) := by
  have w1 := word_sim hlen hB h (i := 12) (by decide)
  by_cases c1 : wdR cB s 12 = true
  · have eC : wayR len cB s = (true, advR len cB (s.wway 1)) := by rw [wayR, if_pos c1]
    have eR : wayM rB t = (1, (twR rB 12 t).2) := by rw [wayM, if_pos (w1.1.symm.trans c1)]
    obtain ⟨q1, q2, _⟩ := w1.2.1 c1
    rw [eC, eR]
    exact ⟨fun _ => ⟨⟨q1.1, q1.2⟩, rfl, Or.inl rfl, rfl, rfl, rfl, q2⟩, fun h9 => absurd rfl h9⟩
  · obtain ⟨q1, q2, q3⟩ := w1.2.2 c1
    have n1 : ¬ (twR rB 12 t).1 = true := fun h9 => c1 (w1.1.trans h9)
    have w2 := word_sim hlen hB q1 (i := 13) (by decide)
    by_cases c2 : wdR cB s 13 = true
    · have eC : wayR len cB s = (true, advR len cB (s.wway (-1))) := by rw [wayR, if_neg c1, if_pos c2]
      have eR : wayM rB t = (-1, (twR rB 13 (twR rB 12 t).2).2) := by rw [wayM, if_neg n1, if_pos (w2.1.symm.trans c2)]
      obtain ⟨p1, p2, _⟩ := w2.2.1 c2
      rw [eC, eR]
      exact ⟨fun _ => ⟨⟨p1.1, p1.2⟩, rfl, Or.inr rfl, rfl, rfl, rfl, p2.trans q2⟩, fun h9 => absurd rfl h9⟩
    · obtain ⟨p1, p2, p3⟩ := w2.2.2 c2
      have n2 : ¬ (twR rB 13 (twR rB 12 t).2).1 = true := fun h9 => c2 (w2.1.trans h9)
      have eC : wayR len cB s = (false, failR (-2) s) := by rw [wayR, if_neg c1, if_neg c2]
      have eR : wayM rB t = (-1, repR (-2) (nI (twR rB 13 (twR rB 12 t).2).2.po) (twR rB 13 (twR rB 12 t).2).2) := by rw [wayM, if_neg n1, if_neg n2]
      rw [eC, eR]
      refine ⟨fun h9 => absurd (show false = true from h9) (by decide), fun _ => ?_⟩
      have epo : (twR rB 13 (twR rB 12 t).2).2.po = s.tk.2.1 := by rw [p3]; exact (tr_st hlen hB q1).1
      have hre := rep_err (k := -2) (o := nI (twR rB 13 (twR rB 12 t).2).2.po) (t := (twR rB 13 (twR rB 12 t).2).2) p1.2.2.1 (by decide)
      rw [epo] at hre ⊢
      exact hre
theorem set_sim {len : Nat} {cB rB : Nat → Int32} (hlen : len ≤ 800) (hB : BRel cB rB) {s : RS} {t : MS} (h : TR len cB s t) {lm : Int32} (hlm : lm.toInt ≤ 9999) :
    ((setR len cB lm s).1 = true → TR len cB (setR len cB lm s).2 (setM rB lm t).2 ∧ (setR len cB lm s).2.num = (setM rB lm t).1 ∧ rfS (setR len cB lm s).2 = rfS s ∧ rfM (setM rB lm t).2 = rfM t) ∧
    (¬ (setR len cB lm s).1 = true → ERR (setR len cB lm s).2 (setM rB lm t).2) := by
  have h1 := tr_st hlen hB h
  have h2 := tk_sign hlen hB h (c := 45) (by decide) (by decide) (by decide)
  have her := h.2.2.1
  have htl := h.2.1
  by_cases c : s.tk.1 = 45
  · have eC : setR len cB lm s = andM (numR len cB 0 lm) (fun s => (true, negR s)) (advR len cB s) := by rw [setR, if_pos c]
    have eb := h2.1.mp c
    obtain ⟨q1, q2⟩ := h2.2 c
    have eR : setM rB lm t = (-(numM rB 0 lm ((nxR rB t).wpo ((nxR rB t).po + 1))).1, (numM rB 0 lm ((nxR rB t).wpo ((nxR rB t).po + 1))).2) := by rw [setM, if_pos her, if_pos (by rw [h1.1, htl]; exact eb)]
    have hT : TR len cB (advR len cB s) ((nxR rB t).wpo ((nxR rB t).po + 1)) := tr_adv (s := s) rfl (by show (nxR rB t).po + 1 = _; rw [h1.1, q1]) htl her (by omega)
    have hn := num_sim hlen hB hT (lo := 0) (hi := lm) hlm
    rw [eC, eR]
    by_cases e : (numR len cB 0 lm (advR len cB s)).1 = true
    · rw [andM_t e]
      obtain ⟨p1, p2, p3, p4, p5, _⟩ := hn.1 e
      refine ⟨fun _ => ⟨⟨p1.1, p1.2⟩, ?_, p4, p5⟩, fun h9 => absurd rfl h9⟩
      show -(numR len cB 0 lm (advR len cB s)).2.num = _
      rw [p2]
    · rw [andM_f e]
      exact ⟨fun h9 => absurd (show false = true from h9) (by decide), fun _ => hn.2 e⟩
  · have eC : setR len cB lm s = numR len cB 0 lm s := by rw [setR, if_neg c]
    have eR : setM rB lm t = numM rB 0 lm (nxR rB t) := by rw [setM, if_pos her, if_neg (fun h9 => c (h2.1.mpr (by rw [h1.1, htl] at h9; exact h9)))]
    have hn := num_sim hlen hB (tr_nx hlen hB h) (lo := 0) (hi := lm) hlm
    rw [eC, eR]
    refine ⟨fun e => ?_, hn.2⟩
    obtain ⟨p1, p2, p3, p4, p5, _⟩ := hn.1 e
    exact ⟨p1, p2, p4, p5⟩
theorem sec_sim {len : Nat} {cB rB : Nat → Int32} (hlen : len ≤ 800) (hB : BRel cB rB) {s : RS} {t : MS} (h : TR len cB s t) {D : Nat → Int32} (hn : pN s.P ≤ 12) (hD : D 0 = nI (pN s.P)) :
    ((secR len cB s).1 = true → TR len cB (secR len cB s).2 (rsM rB D t).2 ∧ (∃ k, k < pN s.P ∧ (secR len cB s).2.num = nI k ∧ (rsM rB D t).1 = nI k) ∧ (secR len cB s).2.nof = (rsM rB D t).2.ns ∧ rfS (secR len cB s).2 = rfS s ∧ rfM (rsM rB D t).2 = rfM t) ∧
    (¬ (secR len cB s).1 = true → ERR (secR len cB s).2 (rsM rB D t).2) := by
  have e0 : (rsM rB D t) = (if (numM rB 0 (nI (pN s.P) - 1) t).2.er = 0 then (numM rB 0 (nI (pN s.P) - 1) t).1 else 0, (numM rB 0 (nI (pN s.P) - 1) t).2) := by rw [rsM, hD]
  have hb : (nI (pN s.P) - 1).toInt ≤ 9999 := by
    have c1 : (1 : Int32).toInt = 1 := by decide
    rw [i32_sub (by rw [nI_toInt (by omega), c1]; omega) (by rw [nI_toInt (by omega), c1]; omega), nI_toInt (by omega), c1]
    omega
  have hs := num_sim hlen hB h (lo := 0) (hi := nI (pN s.P) - 1) hb
  have hi : (secR len cB s).1 = true → Inn (secR len cB s).2.num (pN (secR len cB s).2.P) := sec_inn hn
  rw [e0]
  change ((numR len cB 0 (nI (pN s.P) - 1) s).1 = true → _) ∧ _
  refine ⟨fun e => ?_, fun e => hs.2 e⟩
  obtain ⟨p1, p2, p3, p4, p5, _⟩ := hs.1 e
  obtain ⟨k, hk, ek⟩ := hi e
  have eP : (secR len cB s).2.P = s.P := congrArg (fun q => q.2.2.2.2.2.2.2) p4
  rw [eP] at hk
  refine ⟨p1, ⟨k, hk, ek, ?_⟩, p3, p4, p5⟩
  show (if (numM rB 0 (nI (pN s.P) - 1) t).2.er = 0 then (numM rB 0 (nI (pN s.P) - 1) t).1 else 0) = nI k
  rw [if_pos p1.2.2.1, ← p2]
  exact ek
