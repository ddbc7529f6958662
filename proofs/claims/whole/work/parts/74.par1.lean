/-- a byte on both sides: signed here, unsigned there -/
def sgB (b : Nat) : Int32 := if b < 128 then nI b else nI b - 256
def BRel (cB rB : Nat → Int32) : Prop := ∀ j, j < 800 → ∃ b, b < 256 ∧ rB j = nI b ∧ cB j = sgB b
theorem sg_f : ∀ b, b < 256 → fSp (sgB b) = fSp (nI b) ∧ fDig (sgB b) = fDig (nI b) ∧ fLet (sgB b) = fLet (nI b) ∧ (fDig (nI b) = true → sgB b = nI b ∧ 48 ≤ b ∧ b ≤ 57) ∧ (fLet (nI b) = true → sgB b = nI b ∧ 97 ≤ b ∧ b ≤ 122) ∧ (fSp (nI b) = true → b = 32) := by decide +kernel
theorem sg_c {b c : Nat} (hb : b < 256) (hc : c < 128) : sgB b = nI c ↔ nI b = nI c := by
  unfold sgB
  by_cases h : b < 128
  · rw [if_pos h]
  · rw [if_neg h]
    have e : (nI b - 256).toInt = (b : Int) - 256 := by
      have e1 : (256 : Int32).toInt = 256 := by decide
      rw [i32_sub (by rw [nI_toInt (by omega), e1]; omega) (by rw [nI_toInt (by omega), e1]; omega), nI_toInt (by omega), e1]
    constructor
    · intro h9
      rw [h9, nI_toInt (by omega)] at e
      omega
    · intro h9
      have := (nI_eq (a := b) (b := c) (by omega) (by omega)).mp h9
      omega
theorem br_sp {cB rB : Nat → Int32} (h : BRel cB rB) {j : Nat} (hj : j < 800) : fSp (cB j) = fSp (rB j) := by
  obtain ⟨b, hb, e1, e2⟩ := h j hj
  rw [e1, e2]; exact (sg_f b hb).1
theorem br_dg {cB rB : Nat → Int32} (h : BRel cB rB) {j : Nat} (hj : j < 800) : fDig (cB j) = fDig (rB j) := by
  obtain ⟨b, hb, e1, e2⟩ := h j hj
  rw [e1, e2]; exact (sg_f b hb).2.1
theorem br_lt {cB rB : Nat → Int32} (h : BRel cB rB) {j : Nat} (hj : j < 800) : fLet (cB j) = fLet (rB j) := by
  obtain ⟨b, hb, e1, e2⟩ := h j hj
  rw [e1, e2]; exact (sg_f b hb).2.2.1
theorem brl_c {cB rB : Nat → Int32} (h : BRel cB rB) {j : Nat} (hj : j < 800) {c : Nat} (hc : c < 128) : cB j = nI c ↔ rB j = nI c := by
  obtain ⟨b, hb, e1, e2⟩ := h j hj
  rw [e1, e2]; exact sg_c hb hc
theorem scan_ext {f : Int32 → Bool} {B C : Nat → Int32} {len : Nat} (h : ∀ j, j < len → f (B j) = f (C j)) : ∀ r p, scan f B len r p = scan f C len r p
  | 0, _ => rfl
  | r + 1, p => by
    rw [scan, scan]
    by_cases hp : p < len
    · rw [h p hp, scan_ext h r (p + 1)]
    · rw [if_neg (fun h => hp h.1), if_neg (fun h => hp h.1)]
theorem scanE_ext {f : Int32 → Bool} {B C : Nat → Int32} {len p : Nat} (h : ∀ j, j < len → f (B j) = f (C j)) : scanE f B len p = scanE f C len p := scan_ext h _ p
theorem scanE_idem {f : Int32 → Bool} {B : Nat → Int32} {len p : Nat} : scanE f B len (scanE f B len p) = scanE f B len p := scanE_f (scanE_end p)
/-- the token here, the position there -/
def TR (len : Nat) (cB : Nat → Int32) (s : RS) (t : MS) : Prop := (∃ v, s.tk = tokF cB len t.po v) ∧ t.tl = len ∧ t.er = 0 ∧ t.po ≤ len
/-- what a token's reading leaves alone: here, there -/
def rfS (s : RS) : Int32 × Int32 × Int32 × Int32 × Nat × (Nat → Int32) × TD × PD := (s.bays, s.fr, s.dr, s.rr, s.cc, s.co, s.T, s.P)
def rfM (t : MS) : (Int32 × Int32) × Int32 × Int32 × Int32 × Nat × Int32 × Nat × Int32 × Int32 := ((t.ne, t.ea), t.ba, t.se, t.th, t.bl, t.eo, t.ud, t.bs, t.bt)
/-- an error on both sides -/
def ERR (C : RS) (t : MS) : Prop := t.er = C.ec ∧ t.ea = C.eo ∧ ¬ t.er = 0
theorem rep_err {k o : Int32} {t : MS} (h : t.er = 0) (hk : k ≠ 0) : (repR k o t).er = k ∧ (repR k o t).ea = o ∧ ¬ (repR k o t).er = 0 := by
  rw [repR, if_pos h]
  exact ⟨rfl, rfl, hk⟩
theorem rep_keep {k o : Int32} {t : MS} (h : ¬ t.er = 0) : repR k o t = t := by rw [repR, if_neg h]
theorem tok_st {cB : Nat → Int32} {len p : Nat} {v : Int32} : (tokF cB len p v).2.1 = scanE fSp cB len p := by
  unfold tokF
  split
  · rfl
  · split
    · rfl
    · split
      · rfl
      · rfl
theorem tok_skip {cB : Nat → Int32} {len p : Nat} {v : Int32} : tokF cB len (scanE fSp cB len p) v = tokF cB len p v := by
  unfold tokF
  rw [scanE_idem]
/-- the facts of a token -/
theorem tr_st {len : Nat} {cB rB : Nat → Int32} (hlen : len ≤ 800) (hB : BRel cB rB) {s : RS} {t : MS} (h : TR len cB s t) : (nxR rB t).po = s.tk.2.1 ∧ s.tk.2.1 = scanE fSp cB len t.po ∧ s.tk.2.1 ≤ len ∧ t.po ≤ s.tk.2.1 := by
  obtain ⟨⟨v, e⟩, ht, he, hp⟩ := h
  have e1 : s.tk.2.1 = scanE fSp cB len t.po := by rw [e, tok_st]
  refine ⟨?_, e1, by rw [e1]; exact scanE_le _ hp, by rw [e1]; exact scanE_ge _⟩
  show scanE fSp rB t.tl t.po = _
  rw [ht, e1]
  exact (scanE_ext (fun j hj => br_sp hB (by omega))).symm
/-- behind a token the two sides meet again -/
theorem tr_adv {len : Nat} {cB : Nat → Int32} {s s2 : RS} {t2 : MS} (hs : s2.tk = s.tk) (hpo : t2.po = s.tk.2.2.2) (htl : t2.tl = len) (her : t2.er = 0) (hp : s.tk.2.2.2 ≤ len) : TR len cB (advR len cB s2) t2 := by
  refine ⟨⟨s.tk.2.2.1, ?_⟩, htl, her, by rw [hpo]; exact hp⟩
  show tokF cB len s2.tk.2.2.2 s2.tk.2.2.1 = _
  rw [hs, hpo]
theorem tr_nx {len : Nat} {cB rB : Nat → Int32} (hlen : len ≤ 800) (hB : BRel cB rB) {s : RS} {t : MS} (h : TR len cB s t) : TR len cB s (nxR rB t) := by
  have h1 := tr_st hlen hB h
  obtain ⟨⟨v, e⟩, ht, he, hp⟩ := h
  refine ⟨⟨v, ?_⟩, ht, he, by rw [h1.1]; exact h1.2.2.1⟩
  rw [h1.1, h1.2.1, tok_skip]; exact e
/-- the end -/
theorem tk_end {len : Nat} {cB rB : Nat → Int32} (hlen : len ≤ 800) (hB : BRel cB rB) {s : RS} {t : MS} (h : TR len cB s t) : (s.tk.1 = 258 ↔ byR rB len s.tk.2.1 = -1) ∧ (s.tk.1 = 258 ↔ s.tk.2.1 = len) := by
  have h1 := tr_st hlen hB h
  obtain ⟨⟨v, e⟩, ht, he, hp⟩ := h
  have hcase : (s.tk.1 = 258 ↔ len ≤ s.tk.2.1) := by
    rw [e, tok_st]
    unfold tokF
    by_cases hl : len ≤ scanE fSp cB len t.po
    · rw [if_pos hl]; exact ⟨fun _ => hl, fun _ => rfl⟩
    · rw [if_neg hl]
      refine ⟨fun h9 => ?_, fun h9 => absurd h9 hl⟩
      split at h9
      · exact absurd (show (256 : Int32) = 258 from h9) (by decide)
      · split at h9
        · exact absurd (show (257 : Int32) = 258 from h9) (by decide)
        · have h8 : cB (scanE fSp cB len t.po) = 258 := h9
          obtain ⟨b, hb, _, e2⟩ := hB (scanE fSp cB len t.po) (by omega)
          rw [e2] at h8
          have hk : ∀ b, b < 256 → ¬ sgB b = 258 := by decide +kernel
          exact absurd h8 (hk b hb)
  refine ⟨?_, by rw [hcase]; omega⟩
  rw [hcase]
  constructor
  · intro hl; exact byR_f (by omega)
  · intro h9
    by_cases hl : len ≤ s.tk.2.1
    · exact hl
    · rw [byR_t (by omega)] at h9
      obtain ⟨b, hb, e1, _⟩ := hB s.tk.2.1 (by omega)
      rw [e1] at h9
      exact absurd (show nI b < 0 by rw [h9]; decide) (nI_pos (by omega))
/-- a sign -/
theorem tk_sign {len : Nat} {cB rB : Nat → Int32} (hlen : len ≤ 800) (hB : BRel cB rB) {s : RS} {t : MS} (h : TR len cB s t) {c : Nat} (hc : c < 128) (hnd : fDig (nI c) = false) (hnl : fLet (nI c) = false) : (s.tk.1 = nI c ↔ byR rB len s.tk.2.1 = nI c) ∧ (s.tk.1 = nI c → s.tk.2.2.2 = s.tk.2.1 + 1 ∧ s.tk.2.1 < len) := by
  have h1 := tr_st hlen hB h
  obtain ⟨⟨v, e⟩, ht, he, hp⟩ := h
  have n1 : ∀ k : Int32, (k = 256 ∨ k = 257 ∨ k = 258) → ¬ k = nI c := fun k hk h9 => by
    have h8 : (nI c).toInt = (c : Int) := nI_toInt (by omega)
    rw [← h9] at h8
    rcases hk with rfl | rfl | rfl
    · have : (256 : Int32).toInt = 256 := by decide
      omega
    · have : (257 : Int32).toInt = 257 := by decide
      omega
    · have : (258 : Int32).toInt = 258 := by decide
      omega
  rw [e, tok_st]
  generalize hq : scanE fSp cB len t.po = q
  unfold tokF
  rw [hq]
  by_cases hl : len ≤ q
  · rw [if_pos hl, byR_f (by omega)]
    refine ⟨⟨fun h9 => absurd h9 (n1 258 (Or.inr (Or.inr rfl))), fun h9 => ?_⟩, fun h9 => absurd h9 (n1 258 (Or.inr (Or.inr rfl)))⟩
    exact absurd (show nI c < 0 by rw [← h9]; decide) (nI_pos (by omega))
  · rw [if_neg hl, byR_t (by omega)]
    have hbr := brl_c hB (j := q) (by omega) hc
    by_cases hd : fDig (cB q) = true
    · rw [if_pos hd]
      refine ⟨⟨fun h9 => absurd h9 (n1 256 (Or.inl rfl)), fun h9 => ?_⟩, fun h9 => absurd h9 (n1 256 (Or.inl rfl))⟩
      rw [br_dg hB (by omega), h9, hnd] at hd; exact absurd hd (by decide)
    · rw [if_neg hd]
      by_cases hle : fLet (cB q) = true
      · rw [if_pos hle]
        refine ⟨⟨fun h9 => absurd h9 (n1 257 (Or.inr (Or.inl rfl))), fun h9 => ?_⟩, fun h9 => absurd h9 (n1 257 (Or.inr (Or.inl rfl)))⟩
        rw [br_lt hB (by omega), h9, hnl] at hle; exact absurd hle (by decide)
      · rw [if_neg hle]
        exact ⟨hbr, fun _ => ⟨rfl, by omega⟩⟩
/-- a number -/
theorem tk_num {len : Nat} {cB rB : Nat → Int32} (hlen : len ≤ 800) (hB : BRel cB rB) {s : RS} {t : MS} (h : TR len cB s t) : (s.tk.1 = 256 ↔ fDig (byR rB len s.tk.2.1) = true) ∧ (s.tk.1 = 256 → s.tk.2.2.2 = scanE fDig rB len s.tk.2.1 ∧ s.tk.2.2.1 = numV cB s.tk.2.1 (scanE fDig rB len s.tk.2.1 - s.tk.2.1) ∧ s.tk.2.1 < len) := by
  obtain ⟨⟨v, e⟩, ht, he, hp⟩ := h
  rw [e, tok_st]
  generalize hq : scanE fSp cB len t.po = q
  unfold tokF
  rw [hq]
  by_cases hl : len ≤ q
  · rw [if_pos hl]
    refine ⟨⟨fun h9 => absurd (show (258 : Int32) = 256 from h9) (by decide), fun h9 => ?_⟩, fun h9 => absurd (show (258 : Int32) = 256 from h9) (by decide)⟩
    have := (byR_dig.mp h9).1; omega
  · have hsc : scanE fDig cB len q = scanE fDig rB len q := scanE_ext (fun j hj => br_dg hB (by omega))
    rw [if_neg hl, byR_t (by omega), ← br_dg hB (j := q) (by omega)]
    by_cases hd : fDig (cB q) = true
    · rw [if_pos hd]
      exact ⟨⟨fun _ => hd, fun _ => rfl⟩, fun _ => ⟨hsc, by rw [hsc], by omega⟩⟩
    · rw [if_neg hd]
      have hne : ∀ x : Int32 × Nat × Int32 × Nat, (x = if fLet (cB q) = true then (257, q, v, scanE fLet cB len q) else (cB q, q, v, q + 1)) → ¬ x.1 = 256 := by
        intro x hx h9
        split at hx
        · rw [hx] at h9; exact absurd (show (257 : Int32) = 256 from h9) (by decide)
        · rw [hx] at h9
          have h8 : cB q = 256 := h9
          obtain ⟨b, hb, _, e2⟩ := hB q (by omega)
          rw [e2] at h8
          have hk : ∀ b, b < 256 → ¬ sgB b = 256 := by decide +kernel
          exact hk b hb h8
      exact ⟨⟨fun h9 => absurd h9 (hne _ rfl), fun h9 => absurd h9 hd⟩, fun h9 => absurd h9 (hne _ rfl)⟩
/-- the values of digits: alike, or out of any range on both sides -/
theorem num_val {cB rB : Nat → Int32} (hB : BRel cB rB) {p : Nat} : ∀ k, p + k ≤ 800 → (∀ j, j < k → fDig (rB (p + j)) = true) → 0 ≤ (numV cB p k).toInt ∧ (numV cB p k).toInt ≤ 1000009 ∧ 0 ≤ (nvR rB p k).toInt ∧ (nvR rB p k).toInt ≤ 1000000 ∧ (numV cB p k = nvR rB p k ∨ (100000 < (numV cB p k).toInt ∧ 100000 < (nvR rB p k).toInt))
  | 0, _, _ => ⟨by show 0 ≤ (0 : Int32).toInt; decide, by show (0 : Int32).toInt ≤ 1000009; decide, by show 0 ≤ (0 : Int32).toInt; decide, by show (0 : Int32).toInt ≤ 1000000; decide, Or.inl rfl⟩
  | k + 1, hk, hd => by
    obtain ⟨i1, i2, i3, i4, i5⟩ := num_val hB (p := p) k (by omega) (fun j hj => hd j (by omega))
    obtain ⟨b, hb, e1, e2⟩ := hB (p + k) (by omega)
    have hdk := hd k (by omega)
    rw [e1] at hdk
    have hf := (sg_f b hb).2.2.2.1 hdk
    rw [hf.1] at e2
    have c10 : (10 : Int32).toInt = 10 := by decide
    have c48 : (48 : Int32).toInt = 48 := by decide
    have c5 : (100000 : Int32).toInt = 100000 := by decide
    have c6 : (1000000 : Int32).toInt = 1000000 := by decide
    have val : ∀ x : Int32, 0 ≤ x.toInt → x.toInt ≤ 1000009 → (10 * x + nI b - 48).toInt = 10 * x.toInt + (b : Int) - 48 := fun x h1 h2 => by
      have m1 : (10 * x).toInt = 10 * x.toInt := by rw [Int32.toInt_mul, c10]; exact bm32 (by omega) (by omega)
      have m2 : (10 * x + nI b).toInt = 10 * x.toInt + b := by rw [i32_add (by rw [m1, nI_toInt (by omega)]; omega) (by rw [m1, nI_toInt (by omega)]; omega), m1, nI_toInt (by omega)]
      rw [i32_sub (by rw [m2, c48]; omega) (by rw [m2, c48]; omega), m2, c48]
    have vu := val (nvR rB p k) i3 (by omega)
    rw [numV, nvR, e1, e2]
    by_cases h1 : numV cB p k ≤ 100000
    · have h1' : (numV cB p k).toInt ≤ 100000 := by have := Int32.le_iff_toInt_le.mp h1; rw [c5] at this; exact this
      have heq : numV cB p k = nvR rB p k := by
        rcases i5 with e | e
        · exact e
        · omega
      have vv := val (numV cB p k) i1 i2
      rw [if_pos h1]
      by_cases h2 : 10 * nvR rB p k + nI b - 48 ≤ 1000000
      · rw [if_pos h2]
        have h2' := Int32.le_iff_toInt_le.mp h2
        rw [vu, c6] at h2'
        rw [vv, vu]
        exact ⟨by omega, by omega, by omega, by omega, Or.inl (by rw [heq])⟩
      · rw [if_neg h2]
        have h2' : ¬ (10 * nvR rB p k + nI b - 48).toInt ≤ 1000000 := fun h => h2 (Int32.le_iff_toInt_le.mpr (by rw [c6]; exact h))
        rw [vu, ← heq] at h2'
        rw [vv, c6]
        exact ⟨by omega, by omega, by omega, by omega, Or.inr ⟨by omega, by omega⟩⟩
    · have h1' : ¬ (numV cB p k).toInt ≤ 100000 := fun h => h1 (Int32.le_iff_toInt_le.mpr (by rw [c5]; exact h))
      have hu : 100000 < (nvR rB p k).toInt := by
        rcases i5 with e | e
        · rw [← e]; omega
        · exact e.2
      rw [if_neg h1]
      have h2 : ¬ 10 * nvR rB p k + nI b - 48 ≤ 1000000 := fun h => by
        have := Int32.le_iff_toInt_le.mp h
        rw [vu, c6] at this
        omega
      rw [if_neg h2, c6]
      exact ⟨i1, i2, by omega, by omega, Or.inr ⟨by omega, by omega⟩⟩
/-- a number read on both sides -/
theorem num_sim {len : Nat} {cB rB : Nat → Int32} (hlen : len ≤ 800) (hB : BRel cB rB) {s : RS} {t : MS} (h : TR len cB s t) {lo hi : Int32} (hhi : hi.toInt ≤ 9999) :
    ((numR len cB lo hi s).1 = true → TR len cB (numR len cB lo hi s).2 (numM rB lo hi t).2 ∧ (numR len cB lo hi s).2.num = (numM rB lo hi t).1 ∧ (numR len cB lo hi s).2.nof = (numM rB lo hi t).2.ns ∧ rfS (numR len cB lo hi s).2 = rfS s ∧ rfM (numM rB lo hi t).2 = rfM t ∧ s.tk.2.1 + 1 ≤ (numR len cB lo hi s).2.tk.2.1) ∧
    (¬ (numR len cB lo hi s).1 = true → ERR (numR len cB lo hi s).2 (numM rB lo hi t).2) := by
  have h1 := tr_st hlen hB h
  have h2 := tk_num hlen hB h
  have her := h.2.2.1
  have htl := h.2.1
  have eR : numM rB lo hi t = if fDig (byR rB len s.tk.2.1) = true then (if inB (nvR rB s.tk.2.1 (scanE fDig rB len s.tk.2.1 - s.tk.2.1)) lo hi = true then (nvR rB s.tk.2.1 (scanE fDig rB len s.tk.2.1 - s.tk.2.1), ((nxR rB t).wns (nI s.tk.2.1)).wpo (scanE fDig rB len s.tk.2.1)) else (nvR rB s.tk.2.1 (scanE fDig rB len s.tk.2.1 - s.tk.2.1), repR (-3) (nI s.tk.2.1) (((nxR rB t).wns (nI s.tk.2.1)).wpo (scanE fDig rB len s.tk.2.1)))) else (0, repR (-2) (nI s.tk.2.1) (nxR rB t)) := by
    rw [numM, if_pos her, h1.1, htl]
  have hn0 : (nxR rB t).er = 0 := her
  by_cases hd : fDig (byR rB len s.tk.2.1) = true
  · have hk := h2.1.mpr hd
    obtain ⟨q1, q2, q3⟩ := h2.2 hk
    have hge : s.tk.2.1 + 1 ≤ scanE fDig rB len s.tk.2.1 := by
      have hd2 := byR_dig.mp hd
      rw [scanE_t hd2.1 hd2.2]; exact scanE_ge _
    have hle : scanE fDig rB len s.tk.2.1 ≤ len := scanE_le _ (by omega)
    have hrun : ∀ j, j < scanE fDig rB len s.tk.2.1 - s.tk.2.1 → fDig (rB (s.tk.2.1 + j)) = true := fun j hj => (scanE_run (f := fDig) (B := rB) (len := len) s.tk.2.1 (s.tk.2.1 + j) (by omega) (by omega)).2
    have hv := num_val hB (p := s.tk.2.1) (scanE fDig rB len s.tk.2.1 - s.tk.2.1) (by omega) hrun
    rw [← q2] at hv
    rw [eR, if_pos hd]
    have eC : numR len cB lo hi s = if s.tk.2.2.1 < lo ∨ hi < s.tk.2.2.1 then (false, failR (-3) s) else (true, advR len cB ((s.wnum s.tk.2.2.1).wnof (nI s.tk.2.1))) := by rw [numR, if_pos hk]
    rw [eC]
    generalize nvR rB s.tk.2.1 (scanE fDig rB len s.tk.2.1 - s.tk.2.1) = u at hv ⊢
    generalize hw : s.tk.2.2.1 = v at hv ⊢
    have hiff : inB u lo hi = true ↔ ¬ (v < lo ∨ hi < v) := by
      have hx : ∀ x : Int32, inB x lo hi = true ↔ ¬ (x < lo ∨ hi < x) := fun x => by
        constructor
        · intro h9
          rintro (h8 | h8)
          · rw [inB_f1 h8] at h9; exact absurd h9 (by decide)
          · rw [inB_f2 h8] at h9; exact absurd h9 (by decide)
        · intro h9; exact inB_t (fun h8 => h9 (Or.inl h8)) (fun h8 => h9 (Or.inr h8))
      rcases hv.2.2.2.2 with e | ⟨e1, e2⟩
      · rw [← e]; exact hx v
      · have a1 : hi < u := Int32.lt_iff_toInt_lt.mpr (by omega)
        have a2 : hi < v := Int32.lt_iff_toInt_lt.mpr (by omega)
        rw [inB_f2 a1]
        exact ⟨fun h => absurd h (by decide), fun h => absurd (Or.inr a2) h⟩
    by_cases hr : v < lo ∨ hi < v
    · rw [if_pos hr, if_neg (fun h9 => (hiff.mp h9) hr)]
      refine ⟨fun h9 => absurd (show false = true from h9) (by decide), fun _ => ?_⟩
      have hre := rep_err (k := -3) (o := nI s.tk.2.1) (t := ((nxR rB t).wns (nI s.tk.2.1)).wpo (scanE fDig rB len s.tk.2.1)) hn0 (by decide)
      exact hre
    · rw [if_neg hr, if_pos (hiff.mpr hr)]
      have huv : v = u := by
        rcases hv.2.2.2.2 with e | ⟨e1, e2⟩
        · exact e
        · exact absurd (Or.inr (Int32.lt_iff_toInt_lt.mpr (by omega))) hr
      have hT := tr_adv (cB := cB) (s := s) (s2 := (s.wnum v).wnof (nI s.tk.2.1)) (t2 := ((nxR rB t).wns (nI s.tk.2.1)).wpo (scanE fDig rB len s.tk.2.1)) (len := len) rfl q1.symm htl hn0 (by rw [q1]; exact hle)
      refine ⟨fun _ => ⟨hT, huv, rfl, rfl, rfl, ?_⟩, fun h9 => absurd rfl h9⟩
      show s.tk.2.1 + 1 ≤ (tokF cB len s.tk.2.2.2 s.tk.2.2.1).2.1
      rw [tok_st]
      have := scanE_ge (f := fSp) (B := cB) (len := len) s.tk.2.2.2
      omega
  · have hk : ¬ s.tk.1 = 256 := fun h9 => hd (h2.1.mp h9)
    have eC : numR len cB lo hi s = (false, failR (-2) s) := by rw [numR, if_neg hk]
    rw [eR, if_neg hd, eC]
    refine ⟨fun h9 => absurd (show false = true from h9) (by decide), fun _ => ?_⟩
    exact rep_err (k := -2) (o := nI s.tk.2.1) (t := nxR rB t) hn0 (by decide)
/-- a sign read on both sides -/
theorem sgn_sim {len : Nat} {cB rB : Nat → Int32} (hlen : len ≤ 800) (hB : BRel cB rB) {s : RS} {t : MS} (h : TR len cB s t) {c : Nat} (hc : c < 128) (hnd : fDig (nI c) = false) (hnl : fLet (nI c) = false) :
    ((sgnR len cB (nI c) s).1 = true → TR len cB (sgnR len cB (nI c) s).2 (expR2 rB (nI c) t) ∧ rfS (sgnR len cB (nI c) s).2 = rfS s ∧ rfM (expR2 rB (nI c) t) = rfM t ∧ s.tk.2.1 + 1 ≤ (sgnR len cB (nI c) s).2.tk.2.1) ∧
    (¬ (sgnR len cB (nI c) s).1 = true → ERR (sgnR len cB (nI c) s).2 (expR2 rB (nI c) t)) := by
  have h1 := tr_st hlen hB h
  have h2 := tk_sign hlen hB h hc hnd hnl
  have her := h.2.2.1
  have htl := h.2.1
  have hn0 : (nxR rB t).er = 0 := her
  have eR : expR2 rB (nI c) t = if byR rB len s.tk.2.1 = nI c then (nxR rB t).wpo (s.tk.2.1 + 1) else repR (-2) (nI s.tk.2.1) (nxR rB t) := by rw [expR2, if_pos her, h1.1, htl]
  rw [eR]
  by_cases hk : s.tk.1 = nI c
  · have eC : sgnR len cB (nI c) s = (true, advR len cB s) := by rw [sgnR, if_pos hk]
    obtain ⟨q1, q2⟩ := h2.2 hk
    rw [eC, if_pos (h2.1.mp hk)]
    refine ⟨fun _ => ⟨tr_adv (s := s) rfl (by show s.tk.2.1 + 1 = _; rw [q1]) htl hn0 (by omega), rfl, rfl, ?_⟩, fun h9 => absurd rfl h9⟩
    show s.tk.2.1 + 1 ≤ (tokF cB len s.tk.2.2.2 s.tk.2.2.1).2.1
    rw [tok_st]
    have := scanE_ge (f := fSp) (B := cB) (len := len) s.tk.2.2.2
    omega
  · have eC : sgnR len cB (nI c) s = (false, failR (-2) s) := by rw [sgnR, if_neg hk]
    rw [eC, if_neg (fun h9 => hk (h2.1.mpr h9))]
    refine ⟨fun h9 => absurd (show false = true from h9) (by decide), fun _ => ?_⟩
    exact rep_err (k := -2) (o := nI s.tk.2.1) (t := nxR rB t) hn0 (by decide)
theorem ch_let : ∀ i, i < 14 → ∀ j, j < lenS.getD i 0 → fLet (chS i j) = true ∧ ∃ c, c < 128 ∧ chS i j = nI c := by
  have h1 : ∀ i, i < 14 → ∀ j, j < lenS.getD i 0 → fLet (chS i j) = true ∧ chS i j = nI (chS i j).toNatClampNeg ∧ (chS i j).toNatClampNeg < 128 := by decide +kernel
  exact fun i hi j hj => ⟨(h1 i hi j hj).1, _, (h1 i hi j hj).2.2, (h1 i hi j hj).2.1⟩
theorem let_in (x : Int32) : inB x 97 122 = fLet x := by
  by_cases h1 : x < 97
  · rw [inB_f1 h1]
    cases hd : fLet x
    · rfl
    · exact absurd hd (let_no1 h1)
  · by_cases h2 : 122 < x
    · rw [inB_f2 h2]
      cases hd : fLet x
      · rfl
      · exact absurd hd (let_no2 h2)
    · rw [inB_t h1 h2, let_of h1 h2]
theorem let_nd : ∀ b, b < 256 → fLet (nI b) = true → fDig (nI b) = false ∧ fSp (nI b) = false := by decide +kernel
/-- a word -/
theorem tk_word {len : Nat} {cB rB : Nat → Int32} (hlen : len ≤ 800) (hB : BRel cB rB) {s : RS} {t : MS} (h : TR len cB s t) {i : Nat} (hi : i < 14) : (wdR cB s i = true ↔ swR rB len s.tk.2.1 i = true) ∧ (wdR cB s i = true → s.tk.2.2.2 = s.tk.2.1 + lenS.getD i 0 ∧ s.tk.2.2.2 ≤ len) := by
  obtain ⟨⟨v, e⟩, ht, he, hp⟩ := h
  have hpos := len_pos hi
  have hst : s.tk.2.1 = scanE fSp cB len t.po := by rw [e, tok_st]
  generalize hq : scanE fSp cB len t.po = q at hst
  have hle0 : q ≤ len := by rw [← hq]; exact scanE_le _ hp
  have hcase : s.tk.1 = 257 → q < len ∧ fLet (cB q) = true ∧ s.tk.2.2.2 = scanE fLet cB len q := by
    intro h9
    rw [e] at h9 ⊢
    unfold tokF at h9 ⊢
    rw [hq] at h9 ⊢
    split at h9
    · exact absurd (show (258 : Int32) = 257 from h9) (by decide)
    · rename_i c1
      rw [if_neg c1]
      split at h9
      · exact absurd (show (256 : Int32) = 257 from h9) (by decide)
      · rename_i c2
        rw [if_neg c2]
        split at h9
        · rename_i c3
          rw [if_pos c3]
          exact ⟨by omega, c3, rfl⟩
        · obtain ⟨b, hb, _, e2⟩ := hB q (by omega)
          have h8 : cB q = 257 := h9
          rw [e2] at h8
          have hk : ∀ b, b < 256 → ¬ sgB b = 257 := by decide +kernel
          exact absurd h8 (hk b hb)
  have hfwd : wdR cB s i = true → swR rB len q i = true ∧ s.tk.2.2.2 = q + lenS.getD i 0 ∧ s.tk.2.2.2 ≤ len := by
    intro h9
    obtain ⟨k1, k2, k3⟩ := isW_iff.mp h9
    obtain ⟨c1, c2, c3⟩ := hcase k1
    have hsl : scanE fLet cB len q ≤ len := scanE_le _ hle0
    rw [hst] at k2 k3
    refine ⟨swR_iff.mpr ⟨fun j hj => ?_, ?_⟩, k2, by rw [c3]; exact hsl⟩
    · obtain ⟨_, c, hc, ec⟩ := ch_let i hi j hj
      have h8 := k3 j hj
      rw [byR_t (by omega), ec, ← brl_c hB (by omega) hc, ← ec]
      exact h8
    · rw [let_in, ← k2, c3]
      have hend := scanE_end (f := fLet) (B := cB) (len := len) q
      by_cases hz : scanE fLet cB len q < len
      · rw [byR_t hz, ← br_lt hB (by omega)]
        cases hx : fLet (cB (scanE fLet cB len q))
        · rfl
        · exact absurd ⟨hz, hx⟩ hend
      · rw [byR_f hz]; decide
  rw [hst]
  refine ⟨⟨fun h9 => (hfwd h9).1, fun h9 => ?_⟩, fun h9 => (hfwd h9).2⟩
  obtain ⟨k1, k2⟩ := swR_iff.mp h9
  have hb : ∀ j, j < lenS.getD i 0 → q + j < len ∧ cB (q + j) = chS i j := fun j hj => by
    have h8 := k1 j hj
    have hlt := byR_in h8 (ch_ok hi hj)
    rw [byR_t hlt] at h8
    obtain ⟨_, c, hc, ec⟩ := ch_let i hi j hj
    exact ⟨hlt, by rw [ec] at h8 ⊢; exact (brl_c hB (by omega) hc).mpr h8⟩
  have hlet : ∀ j, j < lenS.getD i 0 → fLet (cB (q + j)) = true := fun j hj => by rw [(hb j hj).2]; exact (ch_let i hi j hj).1
  have h0 := hlet 0 hpos
  rw [Nat.add_zero] at h0
  have hq0 : q < len := by have := (hb 0 hpos).1; omega
  have hnd : ¬ fDig (cB q) = true := by
    obtain ⟨b, hb1, e1, e2⟩ := hB q (by omega)
    rw [br_lt hB (by omega), e1] at h0
    rw [br_dg hB (by omega), e1, (let_nd b hb1 h0).1]; decide
  have hend : scanE fLet cB len q = q + lenS.getD i 0 := by
    have hrun : ∀ m, m ≤ lenS.getD i 0 → scanE fLet cB len q = scanE fLet cB len (q + m) := fun m => by
      induction m with
      | zero => intro _; rfl
      | succ m ih =>
        intro hm
        rw [ih (by omega), scanE_t (hb m (by omega)).1 (hlet m (by omega))]
        rfl
    rw [hrun _ (Nat.le_refl _)]
    refine scanE_f (fun h8 => ?_)
    rw [let_in, byR_t h8.1, ← br_lt hB (by omega), h8.2] at k2
    exact absurd k2 (by decide)
  have etk : s.tk = (257, q, v, scanE fLet cB len q) := by
    rw [e]
    unfold tokF
    rw [hq, if_neg (by omega), if_neg hnd, if_pos h0]
  refine isW_iff.mpr ⟨by rw [etk], ?_, fun j hj => ?_⟩
  · rw [etk]; exact hend
  · rw [etk]; exact (hb j hj).2
theorem word_sim {len : Nat} {cB rB : Nat → Int32} (hlen : len ≤ 800) (hB : BRel cB rB) {s : RS} {t : MS} (h : TR len cB s t) {i : Nat} (hi : i < 14) :
    (wdR cB s i = (twR rB i t).1) ∧ (wdR cB s i = true → TR len cB (advR len cB s) (twR rB i t).2 ∧ rfM (twR rB i t).2 = rfM t ∧ s.tk.2.1 + 1 ≤ (advR len cB s).tk.2.1) ∧ (¬ wdR cB s i = true → TR len cB s (twR rB i t).2 ∧ rfM (twR rB i t).2 = rfM t ∧ (twR rB i t).2 = nxR rB t) := by
  have h1 := tr_st hlen hB h
  have h2 := tk_word hlen hB h hi
  have her := h.2.2.1
  have htl := h.2.1
  have hn0 : (nxR rB t).er = 0 := her
  have eR : twR rB i t = if swR rB len s.tk.2.1 i = true then (true, (nxR rB t).wpo (s.tk.2.1 + lenS.getD i 0)) else (false, nxR rB t) := by rw [twR, if_pos her, h1.1, htl]
  rw [eR]
  by_cases hw : wdR cB s i = true
  · obtain ⟨q1, q2⟩ := h2.2 hw
    rw [if_pos (h2.1.mp hw), hw]
    refine ⟨rfl, fun _ => ⟨tr_adv (s := s) rfl (by show s.tk.2.1 + lenS.getD i 0 = _; rw [q1]) htl hn0 q2, rfl, ?_⟩, fun h9 => absurd rfl h9⟩
    show s.tk.2.1 + 1 ≤ (tokF cB len s.tk.2.2.2 s.tk.2.2.1).2.1
    rw [tok_st]
    have := scanE_ge (f := fSp) (B := cB) (len := len) s.tk.2.2.2
    have := len_pos hi
    omega
  · rw [if_neg (fun h9 => hw (h2.1.mpr h9))]
    have hw' : wdR cB s i = false := by cases hx : wdR cB s i; rfl; exact absurd hx hw
    refine ⟨hw', fun h9 => absurd h9 hw, fun _ => ⟨tr_nx hlen hB h, rfl, rfl⟩⟩
