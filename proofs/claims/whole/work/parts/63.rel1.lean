theorem lane_cs {d : Nat → Int32} {c : Nat} {x v y : Int32} : ∀ k, laneR (upd d (96 + 4 * c) y) x v k = laneR d x v k + (if c < k then (if y = x ∧ d (96 + 4 * c + 1) = v then 1 else 0) - (if d (96 + 4 * c) = x ∧ d (96 + 4 * c + 1) = v then 1 else 0) else 0)
  | 0 => by rw [if_neg (Nat.not_lt_zero c)]; rfl
  | k + 1 => by
    have ih := lane_cs (d := d) (c := c) (x := x) (v := v) (y := y) k
    rw [laneR, laneR, ih, upd_at, upd_at, if_neg (show ¬ 96 + 4 * k + 1 = 96 + 4 * c by omega)]
    by_cases e : k = c
    · subst e
      rw [if_pos rfl, if_neg (Nat.lt_irrefl k), if_pos (Nat.lt_succ_self k)]
      generalize (if y = x ∧ d (96 + 4 * k + 1) = v then (1 : Int32) else 0) = p
      generalize (if d (96 + 4 * k) = x ∧ d (96 + 4 * k + 1) = v then (1 : Int32) else 0) = q
      grind
    · rw [if_neg (show ¬ 96 + 4 * k = 96 + 4 * c by omega)]
      by_cases h : c < k
      · rw [if_pos h, if_pos (show c < k + 1 by omega)]; grind
      · rw [if_neg h, if_neg (show ¬ c < k + 1 by omega)]; grind
theorem lane_cd {d : Nat → Int32} {c : Nat} {x v y : Int32} : ∀ k, laneR (upd d (96 + 4 * c + 1) y) x v k = laneR d x v k + (if c < k then (if d (96 + 4 * c) = x ∧ y = v then 1 else 0) - (if d (96 + 4 * c) = x ∧ d (96 + 4 * c + 1) = v then 1 else 0) else 0)
  | 0 => by rw [if_neg (Nat.not_lt_zero c)]; rfl
  | k + 1 => by
    have ih := lane_cd (d := d) (c := c) (x := x) (v := v) (y := y) k
    rw [laneR, laneR, ih, upd_at, upd_at, if_neg (show ¬ 96 + 4 * k = 96 + 4 * c + 1 by omega)]
    by_cases e : k = c
    · subst e
      rw [if_pos rfl, if_neg (Nat.lt_irrefl k), if_pos (Nat.lt_succ_self k)]
      generalize (if d (96 + 4 * k) = x ∧ y = v then (1 : Int32) else 0) = p
      generalize (if d (96 + 4 * k) = x ∧ d (96 + 4 * k + 1) = v then (1 : Int32) else 0) = q
      grind
    · rw [if_neg (show ¬ 96 + 4 * k + 1 = 96 + 4 * c + 1 by omega)]
      by_cases h : c < k
      · rw [if_pos h, if_pos (show c < k + 1 by omega)]; grind
      · rw [if_neg h, if_neg (show ¬ c < k + 1 by omega)]; grind
theorem ins_cs {d : Nat → Int32} {c : Nat} {y : Int32} : ∀ k, insR (upd d (96 + 4 * c) y) k = insR d k + (if c < k then (if y < 0 then 0 else 1) - (if d (96 + 4 * c) < 0 then 0 else 1) else 0)
  | 0 => by rw [if_neg (Nat.not_lt_zero c)]; rfl
  | k + 1 => by
    have ih := ins_cs (d := d) (c := c) (y := y) k
    rw [insR, insR, ih, upd_at]
    by_cases e : k = c
    · subst e
      rw [if_pos rfl, if_neg (Nat.lt_irrefl k), if_pos (Nat.lt_succ_self k)]
      generalize (if y < 0 then (0 : Int32) else 1) = p
      generalize (if d (96 + 4 * k) < 0 then (0 : Int32) else 1) = q
      grind
    · rw [if_neg (show ¬ 96 + 4 * k = 96 + 4 * c by omega)]
      by_cases h : c < k
      · rw [if_pos h, if_pos (show c < k + 1 by omega)]; grind
      · rw [if_neg h, if_neg (show ¬ c < k + 1 by omega)]; grind
theorem lane_ext {d d2 : Nat → Int32} {x v : Int32} : ∀ k, (∀ c, c < k → d2 (96 + 4 * c) = d (96 + 4 * c) ∧ d2 (96 + 4 * c + 1) = d (96 + 4 * c + 1)) → laneR d2 x v k = laneR d x v k
  | 0, _ => rfl
  | k + 1, h => by rw [laneR, laneR, lane_ext k (fun c hc => h c (by omega)), (h k (by omega)).1, (h k (by omega)).2]
theorem ins_ext {d d2 : Nat → Int32} : ∀ k, (∀ c, c < k → d2 (96 + 4 * c) = d (96 + 4 * c)) → insR d2 k = insR d k
  | 0, _ => rfl
  | k + 1, h => by rw [insR, insR, ins_ext k (fun c hc => h c (by omega)), h k (by omega)]
theorem lx_n {s : Nat} (hs : s < 12) {w : Int32} (hw : w = 1 ∨ w = -1) : lx (nI s) w = if w = 1 then 2 * s + 1 else 2 * s := by
  have h : ∀ s, s < 12 → lx (nI s) 1 = 2 * s + 1 ∧ lx (nI s) (-1) = 2 * s := by decide
  rcases hw with rfl | rfl
  · rw [(h s hs).1]; rfl
  · rw [(h s hs).2]; rfl
theorem w_ne : ¬ (-1 : Int32) = 1 := by decide
theorem lx_inj {s t : Nat} (hs : s < 12) (ht : t < 12) {w v : Int32} (hw : w = 1 ∨ w = -1) (hv : v = 1 ∨ v = -1) : lx (nI s) w = lx (nI t) v ↔ (nI s = nI t ∧ w = v) := by
  rw [lx_n hs hw, lx_n ht hv]
  have e : nI s = nI t ↔ s = t := nI_eq (by omega) (by omega)
  rw [e]
  rcases hw with rfl | rfl <;> rcases hv with rfl | rfl
  · rw [if_pos rfl, if_pos rfl]; constructor
    · intro h; exact ⟨by omega, rfl⟩
    · intro h; omega
  · rw [if_pos rfl, if_neg w_ne]; constructor
    · intro h; omega
    · intro h; exact absurd h.2.symm w_ne
  · rw [if_pos rfl, if_neg w_ne]; constructor
    · intro h; omega
    · intro h; exact absurd h.2 w_ne
  · rw [if_neg w_ne, if_neg w_ne]; constructor
    · intro h; exact ⟨by omega, rfl⟩
    · intro h; omega
/-- cars, lanes, signals, bays and fire alike -/
def CRc (n nc : Nat) (cap fi ins : Int32) (ba rd la cs cd d : Nat → Int32) : Prop :=
  (d 0 = nI n ∧ d 1 = cap ∧ d 2 = nI nc ∧ d 4 = fi ∧ n ≤ 12 ∧ nc ≤ 20 ∧ (fi = -1 ∨ Inn fi n)) ∧
  (∀ s, s < n → d (12 + 7 * s + 4) = ba s ∧ d (12 + 7 * s + 5) = rd (2 * s + 1) ∧ d (12 + 7 * s + 6) = rd (2 * s)) ∧
  (∀ c, c < nc → d (96 + 4 * c) = cs c ∧ d (96 + 4 * c + 1) = cd c ∧ (cs c = -1 ∨ Inn (cs c) n) ∧ (cd c = 1 ∨ cd c = -1)) ∧
  (∀ s, s < n → ∀ w, (w = 1 ∨ w = -1) → la (lx (nI s) w) = laneR d (nI s) w nc) ∧ ins = insR d nc
def CR (P : PD) (T : TD) (d : Nat → Int32) : Prop := CRc (pN P) (pCar P) (pCap P) (tFire T) (tIns T) (tBay T) (tRed T) (tLane T) (tCs T) (tCd T) d
theorem CRc_cs {n nc : Nat} {cap fi ins : Int32} {ba rd la cs cd d : Nat → Int32} (h : CRc n nc cap fi ins ba rd la cs cd d) {c : Nat} (hc : c < nc) {y ins2 : Int32} {la2 : Nat → Int32} (hy : y = -1 ∨ Inn y n)
    (hla : ∀ s, s < n → ∀ w, (w = 1 ∨ w = -1) → la2 (lx (nI s) w) = la (lx (nI s) w) + ((if y = nI s ∧ cd c = w then 1 else 0) - (if cs c = nI s ∧ cd c = w then 1 else 0)))
    (hin : ins2 = ins + ((if y < 0 then 0 else 1) - (if cs c < 0 then 0 else 1))) : CRc n nc cap fi ins2 ba rd la2 (upd cs c y) cd (upd d (96 + 4 * c) y) := by
  obtain ⟨⟨h0, h1, h2, h4, hn, hnc, hf⟩, hs, hcar, hl, hi⟩ := h
  have hcc := hcar c hc
  have u : ∀ j, j < 96 → upd d (96 + 4 * c) y j = d j := fun j hj => by rw [upd_at, if_neg (by omega)]
  refine ⟨⟨(u 0 (by decide)).trans h0, (u 1 (by decide)).trans h1, (u 2 (by decide)).trans h2, (u 4 (by decide)).trans h4, hn, hnc, hf⟩, fun s hs2 => ?_, fun k hk => ?_, fun s hs2 w hw => ?_, ?_⟩
  · rw [u _ (by omega), u _ (by omega), u _ (by omega)]; exact hs s hs2
  · have hk2 := hcar k hk
    rw [upd_at, upd_at, upd_at]
    by_cases e : k = c
    · subst e
      rw [if_neg (show ¬ 96 + 4 * k + 1 = 96 + 4 * k by omega), if_pos rfl, if_pos rfl]
      exact ⟨rfl, hk2.2.1, hy, hk2.2.2.2⟩
    · rw [if_neg (show ¬ 96 + 4 * k = 96 + 4 * c by omega), if_neg (show ¬ 96 + 4 * k + 1 = 96 + 4 * c by omega), if_neg e]
      exact hk2
  · rw [hla s hs2 w hw, hl s hs2 w hw, lane_cs, if_pos hc, hcc.1, hcc.2.1]
  · rw [hin, hi, ins_cs, if_pos hc, hcc.1]
theorem CRc_cd {n nc : Nat} {cap fi ins : Int32} {ba rd la cs cd d : Nat → Int32} (h : CRc n nc cap fi ins ba rd la cs cd d) {c : Nat} (hc : c < nc) {y : Int32} {la2 : Nat → Int32} (hy : y = 1 ∨ y = -1)
    (hla : ∀ s, s < n → ∀ w, (w = 1 ∨ w = -1) → la2 (lx (nI s) w) = la (lx (nI s) w) + ((if cs c = nI s ∧ y = w then 1 else 0) - (if cs c = nI s ∧ cd c = w then 1 else 0))) : CRc n nc cap fi ins ba rd la2 cs (upd cd c y) (upd d (96 + 4 * c + 1) y) := by
  obtain ⟨⟨h0, h1, h2, h4, hn, hnc, hf⟩, hs, hcar, hl, hi⟩ := h
  have hcc := hcar c hc
  have u : ∀ j, j < 96 → upd d (96 + 4 * c + 1) y j = d j := fun j hj => by rw [upd_at, if_neg (by omega)]
  refine ⟨⟨(u 0 (by decide)).trans h0, (u 1 (by decide)).trans h1, (u 2 (by decide)).trans h2, (u 4 (by decide)).trans h4, hn, hnc, hf⟩, fun s hs2 => ?_, fun k hk => ?_, fun s hs2 w hw => ?_, ?_⟩
  · rw [u _ (by omega), u _ (by omega), u _ (by omega)]; exact hs s hs2
  · have hk2 := hcar k hk
    rw [upd_at, upd_at, upd_at]
    by_cases e : k = c
    · subst e
      rw [if_neg (show ¬ 96 + 4 * k = 96 + 4 * k + 1 by omega), if_pos rfl, if_pos rfl]
      exact ⟨hk2.1, rfl, hk2.2.2.1, hy⟩
    · rw [if_neg (show ¬ 96 + 4 * k = 96 + 4 * c + 1 by omega), if_neg (show ¬ 96 + 4 * k + 1 = 96 + 4 * c + 1 by omega), if_neg e]
      exact hk2
  · rw [hla s hs2 w hw, hl s hs2 w hw, lane_cd, if_pos hc, hcc.1, hcc.2.1]
  · rw [hi, ins_ext]
    intro k _
    rw [upd_at, if_neg (by omega)]
theorem inB_iff {x : Int32} {n : Nat} (hn : n ≤ 20) : inB x 0 (nI n - 1) = true ↔ ¬ (x < 0 ∨ nI n ≤ x) := by
  constructor
  · intro h
    obtain ⟨t, ht, rfl⟩ := in_innC hn h
    rintro (h1 | h1)
    · exact nI_pos (by omega) h1
    · exact nI_ge ht (by omega) h1
  · intro h
    obtain ⟨t, ht, rfl⟩ := inn_of (n := n) (by omega) (fun h1 => h (Or.inl h1)) (fun h1 => h (Or.inr h1))
    refine inB_t (nI_pos (by omega)) (fun h1 => ?_)
    rw [show (1 : Int32) = nI 1 from rfl, pk_sub (by omega)] at h1
    exact nI_nlt (a := n - 1) (b := t) (by omega) (by omega) h1
/-- a car drives on both sides -/
theorem drive_rel {P : PD} {T : TD} {d st : Nat → Int32} (h : CR P T d) {c s : Nat} (hc : c < pCar P) (hs : s < pN P) {w : Int32} (hw : w = 1 ∨ w = -1) (e1 : tCs T c = nI s) (e2 : tCd T c = w) :
    CR P (driveF P T c (nI s) w).2 (drvR (pN P) (pCar P) c (st, d)).2 ∧ tCd (driveF P T c (nI s) w).2 = tCd T ∧
    (((driveF P T c (nI s) w).1 = 0 ∧ (drvR (pN P) (pCar P) c (st, d)).1 = upd (upd st c 0) c 1 ∧ tCs (driveF P T c (nI s) w).2 = tCs T) ∨
     ((driveF P T c (nI s) w).1 = 1 ∧ (drvR (pN P) (pCar P) c (st, d)).1 = upd st c 0 ∧ tCs (driveF P T c (nI s) w).2 = upd (tCs T) c (if nI s + w < 0 ∨ nI (pN P) ≤ nI s + w then -1 else nI s + w))) := by
  have hh := h
  obtain ⟨⟨h0, h1, h2, h4, hn, hnc, hf⟩, hsec, hcar, hl, hi⟩ := hh
  have hcc := hcar c hc
  have eT : toR d c = nI s + w := by rw [toR, hcc.1, hcc.2.1, e1, e2]
  have ns0 : ¬ nI s < 0 := nI_pos (by omega)
  have lxs : ∀ t, t < pN P → ∀ v, (v = 1 ∨ v = -1) → (lx (nI t) v = lx (nI s) w ↔ (nI s = nI t ∧ w = v)) := fun t ht v hv => by
    rw [lx_inj (by omega) (by omega) hv hw]
    exact ⟨fun h => ⟨h.1.symm, h.2.symm⟩, fun h => ⟨h.1.symm, h.2.symm⟩⟩
  by_cases ho : nI s + w < 0 ∨ nI (pN P) ≤ nI s + w
  · have hb : ¬ inB (toR d c) 0 (nI (pN P) - 1) = true := by rw [eT, inB_iff (by omega)]; exact fun h => h ho
    have eD : driveF P T c (nI s) w = (1, decL (sIns (sCs T (upd (tCs T) c (-1))) (tIns T - 1)) (nI s) w) := by rw [driveF, if_pos ho]
    have eR : drvR (pN P) (pCar P) c (st, d) = (upd st c 0, upd d (96 + 4 * c) (-1)) := by rw [drvR, if_neg hb]
    rw [eD, eR, if_pos ho]
    refine ⟨?_, rfl, Or.inr ⟨rfl, rfl, rfl⟩⟩
    refine CRc_cs h hc (Or.inl rfl) (fun t ht v hv => ?_) ?_
    · show upd (tLane T) (lx (nI s) w) (tLane T (lx (nI s) w) - 1) (lx (nI t) v) = _
      rw [upd_at, e1, e2, if_neg (show ¬ ((-1 : Int32) = nI t ∧ w = v) from fun h => absurd (show nI t < 0 by rw [← h.1]; decide) (nI_pos (by omega)))]
      by_cases e : nI s = nI t ∧ w = v
      · rw [if_pos ((lxs t ht v hv).mpr e), if_pos e, e.1, e.2]; grind
      · rw [if_neg (fun h => e ((lxs t ht v hv).mp h)), if_neg e]; grind
    · show tIns T - 1 = _
      rw [e1, if_pos (show (-1 : Int32) < 0 by decide), if_neg ns0]; grind
  · have hb : inB (toR d c) 0 (nI (pN P) - 1) = true := by rw [eT, inB_iff (by omega)]; exact ho
    obtain ⟨t, ht, et⟩ := inn_of (x := nI s + w) (n := pN P) (by omega) (fun h => ho (Or.inl h)) (fun h => ho (Or.inr h))
    have hlt := hl t ht w hw
    have esig : d (12 + 7 * t + (if d (96 + 4 * c + 1) = 1 then 5 else 6)) = tRed T (lx (nI t) w) := by
      rw [hcc.2.1, e2, lx_n (by omega) hw]
      rcases hw with rfl | rfl
      · rw [if_pos rfl, if_pos rfl]; exact (hsec t ht).2.1
      · rw [if_neg w_ne, if_neg w_ne]; exact (hsec t ht).2.2
    have hfree : freeR d (pCar P) c ↔ ¬ (nI s + w = tFire T ∨ tRed T (lx (nI s + w) w) ≠ 0 ∨ pCap P ≤ tLane T (lx (nI s + w) w)) := by
      rw [freeR, eT, et, nI_clamp (by omega), esig, hcc.2.1, e2, h4, h1, hlt]
      constructor
      · rintro ⟨a, b, c9⟩ (h | h | h)
        · exact a h
        · exact h b
        · exact Int32.not_le.mpr c9 h
      · intro h
        refine ⟨fun a => h (Or.inl a), ?_, ?_⟩
        · by_cases hz : tRed T (lx (nI t) w) = 0
          · exact hz
          · exact absurd (Or.inr (Or.inl hz)) h
        · exact Int32.not_le.mp (fun a => h (Or.inr (Or.inr a)))
    by_cases hg : nI s + w = tFire T ∨ tRed T (lx (nI s + w) w) ≠ 0 ∨ pCap P ≤ tLane T (lx (nI s + w) w)
    · have eD : driveF P T c (nI s) w = (0, T) := by rw [driveF, if_neg ho, if_pos hg]
      have eR : drvR (pN P) (pCar P) c (st, d) = (upd (upd st c 0) c 1, d) := by rw [drvR, if_pos hb, if_neg (fun z => (hfree.mp (free_iff.mp z)) hg)]
      rw [eD, eR]
      exact ⟨h, rfl, Or.inl ⟨rfl, rfl, rfl⟩⟩
    · have eD : driveF P T c (nI s) w = (1, decL (incL (sCs T (upd (tCs T) c (nI s + w))) (nI s + w) w) (nI s) w) := by rw [driveF, if_neg ho, if_neg hg]
      have eR : drvR (pN P) (pCar P) c (st, d) = (upd st c 0, upd d (96 + 4 * c) (toR d c)) := by rw [drvR, if_pos hb, if_pos (free_iff.mpr (hfree.mpr hg))]
      rw [eD, eR, if_neg ho, eT]
      refine ⟨?_, rfl, Or.inr ⟨rfl, rfl, rfl⟩⟩
      rw [et]
      refine CRc_cs h hc (Or.inr ⟨t, ht, rfl⟩) (fun r hr v hv => ?_) ?_
      · have lxt : lx (nI r) v = lx (nI t) w ↔ (nI t = nI r ∧ w = v) := by
          rw [lx_inj (by omega) (by omega) hv hw]
          exact ⟨fun h => ⟨h.1.symm, h.2.symm⟩, fun h => ⟨h.1.symm, h.2.symm⟩⟩
        have lst : ¬ lx (nI s) w = lx (nI t) w := fun h9 => by
          have e9 := ((lx_inj (by omega) (by omega) hw hw).mp h9).1
          rw [← e9] at et
          rcases hw with rfl | rfl
          · exact absurd et (by intro h; have : (1 : Int32) = 0 := by grind
                                exact absurd this (by decide))
          · exact absurd et (by intro h; have : (-1 : Int32) = 0 := by grind
                                exact absurd this (by decide))
        show upd (upd (tLane T) (lx (nI t) w) (tLane T (lx (nI t) w) + 1)) (lx (nI s) w) (upd (tLane T) (lx (nI t) w) (tLane T (lx (nI t) w) + 1) (lx (nI s) w) - 1) (lx (nI r) v) = _
        rw [upd_at, upd_at, upd_at, if_neg lst, e1, e2]
        by_cases e : nI s = nI r ∧ w = v
        · have e3 : lx (nI r) v = lx (nI s) w := (lxs r hr v hv).mpr e
          have e4 : ¬ (nI t = nI r ∧ w = v) := fun h9 => lst (by rw [← e3]; exact lxt.mpr h9)
          rw [if_pos e3, if_pos e, if_neg e4, e3]; grind
        · rw [if_neg (fun h => e ((lxs r hr v hv).mp h)), if_neg e]
          by_cases e4 : nI t = nI r ∧ w = v
          · rw [if_pos (lxt.mpr e4), if_pos e4, lxt.mpr e4]; grind
          · rw [if_neg (fun h => e4 (lxt.mp h)), if_neg e4]; grind
      · show tIns T = _
        rw [e1, if_neg (show ¬ nI t < 0 from nI_pos (by omega)), if_neg ns0]; grind
