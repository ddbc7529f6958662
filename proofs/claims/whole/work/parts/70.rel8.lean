theorem smA_keepG {re d : Nat → Int32} {n j : Nat} (h10 : j ≠ 10) (hj : ∀ i, i < n → j ≠ 12 + 7 * i) : ∀ k, k ≤ n → (foldN smA (re, d) k).2 j = d j
  | 0, _ => rfl
  | k + 1, h => by
    rw [foldN_s]
    show upd (upd _ 10 _) (12 + 7 * k) 0 j = d j
    rw [upd_at, if_neg (hj k (by omega)), upd_at, if_neg h10]
    exact smA_keepG h10 hj k (by omega)
theorem smB_keepG {n : Nat} (hn : n ≤ 12) {pa sp : Int32} {re d : Nat → Int32} {j : Nat} (h9 : j ≠ 9) (hj : ∀ i, i < n → j ≠ 12 + 7 * i) : ∀ k, k ≤ n → (foldN (smB n pa sp re) d k) j = d j
  | 0, _ => rfl
  | k + 1, h => by
    rw [foldN_s]
    have h1 : smB1 pa re k (foldN (smB n pa sp re) d k) j = d j := by
      rw [smB1, upd_at, if_neg (hj k (by omega))]
      exact smB_keepG hn h9 hj k (by omega)
    unfold smB
    split
    · rename_i hi
      obtain ⟨t, ht, et⟩ := in_inn hn hi
      rw [et, nI_clamp (by omega), upd_at, if_neg (hj t ht)]; exact h1
    · rw [upd_at, if_neg h9]; exact h1
theorem smD_keepG {n : Nat} (hn : n ≤ 12) {re d : Nat → Int32} {j : Nat} (h9 : j ≠ 9) (h10 : j ≠ 10) (hj : ∀ i, i < n → j ≠ 12 + 7 * i) : smD n re d j = d j :=
  (smB_keepG hn h9 hj n (Nat.le_refl _)).trans (smA_keepG h10 hj n (Nat.le_refl _))
theorem smF_keepG {n : Nat} (hn : n ≤ 12) {r : Int32} {d : Nat → Int32} (hf : d 4 = -1 ∨ Inn (d 4) n) {j : Nat} (h8 : j ≠ 8) (hj : ∀ i, i < n → j ≠ 12 + 7 * i) : smF r d j = d j := by
  unfold smF
  split
  · rfl
  · rename_i h
    obtain ⟨t, ht, et⟩ := hf.resolve_left (fun e => h (by rw [e]; decide))
    rw [upd_at, if_neg h8, smF1, et, nI_clamp (by omega), upd_at, if_neg (hj t ht)]
theorem tkA_keepG {n nc : Nat} (hn : n ≤ 12) {cs : Nat → Int32} {kc : Nat} {X : TS} (hf : X.d 4 = -1 ∨ Inn (X.d 4) n) {j : Nat} (h8 : j ≠ 8) (h9 : j ≠ 9) (h10 : j ≠ 10) (hj : ∀ i, i < n → j ≠ 12 + 7 * i) : tkA n nc cs kc X j = X.d j :=
  (smF_keepG hn (by rw [smD_keep (by decide) (by decide) (by decide)]; exact hf) h8 hj).trans (smD_keepG hn h9 h10 hj)
/-- the cars after a tick, whatever the smoke -/
theorem tick_CR {P : PD} {T : TD} {X : TS} {cs : Nat → Int32} {kc : Nat} (h : CR P T X.d) : CR P (moveF P T).2 (tkF (pN P) (pCar P) cs kc X).d := by
  have hn := h.1.2.2.2.2.1
  have hnc := h.1.2.2.2.2.2.1
  have hf : X.d 4 = -1 ∨ Inn (X.d 4) (pN P) := by rw [h.1.2.2.2.1]; exact h.1.2.2.2.2.2.2
  have g := fun j h8 h9 h10 hj => tkA_keepG (nc := pCar P) (cs := cs) (kc := kc) hn hf (j := j) h8 h9 h10 hj
  have hA : CR P T (tkA (pN P) (pCar P) cs kc X) := CR_ext h ⟨rfl, rfl, rfl, rfl, rfl, rfl, rfl⟩ (fun j hj _ => g j (by omega) (by omega) (by omega) (fun i _ => by omega)) (fun s _ => ⟨g _ (by omega) (by omega) (by omega) (fun i _ => by omega), g _ (by omega) (by omega) (by omega) (fun i _ => by omega), g _ (by omega) (by omega) (by omega) (fun i _ => by omega)⟩) (fun c _ => ⟨g _ (by omega) (by omega) (by omega) (fun i _ => by omega), g _ (by omega) (by omega) (by omega) (fun i _ => by omega)⟩)
  have hm := move_rel (dr := kI (pCar P) 0 X.dr) (st := kI (pCar P) 0 X.st) hA (fun c hc => by rw [kI, if_pos hc]) (fun c hc => by rw [kI, if_pos hc])
  have e3 : tk3 (pN P) (pCar P) cs kc X = mvD (pN P) (pCar P) (kI (pCar P) 0 X.dr) (kI (pCar P) 0 X.st) (tkA (pN P) (pCar P) cs kc X) := rfl
  rw [← e3] at hm
  have x1 : ∀ j, j < 96 → tk4 (pN P) (pCar P) cs kc X j = tk3 (pN P) (pCar P) cs kc X j := fun j hj => tkX_keep hj (pCar P)
  have x2 : ∀ c, tk4 (pN P) (pCar P) cs kc X (96 + 4 * c) = tk3 (pN P) (pCar P) cs kc X (96 + 4 * c) := fun c => tkX_keepC (pCar P)
  have x2b : ∀ c, tk4 (pN P) (pCar P) cs kc X (96 + 4 * c + 1) = tk3 (pN P) (pCar P) cs kc X (96 + 4 * c + 1) := fun c => by
    have hq : ∀ k, foldN tkX (tk3 (pN P) (pCar P) cs kc X) k (96 + 4 * c + 1) = tk3 (pN P) (pCar P) cs kc X (96 + 4 * c + 1) := fun k => by
      induction k with
      | zero => rfl
      | succ k ih =>
        rw [foldN_s]
        unfold tkX
        split
        · exact ih
        · exact (xp_keep (by omega) (by omega)).trans ih
    exact hq (pCar P)
  have u : ∀ j, j ≠ 3 → (tkF (pN P) (pCar P) cs kc X).d j = tk4 (pN P) (pCar P) cs kc X j := fun j hj => by
    show upd (tk4 (pN P) (pCar P) cs kc X) 3 _ j = _
    rw [upd_at, if_neg hj]
  exact CR_ext hm ⟨rfl, rfl, rfl, rfl, rfl, rfl, rfl⟩ (fun j hj h3 => (u j h3).trans (x1 j (by omega))) (fun s hs => ⟨(u _ (by omega)).trans (x1 _ (by have := hn; omega)), (u _ (by omega)).trans (x1 _ (by omega)), (u _ (by omega)).trans (x1 _ (by omega))⟩) (fun c _ => ⟨(u _ (by omega)).trans (x2 c), (u _ (by omega)).trans (x2b c)⟩)
theorem cl_stuck {P : PD} {T : TD} {cs : Nat → Int32} {kc : Nat} (hz : (moveF P T).1 = 0) (hi : ¬ tIns T = 0) : ∀ (r k : Nat) (X : TS), CR P T X.d → (clF (pN P) (pCar P) cs kc r k X).1 = -1
  | 0, _, _, _ => rfl
  | r + 1, k, X, h => by
    rw [clF_s, ← h.2.2.2.2, if_neg hi]
    have h1 := tick_CR (cs := cs) (kc := kc) h
    rw [move_still h hz] at h1
    exact cl_stuck hz hi r (k + 1) _ h1
theorem clear_rel {P : PD} {cs : Nat → Int32} {kc : Nat} : ∀ (r k : Nat) (T : TD) (X : TS), CR P T X.d → (clearR P r k T).1 = (clF (pN P) (pCar P) cs kc r k X).1
  | 0, _, _, _, _ => rfl
  | r + 1, k, T, X, h => by
    rw [clF_s, clearR, ← h.2.2.2.2]
    by_cases hi : tIns T = 0
    · rw [if_pos hi, if_pos hi]
    · rw [if_neg hi, if_neg hi]
      have h1 := tick_CR (cs := cs) (kc := kc) h
      by_cases hz : (moveF P T).1 = 0
      · rw [if_pos hz]
        rw [move_still h hz] at h1
        exact (cl_stuck hz hi r (k + 1) _ h1).symm
      · rw [if_neg hz]
        exact clear_rel r (k + 1) _ _ h1
/-- a shorter limit answers alike or not at all -/
theorem clear_lim {P : PD} : ∀ (r q k : Nat) (T : TD), k + r + q < 1000 → (clearR P r k T).1 = (clearR P (r + q) k T).1 ∨ ((clearR P r k T).1 = -1 ∧ ((clearR P (r + q) k T).1 = -1 ∨ ∃ t, k + r ≤ t ∧ t < k + r + q ∧ (clearR P (r + q) k T).1 = nI t))
  | 0, q, k, T, hb => by
    refine Or.inr ⟨rfl, ?_⟩
    rw [Nat.zero_add]
    have h : ∀ (q k : Nat) (T : TD), (clearR P q k T).1 = -1 ∨ ∃ t, k ≤ t ∧ t < k + q ∧ (clearR P q k T).1 = nI t := fun q => by
      induction q with
      | zero => intro k T; exact Or.inl rfl
      | succ q ih =>
        intro k T
        rw [clearR]
        by_cases hi : tIns T = 0
        · rw [if_pos hi]; exact Or.inr ⟨k, Nat.le_refl _, by omega, rfl⟩
        · rw [if_neg hi]
          by_cases hz : (moveF P T).1 = 0
          · rw [if_pos hz]; exact Or.inl rfl
          · rw [if_neg hz]
            rcases ih (k + 1) (moveF P T).2 with h | ⟨t, h1, h2, h3⟩
            · exact Or.inl h
            · exact Or.inr ⟨t, by omega, by omega, h3⟩
    exact h q k T
  | r + 1, q, k, T, hb => by
    rw [show r + 1 + q = (r + q) + 1 by omega, clearR, clearR]
    by_cases hi : tIns T = 0
    · rw [if_pos hi, if_pos hi]; exact Or.inl rfl
    · rw [if_neg hi, if_neg hi]
      by_cases hz : (moveF P T).1 = 0
      · rw [if_pos hz, if_pos hz]; exact Or.inl rfl
      · rw [if_neg hz, if_neg hz]
        rcases clear_lim r q (k + 1) (moveF P T).2 (by omega) with h | ⟨h, h2⟩
        · exact Or.inl h
        · refine Or.inr ⟨h, ?_⟩
          rcases h2 with h2 | ⟨t, h3, h4, h5⟩
          · exact Or.inl h2
          · exact Or.inr ⟨t, by omega, by omega, h5⟩
theorem and1 (x : Int32) : x &&& 1 = 0 ∨ x &&& 1 = 1 := by
  by_cases h : bt x 0 = true
  · right
    refine b_ext (fun i hi => ?_)
    rw [b_and, b_1 i hi]
    by_cases e : i = 0
    · subst e; rw [h]; rfl
    · simp [e]
  · left
    refine b_ext (fun i hi => ?_)
    rw [b_and, b_1 i hi, b_0]
    by_cases e : i = 0
    · subst e; simp [h]
    · simp [e]
/-- the bays opened on both sides -/
theorem open_rel {P : PD} {T : TD} {d : Nat → Int32} (h : CR P T d) (hb : ∀ s, s < pN P → tBay T s = -1 ∨ tBay T s = 0 ∨ tBay T s = 1) (v : Nat) : CR P (openAllF P (nI v) T) (foldN (opS2 d v) d (pN P)) := by
  have hn := h.1.2.2.2.2.1
  have key : ∀ k, k ≤ pN P → (∀ j, (∀ i, i < k → j ≠ 12 + 7 * i + 4) → foldN (opS2 d v) d k j = d j) ∧ (∀ s, s < pN P → foldN (opS2 d v) d k (12 + 7 * s + 4) = tBay (foldN (openF (nI v)) T k) s) ∧ (∀ s, k ≤ s → tBay (foldN (openF (nI v)) T k) s = tBay T s) ∧ (tFire (foldN (openF (nI v)) T k) = tFire T ∧ tIns (foldN (openF (nI v)) T k) = tIns T ∧ tRed (foldN (openF (nI v)) T k) = tRed T ∧ tLane (foldN (openF (nI v)) T k) = tLane T ∧ tCs (foldN (openF (nI v)) T k) = tCs T ∧ tCd (foldN (openF (nI v)) T k) = tCd T) := fun k => by
    induction k with
    | zero => intro _; exact ⟨fun _ _ => rfl, fun s hs => (h.2.1 s hs).1, fun _ _ => rfl, rfl, rfl, rfl, rfl, rfl, rfl⟩
    | succ k ih =>
      intro hk
      obtain ⟨i1, i2, i3, i4⟩ := ih (by omega)
      have ek := i3 k (Nat.le_refl _)
      have hd : d (12 + 7 * k + 4) = tBay T k := (h.2.1 k (by omega)).1
      rw [foldN_s, foldN_s]
      generalize foldN (opS2 d v) d k = D at i1 i2 ⊢
      generalize foldN (openF (nI v)) T k = T1 at i2 i3 i4 ek ⊢
      unfold opS2 openF
      rw [hd, ek]
      by_cases e : tBay T k = -1
      · rw [if_pos (show tBay T k < 0 by rw [e]; decide), if_pos e]
        exact ⟨fun j hj => i1 j (fun i hi => hj i (by omega)), i2, fun s hs => i3 s (by omega), i4⟩
      · have hnn : ¬ tBay T k < 0 := by
          rcases (hb k (by omega)).resolve_left e with h9 | h9 <;> rw [h9] <;> decide
        rw [if_neg hnn, if_neg e]
        have hbit : (if (nI v >>> (nI k &&& 31)) &&& 1 = 1 then (1 : Int32) else 0) = (nI v >>> (nI k &&& 31)) &&& 1 := by
          rcases and1 (nI v >>> (nI k &&& 31)) with h9 | h9
          · rw [h9]; rfl
          · rw [h9]; rfl
        rw [hbit]
        refine ⟨fun j hj => ?_, fun s hs => ?_, fun s hs => ?_, i4⟩
        · rw [upd_at, if_neg (hj k (by omega))]; exact i1 j (fun i hi => hj i (by omega))
        · show upd D (12 + 7 * k + 4) _ (12 + 7 * s + 4) = upd (tBay T1) k _ s
          rw [upd_at, upd_at]
          by_cases e2 : s = k
          · rw [if_pos (by omega), if_pos e2]
          · rw [if_neg (by omega), if_neg e2]; exact i2 s hs
        · show upd (tBay T1) k _ s = _
          rw [upd_at, if_neg (by omega)]; exact i3 s (by omega)
  obtain ⟨k1, k2, _, k4⟩ := key (pN P) (Nat.le_refl _)
  have eO : foldN (openF (nI v)) T (pN P) = openAllF P (nI v) T := rfl
  rw [eO] at k2 k4
  generalize openAllF P (nI v) T = T2 at k2 k4 ⊢
  generalize foldN (opS2 d v) d (pN P) = D at k1 k2 ⊢
  obtain ⟨f1, f2, f3, f4, f5, f6⟩ := k4
  obtain ⟨⟨a0, a1, a2, a4, hn, hnc, hf⟩, b, c0, l0, i0⟩ := h
  have g : ∀ j, (j < 12 ∨ 96 ≤ j) → D j = d j := fun j hj => k1 j (fun i hi => by omega)
  have gc : ∀ c, D (96 + 4 * c) = d (96 + 4 * c) ∧ D (96 + 4 * c + 1) = d (96 + 4 * c + 1) := fun c => ⟨g _ (by omega), g _ (by omega)⟩
  refine ⟨⟨(g 0 (by omega)).trans a0, (g 1 (by omega)).trans a1, (g 2 (by omega)).trans a2, by rw [g 4 (by omega), f1]; exact a4, hn, hnc, by rw [f1]; exact hf⟩, fun s hs => ?_, fun c hc => ?_, fun s hs w hw => ?_, ?_⟩
  · refine ⟨k2 s hs, ?_, ?_⟩
    · rw [k1 _ (fun i _ => by omega), f3]; exact (b s hs).2.1
    · rw [k1 _ (fun i _ => by omega), f3]; exact (b s hs).2.2
  · rw [(gc c).1, (gc c).2, f5, f6]; exact c0 c hc
  · rw [f4, lane_ext _ (fun c _ => gc c)]; exact l0 s hs w hw
  · rw [f2, ins_ext _ (fun c _ => (gc c).1)]; exact i0
theorem pop_n2 : ∀ a, a < 64 → ∀ b, b < 64 → popF (nI (64 * a + b)) = nI (onN 13 (64 * a + b)) := by decide +kernel
theorem pop_n {v : Nat} (h : v < 4096) : popF (nI v) = nI (onN 13 v) := by
  have h1 := pop_n2 (v / 64) (by omega) (v % 64) (Nat.mod_lt _ (by decide))
  rw [show 64 * (v / 64) + v % 64 = v by omega] at h1
  exact h1
