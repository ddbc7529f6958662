theorem ahead_n : ∀ f, f < 12 → ∀ t, t < 12 → (((nI f - nI t) * 1 ≤ 0 ↔ nI f ≤ nI t) ∧ ((nI f - nI t) * (-1) ≤ 0 ↔ nI t ≤ nI f)) := by decide
theorem ahead_iff {T : TD} {n t : Nat} (hn : n ≤ 12) (hf : tFire T = -1 ∨ Inn (tFire T) n) (ht : t < n) {w : Int32} (hw : w = 1 ∨ w = -1) : aheadF T (nI t) w = 0 ↔ ¬ (¬ tFire T < 0 ∧ ¬ (tFire T - nI t) * w ≤ 0) := by
  rcases hf with hf | ⟨f, hf, ef⟩
  · rw [aheadF, hf, if_pos (by decide)]
    exact ⟨fun _ h => h.1 (by decide), fun _ => rfl⟩
  · have h9 := ahead_n f (by omega) t (by omega)
    have h0 : ¬ nI f < 0 := nI_pos (by omega)
    rw [aheadF, ef, if_neg h0]
    rcases hw with rfl | rfl
    · rw [if_pos rfl, h9.1]
      by_cases e : nI f ≤ nI t
      · rw [if_pos e]; exact ⟨fun _ h => h.2 e, fun _ => rfl⟩
      · rw [if_neg e]; exact ⟨fun h => absurd h (by decide), fun h => absurd ⟨h0, e⟩ h⟩
    · rw [if_neg w_ne, h9.2]
      by_cases e : nI t ≤ nI f
      · rw [if_pos e]; exact ⟨fun _ h => h.2 e, fun _ => rfl⟩
      · rw [if_neg e]; exact ⟨fun h => absurd h (by decide), fun h => absurd ⟨h0, e⟩ h⟩
theorem neg_w {w : Int32} (hw : w = 1 ∨ w = -1) : (-w = 1 ∨ -w = -1) ∧ ¬ -w = w := by
  rcases hw with rfl | rfl
  · exact ⟨Or.inr rfl, by decide⟩
  · exact ⟨Or.inl (by decide), by decide⟩
/-- a car turns on both sides -/
theorem turn_rel {P : PD} {T : TD} {d st : Nat → Int32} {mv x : Int32} (h : CR P T d) {c : Nat} (hc : c < pCar P) (hst : (¬ tCs T c = -1 ∧ (mv >>> (nI c &&& 31)) &&& 1 = 0) ↔ ¬ st c = 0) :
    CR P (turnF P mv c (x, T)).2 (tkT st (pCar P) c d) ∧ tCs (turnF P mv c (x, T)).2 = tCs T := by
  obtain ⟨⟨h0, h1, h2, h4, hn, hnc, hf⟩, hsec, hcar, hl, hi⟩ := id h
  have hcc := hcar c hc
  by_cases hs : st c = 0
  · have hno : tCs T c < 0 ∨ ¬ ((mv >>> (nI c &&& 31)) &&& 1) = 0 := by
      by_cases e : tCs T c = -1
      · exact Or.inl (by rw [e]; decide)
      · exact Or.inr (fun e2 => hst.mp ⟨e, e2⟩ hs)
    have eT : turnF P mv c (x, T) = (x, T) := by
      rw [turnF, if_pos]
      rcases hno with e | e
      · exact Or.inl e
      · exact Or.inr (Or.inl e)
    rw [eT, tkT, if_pos hs]
    exact ⟨h, rfl⟩
  · obtain ⟨ho, hb⟩ := hst.mpr hs
    obtain ⟨t, ht, et⟩ := hcc.2.2.1.resolve_left ho
    have ns0 : ¬ tCs T c < 0 := by rw [et]; exact nI_pos (by omega)
    have hw := hcc.2.2.2
    have hnw := neg_w hw
    have hah := ahead_iff (T := T) hn hf ht hw
    have hlr := hl t ht (-(tCd T c)) hnw.1
    rw [tkT, if_neg hs]
    have hcond : (¬ d 4 < 0 ∧ ¬ (d 4 - d (96 + 4 * c)) * d (96 + 4 * c + 1) ≤ 0 ∧ d (12 + 7 * (d (96 + 4 * c)).toNatClampNeg + 4) = 1 ∧ laneR d (d (96 + 4 * c)) (-(d (96 + 4 * c + 1))) (pCar P) < d 1) ↔
        ¬ (tCs T c < 0 ∨ ¬ ((mv >>> (nI c &&& 31)) &&& 1) = 0 ∨ ¬ tBay T (tCs T c).toNatClampNeg = 1 ∨ aheadF T (tCs T c) (tCd T c) = 0 ∨ roomF T P (tCs T c) (-(tCd T c)) = 0) := by
      rw [hcc.1, hcc.2.1, et, nI_clamp (by omega), h4, h1, (hsec t ht).1, ← hlr, hah]
      constructor
      · rintro ⟨a1, a2, a3, a4⟩ (b | b | b | b | b)
        · exact nI_pos (by omega) b
        · exact b hb
        · exact b a3
        · exact b ⟨a1, a2⟩
        · rw [roomF, if_neg (Int32.not_le.mpr a4)] at b
          exact absurd b (by decide)
      · intro h9
        have q1 : ¬ tFire T < 0 ∧ ¬ (tFire T - nI t) * tCd T c ≤ 0 := by
          by_cases e : ¬ tFire T < 0 ∧ ¬ (tFire T - nI t) * tCd T c ≤ 0
          · exact e
          · exact absurd (Or.inr (Or.inr (Or.inr (Or.inl e)))) h9
        have q2 : tBay T t = 1 := by
          by_cases e : tBay T t = 1
          · exact e
          · exact absurd (Or.inr (Or.inr (Or.inl e))) h9
        refine ⟨q1.1, q1.2, q2, Int32.not_le.mp (fun e => h9 (Or.inr (Or.inr (Or.inr (Or.inr ?_)))))⟩
        rw [roomF, if_pos e]
    by_cases hg : tCs T c < 0 ∨ ¬ ((mv >>> (nI c &&& 31)) &&& 1) = 0 ∨ ¬ tBay T (tCs T c).toNatClampNeg = 1 ∨ aheadF T (tCs T c) (tCd T c) = 0 ∨ roomF T P (tCs T c) (-(tCd T c)) = 0
    · have eT : turnF P mv c (x, T) = (x, T) := by rw [turnF, if_pos hg]
      have eR : trR (pCar P) c d = d := by rw [trR, if_neg (fun z => (hcond.mp z) hg)]
      rw [eT, eR]
      exact ⟨h, rfl⟩
    · have eT : turnF P mv c (x, T) = (1, incL (decL (sCd T (upd (tCd T) c (-(tCd T c)))) (tCs T c) (tCd T c)) (tCs T c) (-(tCd T c))) := by rw [turnF, if_neg hg]
      have eR : trR (pCar P) c d = upd d (96 + 4 * c + 1) (-(tCd T c)) := by rw [trR, if_pos (hcond.mpr hg), hcc.2.1]
      rw [eT, eR]
      refine ⟨?_, rfl⟩
      refine CRc_cd h hc hnw.1 (fun s hs2 v hv => ?_)
      have lxn : ¬ lx (nI t) (-(tCd T c)) = lx (nI t) (tCd T c) := fun h9 => hnw.2 ((lx_inj (by omega) (by omega) hnw.1 hw).mp h9).2
      have l1 : lx (nI s) v = lx (nI t) (tCd T c) ↔ (nI t = nI s ∧ tCd T c = v) := by
        rw [lx_inj (by omega) (by omega) hv hw]
        exact ⟨fun h => ⟨h.1.symm, h.2.symm⟩, fun h => ⟨h.1.symm, h.2.symm⟩⟩
      have l2 : lx (nI s) v = lx (nI t) (-(tCd T c)) ↔ (nI t = nI s ∧ -(tCd T c) = v) := by
        rw [lx_inj (by omega) (by omega) hv hnw.1]
        exact ⟨fun h => ⟨h.1.symm, h.2.symm⟩, fun h => ⟨h.1.symm, h.2.symm⟩⟩
      show upd (upd (tLane T) (lx (tCs T c) (tCd T c)) (tLane T (lx (tCs T c) (tCd T c)) - 1)) (lx (tCs T c) (-(tCd T c))) (upd (tLane T) (lx (tCs T c) (tCd T c)) (tLane T (lx (tCs T c) (tCd T c)) - 1) (lx (tCs T c) (-(tCd T c))) + 1) (lx (nI s) v) = _
      rw [et, upd_at, upd_at, upd_at, if_neg lxn]
      by_cases e1 : nI t = nI s ∧ tCd T c = v
      · have e2 : ¬ (nI t = nI s ∧ -(tCd T c) = v) := fun h9 => hnw.2 (h9.2.trans e1.2.symm)
        rw [if_pos e1, if_neg e2, if_neg (fun h9 => e2 (l2.mp h9)), if_pos (l1.mpr e1), ← l1.mpr e1]; grind
      · by_cases e2 : nI t = nI s ∧ -(tCd T c) = v
        · rw [if_neg e1, if_pos e2, if_pos (l2.mpr e2), ← l2.mpr e2]; grind
        · rw [if_neg e1, if_neg e2, if_neg (fun h9 => e2 (l2.mp h9)), if_neg (fun h9 => e1 (l1.mp h9))]; grind
theorem turns_rel {P : PD} {T : TD} {d st : Nat → Int32} {mv : Int32} (h : CR P T d) (hst : ∀ c, c < pCar P → ((¬ tCs T c = -1 ∧ (mv >>> (nI c &&& 31)) &&& 1 = 0) ↔ ¬ st c = 0)) :
    ∀ k, k ≤ pCar P → CR P (foldN (turnF P mv) (0, T) k).2 (foldN (tkT st (pCar P)) d k)
  | 0, _ => h
  | k + 1, hk => by
    have ih := turns_rel h hst k (by omega)
    have hcs := turn_cs (P := P) (mv := mv) (T := T) k
    rw [foldN_s, foldN_s]
    generalize foldN (turnF P mv) (0, T) k = S at ih hcs ⊢
    exact (turn_rel (x := S.1) ih (show k < pCar P by omega) (by rw [hcs]; exact hst k (by omega))).1
/-- what cars don't touch -/
def rsT (T : TD) : Int32 × Int32 × Int64 × Int64 × (Nat → Int64) × (Nat → Int32) × (Nat → Int32) × (Nat → Int32) × (Nat → Int64) := (tClock T, tFire T, tLeft T, tRem T, tSmoke T, tFan T, tBay T, tRed T, tEx T)
theorem rs_drive {P : PD} {T : TD} {c : Nat} {f w : Int32} : rsT (driveF P T c f w).2 = rsT T := by
  unfold driveF
  split
  · rfl
  · split
    · rfl
    · rfl
theorem rs_lanes {P : PD} {T : TD} {w : Int32} : rsT (driveLanesF P T w).2 = rsT T := by
  refine foldN_inv (fun S : Int32 × TD => rsT S.2 = rsT T) (driveLF P w) (0, T) rfl (fun i S hS => ?_) (pN P)
  show rsT (driveLF P w i S).2 = rsT T
  unfold driveLF
  split
  · exact hS
  · refine foldN_inv (fun S : Int32 × TD => rsT S.2 = rsT T) (driveCF P w (driveSec (pN P) w i)) S hS (fun c S1 h1 => ?_) (pCar P)
    show rsT (driveCF P w _ c S1).2 = rsT T
    unfold driveCF
    split
    · exact rs_drive.trans h1
    · exact h1
theorem rs_turn {P : PD} {T : TD} {mv : Int32} : rsT (turnCarsF P mv T).2 = rsT T := by
  refine foldN_inv (fun S : Int32 × TD => rsT S.2 = rsT T) (turnF P mv) (0, T) rfl (fun c S hS => ?_) (pCar P)
  show rsT (turnF P mv c S).2 = rsT T
  unfold turnF
  split
  · exact hS
  · exact hS
theorem rs_move {P : PD} {T : TD} : rsT (moveF P T).2 = rsT T := rs_turn.trans (rs_lanes.trans rs_lanes)
/-- the data after the cars of a tick -/
def mvD (n nc : Nat) (dr st d : Nat → Int32) : Nat → Int32 := foldN (tkT (foldN (tkV n nc) (foldN (tkE n nc) (dr, st, d) n) n).2.1 nc) (foldN (tkV n nc) (foldN (tkE n nc) (dr, st, d) n) n).2.2 nc
theorem move_rel {P : PD} {T : TD} {dr st d : Nat → Int32} (h : CR P T d) (hdr : ∀ c, c < pCar P → dr c = 0) (hst : ∀ c, c < pCar P → st c = 0) : CR P (moveF P T).2 (mvD (pN P) (pCar P) dr st d) := by
  obtain ⟨h1, h2⟩ := passes h hdr hst
  exact turns_rel h1 h2 (pCar P) (Nat.le_refl _)
/-- nothing moved, nothing turned: nothing changed -/
theorem move_still {P : PD} {T : TD} {d : Nat → Int32} (h : CR P T d) (hz : (moveF P T).1 = 0) : (moveF P T).2 = T := by
  have hnc := h.1.2.2.2.2.2.1
  have hz2 : moveM P T = 0 ∧ (moveC P T).1 = 0 := by
    unfold moveF at hz
    by_cases e : moveM P T = 0 ∧ (moveC P T).1 = 0
    · exact e
    · rw [if_neg e] at hz; exact absurd hz (by show ¬ (1 : Int32) = 0; decide)
  have hA : ∀ (w : Int32) (T : TD), (∀ c, c < 20 → bt (driveLanesF P T w).1 c = false) → (driveLanesF P T w).2 = T := by
    intro w T hb
    have key : ∀ (f : Int32 × TD → Int32 × TD), True := fun _ => trivial
    have inner : ∀ (s : Int32) (S : Int32 × TD) (k : Nat), k ≤ pCar P → (∀ c, c < 20 → bt (foldN (driveCF P w s) S k).1 c = false) → (foldN (driveCF P w s) S k) = S := by
      intro s S k
      induction k with
      | zero => intro _ _; rfl
      | succ k ih =>
        intro hk hb
        rw [foldN_s] at hb ⊢
        have hle : ∀ c, c < 20 → bt (foldN (driveCF P w s) S k).1 c = false := fun c hc => by
          have h9 := hb c hc
          unfold driveCF at h9
          split at h9
          · dsimp only at h9
            split at h9
            · exact h9
            · rw [bit_set (by omega) (by omega)] at h9
              exact (Bool.or_eq_false_iff.mp h9).1
          · exact h9
        have e1 := ih (by omega) hle
        rw [e1] at hb ⊢
        unfold driveCF
        split
        · rename_i hm
          have h9 := hb k (by omega)
          rw [driveCF, if_pos hm] at h9
          have h8 : (driveF P S.2 k s w).1 = 0 := by
            by_cases e : (driveF P S.2 k s w).1 = 0
            · exact e
            · dsimp only at h9
              rw [if_neg e, bit_set (by omega) (by omega)] at h9
              simp at h9
          rw [if_pos h8]
          have h7 : (driveF P S.2 k s w).2 = S.2 := by
            unfold driveF at h8 ⊢
            split at h8
            · exact absurd h8 (by show ¬ (1 : Int32) = 0; decide)
            · rename_i c1
              rw [if_neg c1]
              split at h8
              · rename_i c2
                rw [if_pos c2]
              · exact absurd h8 (by show ¬ (1 : Int32) = 0; decide)
          rw [h7]
        · rfl
    have outer : ∀ k, k ≤ pN P → (∀ c, c < 20 → bt (foldN (driveLF P w) (0, T) k).1 c = false) → foldN (driveLF P w) (0, T) k = (0, T) := by
      intro k
      induction k with
      | zero => intro _ _; rfl
      | succ k ih =>
        intro hk hb
        rw [foldN_s] at hb ⊢
        have hmono : ∀ (s : Int32) (S : Int32 × TD) (j : Nat), j ≤ 20 → (∀ c, c < 20 → bt (foldN (driveCF P w s) S j).1 c = false) → ∀ c, c < 20 → bt S.1 c = false := by
          intro s S j
          induction j with
          | zero => intro _ h9; exact h9
          | succ j ihj =>
            intro hj h9
            refine ihj (by omega) (fun c hc => ?_)
            have h8 := h9 c hc
            rw [foldN_s] at h8
            unfold driveCF at h8
            split at h8
            · dsimp only at h8
              split at h8
              · exact h8
              · rw [bit_set (by omega) (by omega)] at h8
                exact (Bool.or_eq_false_iff.mp h8).1
            · exact h8
        have hle : ∀ c, c < 20 → bt (foldN (driveLF P w) (0, T) k).1 c = false := by
          by_cases e : tLane (foldN (driveLF P w) (0, T) k).2 (lx (driveSec (pN P) w k) w) = 0
          · rw [driveLF, if_pos e] at hb
            exact hb
          · rw [driveLF, if_neg e] at hb
            exact hmono _ _ _ hnc hb
        rw [ih (by omega) hle] at hb ⊢
        by_cases e : tLane ((0 : Int32), T).2 (lx (driveSec (pN P) w k) w) = 0
        · rw [driveLF, if_pos e]
        · rw [driveLF, if_neg e] at hb ⊢
          exact inner _ _ _ (Nat.le_refl _) hb
    show (foldN (driveLF P w) (0, T) (pN P)).2 = T
    rw [outer (pN P) (Nat.le_refl _) hb]
  have hM := hz2.1
  have hbits : ∀ c, c < 20 → bt (moveA P T).1 c = false ∧ bt (moveB P T).1 c = false := fun c _ => by
    have h9 : bt (moveM P T) c = false := by rw [hM, b_0]
    rw [moveM, b_or] at h9
    exact Bool.or_eq_false_iff.mp h9
  have eA : (moveA P T).2 = T := hA 1 T (fun c hc => (hbits c hc).1)
  have eB : (moveB P T).2 = T := (hA (-1) (moveA P T).2 (fun c hc => (hbits c hc).2)).trans eA
  have hC : ∀ k, (foldN (turnF P (moveM P T)) (0, (moveB P T).2) k).1 = 0 → (foldN (turnF P (moveM P T)) (0, (moveB P T).2) k).2 = (moveB P T).2 := by
    intro k
    induction k with
    | zero => intro _; rfl
    | succ k ih =>
      intro h9
      rw [foldN_s] at h9 ⊢
      unfold turnF at h9 ⊢
      split at h9
      · rename_i c1
        rw [if_pos c1]
        exact ih h9
      · exact absurd h9 (by show ¬ (1 : Int32) = 0; decide)
  show (moveC P T).2 = T
  rw [← eB]
  have h9 := hC (pCar P) hz2.2
  rw [eB] at h9 ⊢
  exact (show (turnCarsF P (moveM P T) (moveB P T).2).2 = T by rw [eB]; exact h9)
