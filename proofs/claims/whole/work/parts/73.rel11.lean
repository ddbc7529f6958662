theorem Rel.n {P : PD} {T : TD} {d : Nat → Int32} (h : Rel P T d) : pN P ≤ 12 := h.1.1.2.2.2.2.1
theorem Rel.nc {P : PD} {T : TD} {d : Nat → Int32} (h : Rel P T d) : pCar P ≤ 20 := h.1.1.2.2.2.2.2.1
theorem se_iff {P : PD} {T : TD} {d : Nat → Int32} (h : Rel P T d) {s : Int32} : secX P s = if seE d s = true then some IOE else none := by
  have e : seE d s = true ↔ (s < 0 ∨ nI (pN P) ≤ s) := by
    rw [seE, h.1.1.1]
    have hb := inB_iff (x := s) (n := pN P) (by have := h.n; omega)
    cases hx : inB s 0 (nI (pN P) - 1)
    · have h9 : ¬ inB s 0 (nI (pN P) - 1) = true := by rw [hx]; decide
      refine ⟨fun _ => ?_, fun _ => rfl⟩
      by_cases e : s < 0 ∨ nI (pN P) ≤ s
      · exact e
      · exact absurd (hb.mpr e) h9
    · exact ⟨fun h => absurd h (by decide), fun h => absurd h (hb.mp hx)⟩
  unfold secX
  by_cases e2 : s < 0 ∨ nI (pN P) ≤ s
  · rw [if_pos e2, if_pos (e.mpr e2)]
  · rw [if_neg e2, if_neg (fun h => e2 (e.mp h))]
theorem ca_iff {P : PD} {T : TD} {d : Nat → Int32} (h : Rel P T d) {s : Int32} : carX P s = if caE d s = true then some IOE else none := by
  have e : caE d s = true ↔ (s < 0 ∨ nI (pCar P) ≤ s) := by
    rw [caE, h.1.1.2.2.1]
    have hb := inB_iff (x := s) (n := pCar P) h.nc
    cases hx : inB s 0 (nI (pCar P) - 1)
    · have h9 : ¬ inB s 0 (nI (pCar P) - 1) = true := by rw [hx]; decide
      refine ⟨fun _ => ?_, fun _ => rfl⟩
      by_cases e : s < 0 ∨ nI (pCar P) ≤ s
      · exact e
      · exact absurd (hb.mpr e) h9
    · exact ⟨fun h => absurd h (by decide), fun h => absurd h (hb.mp hx)⟩
  unfold carX
  by_cases e2 : s < 0 ∨ nI (pCar P) ≤ s
  · rw [if_pos e2, if_pos (e.mpr e2)]
  · rw [if_neg e2, if_neg (fun h => e2 (e.mp h))]
theorem wy_iff {w : Int32} : dirX w = if wyE w = true then some IAE else none := by
  unfold dirX wyE
  by_cases e1 : w = 1
  · rw [if_pos (Or.inl e1), decide_eq_true e1]; rfl
  · by_cases e2 : w = -1
    · rw [if_pos (Or.inr e2), decide_eq_true e2, Bool.or_true]; rfl
    · rw [if_neg (not_or.mpr ⟨e1, e2⟩), decide_eq_false e1, decide_eq_false e2]; rfl
theorem wy_w {w : Int32} (h : wyE w = false) : w = 1 ∨ w = -1 := by
  by_cases e1 : w = 1
  · exact Or.inl e1
  · by_cases e2 : w = -1
    · exact Or.inr e2
    · rw [wyE, decide_eq_false e1, decide_eq_false e2] at h; exact absurd h (by decide)
theorem v_smoke {P : PD} {T : TD} {d : Nat → Int32} (h : Rel P T d) {t : Nat} (ht : t < pN P) : (tSmoke T t).toInt32 = d (12 + 7 * t) ∧ tSmoke T t = (d (12 + 7 * t)).toInt64 := by
  have h1 := h.2.1.1 t ht
  have e2 : tSmoke T t = (d (12 + 7 * t)).toInt64 := Int64.toInt_inj.mp (by rw [i64_of]; exact h1.1)
  refine ⟨Int32.toInt_inj.mp ?_, e2⟩
  have := i32_lo (d (12 + 7 * t))
  have := i32_hi (d (12 + 7 * t))
  rw [i32_of (by rw [h1.1]; omega) (by rw [h1.1]; omega), h1.1]
theorem v_red {P : PD} {T : TD} {d : Nat → Int32} (h : Rel P T d) {t : Nat} (ht : t < pN P) {w : Int32} (hw : w = 1 ∨ w = -1) : d (12 + 7 * t + (if w = 1 then 5 else 6)) = tRed T (lx (nI t) w) ∧ (if d (12 + 7 * t + (if w = 1 then 5 else 6)) = 1 then (1 : Int32) else 0) = tRed T (lx (nI t) w) := by
  have hn := h.n
  have h1 := h.1.2.1 t ht
  have e : d (12 + 7 * t + (if w = 1 then 5 else 6)) = tRed T (lx (nI t) w) := by
    rw [lx_n (by omega) hw]
    rcases hw with rfl | rfl
    · rw [if_pos rfl, if_pos rfl]; exact h1.2.1
    · rw [if_neg w_ne, if_neg w_ne]; exact h1.2.2
  refine ⟨e, ?_⟩
  rw [e]
  have hlt : lx (nI t) w < 24 := by
    rw [lx_n (by omega) hw]
    split <;> omega
  rcases h.2.2.2.1.2.2 _ hlt with e9 | e9
  · rw [e9]; rfl
  · rw [e9]; rfl
theorem v_sums {P : PD} {T : TD} {d : Nat → Int32} (h : Rel P T d) : sumL (tSmoke T) (pN P) = smkR d (pN P) ∧ sumL (tSmoke T) (pN P) + tLeft T + tRem T = (d 8).toInt64 ∧ tLeft T = (d 9).toInt64 ∧ tRem T = (d 10).toInt64 := by
  have hS := h.2.1
  have e9 : tLeft T = (d 9).toInt64 := Int64.toInt_inj.mp (by rw [i64_of]; exact hS.2.1.1)
  have e10 : tRem T = (d 10).toInt64 := Int64.toInt_inj.mp (by rw [i64_of]; exact hS.2.2.1.1)
  have h1 : ∀ k, k ≤ pN P → sumL (tSmoke T) k = smkR d k ∧ (sumL (tSmoke T) k).toInt = sumZ (fun s => (d (12 + 7 * s)).toInt) k := fun k => by
    induction k with
    | zero => intro _; exact ⟨rfl, by show (0 : Int64).toInt = 0; decide⟩
    | succ k ih =>
      intro hk
      obtain ⟨a, b⟩ := ih (by omega)
      have hk1 := (v_smoke h (t := k) (by omega)).2
      have hnn : ∀ s, s < pN P → 0 ≤ (fun s => (d (12 + 7 * s)).toInt) s := fun s hs => (hS.1 s hs).2
      have hle : sumZ (fun s => (d (12 + 7 * s)).toInt) k ≤ 12 * 2147483648 := by
        have h9 : ∀ m, sumZ (fun s => (d (12 + 7 * s)).toInt) m ≤ (m : Int) * 2147483648 := fun m => by
          induction m with
          | zero => simp [sumZ]
          | succ m ihm =>
            have := i32_hi (d (12 + 7 * m))
            rw [sumZ]; show sumZ _ m + (d (12 + 7 * m)).toInt ≤ _; omega
        have := h9 k
        have := h.n
        omega
      have h0 : 0 ≤ sumZ (fun s => (d (12 + 7 * s)).toInt) k := sumZ_nn k (fun s hs => hnn s (by omega))
      have hd0 := (hS.1 k (by omega)).2
      have hd1 := i32_hi (d (12 + 7 * k))
      refine ⟨by rw [sumL, smkR, a, hk1], ?_⟩
      rw [sumL, sumZ, hk1, i64_add (by rw [b, i64_of]; omega) (by rw [b, i64_of]; omega), b, i64_of]
  obtain ⟨a, b⟩ := h1 (pN P) (Nat.le_refl _)
  refine ⟨a, Int64.toInt_inj.mp ?_, e9, e10⟩
  have q0 : 0 ≤ sumZ (fun s => (d (12 + 7 * s)).toInt) (pN P) := sumZ_nn _ (fun s hs => (hS.1 s hs).2)
  have q8 := i32_hi (d 8)
  have q9 := hS.2.1
  have q10 := hS.2.2.1
  have q := hS.2.2.2
  have c1 : (sumL (tSmoke T) (pN P) + tLeft T).toInt = sumZ (fun s => (d (12 + 7 * s)).toInt) (pN P) + (d 9).toInt := by
    rw [i64_add (by rw [b, q9.1]; omega) (by rw [b, q9.1]; omega), b, q9.1]
  rw [i64_of, i64_add (by rw [c1, q10.1]; omega) (by rw [c1, q10.1]; omega), c1, q10.1]
  exact q
theorem v_total {P : PD} {T : TD} {d : Nat → Int32} (h : Rel P T d) {x : Int32} (hx : x = 0 ∨ x = 1 ∨ x = 2 ∨ x = 3) : totF T P x = totR d (pN P) x := by
  obtain ⟨a, b, c, e⟩ := v_sums h
  rcases hx with rfl | rfl | rfl | rfl
  · rw [totF, if_pos rfl, b, totR, if_neg (by decide), if_pos rfl]
  · rw [totF, if_neg (by decide), if_pos rfl, a, totR, if_pos rfl]
  · rw [totF, if_neg (by decide), if_neg (by decide), if_pos rfl, c, totR, if_neg (by decide), if_neg (by decide), if_pos rfl]
  · rw [totF, if_neg (by decide), if_neg (by decide), if_neg (by decide), e, totR, if_neg (by decide), if_neg (by decide), if_neg (by decide)]
theorem tot_iff {x : Int32} : totX x = if totE x = true then some IAE else none := by
  have e : totE x = true ↔ ¬ (x = 0 ∨ x = 1 ∨ x = 2 ∨ x = 3) := by
    have h03 : ∀ t, t ≤ 3 → (nI t = 0 ∨ nI t = 1 ∨ nI t = 2 ∨ nI t = 3) := by decide
    rw [totE]
    by_cases h1 : x < 0
    · rw [inB_f1 h1]
      refine ⟨fun _ h => ?_, fun _ => rfl⟩
      rcases h with rfl | rfl | rfl | rfl <;> exact absurd h1 (by decide)
    · by_cases h2 : 3 < x
      · rw [inB_f2 h2]
        refine ⟨fun _ h => ?_, fun _ => rfl⟩
        rcases h with rfl | rfl | rfl | rfl <;> exact absurd h2 (by decide)
      · rw [inB_t h1 h2]
        obtain ⟨t, ht, rfl⟩ := nI_of2 (M := 3) (n := 3) (by decide) h1 (Int32.not_lt.mp h2)
        exact ⟨fun h => absurd h (by decide), fun h => absurd (h03 t ht) h⟩
  unfold totX
  by_cases h : x = 0 ∨ x = 1 ∨ x = 2 ∨ x = 3
  · rw [if_pos h, if_neg (fun h9 => (e.mp h9) h)]
  · rw [if_neg h, if_pos (e.mpr h)]
theorem v_check {P : PD} {T : TD} {d : Nat → Int32} (h : Rel P T d) : chkF T P = ckR d (pN P) (pCar P) := by
  have hfl : flowF T P = flowR d (pN P) := flow_eq h.2.2.2.1.1 (fun s hs => (h.2.2.2.1.2.1 s hs).1)
  have h1 : ∀ k, k ≤ pN P → foldN (chkS T) (chk0 T) k = foldN (ckS d) (ck0 d) k := fun k => by
    induction k with
    | zero => intro _; show chk0 T = ck0 d; rw [chk0, ck0, h.2.2.2.2.2.2.1, h.1.1.2.2.2.1]
    | succ k ih => intro hk; rw [foldN_s, foldN_s, ih (by omega), chkS, ckS, (v_smoke h (by omega)).2, (h.1.2.1 k (by omega)).1]
  have h2 : ∀ k, k ≤ pCar P → ∀ a, foldN (chkC T) a k = foldN (ckC d) a k := fun k => by
    induction k with
    | zero => intro _ _; rfl
    | succ k ih =>
      intro hk a
      have hc := h.1.2.2.1 k (by omega)
      rw [foldN_s, foldN_s, ih (by omega), chkC, ckC, hc.1, hc.2.1, h.2.2.2.2.1 k (by omega)]
  rw [chkF, ckR, h.1.1.1, hfl, h1 _ (Nat.le_refl _), h2 _ (Nat.le_refl _)]
/-- the data changed at one place -/
theorem rel_upd {P : PD} {T T2 : TD} {d : Nat → Int32} {p : Nat} {x : Int32} (h : Rel P T d) (hp : ∀ i, i < pN P → p ≠ 12 + 7 * i ∧ p ≠ 12 + 7 * i + 1 ∧ p ≠ 12 + 7 * i + 3) (hp2 : 12 ≤ p ∧ p < 96 ∨ p = 4)
    (hC : CR P T2 (upd d p x)) (hF : FAr P T2 (upd d p x)) (hk : tSmoke T2 = tSmoke T ∧ tLeft T2 = tLeft T ∧ tRem T2 = tRem T ∧ tEx T2 = tEx T ∧ tClock T2 = tClock T) : Rel P T2 (upd d p x) := by
  obtain ⟨_, hS, hV, _, hE, hR, hK⟩ := h
  have g : ∀ j, j ≠ p → upd d p x j = d j := fun j hj => by rw [upd_at, if_neg hj]
  refine ⟨hC, ⟨fun s hs => ?_, ?_, ?_, ?_⟩, ⟨hV.1, ?_, fun s hs => ?_⟩, hF, fun c hc => ?_, ⟨hR.1, ?_⟩, ?_⟩
  · rw [g _ (fun e => (hp s hs).1 e.symm), hk.1]; exact hS.1 s hs
  · rw [g 9 (by omega), hk.2.1]; exact hS.2.1
  · rw [g 10 (by omega), hk.2.2.1]; exact hS.2.2.1
  · rw [g 8 (by omega), g 9 (by omega), g 10 (by omega), sumZ_ext (pN P) (fun s hs => by show (upd d p x (12 + 7 * s)).toInt = (d (12 + 7 * s)).toInt; rw [g _ (fun e => (hp s hs).1 e.symm)])]
    exact hS.2.2.2
  · rw [g 0 (by omega)]; exact hV.2.1
  · rw [g _ (fun e => (hp s hs).2.2 e.symm)]; exact hV.2.2 s hs
  · rw [hk.2.2.2.1, exR, g _ (by omega), g _ (by omega)]; exact hE c hc
  · rcases hR.2 with h9 | h9
    · exact Or.inl ⟨by rw [g 6 (by omega)]; exact h9.1, h9.2⟩
    · exact Or.inr ⟨by rw [g 6 (by omega)]; exact h9.1, RTd_of h9.2.1 (g 7 (by omega)) (fun j hj => g j (by omega)), h9.2.2⟩
  · exact ⟨by rw [g 3 (by omega), hk.2.2.2.2]; exact hK.1, by rw [g 3 (by omega)]; exact hK.2.1, by rw [g 8 (by omega)]; exact hK.2.2.1, by rw [g 3 (by omega), g 8 (by omega)]; exact hK.2.2.2⟩
theorem rel_fan {P : PD} {T : TD} {d : Nat → Int32} (h : Rel P T d) {t : Nat} (ht : t < pN P) (x : Int32) : Rel P (sFan T (upd (tFan T) t x)) (upd d (12 + 7 * t + 2) x) := by
  have hn := h.n
  refine rel_upd h (fun i _ => ⟨by omega, by omega, by omega⟩) (by omega) ?_ ⟨?_, fun s hs => ?_, h.2.2.2.1.2.2⟩ ⟨rfl, rfl, rfl, rfl, rfl⟩
  · exact CR_ext h.1 ⟨rfl, rfl, rfl, rfl, rfl, rfl, rfl⟩ (fun j hj _ => by rw [upd_at, if_neg (by omega)]) (fun s _ => ⟨by rw [upd_at, if_neg (by omega)], by rw [upd_at, if_neg (by omega)], by rw [upd_at, if_neg (by omega)]⟩) (fun c _ => ⟨by rw [upd_at, if_neg (by omega)], by rw [upd_at, if_neg (by omega)]⟩)
  · rw [upd_at, if_neg (by omega)]; exact h.2.2.2.1.1
  · have q := h.2.2.2.1.2.1 s hs
    refine ⟨?_, by rw [upd_at, if_neg (by omega)]; exact q.2.1, q.2.2⟩
    show upd d (12 + 7 * t + 2) x (12 + 7 * s + 2) = upd (tFan T) t x s
    rw [upd_at, upd_at]
    by_cases e : s = t
    · rw [if_pos (by omega), if_pos e]
    · rw [if_neg (by omega), if_neg e]; exact q.1
theorem rel_fire {P : PD} {T : TD} {d : Nat → Int32} (h : Rel P T d) {x : Int32} (hx : x = -1 ∨ Inn x (pN P)) : Rel P (sFire T x) (upd d 4 x) := by
  have hn := h.n
  refine rel_upd h (fun i _ => ⟨by omega, by omega, by omega⟩) (by omega) ?_ ⟨?_, fun s hs => ?_, h.2.2.2.1.2.2⟩ ⟨rfl, rfl, rfl, rfl, rfl⟩
  · obtain ⟨⟨a0, a1, a2, a4, b1, b2, _⟩, b, c0, l0, i0⟩ := h.1
    have g : ∀ j, j ≠ 4 → upd d 4 x j = d j := fun j hj => by rw [upd_at, if_neg hj]
    refine ⟨⟨(g 0 (by decide)).trans a0, (g 1 (by decide)).trans a1, (g 2 (by decide)).trans a2, by rw [upd_at, if_pos rfl]; rfl, b1, b2, hx⟩, fun s hs => ?_, fun c hc => ?_, fun s hs w hw => ?_, ?_⟩
    · rw [g _ (by omega), g _ (by omega), g _ (by omega)]; exact b s hs
    · rw [g _ (by omega), g _ (by omega)]; exact c0 c hc
    · rw [lane_ext _ (fun c _ => ⟨g _ (by omega), g _ (by omega)⟩)]; exact l0 s hs w hw
    · rw [ins_ext _ (fun c _ => g _ (by omega))]; exact i0
  · rw [upd_at, if_neg (by omega)]; exact h.2.2.2.1.1
  · have q := h.2.2.2.1.2.1 s hs
    rw [upd_at, if_neg (by omega), upd_at, if_neg (by omega)]; exact q
theorem rel_bay {P : PD} {T : TD} {d : Nat → Int32} (h : Rel P T d) {t : Nat} (ht : t < pN P) {x : Int32} (hx : x = 0 ∨ x = 1) : Rel P (sBay T (upd (tBay T) t x)) (upd d (12 + 7 * t + 4) x) := by
  have hn := h.n
  refine rel_upd h (fun i _ => ⟨by omega, by omega, by omega⟩) (by omega) ?_ ⟨?_, fun s hs => ?_, h.2.2.2.1.2.2⟩ ⟨rfl, rfl, rfl, rfl, rfl⟩
  · obtain ⟨⟨a0, a1, a2, a4, b1, b2, hf⟩, b, c0, l0, i0⟩ := h.1
    have g : ∀ j, j ≠ 12 + 7 * t + 4 → upd d (12 + 7 * t + 4) x j = d j := fun j hj => by rw [upd_at, if_neg hj]
    refine ⟨⟨(g 0 (by omega)).trans a0, (g 1 (by omega)).trans a1, (g 2 (by omega)).trans a2, (g 4 (by omega)).trans a4, b1, b2, hf⟩, fun s hs => ?_, fun c hc => ?_, fun s hs w hw => ?_, ?_⟩
    · rw [g (12 + 7 * s + 5) (by omega), g (12 + 7 * s + 6) (by omega)]
      refine ⟨?_, (b s hs).2⟩
      show upd d (12 + 7 * t + 4) x (12 + 7 * s + 4) = upd (tBay T) t x s
      rw [upd_at, upd_at]
      by_cases e : s = t
      · rw [if_pos (by omega), if_pos e]
      · rw [if_neg (by omega), if_neg e]; exact (b s hs).1
    · rw [g _ (by omega), g _ (by omega)]; exact c0 c hc
    · rw [lane_ext _ (fun c _ => ⟨g _ (by omega), g _ (by omega)⟩)]; exact l0 s hs w hw
    · rw [ins_ext _ (fun c _ => g _ (by omega))]; exact i0
  · rw [upd_at, if_neg (by omega)]; exact h.2.2.2.1.1
  · have q := h.2.2.2.1.2.1 s hs
    rw [upd_at, if_neg (by omega), upd_at, if_neg (by omega)]
    refine ⟨q.1, q.2.1, q.2.2.1, ?_⟩
    show upd (tBay T) t x s = -1 ∨ upd (tBay T) t x s = 0 ∨ upd (tBay T) t x s = 1
    rw [upd_at]
    by_cases e : s = t
    · rw [if_pos e]; exact Or.inr hx
    · rw [if_neg e]; exact q.2.2.2
theorem rel_red {P : PD} {T : TD} {d : Nat → Int32} (h : Rel P T d) {t : Nat} (ht : t < pN P) {w : Int32} (hw : w = 1 ∨ w = -1) {x : Int32} (hx : x = 0 ∨ x = 1) : Rel P (sRed T (upd (tRed T) (lx (nI t) w) x)) (upd d (12 + 7 * t + (if w = 1 then 5 else 6)) x) := by
  have hn := h.n
  have hp : (12 + 7 * t + (if w = 1 then 5 else 6) = 12 + 7 * t + 5 ∧ lx (nI t) w = 2 * t + 1) ∨ (12 + 7 * t + (if w = 1 then 5 else 6) = 12 + 7 * t + 6 ∧ lx (nI t) w = 2 * t) := by
    rw [lx_n (by omega) hw]
    rcases hw with rfl | rfl
    · exact Or.inl ⟨by rw [if_pos rfl], by rw [if_pos rfl]⟩
    · exact Or.inr ⟨by rw [if_neg w_ne], by rw [if_neg w_ne]⟩
  generalize 12 + 7 * t + (if w = 1 then 5 else 6) = p at hp ⊢
  generalize lx (nI t) w = q at hp ⊢
  have g : ∀ j, j ≠ p → upd d p x j = d j := fun j hj => by rw [upd_at, if_neg hj]
  refine rel_upd h (fun i _ => ⟨by omega, by omega, by omega⟩) (by omega) ?_ ⟨?_, fun s hs => ?_, fun j hj => ?_⟩ ⟨rfl, rfl, rfl, rfl, rfl⟩
  · obtain ⟨⟨a0, a1, a2, a4, b1, b2, hf⟩, b, c0, l0, i0⟩ := h.1
    refine ⟨⟨(g 0 (by omega)).trans a0, (g 1 (by omega)).trans a1, (g 2 (by omega)).trans a2, (g 4 (by omega)).trans a4, b1, b2, hf⟩, fun s hs => ?_, fun c hc => ?_, fun s hs w hw => ?_, ?_⟩
    · have bs := b s hs
      refine ⟨(g _ (by omega)).trans bs.1, ?_, ?_⟩
      · show upd d p x (12 + 7 * s + 5) = upd (tRed T) q x (2 * s + 1)
        rw [upd_at, upd_at]
        by_cases e : 12 + 7 * s + 5 = p
        · rw [if_pos e, if_pos (by omega)]
        · rw [if_neg e, if_neg (by omega)]; exact bs.2.1
      · show upd d p x (12 + 7 * s + 6) = upd (tRed T) q x (2 * s)
        rw [upd_at, upd_at]
        by_cases e : 12 + 7 * s + 6 = p
        · rw [if_pos e, if_pos (by omega)]
        · rw [if_neg e, if_neg (by omega)]; exact bs.2.2
    · rw [g _ (by omega), g _ (by omega)]; exact c0 c hc
    · rw [lane_ext _ (fun c _ => ⟨g _ (by omega), g _ (by omega)⟩)]; exact l0 s hs w hw
    · rw [ins_ext _ (fun c _ => g _ (by omega))]; exact i0
  · rw [g 5 (by omega)]; exact h.2.2.2.1.1
  · have qq := h.2.2.2.1.2.1 s hs
    rw [g _ (by omega), g _ (by omega)]; exact qq
  · show upd (tRed T) q x j = 0 ∨ upd (tRed T) q x j = 1
    rw [upd_at]
    by_cases e : j = q
    · rw [if_pos e]; exact hx
    · rw [if_neg e]; exact h.2.2.2.1.2.2 j hj
/-- no tunnel, on both sides -/
theorem rel_none : Rel P0 T0 (upd (fun _ => 0) 4 (-1)) := by
  have g : ∀ j, j ≠ 4 → upd (fun _ => (0 : Int32)) 4 (-1) j = 0 := fun j hj => by rw [upd_at, if_neg hj]
  refine ⟨⟨⟨g 0 (by decide), g 1 (by decide), g 2 (by decide), by rw [upd_at, if_pos rfl]; rfl, by decide, by decide, Or.inl rfl⟩, fun s hs => absurd hs (Nat.not_lt_zero s), fun c hc => absurd hc (Nat.not_lt_zero c), fun s hs => absurd hs (Nat.not_lt_zero s), rfl⟩, ⟨fun s hs => absurd hs (Nat.not_lt_zero s), ⟨by rw [g 9 (by decide)]; decide, by rw [g 9 (by decide)]; decide⟩, ⟨by rw [g 10 (by decide)]; decide, by rw [g 10 (by decide)]; decide⟩, ?_⟩, ⟨by decide, g 0 (by decide), fun s hs => absurd hs (Nat.not_lt_zero s)⟩, ⟨g 5 (by decide), fun s hs => absurd hs (Nat.not_lt_zero s), fun j _ => Or.inl rfl⟩, fun c hc => absurd hc (Nat.not_lt_zero c), ⟨by decide, Or.inl ⟨g 6 (by decide), rfl, rfl⟩⟩, ⟨g 3 (by decide), by rw [g 3 (by decide)]; decide, by rw [g 8 (by decide)]; decide, by rw [g 3 (by decide), g 8 (by decide)]; decide⟩⟩
  rw [g 8 (by decide), g 9 (by decide), g 10 (by decide)]
  decide
