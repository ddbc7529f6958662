def EXr (P : PD) (T : TD) (d : Nat → Int32) : Prop := ∀ c, c < pCar P → tEx T c = exR d (96 + 4 * c + 2)
def FAr (P : PD) (T : TD) (d : Nat → Int32) : Prop := d 5 = pDraft P ∧ (∀ s, s < pN P → d (12 + 7 * s + 2) = tFan T s ∧ d (12 + 7 * s + 1) = pHf P s ∧ (pHf P s = 0 ∨ pHf P s = 1) ∧ (tBay T s = -1 ∨ tBay T s = 0 ∨ tBay T s = 1)) ∧ ∀ j, j < 24 → tRed T j = 0 ∨ tRed T j = 1
def CKr (T : TD) (d : Nat → Int32) : Prop := d 3 = tClock T ∧ 0 ≤ (d 3).toInt ∧ 0 ≤ (d 8).toInt ∧ (d 8).toInt ≤ 9999 * (d 3).toInt
/-- a tunnel on both sides -/
def Rel (P : PD) (T : TD) (d : Nat → Int32) : Prop := CR P T d ∧ SM P T d ∧ VM P d ∧ FAr P T d ∧ EXr P T d ∧ RV P d ∧ CKr T d
theorem rel_plan {P : PD} {T T2 : TD} {d : Nat → Int32} (h : Rel P T d) : Rel (rateP T2 P) T d := by
  unfold rateP
  split
  · exact h
  · exact h
theorem rel_plan' {P : PD} {T T2 : TD} {d : Nat → Int32} (h : Rel (rateP T2 P) T d) : Rel P T d := by
  unfold rateP at h
  split at h
  · exact h
  · exact h
theorem Rel.tk {P : PD} {T : TD} {d : Nat → Int32} (h : Rel P T d) : TKd (pN P) (pCar P) (pCodes P) (pNc P) d := by
  obtain ⟨hC, _, _, _, _, hR, _⟩ := h
  refine ⟨hC.1.1, hC.1.2.2.1, ?_, fun c hc => ?_, fun h6 => ?_⟩
  · rw [hC.1.2.2.2.1]
    rcases hC.1.2.2.2.2.2.2 with h | h
    · exact Or.inl (by rw [h]; decide)
    · exact Or.inr h
  · have hc := hC.2.2.1 c hc
    rw [hc.1]
    rcases hc.2.2.1 with h | h
    · exact Or.inl (by rw [h]; decide)
    · exact Or.inr h
  · rcases hR.2 with h | h
    · exact absurd h.1 h6
    · exact h.2.1
theorem Rel.cok {P : PD} {T : TD} {d : Nat → Int32} (h : Rel P T d) : COK P T := fun c hc => by
  rcases (h.1.2.2.1 c hc).2.2.1 with h | h
  · exact Or.inl (by rw [h]; decide)
  · exact Or.inr h
theorem Rel.fok {P : PD} {T : TD} {d : Nat → Int32} (h : Rel P T d) : FOK P T := by
  rcases h.1.1.2.2.2.2.2.2 with h | h
  · exact Or.inl (by rw [h]; decide)
  · exact Or.inr h
theorem CR_ext {P : PD} {T T2 : TD} {d d2 : Nat → Int32} (h : CR P T d) (h1 : tFire T2 = tFire T ∧ tIns T2 = tIns T ∧ tBay T2 = tBay T ∧ tRed T2 = tRed T ∧ tLane T2 = tLane T ∧ tCs T2 = tCs T ∧ tCd T2 = tCd T)
    (h0 : ∀ j, j < 5 → j ≠ 3 → d2 j = d j) (hs : ∀ s, s < pN P → d2 (12 + 7 * s + 4) = d (12 + 7 * s + 4) ∧ d2 (12 + 7 * s + 5) = d (12 + 7 * s + 5) ∧ d2 (12 + 7 * s + 6) = d (12 + 7 * s + 6)) (hc : ∀ c, c < pCar P → d2 (96 + 4 * c) = d (96 + 4 * c) ∧ d2 (96 + 4 * c + 1) = d (96 + 4 * c + 1)) : CR P T2 d2 := by
  obtain ⟨⟨a0, a1, a2, a4, hn, hnc, hf⟩, b, c0, l0, i0⟩ := h
  obtain ⟨e1, e2, e3, e4, e5, e6, e7⟩ := h1
  refine ⟨⟨(h0 0 (by decide) (by decide)).trans a0, (h0 1 (by decide) (by decide)).trans a1, (h0 2 (by decide) (by decide)).trans a2, by rw [h0 4 (by decide) (by decide), e1]; exact a4, hn, hnc, by rw [e1]; exact hf⟩, fun s h9 => ?_, fun c h9 => ?_, fun s h9 w hw => ?_, ?_⟩
  · rw [(hs s h9).1, (hs s h9).2.1, (hs s h9).2.2, e3, e4]; exact b s h9
  · rw [(hc c h9).1, (hc c h9).2, e6, e7]; exact c0 c h9
  · rw [e5, lane_ext _ hc]; exact l0 s h9 w hw
  · rw [e2, ins_ext _ (fun c h => (hc c h).1)]; exact i0
theorem drv_keepQ {n nc c : Nat} {S : (Nat → Int32) × (Nat → Int32)} {j : Nat} (hj : 2 ≤ j % 4) : (drvR n nc c S).2 j = S.2 j := by
  unfold drvR
  split
  · split
    · show upd S.2 (96 + 4 * c) _ j = _
      rw [upd_at, if_neg (by omega)]
    · rfl
  · show upd S.2 (96 + 4 * c) _ j = _
    rw [upd_at, if_neg (by omega)]
theorem df_keepQ {n nc : Nat} {s w : Int32} {S : D3} {j : Nat} (hj : 2 ≤ j % 4) : ∀ k, (foldN (dfF n nc s w) S k).2.2 j = S.2.2 j
  | 0 => rfl
  | k + 1 => by
    rw [foldN_s]
    have h1 : ∀ F : D3, (dfF n nc s w k F).2.2 j = F.2.2 j := fun F => by
      unfold dfF
      split
      · exact drv_keepQ hj
      · rfl
    rw [h1]; exact df_keepQ hj k
theorem tkE_keepQ {n nc : Nat} {S : D3} {j : Nat} (hj : 2 ≤ j % 4) : ∀ k, (foldN (tkE n nc) S k).2.2 j = S.2.2 j
  | 0 => rfl
  | k + 1 => by rw [foldN_s]; exact (df_keepQ hj nc).trans (tkE_keepQ hj k)
theorem tkV_keepQ {n nc : Nat} {S : D3} {j : Nat} (hj : 2 ≤ j % 4) : ∀ k, (foldN (tkV n nc) S k).2.2 j = S.2.2 j
  | 0 => rfl
  | k + 1 => by rw [foldN_s]; exact (df_keepQ hj nc).trans (tkV_keepQ hj k)
theorem tkT_keepQ {st : Nat → Int32} {nc : Nat} {d : Nat → Int32} {j : Nat} (hj : 2 ≤ j % 4) : ∀ k, foldN (tkT st nc) d k j = d j
  | 0 => rfl
  | k + 1 => by
    rw [foldN_s]
    unfold tkT
    split
    · exact tkT_keepQ hj k
    · have h1 : ∀ F : Nat → Int32, trR nc k F j = F j := fun F => by
        unfold trR
        split
        · rw [upd_at, if_neg (by omega)]
        · rfl
      rw [h1]; exact tkT_keepQ hj k
theorem mv_keep {n nc : Nat} {dr st d : Nat → Int32} {j : Nat} (hj : j < 96) : mvD n nc dr st d j = d j :=
  (tkT_keep hj nc).trans ((tkV_keep hj n).trans (tkE_keep hj n))
theorem mv_keepQ {n nc : Nat} {dr st d : Nat → Int32} {j : Nat} (hj : 2 ≤ j % 4) : mvD n nc dr st d j = d j :=
  (tkT_keepQ hj nc).trans ((tkV_keepQ hj n).trans (tkE_keepQ hj n))
theorem mv_keepK {n nc : Nat} (hnc : nc ≤ 20) {dr st d : Nat → Int32} {j : Nat} (hj : 176 ≤ j) : mvD n nc dr st d j = d j :=
  (tkT_keepK hj nc hnc).trans ((tkV_keepK hnc hj n).trans (tkE_keepK hnc hj n))
/-- exposures after the first k cars -/
theorem expose_rel {P : PD} {T : TD} {d : Nat → Int32} (hC : CR P T d) (hsm : ∀ s, s < pN P → tSmoke T s = (d (12 + 7 * s)).toInt64) (hE : EXr P T d) :
    ∀ k, k ≤ pCar P → (∀ c, c < pCar P → tEx (foldN exposeF T k) c = exR (foldN tkX d k) (96 + 4 * c + 2))
  | 0, _ => hE
  | k + 1, hk => by
    have ih := expose_rel hC hsm hE k (by omega)
    have hcs := expose_cs (T := T) k
    have hn := hC.1.2.2.2.2.1
    have hkk := hC.2.2.1 k (by omega)
    have e1 : foldN tkX d k (96 + 4 * k) = tCs T k := (tkX_keepC k).trans hkk.1
    have hsmk : tSmoke (foldN exposeF T k) = tSmoke T := by
      refine foldN_inv (fun S : TD => tSmoke S = tSmoke T) exposeF T rfl (fun c S hS => ?_) k
      show tSmoke (exposeF c S) = tSmoke T
      unfold exposeF
      split
      · exact hS
      · exact hS
    have hlo : ∀ j, j < 96 → foldN tkX d k j = d j := fun j hj => tkX_keep hj k
    rw [foldN_s, foldN_s]
    generalize foldN exposeF T k = T1 at ih hcs hsmk ⊢
    generalize foldN tkX d k = d1 at ih e1 hlo ⊢
    intro c hc
    rw [exposeF, tkX, hcs, e1]
    by_cases h0 : tCs T k < 0
    · rw [if_pos h0, if_pos h0]; exact ih c hc
    · rw [if_neg h0, if_neg h0]
      obtain ⟨t, ht, et⟩ := hkk.2.2.1.resolve_left (fun h => h0 (by rw [h]; decide))
      show (if c = k then tEx T1 k + tSmoke T1 (tCs T k).toNatClampNeg else tEx T1 c : Int64) = _
      rw [et, nI_clamp (by omega), hsmk, hsm t ht, hlo _ (by omega)]
      by_cases e : c = k
      · rw [if_pos e, e, xp_ex, ih k (by omega)]
      · rw [if_neg e, xp_ex2 (by omega) (by omega) (by omega)]; exact ih c hc
theorem exp_rest {T : TD} (k : Nat) : tFire (foldN exposeF T k) = tFire T ∧ tIns (foldN exposeF T k) = tIns T ∧ tBay (foldN exposeF T k) = tBay T ∧ tRed (foldN exposeF T k) = tRed T ∧ tLane (foldN exposeF T k) = tLane T ∧ tCs (foldN exposeF T k) = tCs T ∧ tCd (foldN exposeF T k) = tCd T ∧ tClock (foldN exposeF T k) = tClock T ∧ tLeft (foldN exposeF T k) = tLeft T ∧ tRem (foldN exposeF T k) = tRem T ∧ tSmoke (foldN exposeF T k) = tSmoke T ∧ tFan (foldN exposeF T k) = tFan T := by
  refine foldN_inv (fun S : TD => tFire S = tFire T ∧ tIns S = tIns T ∧ tBay S = tBay T ∧ tRed S = tRed T ∧ tLane S = tLane T ∧ tCs S = tCs T ∧ tCd S = tCd T ∧ tClock S = tClock T ∧ tLeft S = tLeft T ∧ tRem S = tRem T ∧ tSmoke S = tSmoke T ∧ tFan S = tFan T) exposeF T ⟨rfl, rfl, rfl, rfl, rfl, rfl, rfl, rfl, rfl, rfl, rfl, rfl⟩ (fun c S hS => ?_) k
  show tFire (exposeF c S) = tFire T ∧ tIns (exposeF c S) = tIns T ∧ tBay (exposeF c S) = tBay T ∧ tRed (exposeF c S) = tRed T ∧ tLane (exposeF c S) = tLane T ∧ tCs (exposeF c S) = tCs T ∧ tCd (exposeF c S) = tCd T ∧ tClock (exposeF c S) = tClock T ∧ tLeft (exposeF c S) = tLeft T ∧ tRem (exposeF c S) = tRem T ∧ tSmoke (exposeF c S) = tSmoke T ∧ tFan (exposeF c S) = tFan T
  unfold exposeF
  split
  · exact hS
  · exact hS
theorem sumZ_upd {f : Nat → Int} {t : Nat} {x : Int} : ∀ n, t < n → sumZ (fun s => if s = t then f s + x else f s) n = sumZ f n + x
  | 0, h => absurd h (Nat.not_lt_zero t)
  | n + 1, h => by
    rw [sumZ, sumZ]
    by_cases e : t = n
    · subst e
      have h1 : sumZ (fun s => if s = t then f s + x else f s) t = sumZ f t := sumZ_ext t (fun s hs => if_neg (by omega))
      rw [h1, if_pos rfl]; omega
    · rw [sumZ_upd n (by omega), if_neg (fun h => e h.symm)]; omega
/-- a tick on both sides -/
theorem tick_rel {P : PD} {T : TD} {X : TS} (h : Rel P T X.d) (hck : (X.d 3).toInt ≤ 10400) : Rel P (tickF P T) (tkF (pN P) (pCar P) (pCodes P) (pNc P) X).d := by
  obtain ⟨hC, hS, hV, hF, hE, hR, hK⟩ := id h
  have hn := hC.1.2.2.2.2.1
  have hnc := hC.1.2.2.2.2.2.1
  have hfi := hC.1.2.2.2.2.2.2
  have hfl : flowF T P = flowR X.d (pN P) := flow_eq hF.1 (fun s hs => (hF.2.1 s hs).1)
  have hrt := rate_rel (sk := X.sk) hR hC hfl hK.1 ⟨hK.2.1, by omega⟩ hfi
  have eN : pN (rateP T P) = pN P := rateP_n T P
  have eC : pCar (rateP T P) = pCar P := rateP_c T P
  have eT : tickF P T = tickT (rateP T P) (rateF T P) T := rfl
  rw [eT]
  refine rel_plan' (T2 := T) ?_
  have h' : Rel (rateP T P) T X.d := rel_plan h
  have eX : tkF (pN P) (pCar P) (pCodes P) (pNc P) X = tkF (pN (rateP T P)) (pCar (rateP T P)) (pCodes P) (pNc P) X := by rw [eN, eC]
  rw [eX]
  have hfl' : flowF T (rateP T P) = flowR X.d (pN (rateP T P)) := by
    rw [eN, ← hfl]
    unfold rateP
    split
    · rfl
    · rfl
  have hrt' : rateF T P = rtR X.d (pCodes P) (pN (rateP T P)) (pCar (rateP T P)) (pNc P) X.sk := by rw [eN, eC]; exact hrt.1
  have hrb := hrt.2
  generalize rateF T P = r at hrt' hrb ⊢
  generalize rateP T P = Q at h' hfl' hrt' ⊢
  generalize pCodes P = cs at hrt' ⊢
  generalize pNc P = kc at hrt' ⊢
  clear h hC hS hV hF hE hR hfl hrt eN eC eT eX hn hnc hfi
  obtain ⟨hC, hS, hV, hF, hE, hR, hK⟩ := h'
  have hn := hC.1.2.2.2.2.1
  have hnc := hC.1.2.2.2.2.2.1
  have hfi := hC.1.2.2.2.2.2.2
  have h4 := hC.1.2.2.2.1
  -- smoke
  have s1 := smoke_rel (re := X.re) hV hS hfl' (by have := hK.2.2.2; omega)
  obtain ⟨a1, a2, a3, a4, a5⟩ := s1
  have e1 : tickS Q T = moveSmokeF Q (flowF T Q) T := rfl
  have eA : tkA (pN Q) (pCar Q) cs kc X = smF r (smD (pN Q) X.re X.d) := by rw [tkA, ← hrt']
  have ko : otT (smokeRun Q (flowF T Q) T).2 = otT T := by
    refine foldN_inv (fun S : Int64 × TD => otT S.2 = otT T) (smokeStep Q (flowF T Q)) (0, T) rfl (fun i S hS => ?_) (pN Q)
    exact hS
  have kS : tClock (tickS Q T) = tClock T ∧ tFire (tickS Q T) = tFire T ∧ tIns (tickS Q T) = tIns T ∧ tFan (tickS Q T) = tFan T ∧ tBay (tickS Q T) = tBay T ∧ tRed (tickS Q T) = tRed T ∧ tLane (tickS Q T) = tLane T ∧ tCs (tickS Q T) = tCs T ∧ tCd (tickS Q T) = tCd T ∧ tEx (tickS Q T) = tEx T := by
    have h9 := ko
    unfold otT at h9
    simp only [Prod.mk.injEq] at h9
    exact ⟨h9.1, h9.2.1, h9.2.2.1, h9.2.2.2.2.1, h9.2.2.2.2.2.1, h9.2.2.2.2.2.2.1, h9.2.2.2.2.2.2.2.1, h9.2.2.2.2.2.2.2.2.1, h9.2.2.2.2.2.2.2.2.2.1, h9.2.2.2.2.2.2.2.2.2.2⟩
  rw [← e1] at a1 a2 a3
  -- fire
  have b : ∃ T2 D2, T2 = tickB Q r (tickS Q T) ∧ D2 = tkA (pN Q) (pCar Q) cs kc X ∧ (∀ s, s < pN Q → (tSmoke T2 s).toInt = (D2 (12 + 7 * s)).toInt ∧ 0 ≤ (D2 (12 + 7 * s)).toInt) ∧ ((tLeft T2).toInt = (D2 9).toInt ∧ 0 ≤ (D2 9).toInt) ∧ ((tRem T2).toInt = (D2 10).toInt ∧ 0 ≤ (D2 10).toInt) ∧ sumZ (fun s => (D2 (12 + 7 * s)).toInt) (pN Q) + (D2 9).toInt + (D2 10).toInt = (D2 8).toInt ∧ (X.d 8).toInt ≤ (D2 8).toInt ∧ (D2 8).toInt ≤ (X.d 8).toInt + 9999 ∧ (∀ j, j ≠ 8 → j ≠ 9 → j ≠ 10 → (∀ i, i < pN Q → j ≠ 12 + 7 * i) → D2 j = X.d j) ∧ (tClock T2 = tClock T ∧ tFire T2 = tFire T ∧ tIns T2 = tIns T ∧ tFan T2 = tFan T ∧ tBay T2 = tBay T ∧ tRed T2 = tRed T ∧ tLane T2 = tLane T ∧ tCs T2 = tCs T ∧ tCd T2 = tCd T ∧ tEx T2 = tEx T) := by
    refine ⟨_, _, rfl, rfl, ?_⟩
    rw [eA]
    have f4 : smD (pN Q) X.re X.d 4 = tFire T := (smD_keep (by decide) (by decide) (by decide)).trans h4
    have f8 : smD (pN Q) X.re X.d 8 = X.d 8 := smD_keep (by decide) (by decide) (by decide)
    have hD := a5
    generalize smD (pN Q) X.re X.d = D at a1 a2 a3 a4 hD f4 f8 ⊢
    generalize tickS Q T = T1 at a1 a2 a3 kS ⊢
    have kf := kS.2.1
    by_cases h0 : tFire T < 0
    · have eB : tickB Q r T1 = T1 := by rw [tickB, kf, if_pos h0]
      have eF : smF r D = D := by rw [smF, f4, if_pos h0]
      rw [eB, eF]
      refine ⟨a1, a2, a3, by rw [f8]; exact a4, by rw [f8]; omega, by rw [f8]; omega, fun j h8 h9 h10 hj => hD j h9 h10 hj, kS⟩
    · obtain ⟨t, ht, et⟩ := hfi.resolve_left (fun h => h0 (by rw [h]; decide))
      have eB : tickB Q r T1 = sSmoke T1 (vp_updL (tSmoke T1) t (tSmoke T1 t + r.toInt64)) := by rw [tickB, kf, if_neg h0, et, nI_clamp (by omega)]
      have eF : smF r D = upd (upd D (12 + 7 * t) (D (12 + 7 * t) + r)) 8 (D 8 + r) := by rw [smF, f4, if_neg h0, smF1, f4, et, nI_clamp (by omega), upd_at, if_neg (show ¬ 8 = 12 + 7 * t by omega)]
      have hsum : ∀ s, s < pN Q → 0 ≤ (D (12 + 7 * s)).toInt := fun s hs => (a1 s hs).2
      have hle := (sumZ_le (f := fun s => (D (12 + 7 * s)).toInt) (pN Q) hsum t ht).2
      have hb8 : (X.d 8).toInt ≤ 150000000 := by have := hK.2.2.2; omega
      have hdt : (D (12 + 7 * t)).toInt ≤ 150000000 := by have hle' : (D (12 + 7 * t)).toInt ≤ sumZ (fun s => (D (12 + 7 * s)).toInt) (pN Q) := hle; omega
      have hdt0 := hsum t ht
      have ha : (D (12 + 7 * t) + r).toInt = (D (12 + 7 * t)).toInt + r.toInt := i32_add (by omega) (by omega)
      have h8a : (D 8 + r).toInt = (X.d 8).toInt + r.toInt := by rw [f8]; exact i32_add (by have := hK.2.2.1; omega) (by omega)
      have hD2 : ∀ s, (upd (upd D (12 + 7 * t) (D (12 + 7 * t) + r)) 8 (D 8 + r) (12 + 7 * s)).toInt = if s = t then (D (12 + 7 * s)).toInt + r.toInt else (D (12 + 7 * s)).toInt := fun s => by
        rw [upd_at, if_neg (by omega), upd_at]
        by_cases e : s = t
        · subst e; rw [if_pos rfl, if_pos rfl, ha]
        · rw [if_neg (by omega), if_neg e]
      rw [eB, eF]
      refine ⟨fun s hs => ?_, ?_, ?_, ?_, ?_, ?_, fun j h8 h9 h10 hj => ?_, kS⟩
      · rw [hD2]
        show (if s = t then tSmoke T1 t + r.toInt64 else tSmoke T1 s : Int64).toInt = _ ∧ _
        have h1 := a1 s hs
        by_cases e : s = t
        · rw [if_pos e, if_pos e, e, i64_add (by rw [(a1 t ht).1, i64_of]; omega) (by rw [(a1 t ht).1, i64_of]; omega), (a1 t ht).1, i64_of]
          exact ⟨rfl, by omega⟩
        · rw [if_neg e, if_neg e]; exact h1
      · rw [upd_at, if_neg (by decide), upd_at, if_neg (by omega)]; exact a2
      · rw [upd_at, if_neg (by decide), upd_at, if_neg (by omega)]; exact a3
      · rw [sumZ_ext (pN Q) (fun s _ => hD2 s), sumZ_upd (f := fun s => (D (12 + 7 * s)).toInt) (pN Q) ht, upd_at, if_neg (by decide), upd_at, if_neg (by omega), upd_at, if_neg (by decide), upd_at, if_neg (by omega), upd_at, if_pos rfl, h8a]
        omega
      · rw [upd_at, if_pos rfl, h8a]; omega
      · rw [upd_at, if_pos rfl, h8a]; omega
      · rw [upd_at, if_neg h8, upd_at, if_neg (hj t ht)]; exact hD j h9 h10 hj
  obtain ⟨T2, D2, eT2, eD2, b1, b2, b3, b4, b5a, b5, b6, b7⟩ := b
  have hC2 : CR Q T2 D2 := CR_ext hC ⟨b7.2.1, b7.2.2.1, b7.2.2.2.2.1, b7.2.2.2.2.2.1, b7.2.2.2.2.2.2.1, b7.2.2.2.2.2.2.2.1, b7.2.2.2.2.2.2.2.2.1⟩ (fun j hj _ => b6 j (by omega) (by omega) (by omega) (fun i _ => by omega)) (fun s hs => ⟨b6 _ (by omega) (by omega) (by omega) (fun i _ => by omega), b6 _ (by omega) (by omega) (by omega) (fun i _ => by omega), b6 _ (by omega) (by omega) (by omega) (fun i _ => by omega)⟩) (fun c hc => ⟨b6 _ (by omega) (by omega) (by omega) (fun i _ => by omega), b6 _ (by omega) (by omega) (by omega) (fun i _ => by omega)⟩)
  -- cars
  have hm := move_rel (dr := kI (pCar Q) 0 X.dr) (st := kI (pCar Q) 0 X.st) hC2 (fun c hc => by rw [kI, if_pos hc]) (fun c hc => by rw [kI, if_pos hc])
  have rs := rs_move (P := Q) (T := T2)
  unfold rsT at rs
  simp only [Prod.mk.injEq] at rs
  have e3 : tk3 (pN Q) (pCar Q) cs kc X = mvD (pN Q) (pCar Q) (kI (pCar Q) 0 X.dr) (kI (pCar Q) 0 X.st) D2 := by rw [eD2]; rfl
  have m1 : ∀ j, j < 96 → tk3 (pN Q) (pCar Q) cs kc X j = D2 j := fun j hj => by rw [e3]; exact mv_keep hj
  have m2 : ∀ j, 2 ≤ j % 4 → tk3 (pN Q) (pCar Q) cs kc X j = D2 j := fun j hj => by rw [e3]; exact mv_keepQ hj
  have m3 : ∀ j, 176 ≤ j → tk3 (pN Q) (pCar Q) cs kc X j = D2 j := fun j hj => by rw [e3]; exact mv_keepK hnc hj
  rw [← e3] at hm
  -- exposures
  have hE3 : EXr Q (moveF Q T2).2 (tk3 (pN Q) (pCar Q) cs kc X) := fun c hc => by
    have q1 : exR (tk3 (pN Q) (pCar Q) cs kc X) (96 + 4 * c + 2) = exR X.d (96 + 4 * c + 2) := by
      rw [exR, exR, m2 _ (by omega), m2 _ (by omega), b6 _ (by omega) (by omega) (by omega) (fun i _ => by omega), b6 _ (by omega) (by omega) (by omega) (fun i _ => by omega)]
    rw [rs.2.2.2.2.2.2.2.2, b7.2.2.2.2.2.2.2.2.2, q1]
    exact hE c hc
  have hsm3 : ∀ s, s < pN Q → tSmoke (moveF Q T2).2 s = (tk3 (pN Q) (pCar Q) cs kc X (12 + 7 * s)).toInt64 := fun s hs => by
    rw [rs.2.2.2.2.1, m1 _ (by omega)]
    exact Int64.toInt_inj.mp (by rw [i64_of]; exact (b1 s hs).1)
  have hx := expose_rel hm hsm3 hE3 (pCar Q) (Nat.le_refl _)
  have hxr := exp_rest (T := (moveF Q T2).2) (pCar Q)
  have eT4 : tickT Q r T = sClock (exposeCarsF Q (moveF Q T2).2) (tClock (exposeCarsF Q (moveF Q T2).2) + 1) := by rw [eT2]; rfl
  have e4 : foldN tkX (tk3 (pN Q) (pCar Q) cs kc X) (pCar Q) = tk4 (pN Q) (pCar Q) cs kc X := rfl
  have eX4 : foldN exposeF (moveF Q T2).2 (pCar Q) = exposeCarsF Q (moveF Q T2).2 := rfl
  rw [e4, eX4] at hx
  rw [eX4] at hxr
  have x1 : ∀ j, j < 96 → tk4 (pN Q) (pCar Q) cs kc X j = D2 j := fun j hj => (tkX_keep hj (pCar Q)).trans (m1 j hj)
  have x2 : ∀ c, tk4 (pN Q) (pCar Q) cs kc X (96 + 4 * c) = tk3 (pN Q) (pCar Q) cs kc X (96 + 4 * c) := fun c => tkX_keepC (pCar Q)
  have x2b : ∀ c, tk4 (pN Q) (pCar Q) cs kc X (96 + 4 * c + 1) = tk3 (pN Q) (pCar Q) cs kc X (96 + 4 * c + 1) := fun c => by
    have hq : ∀ k, foldN tkX (tk3 (pN Q) (pCar Q) cs kc X) k (96 + 4 * c + 1) = tk3 (pN Q) (pCar Q) cs kc X (96 + 4 * c + 1) := fun k => by
      induction k with
      | zero => rfl
      | succ k ih =>
        rw [foldN_s]
        unfold tkX
        split
        · exact ih
        · exact (xp_keep (by omega) (by omega)).trans ih
    exact hq (pCar Q)
  have x3 : ∀ j, 176 ≤ j → tk4 (pN Q) (pCar Q) cs kc X j = D2 j := fun j hj => (tkX_keepK hj (pCar Q) hnc).trans (m3 j hj)
  have eD5 : (tkF (pN Q) (pCar Q) cs kc X).d = upd (tk4 (pN Q) (pCar Q) cs kc X) 3 (tk4 (pN Q) (pCar Q) cs kc X 3 + 1) := rfl
  rw [eT4, eD5]
  generalize tk4 (pN Q) (pCar Q) cs kc X = D4 at hx x1 x2 x2b x3 ⊢
  generalize tk3 (pN Q) (pCar Q) cs kc X = D3x at hm x2 x2b
  generalize exposeCarsF Q (moveF Q T2).2 = T4 at hx hxr ⊢
  have u : ∀ j, j ≠ 3 → upd D4 3 (D4 3 + 1) j = D4 j := fun j hj => by rw [upd_at, if_neg hj]
  have k3 : D4 3 = X.d 3 := (x1 3 (by decide)).trans (b6 3 (by decide) (by decide) (by decide) (fun i _ => by omega))
  have hlo3 : ∀ j, j < 96 → D4 j = D2 j := x1
  refine ⟨?_, ⟨fun s hs => ?_, ?_, ?_, ?_⟩, ⟨hn, ?_, fun s hs => ?_⟩, ⟨?_, fun s hs => ?_, ?_⟩, fun c hc => ?_, ?_, ?_⟩
  · refine CR_ext hm ⟨hxr.1, hxr.2.1, hxr.2.2.1, hxr.2.2.2.1, hxr.2.2.2.2.1, hxr.2.2.2.2.2.1, hxr.2.2.2.2.2.2.1⟩ (fun j hj h3 => ?_) (fun s hs => ?_) (fun c hc => ?_)
    · rw [u j h3, x1 j (by omega)]
      have := hm.1
      rcases (show j = 0 ∨ j = 1 ∨ j = 2 ∨ j = 4 by omega) with e | e | e | e
      · rw [e]; exact hC2.1.1.trans hm.1.1.symm
      · rw [e]; exact hC2.1.2.1.trans hm.1.2.1.symm
      · rw [e]; exact hC2.1.2.2.1.trans hm.1.2.2.1.symm
      · rw [e, hC2.1.2.2.2.1, hm.1.2.2.2.1, rs.2.1]
    · have q := hC2.2.1 s hs
      have p := hm.2.1 s hs
      rw [u _ (by omega), u _ (by omega), u _ (by omega), x1 _ (by omega), x1 _ (by omega), x1 _ (by omega), q.1, q.2.1, q.2.2, p.1, p.2.1, p.2.2, rs.2.2.2.2.2.2.1, rs.2.2.2.2.2.2.2.1]
      exact ⟨rfl, rfl, rfl⟩
    · rw [u _ (by omega), u _ (by omega)]
      exact ⟨x2 c, x2b c⟩
  · rw [u _ (by omega), x1 _ (by omega)]
    show (tSmoke T4 s).toInt = _ ∧ _
    rw [hxr.2.2.2.2.2.2.2.2.2.2.1, rs.2.2.2.2.1]
    exact b1 s hs
  · rw [u _ (by decide), x1 _ (by decide)]
    show (tLeft T4).toInt = _ ∧ _
    rw [hxr.2.2.2.2.2.2.2.2.1, rs.2.2.1]
    exact b2
  · rw [u _ (by decide), x1 _ (by decide)]
    show (tRem T4).toInt = _ ∧ _
    rw [hxr.2.2.2.2.2.2.2.2.2.1, rs.2.2.2.1]
    exact b3
  · have w8 := (u 8 (by decide)).trans (x1 8 (by decide))
    have w9 := (u 9 (by decide)).trans (x1 9 (by decide))
    have w10 := (u 10 (by decide)).trans (x1 10 (by decide))
    rw [w8, w9, w10, ← b4]
    rw [sumZ_ext (pN Q) (fun s hs => by show (upd D4 3 (D4 3 + 1) (12 + 7 * s)).toInt = (D2 (12 + 7 * s)).toInt; rw [u _ (by omega), x1 _ (by omega)])]
  · rw [u _ (by decide), x1 _ (by decide)]; exact hC2.1.1
  · have q := hV.2.2 s hs
    rw [u _ (by omega), x1 _ (by omega), b6 _ (by omega) (by omega) (by omega) (fun i _ => by omega)]
    exact q
  · rw [u _ (by decide), x1 _ (by decide), b6 _ (by decide) (by decide) (by decide) (fun i _ => by omega)]; exact hF.1
  · have q := hF.2.1 s hs
    rw [u _ (by omega), u _ (by omega), x1 _ (by omega), x1 _ (by omega), b6 _ (by omega) (by omega) (by omega) (fun i _ => by omega), b6 _ (by omega) (by omega) (by omega) (fun i _ => by omega)]
    show _ = tFan T4 s ∧ _ ∧ _ ∧ (tBay T4 s = -1 ∨ tBay T4 s = 0 ∨ tBay T4 s = 1)
    rw [hxr.2.2.2.2.2.2.2.2.2.2.2, rs.2.2.2.2.2.1, b7.2.2.2.1, hxr.2.2.1, rs.2.2.2.2.2.2.1, b7.2.2.2.2.1]
    exact q
  · show ∀ j, j < 24 → tRed T4 j = 0 ∨ tRed T4 j = 1
    rw [hxr.2.2.2.1, rs.2.2.2.2.2.2.2.1, b7.2.2.2.2.2.1]
    exact hF.2.2
  · show tEx T4 c = _
    rw [hx c hc, exR, exR, u _ (by omega), u _ (by omega)]
  · have q : ∀ j, (j = 6 ∨ j = 7 ∨ 176 ≤ j) → upd D4 3 (D4 3 + 1) j = X.d j := fun j hj => by
      rcases hj with e | e | e
      · rw [e, u _ (by decide), x1 _ (by decide), b6 _ (by decide) (by decide) (by decide) (fun i _ => by omega)]
      · rw [e, u _ (by decide), x1 _ (by decide), b6 _ (by decide) (by decide) (by decide) (fun i _ => by omega)]
      · rw [u _ (by omega), x3 _ e, b6 _ (by omega) (by omega) (by omega) (fun i _ => by omega)]
    refine ⟨hR.1, ?_⟩
    rcases hR.2 with h9 | h9
    · exact Or.inl ⟨by rw [q 6 (Or.inl rfl)]; exact h9.1, h9.2⟩
    · exact Or.inr ⟨by rw [q 6 (Or.inl rfl)]; exact h9.1, RTd_of h9.2.1 (q 7 (Or.inr (Or.inl rfl))) (fun j hj => q j (Or.inr (Or.inr hj))), h9.2.2⟩
  · have hk1 : (X.d 3 + 1).toInt = (X.d 3).toInt + 1 := by
      have e1 : (1 : Int32).toInt = 1 := by decide
      rw [i32_add (by rw [e1]; have := hK.2.1; omega) (by rw [e1]; omega), e1]
    refine ⟨?_, ?_, ?_, ?_⟩
    · show upd D4 3 (D4 3 + 1) 3 = tClock T4 + 1
      rw [upd_at, if_pos rfl, k3, hK.1, hxr.2.2.2.2.2.2.2.1, rs.1, b7.1]
    · rw [upd_at, if_pos rfl, k3, hk1]; have := hK.2.1; omega
    · rw [u _ (by decide), x1 _ (by decide)]; have := hK.2.2.1; omega
    · rw [u 8 (by decide), x1 8 (by decide), upd_at, if_pos rfl, k3, hk1]; have := hK.2.2.2; omega
