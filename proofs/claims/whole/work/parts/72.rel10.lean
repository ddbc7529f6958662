/-- the same plan but for the rate's stack -/
def PE (P Q : PD) : Prop := ∃ sk, Q = sStk P sk
theorem PE.r (P : PD) : PE P P := ⟨pStk P, rfl⟩
theorem PE.t {P Q R : PD} (h1 : PE P Q) (h2 : PE Q R) : PE P R := by
  obtain ⟨a, rfl⟩ := h1
  obtain ⟨b, rfl⟩ := h2
  exact ⟨b, rfl⟩
theorem PE_rate (T : TD) (P : PD) : PE P (rateP T P) := by
  unfold rateP
  split
  · exact ⟨_, rfl⟩
  · exact PE.r P
theorem PE.rel {P Q : PD} (h : PE P Q) {T : TD} {d : Nat → Int32} : Rel Q T d ↔ Rel P T d := by
  obtain ⟨a, rfl⟩ := h
  exact Iff.rfl
theorem PE.eqs {P Q : PD} (h : PE P Q) : pN Q = pN P ∧ pCar Q = pCar P ∧ pCodes Q = pCodes P ∧ pNc Q = pNc P ∧ pHf Q = pHf P := by
  obtain ⟨a, rfl⟩ := h
  exact ⟨rfl, rfl, rfl, rfl, rfl⟩
theorem exk {M : TD} : ∀ k c, tEx (foldN exposeF M k) c = if c < k ∧ ¬ tCs M c < 0 then tEx M c + tSmoke M (tCs M c).toNatClampNeg else tEx M c
  | 0, c => by rw [if_neg (fun h => Nat.not_lt_zero c h.1)]; rfl
  | k + 1, c => by
    have ih := exk (M := M) k
    have hr := exp_rest (T := M) k
    rw [foldN_s]
    generalize foldN exposeF M k = T1 at ih hr ⊢
    unfold exposeF
    rw [hr.2.2.2.2.2.1]
    by_cases h0 : tCs M k < 0
    · rw [if_pos h0, ih c]
      by_cases e : c = k
      · subst e
        rw [if_neg (fun h => h.2 h0), if_neg (fun h => h.2 h0)]
      · by_cases h : c < k ∧ ¬ tCs M c < 0
        · rw [if_pos h, if_pos ⟨by omega, h.2⟩]
        · rw [if_neg h, if_neg (fun h9 => h ⟨by omega, h9.2⟩)]
    · rw [if_neg h0]
      show (if c = k then tEx T1 k + tSmoke T1 (tCs M k).toNatClampNeg else tEx T1 c : Int64) = _
      rw [hr.2.2.2.2.2.2.2.2.2.2.1]
      by_cases e : c = k
      · rw [if_pos e, e, ih k, if_neg (fun h => Nat.lt_irrefl k h.1), if_pos ⟨by omega, h0⟩]
      · rw [if_neg e, ih c]
        by_cases h : c < k ∧ ¬ tCs M c < 0
        · rw [if_pos h, if_pos ⟨by omega, h.2⟩]
        · rw [if_neg h, if_neg (fun h9 => h ⟨by omega, h9.2⟩)]
theorem sxR_a {d : Nat → Int32} {a : Int64} : ∀ k, sxR d a k = a + sxR d 0 k
  | 0 => by show a = a + 0; grind
  | k + 1 => by
    have ih := sxR_a (d := d) (a := a) k
    rw [sxR, sxR]
    by_cases h : d (96 + 4 * k) < 0
    · rw [if_pos h, if_pos h]; exact ih
    · rw [if_neg h, if_neg h, ih]; grind
theorem tk_ck {n nc : Nat} {cs : Nat → Int32} {kc : Nat} {X : TS} : (tkF n nc cs kc X).d 3 = X.d 3 + 1 := by
  have e : (tkF n nc cs kc X).d = upd (tk4 n nc cs kc X) 3 (tk4 n nc cs kc X 3 + 1) := rfl
  have e3 : tk4 n nc cs kc X 3 = X.d 3 := tk4_keep (by decide) (by decide) (by decide) (by decide)
  rw [e, upd_at, if_pos rfl, e3]
/-- what a tick adds to the exposures -/
theorem tick_sum {P : PD} {T : TD} {X : TS} (h : Rel P T X.d) (hck : (X.d 3).toInt ≤ 10400) : sumL (tEx (tickF P T)) (pCar P) = sumL (tEx T) (pCar P) + sxR (tkF (pN P) (pCar P) (pCodes P) (pNc P) X).d 0 (pCar P) := by
  have h' := tick_rel h hck
  have hn := h.1.1.2.2.2.2.1
  generalize (tkF (pN P) (pCar P) (pCodes P) (pNc P) X).d = d' at h' ⊢
  have eT : tickF P T = sClock (exposeCarsF (rateP T P) (moveF (rateP T P) (tickB (rateP T P) (rateF T P) (tickS (rateP T P) T))).2) (tClock (exposeCarsF (rateP T P) (moveF (rateP T P) (tickB (rateP T P) (rateF T P) (tickS (rateP T P) T))).2) + 1) := rfl
  have hM : tEx (moveF (rateP T P) (tickB (rateP T P) (rateF T P) (tickS (rateP T P) T))).2 = tEx T := by
    have r1 := rs_move (P := rateP T P) (T := tickB (rateP T P) (rateF T P) (tickS (rateP T P) T))
    unfold rsT at r1
    simp only [Prod.mk.injEq] at r1
    rw [r1.2.2.2.2.2.2.2.2]
    have r2 : tEx (tickB (rateP T P) (rateF T P) (tickS (rateP T P) T)) = tEx (tickS (rateP T P) T) := by
      unfold tickB
      split
      · rfl
      · rfl
    rw [r2]
    have ko : tEx (smokeRun (rateP T P) (flowF T (rateP T P)) T).2 = tEx T := by
      refine foldN_inv (fun S : Int64 × TD => tEx S.2 = tEx T) (smokeStep (rateP T P) (flowF T (rateP T P))) (0, T) rfl (fun i S hS => ?_) (pN (rateP T P))
      exact hS
    exact ko
  have eC : pCar (rateP T P) = pCar P := rateP_c T P
  rw [eT] at h' ⊢
  generalize (moveF (rateP T P) (tickB (rateP T P) (rateF T P) (tickS (rateP T P) T))).2 = M at h' hM ⊢
  have eX : exposeCarsF (rateP T P) M = foldN exposeF M (pCar P) := by rw [exposeCarsF, eC]
  rw [eX] at h' ⊢
  have hr := exp_rest (T := M) (pCar P)
  have key : ∀ k, k ≤ pCar P → sumL (tEx (foldN exposeF M (pCar P))) k = sumL (tEx T) k + sxR d' 0 k := fun k => by
    induction k with
    | zero => intro _; show (0 : Int64) = 0 + 0; decide
    | succ k ih =>
      intro hk
      have hc := (h'.1.2.2.1 k (by omega))
      have e1 : d' (96 + 4 * k) = tCs M k := by
        have e2 : tCs (sClock (foldN exposeF M (pCar P)) (tClock (foldN exposeF M (pCar P)) + 1)) k = tCs M k := by
          show tCs (foldN exposeF M (pCar P)) k = _
          rw [hr.2.2.2.2.2.1]
        exact hc.1.trans e2
      rw [sumL, sumL, sxR, ih (by omega), exk, hM, e1]
      by_cases h0 : tCs M k < 0
      · rw [if_neg (fun h => h.2 h0), if_pos h0]; grind
      · have hin : tCs M k = -1 ∨ Inn (tCs M k) (pN P) := by
          have h9 := hc.2.2.1
          rw [← hc.1, e1] at h9
          exact h9
        obtain ⟨t, ht, et⟩ := hin.resolve_left (fun e => h0 (by rw [e]; decide))
        have hs := (h'.2.1.1 t ht).1
        have e3 : tSmoke M t = (d' (12 + 7 * t)).toInt64 := by
          refine Int64.toInt_inj.mp ?_
          rw [i64_of, ← hs]
          show _ = (tSmoke (foldN exposeF M (pCar P)) t).toInt
          rw [hr.2.2.2.2.2.2.2.2.2.2.1]
        rw [if_pos ⟨by omega, h0⟩, if_neg h0, et, nI_clamp (by omega), e3]; grind
  show sumL (tEx (foldN exposeF M (pCar P))) (pCar P) = _
  exact key (pCar P) (Nat.le_refl _)
theorem ins_0 {d : Nat → Int32} : ∀ k, k ≤ 20 → insR d k ≤ 0 → ∀ c, c < k → d (96 + 4 * c) < 0
  | 0, _, _, c, hc => absurd hc (Nat.not_lt_zero c)
  | k + 1, hk, h, c, hc => by
    obtain ⟨m, hm, em⟩ := ins_b (d := d) k (by omega)
    rw [insR, em] at h
    by_cases e : d (96 + 4 * k) < 0
    · rw [if_pos e] at h
      have h' : nI m ≤ 0 := by rw [← Int32.add_zero (nI m)]; exact h
      by_cases e2 : c = k
      · subst e2; exact e
      · exact ins_0 k (by omega) (by rw [em]; exact h') c (by omega)
    · rw [if_neg e, nI_1] at h
      exact absurd h (nI_nle (by omega) (by omega))
theorem out_stay {n nc : Nat} (hn : n ≤ 12) {cs : Nat → Int32} {kc : Nat} {X : TS} (hf : X.d 4 = -1 ∨ Inn (X.d 4) n) (h : ∀ c, c < nc → X.d (96 + 4 * c) < 0) : ∀ c, c < nc → (tkF n nc cs kc X).d (96 + 4 * c) < 0 := by
  have hA : ∀ c, c < nc → (tk0 n nc cs kc X).2.2 (96 + 4 * c) < 0 := fun c hc => by
    show tkA n nc cs kc X (96 + 4 * c) < 0
    rw [tkA_keepG hn hf (by omega) (by omega) (by omega) (fun i _ => by omega)]
    exact h c hc
  have pass : ∀ (f : Nat → D3 → D3) (g : Nat → Nat) (w : Int32), (∀ i, f i = dfR n nc (nI (g i)) w) → (∀ i, i < n → g i < n) → ∀ (S : D3), (∀ c, c < nc → S.2.2 (96 + 4 * c) < 0) → ∀ k, k ≤ n → foldN f S k = S := by
    intro f g w hf hg S hS k
    induction k with
    | zero => intro _; rfl
    | succ k ih =>
      intro hk
      rw [foldN_s, ih (by omega), hf k, dfR]
      refine df_none (fun c hc h9 => ?_) nc (Nat.le_refl _)
      have h8 := hS c hc
      rw [h9.1] at h8
      exact nI_pos (by have := hg k (by omega); omega) h8
  intro c hc
  have e : (tkF n nc cs kc X).d (96 + 4 * c) = (tk2 n nc cs kc X).2.2 (96 + 4 * c) := by
    show upd (tk4 n nc cs kc X) 3 _ (96 + 4 * c) = _
    rw [upd_at, if_neg (by omega), tk4, tkX_keepC, tk3, tkT_keepC]
  have e1 : tk1 n nc cs kc X = tk0 n nc cs kc X := pass (tkE n nc) (fun i => n - 1 - i) 1 (fun _ => rfl) (fun i hi => by show n - 1 - i < n; omega) _ hA n (Nat.le_refl _)
  have e2 : tk2 n nc cs kc X = tk1 n nc cs kc X := pass (tkV n nc) (fun i => i) (-1) (fun _ => rfl) (fun i hi => hi) _ (by rw [e1]; exact hA) n (Nat.le_refl _)
  rw [e, e2, e1]
  exact hA c hc
theorem sx_out {d : Nat → Int32} {a : Int64} : ∀ k, (∀ c, c < k → d (96 + 4 * c) < 0) → sxR d a k = a
  | 0, _ => rfl
  | k + 1, h => by rw [sxR, if_pos (h k (by omega))]; exact sx_out k (fun c hc => h c (by omega))
/-- from the front -/
def exG (n nc : Nat) (cs : Nat → Int32) (kc : Nat) : Nat → Int64 × TS → Int64 × TS
  | 0, S => S
  | r + 1, S => exG n nc cs kc r (exS n nc cs kc 0 S)
theorem exG_fold {n nc : Nat} {cs : Nat → Int32} {kc : Nat} : ∀ (r : Nat) (S : Int64 × TS), foldN (exS n nc cs kc) S r = exG n nc cs kc r S
  | 0, _ => rfl
  | r + 1, S => by
    have h : ∀ (k : Nat) (S : Int64 × TS), foldN (exS n nc cs kc) S (k + 1) = foldN (exS n nc cs kc) (exS n nc cs kc 0 S) k := fun k => by
      induction k with
      | zero => intro S; rfl
      | succ k ih => intro S; rw [foldN_s, ih S, foldN_s]; rfl
    rw [h r S, exG_fold r]
    rfl
theorem exG_out {n nc : Nat} (hn : n ≤ 12) {cs : Nat → Int32} {kc : Nat} : ∀ (r : Nat) (a : Int64) (X : TS), (X.d 4 = -1 ∨ Inn (X.d 4) n) → (∀ c, c < nc → X.d (96 + 4 * c) < 0) → (exG n nc cs kc r (a, X)).1 = a
  | 0, _, _, _, _ => rfl
  | r + 1, a, X, hf, h => by
    have ho := out_stay (cs := cs) (kc := kc) hn hf h
    show (exG n nc cs kc r (sxR (tkF n nc cs kc X).d a nc, tkF n nc cs kc X)).1 = a
    rw [sx_out nc ho]
    exact exG_out hn r a _ (by rw [tkF_keep (by decide) (by decide) (by decide) (by decide) (by decide)]; exact hf) ho
theorem ex_rel {P : PD} : ∀ (r : Nat) (T : TD) (Q : PD) (X : TS) (a : Int64), PE P Q → Rel P T X.d → (X.d 3).toInt + r ≤ 10400 →
    (exG (pN P) (pCar P) (pCodes P) (pNc P) r (a, X)).1 = a + (sumL (tEx (expR r (T, Q)).1) (pCar P) - sumL (tEx T) (pCar P)) ∧ PE P (expR r (T, Q)).2
  | 0, T, Q, X, a, hp, h, _ => ⟨by show a = a + (sumL (tEx T) (pCar P) - sumL (tEx T) (pCar P)); grind, hp⟩
  | r + 1, T, Q, X, a, hp, h, hb => by
    have hn := h.1.1.2.2.2.2.1
    have hnc := h.1.1.2.2.2.2.2.1
    rw [expR]
    by_cases hi : tIns T ≤ 0
    · rw [if_pos hi]
      refine ⟨?_, hp⟩
      have hall := ins_0 (pCar P) hnc (by rw [← h.1.2.2.2.2]; exact hi)
      rw [exG_out hn (r + 1) a X (by rw [h.1.1.2.2.2.1]; exact h.1.1.2.2.2.2.2.2) hall]
      grind
    · rw [if_neg hi]
      have hQ : Rel Q T X.d := hp.rel.mpr h
      have ht := tick_rel hQ (by omega)
      have hs := tick_sum hQ (by omega)
      obtain ⟨q1, q2, q3, q4, _⟩ := hp.eqs
      rw [q1, q2, q3, q4] at ht
      rw [q1, q2, q3, q4] at hs
      have ht' : Rel P (tickF Q T) (tkF (pN P) (pCar P) (pCodes P) (pNc P) X).d := hp.rel.mp ht
      have h3 : ((tkF (pN P) (pCar P) (pCodes P) (pNc P) X).d 3).toInt + r ≤ 10400 := by
        have e : (tkF (pN P) (pCar P) (pCodes P) (pNc P) X).d 3 = X.d 3 + 1 := tk_ck
        have e1 : (1 : Int32).toInt = 1 := by decide
        have hk := h.2.2.2.2.2.2
        rw [e, i32_add (by rw [e1]; have := hk.2.1; omega) (by rw [e1]; omega), e1]
        omega
      have ih := ex_rel r (tickF Q T) (rateP T Q) (tkF (pN P) (pCar P) (pCodes P) (pNc P) X) (sxR (tkF (pN P) (pCar P) (pCodes P) (pNc P) X).d a (pCar P)) (hp.t (PE_rate T Q)) ht' h3
      refine ⟨?_, ih.2⟩
      have e2 : (exG (pN P) (pCar P) (pCodes P) (pNc P) (r + 1) (a, X)).1 = (exG (pN P) (pCar P) (pCodes P) (pNc P) r (sxR (tkF (pN P) (pCar P) (pCodes P) (pNc P) X).d a (pCar P), tkF (pN P) (pCar P) (pCodes P) (pNc P) X)).1 := rfl
      rw [e2, ih.1, hs, sxR_a]
      show _ = a + (sumL (tEx (expR r (tickF Q T, rateP T Q)).1) (pCar P) - sumL (tEx T) (pCar P))
      grind
/-- the fans set on both sides -/
theorem fans_rel {P : PD} {T : TD} {d : Nat → Int32} (h : Rel P T d) (x : Int32) : Rel P (fansF P x T) (foldN (fnS d x) d (pN P)) := by
  obtain ⟨hC, hS, hV, hF, hE, hR, hK⟩ := h
  have key : ∀ k, k ≤ pN P → (∀ j, (∀ i, i < k → j ≠ 12 + 7 * i + 2) → foldN (fnS d x) d k j = d j) ∧ (∀ s, s < pN P → foldN (fnS d x) d k (12 + 7 * s + 2) = tFan (foldN (fanF P x) T k) s) ∧ (∃ f, foldN (fanF P x) T k = sFan T f) := fun k => by
    induction k with
    | zero => intro _; exact ⟨fun _ _ => rfl, fun s hs => (hF.2.1 s hs).1, ⟨tFan T, rfl⟩⟩
    | succ k ih =>
      intro hk
      obtain ⟨i1, i2, i3⟩ := ih (by omega)
      have hd := (hF.2.1 k (by omega)).2
      rw [foldN_s, foldN_s]
      generalize foldN (fnS d x) d k = D at i1 i2 ⊢
      generalize foldN (fanF P x) T k = T1 at i2 i3 ⊢
      unfold fnS fanF
      rw [hd.1]
      rcases hd.2.1 with e | e
      · rw [e, if_neg (by decide), if_pos rfl]
        exact ⟨fun j hj => i1 j (fun i hi => hj i (by omega)), i2, i3⟩
      · rw [e, if_pos rfl, if_neg (by decide)]
        refine ⟨fun j hj => ?_, fun s hs => ?_, ?_⟩
        · rw [upd_at, if_neg (hj k (by omega))]; exact i1 j (fun i hi => hj i (by omega))
        · show upd D (12 + 7 * k + 2) x (12 + 7 * s + 2) = upd (tFan T1) k x s
          rw [upd_at, upd_at]
          by_cases e2 : s = k
          · rw [if_pos (by omega), if_pos e2]
          · rw [if_neg (by omega), if_neg e2]; exact i2 s hs
        · obtain ⟨f, rfl⟩ := i3
          exact ⟨_, rfl⟩
  obtain ⟨k1, k2, f, k3⟩ := key (pN P) (Nat.le_refl _)
  have eO : foldN (fanF P x) T (pN P) = fansF P x T := rfl
  rw [eO] at k2 k3
  rw [k3] at k2 ⊢
  generalize foldN (fnS d x) d (pN P) = D at k1 k2 ⊢
  have g : ∀ j, (∀ i, i < pN P → j ≠ 12 + 7 * i + 2) → D j = d j := k1
  have lo : ∀ j, j < 12 → D j = d j := fun j hj => g j (fun i _ => by omega)
  have hi : ∀ j, 96 ≤ j → D j = d j := fun j hj => g j (fun i hi => by have := hV.1; omega)
  refine ⟨CR_ext hC ⟨rfl, rfl, rfl, rfl, rfl, rfl, rfl⟩ (fun j hj _ => lo j (by omega)) (fun s _ => ⟨g _ (fun i _ => by omega), g _ (fun i _ => by omega), g _ (fun i _ => by omega)⟩) (fun c _ => ⟨hi _ (by omega), hi _ (by omega)⟩), ?_, ?_, ?_, ?_, ?_, ?_⟩
  · refine ⟨fun s hs => ?_, by rw [lo 9 (by decide)]; exact hS.2.1, by rw [lo 10 (by decide)]; exact hS.2.2.1, ?_⟩
    · rw [g _ (fun i _ => by omega)]; exact hS.1 s hs
    · rw [lo 8 (by decide), lo 9 (by decide), lo 10 (by decide), sumZ_ext (pN P) (fun s _ => by show (D (12 + 7 * s)).toInt = (d (12 + 7 * s)).toInt; rw [g _ (fun i _ => by omega)])]
      exact hS.2.2.2
  · exact ⟨hV.1, (lo 0 (by decide)).trans hV.2.1, fun s hs => by rw [g _ (fun i _ => by omega)]; exact hV.2.2 s hs⟩
  · refine ⟨(lo 5 (by decide)).trans hF.1, fun s hs => ?_, hF.2.2⟩
    have q := hF.2.1 s hs
    exact ⟨k2 s hs, (g _ (fun i _ => by omega)).trans q.2.1, q.2.2⟩
  · intro c hc
    rw [exR, hi _ (by omega), hi _ (by omega)]
    exact hE c hc
  · refine ⟨hR.1, ?_⟩
    rcases hR.2 with h9 | h9
    · exact Or.inl ⟨by rw [lo 6 (by decide)]; exact h9.1, h9.2⟩
    · exact Or.inr ⟨by rw [lo 6 (by decide)]; exact h9.1, RTd_of h9.2.1 (lo 7 (by decide)) (fun j hj => hi j (by omega)), h9.2.2⟩
  · exact ⟨(lo 3 (by decide)).trans hK.1, by rw [lo 3 (by decide)]; exact hK.2.1, by rw [lo 8 (by decide)]; exact hK.2.2.1, by rw [lo 3 (by decide), lo 8 (by decide)]; exact hK.2.2.2⟩
/-- the exposures that a setting would bring -/
theorem ew_rel {P Q : PD} {T : TD} {d : Nat → Int32} (hp : PE P Q) (h : Rel P T d) (hck : (d 3).toInt ≤ 10000) (x : Int32) {n : Nat} (hn : n ≤ 100) (X : TS) :
    ewF x n T Q = (exF (pN P) (pCar P) (pCodes P) (pNc P) x n X d).1 ∧ PE P (ewP x n T Q) := by
  have hQ : fansF Q x T = fansF P x T := by obtain ⟨a, rfl⟩ := hp; rfl
  have hf := fans_rel h x
  have h3 : foldN (fnS d x) d (pN P) 3 = d 3 := fnS_keep (Or.inl (by decide)) (pN P) h.1.1.2.2.2.2.1
  have he := ex_rel n (fansF P x T) Q (X.wd (foldN (fnS d x) d (pN P))) 0 hp hf (by show (foldN (fnS d x) d (pN P) 3).toInt + _ ≤ _; rw [h3]; omega)
  refine ⟨?_, by show PE P (expR n (fansF Q x T, Q)).2; rw [hQ]; exact he.2⟩
  rw [exF, exG_fold, he.1]
  show sumL (tEx (expR n (fansF Q x T, Q)).1) (pCar (expR n (fansF Q x T, Q)).2) - sumL (tEx (fansF Q x T)) (pCar Q) = _
  rw [hQ, (he.2).eqs.2.1, hp.eqs.2.1]
  grind
theorem bs_rel {P : PD} {T : TD} {d : Nat → Int32} (h : Rel P T d) (hck : (d 3).toInt ≤ 10000) {n : Nat} (hn : n ≤ 100) (X : TS) : ∀ k, k ≤ 10 → (bsF n T P k).1 = (bsR (pN P) (pCar P) (pCodes P) (pNc P) n d X k).1 ∧ (bsF n T P k).2.1 = (bsR (pN P) (pCar P) (pCodes P) (pNc P) n d X k).2.1 ∧ PE P (bsF n T P k).2.2
  | 0, _ => by
    have h1 := ew_rel (PE.r P) h hck 0 hn X
    exact ⟨rfl, h1.1, h1.2⟩
  | k + 1, hk => by
    obtain ⟨i1, i2, i3⟩ := bs_rel h hck hn X k (by omega)
    have eF : bsF n T P (k + 1) = bsStep n T k (bsF n T P k) := rfl
    have eR : bsR (pN P) (pCar P) (pCodes P) (pNc P) n d X (k + 1) = bsR2 (pN P) (pCar P) (pCodes P) (pNc P) n d k (bsR (pN P) (pCar P) (pCodes P) (pNc P) n d X k) := rfl
    rw [eF, eR]
    generalize bsF n T P k = S at i1 i2 i3 ⊢
    generalize bsR (pN P) (pCar P) (pCodes P) (pNc P) n d X k = R at i1 i2 ⊢
    have m1 : (1 : Int32) * nI (k + 1) = nI (k + 1) := by grind
    have m2 : (-1 : Int32) * nI (k + 1) = -(nI (k + 1)) := by grind
    rw [bsR2, m1, m2]
    have h1 := ew_rel i3 h hck (nI (k + 1)) hn R.2.2
    have hR1 : (bsR1 (pN P) (pCar P) (pCodes P) (pNc P) n d (nI (k + 1)) R).1 = (if ewF (nI (k + 1)) n T S.2.2 < S.2.1 then nI (k + 1) else S.1) ∧ (bsR1 (pN P) (pCar P) (pCodes P) (pNc P) n d (nI (k + 1)) R).2.1 = (if ewF (nI (k + 1)) n T S.2.2 < S.2.1 then ewF (nI (k + 1)) n T S.2.2 else S.2.1) := by
      rw [bsR1, ← h1.1, ← i2, ← i1]
      by_cases e : ewF (nI (k + 1)) n T S.2.2 < S.2.1
      · rw [if_pos e, if_pos e, if_pos e]; exact ⟨rfl, rfl⟩
      · rw [if_neg e, if_neg e, if_neg e]; exact ⟨rfl, rfl⟩
    generalize bsR1 (pN P) (pCar P) (pCodes P) (pNc P) n d (nI (k + 1)) R = R1 at hR1 ⊢
    have h2 := ew_rel h1.2 h hck (-(nI (k + 1))) hn R1.2.2
    rw [bsR1, ← h2.1, hR1.2, hR1.1]
    refine ⟨?_, ?_, h2.2⟩
    · show (if ewF (-(nI (k + 1))) n T (ewP (nI (k + 1)) n T S.2.2) < (if ewF (nI (k + 1)) n T S.2.2 < S.2.1 then ewF (nI (k + 1)) n T S.2.2 else S.2.1) then -(nI (k + 1)) else (if ewF (nI (k + 1)) n T S.2.2 < S.2.1 then nI (k + 1) else S.1)) = _
      generalize (if ewF (nI (k + 1)) n T S.2.2 < S.2.1 then ewF (nI (k + 1)) n T S.2.2 else S.2.1) = l1
      by_cases e : ewF (-(nI (k + 1))) n T (ewP (nI (k + 1)) n T S.2.2) < l1
      · rw [if_pos e, if_pos e]
      · rw [if_neg e, if_neg e]
    · show (if ewF (-(nI (k + 1))) n T (ewP (nI (k + 1)) n T S.2.2) < (if ewF (nI (k + 1)) n T S.2.2 < S.2.1 then ewF (nI (k + 1)) n T S.2.2 else S.2.1) then ewF (-(nI (k + 1))) n T (ewP (nI (k + 1)) n T S.2.2) else (if ewF (nI (k + 1)) n T S.2.2 < S.2.1 then ewF (nI (k + 1)) n T S.2.2 else S.2.1)) = _
      generalize (if ewF (nI (k + 1)) n T S.2.2 < S.2.1 then ewF (nI (k + 1)) n T S.2.2 else S.2.1) = l1
      by_cases e : ewF (-(nI (k + 1))) n T (ewP (nI (k + 1)) n T S.2.2) < l1
      · rw [if_pos e, if_pos e]
      · rw [if_neg e, if_neg e]
theorem ticks_rel {P : PD} {T : TD} {X : TS} (h : Rel P T X.d) : ∀ k : Nat, (X.d 3).toInt + (k : Int) ≤ 10300 → Rel P (ticksF T P k).1 (tksF (pN P) (pCar P) (pCodes P) (pNc P) X k).d ∧ PE P (ticksF T P k).2 ∧ ((tksF (pN P) (pCar P) (pCodes P) (pNc P) X k).d 3).toInt = (X.d 3).toInt + k
  | 0, _ => ⟨h, PE.r P, by show (X.d 3).toInt = (X.d 3).toInt + ((0 : Nat) : Int); omega⟩
  | k + 1, hk => by
    obtain ⟨i1, i2, i3⟩ := ticks_rel h k (by omega)
    have eF : ticksF T P (k + 1) = tick2 (ticksF T P k) := rfl
    have eR : tksF (pN P) (pCar P) (pCodes P) (pNc P) X (k + 1) = tkF (pN P) (pCar P) (pCodes P) (pNc P) (tksF (pN P) (pCar P) (pCodes P) (pNc P) X k) := rfl
    rw [eF, eR]
    generalize ticksF T P k = S at i1 i2 ⊢
    generalize tksF (pN P) (pCar P) (pCodes P) (pNc P) X k = Y at i1 i3 ⊢
    have hQ : Rel S.2 S.1 Y.d := i2.rel.mpr i1
    have ht := tick_rel hQ (by omega)
    obtain ⟨q1, q2, q3, q4, _⟩ := i2.eqs
    rw [q1, q2, q3, q4] at ht
    refine ⟨i2.rel.mp ht, i2.t (PE_rate S.1 S.2), ?_⟩
    have e : (tkF (pN P) (pCar P) (pCodes P) (pNc P) Y).d 3 = Y.d 3 + 1 := tk_ck
    have e1 : (1 : Int32).toInt = 1 := by decide
    have hk2 := i1.2.2.2.2.2.2
    rw [e, i32_add (by rw [e1]; have := hk2.2.1; omega) (by rw [e1]; omega), e1]
    omega
