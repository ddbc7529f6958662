/-- what smoke doesn't touch -/
def otT (T : TD) : Int32 × Int32 × Int32 × Int64 × (Nat → Int32) × (Nat → Int32) × (Nat → Int32) × (Nat → Int32) × (Nat → Int32) × (Nat → Int32) × (Nat → Int64) := (tClock T, tFire T, tIns T, tLeft T, tFan T, tBay T, tRed T, tLane T, tCs T, tCd T, tEx T)
theorem smC_Z {P : PD} {T : TD} {fl : Int32} {sec : Nat → Nat} (hn : pN P ≤ 12) (hsec : ∀ i, i < pN P → smokeSec (pN P) fl i = nI (sec i)) (hlt : ∀ i, i < pN P → sec i < pN P) (hinj : ∀ i j, i < pN P → j < pN P → sec i = sec j → i = j) {σ v : Nat → Int} {f : Int} (hσ : ∀ s, s < pN P → (tSmoke T s).toInt = σ s ∧ 0 ≤ σ s ∧ σ s ≤ 200000000) (hv : ∀ s, s < pN P → (pVent P s).toInt = v s ∧ 0 ≤ v s ∧ v s ≤ 100) (hf : (absI fl).toInt = f ∧ 0 ≤ f ∧ f ≤ 100) (hrem : 0 ≤ (tRem T).toInt ∧ (tRem T).toInt ≤ 2000000000) :
    ∀ k, k ≤ pN P → (foldN (smokeStep P fl) (0, T) k).1.toInt = (if k = 0 then 0 else mZ σ v f (sec (k - 1))) ∧
      (∀ j, j < k → (tSmoke (foldN (smokeStep P fl) (0, T) k).2 (sec j)).toInt = rZ σ v (sec j) - mZ σ v f (sec j) + (if j = 0 then 0 else mZ σ v f (sec (j - 1)))) ∧
      (∀ j, k ≤ j → j < pN P → tSmoke (foldN (smokeStep P fl) (0, T) k).2 (sec j) = tSmoke T (sec j)) ∧
      (tRem (foldN (smokeStep P fl) (0, T) k).2).toInt = (tRem T).toInt + sumZ (fun i => gZ σ v (sec i)) k ∧ otT (foldN (smokeStep P fl) (0, T) k).2 = otT T
  | 0, _ => ⟨rfl, fun j hj => absurd hj (Nat.not_lt_zero j), fun _ _ _ => rfl, (Int.add_zero _).symm, rfl⟩
  | k + 1, hk => by
    obtain ⟨h1, h2, h3, h4, h5⟩ := smC_Z hn hsec hlt hinj hσ hv hf hrem k (by omega)
    have hs := hσ (sec k) (hlt k (by omega))
    have hvk := hv (sec k) (hlt k (by omega))
    have hb := mZ_b (σ := σ) (v := v) (f := f) (s := sec k) hs.2.1 hvk.2 hf.2
    have hg := gZ_b (σ := σ) (v := v) (s := sec k) hs.2.1 hvk.2
    have hx := h3 k (Nat.le_refl _) (by omega)
    have hsk : (smokeSec (pN P) fl k).toNatClampNeg = sec k := by rw [hsec k (by omega), nI_clamp (by have := hlt k (by omega); omega)]
    have hA : 0 ≤ (foldN (smokeStep P fl) (0, T) k).1.toInt ∧ (foldN (smokeStep P fl) (0, T) k).1.toInt ≤ 200000000 := by
      rw [h1]
      by_cases e : k = 0
      · rw [if_pos e]; omega
      · rw [if_neg e]
        have h8 := hσ (sec (k - 1)) (hlt _ (by omega))
        have := mZ_b (σ := σ) (v := v) (f := f) (s := sec (k - 1)) h8.2.1 (hv _ (hlt _ (by omega))).2 hf.2
        omega
    have hsg : 0 ≤ sumZ (fun i => gZ σ v (sec i)) k ∧ sumZ (fun i => gZ σ v (sec i)) k ≤ 2400000000 := by
      refine ⟨sumZ_nn k (fun i hi => (gZ_b (hσ _ (hlt i (by omega))).2.1 (hv _ (hlt i (by omega))).2).1), ?_⟩
      have h8 : sumZ (fun i => gZ σ v (sec i)) k ≤ sumZ (fun _ => 200000000) k := sumZ_mono k (fun i hi => by
        have h7 := hσ (sec i) (hlt i (by omega))
        have := gZ_b (σ := σ) (v := v) h7.2.1 (hv _ (hlt i (by omega))).2
        show gZ σ v (sec i) ≤ 200000000
        omega)
      have h6 : ∀ m, sumZ (fun _ => 200000000) m = 200000000 * (m : Int) := fun m => by
        induction m with
        | zero => rfl
        | succ m ih => rw [sumZ, ih]; omega
      rw [h6] at h8
      omega
    rw [foldN_s]
    generalize foldN (smokeStep P fl) (0, T) k = S at h1 h2 h3 h4 h5 hx hA ⊢
    have hp := pct (a := tSmoke T (sec k)) (b := (pVent P (sec k)).toInt64) (by rw [hs.1]; omega) (by rw [hs.1]; omega) (by rw [i64_of]; omega) (by rw [i64_of]; omega)
    rw [i64_of, hs.1, hvk.1] at hp
    have eV : (tSmoke T (sec k) * (pVent P (sec k)).toInt64 / 100).toInt = gZ σ v (sec k) := hp.1
    have eR : (tSmoke T (sec k) - tSmoke T (sec k) * (pVent P (sec k)).toInt64 / 100).toInt = rZ σ v (sec k) := by
      rw [i64_sub (by rw [hs.1, eV]; omega) (by rw [hs.1, eV]; omega), hs.1, eV]; rfl
    have hp2 := pct (a := tSmoke T (sec k) - tSmoke T (sec k) * (pVent P (sec k)).toInt64 / 100) (b := (absI fl).toInt64) (by rw [eR]; omega) (by rw [eR]; omega) (by rw [i64_of]; omega) (by rw [i64_of]; omega)
    have eM : ((tSmoke T (sec k) - tSmoke T (sec k) * (pVent P (sec k)).toInt64 / 100) * (absI fl).toInt64 / 100).toInt = mZ σ v f (sec k) := by
      rw [hp2.1, eR, i64_of, hf.1]; rfl
    have eN : (tSmoke T (sec k) - tSmoke T (sec k) * (pVent P (sec k)).toInt64 / 100 - (tSmoke T (sec k) - tSmoke T (sec k) * (pVent P (sec k)).toInt64 / 100) * (absI fl).toInt64 / 100 + S.1).toInt = rZ σ v (sec k) - mZ σ v f (sec k) + (if k = 0 then 0 else mZ σ v f (sec (k - 1))) := by
      rw [h1] at hA
      have a1 : (tSmoke T (sec k) - tSmoke T (sec k) * (pVent P (sec k)).toInt64 / 100 - (tSmoke T (sec k) - tSmoke T (sec k) * (pVent P (sec k)).toInt64 / 100) * (absI fl).toInt64 / 100).toInt = rZ σ v (sec k) - mZ σ v f (sec k) := by
        rw [i64_sub (by rw [eR, eM]; omega) (by rw [eR, eM]; omega), eR, eM]
      rw [i64_add (by rw [a1, h1]; omega) (by rw [a1, h1]; omega), a1, h1]
    refine ⟨?_, fun j hj => ?_, fun j hj1 hj2 => ?_, ?_, ?_⟩
    · show (((tSmoke S.2 (smokeSec (pN P) fl k).toNatClampNeg - tSmoke S.2 (smokeSec (pN P) fl k).toNatClampNeg * (pVent P (smokeSec (pN P) fl k).toNatClampNeg).toInt64 / 100) * (absI fl).toInt64 / 100)).toInt = _
      rw [hsk, hx, eM, if_neg (by omega), Nat.add_sub_cancel]
    · show (vp_updL (tSmoke S.2) (smokeSec (pN P) fl k).toNatClampNeg (tSmoke S.2 (smokeSec (pN P) fl k).toNatClampNeg - tSmoke S.2 (smokeSec (pN P) fl k).toNatClampNeg * (pVent P (smokeSec (pN P) fl k).toNatClampNeg).toInt64 / 100 - (tSmoke S.2 (smokeSec (pN P) fl k).toNatClampNeg - tSmoke S.2 (smokeSec (pN P) fl k).toNatClampNeg * (pVent P (smokeSec (pN P) fl k).toNatClampNeg).toInt64 / 100) * (absI fl).toInt64 / 100 + S.1) (sec j)).toInt = _
      rw [hsk, hx]
      by_cases e : j = k
      · subst e
        show (if sec j = sec j then _ else _ : Int64).toInt = _
        rw [if_pos rfl, eN]
      · have hne : ¬ sec j = sec k := fun h => e (hinj j k (by omega) (by omega) h)
        show (if sec j = sec k then _ else _ : Int64).toInt = _
        rw [if_neg hne]
        exact h2 j (by omega)
    · have hne : ¬ sec j = sec k := fun h => by have := hinj j k (by omega) (by omega) h; omega
      show (if sec j = (smokeSec (pN P) fl k).toNatClampNeg then _ else tSmoke S.2 (sec j) : Int64) = _
      rw [hsk, if_neg hne]
      exact h3 j (by omega) hj2
    · show (tRem S.2 + tSmoke S.2 (smokeSec (pN P) fl k).toNatClampNeg * (pVent P (smokeSec (pN P) fl k).toNatClampNeg).toInt64 / 100).toInt = _
      rw [hsk, hx, i64_add (by rw [h4, eV]; omega) (by rw [h4, eV]; omega), h4, eV, sumZ]
      omega
    · exact h5
theorem sum_inc {m : Nat → Int} {n : Nat} {fwd : Bool} : sumZ (incZ m n fwd) n + outZ m n fwd = sumZ m n := by
  cases fwd
  · have h : ∀ k, k + 1 ≤ n → sumZ (incZ m n false) (k + 1) + m 0 = sumZ m (k + 1) + (if k + 1 < n then m (k + 1) else 0) := fun k => by
      induction k with
      | zero =>
        intro hk
        rw [sumZ, sumZ, sumZ, sumZ, incF]
        omega
      | succ k ih =>
        intro hk
        have h1 := ih (by omega)
        rw [if_pos (by omega)] at h1
        show sumZ (incZ m n false) (k + 1) + incZ m n false (k + 1) + m 0 = sumZ m (k + 1) + m (k + 1) + _
        rw [incF]
        omega
    cases n with
    | zero => rfl
    | succ n =>
      have h1 := h n (Nat.le_refl _)
      rw [if_neg (by omega)] at h1
      rw [outF (by omega)]
      omega
  · have h : ∀ k, sumZ (incZ m n true) k + (if k = 0 then 0 else m (k - 1)) = sumZ m k := fun k => by
      induction k with
      | zero => rfl
      | succ k ih =>
        rw [if_neg (by omega), Nat.add_sub_cancel, sumZ, sumZ, incZ, if_pos rfl]
        omega
    have h1 := h n
    rw [outZ]
    by_cases e : n = 0
    · rw [if_pos e] at h1 ⊢; exact h1
    · rw [if_neg e] at h1 ⊢; rw [if_pos rfl]; exact h1
/-- a tunnel's smoke on both sides -/
def SM (P : PD) (T : TD) (d : Nat → Int32) : Prop :=
  (∀ s, s < pN P → (tSmoke T s).toInt = (d (12 + 7 * s)).toInt ∧ 0 ≤ (d (12 + 7 * s)).toInt) ∧
  ((tLeft T).toInt = (d 9).toInt ∧ 0 ≤ (d 9).toInt) ∧ ((tRem T).toInt = (d 10).toInt ∧ 0 ≤ (d 10).toInt) ∧
  sumZ (fun s => (d (12 + 7 * s)).toInt) (pN P) + (d 9).toInt + (d 10).toInt = (d 8).toInt
/-- the plan's share: vents, draft -/
def VM (P : PD) (d : Nat → Int32) : Prop := pN P ≤ 12 ∧ d 0 = nI (pN P) ∧ ∀ s, s < pN P → d (12 + 7 * s + 3) = pVent P s ∧ 0 ≤ (pVent P s).toInt ∧ (pVent P s).toInt ≤ 100
theorem cl_eq (x : Int32) : clampF x = clR x ∧ -100 ≤ (clR x).toInt ∧ (clR x).toInt ≤ 100 := by
  unfold clampF clR
  by_cases h1 : 100 < x
  · have h2 : ¬ x < 100 := fun h => absurd (Int32.lt_trans h1 h) (Int32.lt_irrefl)
    rw [if_neg h2, if_pos h1, if_pos (by decide)]
    exact ⟨rfl, by decide, by decide⟩
  · rw [if_neg h1]
    have hle : x.toInt ≤ 100 := Int32.le_iff_toInt_le.mp (Int32.not_lt.mp h1)
    by_cases h3 : x < -100
    · rw [if_pos h3]
      have h4 : x.toInt < -100 := Int32.lt_iff_toInt_lt.mp h3
      have h5 : x < 100 := Int32.lt_iff_toInt_lt.mpr (by show x.toInt < 100; omega)
      rw [if_pos h5, if_neg (fun h => absurd (Int32.lt_trans h h3) (Int32.lt_irrefl))]
      exact ⟨rfl, by decide, by decide⟩
    · rw [if_neg h3]
      have h4 : -100 ≤ x.toInt := Int32.le_iff_toInt_le.mp (Int32.not_lt.mp h3)
      have hx : (if x < 100 then x else 100) = x := by
        by_cases h5 : x < 100
        · rw [if_pos h5]
        · rw [if_neg h5]
          have h6 : (100 : Int) ≤ x.toInt := Int32.le_iff_toInt_le.mp (Int32.not_lt.mp h5)
          exact Int32.toInt_inj.mp (by show (100 : Int) = x.toInt; omega)
      rw [hx]
      refine ⟨?_, h4, hle⟩
      by_cases h7 : -100 < x
      · rw [if_pos h7]
      · rw [if_neg h7]
        have h8 : x.toInt ≤ -100 := Int32.le_iff_toInt_le.mp (Int32.not_lt.mp h7)
        exact Int32.toInt_inj.mp (by show (-100 : Int) = x.toInt; omega)
theorem abs_part {fl : Int32} (h1 : -100 ≤ fl.toInt) (h2 : fl.toInt ≤ 100) : absI fl = (if fl < 0 then -fl else fl) ∧ 0 ≤ (absI fl).toInt ∧ (absI fl).toInt ≤ 100 ∧ (fl.toInt = 0 → (absI fl).toInt = 0) := by
  have hneg : (-fl).toInt = -fl.toInt := by rw [Int32.toInt_neg]; exact bm32 (by omega) (by omega)
  have e0 : (0 : Int32) - fl = -fl := Int32.zero_sub fl
  by_cases h : fl < 0
  · have h3 : fl.toInt < 0 := Int32.lt_iff_toInt_lt.mp h
    rw [absI, if_neg (Int32.not_le.mpr h), if_pos h, e0, hneg]
    exact ⟨rfl, by omega, by omega, by omega⟩
  · have h3 : 0 ≤ fl.toInt := Int32.le_iff_toInt_le.mp (Int32.not_lt.mp h)
    rw [absI, if_pos (Int32.not_lt.mp h), if_neg h]
    exact ⟨rfl, by omega, by omega, fun h => h⟩
theorem flow_eq {P : PD} {T : TD} {d : Nat → Int32} (h5 : d 5 = pDraft P) (hf : ∀ s, s < pN P → d (12 + 7 * s + 2) = tFan T s) : flowF T P = flowR d (pN P) := by
  have h : ∀ k, k ≤ pN P → flowSum (pDraft P) (tFan T) k = flowRS d k := fun k => by
    induction k with
    | zero => intro _; exact h5.symm
    | succ k ih => intro hk; rw [flowSum, flowRS, ih (by omega), hf k (by omega)]
  rw [flowF, flowR, h _ (Nat.le_refl _)]
  exact (cl_eq _).1
theorem inc_0 {m : Nat → Int} (hm : ∀ s, m s = 0) {n s : Nat} {b : Bool} : incZ m n b s = 0 := by
  unfold incZ
  split
  · split
    · rfl
    · exact hm _
  · split
    · exact hm _
    · rfl
theorem out_0 {m : Nat → Int} (hm : ∀ s, m s = 0) {n : Nat} {b : Bool} : outZ m n b = 0 := by
  unfold outZ
  split
  · rfl
  · split
    · exact hm _
    · exact hm _
theorem mZ_0 {σ v : Nat → Int} (s : Nat) : mZ σ v 0 s = 0 := by unfold mZ; rw [Int.mul_zero]; rfl
/-- the air carries the smoke on both sides alike -/
theorem smoke_rel {P : PD} {T : TD} {d re : Nat → Int32} {fl : Int32} (hV : VM P d) (hS : SM P T d) (hfl : fl = flowR d (pN P)) (hB : (d 8).toInt ≤ 150000000) :
    (∀ s, s < pN P → (tSmoke (moveSmokeF P fl T) s).toInt = (smD (pN P) re d (12 + 7 * s)).toInt ∧ 0 ≤ (smD (pN P) re d (12 + 7 * s)).toInt) ∧
    ((tLeft (moveSmokeF P fl T)).toInt = (smD (pN P) re d 9).toInt ∧ 0 ≤ (smD (pN P) re d 9).toInt) ∧ ((tRem (moveSmokeF P fl T)).toInt = (smD (pN P) re d 10).toInt ∧ 0 ≤ (smD (pN P) re d 10).toInt) ∧
    sumZ (fun s => (smD (pN P) re d (12 + 7 * s)).toInt) (pN P) + (smD (pN P) re d 9).toInt + (smD (pN P) re d 10).toInt = (d 8).toInt ∧
    (∀ j, j ≠ 9 → j ≠ 10 → (∀ i, i < pN P → j ≠ 12 + 7 * i) → smD (pN P) re d j = d j) := by
  obtain ⟨hn, h0, hv0⟩ := hV
  obtain ⟨hs, hl, hr, hsum⟩ := hS
  generalize hσd : (fun s => (d (12 + 7 * s)).toInt) = σ at hsum
  have eσ : ∀ s, (d (12 + 7 * s)).toInt = σ s := fun s => by rw [← hσd]
  generalize hvd : (fun s => (pVent P s).toInt) = v
  have ev : ∀ s, (pVent P s).toInt = v s := fun s => by rw [← hvd]
  have hσ0 : ∀ s, s < pN P → 0 ≤ σ s := fun s h => by rw [← eσ]; exact (hs s h).2
  have hσs : ∀ s, s < pN P → σ s ≤ 150000000 := fun s h => by have := (sumZ_le (pN P) hσ0 s h).2; omega
  have hσn : 0 ≤ sumZ σ (pN P) := sumZ_nn _ hσ0
  have hvv : ∀ s, s < pN P → 0 ≤ v s ∧ v s ≤ 100 := fun s h => by rw [← ev]; exact (hv0 s h).2
  have hfb := (cl_eq (flowRS d (pN P))).2
  have hfb2 : -100 ≤ fl.toInt ∧ fl.toInt ≤ 100 := by rw [hfl]; exact hfb
  have hab := abs_part hfb2.1 hfb2.2
  have hpa : partR d (pN P) = absI fl := by rw [partR, ← hfl, hab.1]
  generalize hfd : (absI fl).toInt = f at hab
  have hA := smA_Z (re := re) (d := d) (n := pN P) (σ := σ) (v := v) (fun s h => ⟨eσ s, hσ0 s h, by have := hσs s h; omega⟩) (fun s h => ⟨by rw [(hv0 s h).1, ev], hvv s h⟩) hn ⟨hr.2, by omega⟩ (pN P) (Nat.le_refl _)
  have eE : foldN smA (re, d) (pN P) = smE (pN P) re d := rfl
  rw [eE] at hA
  obtain ⟨a1, a2, a3, a4⟩ := hA
  have a9 : (smE (pN P) re d).2 9 = d 9 := a3 9 (by decide) (fun i _ => by omega)
  have hσB : ∀ s, s < pN P → 0 ≤ σ s ∧ σ s ≤ 200000000 := fun s h => ⟨hσ0 s h, by have := hσs s h; omega⟩
  have hpaf : (partR d (pN P)).toInt = f ∧ 0 ≤ f ∧ f ≤ 100 := ⟨by rw [hpa]; exact hfd, hab.2.1, hab.2.2.1⟩
  -- the reference's closed form
  have ref : ∃ b : Bool, (b = true ∧ ¬ fl < 0 ∨ b = false ∧ fl < 0) ∧ (∀ s, s < pN P → (smD (pN P) re d (12 + 7 * s)).toInt = rZ σ v s - mZ σ v f s + incZ (mZ σ v f) (pN P) b s) ∧ (smD (pN P) re d 9).toInt = (d 9).toInt + outZ (mZ σ v f) (pN P) b ∧ (∀ j, j ≠ 9 → (∀ i, i < pN P → j ≠ 12 + 7 * i) → smD (pN P) re d j = (smE (pN P) re d).2 j) := by
    by_cases hneg : fl < 0
    · have est : stepR d (pN P) = -1 := by rw [stepR, ← hfl, if_pos hneg]
      have hB2 := smB_B (n := pN P) hn (pa := partR d (pN P)) (re := (smE (pN P) re d).1) (d := (smE (pN P) re d).2) (σ := σ) (v := v) (f := f) hpaf hσB hvv a1 a2 (by rw [a9]; omega) (pN P) (Nat.le_refl _)
      have eD : foldN (smB (pN P) (partR d (pN P)) (-1) (smE (pN P) re d).1) (smE (pN P) re d).2 (pN P) = smD (pN P) re d := by rw [smD, est]
      rw [eD, a9] at hB2
      exact ⟨false, Or.inr ⟨rfl, hneg⟩, fun s h => hB2.1 s h, hB2.2.2.1, hB2.2.2.2⟩
    · have est : stepR d (pN P) = 1 := by rw [stepR, ← hfl, if_neg hneg]
      have hB2 := smB_F (n := pN P) hn (pa := partR d (pN P)) (re := (smE (pN P) re d).1) (d := (smE (pN P) re d).2) (σ := σ) (v := v) (f := f) hpaf hσB hvv a1 a2 (by rw [a9]; omega) (pN P) (Nat.le_refl _)
      have eD : foldN (smB (pN P) (partR d (pN P)) 1 (smE (pN P) re d).1) (smE (pN P) re d).2 (pN P) = smD (pN P) re d := by rw [smD, est]
      rw [eD, a9, if_pos rfl] at hB2
      exact ⟨true, Or.inl ⟨rfl, hneg⟩, fun s h => hB2.1 s h, hB2.2.2.2.1, hB2.2.2.2.2⟩
  obtain ⟨b, hb, r1, r2, r3⟩ := ref
  have r10 : (smD (pN P) re d 10).toInt = (d 10).toInt + sumZ (gZ σ v) (pN P) := by rw [r3 10 (by decide) (fun i _ => by omega)]; exact a4
  -- the class's closed form
  have cls : ∃ sec : Nat → Nat, (∀ i, i < pN P → smokeSec (pN P) fl i = nI (sec i)) ∧ (∀ i, i < pN P → sec i < pN P) ∧ (∀ i j, i < pN P → j < pN P → sec i = sec j → i = j) ∧ (∀ s, s < pN P → ∃ i, i < pN P ∧ sec i = s ∧ (if i = 0 then 0 else mZ σ v f (sec (i - 1))) = incZ (mZ σ v f) (pN P) b s) ∧ (if pN P = 0 then 0 else mZ σ v f (sec (pN P - 1))) = outZ (mZ σ v f) (pN P) b ∧ sumZ (fun i => gZ σ v (sec i)) (pN P) = sumZ (gZ σ v) (pN P) := by
    by_cases hpos : fl ≤ 0
    · refine ⟨fun i => pN P - 1 - i, fun i hi => by rw [smokeSec, if_pos hpos, inn_sub hi], fun i hi => by show pN P - 1 - i < pN P; omega, fun i j hi hj e => by have e2 : pN P - 1 - i = pN P - 1 - j := e; omega, fun s h => ⟨pN P - 1 - s, by omega, by show pN P - 1 - (pN P - 1 - s) = s; omega, ?_⟩, ?_, sumZ_rev _⟩
      · rcases hb with ⟨hb, hz⟩ | ⟨hb, hz⟩
        · have ez : fl.toInt = 0 := by
            have h1 : fl.toInt ≤ 0 := Int32.le_iff_toInt_le.mp hpos
            have h2 : 0 ≤ fl.toInt := Int32.le_iff_toInt_le.mp (Int32.not_lt.mp hz)
            omega
          have f0 : f = 0 := hab.2.2.2 ez
          rw [f0, inc_0 (fun s => mZ_0 s)]
          split
          · rfl
          · exact mZ_0 _
        · rw [hb, incF]
          by_cases e : s + 1 < pN P
          · rw [if_neg (by omega), if_pos e]
            show mZ σ v f (pN P - 1 - (pN P - 1 - s - 1)) = _
            rw [show pN P - 1 - (pN P - 1 - s - 1) = s + 1 by omega]
          · rw [if_pos (by omega), if_neg e]
      · rcases hb with ⟨hb, hz⟩ | ⟨hb, hz⟩
        · have ez : fl.toInt = 0 := by
            have h1 : fl.toInt ≤ 0 := Int32.le_iff_toInt_le.mp hpos
            have h2 : 0 ≤ fl.toInt := Int32.le_iff_toInt_le.mp (Int32.not_lt.mp hz)
            omega
          have f0 : f = 0 := hab.2.2.2 ez
          rw [f0, out_0 (fun s => mZ_0 s)]
          split
          · rfl
          · exact mZ_0 _
        · rw [hb]
          by_cases e : pN P = 0
          · rw [if_pos e, outZ, if_pos e]
          · rw [if_neg e, outF e]
            show mZ σ v f (pN P - 1 - (pN P - 1)) = _
            rw [Nat.sub_self]
    · have hb1 : b = true := by
        rcases hb with ⟨hb, _⟩ | ⟨_, hz⟩
        · exact hb
        · exact absurd (Int32.le_of_lt hz) hpos
      refine ⟨fun i => i, fun i hi => by rw [smokeSec, if_neg hpos], fun i hi => hi, fun i j _ _ e => e, fun s h => ⟨s, h, rfl, ?_⟩, ?_, rfl⟩
      · rw [hb1, incZ, if_pos rfl]
      · rw [hb1, outZ]
        by_cases e : pN P = 0
        · rw [if_pos e, if_pos e]
        · rw [if_neg e, if_neg e, if_pos rfl]
  obtain ⟨sec, c1, c2, c3, c4, c5, c6⟩ := cls
  have hC := smC_Z (P := P) (T := T) (fl := fl) hn c1 c2 c3 (σ := σ) (v := v) (f := f) (fun s h => ⟨by rw [(hs s h).1, eσ], hσB s h⟩) (fun s h => ⟨ev s, hvv s h⟩) ⟨hfd, hab.2.1, hab.2.2.1⟩ (by rw [hr.1]; omega) (pN P) (Nat.le_refl _)
  have eR : foldN (smokeStep P fl) (0, T) (pN P) = smokeRun P fl T := rfl
  rw [eR, c5, c6] at hC
  obtain ⟨k1, k2, _, k4, k5⟩ := hC
  have hmb : ∀ s, s < pN P → 0 ≤ mZ σ v f s ∧ mZ σ v f s ≤ rZ σ v s ∧ 0 ≤ rZ σ v s ∧ rZ σ v s ≤ σ s := fun s h => mZ_b (hσ0 s h) (hvv s h) ⟨hab.2.1, hab.2.2.1⟩
  have hinc : ∀ s, s < pN P → 0 ≤ incZ (mZ σ v f) (pN P) b s := fun s h => by
    unfold incZ
    split
    · split
      · omega
      · exact (hmb _ (by omega)).1
    · split
      · rename_i h9; exact (hmb _ h9).1
      · omega
  have hout : 0 ≤ outZ (mZ σ v f) (pN P) b ∧ outZ (mZ σ v f) (pN P) b ≤ 150000000 := by
    unfold outZ
    split
    · omega
    · split
      · have := hmb (pN P - 1) (by omega); have := hσs (pN P - 1) (by omega); omega
      · have := hmb 0 (by omega); have := hσs 0 (by omega); omega
  have hgn : 0 ≤ sumZ (gZ σ v) (pN P) := sumZ_nn _ (fun s h => (gZ_b (hσ0 s h) (hvv s h)).1)
  refine ⟨fun s h => ?_, ?_, ?_, ?_, fun j h9 h10 hj => ?_⟩
  · obtain ⟨i, hi, ei, em⟩ := c4 s h
    have h8 := k2 i hi
    rw [em, ei] at h8
    refine ⟨?_, ?_⟩
    · rw [r1 s h]; exact h8
    · rw [r1 s h]; have := hmb s h; have := hinc s h; omega
  · have e1 : (tLeft (moveSmokeF P fl T)) = tLeft (smokeRun P fl T).2 + (smokeRun P fl T).1 := rfl
    have e2 : tLeft (smokeRun P fl T).2 = tLeft T := by
      have := k5
      unfold otT at this
      simp only [Prod.mk.injEq] at this
      exact this.2.2.2.1
    have e3 : (smD (pN P) re d 9).toInt = (d 9).toInt + outZ (mZ σ v f) (pN P) b := r2
    rw [e1, e2, e3, i64_add (by rw [hl.1, k1]; omega) (by rw [hl.1, k1]; omega), hl.1, k1]
    exact ⟨rfl, by omega⟩
  · have e1 : tRem (moveSmokeF P fl T) = tRem (smokeRun P fl T).2 := rfl
    rw [e1, k4, r10, hr.1]
    exact ⟨rfl, by omega⟩
  · rw [sumZ_ext (pN P) (fun s h => r1 s h), r2, r10]
    have s1 : sumZ (fun s => rZ σ v s - mZ σ v f s + incZ (mZ σ v f) (pN P) b s) (pN P) + sumZ (mZ σ v f) (pN P) = sumZ (rZ σ v) (pN P) + sumZ (incZ (mZ σ v f) (pN P) b) (pN P) := by
      rw [← sumZ_add, ← sumZ_add]
      exact sumZ_ext _ (fun s _ => by show rZ σ v s - mZ σ v f s + incZ (mZ σ v f) (pN P) b s + mZ σ v f s = rZ σ v s + incZ (mZ σ v f) (pN P) b s; omega)
    have s2 : sumZ (rZ σ v) (pN P) + sumZ (gZ σ v) (pN P) = sumZ σ (pN P) := by
      rw [← sumZ_add]
      exact sumZ_ext _ (fun s _ => by show rZ σ v s + gZ σ v s = σ s; unfold rZ; omega)
    have s3 := sum_inc (m := mZ σ v f) (n := pN P) (fwd := b)
    omega
  · rw [r3 j h9 hj]
    exact a3 j h10 hj
