theorem bm32 {x : Int} (h1 : -2147483648 ≤ x) (h2 : x < 2147483648) : x.bmod (2 ^ 32) = x := Int.bmod_eq_of_le (by omega) (by omega)
theorem bm64 {x : Int} (h1 : -9223372036854775808 ≤ x) (h2 : x < 9223372036854775808) : x.bmod (2 ^ 64) = x := Int.bmod_eq_of_le (by omega) (by omega)
theorem i32_lo (x : Int32) : -2147483648 ≤ x.toInt := Int32.le_toInt x
theorem i32_hi (x : Int32) : x.toInt < 2147483648 := Int32.toInt_lt x
theorem i32_add {x y : Int32} (h1 : -2147483648 ≤ x.toInt + y.toInt) (h2 : x.toInt + y.toInt < 2147483648) : (x + y).toInt = x.toInt + y.toInt := by rw [Int32.toInt_add]; exact bm32 h1 h2
theorem i32_sub {x y : Int32} (h1 : -2147483648 ≤ x.toInt - y.toInt) (h2 : x.toInt - y.toInt < 2147483648) : (x - y).toInt = x.toInt - y.toInt := by rw [Int32.toInt_sub]; exact bm32 h1 h2
theorem i64_add {x y : Int64} (h1 : -9223372036854775808 ≤ x.toInt + y.toInt) (h2 : x.toInt + y.toInt < 9223372036854775808) : (x + y).toInt = x.toInt + y.toInt := by rw [Int64.toInt_add]; exact bm64 h1 h2
theorem i64_sub {x y : Int64} (h1 : -9223372036854775808 ≤ x.toInt - y.toInt) (h2 : x.toInt - y.toInt < 9223372036854775808) : (x - y).toInt = x.toInt - y.toInt := by rw [Int64.toInt_sub]; exact bm64 h1 h2
theorem i64_mul {x y : Int64} (h1 : -9223372036854775808 ≤ x.toInt * y.toInt) (h2 : x.toInt * y.toInt < 9223372036854775808) : (x * y).toInt = x.toInt * y.toInt := by rw [Int64.toInt_mul]; exact bm64 h1 h2
theorem i64_of {x : Int32} : x.toInt64.toInt = x.toInt := Int32.toInt_toInt64 x
theorem i32_of {x : Int64} (h1 : -2147483648 ≤ x.toInt) (h2 : x.toInt < 2147483648) : x.toInt32.toInt = x.toInt := by rw [Int64.toInt_toInt32]; exact bm32 h1 h2
/-- a share in percent -/
theorem pct {a b : Int64} (ha : 0 ≤ a.toInt) (ha2 : a.toInt ≤ 2000000000) (hb : 0 ≤ b.toInt) (hb2 : b.toInt ≤ 100) : (a * b / 100).toInt = a.toInt * b.toInt / 100 ∧ 0 ≤ a.toInt * b.toInt / 100 ∧ a.toInt * b.toInt / 100 ≤ a.toInt := by
  have h1 : 0 ≤ a.toInt * b.toInt := Int.mul_nonneg ha hb
  have h2 : a.toInt * b.toInt ≤ a.toInt * 100 := Int.mul_le_mul_of_nonneg_left hb2 ha
  have h3 : (a * b).toInt = a.toInt * b.toInt := i64_mul (by omega) (by omega)
  refine ⟨?_, by omega, by omega⟩
  rw [Int64.toInt_div, h3, show (100 : Int64).toInt = 100 from by decide, Int.tdiv_eq_ediv_of_nonneg h1]
  exact bm64 (by omega) (by omega)
def sumZ (f : Nat → Int) : Nat → Int
  | 0 => 0
  | k + 1 => sumZ f k + f k
theorem sumZ_ext {f g : Nat → Int} : ∀ n, (∀ s, s < n → f s = g s) → sumZ f n = sumZ g n
  | 0, _ => rfl
  | n + 1, h => by rw [sumZ, sumZ, sumZ_ext n (fun s hs => h s (by omega)), h n (by omega)]
theorem sumZ_le {f : Nat → Int} : ∀ n, (∀ s, s < n → 0 ≤ f s) → ∀ k, k < n → 0 ≤ sumZ f n ∧ f k ≤ sumZ f n
  | 0, _, k, hk => absurd hk (Nat.not_lt_zero k)
  | n + 1, h, k, hk => by
    have hn := h n (by omega)
    have h0 : 0 ≤ sumZ f n := by
      cases n with
      | zero => exact Int.le_refl _
      | succ m => exact (sumZ_le (m + 1) (fun s hs => h s (by omega)) m (by omega)).1
    rw [sumZ]
    refine ⟨by omega, ?_⟩
    by_cases e : k = n
    · subst e; omega
    · have := (sumZ_le n (fun s hs => h s (by omega)) k (by omega)).2
      omega
theorem sumZ_nn {f : Nat → Int} : ∀ n, (∀ s, s < n → 0 ≤ f s) → 0 ≤ sumZ f n
  | 0, _ => Int.le_refl _
  | n + 1, h => by
    have := sumZ_nn n (fun s hs => h s (by omega))
    have := h n (by omega)
    rw [sumZ]; omega
theorem sumZ_mono {f g : Nat → Int} : ∀ n, (∀ s, s < n → f s ≤ g s) → sumZ f n ≤ sumZ g n
  | 0, _ => Int.le_refl _
  | n + 1, h => by
    have := sumZ_mono n (fun s hs => h s (by omega))
    have := h n (by omega)
    rw [sumZ, sumZ]; omega
theorem sumZ_add {f g : Nat → Int} : ∀ n, sumZ (fun s => f s + g s) n = sumZ f n + sumZ g n
  | 0 => rfl
  | n + 1 => by
    have := sumZ_add (f := f) (g := g) n
    simp only [sumZ]; omega
theorem sumZ_sh {f : Nat → Int} : ∀ n, sumZ (fun s => f (s + 1)) n + f 0 = sumZ f n + f n
  | 0 => by simp only [sumZ]
  | n + 1 => by
    have := sumZ_sh (f := f) n
    simp only [sumZ] at this ⊢; omega
theorem sumZ_rev {f : Nat → Int} : ∀ n, sumZ (fun s => f (n - 1 - s)) n = sumZ f n
  | 0 => rfl
  | n + 1 => by
    have ih := sumZ_rev (f := f) n
    have h1 := sumZ_sh (f := fun s => f (n - s)) n
    have h2 : sumZ (fun s => (fun s => f (n - s)) (s + 1)) n = sumZ (fun s => f (n - 1 - s)) n := sumZ_ext n (fun s _ => by show f (n - (s + 1)) = f (n - 1 - s); rw [show n - (s + 1) = n - 1 - s by omega])
    rw [h2, ih] at h1
    have h3 : sumZ (fun s => f (n + 1 - 1 - s)) (n + 1) = sumZ (fun s => f (n - s)) n + f (n - n) := rfl
    rw [h3, sumZ]
    have h1' : sumZ f n + f (n - 0) = sumZ (fun s => f (n - s)) n + f (n - n) := h1
    rw [Nat.sub_zero] at h1'
    exact h1'.symm
/-- what the vent takes, what is left, what moves on: in whole numbers -/
def gZ (σ v : Nat → Int) (s : Nat) : Int := σ s * v s / 100
def rZ (σ v : Nat → Int) (s : Nat) : Int := σ s - gZ σ v s
def mZ (σ v : Nat → Int) (f : Int) (s : Nat) : Int := rZ σ v s * f / 100
theorem gZ_b {σ v : Nat → Int} {s : Nat} (h0 : 0 ≤ σ s) (hv : 0 ≤ v s ∧ v s ≤ 100) : 0 ≤ gZ σ v s ∧ gZ σ v s ≤ σ s := by
  have h1 : 0 ≤ σ s * v s := Int.mul_nonneg h0 hv.1
  have h2 : σ s * v s ≤ σ s * 100 := Int.mul_le_mul_of_nonneg_left hv.2 h0
  unfold gZ
  omega
theorem mZ_b {σ v : Nat → Int} {f : Int} {s : Nat} (h0 : 0 ≤ σ s) (hv : 0 ≤ v s ∧ v s ≤ 100) (hf : 0 ≤ f ∧ f ≤ 100) : 0 ≤ mZ σ v f s ∧ mZ σ v f s ≤ rZ σ v s ∧ 0 ≤ rZ σ v s ∧ rZ σ v s ≤ σ s := by
  have hg := gZ_b h0 hv
  have hr : 0 ≤ rZ σ v s := by unfold rZ; omega
  have h1 : 0 ≤ rZ σ v s * f := Int.mul_nonneg hr hf.1
  have h2 : rZ σ v s * f ≤ rZ σ v s * 100 := Int.mul_le_mul_of_nonneg_left hf.2 hr
  refine ⟨by unfold mZ; omega, by unfold mZ; omega, hr, by unfold rZ; omega⟩
/-- the first pass -/
theorem smA_Z {re d : Nat → Int32} {n : Nat} {σ v : Nat → Int} (hσ : ∀ s, s < n → (d (12 + 7 * s)).toInt = σ s ∧ 0 ≤ σ s ∧ σ s ≤ 200000000) (hv : ∀ s, s < n → (d (12 + 7 * s + 3)).toInt = v s ∧ 0 ≤ v s ∧ v s ≤ 100) (hn : n ≤ 12) (hrem : 0 ≤ (d 10).toInt ∧ (d 10).toInt + sumZ σ n ≤ 2000000000) :
    ∀ k, k ≤ n → (∀ j, j < k → ((foldN smA (re, d) k).1 j).toInt = rZ σ v j) ∧ (∀ j, j < k → (foldN smA (re, d) k).2 (12 + 7 * j) = 0) ∧ (∀ j, j ≠ 10 → (∀ i, i < k → j ≠ 12 + 7 * i) → (foldN smA (re, d) k).2 j = d j) ∧ ((foldN smA (re, d) k).2 10).toInt = (d 10).toInt + sumZ (gZ σ v) k
  | 0, _ => ⟨fun j hj => absurd hj (Nat.not_lt_zero j), fun j hj => absurd hj (Nat.not_lt_zero j), fun _ _ _ => rfl, by rw [sumZ]; exact (Int.add_zero _).symm⟩
  | k + 1, hk => by
    obtain ⟨h1, h2, h3, h4⟩ := smA_Z hσ hv hn hrem (re := re) k (by omega)
    have hs := hσ k (by omega)
    have hvk := hv k (by omega)
    rw [foldN_s]
    generalize foldN smA (re, d) k = S at h1 h2 h3 h4 ⊢
    have e1 : S.2 (12 + 7 * k) = d (12 + 7 * k) := h3 _ (by omega) (fun i hi => by omega)
    have e2 : S.2 (12 + 7 * k + 3) = d (12 + 7 * k + 3) := h3 _ (by omega) (fun i hi => by omega)
    have hp := pct (a := (d (12 + 7 * k)).toInt64) (b := (d (12 + 7 * k + 3)).toInt64) (by rw [i64_of]; omega) (by rw [i64_of]; omega) (by rw [i64_of]; omega) (by rw [i64_of]; omega)
    have hG : (smG S.2 k).toInt = gZ σ v k := by
      rw [smG, e1, e2, i32_of (by rw [hp.1]; omega) (by rw [hp.1]; rw [i64_of, i64_of] at hp ⊢; omega), hp.1, i64_of, i64_of, hs.1, hvk.1]; rfl
    have hg := gZ_b (σ := σ) (v := v) (s := k) hs.2.1 hvk.2
    have hsum : sumZ (gZ σ v) k ≤ sumZ σ k := sumZ_mono k (fun s hs2 => (gZ_b (hσ s (by omega)).2.1 (hv s (by omega)).2).2)
    have hsn : 0 ≤ sumZ (gZ σ v) k := sumZ_nn k (fun s hs2 => (gZ_b (hσ s (by omega)).2.1 (hv s (by omega)).2).1)
    have hsk : sumZ σ (k + 1) ≤ sumZ σ n := by
      have hm : ∀ m, k + 1 + m ≤ n → sumZ σ (k + 1) ≤ sumZ σ (k + 1 + m) := fun m => by
        induction m with
        | zero => intro _; exact Int.le_refl _
        | succ m ih =>
          intro hle
          have := ih (by omega)
          have := (hσ (k + 1 + m) (by omega)).2.1
          show _ ≤ sumZ σ (k + 1 + m) + σ (k + 1 + m)
          omega
      have := hm (n - (k + 1)) (by omega)
      rw [show k + 1 + (n - (k + 1)) = n by omega] at this
      exact this
    rw [sumZ] at hsk
    refine ⟨fun j hj => ?_, fun j hj => ?_, fun j hj hji => ?_, ?_⟩
    · show (upd S.1 k (S.2 (12 + 7 * k) - smG S.2 k) j).toInt = _
      rw [upd_at]
      by_cases e : j = k
      · rw [if_pos e, e1, e, i32_sub (by rw [hs.1, hG]; omega) (by rw [hs.1, hG]; omega), hs.1, hG]; rfl
      · rw [if_neg e]; exact h1 j (by omega)
    · show upd (upd S.2 10 _) (12 + 7 * k) 0 (12 + 7 * j) = 0
      rw [upd_at]
      by_cases e : j = k
      · rw [if_pos (by omega)]
      · rw [if_neg (by omega), upd_at, if_neg (by omega)]; exact h2 j (by omega)
    · show upd (upd S.2 10 _) (12 + 7 * k) 0 j = d j
      rw [upd_at, if_neg (hji k (by omega)), upd_at, if_neg hj]
      exact h3 j hj (fun i hi => hji i (by omega))
    · show (upd (upd S.2 10 (S.2 10 + smG S.2 k)) (12 + 7 * k) 0 10).toInt = _
      rw [upd_at, if_neg (by omega), upd_at, if_pos rfl, i32_add (by rw [h4, hG]; omega) (by rw [h4, hG]; omega), h4, hG, sumZ]
      omega
theorem mv_Z {pa : Int32} {re : Nat → Int32} {s : Nat} {σ v : Nat → Int} {f : Int} (hf : pa.toInt = f ∧ 0 ≤ f ∧ f ≤ 100) (h0 : 0 ≤ σ s ∧ σ s ≤ 200000000) (hv : 0 ≤ v s ∧ v s ≤ 100) (hr : (re s).toInt = rZ σ v s) : (mvR pa re s).toInt = mZ σ v f s := by
  have hb := mZ_b (σ := σ) (v := v) (f := f) (s := s) h0.1 hv hf.2
  have hp := pct (a := (re s).toInt64) (b := pa.toInt64) (by rw [i64_of, hr]; exact hb.2.2.1) (by rw [i64_of, hr]; omega) (by rw [i64_of]; omega) (by rw [i64_of]; omega)
  rw [i64_of, i64_of, hr, hf.1] at hp
  have e : (mvR pa re s).toInt = rZ σ v s * f / 100 := by
    rw [mvR, i32_of (by rw [hp.1]; omega) (by rw [hp.1]; omega), hp.1]
  exact e
/-- what comes in, by the way of the air -/
def incZ (m : Nat → Int) (n : Nat) (fwd : Bool) (s : Nat) : Int := if fwd = true then (if s = 0 then 0 else m (s - 1)) else (if s + 1 < n then m (s + 1) else 0)
def outZ (m : Nat → Int) (n : Nat) (fwd : Bool) : Int := if n = 0 then 0 else if fwd = true then m (n - 1) else m 0
theorem incF {m : Nat → Int} {n s : Nat} : incZ m n false s = if s + 1 < n then m (s + 1) else 0 := by rw [incZ, if_neg (by decide)]
theorem outF {m : Nat → Int} {n : Nat} (h : n ≠ 0) : outZ m n false = m 0 := by rw [outZ, if_neg h, if_neg (by decide)]
/-- the second pass, with the sections' order -/
theorem smB_F {n : Nat} (hn : n ≤ 12) {pa : Int32} {re d : Nat → Int32} {σ v : Nat → Int} {f : Int} (hf : pa.toInt = f ∧ 0 ≤ f ∧ f ≤ 100) (hσ : ∀ s, s < n → 0 ≤ σ s ∧ σ s ≤ 200000000) (hv : ∀ s, s < n → 0 ≤ v s ∧ v s ≤ 100) (hr : ∀ s, s < n → (re s).toInt = rZ σ v s) (hz : ∀ s, s < n → d (12 + 7 * s) = 0) (hl : 0 ≤ (d 9).toInt ∧ (d 9).toInt ≤ 1500000000) :
    ∀ k, k ≤ n → (∀ j, j < k → (foldN (smB n pa 1 re) d k (12 + 7 * j)).toInt = rZ σ v j - mZ σ v f j + incZ (mZ σ v f) n true j) ∧ (k < n → (foldN (smB n pa 1 re) d k (12 + 7 * k)).toInt = incZ (mZ σ v f) n true k) ∧ (∀ j, k < j → j < n → foldN (smB n pa 1 re) d k (12 + 7 * j) = 0) ∧ (foldN (smB n pa 1 re) d k 9).toInt = (d 9).toInt + (if k = n then outZ (mZ σ v f) n true else 0) ∧ (∀ j, j ≠ 9 → (∀ i, i < n → j ≠ 12 + 7 * i) → foldN (smB n pa 1 re) d k j = d j)
  | 0, _ => by
    refine ⟨fun j hj => absurd hj (Nat.not_lt_zero j), fun h => ?_, fun j _ hj => hz j hj, ?_, fun _ _ _ => rfl⟩
    · show (d (12 + 7 * 0)).toInt = _
      rw [hz 0 h, incZ, if_pos rfl, if_pos rfl]; rfl
    · by_cases e : (0 : Nat) = n
      · rw [if_pos e, outZ, if_pos e.symm]; exact (Int.add_zero _).symm
      · rw [if_neg e]; exact (Int.add_zero _).symm
  | k + 1, hk => by
    obtain ⟨h1, h2, h3, h4, h5⟩ := smB_F hn hf hσ hv hr hz hl (d := d) k (by omega)
    have h2 := h2 (by omega)
    have hm := mv_Z (s := k) hf (hσ k (by omega)) (hv k (by omega)) (hr k (by omega))
    have hb := mZ_b (σ := σ) (v := v) (f := f) (s := k) (hσ k (by omega)).1 (hv k (by omega)) hf.2
    have hσk := hσ k (by omega)
    rw [foldN_s]
    generalize foldN (smB n pa 1 re) d k = D at h1 h2 h3 h4 h5 ⊢
    have hkn : ¬ k = n := by omega
    rw [if_neg hkn] at h4
    have hinc : 0 ≤ incZ (mZ σ v f) n true k ∧ incZ (mZ σ v f) n true k ≤ 200000000 := by
      rw [incZ, if_pos rfl]
      by_cases e : k = 0
      · rw [if_pos e]; omega
      · rw [if_neg e]
        have := mZ_b (σ := σ) (v := v) (f := f) (s := k - 1) (hσ _ (by omega)).1 (hv _ (by omega)) hf.2
        have := (hσ (k - 1) (by omega)).2
        omega
    have hre := hr k (by omega)
    have e1 : (smB1 pa re k D (12 + 7 * k)).toInt = rZ σ v k - mZ σ v f k + incZ (mZ σ v f) n true k := by
      have a1 : (re k - mvR pa re k).toInt = rZ σ v k - mZ σ v f k := by rw [i32_sub (by rw [hre, hm]; omega) (by rw [hre, hm]; omega), hre, hm]
      rw [smB1, upd_at, if_pos rfl, i32_add (by rw [h2, a1]; omega) (by rw [h2, a1]; omega), h2, a1]
      omega
    have u1 : ∀ j, j ≠ 12 + 7 * k → smB1 pa re k D j = D j := fun j hj => by rw [smB1, upd_at, if_neg hj]
    by_cases hlast : k + 1 = n
    · have hb9 : ¬ inB (nI k + 1) 0 (nI n - 1) = true := by
        rw [inB_iff (by omega), nI_1, hlast]
        exact fun h => h (Or.inr (nI_le (Nat.le_refl _) (by omega)))
      have eD : smB n pa 1 re k D = upd (smB1 pa re k D) 9 (smB1 pa re k D 9 + mvR pa re k) := by rw [smB, if_neg hb9]
      rw [eD]
      refine ⟨fun j hj => ?_, fun h => absurd h (by omega), fun j h1 h2 => absurd h2 (by omega), ?_, fun j hj hji => ?_⟩
      · rw [upd_at, if_neg (by omega)]
        by_cases e : j = k
        · rw [e]; exact e1
        · rw [u1 _ (by omega)]; exact h1 j (by omega)
      · rw [upd_at, if_pos rfl, u1 9 (by omega), if_pos hlast, outZ, if_neg (by omega), if_pos rfl, show n - 1 = k by omega, i32_add (by rw [h4, hm]; omega) (by rw [h4, hm]; omega), h4, hm]
        omega
      · rw [upd_at, if_neg hj, u1 _ (hji k (by omega))]; exact h5 j hj hji
    · have hb9 : inB (nI k + 1) 0 (nI n - 1) = true := by
        rw [inB_iff (by omega), nI_1]
        rintro (h | h)
        · exact nI_pos (by omega) h
        · exact nI_ge (a := k + 1) (b := n) (by omega) (by omega) h
      have eD : smB n pa 1 re k D = upd (smB1 pa re k D) (12 + 7 * (k + 1)) (smB1 pa re k D (12 + 7 * (k + 1)) + mvR pa re k) := by rw [smB, if_pos hb9, nI_1, nI_clamp (by omega)]
      rw [eD]
      have hz1 : D (12 + 7 * (k + 1)) = 0 := h3 (k + 1) (by omega) (by omega)
      refine ⟨fun j hj => ?_, fun h => ?_, fun j hj1 hj2 => ?_, ?_, fun j hj hji => ?_⟩
      · rw [upd_at, if_neg (by omega)]
        by_cases e : j = k
        · rw [e]; exact e1
        · rw [u1 _ (by omega)]; exact h1 j (by omega)
      · rw [upd_at, if_pos rfl, u1 _ (by omega), hz1, Int32.zero_add, hm, incZ, if_pos rfl, if_neg (by omega), Nat.add_sub_cancel]
      · rw [upd_at, if_neg (by omega), u1 _ (by omega)]; exact h3 j (by omega) hj2
      · rw [upd_at, if_neg (by omega), u1 9 (by omega), if_neg hlast]; exact h4
      · rw [upd_at, if_neg (hji (k + 1) (by omega)), u1 _ (hji k (by omega))]; exact h5 j hj hji
theorem smB_B {n : Nat} (hn : n ≤ 12) {pa : Int32} {re d : Nat → Int32} {σ v : Nat → Int} {f : Int} (hf : pa.toInt = f ∧ 0 ≤ f ∧ f ≤ 100) (hσ : ∀ s, s < n → 0 ≤ σ s ∧ σ s ≤ 200000000) (hv : ∀ s, s < n → 0 ≤ v s ∧ v s ≤ 100) (hr : ∀ s, s < n → (re s).toInt = rZ σ v s) (hz : ∀ s, s < n → d (12 + 7 * s) = 0) (hl : 0 ≤ (d 9).toInt ∧ (d 9).toInt ≤ 1500000000) :
    ∀ k, k ≤ n → (∀ j, j < k → (foldN (smB n pa (-1) re) d k (12 + 7 * j)).toInt = rZ σ v j - mZ σ v f j + incZ (mZ σ v f) k false j) ∧ (∀ j, k ≤ j → j < n → foldN (smB n pa (-1) re) d k (12 + 7 * j) = 0) ∧ (foldN (smB n pa (-1) re) d k 9).toInt = (d 9).toInt + outZ (mZ σ v f) k false ∧ (∀ j, j ≠ 9 → (∀ i, i < n → j ≠ 12 + 7 * i) → foldN (smB n pa (-1) re) d k j = d j)
  | 0, _ => by
    refine ⟨fun j hj => absurd hj (Nat.not_lt_zero j), fun j _ hj => hz j hj, ?_, fun _ _ _ => rfl⟩
    rw [outZ, if_pos rfl]; exact (Int.add_zero _).symm
  | k + 1, hk => by
    obtain ⟨h1, h3, h4, h5⟩ := smB_B hn hf hσ hv hr hz hl (d := d) k (by omega)
    have hm := mv_Z (s := k) hf (hσ k (by omega)) (hv k (by omega)) (hr k (by omega))
    have hb := mZ_b (σ := σ) (v := v) (f := f) (s := k) (hσ k (by omega)).1 (hv k (by omega)) hf.2
    have hσk := hσ k (by omega)
    rw [foldN_s]
    generalize foldN (smB n pa (-1) re) d k = D at h1 h3 h4 h5 ⊢
    have hre := hr k (by omega)
    have hzk : D (12 + 7 * k) = 0 := h3 k (Nat.le_refl _) (by omega)
    have e1 : (smB1 pa re k D (12 + 7 * k)).toInt = rZ σ v k - mZ σ v f k := by
      rw [smB1, upd_at, if_pos rfl, hzk, Int32.zero_add, i32_sub (by rw [hre, hm]; omega) (by rw [hre, hm]; omega), hre, hm]
    have u1 : ∀ j, j ≠ 12 + 7 * k → smB1 pa re k D j = D j := fun j hj => by rw [smB1, upd_at, if_neg hj]
    by_cases h0 : k = 0
    · have hb9 : ¬ inB (nI k + (-1)) 0 (nI n - 1) = true := by
        rw [inB_iff (by omega), h0]
        exact fun h => h (Or.inl (by decide))
      have eD : smB n pa (-1) re k D = upd (smB1 pa re k D) 9 (smB1 pa re k D 9 + mvR pa re k) := by rw [smB, if_neg hb9]
      rw [eD]
      subst h0
      refine ⟨fun j hj => ?_, fun j hj1 hj2 => ?_, ?_, fun j hj hji => ?_⟩
      · have e : j = 0 := by omega
        subst e
        rw [upd_at, if_neg (by omega), e1, incZ, if_neg (by decide), if_neg (by omega)]
        omega
      · rw [upd_at, if_neg (by omega), u1 _ (by omega)]; exact h3 j (by omega) hj2
      · rw [upd_at, if_pos rfl, u1 9 (by omega), outZ, if_neg (by omega), if_neg (by decide)]
        rw [outZ, if_pos rfl] at h4
        rw [i32_add (by rw [h4, hm]; omega) (by rw [h4, hm]; omega), h4, hm]
        omega
      · rw [upd_at, if_neg hj, u1 _ (hji 0 (by omega))]; exact h5 j hj hji
    · obtain ⟨q, rfl⟩ : ∃ q, k = q + 1 := ⟨k - 1, by omega⟩
      have hb9 : inB (nI (q + 1) + (-1)) 0 (nI n - 1) = true := by
        rw [inB_iff (by omega), nI_m1]
        rintro (h | h)
        · exact nI_pos (by omega) h
        · exact nI_ge (a := q) (b := n) (by omega) (by omega) h
      have eD : smB n pa (-1) re (q + 1) D = upd (smB1 pa re (q + 1) D) (12 + 7 * q) (smB1 pa re (q + 1) D (12 + 7 * q) + mvR pa re (q + 1)) := by rw [smB, if_pos hb9, nI_m1, nI_clamp (by omega)]
      rw [eD]
      have hq := h1 q (by omega)
      rw [incZ, if_neg (by decide), if_neg (by omega)] at hq
      have hbq := mZ_b (σ := σ) (v := v) (f := f) (s := q) (hσ q (by omega)).1 (hv q (by omega)) hf.2
      have hσq := hσ q (by omega)
      refine ⟨fun j hj => ?_, fun j hj1 hj2 => ?_, ?_, fun j hj hji => ?_⟩
      · by_cases e : j = q + 1
        · subst e
          rw [upd_at, if_neg (by omega), e1, incZ, if_neg (by decide), if_neg (by omega)]
          omega
        · by_cases e2 : j = q
          · subst e2
            rw [upd_at, if_pos rfl, u1 _ (by omega), incZ, if_neg (by decide), if_pos (by omega), i32_add (by rw [hq, hm]; omega) (by rw [hq, hm]; omega), hq, hm]
            omega
          · rw [upd_at, if_neg (by omega), u1 _ (by omega), h1 j (by omega), incF, incF, if_pos (show j + 1 < q + 1 by omega), if_pos (show j + 1 < q + 1 + 1 by omega)]
      · rw [upd_at, if_neg (by omega), u1 _ (by omega)]; exact h3 j (by omega) hj2
      · rw [upd_at, if_neg (by omega), u1 9 (by omega), h4, outF (by omega), outF (by omega)]
      · rw [upd_at, if_neg (hji q (by omega)), u1 _ (hji (q + 1) (by omega))]; exact h5 j hj hji
