theorem bt_n {m i : Nat} (hi : i < 32) : bt (nI m) i = m.testBit i := by
  show (BitVec.ofNat 32 m).getLsbD i = _
  rw [BitVec.getLsbD_ofNat, decide_eq_true hi, Bool.true_and]
theorem bit1_iff {x : Int32} {c : Nat} (hc : c < 32) : (x >>> (nI c &&& 31)) &&& 1 = 1 ↔ bt x c = true := by
  have h := bit_iff (x := x) hc
  rcases and1 (x >>> (nI c &&& 31)) with h9 | h9
  · rw [h9]
    have h8 := h.mp h9
    exact ⟨fun h => absurd h (by decide), fun h7 => by rw [h8] at h7; exact absurd h7 (by decide)⟩
  · rw [h9]
    refine ⟨fun _ => ?_, fun _ => rfl⟩
    cases hb : bt x c
    · have h8 := h.mpr hb
      rw [h9] at h8
      exact absurd h8 (by decide)
    · rfl
theorem bay_bt {f : Nat → Int32} : ∀ k, k ≤ 12 → ∀ i, i < 32 → (bt (baySetF f k) i = true ↔ (i < k ∧ ¬ f i = -1))
  | 0, _, i, _ => by
    show bt 0 i = true ↔ _
    rw [b_0]
    exact ⟨fun h => absurd h (by decide), fun h => absurd h.1 (Nat.not_lt_zero i)⟩
  | k + 1, h, i, hi => by
    have ih := bay_bt (f := f) k (by omega) i hi
    rw [baySetF]
    by_cases e : f k = -1
    · rw [if_pos e, ih]
      constructor
      · rintro ⟨h1, h2⟩; exact ⟨by omega, h2⟩
      · rintro ⟨h1, h2⟩
        refine ⟨?_, h2⟩
        by_cases e2 : i = k
        · subst e2; exact absurd e h2
        · omega
    · rw [if_neg e, bit_set (by omega) hi, Bool.or_eq_true, ih, decide_eq_true_eq]
      constructor
      · rintro (h1 | h1)
        · exact ⟨by omega, h1.2⟩
        · subst h1; exact ⟨by omega, e⟩
      · rintro ⟨h1, h2⟩
        by_cases e2 : i = k
        · exact Or.inr e2
        · exact Or.inl ⟨by omega, h2⟩
theorem sub_iff {x y : Int32} : x &&& (y ^^^ (-1)) = 0 ↔ ∀ i, i < 32 → bt x i = true → bt y i = true := by
  constructor
  · intro h i hi hx
    have h1 : bt (x &&& (y ^^^ (-1))) i = bt 0 i := by rw [h]
    rw [b_and, b_xor, b_m1 i hi, b_0, hx] at h1
    cases hy : bt y i
    · rw [hy] at h1; exact absurd h1 (by decide)
    · rfl
  · intro h
    refine b_ext (fun i hi => ?_)
    rw [b_and, b_xor, b_m1 i hi, b_0]
    cases hx : bt x i
    · rfl
    · rw [h i hi hx]; rfl
theorem ar_iff {d : Nat → Int32} {v : Nat} : ∀ k, k ≤ 12 → (arR d v k = 1 ↔ ∀ s, s < k → bt (nI v) s = true → 0 ≤ d (12 + 7 * s + 4))
  | 0, _ => ⟨fun _ s hs => absurd hs (Nat.not_lt_zero s), fun _ => rfl⟩
  | k + 1, h => by
    have ih := ar_iff (d := d) (v := v) k (by omega)
    have hb := bit1_iff (x := nI v) (c := k) (by omega)
    rw [arR]
    by_cases e : bt (nI v) k = true
    · rw [if_pos (hb.mpr e)]
      by_cases e2 : 0 ≤ d (12 + 7 * k + 4)
      · rw [if_pos e2, ih]
        constructor
        · intro h1 s hs h2
          by_cases e3 : s = k
          · subst e3; exact e2
          · exact h1 s (by omega) h2
        · intro h1 s hs; exact h1 s (by omega)
      · rw [if_neg e2]
        exact ⟨fun h => absurd h (by decide), fun h1 => absurd (h1 k (by omega) e) e2⟩
    · rw [if_neg (fun h9 => e (hb.mp h9)), ih]
      constructor
      · intro h1 s hs h2
        by_cases e3 : s = k
        · subst e3; exact absurd h2 e
        · exact h1 s (by omega) h2
      · intro h1 s hs; exact h1 s (by omega)
/-- a set of bays alone, on both sides -/
theorem sub_rel {P : PD} {T : TD} {d : Nat → Int32} (h : CR P T d) (hb : ∀ s, s < pN P → tBay T s = -1 ∨ tBay T s = 0 ∨ tBay T s = 1) {m : Nat} (hm : m < 2 ^ pN P) : (nI m &&& (baySetF (tBay T) (pN P) ^^^ (-1)) = 0 ↔ arR d m (pN P) = 1) := by
  have hn := h.1.2.2.2.2.1
  rw [sub_iff, ar_iff _ hn]
  constructor
  · intro h1 s hs h2
    have h3 := ((bay_bt (f := tBay T) (pN P) hn s (by omega)).mp (h1 s (by omega) h2)).2
    rw [(h.2.1 s hs).1]
    rcases (hb s hs).resolve_left h3 with e | e <;> rw [e] <;> decide
  · intro h1 i hi h2
    have hin : i < pN P := by
      by_cases e : i < pN P
      · exact e
      · rw [bt_n hi, Nat.testBit_lt_two_pow (Nat.lt_of_lt_of_le hm (Nat.pow_le_pow_right (by decide) (by omega)))] at h2
        exact absurd h2 (by decide)
    refine (bay_bt (f := tBay T) (pN P) hn i hi).mpr ⟨hin, fun e => ?_⟩
    have h3 := h1 i hin h2
    rw [(h.2.1 i hin).1, e] at h3
    exact absurd h3 (by decide)
theorem bays_rel {P : PD} {T : TD} {d : Nat → Int32} (h : CR P T d) (hb : ∀ s, s < pN P → tBay T s = -1 ∨ tBay T s = 0 ∨ tBay T s = 1) (cs : Nat → Int32) (kc : Nat) (X : TS) :
    (bbF T P (baySetF (tBay T) (pN P)).toNatClampNeg ((baySetF (tBay T) (pN P)).toNatClampNeg + 1)).1 = (fbF (pN P) (pCar P) cs kc d X (2 ^ pN P)).1 ∧
    (if (bbF T P (baySetF (tBay T) (pN P)).toNatClampNeg ((baySetF (tBay T) (pN P)).toNatClampNeg + 1)).1 < 0 then -1 else (clearR P (200 + 1) 0 (openAllF P (bbF T P (baySetF (tBay T) (pN P)).toNatClampNeg ((baySetF (tBay T) (pN P)).toNatClampNeg + 1)).1 T)).1) = (fbF (pN P) (pCar P) cs kc d X (2 ^ pN P)).2.1 := by
  have hn := h.1.2.2.2.2.1
  obtain ⟨n0, hn0, e0⟩ := bay_n (tBay T) (k := pN P) hn
  have ec : (baySetF (tBay T) (pN P)).toNatClampNeg = n0 := by rw [e0, nI_clamp (by omega)]
  have h2n : 2 ^ pN P ≤ 4096 := Nat.pow_le_pow_right (n := 2) (i := pN P) (j := 12) (by decide) hn
  have hlt : n0 < 2 ^ pN P := by
    refine Nat.lt_pow_two_of_testBit _ (fun i hi => ?_)
    by_cases h32 : i < 32
    · rw [← bt_n h32, ← e0]
      cases hx : bt (baySetF (tBay T) (pN P)) i
      · rfl
      · have := ((bay_bt (f := tBay T) (pN P) hn i h32).mp hx).1
        omega
    · exact Nat.testBit_lt_two_pow (Nat.lt_of_lt_of_le hn0 (Nat.le_trans (Nat.pow_le_pow_right (n := 2) (i := 12) (j := 32) (by decide) (by decide)) (Nat.pow_le_pow_right (by decide) (by omega))))
  rw [ec]
  have key : ∀ k, k ≤ n0 + 1 → (bbF T P n0 k).1 = (fbF (pN P) (pCar P) cs kc d X k).1 ∧ (bbF T P n0 k).2 ≤ 200 ∧ ((bbF T P n0 k).1 < 0 → (bbF T P n0 k).2 = 200 ∧ (fbF (pN P) (pCar P) cs kc d X k).2.1 = -1) ∧ (¬ (bbF T P n0 k).1 < 0 → (∃ v, v < 4096 ∧ (bbF T P n0 k).1 = nI v) ∧ (fbF (pN P) (pCar P) cs kc d X k).2.1 = nI (bbF T P n0 k).2 ∧ (clearR P 201 0 (openAllF P (bbF T P n0 k).1 T)).1 = nI (bbF T P n0 k).2) := fun k => by
    induction k with
    | zero => intro _; exact ⟨rfl, Nat.le_refl _, fun _ => ⟨rfl, rfl⟩, fun h9 => absurd (show (-1 : Int32) < 0 by decide) h9⟩
    | succ m ih =>
      intro hk
      obtain ⟨i1, i2, i3, i4⟩ := ih (by omega)
      have eB : bbF T P n0 (m + 1) = bbStep T P n0 m (bbF T P n0 m) := rfl
      have eF : fbF (pN P) (pCar P) cs kc d X (m + 1) = fbR (pN P) (pCar P) cs kc d m (fbF (pN P) (pCar P) cs kc d X m) := rfl
      rw [eB, eF]
      generalize bbF T P n0 m = S at i1 i2 i3 i4 ⊢
      generalize fbF (pN P) (pCar P) cs kc d X m = R at i1 i3 i4 ⊢
      have hs := sub_rel h hb (m := m) (by omega)
      rw [e0] at hs
      by_cases hsub : nI m &&& (nI n0 ^^^ (-1)) = 0
      · have har : ¬ arR d m (pN P) = 0 := by rw [hs.mp hsub]; decide
        have hCR : CR P (openAllF P (nI m) T) (R.2.2.wd (foldN (opS2 d m) d (pN P))).d := open_rel h hb m
        have hC : (clearR P 201 0 (openAllF P (nI m) T)).1 = (fbT (pN P) (pCar P) cs kc d m R.2.2).1 := clear_rel (cs := cs) (kc := kc) 201 0 _ _ hCR
        have hl := clear_lim (P := P) (S.2 + 1) (200 - S.2) 0 (openAllF P (nI m) T) (by omega)
        rw [show S.2 + 1 + (200 - S.2) = 201 by omega, hC] at hl
        have hr := clear_r P (S.2 + 1) 0 (openAllF P (nI m) T)
        rw [bbStep, if_pos hsub, fbR, if_neg har]
        generalize hc1 : (clearR P (S.2 + 1) 0 (openAllF P (nI m) T)).1 = C1 at hl hr ⊢
        generalize hf1 : fbT (pN P) (pCar P) cs kc d m R.2.2 = F at hl hC ⊢
        rcases hl with hl | ⟨hl, hl2⟩
        · rcases hr with hr | ⟨t, ht, hr⟩
          · have hneg : C1 < 0 := by rw [hr]; decide
            rw [if_pos hneg, ← hl, if_pos hneg]
            exact ⟨i1, i2, i3, i4⟩
          · have hnn : ¬ C1 < 0 := by rw [hr]; exact nI_pos (by omega)
            rw [if_neg hnn, ← hl, if_neg hnn, hr]
            by_cases hS : S.1 < 0
            · rw [if_pos (Or.inl hS), if_neg (fun h9 => absurd (h9.1) (by rw [← i1]; exact Int32.not_le.mpr hS)), nI_clamp (by omega)]
              refine ⟨rfl, by show t ≤ 200; omega, fun h9 => absurd h9 (nI_pos (by omega)), fun _ => ⟨⟨m, by omega, rfl⟩, rfl, ?_⟩⟩
              show (clearR P 201 0 (openAllF P (nI m) T)).1 = nI t
              rw [hC, ← hl, hr]
            · obtain ⟨⟨v, hv, ev⟩, j2, j3⟩ := i4 hS
              have hR0 : 0 ≤ R.1 := by rw [← i1]; exact Int32.not_lt.mp hS
              rw [← i1, ev, j2, pop_n (show m < 4096 by omega), pop_n hv, nI_clamp (show v < 2 ^ 31 by omega)]
              have hS' : ¬ nI v < 0 := nI_pos (by omega)
              have hR0' : 0 ≤ nI v := Int32.not_lt.mp hS'
              have hiff : (nI v < 0 ∨ nI t < nI S.2 ∨ nI (onN 13 m) < nI (onN 13 v)) ∧ t ≤ S.2 ↔ ¬ (0 ≤ nI v ∧ (nI S.2 < nI t ∨ (nI t = nI S.2 ∧ ¬ nI (onN 13 m) < nI (onN 13 v)))) ∧ t ≤ S.2 := by
                constructor
                · rintro ⟨h1, h2⟩
                  refine ⟨?_, h2⟩
                  rintro ⟨_, h3 | ⟨h3, h4⟩⟩
                  · exact nI_nlt (a := S.2) (b := t) h2 (by omega) h3
                  · rcases h1 with h1 | h1 | h1
                    · exact hS' h1
                    · rw [h3] at h1; exact absurd h1 Int32.lt_irrefl
                    · exact h4 h1
                · rintro ⟨h1, h2⟩
                  refine ⟨?_, h2⟩
                  by_cases e : nI (onN 13 m) < nI (onN 13 v)
                  · exact Or.inr (Or.inr e)
                  · by_cases e2 : t = S.2
                    · exact absurd ⟨hR0', Or.inr ⟨by rw [e2], e⟩⟩ h1
                    · exact Or.inr (Or.inl (nI_lt (by omega) (by omega)))
              have ht2 : t ≤ S.2 := by omega
              by_cases hcnd : nI v < 0 ∨ nI t < nI S.2 ∨ nI (onN 13 m) < nI (onN 13 v)
              · rw [if_pos hcnd, if_neg (hiff.mp ⟨hcnd, ht2⟩).1, nI_clamp (by omega)]
                refine ⟨rfl, by show t ≤ 200; omega, fun h9 => absurd h9 (nI_pos (by omega)), fun _ => ⟨⟨m, by omega, rfl⟩, rfl, ?_⟩⟩
                show (clearR P 201 0 (openAllF P (nI m) T)).1 = nI t
                rw [hC, ← hl, hr]
              · have hneg2 : 0 ≤ nI v ∧ (nI S.2 < nI t ∨ (nI t = nI S.2 ∧ ¬ nI (onN 13 m) < nI (onN 13 v))) := by
                  by_cases e : 0 ≤ nI v ∧ (nI S.2 < nI t ∨ (nI t = nI S.2 ∧ ¬ nI (onN 13 m) < nI (onN 13 v)))
                  · exact e
                  · exact absurd (hiff.mpr ⟨e, ht2⟩).1 hcnd
                rw [if_neg hcnd, if_pos hneg2]
                exact ⟨ev, i2, fun h9 => absurd h9 hS, fun _ => ⟨⟨v, hv, ev⟩, rfl, j3⟩⟩
        · have hneg : C1 < 0 := by rw [hl]; decide
          rw [if_pos hneg]
          rcases hl2 with h9 | ⟨t, h8, h7, h9⟩
          · rw [if_pos (show F.1 < 0 by rw [h9]; decide)]
            exact ⟨i1, i2, i3, i4⟩
          · rw [if_neg (show ¬ F.1 < 0 by rw [h9]; exact nI_pos (by omega))]
            by_cases hS : S.1 < 0
            · have := (i3 hS).1
              omega
            · obtain ⟨hv, j2, j3⟩ := i4 hS
              have hR0 : 0 ≤ R.1 := by rw [← i1]; exact Int32.not_lt.mp hS
              rw [if_pos ⟨hR0, Or.inl (by rw [j2, h9]; exact nI_lt (by omega) (by omega))⟩]
              exact ⟨i1, i2, i3, i4⟩
      · have har : arR d m (pN P) = 0 := (ar_01 (pN P)).resolve_right (fun h9 => hsub (hs.mpr h9))
        rw [bbStep, if_neg hsub, fbR, if_pos har]
        exact ⟨i1, i2, i3, i4⟩
  have tail : ∀ q, n0 + 1 + q ≤ 2 ^ pN P → fbF (pN P) (pCar P) cs kc d X (n0 + 1 + q) = fbF (pN P) (pCar P) cs kc d X (n0 + 1) := fun q => by
    induction q with
    | zero => intro _; rfl
    | succ q ih =>
      intro hq
      have eF : fbF (pN P) (pCar P) cs kc d X (n0 + 1 + (q + 1)) = fbR (pN P) (pCar P) cs kc d (n0 + 1 + q) (fbF (pN P) (pCar P) cs kc d X (n0 + 1 + q)) := rfl
      rw [eF, ih (by omega), fbR, if_pos]
      refine (ar_01 (pN P)).resolve_right (fun h9 => ?_)
      have hs := (sub_rel h hb (m := n0 + 1 + q) (by omega)).mpr h9
      rw [e0, sub_iff] at hs
      have hand : (n0 + 1 + q) &&& n0 = n0 + 1 + q := by
        refine Nat.eq_of_testBit_eq (fun i => ?_)
        rw [Nat.testBit_and]
        by_cases h32 : i < 32
        · cases hx : (n0 + 1 + q).testBit i
          · rfl
          · have h8 := hs i h32 (by rw [bt_n h32]; exact hx)
            rw [bt_n h32] at h8
            rw [h8]; rfl
        · have hz : (n0 + 1 + q).testBit i = false := Nat.testBit_lt_two_pow (Nat.lt_of_lt_of_le (show n0 + 1 + q < 2 ^ 12 by have : (2 : Nat) ^ 12 = 4096 := (by decide); omega) (Nat.pow_le_pow_right (by decide) (by omega)))
          rw [hz]; rfl
      have hle : (n0 + 1 + q) &&& n0 ≤ n0 := Nat.and_le_right
      omega
  have ht := tail (2 ^ pN P - (n0 + 1)) (by omega)
  rw [show n0 + 1 + (2 ^ pN P - (n0 + 1)) = 2 ^ pN P by omega] at ht
  rw [ht]
  obtain ⟨k1, k2, k3, k4⟩ := key (n0 + 1) (Nat.le_refl _)
  refine ⟨k1, ?_⟩
  by_cases hS : (bbF T P n0 (n0 + 1)).1 < 0
  · rw [if_pos hS]; exact (k3 hS).2.symm
  · rw [if_neg hS]
    obtain ⟨_, j2, j3⟩ := k4 hS
    exact j3.trans j2.symm
