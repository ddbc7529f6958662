theorem SB_o {D D2 : Nat → Int32} {S T : MS} (h : SB D S) (hk : Ko S T) (h0 : D2 0 = D 0) (h2 : T.er = 0 → ∃ nc, nc ≤ 20 ∧ D2 2 = nI nc) (hE : SE (T, D2)) : SB D2 T :=
  ⟨hk.1, NK_of h.2.1 hk.2.2.2.2.1 h0, h2, hE, hk.2.2.2.1.trans h.2.2.2.2⟩
theorem SB_u {D D2 : Nat → Int32} {S T : MS} (h : SB D S) (hk : Kp S T) (h0 : D2 0 = D 0) (h2 : D2 2 = D 2) (h7 : D2 7 = D 7) : SB D2 T := by
  have h1 := SB_k h hk
  refine ⟨h1.1, NK_of h1.2.1 id h0, fun h9 => ?_, ?_, h1.2.2.2.2⟩
  · obtain ⟨nc, hnc, e⟩ := h1.2.2.1 h9
    exact ⟨nc, hnc, h2.trans e⟩
  · obtain ⟨k, a1, a2, a3⟩ := h1.2.2.2.1
    exact ⟨k, a1, a2, fun h9 h8 => h7.trans (a3 h9 h8)⟩
theorem SE_on {D : Nat → Int32} {b : Nat} {st : Int32} {S : MS} (hb : b < 3) (h : SE (S, D)) : ∃ k, k < 8 ∧ (onM (nI b) st S).se = nI k ∧ ((onM (nI b) st S).er = 0 → k < 4 → D 7 = 0) ∧ (b = 2 → ¬ k < 4) := by
  obtain ⟨k, hk, e, h7⟩ := h
  have e1 : (onM (nI b) st S).se = nI (k ||| (1 <<< b)) := by
    show (onS (nI b) st S).se ||| (1 <<< (nI b &&& 31)) = _
    rw [onS_se, e, on_b k hk b hb]
  have hlt : ∀ k, k < 8 → ∀ b, b < 3 → (k ||| (1 <<< b)) < 8 ∧ (b = 2 → ¬ (k ||| (1 <<< b)) < 4) ∧ ((k ||| (1 <<< b)) < 4 → k < 4) := by decide
  have h3 := hlt k hk b hb
  refine ⟨k ||| (1 <<< b), h3.1, e1, fun h9 h8 => h7 ?_ (h3.2.2 h8), h3.2.1⟩
  have h6 : (onS (nI b) st S).er = 0 := h9
  unfold onS at h6
  split at h6
  · exact (rep_er0 h6 (by decide)).elim
  · exact h6
theorem emD_lo {v : Int32} {D : Nat → Int32} {j : Nat} (hj : j < 7) : emD v D j = D j := by
  rw [emD, upd_at, if_neg (by omega), upd_at, if_neg (by omega)]
theorem em_lo {v : Int32} {X : LQ} {j : Nat} (hj : j < 7) : (emR v X).2 j = X.2 j := by
  unfold emR
  split
  · exact emD_lo hj
  · rfl
/-- the rate's reading writes codes alone -/
def GD (f : LQ → LQ) : Prop := ∀ X j, j < 7 → (f X).2 j = X.2 j
theorem GD_fac {B : Nat → Int32} {f : LQ → LQ} (hf : GD f) : GD (facL B f) := fun X j hj => by
  unfold facL
  split
  · split
    · exact hf _ j hj
    · rw [facA, em_lo hj, em_lo hj]; rfl
  · rfl
theorem GD_lo {B : Nat → Int32} {c1 c2 o1 o2 : Int32} {f : LQ → LQ} (hf : GD f) : ∀ k, GD (loL B c1 c2 o1 o2 f k)
  | 0 => fun _ _ _ => rfl
  | k + 1 => fun X j hj => by
    rw [loL_s]
    split
    · split
      · rw [GD_lo hf k _ j hj, em_lo hj, hf _ j hj]
      · rfl
    · rfl
theorem GD_sum {B : Nat → Int32} : ∀ n, GD (sumL2 B n)
  | 0 => fun X j hj => by
    have h1 : GD (termL B (facL B id)) := fun X j hj => (GD_lo (GD_fac (fun _ _ _ => rfl)) 801 _ j hj).trans (GD_fac (fun _ _ _ => rfl) X j hj)
    exact (GD_lo h1 801 _ j hj).trans (h1 X j hj)
  | n + 1 => fun X j hj => by
    have h1 : GD (termL B (facL B (sumL2 B n))) := fun X j hj => (GD_lo (GD_fac (GD_sum n)) 801 _ j hj).trans (GD_fac (GD_sum n) X j hj)
    exact (GD_lo h1 801 _ j hj).trans (h1 X j hj)
theorem up3 {D : Nat → Int32} {p : Nat} {x : Int32} (hp : 12 ≤ p) {j : Nat} (hj : j < 12) : upd D p x j = D j := by rw [upd_at, if_neg (by omega)]
theorem SB_bay {B D : Nat → Int32} {st : Int32} {S : MS} (h : SB D S) : SB (bayM B st (S, D)).2 (bayM B st (S, D)).1 := by
  have hk := Kp_bay (B := B) (st := st) (X := (S, D)) h.1
  obtain ⟨t, ht, et, _⟩ := fs_at (B := B) (mk := 4) (vl := -1) (s := rbS st S) (D := D) (NK_of h.2.1 rb_er rfl)
  have e2 : (bayM B st (S, D)).2 = upd D (12 + 7 * t + 4) 1 := by
    show upd D ((fsM B D 4 (-1) (rbS st S)).1 + 4).toNatClampNeg 1 = _
    rw [et, show nI (12 + 7 * t) + 4 = nI (12 + 7 * t + 4) from nI_add _ 4, nI_clamp (by omega)]
  rw [e2]
  exact SB_u h hk (up3 (by omega) (by decide)) (up3 (by omega) (by decide)) (up3 (by omega) (by decide))
theorem SB_vent {B D : Nat → Int32} {S : MS} (h : SB D S) : SB (ventM B (S, D)).2 (ventM B (S, D)).1 := by
  have hk := Kp_vent (B := B) (X := (S, D)) h.1
  obtain ⟨t, ht, et, _⟩ := fs_at (B := B) (mk := 3) (vl := 0) (s := S) (D := D) h.2.1
  have e2 : (ventM B (S, D)).2 = upd D (12 + 7 * t + 3) (numM B 1 100 (fsM B D 3 0 S).2).1 := by
    show upd D ((fsM B D 3 0 S).1 + 3).toNatClampNeg (numM B 1 100 (fsM B D 3 0 S).2).1 = _
    rw [et, show nI (12 + 7 * t) + 3 = nI (12 + 7 * t + 3) from nI_add _ 3, nI_clamp (by omega)]
  rw [e2]
  exact SB_u h hk (up3 (by omega) (by decide)) (up3 (by omega) (by decide)) (up3 (by omega) (by decide))
theorem SB_fan {B D : Nat → Int32} {S : MS} (h : SB D S) : SB (fanM B (S, D)).2 (fanM B (S, D)).1 := by
  have hk := Kp_fan (B := B) (X := (S, D)) h.1
  obtain ⟨t, ht, et, _⟩ := fs_at (B := B) (mk := 1) (vl := 0) (s := S) (D := D) h.2.1
  have e2 : (fanM B (S, D)).2 = upd (upd D (12 + 7 * t + 1) 1) (12 + 7 * t + 2) (setM B 10 (fsM B D 1 0 S).2).1 := by
    show upd (upd D ((fsM B D 1 0 S).1 + 1).toNatClampNeg 1) ((fsM B D 1 0 S).1 + 2).toNatClampNeg (setM B 10 (fsM B D 1 0 S).2).1 = _
    rw [et, show nI (12 + 7 * t) + 1 = nI (12 + 7 * t + 1) from nI_add _ 1, show nI (12 + 7 * t) + 2 = nI (12 + 7 * t + 2) from nI_add _ 2, nI_clamp (by omega), nI_clamp (by omega)]
  rw [e2]
  exact SB_u h hk ((up3 (by omega) (by decide)).trans (up3 (by omega) (by decide))) ((up3 (by omega) (by decide)).trans (up3 (by omega) (by decide))) ((up3 (by omega) (by decide)).trans (up3 (by omega) (by decide)))
theorem SB_red {B D : Nat → Int32} {S : MS} (h : SB D S) : SB (redM B (S, D)).2 (redM B (S, D)).1 := by
  have hk := Kp_red (B := B) (X := (S, D)) h.1
  exact SB_u h hk (up3 (by omega) (by decide)) (up3 (by omega) (by decide)) (up3 (by omega) (by decide))
theorem car_er {B : Nat → Int32} {st : Int32} {X : LQ} (h : (rcE B st X).er = 0) : X.1.er = 0 ∧ ¬ X.2 2 = 20 := by
  have h1 : (rcW B st X).2.er = 0 := by
    unfold rcE at h
    split at h
    · exact (rep_er0 h (by decide)).elim
    · exact h
  exact rc_er (rs_er (way_er h1))
theorem SB_car {B D : Nat → Int32} {st : Int32} {S : MS} (h : SB D S) : SB (carM B st (S, D)).2 (carM B st (S, D)).1 := by
  have hk := Kp_car (B := B) (st := st) (X := (S, D)) h.1
  have hc := car_er (B := B) (st := st) (X := (S, D))
  have e1 : carM B st (S, D) = (rcE B st (S, D), if (rcE B st (S, D)).er = 0 then rcD (rcR B st (S, D)).1 (rcW B st (S, D)).1 D else D) := rfl
  rw [e1] at hk ⊢
  generalize rcE B st (S, D) = E at hk hc ⊢
  generalize (rcR B st (S, D)).1 = sc
  generalize (rcW B st (S, D)).1 = wy
  have hk : Kp S E := hk
  show SB (if E.er = 0 then rcD sc wy D else D) E
  split
  · rename_i h9
    obtain ⟨a1, a2⟩ := hc h9
    obtain ⟨nc, hnc, e⟩ := h.2.2.1 a1
    have e : D 2 = nI nc := e
    have a2 : ¬ D 2 = 20 := a2
    have hn20 : nc < 20 := by
      have : ¬ nc = 20 := fun h4 => a2 (by rw [e, h4]; rfl)
      omega
    have f0 : rcD sc wy D 0 = D 0 := by
      rw [rcD, upd_at, if_neg (by decide), upd_at, if_neg (by omega), upd_at, if_neg (by omega)]
    have f2 : rcD sc wy D 2 = nI (nc + 1) := by
      rw [rcD, upd_at, if_pos rfl, e, nI_1]
    have f7 : rcD sc wy D 7 = D 7 := by
      rw [rcD, upd_at, if_neg (by decide), upd_at, if_neg (by omega), upd_at, if_neg (by omega)]
    refine SB_o h (hk.o h.1) f0 (fun _ => ⟨nc + 1, hn20, f2⟩) ?_
    obtain ⟨k, a1, a2, a3⟩ := (SB_k h hk).2.2.2.1
    exact ⟨k, a1, a2, fun h9 h8 => f7.trans (a3 h9 h8)⟩
  · exact SB_k h hk
theorem SB_fire {B D : Nat → Int32} {st : Int32} {S : MS} (h : SB D S) : SB (fireM B st (S, D)).2 (fireM B st (S, D)).1 := by
  obtain ⟨k, k1, k2, k3, _⟩ := SE_on (D := D) (b := 0) (st := st) (by decide) h.2.2.2.1
  have hO := Ko_on (b := nI 0) (st := st) h.1
  have hS2 : SB D (onM (nI 0) st S) := SB_o h hO rfl (fun h9 => h.2.2.1 (hO.2.2.2.2.1 h9)) ⟨k, k1, k2, k3⟩
  show SB (upd D 4 (rsM B D (onM (nI 0) st S)).1) (rsM B D (onM (nI 0) st S)).2
  generalize onM (nI 0) st S = T at hS2 ⊢
  exact SB_u hS2 (Kp_rs hS2.1) (by rw [upd_at, if_neg (by decide)]) (by rw [upd_at, if_neg (by decide)]) (by rw [upd_at, if_neg (by decide)])
theorem SB_draft {B D : Nat → Int32} {st : Int32} {S : MS} (h : SB D S) : SB (draftM B st (S, D)).2 (draftM B st (S, D)).1 := by
  obtain ⟨k, k1, k2, k3, _⟩ := SE_on (D := D) (b := 1) (st := st) (by decide) h.2.2.2.1
  have hO := Ko_on (b := nI 1) (st := st) h.1
  have hS2 : SB D (onM (nI 1) st S) := SB_o h hO rfl (fun h9 => h.2.2.1 (hO.2.2.2.2.1 h9)) ⟨k, k1, k2, k3⟩
  show SB (upd D 5 (setM B 100 (onM (nI 1) st S)).1) (setM B 100 (onM (nI 1) st S)).2
  generalize onM (nI 1) st S = T at hS2 ⊢
  exact SB_u hS2 (Kp_set hS2.1) (by rw [upd_at, if_neg (by decide)]) (by rw [upd_at, if_neg (by decide)]) (by rw [upd_at, if_neg (by decide)])
theorem SB_rate {B D : Nat → Int32} {st : Int32} {S : MS} (h : SB D S) : SB (rateM B st (S, D)).2 (rateM B st (S, D)).1 := by
  obtain ⟨k, k1, k2, _, k4⟩ := SE_on (D := D) (b := 2) (st := st) (by decide) h.2.2.2.1
  have hO := Ko_on (b := nI 2) (st := st) h.1
  have hG := GK_sum (B := B) 4 (onM (nI 2) st S, upd D 6 1) hO.1
  have hD := GD_sum (B := B) 4 (onM (nI 2) st S, upd D 6 1)
  have hk4 := k4 rfl
  show SB (sumL2 B 4 (onM (nI 2) st S, upd D 6 1)).2 (sumL2 B 4 (onM (nI 2) st S, upd D 6 1)).1
  have d0 : (sumL2 B 4 (onM (nI 2) st S, upd D 6 1)).2 0 = D 0 := (hD 0 (by decide)).trans (by show upd D 6 1 0 = _; rw [upd_at, if_neg (by decide)])
  have d2 : (sumL2 B 4 (onM (nI 2) st S, upd D 6 1)).2 2 = D 2 := (hD 2 (by decide)).trans (by show upd D 6 1 2 = _; rw [upd_at, if_neg (by decide)])
  have hs : (sumL2 B 4 (onM (nI 2) st S, upd D 6 1)).1.se = (onM (nI 2) st S).se := by
    have h4 := hG.1.2.2.2.2.2
    unfold gx at h4
    simp only [Prod.mk.injEq] at h4
    exact h4.2.2.2.2.1
  have hk2 := hO.t (hG.1.o hO.1)
  generalize sumL2 B 4 (onM (nI 2) st S, upd D 6 1) = Z at d0 d2 hs hk2 ⊢
  refine SB_o h hk2 d0 (fun h9 => ?_) ⟨k, k1, hs.trans k2, fun _ h8 => absurd h8 hk4⟩
  obtain ⟨nc, hnc, e⟩ := h.2.2.1 (hk2.2.2.2.2.1 h9)
  exact ⟨nc, hnc, d2.trans e⟩
theorem SB_st8 {B : Nat → Int32} {st : Int32} {S : MS} {D : Nat → Int32} (h : SB D S) : SB (st8 B st S D).2 (st8 B st S D).1 := by
  have hk : SB D (twR B 8 S).2 := SB_k h (Kp_tw (B := B) (i := 8) (by decide) h.1)
  unfold st8
  generalize twR B 8 S = W at hk ⊢
  split
  · exact SB_rate hk
  · exact SB_k hk (Kp_rep (by decide) hk.1)
theorem SB_st7 {B : Nat → Int32} {st : Int32} {S : MS} {D : Nat → Int32} (h : SB D S) : SB (st7 B st S D).2 (st7 B st S D).1 := by
  have hk : SB D (twR B 7 S).2 := SB_k h (Kp_tw (B := B) (i := 7) (by decide) h.1)
  unfold st7
  generalize twR B 7 S = W at hk ⊢
  split
  · exact SB_red hk
  · exact SB_st8 hk
theorem SB_st6 {B : Nat → Int32} {st : Int32} {S : MS} {D : Nat → Int32} (h : SB D S) : SB (st6 B st S D).2 (st6 B st S D).1 := by
  have hk : SB D (twR B 6 S).2 := SB_k h (Kp_tw (B := B) (i := 6) (by decide) h.1)
  unfold st6
  generalize twR B 6 S = W at hk ⊢
  split
  · exact SB_draft hk
  · exact SB_st7 hk
theorem SB_st5 {B : Nat → Int32} {st : Int32} {S : MS} {D : Nat → Int32} (h : SB D S) : SB (st5 B st S D).2 (st5 B st S D).1 := by
  have hk : SB D (twR B 5 S).2 := SB_k h (Kp_tw (B := B) (i := 5) (by decide) h.1)
  unfold st5
  generalize twR B 5 S = W at hk ⊢
  split
  · exact SB_fire hk
  · exact SB_st6 hk
theorem SB_st4 {B : Nat → Int32} {st : Int32} {S : MS} {D : Nat → Int32} (h : SB D S) : SB (st4 B st S D).2 (st4 B st S D).1 := by
  have hk : SB D (twR B 4 S).2 := SB_k h (Kp_tw (B := B) (i := 4) (by decide) h.1)
  unfold st4
  generalize twR B 4 S = W at hk ⊢
  split
  · exact SB_car hk
  · exact SB_st5 hk
theorem SB_st3 {B : Nat → Int32} {st : Int32} {S : MS} {D : Nat → Int32} (h : SB D S) : SB (st3 B st S D).2 (st3 B st S D).1 := by
  have hk : SB D (twR B 3 S).2 := SB_k h (Kp_tw (B := B) (i := 3) (by decide) h.1)
  unfold st3
  generalize twR B 3 S = W at hk ⊢
  split
  · exact SB_fan hk
  · exact SB_st4 hk
theorem SB_st2 {B : Nat → Int32} {st : Int32} {S : MS} {D : Nat → Int32} (h : SB D S) : SB (st2 B st S D).2 (st2 B st S D).1 := by
  have hk : SB D (twR B 2 S).2 := SB_k h (Kp_tw (B := B) (i := 2) (by decide) h.1)
  unfold st2
  generalize twR B 2 S = W at hk ⊢
  split
  · exact SB_vent hk
  · exact SB_st3 hk
theorem SB_st1 {B : Nat → Int32} {st : Int32} {S : MS} {D : Nat → Int32} (h : SB D S) : SB (st1 B st S D).2 (st1 B st S D).1 := by
  have hk : SB D (twR B 1 S).2 := SB_k h (Kp_tw (B := B) (i := 1) (by decide) h.1)
  unfold st1
  generalize twR B 1 S = W at hk ⊢
  split
  · exact SB_bay hk
  · exact SB_st2 hk
theorem SB_stM {B : Nat → Int32} {X : LQ} (h : SB X.2 X.1) : SB (stM B X).2 (stM B X).1 := by
  have h1 : SB X.2 (nxR B X.1) := SB_k h (Kp_nx h.1)
  have h2 : SB (stK B (nxR B X.1) X.2).2 (stK B (nxR B X.1) X.2).1 := SB_st1 h1
  exact SB_k h2 (Kp_exp (by decide) h2.1)
theorem exp_pos {B : Nat → Int32} {c : Int32} {s : MS} (h : (expR2 B c s).er = 0) : s.po < (expR2 B c s).po := by
  have hn : s.po ≤ (nxR B s).po := scanE_ge _
  unfold expR2 at h ⊢
  split at h
  · rename_i h9
    rw [if_pos h9]
    split at h
    · rename_i h2
      rw [if_pos h2]
      show s.po < (nxR B s).po + 1
      omega
    · exact (rep_er0 h (by decide)).elim
  · rename_i h9
    exact absurd h h9
theorem Ko_stM {B : Nat → Int32} {X : LQ} (h : MJ X.1) : Ko X.1 (stM B X).1 := by
  have h1 := (Kp_nx (B := B) h).o h
  have h2 : Ko (nxR B X.1) (stK B (nxR B X.1) X.2).1 := Ko_st1 h1.1
  have h3 := h1.t h2
  exact h3.t ((Kp_exp (by decide) h3.1).o h3.1)
theorem st_pos {B : Nat → Int32} {X : LQ} (h : MJ X.1) (h9 : (stM B X).1.er = 0) : X.1.po < (stM B X).1.po := by
  have h1 := (Kp_nx (B := B) h).o h
  have h2 : Ko (nxR B X.1) (stK B (nxR B X.1) X.2).1 := Ko_st1 h1.1
  exact Nat.lt_of_le_of_lt (h1.t h2).2.2.1 (exp_pos (s := (stK B (nxR B X.1) X.2).1) h9)
/-- statement by statement -/
def liL (B : Nat → Int32) : Nat → LQ → LQ
  | 0, X => X
  | k + 1, X => if X.1.er = 0 then (if btL B (nxL B X) = -1 then nxL B X else liL B k (stM B (nxL B X))) else X
theorem liL_s {B : Nat → Int32} {k : Nat} {X : LQ} : liL B (k + 1) X = if X.1.er = 0 then (if btL B (nxL B X) = -1 then nxL B X else liL B k (stM B (nxL B X))) else X := rfl
theorem Ko_r {s : MS} (h : MJ s) : Ko s s := (Kp.r h).o h
theorem Ko_li {B : Nat → Int32} : ∀ (k : Nat) (X : LQ), MJ X.1 → Ko X.1 (liL B k X).1
  | 0, X, h => Ko_r h
  | k + 1, X, h => by
    rw [liL_s]
    have hn : Ko X.1 (nxL B X).1 := (Kp_nx h).o h
    split
    · split
      · exact hn
      · have h2 := Ko_stM (B := B) (X := nxL B X) hn.1
        exact (hn.t h2).t (Ko_li k _ h2.1)
    · exact Ko_r h
/-- the draft before reading -/
def ld0 : Nat → Int32 := foldN (fun k f => upd f (12 + 7 * k + 4) (-1)) (upd (fun _ => 0) 4 (-1)) 12
def ldS (s : MS) (len : Nat) : MS := ((((((((s.wth 0).wbl 0).wtl len).wpo 0).wer 0).wea (-1)).wne 0).wse 0).wba 0
def ldB (B : Nat → Int32) (s : MS) : MS := if (twR B 0 s).1 = true then (twR B 0 s).2 else repR (-2) (nI (twR B 0 s).2.po) (twR B 0 s).2
def ldN (B : Nat → Int32) (s : MS) : Int32 × MS := numM B 2 12 (ldB B s)
def ldK (B : Nat → Int32) (s : MS) : Int32 × MS := numM B 1 4 (ldN B s).2
def ldH (B : Nat → Int32) (s : MS) : LQ := (expR2 B 59 (ldK B s).2, upd (upd ld0 0 (ldN B s).1) 1 (ldK B s).1)
def ldF (B : Nat → Int32) (s : MS) : LQ := liL B 801 (ldH B s)
theorem Kp_ldB {B : Nat → Int32} {s : MS} (h : MJ s) : Kp s (ldB B s) := by
  have h1 := Kp_tw (B := B) (i := 0) (by decide) h
  unfold ldB
  split
  · exact h1
  · exact h1.t (Kp_rep (by decide) (h1.mj h))
theorem Kp_ldN {B : Nat → Int32} {s : MS} (h : MJ s) : Kp s (ldN B s).2 := (Kp_ldB h).t (Kp_num ((Kp_ldB h).mj h))
theorem Kp_ldK {B : Nat → Int32} {s : MS} (h : MJ s) : Kp s (ldK B s).2 := (Kp_ldN h).t (Kp_num ((Kp_ldN h).mj h))
theorem Kp_ldH {B : Nat → Int32} {s : MS} (h : MJ s) : Kp s (ldH B s).1 := (Kp_ldK h).t (Kp_exp (by decide) ((Kp_ldK h).mj h))
theorem ld0_lo {j : Nat} (hj : j < 12) (h4 : j ≠ 4) : ld0 j = 0 := by
  have h : ∀ k, foldN (fun k f => upd f (12 + 7 * k + 4) (-1)) (upd (fun _ => 0) 4 (-1)) k j = 0 := fun k => by
    induction k with
    | zero => show upd (fun _ => (0 : Int32)) 4 (-1) j = 0; rw [upd_at, if_neg h4]
    | succ k ih => rw [foldN_s, upd_at, if_neg (by omega)]; exact ih
  exact h 12
theorem SB_ldH {B : Nat → Int32} {s : MS} {len : Nat} (hlen : len ≤ 800) : SB (ldH B (ldS s len)).2 (ldH B (ldS s len)).1 := by
  have hJ : MJ (ldS s len) := ⟨Nat.zero_le _, hlen⟩
  have hk := Kp_ldH (B := B) hJ
  have hK := (Kp_ldK (B := B) hJ).mj hJ
  have eH : ldH B (ldS s len) = (expR2 B 59 (ldK B (ldS s len)).2, upd (upd ld0 0 (ldN B (ldS s len)).1) 1 (ldK B (ldS s len)).1) := rfl
  have eN : (ldK B (ldS s len)).2.er = 0 → (ldN B (ldS s len)).2.er = 0 := fun h => num_er (B := B) (lo := 1) (hi := 4) (s := (ldN B (ldS s len)).2) h
  have eI : (ldN B (ldS s len)).2.er = 0 → inB (ldN B (ldS s len)).1 2 12 = true := fun h => num_in (B := B) (s := ldB B (ldS s len)) h
  have hs : (ldH B (ldS s len)).1.se = 0 := by
    have h4 := hk.2.2.2.2.2
    unfold gx at h4
    simp only [Prod.mk.injEq] at h4
    exact h4.2.2.2.2.1
  have hne : (ldH B (ldS s len)).1.ne = 0 := hk.2.2.2.1
  have hMJ := hk.mj hJ
  rw [eH] at hMJ hs hne ⊢
  clear hk eH
  generalize ldK B (ldS s len) = K9 at *
  generalize ldN B (ldS s len) = N9 at *
  have d0 : upd (upd ld0 0 N9.1) 1 K9.1 0 = N9.1 := by rw [upd_at, if_neg (by decide), upd_at, if_pos rfl]
  have d2 : upd (upd ld0 0 N9.1) 1 K9.1 2 = 0 := by rw [upd_at, if_neg (by decide), upd_at, if_neg (by decide), ld0_lo (by decide) (by decide)]
  have d7 : upd (upd ld0 0 N9.1) 1 K9.1 7 = 0 := by rw [upd_at, if_neg (by decide), upd_at, if_neg (by decide), ld0_lo (by decide) (by decide)]
  refine ⟨hMJ, fun h9 => ?_, fun _ => ⟨0, by decide, d2⟩, ⟨0, by decide, hs, fun _ _ => d7⟩, hne⟩
  have e1 : K9.2.er = 0 := (Kp_exp (B := B) (c := 59) (s := K9.2) (by decide) hK).2.2.2.2.1 h9
  have h3 := eI (eN e1)
  have h4 : ¬ N9.1 < 2 := fun h => by rw [inB_f1 h] at h3; exact absurd h3 Bool.false_ne_true
  have h5 : ¬ 12 < N9.1 := fun h => by rw [inB_f2 h] at h3; exact absurd h3 Bool.false_ne_true
  obtain ⟨n, hn, e⟩ := nI_of2 (M := nI 12) (n := 12) (by decide) (fun h => h4 (Int32.lt_trans h (by decide))) (Int32.not_lt.mp h5)
  exact ⟨n, hn, d0.trans e⟩
def loW (g : Gl) (m h : Nat → Nat) (s : MS) (B D d : Nat → Int32) (R : Nat → Nat → Int32) : va_W := lcW g m s B D ++ ([(m 2, .inl (g.2.1 0, 1476, .inl d)), (m 5, .inl (g.2.1 5, 8, .inr (.inr (.inr (.inr (fun j => some (h j)))))))] ++ rowsW g h R)
