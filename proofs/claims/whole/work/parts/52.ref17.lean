def ventM (B : Nat → Int32) (X : LQ) : LQ := ((numM B 1 100 (fsM B X.2 3 0 X.1).2).2, upd X.2 ((fsM B X.2 3 0 X.1).1 + 3).toNatClampNeg (numM B 1 100 (fsM B X.2 3 0 X.1).2).1)
def fireM (B : Nat → Int32) (st : Int32) (X : LQ) : LQ := ((rsM B X.2 (onM 0 st X.1)).2, upd X.2 4 (rsM B X.2 (onM 0 st X.1)).1)
def draftM (B : Nat → Int32) (st : Int32) (X : LQ) : LQ := ((setM B 100 (onM 1 st X.1)).2, upd X.2 5 (setM B 100 (onM 1 st X.1)).1)
def redM (B : Nat → Int32) (X : LQ) : LQ := ((wayM B (rsM B X.2 X.1).2).2, upd X.2 (12 + 7 * (rsM B X.2 X.1).1.toNatClampNeg + (if (wayM B (rsM B X.2 X.1).2).1 = 1 then 5 else 6)) 1)
def rateM (B : Nat → Int32) (st : Int32) (X : LQ) : LQ := sumL2 B 4 (onM 2 st X.1, upd X.2 6 1)
def st8 (B : Nat → Int32) (st : Int32) (S : MS) (D : Nat → Int32) : LQ := if (twR B 8 S).1 = true then rateM B st ((twR B 8 S).2, D) else (repR (-2) st (twR B 8 S).2, D)
def st7 (B : Nat → Int32) (st : Int32) (S : MS) (D : Nat → Int32) : LQ := if (twR B 7 S).1 = true then redM B ((twR B 7 S).2, D) else st8 B st (twR B 7 S).2 D
def st6 (B : Nat → Int32) (st : Int32) (S : MS) (D : Nat → Int32) : LQ := if (twR B 6 S).1 = true then draftM B st ((twR B 6 S).2, D) else st7 B st (twR B 6 S).2 D
def st5 (B : Nat → Int32) (st : Int32) (S : MS) (D : Nat → Int32) : LQ := if (twR B 5 S).1 = true then fireM B st ((twR B 5 S).2, D) else st6 B st (twR B 5 S).2 D
def st4 (B : Nat → Int32) (st : Int32) (S : MS) (D : Nat → Int32) : LQ := if (twR B 4 S).1 = true then carM B st ((twR B 4 S).2, D) else st5 B st (twR B 4 S).2 D
def st3 (B : Nat → Int32) (st : Int32) (S : MS) (D : Nat → Int32) : LQ := if (twR B 3 S).1 = true then fanM B ((twR B 3 S).2, D) else st4 B st (twR B 3 S).2 D
def st2 (B : Nat → Int32) (st : Int32) (S : MS) (D : Nat → Int32) : LQ := if (twR B 2 S).1 = true then ventM B ((twR B 2 S).2, D) else st3 B st (twR B 2 S).2 D
def st1 (B : Nat → Int32) (st : Int32) (S : MS) (D : Nat → Int32) : LQ := if (twR B 1 S).1 = true then bayM B st ((twR B 1 S).2, D) else st2 B st (twR B 1 S).2 D
/-- a statement's kind -/
def stK (B : Nat → Int32) (S : MS) (D : Nat → Int32) : LQ := st1 B (nI S.po) S D
def stM (B : Nat → Int32) (X : LQ) : LQ := (expR2 B 59 (stK B (nxR B X.1) X.2).1, (stK B (nxR B X.1) X.2).2)
theorem Kp_way {B : Nat → Int32} {s : MS} (h : MJ s) : Kp s (wayM B s).2 := by
  have h1 := Kp_tw (B := B) (i := 12) (by decide) h
  have h2 := h1.t (Kp_tw (B := B) (i := 13) (by decide) (h1.mj h))
  unfold wayM
  split
  · exact h1
  · split
    · exact h2
    · exact h2.t (Kp_rep (by decide) (h2.mj h))
theorem Kp_set {B : Nat → Int32} {lm : Int32} {s : MS} (h : MJ s) : Kp s (setM B lm s).2 := by
  have hn := Kp_nx (B := B) h
  unfold setM
  split
  · split
    · rename_i h2
      have h3 := hn.t (Kp_po (byR_in h2 (by decide)))
      exact h3.t (Kp_num (h3.mj h))
    · exact hn.t (Kp_num (hn.mj h))
  · exact Kp_num h
theorem Kp_rs {B D : Nat → Int32} {s : MS} (h : MJ s) : Kp s (rsM B D s).2 := Kp_num h
theorem Kp_fs {B D : Nat → Int32} {mk : Nat} {vl : Int32} {s : MS} (h : MJ s) : Kp s (fsM B D mk vl s).2 := by
  have h1 := Kp_rs (B := B) (D := D) h
  show Kp s (if _ then repR (-3) (rsM B D s).2.ns (rsM B D s).2 else (rsM B D s).2)
  split
  · exact h1.t (Kp_rep (by decide) (h1.mj h))
  · exact h1
theorem Kp_rb {st : Int32} {s : MS} (h : MJ s) : Kp s (rbS st s) := by
  unfold rbS
  split
  · exact Kp_rep (by decide) h
  · exact Kp.r h
theorem Kp_wba {s t : MS} {x : Int32} (h : Kp s t) : Kp s (t.wba x) := ⟨h.1, h.2.1, h.2.2.1, h.2.2.2.1, h.2.2.2.2.1, h.2.2.2.2.2⟩
theorem Kp_bay {B : Nat → Int32} {st : Int32} {X : LQ} (h : MJ X.1) : Kp X.1 (bayM B st X).1 := by
  have h1 := Kp_rb (st := st) h
  have h2 := h1.t (Kp_fs (B := B) (D := X.2) (mk := 4) (vl := -1) (h1.mj h))
  show Kp X.1 ((fsM B X.2 4 (-1) (rbS st X.1)).2.wba ((fsM B X.2 4 (-1) (rbS st X.1)).2.ba + 1))
  generalize (fsM B X.2 4 (-1) (rbS st X.1)).2 = F at h2 ⊢
  exact Kp_wba h2
theorem Kp_vent {B : Nat → Int32} {X : LQ} (h : MJ X.1) : Kp X.1 (ventM B X).1 := by
  have h1 := Kp_fs (B := B) (D := X.2) (mk := 3) (vl := 0) h
  exact h1.t (Kp_num (h1.mj h))
theorem Kp_fan {B : Nat → Int32} {X : LQ} (h : MJ X.1) : Kp X.1 (fanM B X).1 := by
  have h1 := Kp_fs (B := B) (D := X.2) (mk := 1) (vl := 0) h
  exact h1.t (Kp_set (h1.mj h))
theorem Kp_car {B : Nat → Int32} {st : Int32} {X : LQ} (h : MJ X.1) : Kp X.1 (carM B st X).1 := by
  have h0 : Kp X.1 (rcS st X) := by
    unfold rcS
    split
    · exact Kp_rep (by decide) h
    · exact Kp.r h
  have h1 := h0.t (Kp_rs (B := B) (D := X.2) (h0.mj h))
  have h2 := h1.t (Kp_way (B := B) (h1.mj h))
  show Kp X.1 (rcE B st X)
  unfold rcE
  split
  · exact h2.t (Kp_rep (by decide) (h2.mj h))
  · exact h2
theorem Kp_red {B : Nat → Int32} {X : LQ} (h : MJ X.1) : Kp X.1 (redM B X).1 := by
  have h1 := Kp_rs (B := B) (D := X.2) h
  exact h1.t (Kp_way (h1.mj h))
theorem onS_k {b st : Int32} {s : MS} (h : MJ s) : Kp s (onS b st s) := by
  unfold onS
  split
  · exact Kp_rep (by decide) h
  · exact Kp.r h
/-- what a statement marked once keeps -/
def Ko (s t : MS) : Prop := MJ t ∧ t.tl = s.tl ∧ s.po ≤ t.po ∧ t.ne = s.ne ∧ (t.er = 0 → s.er = 0) ∧ (t.th, t.bl, t.eo, t.ud, t.bs, t.bt) = (s.th, s.bl, s.eo, s.ud, s.bs, s.bt)
theorem Kp.o {s t : MS} (h : Kp s t) (hs : MJ s) : Ko s t := by
  refine ⟨h.mj hs, h.1, h.2.1, h.2.2.2.1, h.2.2.2.2.1, ?_⟩
  have h1 := h.2.2.2.2.2
  unfold gx at h1
  simp only [Prod.mk.injEq] at h1 ⊢
  exact ⟨h1.1, h1.2.1, h1.2.2.1, h1.2.2.2.1, h1.2.2.2.2.2⟩
theorem Ko.t {s t u : MS} (h1 : Ko s t) (h2 : Ko t u) : Ko s u := ⟨h2.1, h2.2.1.trans h1.2.1, Nat.le_trans h1.2.2.1 h2.2.2.1, h2.2.2.2.1.trans h1.2.2.2.1, fun h => h1.2.2.2.2.1 (h2.2.2.2.2.1 h), h2.2.2.2.2.2.trans h1.2.2.2.2.2⟩
theorem Ko_wse {s t : MS} {x : Int32} (h : Ko s t) : Ko s (t.wse x) := ⟨h.1, h.2.1, h.2.2.1, h.2.2.2.1, h.2.2.2.2.1, h.2.2.2.2.2⟩
theorem Ko_on {b st : Int32} {s : MS} (h : MJ s) : Ko s (onM b st s) := by
  have h1 := (onS_k (b := b) (st := st) h).o h
  show Ko s ((onS b st s).wse ((onS b st s).se ||| (1 <<< (b &&& 31))))
  generalize onS b st s = F at h1 ⊢
  exact Ko_wse h1
theorem Ko_fire {B : Nat → Int32} {st : Int32} {X : LQ} (h : MJ X.1) : Ko X.1 (fireM B st X).1 := by
  have h2 := Ko_on (b := 0) (st := st) h
  show Ko X.1 (rsM B X.2 (onM 0 st X.1)).2
  generalize onM 0 st X.1 = F at h2 ⊢
  exact h2.t ((Kp_rs h2.1).o h2.1)
theorem Ko_draft {B : Nat → Int32} {st : Int32} {X : LQ} (h : MJ X.1) : Ko X.1 (draftM B st X).1 := by
  have h2 := Ko_on (b := 1) (st := st) h
  show Ko X.1 (setM B 100 (onM 1 st X.1)).2
  generalize onM 1 st X.1 = F at h2 ⊢
  exact h2.t ((Kp_set h2.1).o h2.1)
theorem Ko_rate {B : Nat → Int32} {st : Int32} {X : LQ} (h : MJ X.1) : Ko X.1 (rateM B st X).1 := by
  have h2 := Ko_on (b := 2) (st := st) h
  show Ko X.1 (sumL2 B 4 (onM 2 st X.1, upd X.2 6 1)).1
  generalize onM 2 st X.1 = F at h2 ⊢
  exact h2.t ((GK_sum 4 (F, upd X.2 6 1) h2.1).1.o h2.1)
theorem Ko_st8 {B : Nat → Int32} {st : Int32} {S : MS} {D : Nat → Int32} (h : MJ S) : Ko S (st8 B st S D).1 := by
  have hk := (Kp_tw (B := B) (i := 8) (by decide) h).o h
  unfold st8
  generalize twR B 8 S = W at hk ⊢
  have hW : MJ W.2 := hk.1
  split
  · exact hk.t (Ko_rate (X := (W.2, D)) hW)
  · exact hk.t ((Kp_rep (by decide) hW).o hW)
theorem Ko_st7 {B : Nat → Int32} {st : Int32} {S : MS} {D : Nat → Int32} (h : MJ S) : Ko S (st7 B st S D).1 := by
  have hk := (Kp_tw (B := B) (i := 7) (by decide) h).o h
  unfold st7
  generalize twR B 7 S = W at hk ⊢
  have hW : MJ W.2 := hk.1
  split
  · exact hk.t ((Kp_red (X := (W.2, D)) hW).o hW)
  · exact hk.t (Ko_st8 hW)
theorem Ko_st6 {B : Nat → Int32} {st : Int32} {S : MS} {D : Nat → Int32} (h : MJ S) : Ko S (st6 B st S D).1 := by
  have hk := (Kp_tw (B := B) (i := 6) (by decide) h).o h
  unfold st6
  generalize twR B 6 S = W at hk ⊢
  have hW : MJ W.2 := hk.1
  split
  · exact hk.t (Ko_draft (X := (W.2, D)) hW)
  · exact hk.t (Ko_st7 hW)
theorem Ko_st5 {B : Nat → Int32} {st : Int32} {S : MS} {D : Nat → Int32} (h : MJ S) : Ko S (st5 B st S D).1 := by
  have hk := (Kp_tw (B := B) (i := 5) (by decide) h).o h
  unfold st5
  generalize twR B 5 S = W at hk ⊢
  have hW : MJ W.2 := hk.1
  split
  · exact hk.t (Ko_fire (X := (W.2, D)) hW)
  · exact hk.t (Ko_st6 hW)
theorem Ko_st4 {B : Nat → Int32} {st : Int32} {S : MS} {D : Nat → Int32} (h : MJ S) : Ko S (st4 B st S D).1 := by
  have hk := (Kp_tw (B := B) (i := 4) (by decide) h).o h
  unfold st4
  generalize twR B 4 S = W at hk ⊢
  have hW : MJ W.2 := hk.1
  split
  · exact hk.t ((Kp_car (X := (W.2, D)) hW).o hW)
  · exact hk.t (Ko_st5 hW)
theorem Ko_st3 {B : Nat → Int32} {st : Int32} {S : MS} {D : Nat → Int32} (h : MJ S) : Ko S (st3 B st S D).1 := by
  have hk := (Kp_tw (B := B) (i := 3) (by decide) h).o h
  unfold st3
  generalize twR B 3 S = W at hk ⊢
  have hW : MJ W.2 := hk.1
  split
  · exact hk.t ((Kp_fan (X := (W.2, D)) hW).o hW)
  · exact hk.t (Ko_st4 hW)
theorem Ko_st2 {B : Nat → Int32} {st : Int32} {S : MS} {D : Nat → Int32} (h : MJ S) : Ko S (st2 B st S D).1 := by
  have hk := (Kp_tw (B := B) (i := 2) (by decide) h).o h
  unfold st2
  generalize twR B 2 S = W at hk ⊢
  have hW : MJ W.2 := hk.1
  split
  · exact hk.t ((Kp_vent (X := (W.2, D)) hW).o hW)
  · exact hk.t (Ko_st3 hW)
theorem Ko_st1 {B : Nat → Int32} {st : Int32} {S : MS} {D : Nat → Int32} (h : MJ S) : Ko S (st1 B st S D).1 := by
  have hk := (Kp_tw (B := B) (i := 1) (by decide) h).o h
  unfold st1
  generalize twR B 1 S = W at hk ⊢
  have hW : MJ W.2 := hk.1
  split
  · exact hk.t ((Kp_bay (X := (W.2, D)) hW).o hW)
  · exact hk.t (Ko_st2 hW)
/-- what was said once -/
def SE (X : LQ) : Prop := ∃ k, k < 8 ∧ X.1.se = nI k ∧ (X.1.er = 0 → k < 4 → X.2 7 = 0)
theorem on_b : ∀ k, k < 8 → ∀ b, b < 3 → nI k ||| (1 <<< (nI b &&& 31)) = nI (k ||| (1 <<< b)) := by decide
theorem on_2 : ∀ k, k < 8 → ¬ k < 4 → (nI k >>> ((2 : Int32) &&& 31)) &&& 1 = 1 := by decide
theorem onS_se {b st : Int32} {s : MS} : (onS b st s).se = s.se := by
  unfold onS
  split
  · unfold repR
    split
    · rfl
    · rfl
  · rfl
theorem on_room {st : Int32} {X : LQ} (h : SE X) : EI 0 (onM 2 st X.1, upd X.2 6 1) := fun h9 => by
  obtain ⟨k, hk, e, h7⟩ := h
  have h8 : (onS 2 st X.1).er = 0 := h9
  unfold onS at h8
  split at h8
  · exact (rep_er0 h8 (by decide)).elim
  · rename_i hb
    have hk4 : k < 4 := by
      by_cases h5 : k < 4
      · exact h5
      · exact absurd (by rw [e]; exact on_2 k hk h5) hb
    exact ⟨0, by show 2 * ((0 : Nat) : Int) ≤ 3 * _ + 0; omega, by show upd X.2 6 1 7 = _; rw [upd_at, if_neg (by decide), h7 h8 hk4]; rfl⟩
/-- what a statement wants -/
def SB (D : Nat → Int32) (S : MS) : Prop := MJ S ∧ NK (S, D) ∧ CK (S, D) ∧ SE (S, D) ∧ S.ne = 0
theorem SB_k {D : Nat → Int32} {S T : MS} (h : SB D S) (hk : Kp S T) : SB D T := by
  refine ⟨hk.mj h.1, NK_of h.2.1 hk.2.2.2.2.1 rfl, fun h2 => h.2.2.1 (hk.2.2.2.2.1 h2), ?_, hk.2.2.2.1.trans h.2.2.2.2⟩
  obtain ⟨k, h1, h2, h3⟩ := h.2.2.2.1
  have hs : T.se = S.se := by
    have h4 := hk.2.2.2.2.2
    unfold gx at h4
    simp only [Prod.mk.injEq] at h4
    exact h4.2.2.2.2.1
  exact ⟨k, h1, hs.trans h2, fun h9 => h3 (hk.2.2.2.2.1 h9)⟩
set_option maxRecDepth 20000 in
set_option maxHeartbeats 20000000 in
theorem r_statement (l : Launch) (g : Gl) (m : Nat → Nat) (B : Nat → Int32) (X : LQ) (hJ : MJ X.1) (hN : NK X) (hC : CK X) (hE : SE X) (hne : X.1.ne = 0) : Ct l g yX7_statement cX7_statement 3 none 20 800 0 0 [.ref (m 0)] (lcW g m (X).1 B (X).2) (fun v w => v = none ∧ w = (lcW g m (stM B X).1 B (stM B X).2)) noX := by
  refine Ct.intro [some (.ref (m 0)), none, none] (by decide +kernel) (fun _ h => h) (Nat.le_of_ble_eq_true rfl) (fun A H0 K ok => ?_)
  have hSB : SB X.2 (nxR B X.1) := SB_k (S := X.1) ⟨hJ, hN, hC, hE, hne⟩ (Kp_nx hJ)
  have hRJ : MJ (stK B (nxR B X.1) X.2).1 := (Ko_st1 hSB.1).1
  have eF : stM B X = (expR2 B 59 (stK B (nxR B X.1) X.2).1, (stK B (nxR B X.1) X.2).2) := rfl
  have eK : stK B (nxR B X.1) X.2 = st1 B (nI (nxR B X.1).po) (nxR B X.1) X.2 := rfl
  rw [eK] at hRJ eF
  suffices hh : ∀ (D : Nat → Int32) (st : Int32) (R : LQ), MJ R.1 → stM B X = (expR2 B 59 R.1, R.2) → ∀ S : MS, SB D S → st1 B st S D = R → AW g A H0 3 K 10 [some (.ref (m 0)), some (.int st), none] [] (lcW g m S B D) 0 0 by
    have M1 := hh X.2 (nI (nxR B X.1).po) _ hRJ eF
    clear hh
    refine A_aload_n ok.b rfl dX7_statement_0 gp0 ?_
    refine A_callVR ok [0, 1] [2] (As := []) (wr := ([(m 3, .inl (g.2.1 0, 1476, .inl (X.2)))] : va_W)) mf_X7_next ml_X7_75 in_X7_next se_X7_next cf7 gp0 (r_next l g m X.1 B hJ.mi.1 hJ.mi.2) rfl rfl rfl dX7_statement_1 rfl rfl rfl (by decide) (Nat.le_of_ble_eq_true rfl) ⟨(Nat.le_of_ble_eq_true rfl), (Nat.le_of_ble_eq_true rfl)⟩ ⟨(Nat.le_of_ble_eq_true rfl), (Nat.le_of_ble_eq_true rfl)⟩ (fun _ _ hx => hx.elim) (fun v1 w1 q1 => ?_)
    obtain ⟨rfl, rfl⟩ := q1
    refine A_sub [1, 2, 0] (ws2 := lcW g m (nxR B X.1) B X.2) rfl rfl ?_
    refine A_pop ok.b dX7_statement_4 rfl ?_
    refine A_aload_n ok.b rfl dX7_statement_5 gp0 ?_
    refine A_getf ok.b cf7 4 (by decide) fl_X7_54 gp0 (gps (gps (gps (gps gp0)))) dX7_statement_6 ?_
    refine A_istore_n ok.b rfl dX7_statement_9 (by decide) (sts1 rfl st0) ?_
    exact M1 (nxR B X.1) hSB rfl
  clear eK hRJ eF hSB
  intro D st R hRJ eF
  have M229 : AW g A H0 3 K 229 [some (.ref (m 0)), some (.int st), none] [] (lcW g m R.1 B R.2) 0 0 := by
    refine A_aload_n ok.b rfl dX7_statement_229 gp0 ?_
    refine A_bipush ok.b (v := 59) dX7_statement_230 (by decide) ?_
    refine A_callVR ok [0, 1] [2] (As := [_]) (wr := ([(m 3, .inl (g.2.1 0, 1476, .inl (R.2)))] : va_W)) mf_X7_expect ml_X7_121 in_X7_expect se_X7_expect cf7 gp0 (r_expect l g m R.1 B hRJ.mi.1 hRJ.mi.2 59) rfl rfl rfl dX7_statement_232 rfl rfl rfl (by decide) (Nat.le_of_ble_eq_true rfl) ⟨(Nat.le_of_ble_eq_true rfl), (Nat.le_of_ble_eq_true rfl)⟩ ⟨(Nat.le_of_ble_eq_true rfl), (Nat.le_of_ble_eq_true rfl)⟩ (fun _ _ hx => hx.elim) (fun v232 w232 q232 => ?_)
    obtain ⟨rfl, rfl⟩ := q232
    refine A_sub [1, 2, 0] (ws2 := (lcW g m (expR2 B 59 R.1) B (R.2))) rfl rfl ?_
    refine A_vret ok dX7_statement_235 (Nat.le_of_ble_eq_true rfl) (Nat.le_of_ble_eq_true rfl) ?_
    exact ⟨rfl, by rw [eF]⟩
  clear eF
  have M8 : ∀ S : MS, SB D S → st8 B st S D = R → AW g A H0 3 K 192 [some (.ref (m 0)), some (.int st), none] [] (lcW g m S B D) 0 0 := by
    intro S hS eR
    refine A_aload_n ok.b rfl dX7_statement_192 gp0 ?_
    refine A_ldcS ok.b (List.mem_of_getElem? (l := sTab) (i := 22) rfl) dX7_statement_193 ?_
    refine A_callVR ok [0, 1] [2] (As := [_]) (wr := ([(m 3, .inl (g.2.1 0, 1476, .inl (D)))] : va_W)) mf_X7_takeWord ml_X7_109 in_X7_takeWord se_X7_takeWord cf7 gp0 (r_takeWord l g m S B hS.1.mi.1 hS.1.mi.2 8 (by decide)) rfl rfl rfl dX7_statement_195 rfl rfl rfl (by decide) (Nat.le_of_ble_eq_true rfl) ⟨(Nat.le_of_ble_eq_true rfl), (Nat.le_of_ble_eq_true rfl)⟩ ⟨(Nat.le_of_ble_eq_true rfl), (Nat.le_of_ble_eq_true rfl)⟩ (fun _ _ hx => hx.elim) (fun v195 w195 q195 => ?_)
    obtain ⟨rfl, rfl⟩ := q195
    have hF := SB_k hS (Kp_tw (B := B) (i := 8) (by decide) hS.1)
    rw [st8] at eR
    generalize twR B 8 S = F at hF eR ⊢
    refine A_sub [1, 2, 0] (ws2 := (lcW g m (F.2) B (D))) rfl rfl ?_
    refine A_if_eq ok.b (tgt := 222) dX7_statement_198 (by decide) (fun c198 => ?_) (fun c198 => ?_)
    · skip
      refine A_aload_n ok.b rfl dX7_statement_222 gp0 ?_
      refine A_bipush ok.b (v := (-2)) dX7_statement_223 (by decide) ?_
      refine A_iload_n ok.b rfl dX7_statement_225 (gps gp0) ?_
      refine A_callVR ok [0, 1] [2] (As := [_, _]) (wr := ([(m 3, .inl (g.2.1 0, 1476, .inl (D)))] : va_W)) mf_X7_report ml_X7_88 in_X7_report se_X7_report cf7 gp0 (r_report l g m F.2 B hF.1.mi.1 _ _) rfl rfl rfl dX7_statement_226 rfl rfl rfl (by decide) (Nat.le_of_ble_eq_true rfl) ⟨(Nat.le_of_ble_eq_true rfl), (Nat.le_of_ble_eq_true rfl)⟩ ⟨(Nat.le_of_ble_eq_true rfl), (Nat.le_of_ble_eq_true rfl)⟩ (fun _ _ hx => hx.elim) (fun v226 w226 q226 => ?_)
      obtain ⟨rfl, rfl⟩ := q226
      refine A_sub [1, 2, 0] (ws2 := (lcW g m (repR (-2) st F.2) B (D))) rfl rfl ?_
      rw [if_neg (bI_z c198)] at eR
      subst eR
      exact M229
    · skip
      have e9 : rateM B st (F.2, D) = sumL2 B 4 (onM 2 st F.2, upd D 6 1) := rfl
      rw [if_pos (bI_n c198), e9] at eR
      have hO := (Ko_on (b := 2) (st := st) hF.1)
      have hE := on_room (st := st) hF.2.2.2.1
      have hOn : (onM 2 st F.2).ne = 0 := hO.2.2.2.1.trans hF.2.2.2.2
      have hE2 : EI 0 (onM 2 st F.2, upd D 6 1) := hE
      have hO1 := hO.1
      clear hE hO
      refine A_aload_n ok.b rfl dX7_statement_201 gp0 ?_
      refine A_iconst ok.b (v := 2) dX7_statement_202 (by decide) ?_
      refine A_iload_n ok.b rfl dX7_statement_203 (gps gp0) ?_
      refine A_sameVR ok (As := [_, _]) mf_X7_once ml_X7_186 in_X7_once se_X7_once cf7 gp0 (r_once l g m F.2 B D hF.1.mi 2 st) rfl rfl dX7_statement_204 (Nat.le_of_ble_eq_true rfl) ⟨(Nat.le_of_ble_eq_true rfl), (Nat.le_of_ble_eq_true rfl)⟩ ⟨(Nat.le_of_ble_eq_true rfl), (Nat.le_of_ble_eq_true rfl)⟩ (fun _ _ hx => hx.elim) (fun v204 w204 q204 => ?_)
      obtain ⟨rfl, rfl⟩ := q204
      generalize onM 2 st F.2 = O at hO1 hOn hE2 eR ⊢
      refine A_aload_n ok.b rfl dX7_statement_207 gp0 ?_
      refine A_getf ok.b cf7 9 (by decide) fl_X7_20 gp0 (gps (gps (gps (gps (gps (gps (gps (gps (gps gp0))))))))) dX7_statement_208 ?_
      refine A_bipush ok.b (v := 6) dX7_statement_211 (by decide) ?_
      refine A_iconst ok.b (v := 1) dX7_statement_213 (by decide) ?_
      refine A_iast ok.b (gps (gps gp0)) (ix_n (j := 6) (by decide) (by decide)) (wps (wps wp0)) dX7_statement_214 ?_
      refine A_aload_n ok.b rfl dX7_statement_215 gp0 ?_
      refine A_sameVR ok (As := []) mf_X7_sum ml_X7_118 in_X7_sum se_X7_sum cf7 gp0 (r_sumAll l g m B 4 (Nat.le_refl _) (O, upd D 6 1) hO1 hE2 hOn) rfl rfl dX7_statement_216 (Nat.le_of_ble_eq_true rfl) ⟨(Nat.le_of_ble_eq_true rfl), (Nat.le_of_ble_eq_true rfl)⟩ ⟨(Nat.le_of_ble_eq_true rfl), (Nat.le_of_ble_eq_true rfl)⟩ (fun _ _ hx => hx.elim) (fun v216 w216 q216 => ?_)
      obtain ⟨rfl, rfl⟩ := q216
      refine A_goto ok.b (tgt := 229) dX7_statement_219 (by decide) ?_
      subst eR
      exact M229
  have M7 : ∀ S : MS, SB D S → st7 B st S D = R → AW g A H0 3 K 150 [some (.ref (m 0)), some (.int st), none] [] (lcW g m S B D) 0 0 := by
    intro S hS eR
    refine A_aload_n ok.b rfl dX7_statement_150 gp0 ?_
    refine A_ldcS ok.b (List.mem_of_getElem? (l := sTab) (i := 21) rfl) dX7_statement_151 ?_
    refine A_callVR ok [0, 1] [2] (As := [_]) (wr := ([(m 3, .inl (g.2.1 0, 1476, .inl (D)))] : va_W)) mf_X7_takeWord ml_X7_109 in_X7_takeWord se_X7_takeWord cf7 gp0 (r_takeWord l g m S B hS.1.mi.1 hS.1.mi.2 7 (by decide)) rfl rfl rfl dX7_statement_153 rfl rfl rfl (by decide) (Nat.le_of_ble_eq_true rfl) ⟨(Nat.le_of_ble_eq_true rfl), (Nat.le_of_ble_eq_true rfl)⟩ ⟨(Nat.le_of_ble_eq_true rfl), (Nat.le_of_ble_eq_true rfl)⟩ (fun _ _ hx => hx.elim) (fun v153 w153 q153 => ?_)
    obtain ⟨rfl, rfl⟩ := q153
    have hF := SB_k hS (Kp_tw (B := B) (i := 7) (by decide) hS.1)
    rw [st7] at eR
    generalize twR B 7 S = F at hF eR ⊢
    refine A_sub [1, 2, 0] (ws2 := (lcW g m (F.2) B (D))) rfl rfl ?_
    refine A_if_eq ok.b (tgt := 192) dX7_statement_156 (by decide) (fun c156 => ?_) (fun c156 => ?_)
    · skip
      rw [if_neg (bI_z c156)] at eR
      exact M8 F.2 hF eR
    · skip
      obtain ⟨t, ht, et, _⟩ := rs_in (B := B) hF.2.1
      have hG := (Kp_rs (B := B) (D := D) hF.1).mj hF.1
      have e9 : redM B (F.2, D) = ((wayM B (rsM B D F.2).2).2, upd D (12 + 7 * (rsM B D F.2).1.toNatClampNeg + (if (wayM B (rsM B D F.2).2).1 = 1 then 5 else 6)) 1) := rfl
      rw [if_pos (bI_n c156), e9, et, nI_clamp (by omega)] at eR
      refine A_aload_n ok.b rfl dX7_statement_159 gp0 ?_
      refine A_sameVR ok (As := []) mf_X7_readSection ml_X7_140 in_X7_readSection se_X7_readSection cf7 gp0 (r_readSection l g m F.2 B D hF.1.mi) rfl rfl dX7_statement_160 (Nat.le_of_ble_eq_true rfl) ⟨(Nat.le_of_ble_eq_true rfl), (Nat.le_of_ble_eq_true rfl)⟩ ⟨(Nat.le_of_ble_eq_true rfl), (Nat.le_of_ble_eq_true rfl)⟩ (fun _ _ hx => hx.elim) (fun v160 w160 q160 => ?_)
      obtain ⟨rfl, rfl⟩ := q160
      generalize rsM B D F.2 = N at et hG eR ⊢
      refine A_pureS ok.b (As := [_]) mf_X7_section ml_X7_143 rfl sc_X7_section (r_section l g _) rfl rfl dX7_statement_163 (Nat.le_of_ble_eq_true rfl) ⟨(Nat.le_of_ble_eq_true rfl), (Nat.le_of_ble_eq_true rfl)⟩ ⟨(Nat.le_of_ble_eq_true rfl), (Nat.le_of_ble_eq_true rfl)⟩ ?_
      rw [et, sec_n (by omega)]
      refine A_istore_n ok.b rfl dX7_statement_166 (by decide) (sts (sts1 rfl st0)) ?_
      refine A_aload_n ok.b rfl dX7_statement_167 gp0 ?_
      refine A_getf ok.b cf7 9 (by decide) fl_X7_20 gp0 (gps (gps (gps (gps (gps (gps (gps (gps (gps gp0))))))))) dX7_statement_168 ?_
      refine A_iload_n ok.b rfl dX7_statement_171 (gps (gps gp0)) ?_
      refine A_aload_n ok.b rfl dX7_statement_172 gp0 ?_
      refine A_callVR ok [0, 1] [2] (As := []) (wr := ([(m 3, .inl (g.2.1 0, 1476, .inl (D)))] : va_W)) mf_X7_way ml_X7_155 in_X7_way se_X7_way cf7 gp0 (r_way l g m N.2 B hG.mi) rfl rfl rfl dX7_statement_173 rfl rfl rfl (by decide) (Nat.le_of_ble_eq_true rfl) ⟨(Nat.le_of_ble_eq_true rfl), (Nat.le_of_ble_eq_true rfl)⟩ ⟨(Nat.le_of_ble_eq_true rfl), (Nat.le_of_ble_eq_true rfl)⟩ (fun _ _ hx => hx.elim) (fun v173 w173 q173 => ?_)
      obtain ⟨rfl, rfl⟩ := q173
      generalize wayM B N.2 = Y at eR ⊢
      refine A_sub [1, 2, 0] (ws2 := (lcW g m (Y.2) B (D))) rfl rfl ?_
      refine A_iconst ok.b (v := 1) dX7_statement_176 (by decide) ?_
      refine A_icmp_ne ok.b (tgt := 184) dX7_statement_177 (by decide) (fun c177 => ?_) (fun c177 => ?_)
      · skip
        refine A_bipush ok.b (v := 6) dX7_statement_184 (by decide) ?_
        refine A_iadd ok.b dX7_statement_186 ?_
        rw [show nI (12 + 7 * t) + 6 = nI (12 + 7 * t + 6) from nI_add _ 6]
        refine A_iconst ok.b (v := 1) dX7_statement_187 (by decide) ?_
        refine A_iast ok.b (gps (gps gp0)) (ix_n (by omega) (by decide)) (wps (wps wp0)) dX7_statement_188 ?_
        refine A_goto ok.b (tgt := 229) dX7_statement_189 (by decide) ?_
        refine A_lv (lleK (lleK (lleD lle0))) ?_
        rw [if_neg c177] at eR
        subst eR
        exact M229
      · skip
        refine A_iconst ok.b (v := 5) dX7_statement_180 (by decide) ?_
        refine A_goto ok.b (tgt := 186) dX7_statement_181 (by decide) ?_
        refine A_iadd ok.b dX7_statement_186 ?_
        rw [show nI (12 + 7 * t) + 5 = nI (12 + 7 * t + 5) from nI_add _ 5]
        refine A_iconst ok.b (v := 1) dX7_statement_187 (by decide) ?_
        refine A_iast ok.b (gps (gps gp0)) (ix_n (by omega) (by decide)) (wps (wps wp0)) dX7_statement_188 ?_
        refine A_goto ok.b (tgt := 229) dX7_statement_189 (by decide) ?_
        refine A_lv (lleK (lleK (lleD lle0))) ?_
        rw [if_pos c177] at eR
        subst eR
        exact M229
  have M6 : ∀ S : MS, SB D S → st6 B st S D = R → AW g A H0 3 K 120 [some (.ref (m 0)), some (.int st), none] [] (lcW g m S B D) 0 0 := by
    intro S hS eR
    refine A_aload_n ok.b rfl dX7_statement_120 gp0 ?_
    refine A_ldcS ok.b (List.mem_of_getElem? (l := sTab) (i := 20) rfl) dX7_statement_121 ?_
    refine A_callVR ok [0, 1] [2] (As := [_]) (wr := ([(m 3, .inl (g.2.1 0, 1476, .inl (D)))] : va_W)) mf_X7_takeWord ml_X7_109 in_X7_takeWord se_X7_takeWord cf7 gp0 (r_takeWord l g m S B hS.1.mi.1 hS.1.mi.2 6 (by decide)) rfl rfl rfl dX7_statement_123 rfl rfl rfl (by decide) (Nat.le_of_ble_eq_true rfl) ⟨(Nat.le_of_ble_eq_true rfl), (Nat.le_of_ble_eq_true rfl)⟩ ⟨(Nat.le_of_ble_eq_true rfl), (Nat.le_of_ble_eq_true rfl)⟩ (fun _ _ hx => hx.elim) (fun v123 w123 q123 => ?_)
    obtain ⟨rfl, rfl⟩ := q123
    have hF := SB_k hS (Kp_tw (B := B) (i := 6) (by decide) hS.1)
    rw [st6] at eR
    generalize twR B 6 S = F at hF eR ⊢
    refine A_sub [1, 2, 0] (ws2 := (lcW g m (F.2) B (D))) rfl rfl ?_
    refine A_if_eq ok.b (tgt := 150) dX7_statement_126 (by decide) (fun c126 => ?_) (fun c126 => ?_)
    · skip
      rw [if_neg (bI_z c126)] at eR
      exact M7 F.2 hF eR
    · skip
      have e9 : draftM B st (F.2, D) = ((setM B 100 (onM 1 st F.2)).2, upd D 5 (setM B 100 (onM 1 st F.2)).1) := rfl
      rw [if_pos (bI_n c126), e9] at eR
      have hO := (Ko_on (b := 1) (st := st) hF.1).1
      refine A_aload_n ok.b rfl dX7_statement_129 gp0 ?_
      refine A_iconst ok.b (v := 1) dX7_statement_130 (by decide) ?_
      refine A_iload_n ok.b rfl dX7_statement_131 (gps gp0) ?_
      refine A_sameVR ok (As := [_, _]) mf_X7_once ml_X7_186 in_X7_once se_X7_once cf7 gp0 (r_once l g m F.2 B D hF.1.mi 1 st) rfl rfl dX7_statement_132 (Nat.le_of_ble_eq_true rfl) ⟨(Nat.le_of_ble_eq_true rfl), (Nat.le_of_ble_eq_true rfl)⟩ ⟨(Nat.le_of_ble_eq_true rfl), (Nat.le_of_ble_eq_true rfl)⟩ (fun _ _ hx => hx.elim) (fun v132 w132 q132 => ?_)
      obtain ⟨rfl, rfl⟩ := q132
      generalize onM 1 st F.2 = O at hO eR ⊢
      refine A_aload_n ok.b rfl dX7_statement_135 gp0 ?_
      refine A_getf ok.b cf7 9 (by decide) fl_X7_20 gp0 (gps (gps (gps (gps (gps (gps (gps (gps (gps gp0))))))))) dX7_statement_136 ?_
      refine A_iconst ok.b (v := 5) dX7_statement_139 (by decide) ?_
      refine A_aload_n ok.b rfl dX7_statement_140 gp0 ?_
      refine A_bipush ok.b (v := 100) dX7_statement_141 (by decide) ?_
      refine A_callVR ok [0, 1] [2] (As := [_]) (wr := ([(m 3, .inl (g.2.1 0, 1476, .inl (D)))] : va_W)) mf_X7_setting ml_X7_152 in_X7_setting se_X7_setting cf7 gp0 (r_setting l g m O B hO.mi.1 hO.mi.2 100) rfl rfl rfl dX7_statement_143 rfl rfl rfl (by decide) (Nat.le_of_ble_eq_true rfl) ⟨(Nat.le_of_ble_eq_true rfl), (Nat.le_of_ble_eq_true rfl)⟩ ⟨(Nat.le_of_ble_eq_true rfl), (Nat.le_of_ble_eq_true rfl)⟩ (fun _ _ hx => hx.elim) (fun v143 w143 q143 => ?_)
      obtain ⟨rfl, rfl⟩ := q143
      generalize setM B 100 O = N at eR ⊢
      refine A_sub [1, 2, 0] (ws2 := (lcW g m (N.2) B (D))) rfl rfl ?_
      refine A_iast ok.b (gps (gps gp0)) (ix_n (j := 5) (by decide) (by decide)) (wps (wps wp0)) dX7_statement_146 ?_
      refine A_goto ok.b (tgt := 229) dX7_statement_147 (by decide) ?_
      subst eR
      exact M229
  have M5 : ∀ S : MS, SB D S → st5 B st S D = R → AW g A H0 3 K 92 [some (.ref (m 0)), some (.int st), none] [] (lcW g m S B D) 0 0 := by
    intro S hS eR
    refine A_aload_n ok.b rfl dX7_statement_92 gp0 ?_
    refine A_ldcS ok.b (List.mem_of_getElem? (l := sTab) (i := 19) rfl) dX7_statement_93 ?_
    refine A_callVR ok [0, 1] [2] (As := [_]) (wr := ([(m 3, .inl (g.2.1 0, 1476, .inl (D)))] : va_W)) mf_X7_takeWord ml_X7_109 in_X7_takeWord se_X7_takeWord cf7 gp0 (r_takeWord l g m S B hS.1.mi.1 hS.1.mi.2 5 (by decide)) rfl rfl rfl dX7_statement_95 rfl rfl rfl (by decide) (Nat.le_of_ble_eq_true rfl) ⟨(Nat.le_of_ble_eq_true rfl), (Nat.le_of_ble_eq_true rfl)⟩ ⟨(Nat.le_of_ble_eq_true rfl), (Nat.le_of_ble_eq_true rfl)⟩ (fun _ _ hx => hx.elim) (fun v95 w95 q95 => ?_)
    obtain ⟨rfl, rfl⟩ := q95
    have hF := SB_k hS (Kp_tw (B := B) (i := 5) (by decide) hS.1)
    rw [st5] at eR
    generalize twR B 5 S = F at hF eR ⊢
    refine A_sub [1, 2, 0] (ws2 := (lcW g m (F.2) B (D))) rfl rfl ?_
    refine A_if_eq ok.b (tgt := 120) dX7_statement_98 (by decide) (fun c98 => ?_) (fun c98 => ?_)
    · skip
      rw [if_neg (bI_z c98)] at eR
      exact M6 F.2 hF eR
    · skip
      have e9 : fireM B st (F.2, D) = ((rsM B D (onM 0 st F.2)).2, upd D 4 (rsM B D (onM 0 st F.2)).1) := rfl
      rw [if_pos (bI_n c98), e9] at eR
      have hO := (Ko_on (b := 0) (st := st) hF.1).1
      refine A_aload_n ok.b rfl dX7_statement_101 gp0 ?_
      refine A_iconst ok.b (v := 0) dX7_statement_102 (by decide) ?_
      refine A_iload_n ok.b rfl dX7_statement_103 (gps gp0) ?_
      refine A_sameVR ok (As := [_, _]) mf_X7_once ml_X7_186 in_X7_once se_X7_once cf7 gp0 (r_once l g m F.2 B D hF.1.mi 0 st) rfl rfl dX7_statement_104 (Nat.le_of_ble_eq_true rfl) ⟨(Nat.le_of_ble_eq_true rfl), (Nat.le_of_ble_eq_true rfl)⟩ ⟨(Nat.le_of_ble_eq_true rfl), (Nat.le_of_ble_eq_true rfl)⟩ (fun _ _ hx => hx.elim) (fun v104 w104 q104 => ?_)
      obtain ⟨rfl, rfl⟩ := q104
      generalize onM 0 st F.2 = O at hO eR ⊢
      refine A_aload_n ok.b rfl dX7_statement_107 gp0 ?_
      refine A_getf ok.b cf7 9 (by decide) fl_X7_20 gp0 (gps (gps (gps (gps (gps (gps (gps (gps (gps gp0))))))))) dX7_statement_108 ?_
      refine A_iconst ok.b (v := 4) dX7_statement_111 (by decide) ?_
      refine A_aload_n ok.b rfl dX7_statement_112 gp0 ?_
      refine A_sameVR ok (As := []) mf_X7_readSection ml_X7_140 in_X7_readSection se_X7_readSection cf7 gp0 (r_readSection l g m O B D hO.mi) rfl rfl dX7_statement_113 (Nat.le_of_ble_eq_true rfl) ⟨(Nat.le_of_ble_eq_true rfl), (Nat.le_of_ble_eq_true rfl)⟩ ⟨(Nat.le_of_ble_eq_true rfl), (Nat.le_of_ble_eq_true rfl)⟩ (fun _ _ hx => hx.elim) (fun v113 w113 q113 => ?_)
      obtain ⟨rfl, rfl⟩ := q113
      generalize rsM B D O = N at eR ⊢
      refine A_iast ok.b (gps (gps gp0)) (ix_n (j := 4) (by decide) (by decide)) (wps (wps wp0)) dX7_statement_116 ?_
      refine A_goto ok.b (tgt := 229) dX7_statement_117 (by decide) ?_
      subst eR
      exact M229
  have M4 : ∀ S : MS, SB D S → st4 B st S D = R → AW g A H0 3 K 75 [some (.ref (m 0)), some (.int st), none] [] (lcW g m S B D) 0 0 := by
    intro S hS eR
    refine A_aload_n ok.b rfl dX7_statement_75 gp0 ?_
    refine A_ldcS ok.b (List.mem_of_getElem? (l := sTab) (i := 18) rfl) dX7_statement_76 ?_
    refine A_callVR ok [0, 1] [2] (As := [_]) (wr := ([(m 3, .inl (g.2.1 0, 1476, .inl (D)))] : va_W)) mf_X7_takeWord ml_X7_109 in_X7_takeWord se_X7_takeWord cf7 gp0 (r_takeWord l g m S B hS.1.mi.1 hS.1.mi.2 4 (by decide)) rfl rfl rfl dX7_statement_78 rfl rfl rfl (by decide) (Nat.le_of_ble_eq_true rfl) ⟨(Nat.le_of_ble_eq_true rfl), (Nat.le_of_ble_eq_true rfl)⟩ ⟨(Nat.le_of_ble_eq_true rfl), (Nat.le_of_ble_eq_true rfl)⟩ (fun _ _ hx => hx.elim) (fun v78 w78 q78 => ?_)
    obtain ⟨rfl, rfl⟩ := q78
    have hF := SB_k hS (Kp_tw (B := B) (i := 4) (by decide) hS.1)
    rw [st4] at eR
    generalize twR B 4 S = F at hF eR ⊢
    refine A_sub [1, 2, 0] (ws2 := (lcW g m (F.2) B (D))) rfl rfl ?_
    refine A_if_eq ok.b (tgt := 92) dX7_statement_81 (by decide) (fun c81 => ?_) (fun c81 => ?_)
    · skip
      rw [if_neg (bI_z c81)] at eR
      exact M5 F.2 hF eR
    · skip
      rw [if_pos (bI_n c81)] at eR
      refine A_aload_n ok.b rfl dX7_statement_84 gp0 ?_
      refine A_iload_n ok.b rfl dX7_statement_85 (gps gp0) ?_
      refine A_sameVR ok (As := [_]) mf_X7_readCar ml_X7_181 in_X7_readCar se_X7_readCar cf7 gp0 (r_readCar l g m F.2 B D hF.1.mi hF.2.1 hF.2.2.1 st) rfl rfl dX7_statement_86 (Nat.le_of_ble_eq_true rfl) ⟨(Nat.le_of_ble_eq_true rfl), (Nat.le_of_ble_eq_true rfl)⟩ ⟨(Nat.le_of_ble_eq_true rfl), (Nat.le_of_ble_eq_true rfl)⟩ (fun _ _ hx => hx.elim) (fun v86 w86 q86 => ?_)
      obtain ⟨rfl, rfl⟩ := q86
      refine A_goto ok.b (tgt := 229) dX7_statement_89 (by decide) ?_
      subst eR
      exact M229
  have M3 : ∀ S : MS, SB D S → st3 B st S D = R → AW g A H0 3 K 59 [some (.ref (m 0)), some (.int st), none] [] (lcW g m S B D) 0 0 := by
    intro S hS eR
    refine A_aload_n ok.b rfl dX7_statement_59 gp0 ?_
    refine A_ldcS ok.b (List.mem_of_getElem? (l := sTab) (i := 17) rfl) dX7_statement_60 ?_
    refine A_callVR ok [0, 1] [2] (As := [_]) (wr := ([(m 3, .inl (g.2.1 0, 1476, .inl (D)))] : va_W)) mf_X7_takeWord ml_X7_109 in_X7_takeWord se_X7_takeWord cf7 gp0 (r_takeWord l g m S B hS.1.mi.1 hS.1.mi.2 3 (by decide)) rfl rfl rfl dX7_statement_62 rfl rfl rfl (by decide) (Nat.le_of_ble_eq_true rfl) ⟨(Nat.le_of_ble_eq_true rfl), (Nat.le_of_ble_eq_true rfl)⟩ ⟨(Nat.le_of_ble_eq_true rfl), (Nat.le_of_ble_eq_true rfl)⟩ (fun _ _ hx => hx.elim) (fun v62 w62 q62 => ?_)
    obtain ⟨rfl, rfl⟩ := q62
    have hF := SB_k hS (Kp_tw (B := B) (i := 3) (by decide) hS.1)
    rw [st3] at eR
    generalize twR B 3 S = F at hF eR ⊢
    refine A_sub [1, 2, 0] (ws2 := (lcW g m (F.2) B (D))) rfl rfl ?_
    refine A_if_eq ok.b (tgt := 75) dX7_statement_65 (by decide) (fun c65 => ?_) (fun c65 => ?_)
    · skip
      rw [if_neg (bI_z c65)] at eR
      exact M4 F.2 hF eR
    · skip
      rw [if_pos (bI_n c65)] at eR
      refine A_aload_n ok.b rfl dX7_statement_68 gp0 ?_
      refine A_sameVR ok (As := []) mf_X7_readFan ml_X7_177 in_X7_readFan se_X7_readFan cf7 gp0 (r_readFan l g m F.2 B D hF.1.mi hF.2.1) rfl rfl dX7_statement_69 (Nat.le_of_ble_eq_true rfl) ⟨(Nat.le_of_ble_eq_true rfl), (Nat.le_of_ble_eq_true rfl)⟩ ⟨(Nat.le_of_ble_eq_true rfl), (Nat.le_of_ble_eq_true rfl)⟩ (fun _ _ hx => hx.elim) (fun v69 w69 q69 => ?_)
      obtain ⟨rfl, rfl⟩ := q69
      refine A_goto ok.b (tgt := 229) dX7_statement_72 (by decide) ?_
      subst eR
      exact M229
  have M2 : ∀ S : MS, SB D S → st2 B st S D = R → AW g A H0 3 K 27 [some (.ref (m 0)), some (.int st), none] [] (lcW g m S B D) 0 0 := by
    intro S hS eR
    refine A_aload_n ok.b rfl dX7_statement_27 gp0 ?_
    refine A_ldcS ok.b (List.mem_of_getElem? (l := sTab) (i := 16) rfl) dX7_statement_28 ?_
    refine A_callVR ok [0, 1] [2] (As := [_]) (wr := ([(m 3, .inl (g.2.1 0, 1476, .inl (D)))] : va_W)) mf_X7_takeWord ml_X7_109 in_X7_takeWord se_X7_takeWord cf7 gp0 (r_takeWord l g m S B hS.1.mi.1 hS.1.mi.2 2 (by decide)) rfl rfl rfl dX7_statement_30 rfl rfl rfl (by decide) (Nat.le_of_ble_eq_true rfl) ⟨(Nat.le_of_ble_eq_true rfl), (Nat.le_of_ble_eq_true rfl)⟩ ⟨(Nat.le_of_ble_eq_true rfl), (Nat.le_of_ble_eq_true rfl)⟩ (fun _ _ hx => hx.elim) (fun v30 w30 q30 => ?_)
    obtain ⟨rfl, rfl⟩ := q30
    have hF := SB_k hS (Kp_tw (B := B) (i := 2) (by decide) hS.1)
    rw [st2] at eR
    generalize twR B 2 S = F at hF eR ⊢
    refine A_sub [1, 2, 0] (ws2 := (lcW g m (F.2) B (D))) rfl rfl ?_
    refine A_if_eq ok.b (tgt := 59) dX7_statement_33 (by decide) (fun c33 => ?_) (fun c33 => ?_)
    · skip
      rw [if_neg (bI_z c33)] at eR
      exact M3 F.2 hF eR
    · skip
      obtain ⟨t, ht, et, _⟩ := fs_at (B := B) (mk := 3) (vl := 0) hF.2.1
      have hG := (Kp_fs (B := B) (D := D) (mk := 3) (vl := 0) hF.1).mj hF.1
      have e9 : ventM B (F.2, D) = ((numM B 1 100 (fsM B D 3 0 F.2).2).2, upd D ((fsM B D 3 0 F.2).1 + 3).toNatClampNeg (numM B 1 100 (fsM B D 3 0 F.2).2).1) := rfl
      rw [if_pos (bI_n c33), e9, et, show nI (12 + 7 * t) + 3 = nI (12 + 7 * t + 3) from nI_add _ 3, nI_clamp (by omega)] at eR
      refine A_aload_n ok.b rfl dX7_statement_36 gp0 ?_
      refine A_getf ok.b cf7 9 (by decide) fl_X7_20 gp0 (gps (gps (gps (gps (gps (gps (gps (gps (gps gp0))))))))) dX7_statement_37 ?_
      refine A_aload_n ok.b rfl dX7_statement_40 gp0 ?_
      refine A_iconst ok.b (v := 3) dX7_statement_41 (by decide) ?_
      refine A_iconst ok.b (v := 0) dX7_statement_42 (by decide) ?_
      refine A_sameVR ok (As := [_, _]) mf_X7_freshSection ml_X7_149 in_X7_freshSection se_X7_freshSection cf7 gp0 (r_freshSection l g m F.2 B D hF.1.mi hF.2.1 3 (by decide) 0) rfl rfl dX7_statement_43 (Nat.le_of_ble_eq_true rfl) ⟨(Nat.le_of_ble_eq_true rfl), (Nat.le_of_ble_eq_true rfl)⟩ ⟨(Nat.le_of_ble_eq_true rfl), (Nat.le_of_ble_eq_true rfl)⟩ (fun _ _ hx => hx.elim) (fun v43 w43 q43 => ?_)
      obtain ⟨rfl, rfl⟩ := q43
      generalize fsM B D 3 0 F.2 = G at et hG eR ⊢
      refine A_iconst ok.b (v := 3) dX7_statement_46 (by decide) ?_
      rw [et]
      refine A_iadd ok.b dX7_statement_47 ?_
      rw [show nI (12 + 7 * t) + 3 = nI (12 + 7 * t + 3) from nI_add _ 3]
      refine A_aload_n ok.b rfl dX7_statement_48 gp0 ?_
      refine A_iconst ok.b (v := 1) dX7_statement_49 (by decide) ?_
      refine A_bipush ok.b (v := 100) dX7_statement_50 (by decide) ?_
      refine A_callVR ok [0, 1] [2] (As := [_, _]) (wr := ([(m 3, .inl (g.2.1 0, 1476, .inl (D)))] : va_W)) mf_X7_number ml_X7_104 in_X7_number se_X7_number cf7 gp0 (r_number l g m G.2 B hG.mi.1 hG.mi.2 1 100) rfl rfl rfl dX7_statement_52 rfl rfl rfl (by decide) (Nat.le_of_ble_eq_true rfl) ⟨(Nat.le_of_ble_eq_true rfl), (Nat.le_of_ble_eq_true rfl)⟩ ⟨(Nat.le_of_ble_eq_true rfl), (Nat.le_of_ble_eq_true rfl)⟩ (fun _ _ hx => hx.elim) (fun v52 w52 q52 => ?_)
      obtain ⟨rfl, rfl⟩ := q52
      generalize numM B 1 100 G.2 = N at eR ⊢
      refine A_sub [1, 2, 0] (ws2 := (lcW g m (N.2) B (D))) rfl rfl ?_
      refine A_iast ok.b (gps (gps gp0)) (ix_n (by omega) (by decide)) (wps (wps wp0)) dX7_statement_55 ?_
      refine A_goto ok.b (tgt := 229) dX7_statement_56 (by decide) ?_
      subst eR
      exact M229
  have M1 : ∀ S : MS, SB D S → st1 B st S D = R → AW g A H0 3 K 10 [some (.ref (m 0)), some (.int st), none] [] (lcW g m S B D) 0 0 := by
    intro S hS eR
    refine A_aload_n ok.b rfl dX7_statement_10 gp0 ?_
    refine A_ldcS ok.b (List.mem_of_getElem? (l := sTab) (i := 15) rfl) dX7_statement_11 ?_
    refine A_callVR ok [0, 1] [2] (As := [_]) (wr := ([(m 3, .inl (g.2.1 0, 1476, .inl (D)))] : va_W)) mf_X7_takeWord ml_X7_109 in_X7_takeWord se_X7_takeWord cf7 gp0 (r_takeWord l g m S B hS.1.mi.1 hS.1.mi.2 1 (by decide)) rfl rfl rfl dX7_statement_13 rfl rfl rfl (by decide) (Nat.le_of_ble_eq_true rfl) ⟨(Nat.le_of_ble_eq_true rfl), (Nat.le_of_ble_eq_true rfl)⟩ ⟨(Nat.le_of_ble_eq_true rfl), (Nat.le_of_ble_eq_true rfl)⟩ (fun _ _ hx => hx.elim) (fun v13 w13 q13 => ?_)
    obtain ⟨rfl, rfl⟩ := q13
    have hF := SB_k hS (Kp_tw (B := B) (i := 1) (by decide) hS.1)
    rw [st1] at eR
    generalize twR B 1 S = F at hF eR ⊢
    refine A_sub [1, 2, 0] (ws2 := (lcW g m (F.2) B (D))) rfl rfl ?_
    refine A_if_eq ok.b (tgt := 27) dX7_statement_16 (by decide) (fun c16 => ?_) (fun c16 => ?_)
    · skip
      rw [if_neg (bI_z c16)] at eR
      exact M2 F.2 hF eR
    · skip
      rw [if_pos (bI_n c16)] at eR
      refine A_aload_n ok.b rfl dX7_statement_19 gp0 ?_
      refine A_iload_n ok.b rfl dX7_statement_20 (gps gp0) ?_
      refine A_sameVR ok (As := [_]) mf_X7_readBay ml_X7_170 in_X7_readBay se_X7_readBay cf7 gp0 (r_readBay l g m F.2 B D hF.1.mi hF.2.1 st) rfl rfl dX7_statement_21 (Nat.le_of_ble_eq_true rfl) ⟨(Nat.le_of_ble_eq_true rfl), (Nat.le_of_ble_eq_true rfl)⟩ ⟨(Nat.le_of_ble_eq_true rfl), (Nat.le_of_ble_eq_true rfl)⟩ (fun _ _ hx => hx.elim) (fun v21 w21 q21 => ?_)
      obtain ⟨rfl, rfl⟩ := q21
      refine A_goto ok.b (tgt := 229) dX7_statement_24 (by decide) ?_
      subst eR
      exact M229
  exact M1
