def twS (B : Nat → Int32) : Nat → MS → MS
  | 0, s => s
  | j + 1, s => (twR B (j + 1) (twS B j s)).2
theorem Kp_twS {B : Nat → Int32} {s : MS} (h : MJ s) : ∀ j, j < 13 → Kp s (twS B j s)
  | 0, _ => Kp.r h
  | j + 1, hj => (Kp_twS h j (by omega)).t (Kp_tw (i := j + 1) (by omega) ((Kp_twS h j (by omega)).mj h))
def ventM (B : Nat → Int32) (X : LQ) : LQ := ((numM B 1 100 (fsM B X.2 3 0 X.1).2).2, upd X.2 ((fsM B X.2 3 0 X.1).1 + 3).toNatClampNeg (numM B 1 100 (fsM B X.2 3 0 X.1).2).1)
def fireM (B : Nat → Int32) (st : Int32) (X : LQ) : LQ := ((rsM B X.2 (onM 0 st X.1)).2, upd X.2 4 (rsM B X.2 (onM 0 st X.1)).1)
def draftM (B : Nat → Int32) (st : Int32) (X : LQ) : LQ := ((setM B 100 (onM 1 st X.1)).2, upd X.2 5 (setM B 100 (onM 1 st X.1)).1)
def redM (B : Nat → Int32) (X : LQ) : LQ := ((wayM B (rsM B X.2 X.1).2).2, upd X.2 (12 + 7 * (rsM B X.2 X.1).1.toNatClampNeg + (if (wayM B (rsM B X.2 X.1).2).1 = 1 then 5 else 6)) 1)
def rateM (B : Nat → Int32) (st : Int32) (X : LQ) : LQ := sumL2 B 4 (onM 2 st X.1, upd X.2 6 1)
/-- a statement's kind -/
def stK (B : Nat → Int32) (S : MS) (D : Nat → Int32) : LQ :=
  if (twR B 1 (twS B 0 S)).1 = true then bayM B (nI S.po) (twS B 1 S, D)
  else if (twR B 2 (twS B 1 S)).1 = true then ventM B (twS B 2 S, D)
  else if (twR B 3 (twS B 2 S)).1 = true then fanM B (twS B 3 S, D)
  else if (twR B 4 (twS B 3 S)).1 = true then carM B (nI S.po) (twS B 4 S, D)
  else if (twR B 5 (twS B 4 S)).1 = true then fireM B (nI S.po) (twS B 5 S, D)
  else if (twR B 6 (twS B 5 S)).1 = true then draftM B (nI S.po) (twS B 6 S, D)
  else if (twR B 7 (twS B 6 S)).1 = true then redM B (twS B 7 S, D)
  else if (twR B 8 (twS B 7 S)).1 = true then rateM B (nI S.po) (twS B 8 S, D)
  else (repR (-2) (nI S.po) (twS B 8 S), D)
def stM (B : Nat → Int32) (X : LQ) : LQ := (expR2 B 59 (stK B (nxR B X.1) X.2).1, (stK B (nxR B X.1) X.2).2)
theorem Kp_way {B : Nat → Int32} {s : MS} (h : MJ s) : Kp s (wayM B s).2 := by
  have h1 := Kp_tw (B := B) (i := 12) (by decide) h
  have h2 := h1.t (Kp_tw (B := B) (i := 13) (by decide) (h1.mj h))
  unfold wayM
  split
  · exact h1
  · split
    · exact h2
    · exact h2.t (Kp_rep (by decide) (h2.mj h))
theorem Kp_set {B : Nat → Int32} {lm : Int32} {s : MS} (h : MJ s) : Kp s (setM B lm s).2 := by
  have hn := Kp_nx (B := B) h
  unfold setM
  split
  · split
    · rename_i h2
      have h3 := hn.t (Kp_po (byR_in h2 (by decide)))
      exact h3.t (Kp_num (h3.mj h))
    · exact hn.t (Kp_num (hn.mj h))
  · exact Kp_num h
theorem Kp_rs {B D : Nat → Int32} {s : MS} (h : MJ s) : Kp s (rsM B D s).2 := Kp_num h
theorem Kp_fs {B D : Nat → Int32} {mk : Nat} {vl : Int32} {s : MS} (h : MJ s) : Kp s (fsM B D mk vl s).2 := by
  have h1 := Kp_rs (B := B) (D := D) h
  show Kp s (if _ then repR (-3) (rsM B D s).2.ns (rsM B D s).2 else (rsM B D s).2)
  split
  · exact h1.t (Kp_rep (by decide) (h1.mj h))
  · exact h1
theorem Kp_rb {st : Int32} {s : MS} (h : MJ s) : Kp s (rbS st s) := by
  unfold rbS
  split
  · exact Kp_rep (by decide) h
  · exact Kp.r h
theorem Kp_bay {B : Nat → Int32} {st : Int32} {X : LQ} (h : MJ X.1) : Kp X.1 (bayM B st X).1 := by
  have h1 := Kp_rb (st := st) h
  have h2 := h1.t (Kp_fs (B := B) (D := X.2) (mk := 4) (vl := -1) (h1.mj h))
  exact ⟨h2.1, h2.2.1, h2.2.2.1, h2.2.2.2.1, h2.2.2.2.2.1, h2.2.2.2.2.2⟩
theorem Kp_vent {B : Nat → Int32} {X : LQ} (h : MJ X.1) : Kp X.1 (ventM B X).1 := by
  have h1 := Kp_fs (B := B) (D := X.2) (mk := 3) (vl := 0) h
  exact h1.t (Kp_num (h1.mj h))
theorem Kp_fan {B : Nat → Int32} {X : LQ} (h : MJ X.1) : Kp X.1 (fanM B X).1 := by
  have h1 := Kp_fs (B := B) (D := X.2) (mk := 1) (vl := 0) h
  exact h1.t (Kp_set (h1.mj h))
theorem Kp_car {B : Nat → Int32} {st : Int32} {X : LQ} (h : MJ X.1) : Kp X.1 (carM B st X).1 := by
  have h0 : Kp X.1 (rcS st X) := by
    unfold rcS
    split
    · exact Kp_rep (by decide) h
    · exact Kp.r h
  have h1 := h0.t (Kp_rs (B := B) (D := X.2) (h0.mj h))
  have h2 := h1.t (Kp_way (B := B) (h1.mj h))
  show Kp X.1 (rcE B st X)
  unfold rcE
  split
  · exact h2.t (Kp_rep (by decide) (h2.mj h))
  · exact h2
theorem Kp_red {B : Nat → Int32} {X : LQ} (h : MJ X.1) : Kp X.1 (redM B X).1 := by
  have h1 := Kp_rs (B := B) (D := X.2) h
  exact h1.t (Kp_way (h1.mj h))
theorem onS_k {b st : Int32} {s : MS} (h : MJ s) : Kp s (onS b st s) := by
  unfold onS
  split
  · exact Kp_rep (by decide) h
  · exact Kp.r h
/-- what a statement marked once keeps -/
def Ko (s t : MS) : Prop := MJ t ∧ t.tl = s.tl ∧ s.po ≤ t.po ∧ t.ne = s.ne ∧ (t.er = 0 → s.er = 0) ∧ (t.th, t.bl, t.eo, t.ud, t.bs, t.bt) = (s.th, s.bl, s.eo, s.ud, s.bs, s.bt)
theorem Kp.o {s t : MS} (h : Kp s t) (hs : MJ s) : Ko s t := by
  refine ⟨h.mj hs, h.1, h.2.1, h.2.2.2.1, h.2.2.2.2.1, ?_⟩
  have h1 := h.2.2.2.2.2
  unfold gx at h1
  simp only [Prod.mk.injEq] at h1 ⊢
  exact ⟨h1.1, h1.2.1, h1.2.2.1, h1.2.2.2.1, h1.2.2.2.2.2⟩
theorem Ko.t {s t u : MS} (h1 : Ko s t) (h2 : Ko t u) : Ko s u := ⟨h2.1, h2.2.1.trans h1.2.1, Nat.le_trans h1.2.2.1 h2.2.2.1, h2.2.2.2.1.trans h1.2.2.2.1, fun h => h1.2.2.2.2.1 (h2.2.2.2.2.1 h), h2.2.2.2.2.2.trans h1.2.2.2.2.2⟩
theorem Ko_on {b st : Int32} {s : MS} (h : MJ s) : Ko s (onM b st s) := by
  have h1 := (onS_k (b := b) (st := st) h).o h
  exact ⟨h1.1, h1.2.1, h1.2.2.1, h1.2.2.2.1, h1.2.2.2.2.1, h1.2.2.2.2.2⟩
theorem Ko_st {B : Nat → Int32} {S : MS} {D : Nat → Int32} (h : MJ S) : Ko S (stK B S D).1 := by
  have k := fun j (hj : j < 13) => Kp_twS (B := B) h j hj
  have K := fun j (hj : j < 13) => (k j hj).mj h
  unfold stK
  split
  · exact ((k 1 (by decide)).t (Kp_bay (X := (twS B 1 S, D)) (K 1 (by decide)))).o h
  split
  · exact ((k 2 (by decide)).t (Kp_vent (X := (twS B 2 S, D)) (K 2 (by decide)))).o h
  split
  · exact ((k 3 (by decide)).t (Kp_fan (X := (twS B 3 S, D)) (K 3 (by decide)))).o h
  split
  · exact ((k 4 (by decide)).t (Kp_car (X := (twS B 4 S, D)) (K 4 (by decide)))).o h
  split
  · have h2 := ((k 5 (by decide)).o h).t (Ko_on (b := 0) (st := nI S.po) (K 5 (by decide)))
    exact h2.t ((Kp_rs h2.1).o h2.1)
  split
  · have h2 := ((k 6 (by decide)).o h).t (Ko_on (b := 1) (st := nI S.po) (K 6 (by decide)))
    exact h2.t ((Kp_set h2.1).o h2.1)
  split
  · exact ((k 7 (by decide)).t (Kp_red (X := (twS B 7 S, D)) (K 7 (by decide)))).o h
  split
  · have h2 := ((k 8 (by decide)).o h).t (Ko_on (b := 2) (st := nI S.po) (K 8 (by decide)))
    exact h2.t ((GK_sum 4 (onM 2 (nI S.po) (twS B 8 S), upd D 6 1) h2.1).1.o h2.1)
  · exact ((k 8 (by decide)).t (Kp_rep (by decide) (K 8 (by decide)))).o h
/-- what was said once -/
def SE (X : LQ) : Prop := ∃ k, k < 8 ∧ X.1.se = nI k ∧ (X.1.er = 0 → k < 4 → X.2 7 = 0)
theorem on_b : ∀ k, k < 8 → ∀ b, b < 3 → nI k ||| (1 <<< (nI b &&& 31)) = nI (k ||| (1 <<< b)) := by decide
theorem on_2 : ∀ k, k < 8 → ¬ k < 4 → (nI k >>> ((2 : Int32) &&& 31)) &&& 1 = 1 := by decide
theorem onS_se {b st : Int32} {s : MS} : (onS b st s).se = s.se := by
  unfold onS
  split
  · unfold repR
    split
    · rfl
    · rfl
  · rfl
theorem on_room {st : Int32} {X : LQ} (h : SE X) : EI 0 (onM 2 st X.1, upd X.2 6 1) := fun h9 => by
  obtain ⟨k, hk, e, h7⟩ := h
  have h8 : (onS 2 st X.1).er = 0 := h9
  unfold onS at h8
  split at h8
  · exact (rep_er0 h8 (by decide)).elim
  · rename_i hb
    have hk4 : k < 4 := by
      by_cases h5 : k < 4
      · exact h5
      · exact absurd (by rw [e]; exact on_2 k hk h5) hb
    exact ⟨0, by show 2 * ((0 : Nat) : Int) ≤ 3 * _ + 0; omega, by show upd X.2 6 1 7 = _; rw [upd_at, if_neg (by decide), h7 h8 hk4]; rfl⟩
set_option maxRecDepth 20000 in
set_option maxHeartbeats 2000000 in
theorem r_statement (l : Launch) (g : Gl) (m : Nat → Nat) (B : Nat → Int32) (X : LQ) (hJ : MJ X.1) (hN : NK X) (hC : CK X) (hE : SE X) (hne : X.1.ne = 0) : Ct l g yX7_statement cX7_statement 3 none 20 800 0 0 [.ref (m 0)] (lcW g m (X).1 B (X).2) (fun v w => v = none ∧ w = (lcW g m (stM B X).1 B (stM B X).2)) noX := by
  refine Ct.intro [some (.ref (m 0)), none, none] (by decide +kernel) (fun _ h => h) (Nat.le_of_ble_eq_true rfl) (fun A H0 K ok => ?_)
  refine A_aload_n ok.b rfl dX7_statement_0 gp0 ?_
  refine A_callVR ok [0, 1] [2] (As := []) (wr := ([(m 3, .inl (g.2.1 0, 1476, .inl (X.2)))] : va_W)) mf_X7_next ml_X7_75 in_X7_next se_X7_next cf7 gp0 (r_next l g m X.1 B hJ.mi.1 hJ.mi.2) rfl rfl rfl dX7_statement_1 rfl rfl rfl (by decide) (Nat.le_of_ble_eq_true rfl) ⟨(Nat.le_of_ble_eq_true rfl), (Nat.le_of_ble_eq_true rfl)⟩ ⟨(Nat.le_of_ble_eq_true rfl), (Nat.le_of_ble_eq_true rfl)⟩ (fun _ _ hx => hx.elim) (fun v1 w1 q1 => ?_)
  obtain ⟨rfl, rfl⟩ := q1
  have hSJ : MJ (nxR B X.1) := (Kp_nx hJ).mj hJ
  have hNS : NK (nxR B X.1, X.2) := hN
  have hCS : CK (nxR B X.1, X.2) := hC
  have hES : SE (nxR B X.1, X.2) := hE
  have hnS : (nxR B X.1).ne = 0 := hne
  have eF : stM B X = (expR2 B 59 (stK B (nxR B X.1) X.2).1, (stK B (nxR B X.1) X.2).2) := rfl
  generalize nxR B X.1 = S at hSJ hNS hCS hES hnS eF ⊢
  generalize X.2 = D at hNS hCS hES eF ⊢
  refine A_sub [1, 2, 0] (ws2 := (lcW g m (S) B (D))) rfl rfl ?_
  refine A_pop ok.b dX7_statement_4 rfl ?_
  refine A_aload_n ok.b rfl dX7_statement_5 gp0 ?_
  refine A_getf ok.b cf7 4 (by decide) fl_X7_54 gp0 (gps (gps (gps (gps gp0)))) dX7_statement_6 ?_
  refine A_istore_n ok.b rfl dX7_statement_9 (by decide) (sts1 rfl st0) ?_
  have h0 : MJ (twS B 0 S) := hSJ
  have h1 : MJ (twS B 1 S) := (Kp_twS hSJ 1 (by decide)).mj hSJ
  have h2 : MJ (twS B 2 S) := (Kp_twS hSJ 2 (by decide)).mj hSJ
  have h3 : MJ (twS B 3 S) := (Kp_twS hSJ 3 (by decide)).mj hSJ
  have h4 : MJ (twS B 4 S) := (Kp_twS hSJ 4 (by decide)).mj hSJ
  have h5 : MJ (twS B 5 S) := (Kp_twS hSJ 5 (by decide)).mj hSJ
  have h6 : MJ (twS B 6 S) := (Kp_twS hSJ 6 (by decide)).mj hSJ
  have h7 : MJ (twS B 7 S) := (Kp_twS hSJ 7 (by decide)).mj hSJ
  have h8 : MJ (twS B 8 S) := (Kp_twS hSJ 8 (by decide)).mj hSJ
  have hK := fun j (hj : j < 13) => Kp_twS (B := B) hSJ j hj
  have hNj := fun j (hj : j < 13) => (NK_of (Y := (twS B j S, D)) hNS (hK j hj).2.2.2.2.1 rfl)
  have hCj := fun j (hj : j < 13) => (fun h => hCS ((hK j hj).2.2.2.2.1 h) : CK (twS B j S, D))
  have hEj := fun j (hj : j < 13) => (show SE (twS B j S, D) from by
    obtain ⟨k, h1, h2, h3⟩ := hES
    have hs : (twS B j S).se = S.se := by
      have h4 := (hK j hj).2.2.2.2.2
      unfold gx at h4
      simp only [Prod.mk.injEq] at h4
      exact h4.2.2.2.2.1
    exact ⟨k, h1, hs.trans h2, fun h => h3 ((hK j hj).2.2.2.2.1 h)⟩)
  have M229 : ∀ Z : LQ, stK B S D = Z → AW g A H0 3 K 229 [some (.ref (m 0)), some (.int (nI S.po)), none] [] (lcW g m Z.1 B Z.2) 0 0 := by
    intro Z hZ
    have hZJ : MJ Z.1 := by rw [← hZ]; exact (Ko_st hSJ).1
    refine A_aload_n ok.b rfl dX7_statement_229 gp0 ?_
    refine A_bipush ok.b (v := 59) dX7_statement_230 (by decide) ?_
    refine A_callVR ok [0, 1] [2] (As := [_]) (wr := ([(m 3, .inl (g.2.1 0, 1476, .inl (Z.2)))] : va_W)) mf_X7_expect ml_X7_121 in_X7_expect se_X7_expect cf7 gp0 (r_expect l g m Z.1 B hZJ.mi.1 hZJ.mi.2 59) rfl rfl rfl dX7_statement_232 rfl rfl rfl (by decide) (Nat.le_of_ble_eq_true rfl) ⟨(Nat.le_of_ble_eq_true rfl), (Nat.le_of_ble_eq_true rfl)⟩ ⟨(Nat.le_of_ble_eq_true rfl), (Nat.le_of_ble_eq_true rfl)⟩ (fun _ _ hx => hx.elim) (fun v232 w232 q232 => ?_)
    obtain ⟨rfl, rfl⟩ := q232
    refine A_sub [1, 2, 0] (ws2 := (lcW g m (expR2 B 59 Z.1) B (Z.2))) rfl rfl ?_
    refine A_vret ok dX7_statement_235 (Nat.le_of_ble_eq_true rfl) (Nat.le_of_ble_eq_true rfl) ?_
    rw [hZ] at eF
    exact ⟨rfl, by rw [eF]⟩
  refine A_aload_n ok.b rfl dX7_statement_10 gp0 ?_
  refine A_ldcS ok.b (List.mem_of_getElem? (l := sTab) (i := 15) rfl) dX7_statement_11 ?_
  refine A_callVR ok [0, 1] [2] (As := [_]) (wr := ([(m 3, .inl (g.2.1 0, 1476, .inl (D)))] : va_W)) mf_X7_takeWord ml_X7_109 in_X7_takeWord se_X7_takeWord cf7 gp0 (r_takeWord l g m (twS B 0 S) B h0.mi.1 h0.mi.2 1 (by decide)) rfl rfl rfl dX7_statement_13 rfl rfl rfl (by decide) (Nat.le_of_ble_eq_true rfl) ⟨(Nat.le_of_ble_eq_true rfl), (Nat.le_of_ble_eq_true rfl)⟩ ⟨(Nat.le_of_ble_eq_true rfl), (Nat.le_of_ble_eq_true rfl)⟩ (fun _ _ hx => hx.elim) (fun v13 w13 q13 => ?_)
  obtain ⟨rfl, rfl⟩ := q13
  refine A_sub [1, 2, 0] (ws2 := (lcW g m (twS B 1 S) B (D))) rfl rfl ?_
  refine A_if_eq ok.b (tgt := 27) dX7_statement_16 (by decide) (fun c16 => ?_) (fun c16 => ?_)
  · skip
    refine A_aload_n ok.b rfl dX7_statement_27 gp0 ?_
    refine A_ldcS ok.b (List.mem_of_getElem? (l := sTab) (i := 16) rfl) dX7_statement_28 ?_
    refine A_callVR ok [0, 1] [2] (As := [_]) (wr := ([(m 3, .inl (g.2.1 0, 1476, .inl (D)))] : va_W)) mf_X7_takeWord ml_X7_109 in_X7_takeWord se_X7_takeWord cf7 gp0 (r_takeWord l g m (twS B 1 S) B h1.mi.1 h1.mi.2 2 (by decide)) rfl rfl rfl dX7_statement_30 rfl rfl rfl (by decide) (Nat.le_of_ble_eq_true rfl) ⟨(Nat.le_of_ble_eq_true rfl), (Nat.le_of_ble_eq_true rfl)⟩ ⟨(Nat.le_of_ble_eq_true rfl), (Nat.le_of_ble_eq_true rfl)⟩ (fun _ _ hx => hx.elim) (fun v30 w30 q30 => ?_)
    obtain ⟨rfl, rfl⟩ := q30
    refine A_sub [1, 2, 0] (ws2 := (lcW g m (twS B 2 S) B (D))) rfl rfl ?_
    refine A_if_eq ok.b (tgt := 59) dX7_statement_33 (by decide) (fun c33 => ?_) (fun c33 => ?_)
    · skip
      refine A_aload_n ok.b rfl dX7_statement_59 gp0 ?_
      refine A_ldcS ok.b (List.mem_of_getElem? (l := sTab) (i := 17) rfl) dX7_statement_60 ?_
      refine A_callVR ok [0, 1] [2] (As := [_]) (wr := ([(m 3, .inl (g.2.1 0, 1476, .inl (D)))] : va_W)) mf_X7_takeWord ml_X7_109 in_X7_takeWord se_X7_takeWord cf7 gp0 (r_takeWord l g m (twS B 2 S) B h2.mi.1 h2.mi.2 3 (by decide)) rfl rfl rfl dX7_statement_62 rfl rfl rfl (by decide) (Nat.le_of_ble_eq_true rfl) ⟨(Nat.le_of_ble_eq_true rfl), (Nat.le_of_ble_eq_true rfl)⟩ ⟨(Nat.le_of_ble_eq_true rfl), (Nat.le_of_ble_eq_true rfl)⟩ (fun _ _ hx => hx.elim) (fun v62 w62 q62 => ?_)
      obtain ⟨rfl, rfl⟩ := q62
      refine A_sub [1, 2, 0] (ws2 := (lcW g m (twS B 3 S) B (D))) rfl rfl ?_
      refine A_if_eq ok.b (tgt := 75) dX7_statement_65 (by decide) (fun c65 => ?_) (fun c65 => ?_)
      · skip
        refine A_aload_n ok.b rfl dX7_statement_75 gp0 ?_
        refine A_ldcS ok.b (List.mem_of_getElem? (l := sTab) (i := 18) rfl) dX7_statement_76 ?_
        refine A_callVR ok [0, 1] [2] (As := [_]) (wr := ([(m 3, .inl (g.2.1 0, 1476, .inl (D)))] : va_W)) mf_X7_takeWord ml_X7_109 in_X7_takeWord se_X7_takeWord cf7 gp0 (r_takeWord l g m (twS B 3 S) B h3.mi.1 h3.mi.2 4 (by decide)) rfl rfl rfl dX7_statement_78 rfl rfl rfl (by decide) (Nat.le_of_ble_eq_true rfl) ⟨(Nat.le_of_ble_eq_true rfl), (Nat.le_of_ble_eq_true rfl)⟩ ⟨(Nat.le_of_ble_eq_true rfl), (Nat.le_of_ble_eq_true rfl)⟩ (fun _ _ hx => hx.elim) (fun v78 w78 q78 => ?_)
        obtain ⟨rfl, rfl⟩ := q78
        refine A_sub [1, 2, 0] (ws2 := (lcW g m (twS B 4 S) B (D))) rfl rfl ?_
        refine A_if_eq ok.b (tgt := 92) dX7_statement_81 (by decide) (fun c81 => ?_) (fun c81 => ?_)
        · skip
          refine A_aload_n ok.b rfl dX7_statement_92 gp0 ?_
          refine A_ldcS ok.b (List.mem_of_getElem? (l := sTab) (i := 19) rfl) dX7_statement_93 ?_
          refine A_callVR ok [0, 1] [2] (As := [_]) (wr := ([(m 3, .inl (g.2.1 0, 1476, .inl (D)))] : va_W)) mf_X7_takeWord ml_X7_109 in_X7_takeWord se_X7_takeWord cf7 gp0 (r_takeWord l g m (twS B 4 S) B h4.mi.1 h4.mi.2 5 (by decide)) rfl rfl rfl dX7_statement_95 rfl rfl rfl (by decide) (Nat.le_of_ble_eq_true rfl) ⟨(Nat.le_of_ble_eq_true rfl), (Nat.le_of_ble_eq_true rfl)⟩ ⟨(Nat.le_of_ble_eq_true rfl), (Nat.le_of_ble_eq_true rfl)⟩ (fun _ _ hx => hx.elim) (fun v95 w95 q95 => ?_)
          obtain ⟨rfl, rfl⟩ := q95
          refine A_sub [1, 2, 0] (ws2 := (lcW g m (twS B 5 S) B (D))) rfl rfl ?_
          refine A_if_eq ok.b (tgt := 120) dX7_statement_98 (by decide) (fun c98 => ?_) (fun c98 => ?_)
          · skip
            refine A_aload_n ok.b rfl dX7_statement_120 gp0 ?_
            refine A_ldcS ok.b (List.mem_of_getElem? (l := sTab) (i := 20) rfl) dX7_statement_121 ?_
            refine A_callVR ok [0, 1] [2] (As := [_]) (wr := ([(m 3, .inl (g.2.1 0, 1476, .inl (D)))] : va_W)) mf_X7_takeWord ml_X7_109 in_X7_takeWord se_X7_takeWord cf7 gp0 (r_takeWord l g m (twS B 5 S) B h5.mi.1 h5.mi.2 6 (by decide)) rfl rfl rfl dX7_statement_123 rfl rfl rfl (by decide) (Nat.le_of_ble_eq_true rfl) ⟨(Nat.le_of_ble_eq_true rfl), (Nat.le_of_ble_eq_true rfl)⟩ ⟨(Nat.le_of_ble_eq_true rfl), (Nat.le_of_ble_eq_true rfl)⟩ (fun _ _ hx => hx.elim) (fun v123 w123 q123 => ?_)
            obtain ⟨rfl, rfl⟩ := q123
            refine A_sub [1, 2, 0] (ws2 := (lcW g m (twS B 6 S) B (D))) rfl rfl ?_
            refine A_if_eq ok.b (tgt := 150) dX7_statement_126 (by decide) (fun c126 => ?_) (fun c126 => ?_)
            · skip
              refine A_aload_n ok.b rfl dX7_statement_150 gp0 ?_
              refine A_ldcS ok.b (List.mem_of_getElem? (l := sTab) (i := 21) rfl) dX7_statement_151 ?_
              refine A_callVR ok [0, 1] [2] (As := [_]) (wr := ([(m 3, .inl (g.2.1 0, 1476, .inl (D)))] : va_W)) mf_X7_takeWord ml_X7_109 in_X7_takeWord se_X7_takeWord cf7 gp0 (r_takeWord l g m (twS B 6 S) B h6.mi.1 h6.mi.2 7 (by decide)) rfl rfl rfl dX7_statement_153 rfl rfl rfl (by decide) (Nat.le_of_ble_eq_true rfl) ⟨(Nat.le_of_ble_eq_true rfl), (Nat.le_of_ble_eq_true rfl)⟩ ⟨(Nat.le_of_ble_eq_true rfl), (Nat.le_of_ble_eq_true rfl)⟩ (fun _ _ hx => hx.elim) (fun v153 w153 q153 => ?_)
              obtain ⟨rfl, rfl⟩ := q153
              refine A_sub [1, 2, 0] (ws2 := (lcW g m (twS B 7 S) B (D))) rfl rfl ?_
              refine A_if_eq ok.b (tgt := 192) dX7_statement_156 (by decide) (fun c156 => ?_) (fun c156 => ?_)
              · skip
                refine A_aload_n ok.b rfl dX7_statement_192 gp0 ?_
                refine A_ldcS ok.b (List.mem_of_getElem? (l := sTab) (i := 22) rfl) dX7_statement_193 ?_
                refine A_callVR ok [0, 1] [2] (As := [_]) (wr := ([(m 3, .inl (g.2.1 0, 1476, .inl (D)))] : va_W)) mf_X7_takeWord ml_X7_109 in_X7_takeWord se_X7_takeWord cf7 gp0 (r_takeWord l g m (twS B 7 S) B h7.mi.1 h7.mi.2 8 (by decide)) rfl rfl rfl dX7_statement_195 rfl rfl rfl (by decide) (Nat.le_of_ble_eq_true rfl) ⟨(Nat.le_of_ble_eq_true rfl), (Nat.le_of_ble_eq_true rfl)⟩ ⟨(Nat.le_of_ble_eq_true rfl), (Nat.le_of_ble_eq_true rfl)⟩ (fun _ _ hx => hx.elim) (fun v195 w195 q195 => ?_)
                obtain ⟨rfl, rfl⟩ := q195
                refine A_sub [1, 2, 0] (ws2 := (lcW g m (twS B 8 S) B (D))) rfl rfl ?_
                refine A_if_eq ok.b (tgt := 222) dX7_statement_198 (by decide) (fun c198 => ?_) (fun c198 => ?_)
                · skip
                  refine A_aload_n ok.b rfl dX7_statement_222 gp0 ?_
                  refine A_bipush ok.b (v := (-2)) dX7_statement_223 (by decide) ?_
                  refine A_iload_n ok.b rfl dX7_statement_225 (gps gp0) ?_
                  refine A_callVR ok [0, 1] [2] (As := [_, _]) (wr := ([(m 3, .inl (g.2.1 0, 1476, .inl (D)))] : va_W)) mf_X7_report ml_X7_88 in_X7_report se_X7_report cf7 gp0 (r_report l g m (twS B 8 S) B h8.mi.1 _ _) rfl rfl rfl dX7_statement_226 rfl rfl rfl (by decide) (Nat.le_of_ble_eq_true rfl) ⟨(Nat.le_of_ble_eq_true rfl), (Nat.le_of_ble_eq_true rfl)⟩ ⟨(Nat.le_of_ble_eq_true rfl), (Nat.le_of_ble_eq_true rfl)⟩ (fun _ _ hx => hx.elim) (fun v226 w226 q226 => ?_)
                  obtain ⟨rfl, rfl⟩ := q226
                  refine A_sub [1, 2, 0] (ws2 := (lcW g m (repR (-2) (nI S.po) (twS B 8 S)) B (D))) rfl rfl ?_
                  exact M229 ((repR (-2) (nI S.po) (twS B 8 S), D)) (by rw [stK, if_neg (bI_z c16), if_neg (bI_z c33), if_neg (bI_z c65), if_neg (bI_z c81), if_neg (bI_z c98), if_neg (bI_z c126), if_neg (bI_z c156), if_neg (bI_z c198)])
                · skip
                  refine A_aload_n ok.b rfl dX7_statement_201 gp0 ?_
                  refine A_iconst ok.b (v := 2) dX7_statement_202 (by decide) ?_
                  refine A_iload_n ok.b rfl dX7_statement_203 (gps gp0) ?_
                  refine A_sameVR ok (As := [_, _]) mf_X7_once ml_X7_186 in_X7_once se_X7_once cf7 gp0 (r_once l g m (twS B 8 S) B D h8.mi 2 (nI S.po)) rfl rfl dX7_statement_204 (Nat.le_of_ble_eq_true rfl) ⟨(Nat.le_of_ble_eq_true rfl), (Nat.le_of_ble_eq_true rfl)⟩ ⟨(Nat.le_of_ble_eq_true rfl), (Nat.le_of_ble_eq_true rfl)⟩ (fun _ _ hx => hx.elim) (fun v204 w204 q204 => ?_)
                  obtain ⟨rfl, rfl⟩ := q204
                  have hO := (Ko_on (b := 2) (st := nI S.po) h8)
                  refine A_aload_n ok.b rfl dX7_statement_207 gp0 ?_
                  refine A_getf ok.b cf7 9 (by decide) fl_X7_20 gp0 (gps (gps (gps (gps (gps (gps (gps (gps (gps gp0))))))))) dX7_statement_208 ?_
                  refine A_bipush ok.b (v := 6) dX7_statement_211 (by decide) ?_
                  refine A_iconst ok.b (v := 1) dX7_statement_213 (by decide) ?_
                  refine A_iast ok.b (gps (gps gp0)) (ix_n (j := 6) (by decide) (by decide)) (wps (wps wp0)) dX7_statement_214 ?_
                  refine A_aload_n ok.b rfl dX7_statement_215 gp0 ?_
                  refine A_sameVR ok (As := []) mf_X7_sum ml_X7_118 in_X7_sum se_X7_sum cf7 gp0 (r_sumAll l g m B 4 (Nat.le_refl _) (onM 2 (nI S.po) (twS B 8 S), upd D 6 1) hO.1 (on_room (hEj 8 (by decide))) (hO.2.2.2.1.trans ((hK 8 (by decide)).2.2.2.1.trans hnS))) rfl rfl dX7_statement_216 (Nat.le_of_ble_eq_true rfl) ⟨(Nat.le_of_ble_eq_true rfl), (Nat.le_of_ble_eq_true rfl)⟩ ⟨(Nat.le_of_ble_eq_true rfl), (Nat.le_of_ble_eq_true rfl)⟩ (fun _ _ hx => hx.elim) (fun v216 w216 q216 => ?_)
                  obtain ⟨rfl, rfl⟩ := q216
                  refine A_goto ok.b (tgt := 229) dX7_statement_219 (by decide) ?_
                  exact M229 (rateM B (nI S.po) (twS B 8 S, D)) (by rw [stK, if_neg (bI_z c16), if_neg (bI_z c33), if_neg (bI_z c65), if_neg (bI_z c81), if_neg (bI_z c98), if_neg (bI_z c126), if_neg (bI_z c156), if_pos (bI_n c198)])
              · skip
                obtain ⟨t, ht, et, _⟩ := rs_in (B := B) (hNj 7 (by decide))
                have hF := (Kp_rs (B := B) (D := D) h7).mj h7
                refine A_aload_n ok.b rfl dX7_statement_159 gp0 ?_
                refine A_sameVR ok (As := []) mf_X7_readSection ml_X7_140 in_X7_readSection se_X7_readSection cf7 gp0 (r_readSection l g m (twS B 7 S) B D h7.mi) rfl rfl dX7_statement_160 (Nat.le_of_ble_eq_true rfl) ⟨(Nat.le_of_ble_eq_true rfl), (Nat.le_of_ble_eq_true rfl)⟩ ⟨(Nat.le_of_ble_eq_true rfl), (Nat.le_of_ble_eq_true rfl)⟩ (fun _ _ hx => hx.elim) (fun v160 w160 q160 => ?_)
                obtain ⟨rfl, rfl⟩ := q160
                refine A_pureS ok.b (As := [_]) mf_X7_section ml_X7_143 rfl sc_X7_section (r_section l g _) rfl rfl dX7_statement_163 (Nat.le_of_ble_eq_true rfl) ⟨(Nat.le_of_ble_eq_true rfl), (Nat.le_of_ble_eq_true rfl)⟩ ⟨(Nat.le_of_ble_eq_true rfl), (Nat.le_of_ble_eq_true rfl)⟩ ?_
                rw [et, sec_n (by omega)]
                refine A_istore_n ok.b rfl dX7_statement_166 (by decide) (sts (sts1 rfl st0)) ?_
                refine A_aload_n ok.b rfl dX7_statement_167 gp0 ?_
                refine A_getf ok.b cf7 9 (by decide) fl_X7_20 gp0 (gps (gps (gps (gps (gps (gps (gps (gps (gps gp0))))))))) dX7_statement_168 ?_
                refine A_iload_n ok.b rfl dX7_statement_171 (gps (gps gp0)) ?_
                refine A_aload_n ok.b rfl dX7_statement_172 gp0 ?_
                refine A_callVR ok [0, 1] [2] (As := []) (wr := ([(m 3, .inl (g.2.1 0, 1476, .inl (D)))] : va_W)) mf_X7_way ml_X7_155 in_X7_way se_X7_way cf7 gp0 (r_way l g m (rsM B D (twS B 7 S)).2 B hF.mi) rfl rfl rfl dX7_statement_173 rfl rfl rfl (by decide) (Nat.le_of_ble_eq_true rfl) ⟨(Nat.le_of_ble_eq_true rfl), (Nat.le_of_ble_eq_true rfl)⟩ ⟨(Nat.le_of_ble_eq_true rfl), (Nat.le_of_ble_eq_true rfl)⟩ (fun _ _ hx => hx.elim) (fun v173 w173 q173 => ?_)
                obtain ⟨rfl, rfl⟩ := q173
                refine A_sub [1, 2, 0] (ws2 := (lcW g m ((wayM B (rsM B D (twS B 7 S)).2).2) B (D))) rfl rfl ?_
                refine A_iconst ok.b (v := 1) dX7_statement_176 (by decide) ?_
                refine A_icmp_ne ok.b (tgt := 184) dX7_statement_177 (by decide) (fun c177 => ?_) (fun c177 => ?_)
                · skip
                  refine A_bipush ok.b (v := 6) dX7_statement_184 (by decide) ?_
                  refine A_iadd ok.b dX7_statement_186 ?_
                  rw [show nI (12 + 7 * t) + 6 = nI (12 + 7 * t + 6) from nI_add _ 6]
                  refine A_iconst ok.b (v := 1) dX7_statement_187 (by decide) ?_
                  refine A_iast ok.b (gps (gps gp0)) (ix_n (by omega) (by decide)) (wps (wps wp0)) dX7_statement_188 ?_
                  refine A_goto ok.b (tgt := 229) dX7_statement_189 (by decide) ?_
                  refine A_lv (lleK (lleK (lleD lle0))) ?_
                  have e9 : redM B (twS B 7 S, D) = ((wayM B (rsM B D (twS B 7 S)).2).2, upd D (12 + 7 * t + 6) 1) := by
                    show ((wayM B (rsM B D (twS B 7 S)).2).2, upd D (12 + 7 * (rsM B D (twS B 7 S)).1.toNatClampNeg + (if (wayM B (rsM B D (twS B 7 S)).2).1 = 1 then 5 else 6)) 1) = _
                    rw [et, nI_clamp (by omega), if_neg c177]
                  exact M229 _ (by rw [stK, if_neg (bI_z c16), if_neg (bI_z c33), if_neg (bI_z c65), if_neg (bI_z c81), if_neg (bI_z c98), if_neg (bI_z c126), if_pos (bI_n c156), e9])
                · skip
                  refine A_iconst ok.b (v := 5) dX7_statement_180 (by decide) ?_
                  refine A_goto ok.b (tgt := 186) dX7_statement_181 (by decide) ?_
                  refine A_iadd ok.b dX7_statement_186 ?_
                  rw [show nI (12 + 7 * t) + 5 = nI (12 + 7 * t + 5) from nI_add _ 5]
                  refine A_iconst ok.b (v := 1) dX7_statement_187 (by decide) ?_
                  refine A_iast ok.b (gps (gps gp0)) (ix_n (by omega) (by decide)) (wps (wps wp0)) dX7_statement_188 ?_
                  refine A_goto ok.b (tgt := 229) dX7_statement_189 (by decide) ?_
                  refine A_lv (lleK (lleK (lleD lle0))) ?_
                  have e9 : redM B (twS B 7 S, D) = ((wayM B (rsM B D (twS B 7 S)).2).2, upd D (12 + 7 * t + 5) 1) := by
                    show ((wayM B (rsM B D (twS B 7 S)).2).2, upd D (12 + 7 * (rsM B D (twS B 7 S)).1.toNatClampNeg + (if (wayM B (rsM B D (twS B 7 S)).2).1 = 1 then 5 else 6)) 1) = _
                    rw [et, nI_clamp (by omega), if_pos c177]
                  exact M229 _ (by rw [stK, if_neg (bI_z c16), if_neg (bI_z c33), if_neg (bI_z c65), if_neg (bI_z c81), if_neg (bI_z c98), if_neg (bI_z c126), if_pos (bI_n c156), e9])
            · skip
              refine A_aload_n ok.b rfl dX7_statement_129 gp0 ?_
              refine A_iconst ok.b (v := 1) dX7_statement_130 (by decide) ?_
              refine A_iload_n ok.b rfl dX7_statement_131 (gps gp0) ?_
              refine A_sameVR ok (As := [_, _]) mf_X7_once ml_X7_186 in_X7_once se_X7_once cf7 gp0 (r_once l g m (twS B 6 S) B D h6.mi 1 (nI S.po)) rfl rfl dX7_statement_132 (Nat.le_of_ble_eq_true rfl) ⟨(Nat.le_of_ble_eq_true rfl), (Nat.le_of_ble_eq_true rfl)⟩ ⟨(Nat.le_of_ble_eq_true rfl), (Nat.le_of_ble_eq_true rfl)⟩ (fun _ _ hx => hx.elim) (fun v132 w132 q132 => ?_)
              obtain ⟨rfl, rfl⟩ := q132
              have hO := (Ko_on (b := 1) (st := nI S.po) h6).1
              refine A_aload_n ok.b rfl dX7_statement_135 gp0 ?_
              refine A_getf ok.b cf7 9 (by decide) fl_X7_20 gp0 (gps (gps (gps (gps (gps (gps (gps (gps (gps gp0))))))))) dX7_statement_136 ?_
              refine A_iconst ok.b (v := 5) dX7_statement_139 (by decide) ?_
              refine A_aload_n ok.b rfl dX7_statement_140 gp0 ?_
              refine A_bipush ok.b (v := 100) dX7_statement_141 (by decide) ?_
              refine A_callVR ok [0, 1] [2] (As := [_]) (wr := ([(m 3, .inl (g.2.1 0, 1476, .inl (D)))] : va_W)) mf_X7_setting ml_X7_152 in_X7_setting se_X7_setting cf7 gp0 (r_setting l g m (onM 1 (nI S.po) (twS B 6 S)) B hO.mi.1 hO.mi.2 100) rfl rfl rfl dX7_statement_143 rfl rfl rfl (by decide) (Nat.le_of_ble_eq_true rfl) ⟨(Nat.le_of_ble_eq_true rfl), (Nat.le_of_ble_eq_true rfl)⟩ ⟨(Nat.le_of_ble_eq_true rfl), (Nat.le_of_ble_eq_true rfl)⟩ (fun _ _ hx => hx.elim) (fun v143 w143 q143 => ?_)
              obtain ⟨rfl, rfl⟩ := q143
              refine A_sub [1, 2, 0] (ws2 := (lcW g m ((setM B 100 (onM 1 (nI S.po) (twS B 6 S))).2) B (D))) rfl rfl ?_
              refine A_iast ok.b (gps (gps gp0)) (ix_n (j := 5) (by decide) (by decide)) (wps (wps wp0)) dX7_statement_146 ?_
              refine A_goto ok.b (tgt := 229) dX7_statement_147 (by decide) ?_
              exact M229 (draftM B (nI S.po) (twS B 6 S, D)) (by rw [stK, if_neg (bI_z c16), if_neg (bI_z c33), if_neg (bI_z c65), if_neg (bI_z c81), if_neg (bI_z c98), if_pos (bI_n c126)])
          · skip
            refine A_aload_n ok.b rfl dX7_statement_101 gp0 ?_
            refine A_iconst ok.b (v := 0) dX7_statement_102 (by decide) ?_
            refine A_iload_n ok.b rfl dX7_statement_103 (gps gp0) ?_
            refine A_sameVR ok (As := [_, _]) mf_X7_once ml_X7_186 in_X7_once se_X7_once cf7 gp0 (r_once l g m (twS B 5 S) B D h5.mi 0 (nI S.po)) rfl rfl dX7_statement_104 (Nat.le_of_ble_eq_true rfl) ⟨(Nat.le_of_ble_eq_true rfl), (Nat.le_of_ble_eq_true rfl)⟩ ⟨(Nat.le_of_ble_eq_true rfl), (Nat.le_of_ble_eq_true rfl)⟩ (fun _ _ hx => hx.elim) (fun v104 w104 q104 => ?_)
            obtain ⟨rfl, rfl⟩ := q104
            have hO := (Ko_on (b := 0) (st := nI S.po) h5).1
            refine A_aload_n ok.b rfl dX7_statement_107 gp0 ?_
            refine A_getf ok.b cf7 9 (by decide) fl_X7_20 gp0 (gps (gps (gps (gps (gps (gps (gps (gps (gps gp0))))))))) dX7_statement_108 ?_
            refine A_iconst ok.b (v := 4) dX7_statement_111 (by decide) ?_
            refine A_aload_n ok.b rfl dX7_statement_112 gp0 ?_
            refine A_sameVR ok (As := []) mf_X7_readSection ml_X7_140 in_X7_readSection se_X7_readSection cf7 gp0 (r_readSection l g m (onM 0 (nI S.po) (twS B 5 S)) B D hO.mi) rfl rfl dX7_statement_113 (Nat.le_of_ble_eq_true rfl) ⟨(Nat.le_of_ble_eq_true rfl), (Nat.le_of_ble_eq_true rfl)⟩ ⟨(Nat.le_of_ble_eq_true rfl), (Nat.le_of_ble_eq_true rfl)⟩ (fun _ _ hx => hx.elim) (fun v113 w113 q113 => ?_)
            obtain ⟨rfl, rfl⟩ := q113
            refine A_iast ok.b (gps (gps gp0)) (ix_n (j := 4) (by decide) (by decide)) (wps (wps wp0)) dX7_statement_116 ?_
            refine A_goto ok.b (tgt := 229) dX7_statement_117 (by decide) ?_
            exact M229 (fireM B (nI S.po) (twS B 5 S, D)) (by rw [stK, if_neg (bI_z c16), if_neg (bI_z c33), if_neg (bI_z c65), if_neg (bI_z c81), if_pos (bI_n c98)])
        · skip
          refine A_aload_n ok.b rfl dX7_statement_84 gp0 ?_
          refine A_iload_n ok.b rfl dX7_statement_85 (gps gp0) ?_
          refine A_sameVR ok (As := [_]) mf_X7_readCar ml_X7_181 in_X7_readCar se_X7_readCar cf7 gp0 (r_readCar l g m (twS B 4 S) B D h4.mi (hNj 4 (by decide)) (hCj 4 (by decide)) (nI S.po)) rfl rfl dX7_statement_86 (Nat.le_of_ble_eq_true rfl) ⟨(Nat.le_of_ble_eq_true rfl), (Nat.le_of_ble_eq_true rfl)⟩ ⟨(Nat.le_of_ble_eq_true rfl), (Nat.le_of_ble_eq_true rfl)⟩ (fun _ _ hx => hx.elim) (fun v86 w86 q86 => ?_)
          obtain ⟨rfl, rfl⟩ := q86
          refine A_goto ok.b (tgt := 229) dX7_statement_89 (by decide) ?_
          exact M229 (carM B (nI S.po) (twS B 4 S, D)) (by rw [stK, if_neg (bI_z c16), if_neg (bI_z c33), if_neg (bI_z c65), if_pos (bI_n c81)])
      · skip
        refine A_aload_n ok.b rfl dX7_statement_68 gp0 ?_
        refine A_sameVR ok (As := []) mf_X7_readFan ml_X7_177 in_X7_readFan se_X7_readFan cf7 gp0 (r_readFan l g m (twS B 3 S) B D h3.mi (hNj 3 (by decide))) rfl rfl dX7_statement_69 (Nat.le_of_ble_eq_true rfl) ⟨(Nat.le_of_ble_eq_true rfl), (Nat.le_of_ble_eq_true rfl)⟩ ⟨(Nat.le_of_ble_eq_true rfl), (Nat.le_of_ble_eq_true rfl)⟩ (fun _ _ hx => hx.elim) (fun v69 w69 q69 => ?_)
        obtain ⟨rfl, rfl⟩ := q69
        refine A_goto ok.b (tgt := 229) dX7_statement_72 (by decide) ?_
        exact M229 (fanM B (twS B 3 S, D)) (by rw [stK, if_neg (bI_z c16), if_neg (bI_z c33), if_pos (bI_n c65)])
    · skip
      obtain ⟨t, ht, et, _⟩ := fs_at (B := B) (mk := 3) (vl := 0) (hNj 2 (by decide))
      have hF := (Kp_fs (B := B) (D := D) (mk := 3) (vl := 0) h2).mj h2
      refine A_aload_n ok.b rfl dX7_statement_36 gp0 ?_
      refine A_getf ok.b cf7 9 (by decide) fl_X7_20 gp0 (gps (gps (gps (gps (gps (gps (gps (gps (gps gp0))))))))) dX7_statement_37 ?_
      refine A_aload_n ok.b rfl dX7_statement_40 gp0 ?_
      refine A_iconst ok.b (v := 3) dX7_statement_41 (by decide) ?_
      refine A_iconst ok.b (v := 0) dX7_statement_42 (by decide) ?_
      refine A_sameVR ok (As := [_, _]) mf_X7_freshSection ml_X7_149 in_X7_freshSection se_X7_freshSection cf7 gp0 (r_freshSection l g m (twS B 2 S) B D h2.mi (hNj 2 (by decide)) 3 (by decide) _) rfl rfl dX7_statement_43 (Nat.le_of_ble_eq_true rfl) ⟨(Nat.le_of_ble_eq_true rfl), (Nat.le_of_ble_eq_true rfl)⟩ ⟨(Nat.le_of_ble_eq_true rfl), (Nat.le_of_ble_eq_true rfl)⟩ (fun _ _ hx => hx.elim) (fun v43 w43 q43 => ?_)
      obtain ⟨rfl, rfl⟩ := q43
      refine A_iconst ok.b (v := 3) dX7_statement_46 (by decide) ?_
      rw [et]
      refine A_iadd ok.b dX7_statement_47 ?_
      rw [show nI (12 + 7 * t) + 3 = nI (12 + 7 * t + 3) from nI_add _ 3]
      refine A_aload_n ok.b rfl dX7_statement_48 gp0 ?_
      refine A_iconst ok.b (v := 1) dX7_statement_49 (by decide) ?_
      refine A_bipush ok.b (v := 100) dX7_statement_50 (by decide) ?_
      refine A_callVR ok [0, 1] [2] (As := [_, _]) (wr := ([(m 3, .inl (g.2.1 0, 1476, .inl (D)))] : va_W)) mf_X7_number ml_X7_104 in_X7_number se_X7_number cf7 gp0 (r_number l g m (fsM B D 3 0 (twS B 2 S)).2 B hF.mi.1 hF.mi.2 1 100) rfl rfl rfl dX7_statement_52 rfl rfl rfl (by decide) (Nat.le_of_ble_eq_true rfl) ⟨(Nat.le_of_ble_eq_true rfl), (Nat.le_of_ble_eq_true rfl)⟩ ⟨(Nat.le_of_ble_eq_true rfl), (Nat.le_of_ble_eq_true rfl)⟩ (fun _ _ hx => hx.elim) (fun v52 w52 q52 => ?_)
      obtain ⟨rfl, rfl⟩ := q52
      refine A_sub [1, 2, 0] (ws2 := (lcW g m ((numM B 1 100 (fsM B D 3 0 (twS B 2 S)).2).2) B (D))) rfl rfl ?_
      refine A_iast ok.b (gps (gps gp0)) (ix_n (by omega) (by decide)) (wps (wps wp0)) dX7_statement_55 ?_
      refine A_goto ok.b (tgt := 229) dX7_statement_56 (by decide) ?_
      have e9 : ventM B (twS B 2 S, D) = ((numM B 1 100 (fsM B D 3 0 (twS B 2 S)).2).2, upd D (12 + 7 * t + 3) (numM B 1 100 (fsM B D 3 0 (twS B 2 S)).2).1) := by
        show ((numM B 1 100 (fsM B D 3 0 (twS B 2 S)).2).2, upd D ((fsM B D 3 0 (twS B 2 S)).1 + 3).toNatClampNeg (numM B 1 100 (fsM B D 3 0 (twS B 2 S)).2).1) = _
        rw [et, show nI (12 + 7 * t) + 3 = nI (12 + 7 * t + 3) from nI_add _ 3, nI_clamp (by omega)]
      exact M229 _ (by rw [stK, if_neg (bI_z c16), if_pos (bI_n c33), e9])
  · skip
    refine A_aload_n ok.b rfl dX7_statement_19 gp0 ?_
    refine A_iload_n ok.b rfl dX7_statement_20 (gps gp0) ?_
    refine A_sameVR ok (As := [_]) mf_X7_readBay ml_X7_170 in_X7_readBay se_X7_readBay cf7 gp0 (r_readBay l g m (twS B 1 S) B D h1.mi (hNj 1 (by decide)) (nI S.po)) rfl rfl dX7_statement_21 (Nat.le_of_ble_eq_true rfl) ⟨(Nat.le_of_ble_eq_true rfl), (Nat.le_of_ble_eq_true rfl)⟩ ⟨(Nat.le_of_ble_eq_true rfl), (Nat.le_of_ble_eq_true rfl)⟩ (fun _ _ hx => hx.elim) (fun v21 w21 q21 => ?_)
    obtain ⟨rfl, rfl⟩ := q21
    refine A_goto ok.b (tgt := 229) dX7_statement_24 (by decide) ?_
    exact M229 (bayM B (nI S.po) (twS B 1 S, D)) (by rw [stK, if_pos (bI_n c16)])
