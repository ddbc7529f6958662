/-- the numbers in the reference's object -/
abbrev MS : Type := Int32 × Nat × Nat × Nat × Int32 × Int32 × Int32 × Nat × Int32 × Int32 × Int32 × Int32 × Int32 × Int32
abbrev MS.th (s : MS) : Int32 := s.1
abbrev MS.bl (s : MS) : Nat := s.2.1
abbrev MS.tl (s : MS) : Nat := s.2.2.1
abbrev MS.po (s : MS) : Nat := s.2.2.2.1
abbrev MS.er (s : MS) : Int32 := s.2.2.2.2.1
abbrev MS.ea (s : MS) : Int32 := s.2.2.2.2.2.1
abbrev MS.eo (s : MS) : Int32 := s.2.2.2.2.2.2.1
abbrev MS.ud (s : MS) : Nat := s.2.2.2.2.2.2.2.1
abbrev MS.ns (s : MS) : Int32 := s.2.2.2.2.2.2.2.2.1
abbrev MS.ne (s : MS) : Int32 := s.2.2.2.2.2.2.2.2.2.1
abbrev MS.se (s : MS) : Int32 := s.2.2.2.2.2.2.2.2.2.2.1
abbrev MS.ba (s : MS) : Int32 := s.2.2.2.2.2.2.2.2.2.2.2.1
abbrev MS.bs (s : MS) : Int32 := s.2.2.2.2.2.2.2.2.2.2.2.2.1
abbrev MS.bt (s : MS) : Int32 := s.2.2.2.2.2.2.2.2.2.2.2.2.2
def MS.wth (s : MS) (x : Int32) : MS := (x, s.2)
def MS.wbl (s : MS) (x : Nat) : MS := (s.th, x, s.2.2)
def MS.wtl (s : MS) (x : Nat) : MS := (s.th, s.bl, x, s.2.2.2)
def MS.wpo (s : MS) (x : Nat) : MS := (s.th, s.bl, s.tl, x, s.2.2.2.2)
def MS.wer (s : MS) (x : Int32) : MS := (s.th, s.bl, s.tl, s.po, x, s.2.2.2.2.2)
def MS.wea (s : MS) (x : Int32) : MS := (s.th, s.bl, s.tl, s.po, s.er, x, s.2.2.2.2.2.2)
def MS.weo (s : MS) (x : Int32) : MS := (s.th, s.bl, s.tl, s.po, s.er, s.ea, x, s.2.2.2.2.2.2.2)
def MS.wud (s : MS) (x : Nat) : MS := (s.th, s.bl, s.tl, s.po, s.er, s.ea, s.eo, x, s.2.2.2.2.2.2.2.2)
def MS.wns (s : MS) (x : Int32) : MS := (s.th, s.bl, s.tl, s.po, s.er, s.ea, s.eo, s.ud, x, s.2.2.2.2.2.2.2.2.2)
def MS.wne (s : MS) (x : Int32) : MS := (s.th, s.bl, s.tl, s.po, s.er, s.ea, s.eo, s.ud, s.ns, x, s.2.2.2.2.2.2.2.2.2.2)
def MS.wse (s : MS) (x : Int32) : MS := (s.th, s.bl, s.tl, s.po, s.er, s.ea, s.eo, s.ud, s.ns, s.ne, x, s.2.2.2.2.2.2.2.2.2.2.2)
def MS.wba (s : MS) (x : Int32) : MS := (s.th, s.bl, s.tl, s.po, s.er, s.ea, s.eo, s.ud, s.ns, s.ne, s.se, x, s.2.2.2.2.2.2.2.2.2.2.2.2)
def MS.wbs (s : MS) (x : Int32) : MS := (s.th, s.bl, s.tl, s.po, s.er, s.ea, s.eo, s.ud, s.ns, s.ne, s.se, s.ba, x, s.2.2.2.2.2.2.2.2.2.2.2.2.2)
def MS.wbt (s : MS) (x : Int32) : MS := (s.th, s.bl, s.tl, s.po, s.er, s.ea, s.eo, s.ud, s.ns, s.ne, s.se, s.ba, s.bs, x)

def moC (m : Nat → Nat) (s : MS) : Nat × va_E := (m 0, .inr (7, [.int s.th, .ref (m 1), .int (nI s.bl), .int (nI s.tl), .int (nI s.po), .int s.er, .int s.ea, .int s.eo, .ref (m 2), .ref (m 3), .ref (m 4), .ref (m 5), .int (nI s.ud), .int s.ns, .int s.ne, .int s.se, .int s.ba, .ref (m 6), .ref (m 7), .ref (m 8), .ref (m 9), .int s.bs, .int s.bt]))
def lxW (g : Gl) (m : Nat → Nat) (s : MS) (B : Nat → Int32) : va_W := [moC m s, (m 1, .inl (g.2.1 0, 800, .inl B))]
def byR (B : Nat → Int32) (tl k : Nat) : Int32 := if k < tl then B k else -1
theorem byR_t {B : Nat → Int32} {tl k : Nat} (h : k < tl) : byR B tl k = B k := by rw [byR, if_pos h]
theorem byR_f {B : Nat → Int32} {tl k : Nat} (h : ¬ k < tl) : byR B tl k = -1 := by rw [byR, if_neg h]
set_option maxRecDepth 20000 in
set_option maxHeartbeats 2000000 in
theorem r_byteAt (l : Launch) (g : Gl) (m : Nat → Nat) (s : MS) (B : Nat → Int32) (htl : s.tl ≤ 800) (k : Nat) (hk : k ≤ 2000) : Ct l g yX7_byteAt cX7_byteAt 2 (some .int) 0 0 0 0 [.ref (m 0), .int (nI k)] (lxW g m s B) (fun v w => v = some (.int (byR B s.tl k)) ∧ w = lxW g m (s) B) noX := by
  refine Ct.intro [some (.ref (m 0)), some (.int (nI k))] (by decide +kernel) (fun _ h => h) (Nat.le_of_ble_eq_true rfl) (fun A H0 K ok => ?_)
  refine A_iload_n ok.b rfl dX7_byteAt_0 (gps gp0) ?_
  refine A_aload_n ok.b rfl dX7_byteAt_1 gp0 ?_
  refine A_getf ok.b cf7 3 (by decide) fl_X7_51 gp0 (gps (gps (gps gp0))) dX7_byteAt_2 ?_
  refine A_icmp_ge ok.b (tgt := 17) dX7_byteAt_5 (by decide) (fun c5 => ?_) (fun c5 => ?_)
  · skip
    refine A_iconst ok.b (v := (-1)) dX7_byteAt_17 (by decide) ?_
    refine A_iret ok dX7_byteAt_18 (Nat.le_of_ble_eq_true rfl) (Nat.le_of_ble_eq_true rfl) ?_
    exact ⟨by rw [byR_f (fun h => nI_ge h (by omega) c5)], rfl⟩
  · skip
    have hkt : k < s.tl := by
      rcases Nat.lt_or_ge k s.tl with h | h
      · exact h
      · exact absurd (nI_le h (by omega)) c5
    refine A_aload_n ok.b rfl dX7_byteAt_8 gp0 ?_
    refine A_getf ok.b cf7 1 (by decide) fl_X7_9 gp0 (gps gp0) dX7_byteAt_9 ?_
    refine A_iload_n ok.b rfl dX7_byteAt_12 (gps gp0) ?_
    refine A_iald ok.b (gps gp0) (ix_n (by omega) (by decide)) dX7_byteAt_13 ?_
    refine A_goto ok.b (tgt := 18) dX7_byteAt_14 (by decide) ?_
    refine A_iret ok dX7_byteAt_18 (Nat.le_of_ble_eq_true rfl) (Nat.le_of_ble_eq_true rfl) ?_
    exact ⟨by rw [byR_t hkt], rfl⟩
set_option maxRecDepth 20000 in
set_option maxHeartbeats 2000000 in
theorem r_isGood (l : Launch) (g : Gl) (m : Nat → Nat) (s : MS) (B : Nat → Int32) (htl : s.tl ≤ 800)  : Ct l g yX7_isGood cX7_isGood 1 (some .boolean) 0 0 0 0 [.ref (m 0)] (lxW g m s B) (fun v w => v = some (.int (if s.er = 0 then 1 else 0)) ∧ w = lxW g m (s) B) noX := by
  refine Ct.intro [some (.ref (m 0))] (by decide +kernel) (fun _ h => h) (Nat.le_of_ble_eq_true rfl) (fun A H0 K ok => ?_)
  refine A_aload_n ok.b rfl dX7_isGood_0 gp0 ?_
  refine A_getf ok.b cf7 5 (by decide) fl_X7_61 gp0 (gps (gps (gps (gps (gps gp0))))) dX7_isGood_1 ?_
  refine A_if_ne ok.b (tgt := 11) dX7_isGood_4 (by decide) (fun c4 => ?_) (fun c4 => ?_)
  · skip
    refine A_iconst ok.b (v := 0) dX7_isGood_11 (by decide) ?_
    refine A_zret ok dX7_isGood_12 (by decide) (Nat.le_of_ble_eq_true rfl) (Nat.le_of_ble_eq_true rfl) ?_
    exact ⟨by rw [if_neg c4], rfl⟩
  · skip
    refine A_iconst ok.b (v := 1) dX7_isGood_7 (by decide) ?_
    refine A_goto ok.b (tgt := 12) dX7_isGood_8 (by decide) ?_
    refine A_zret ok dX7_isGood_12 (by decide) (Nat.le_of_ble_eq_true rfl) (Nat.le_of_ble_eq_true rfl) ?_
    exact ⟨by rw [if_pos c4], rfl⟩
def repR (k o : Int32) (s : MS) : MS := if s.er = 0 then (s.wer k).wea o else s
set_option maxRecDepth 20000 in
set_option maxHeartbeats 2000000 in
theorem r_report (l : Launch) (g : Gl) (m : Nat → Nat) (s : MS) (B : Nat → Int32) (htl : s.tl ≤ 800) (k0 o0 : Int32) : Ct l g yX7_report cX7_report 3 none 0 0 0 0 [.ref (m 0), .int k0, .int o0] (lxW g m s B) (fun v w => v = none ∧ w = lxW g m (repR k0 o0 s) B) noX := by
  refine Ct.intro [some (.ref (m 0)), some (.int k0), some (.int o0)] (by decide +kernel) (fun _ h => h) (Nat.le_of_ble_eq_true rfl) (fun A H0 K ok => ?_)
  refine A_aload_n ok.b rfl dX7_report_0 gp0 ?_
  refine A_getf ok.b cf7 5 (by decide) fl_X7_61 gp0 (gps (gps (gps (gps (gps gp0))))) dX7_report_1 ?_
  refine A_if_eq ok.b (tgt := 8) dX7_report_4 (by decide) (fun c4 => ?_) (fun c4 => ?_)
  · skip
    refine A_aload_n ok.b rfl dX7_report_8 gp0 ?_
    refine A_iload_n ok.b rfl dX7_report_9 (gps gp0) ?_
    refine A_putf ok.b cf7 5 (by decide) rfl fl_X7_61 gp0 rfl rfl (gp_lt (gps (gps (gps (gps (gps gp0)))))) (wps (wps (wps (wps (wps wp0))))) wp0 dX7_report_10 ?_
    refine A_aload_n ok.b rfl dX7_report_13 gp0 ?_
    refine A_iload_n ok.b rfl dX7_report_14 (gps (gps gp0)) ?_
    refine A_putf ok.b cf7 6 (by decide) rfl fl_X7_64 gp0 rfl rfl (gp_lt (gps (gps (gps (gps (gps (gps gp0))))))) (wps (wps (wps (wps (wps (wps wp0)))))) wp0 dX7_report_15 ?_
    refine A_vret ok dX7_report_18 (Nat.le_of_ble_eq_true rfl) (Nat.le_of_ble_eq_true rfl) ?_
    exact ⟨rfl, by rw [repR, if_pos c4]; rfl⟩
  · skip
    refine A_vret ok dX7_report_7 (Nat.le_of_ble_eq_true rfl) (Nat.le_of_ble_eq_true rfl) ?_
    exact ⟨rfl, by rw [repR, if_neg c4]⟩
def nxR (B : Nat → Int32) (s : MS) : MS := s.wpo (scanE fSp B s.tl s.po)
set_option maxRecDepth 20000 in
set_option maxHeartbeats 2000000 in
theorem r_next (l : Launch) (g : Gl) (m : Nat → Nat) (s : MS) (B : Nat → Int32) (htl : s.tl ≤ 800) (hpo : s.po ≤ 900) : Ct l g yX7_next cX7_next 1 (some .int) 1 40 0 0 [.ref (m 0)] (lxW g m s B) (fun v w => v = some (.int (byR B s.tl (scanE fSp B s.tl s.po))) ∧ w = lxW g m (nxR B s) B) noX := by
  refine Ct.intro [some (.ref (m 0))] (by decide +kernel) (fun _ h => h) (Nat.le_of_ble_eq_true rfl) (fun A H0 K ok => ?_)
  refine scanE_ind (f := fSp) (B := B) (len := s.tl) (P := fun q => s.po ≤ q → scanE fSp B s.tl q = scanE fSp B s.tl s.po → q ≤ 900 → AW g A H0 1 K 0 [some (.ref (m 0))] [] (lxW g m (s.wpo q) B) 0 0) s.po (fun q _ ih => ?_) (by omega) (Nat.le_refl _) rfl hpo
  intro hq hqe hq8
  refine A_aload_n ok.b rfl dX7_next_0 gp0 ?_
  refine A_aload_n ok.b rfl dX7_next_1 gp0 ?_
  refine A_getf ok.b cf7 4 (by decide) fl_X7_54 gp0 (gps (gps (gps (gps gp0)))) dX7_next_2 ?_
  refine A_sameVR ok (As := [_]) mf_X7_byteAt ml_X7_57 in_X7_byteAt se_X7_byteAt cf7 gp0 (r_byteAt l g m (s.wpo q) B htl q (by omega)) rfl rfl dX7_next_5 (Nat.le_of_ble_eq_true rfl) ⟨(Nat.le_of_ble_eq_true rfl), (Nat.le_of_ble_eq_true rfl)⟩ ⟨(Nat.le_of_ble_eq_true rfl), (Nat.le_of_ble_eq_true rfl)⟩ (fun _ _ hx => hx.elim) (fun v5 w5 q5 => ?_)
  obtain ⟨rfl, rfl⟩ := q5
  refine A_bipush ok.b (v := 32) dX7_next_8 (by decide) ?_
  refine A_icmp_ne ok.b (tgt := 26) dX7_next_10 (by decide) (fun c10 => ?_) (fun c10 => ?_)
  · skip
    have e9 : scanE fSp B s.tl s.po = q := by
      rw [← hqe]
      exact scanE_f (fun h => c10 (by show byR B s.tl q = 32; rw [byR_t h.1]; simpa [fSp] using h.2))
    refine A_aload_n ok.b rfl dX7_next_26 gp0 ?_
    refine A_aload_n ok.b rfl dX7_next_27 gp0 ?_
    refine A_getf ok.b cf7 4 (by decide) fl_X7_54 gp0 (gps (gps (gps (gps gp0)))) dX7_next_28 ?_
    refine A_sameVR ok (As := [_]) mf_X7_byteAt ml_X7_57 in_X7_byteAt se_X7_byteAt cf7 gp0 (r_byteAt l g m (s.wpo q) B htl q (by omega)) rfl rfl dX7_next_31 (Nat.le_of_ble_eq_true rfl) ⟨(Nat.le_of_ble_eq_true rfl), (Nat.le_of_ble_eq_true rfl)⟩ ⟨(Nat.le_of_ble_eq_true rfl), (Nat.le_of_ble_eq_true rfl)⟩ (fun _ _ hx => hx.elim) (fun v31 w31 q31 => ?_)
    obtain ⟨rfl, rfl⟩ := q31
    refine A_iret ok dX7_next_34 (Nat.le_of_ble_eq_true rfl) (Nat.le_of_ble_eq_true rfl) ?_
    exact ⟨by rw [e9]; rfl, by rw [nxR, e9]⟩
  · skip
    have hlt : q < s.tl ∧ fSp (B q) = true := by
      by_cases h : q < s.tl
      · refine ⟨h, ?_⟩
        have h9 : byR B s.tl q = 32 := c10
        rw [byR_t h] at h9
        simp [fSp, h9]
      · have h9 : byR B s.tl q = 32 := c10
        rw [byR_f h] at h9
        exact absurd h9 (by decide)
    refine A_aload_n ok.b rfl dX7_next_13 gp0 ?_
    refine A_dup ok.b dX7_next_14 rfl ?_
    refine A_getf ok.b cf7 4 (by decide) fl_X7_54 gp0 (gps (gps (gps (gps gp0)))) dX7_next_15 ?_
    refine A_iconst ok.b (v := 1) dX7_next_18 (by decide) ?_
    refine A_iadd ok.b dX7_next_19 ?_
    refine A_putf ok.b cf7 4 (by decide) rfl fl_X7_54 gp0 rfl rfl (gp_lt (gps (gps (gps (gps gp0))))) (wps (wps (wps (wps wp0)))) wp0 dX7_next_20 ?_
    refine A_goto ok.b (tgt := 0) dX7_next_23 (by decide) ?_
    rw [nI_1]
    exact ih hlt (by omega) (by rw [← scanE_t hlt.1 hlt.2]; exact hqe) (by have := hlt.1; omega)
def expR2 (B : Nat → Int32) (c : Int32) (s : MS) : MS := if s.er = 0 then (if byR B s.tl (nxR B s).po = c then (nxR B s).wpo ((nxR B s).po + 1) else repR (-2) (nI (nxR B s).po) (nxR B s)) else s
theorem nx_po {B : Nat → Int32} {s : MS} (htl : s.tl ≤ 800) (hpo : s.po ≤ 900) : (nxR B s).po ≤ 900 := by
  show scanE fSp B s.tl s.po ≤ 900
  rcases Nat.le_total s.po s.tl with h | h
  · have := scanE_le (f := fSp) (B := B) s.po h; omega
  · rw [scanE_f (fun h9 => absurd h9.1 (by omega))]; exact hpo
set_option maxRecDepth 20000 in
set_option maxHeartbeats 2000000 in
theorem r_expect (l : Launch) (g : Gl) (m : Nat → Nat) (s : MS) (B : Nat → Int32) (htl : s.tl ≤ 800) (hpo : s.po ≤ 900) (c0 : Int32) : Ct l g yX7_expect cX7_expect 2 none 2 80 0 0 [.ref (m 0), .int c0] (lxW g m s B) (fun v w => v = none ∧ w = lxW g m (expR2 B c0 s) B) noX := by
  refine Ct.intro [some (.ref (m 0)), some (.int c0)] (by decide +kernel) (fun _ h => h) (Nat.le_of_ble_eq_true rfl) (fun A H0 K ok => ?_)
  refine A_aload_n ok.b rfl dX7_expect_0 gp0 ?_
  refine A_sameVR ok (As := []) mf_X7_isGood ml_X7_71 in_X7_isGood se_X7_isGood cf7 gp0 (r_isGood l g m s B htl) rfl rfl dX7_expect_1 (Nat.le_of_ble_eq_true rfl) ⟨(Nat.le_of_ble_eq_true rfl), (Nat.le_of_ble_eq_true rfl)⟩ ⟨(Nat.le_of_ble_eq_true rfl), (Nat.le_of_ble_eq_true rfl)⟩ (fun _ _ hx => hx.elim) (fun v1 w1 q1 => ?_)
  obtain ⟨rfl, rfl⟩ := q1
  refine A_if_ne ok.b (tgt := 8) dX7_expect_4 (by decide) (fun c4 => ?_) (fun c4 => ?_)
  · skip
    have h9 : s.er = 0 := by
      by_cases h : s.er = 0
      · exact h
      · rw [if_neg h] at c4; exact absurd rfl c4
    refine A_aload_n ok.b rfl dX7_expect_8 gp0 ?_
    refine A_sameVR ok (As := []) mf_X7_next ml_X7_75 in_X7_next se_X7_next cf7 gp0 (r_next l g m s B htl hpo) rfl rfl dX7_expect_9 (Nat.le_of_ble_eq_true rfl) ⟨(Nat.le_of_ble_eq_true rfl), (Nat.le_of_ble_eq_true rfl)⟩ ⟨(Nat.le_of_ble_eq_true rfl), (Nat.le_of_ble_eq_true rfl)⟩ (fun _ _ hx => hx.elim) (fun v9 w9 q9 => ?_)
    obtain ⟨rfl, rfl⟩ := q9
    have hn := nx_po (B := B) htl hpo
    have e1 : scanE fSp B s.tl s.po = (nxR B s).po := rfl
    have e2 : (nxR B s).er = s.er := rfl
    have htl2 : (nxR B s).tl ≤ 800 := htl
    rw [e1]
    generalize hS : nxR B s = S at e2 hn htl2 ⊢
    refine A_iload_n ok.b rfl dX7_expect_12 (gps gp0) ?_
    refine A_icmp_ne ok.b (tgt := 29) dX7_expect_13 (by decide) (fun c13 => ?_) (fun c13 => ?_)
    · skip
      refine A_aload_n ok.b rfl dX7_expect_29 gp0 ?_
      refine A_bipush ok.b (v := (-2)) dX7_expect_30 (by decide) ?_
      refine A_aload_n ok.b rfl dX7_expect_32 gp0 ?_
      refine A_getf ok.b cf7 4 (by decide) fl_X7_54 gp0 (gps (gps (gps (gps gp0)))) dX7_expect_33 ?_
      refine A_sameVR ok (As := [_, _]) mf_X7_report ml_X7_88 in_X7_report se_X7_report cf7 gp0 (r_report l g m S B htl2 _ _) rfl rfl dX7_expect_36 (Nat.le_of_ble_eq_true rfl) ⟨(Nat.le_of_ble_eq_true rfl), (Nat.le_of_ble_eq_true rfl)⟩ ⟨(Nat.le_of_ble_eq_true rfl), (Nat.le_of_ble_eq_true rfl)⟩ (fun _ _ hx => hx.elim) (fun v36 w36 q36 => ?_)
      obtain ⟨rfl, rfl⟩ := q36
      refine A_vret ok dX7_expect_39 (Nat.le_of_ble_eq_true rfl) (Nat.le_of_ble_eq_true rfl) ?_
      exact ⟨rfl, by rw [expR2, if_pos h9, hS, if_neg c13]⟩
    · skip
      refine A_aload_n ok.b rfl dX7_expect_16 gp0 ?_
      refine A_dup ok.b dX7_expect_17 rfl ?_
      refine A_getf ok.b cf7 4 (by decide) fl_X7_54 gp0 (gps (gps (gps (gps gp0)))) dX7_expect_18 ?_
      refine A_iconst ok.b (v := 1) dX7_expect_21 (by decide) ?_
      refine A_iadd ok.b dX7_expect_22 ?_
      rw [nI_1]
      refine A_putf ok.b cf7 4 (by decide) rfl fl_X7_54 gp0 rfl rfl (gp_lt (gps (gps (gps (gps gp0))))) (wps (wps (wps (wps wp0)))) wp0 dX7_expect_23 ?_
      refine A_goto ok.b (tgt := 39) dX7_expect_26 (by decide) ?_
      refine A_vret ok dX7_expect_39 (Nat.le_of_ble_eq_true rfl) (Nat.le_of_ble_eq_true rfl) ?_
      exact ⟨rfl, by rw [expR2, if_pos h9, hS, if_pos c13]; rfl⟩
  · skip
    refine A_vret ok dX7_expect_7 (Nat.le_of_ble_eq_true rfl) (Nat.le_of_ble_eq_true rfl) ?_
    have h9 : ¬ s.er = 0 := fun h => by rw [if_pos h] at c4; exact absurd c4 (by decide)
    exact ⟨rfl, by rw [expR2, if_neg h9]⟩
