/-- the position stands within the text -/
def MJ (s : MS) : Prop := s.po ≤ s.tl ∧ s.tl ≤ 800
theorem MJ.mi {s : MS} (h : MJ s) : MI s := ⟨h.2, Nat.le_trans h.1 (Nat.le_trans h.2 (by decide))⟩
/-- what reading never writes -/
def gx (s : MS) : Int32 × Nat × Int32 × Nat × Int32 × Int32 × Int32 := (s.th, s.bl, s.eo, s.ud, s.se, s.bs, s.bt)
/-- what reading keeps -/
def Kp (s t : MS) : Prop := t.tl = s.tl ∧ s.po ≤ t.po ∧ t.po ≤ t.tl ∧ t.ne = s.ne ∧ (t.er = 0 → s.er = 0) ∧ gx t = gx s
theorem Kp.mj {s t : MS} (h : Kp s t) (hs : MJ s) : MJ t := ⟨h.2.2.1, by rw [h.1]; exact hs.2⟩
theorem Kp.r {s : MS} (h : MJ s) : Kp s s := ⟨rfl, Nat.le_refl _, h.1, rfl, id, rfl⟩
theorem Kp.t {s t u : MS} (h1 : Kp s t) (h2 : Kp t u) : Kp s u := ⟨h2.1.trans h1.1, Nat.le_trans h1.2.1 h2.2.1, h2.2.2.1, h2.2.2.2.1.trans h1.2.2.2.1, fun h => h1.2.2.2.2.1 (h2.2.2.2.2.1 h), h2.2.2.2.2.2.trans h1.2.2.2.2.2⟩
theorem Kp_nx {B : Nat → Int32} {s : MS} (h : MJ s) : Kp s (nxR B s) := ⟨rfl, scanE_ge _, scanE_le _ h.1, rfl, id, rfl⟩
theorem Kp_rep {k o : Int32} {s : MS} (hk : k ≠ 0) (h : MJ s) : Kp s (repR k o s) := by
  refine ⟨?_, ?_, ?_, ?_, fun h9 => (rep_er0 h9 hk).elim, ?_⟩
  all_goals (unfold repR; split)
  · rfl
  · rfl
  · exact Nat.le_refl _
  · exact Nat.le_refl _
  · exact h.1
  · exact h.1
  · rfl
  · rfl
  · rfl
  · rfl
theorem Kp_po {s : MS} (h : s.po < s.tl) : Kp s (s.wpo (s.po + 1)) := ⟨rfl, Nat.le_succ _, h, rfl, id, rfl⟩
theorem tw_lt {B : Nat → Int32} {i : Nat} (hi : i < 14) {s : MS} (h : swR B s.tl s.po i = true) : s.po + lenS.getD i 0 ≤ s.tl ∧ 0 < lenS.getD i 0 := by
  have h3 := (swR_iff.mp h).1 (lenS.getD i 0 - 1) (by have := len_pos hi; omega)
  have h4 := byR_in h3 (ch_ok hi (by have := len_pos hi; omega))
  have := len_pos hi
  exact ⟨by omega, this⟩
theorem Kp_tw {B : Nat → Int32} {i : Nat} (hi : i < 14) {s : MS} (h : MJ s) : Kp s (twR B i s).2 := by
  unfold twR
  split
  · have hn := Kp_nx (B := B) h
    split
    · rename_i h2
      have h3 := tw_lt (s := nxR B s) hi h2
      exact ⟨rfl, by have := hn.2.1; show s.po ≤ (nxR B s).po + lenS.getD i 0; omega, h3.1, rfl, fun h9 => hn.2.2.2.2.1 h9, rfl⟩
    · exact hn
  · exact Kp.r h
/-- a word that stands there takes a place at least -/
theorem tw_pos {B : Nat → Int32} {i : Nat} (hi : i < 14) {s : MS} (h : MJ s) (ht : (twR B i s).1 = true) : s.po < (twR B i s).2.po := by
  unfold twR at ht ⊢
  split at ht
  · rename_i h9
    rw [if_pos h9]
    split at ht
    · rename_i h2
      rw [if_pos h2]
      have h3 := tw_lt (s := nxR B s) hi h2
      have := (Kp_nx (B := B) h).2.1
      show s.po < (nxR B s).po + lenS.getD i 0
      omega
    · exact absurd (show false = true from ht) (by decide)
  · exact absurd (show false = true from ht) (by decide)
theorem Kp_num {B : Nat → Int32} {lo hi : Int32} {s : MS} (h : MJ s) : Kp s (numM B lo hi s).2 := by
  have hn := Kp_nx (B := B) h
  unfold numM
  split
  · split
    · rename_i hd
      have hp := (byR_dig.mp hd).1
      have h6 : scanE fDig B s.tl (nxR B s).po ≤ s.tl := scanE_le _ (by omega)
      have h8 : (nxR B s).po ≤ scanE fDig B s.tl (nxR B s).po := scanE_ge _
      have h7 : Kp s (((nxR B s).wns (nI (nxR B s).po)).wpo (scanE fDig B s.tl (nxR B s).po)) := ⟨rfl, Nat.le_trans hn.2.1 h8, h6, rfl, id, rfl⟩
      split
      · exact h7
      · exact h7.t (Kp_rep (by decide) (h7.mj h))
    · exact hn.t (Kp_rep (by decide) (hn.mj h))
  · exact Kp.r h
theorem num_pos {B : Nat → Int32} {lo hi : Int32} {s : MS} (h : MJ s) (he : (numM B lo hi s).2.er = 0) : s.po < (numM B lo hi s).2.po := by
  have h9 := num_er he
  have hn := (Kp_nx (B := B) h).2.1
  rw [numM, if_pos h9] at he ⊢
  split at he
  · rename_i hd
    rw [if_pos hd]
    have hp := byR_dig.mp hd
    have h8 : (nxR B s).po < scanE fDig B s.tl (nxR B s).po := by
      rw [scanE_t hp.1 hp.2]
      exact Nat.lt_of_lt_of_le (Nat.lt_succ_self _) (scanE_ge _)
    split at he
    · rename_i hi
      rw [if_pos hi]
      show s.po < scanE fDig B s.tl (nxR B s).po
      omega
    · exact (rep_er0 he (by decide)).elim
  · exact (rep_er0 he (by decide)).elim
theorem Kp_exp {B : Nat → Int32} {c : Int32} (hc : c ≠ -1) {s : MS} (h : MJ s) : Kp s (expR2 B c s) := by
  have hn := Kp_nx (B := B) h
  unfold expR2
  split
  · split
    · rename_i h2
      exact hn.t (Kp_po (byR_in h2 hc))
    · exact hn.t (Kp_rep (by decide) (hn.mj h))
  · exact Kp.r h
theorem nx_nx {B : Nat → Int32} {s : MS} : nxR B (nxR B s) = nxR B s := by
  have h : scanE fSp B s.tl (scanE fSp B s.tl s.po) = scanE fSp B s.tl s.po := scanE_f (scanE_end _)
  show (nxR B s).wpo (scanE fSp B s.tl (scanE fSp B s.tl s.po)) = nxR B s
  rw [h]
  rfl
/-- room for codes -/
def EI (a : Int) (X : LQ) : Prop := X.1.er = 0 → ∃ k : Nat, 2 * (k : Int) ≤ 3 * (X.1.po : Int) + a ∧ X.2 7 = nI k
theorem EI.w {a b : Int} {X : LQ} (h : EI a X) (hab : a ≤ b) : EI b X := fun h9 => by
  obtain ⟨k, hk, e⟩ := h h9
  exact ⟨k, by omega, e⟩
theorem EI.room {X : LQ} (h : EI 2 X) (hJ : MJ X.1) : X.1.er = 0 → ∃ k, k < 1300 ∧ X.2 7 = nI k := fun h9 => by
  obtain ⟨k, hk, e⟩ := h h9
  have := hJ.1
  have := hJ.2
  exact ⟨k, by omega, e⟩
theorem EI.mv {a : Int} {X : LQ} {t : MS} (h : EI a X) (hk : Kp X.1 t) : EI a (t, X.2) := fun h9 => by
  obtain ⟨k, h2, e⟩ := h (hk.2.2.2.2.1 h9)
  have := hk.2.1
  exact ⟨k, by show 2 * (k : Int) ≤ 3 * (t.po : Int) + a; omega, e⟩
theorem EI.mv1 {a : Int} {X : LQ} {t : MS} (h : EI a X) (hk : Kp X.1 t) (hp : t.er = 0 → X.1.po < t.po) : EI (a - 3) (t, X.2) := fun h9 => by
  obtain ⟨k, h2, e⟩ := h (hk.2.2.2.2.1 h9)
  have := hp h9
  exact ⟨k, by show 2 * (k : Int) ≤ 3 * (t.po : Int) + (a - 3); omega, e⟩
theorem em_1 {v : Int32} {X : LQ} : (emR v X).1 = X.1 := by
  unfold emR
  split
  · rfl
  · rfl
theorem EI_em {v : Int32} {a : Int} {X : LQ} (h : EI a X) : EI (a + 2) (emR v X) := fun h9 => by
  rw [em_1] at h9
  obtain ⟨k, h2, e⟩ := h h9
  refine ⟨k + 1, by rw [em_1]; omega, ?_⟩
  rw [emR, if_pos h9]
  show upd (upd X.2 (176 + (X.2 7).toNatClampNeg) v) 7 (X.2 7 + 1) 7 = _
  rw [upd_at, if_pos rfl, e, nI_1]
/-- what a reading of the rate keeps -/
def GK (f : LQ → LQ) : Prop := ∀ X, MJ X.1 → Kp X.1 (f X).1 ∧ ∀ a, EI a X → EI (a + 1) (f X)
def nxL (B : Nat → Int32) (X : LQ) : LQ := (nxR B X.1, X.2)
def btL (B : Nat → Int32) (X : LQ) : Int32 := byR B X.1.tl X.1.po
def opS (s : MS) : MS := if s.ne = 4 then repR (-5) (nI s.po) s else s
def opnL (X : LQ) : LQ := (((opS X.1).wpo ((opS X.1).po + 1)).wne ((opS X.1).ne + 1), X.2)
def cloL (B : Nat → Int32) (X : LQ) : LQ := ((expR2 B 41 X.1).wne ((expR2 B 41 X.1).ne - 1), X.2)
def vaM (B : Nat → Int32) (s : MS) : Int32 × MS :=
  if fDig (byR B s.tl s.po) = true then (-1, s)
  else if (twR B 9 s).1 = true then (0, (twR B 9 s).2)
  else if (twR B 10 (twR B 9 s).2).1 = true then (1, (twR B 10 (twR B 9 s).2).2)
  else if (twR B 11 (twR B 10 (twR B 9 s).2).2).1 = true then (2, (twR B 11 (twR B 10 (twR B 9 s).2).2).2)
  else (-1, (twR B 11 (twR B 10 (twR B 9 s).2).2).2)
def nvM (B : Nat → Int32) (V : Int32 × MS) : Int32 × MS := if 0 ≤ V.1 then V else numM B 0 9999 V.2
def facA (B : Nat → Int32) (X : LQ) : LQ := emR (nvM B (vaM B X.1)).1 (emR (if 0 ≤ (vaM B X.1).1 then 1 else 0) ((nvM B (vaM B X.1)).2, X.2))
/-- a factor; f reads the sum between parentheses -/
def facL (B : Nat → Int32) (f : LQ → LQ) (X : LQ) : LQ := if X.1.er = 0 then (if btL B (nxL B X) = 40 then cloL B (f (opnL (nxL B X))) else facA B (nxL B X)) else X
theorem Kp_va {B : Nat → Int32} {s : MS} (h : MJ s) : Kp s (vaM B s).2 := by
  have h1 := Kp_tw (B := B) (i := 9) (by decide) h
  have h2 := h1.t (Kp_tw (B := B) (i := 10) (by decide) (h1.mj h))
  have h3 := h2.t (Kp_tw (B := B) (i := 11) (by decide) (h2.mj h))
  unfold vaM
  split
  · exact Kp.r h
  · split
    · exact h1
    · split
      · exact h2
      · split
        · exact h3
        · exact h3
theorem va_pos {B : Nat → Int32} {s : MS} (h : MJ s) (hv : 0 ≤ (vaM B s).1) : s.po < (vaM B s).2.po := by
  have h1 := Kp_tw (B := B) (i := 9) (by decide) h
  have h2 := h1.t (Kp_tw (B := B) (i := 10) (by decide) (h1.mj h))
  unfold vaM at hv ⊢
  split at hv
  · exact absurd (show (0 : Int32) ≤ -1 from hv) (by decide)
  · rename_i c0
    rw [if_neg c0]
    split at hv
    · rename_i c1
      rw [if_pos c1]
      exact tw_pos (by decide) h c1
    · rename_i c1
      rw [if_neg c1]
      split at hv
      · rename_i c2
        rw [if_pos c2]
        exact Nat.lt_of_le_of_lt h1.2.1 (tw_pos (by decide) (h1.mj h) c2)
      · rename_i c2
        rw [if_neg c2]
        split at hv
        · rename_i c3
          rw [if_pos c3]
          exact Nat.lt_of_le_of_lt h2.2.1 (tw_pos (by decide) (h2.mj h) c3)
        · exact absurd (show (0 : Int32) ≤ -1 from hv) (by decide)
theorem Kp_nv {B : Nat → Int32} {V : Int32 × MS} (h : MJ V.2) : Kp V.2 (nvM B V).2 := by
  unfold nvM
  split
  · exact Kp.r h
  · exact Kp_num h
theorem GK_facA {B : Nat → Int32} : GK (facA B) := by
  intro X h
  have h1 := Kp_va (B := B) h
  have h2 := h1.t (Kp_nv (B := B) (h1.mj h))
  refine ⟨?_, fun a ha => ?_⟩
  · rw [facA, em_1, em_1]; exact h2
  · have h3 : EI (a - 3) ((nvM B (vaM B X.1)).2, X.2) := ha.mv1 h2 (fun h9 => by
      by_cases hv : 0 ≤ (vaM B X.1).1
      · rw [nvM, if_pos hv]; exact va_pos h hv
      · rw [nvM, if_neg hv] at h9 ⊢
        exact Nat.lt_of_le_of_lt h1.2.1 (num_pos (h1.mj h) h9))
    have h4 := EI_em (v := (nvM B (vaM B X.1)).1) (EI_em (v := if 0 ≤ (vaM B X.1).1 then 1 else 0) h3)
    exact h4.w (by omega)
theorem Kp_opS {s : MS} (h : MJ s) : Kp s (opS s) := by
  unfold opS
  split
  · exact Kp_rep (by decide) h
  · exact Kp.r h
theorem opS_po {s : MS} : (opS s).po = s.po ∧ (opS s).tl = s.tl := by
  unfold opS
  split
  · unfold repR
    split
    · exact ⟨rfl, rfl⟩
    · exact ⟨rfl, rfl⟩
  · exact ⟨rfl, rfl⟩
theorem GK_fac {B : Nat → Int32} {f : LQ → LQ} (hf : GK f) : GK (facL B f) := by
  intro X h
  unfold facL
  have hn := Kp_nx (B := B) h
  have hnJ : MJ (nxL B X).1 := hn.mj h
  split
  · split
    · rename_i h9 h2
      have hlt : (nxL B X).1.po < (nxL B X).1.tl := byR_in h2 (by decide)
      have ho : (opnL (nxL B X)).1.tl = X.1.tl ∧ (opnL (nxL B X)).1.po = (nxL B X).1.po + 1 ∧ (opnL (nxL B X)).1.ne = X.1.ne + 1 ∧ ((opnL (nxL B X)).1.er = 0 → X.1.er = 0) ∧ gx (opnL (nxL B X)).1 = gx X.1 := by
        have hk := Kp_opS (s := (nxL B X).1) hnJ
        exact ⟨hk.1.trans hn.1, by show (opS _).po + 1 = _; rw [opS_po.1], by show (opS _).ne + 1 = _; rw [hk.2.2.2.1]; rfl, fun h => hk.2.2.2.2.1 h, hk.2.2.2.2.2⟩
      have hJ : MJ (opnL (nxL B X)).1 := ⟨by rw [ho.1, ho.2.1]; exact hlt, by rw [ho.1]; exact h.2⟩
      have h3 := hf _ hJ
      have h4 := Kp_exp (B := B) (c := 41) (by decide) (h3.1.mj hJ)
      have hk : Kp X.1 (cloL B (f (opnL (nxL B X)))).1 := by
        refine ⟨?_, ?_, h4.2.2.1, ?_, fun h => ho.2.2.2.1 (h3.1.2.2.2.2.1 (h4.2.2.2.2.1 h)), h4.2.2.2.2.2.trans (h3.1.2.2.2.2.2.trans ho.2.2.2.2)⟩
        · exact h4.1.trans (h3.1.1.trans ho.1)
        · have a1 := hn.2.1
          have a2 := h3.1.2.1
          have a3 := h4.2.1
          rw [ho.2.1] at a2
          show X.1.po ≤ (expR2 B 41 (f (opnL (nxL B X))).1).po
          have a4 : X.1.po ≤ (nxL B X).1.po := a1
          omega
        · show (expR2 B 41 (f (opnL (nxL B X))).1).ne - 1 = X.1.ne
          rw [h4.2.2.2.1, h3.1.2.2.2.1, ho.2.2.1, Int32.add_sub_cancel]
      refine ⟨hk, fun a ha => ?_⟩
      have e1 : EI (a - 3) (opnL (nxL B X)) := fun h8 => by
        obtain ⟨k, h6, e⟩ := ha (ho.2.2.2.1 h8)
        refine ⟨k, ?_, e⟩
        rw [ho.2.1]
        have a4 : X.1.po ≤ (nxL B X).1.po := hn.2.1
        omega
      have e2 := (h3.2 _ e1).mv h4
      intro h8
      obtain ⟨k, h6, e⟩ := e2 h8
      refine ⟨k, ?_, e⟩
      have h6' : 2 * (k : Int) ≤ 3 * ((expR2 B 41 (f (opnL (nxL B X))).1).po : Int) + (a - 3 + 1) := h6
      show 2 * (k : Int) ≤ 3 * ((expR2 B 41 (f (opnL (nxL B X))).1).po : Int) + (a + 1)
      omega
    · have h3 := GK_facA (B := B) (nxL B X) hnJ
      exact ⟨hn.t h3.1, fun a ha => h3.2 a (ha.mv hn)⟩
  · exact ⟨Kp.r h, fun a ha => ha.w (by omega)⟩
set_option maxRecDepth 20000 in
set_option maxHeartbeats 2000000 in
theorem r_factorE (l : Launch) (g : Gl) (m : Nat → Nat) (B : Nat → Int32)  (X : LQ) (hJ : MJ X.1) (hE : ¬ X.1.er = 0) : Ct l g yX7_factor cX7_factor 4 none 1 40 0 0 [.ref (m 0)] (lcW g m (X).1 B (X).2) (fun v w => v = none ∧ w = lcW g m (X).1 B (X).2) noX := by
  refine Ct.intro [some (.ref (m 0)), none, none, none] (by decide +kernel) (fun _ h => h) (Nat.le_of_ble_eq_true rfl) (fun A H0 K ok => ?_)
  refine A_aload_n ok.b rfl dX7_factor_0 gp0 ?_
  refine A_callVR ok [0, 1] [2] (As := []) (wr := ([(m 3, .inl (g.2.1 0, 1476, .inl (X.2)))] : va_W)) mf_X7_isGood ml_X7_71 in_X7_isGood se_X7_isGood cf7 gp0 (r_isGood l g m X.1 B hJ.mi.1) rfl rfl rfl dX7_factor_1 rfl rfl rfl (by decide) (Nat.le_of_ble_eq_true rfl) ⟨(Nat.le_of_ble_eq_true rfl), (Nat.le_of_ble_eq_true rfl)⟩ ⟨(Nat.le_of_ble_eq_true rfl), (Nat.le_of_ble_eq_true rfl)⟩ (fun _ _ hx => hx.elim) (fun v1 w1 q1 => ?_)
  obtain ⟨rfl, rfl⟩ := q1
  refine A_sub [1, 2, 0] (ws2 := (lcW g m (X.1) B (X.2))) rfl rfl ?_
  refine A_if_ne ok.b (tgt := 8) dX7_factor_4 (by decide) (fun c4 => (c4 (if_neg hE)).elim) (fun c4 => ?_)
  refine A_vret ok dX7_factor_7 (Nat.le_of_ble_eq_true rfl) (Nat.le_of_ble_eq_true rfl) ?_
  exact ⟨rfl, rfl⟩
set_option maxRecDepth 20000 in
set_option maxHeartbeats 2000000 in
theorem r_termE (l : Launch) (g : Gl) (m : Nat → Nat) (B : Nat → Int32)  (X : LQ) (hJ : MJ X.1) (hE : ¬ X.1.er = 0) : Ct l g yX7_term cX7_term 2 none 2 80 0 0 [.ref (m 0)] (lcW g m (X).1 B (X).2) (fun v w => v = none ∧ w = lcW g m (X).1 B (X).2) noX := by
  refine Ct.intro [some (.ref (m 0)), none] (by decide +kernel) (fun _ h => h) (Nat.le_of_ble_eq_true rfl) (fun A H0 K ok => ?_)
  refine A_aload_n ok.b rfl dX7_term_0 gp0 ?_
  refine A_sameVR ok (As := []) mf_X7_factor ml_X7_134 in_X7_factor se_X7_factor cf7 gp0 (r_factorE l g m B X hJ hE) rfl rfl dX7_term_1 (Nat.le_of_ble_eq_true rfl) ⟨(Nat.le_of_ble_eq_true rfl), (Nat.le_of_ble_eq_true rfl)⟩ ⟨(Nat.le_of_ble_eq_true rfl), (Nat.le_of_ble_eq_true rfl)⟩ (fun _ _ hx => hx.elim) (fun v1 w1 q1 => ?_)
  obtain ⟨rfl, rfl⟩ := q1
  refine A_aload_n ok.b rfl dX7_term_4 gp0 ?_
  refine A_callVR ok [0, 1] [2] (As := []) (wr := ([(m 3, .inl (g.2.1 0, 1476, .inl (X.2)))] : va_W)) mf_X7_isGood ml_X7_71 in_X7_isGood se_X7_isGood cf7 gp0 (r_isGood l g m X.1 B hJ.mi.1) rfl rfl rfl dX7_term_5 rfl rfl rfl (by decide) (Nat.le_of_ble_eq_true rfl) ⟨(Nat.le_of_ble_eq_true rfl), (Nat.le_of_ble_eq_true rfl)⟩ ⟨(Nat.le_of_ble_eq_true rfl), (Nat.le_of_ble_eq_true rfl)⟩ (fun _ _ hx => hx.elim) (fun v5 w5 q5 => ?_)
  obtain ⟨rfl, rfl⟩ := q5
  refine A_sub [1, 2, 0] (ws2 := (lcW g m (X.1) B (X.2))) rfl rfl ?_
  refine A_if_eq ok.b (tgt := 74) dX7_term_8 (by decide) (fun c8 => ?_) (fun c8 => (c8 (if_neg hE)).elim)
  refine A_vret ok dX7_term_74 (Nat.le_of_ble_eq_true rfl) (Nat.le_of_ble_eq_true rfl) ?_
  exact ⟨rfl, rfl⟩
set_option maxRecDepth 20000 in
set_option maxHeartbeats 2000000 in
theorem r_sumE (l : Launch) (g : Gl) (m : Nat → Nat) (B : Nat → Int32)  (X : LQ) (hJ : MJ X.1) (hE : ¬ X.1.er = 0) : Ct l g yX7_sum cX7_sum 2 none 3 120 0 0 [.ref (m 0)] (lcW g m (X).1 B (X).2) (fun v w => v = none ∧ w = lcW g m (X).1 B (X).2) noX := by
  refine Ct.intro [some (.ref (m 0)), none] (by decide +kernel) (fun _ h => h) (Nat.le_of_ble_eq_true rfl) (fun A H0 K ok => ?_)
  refine A_aload_n ok.b rfl dX7_sum_0 gp0 ?_
  refine A_sameVR ok (As := []) mf_X7_term ml_X7_137 in_X7_term se_X7_term cf7 gp0 (r_termE l g m B X hJ hE) rfl rfl dX7_sum_1 (Nat.le_of_ble_eq_true rfl) ⟨(Nat.le_of_ble_eq_true rfl), (Nat.le_of_ble_eq_true rfl)⟩ ⟨(Nat.le_of_ble_eq_true rfl), (Nat.le_of_ble_eq_true rfl)⟩ (fun _ _ hx => hx.elim) (fun v1 w1 q1 => ?_)
  obtain ⟨rfl, rfl⟩ := q1
  refine A_aload_n ok.b rfl dX7_sum_4 gp0 ?_
  refine A_callVR ok [0, 1] [2] (As := []) (wr := ([(m 3, .inl (g.2.1 0, 1476, .inl (X.2)))] : va_W)) mf_X7_isGood ml_X7_71 in_X7_isGood se_X7_isGood cf7 gp0 (r_isGood l g m X.1 B hJ.mi.1) rfl rfl rfl dX7_sum_5 rfl rfl rfl (by decide) (Nat.le_of_ble_eq_true rfl) ⟨(Nat.le_of_ble_eq_true rfl), (Nat.le_of_ble_eq_true rfl)⟩ ⟨(Nat.le_of_ble_eq_true rfl), (Nat.le_of_ble_eq_true rfl)⟩ (fun _ _ hx => hx.elim) (fun v5 w5 q5 => ?_)
  obtain ⟨rfl, rfl⟩ := q5
  refine A_sub [1, 2, 0] (ws2 := (lcW g m (X.1) B (X.2))) rfl rfl ?_
  refine A_if_eq ok.b (tgt := 74) dX7_sum_8 (by decide) (fun c8 => ?_) (fun c8 => (c8 (if_neg hE)).elim)
  refine A_vret ok dX7_sum_74 (Nat.le_of_ble_eq_true rfl) (Nat.le_of_ble_eq_true rfl) ?_
  exact ⟨rfl, rfl⟩
