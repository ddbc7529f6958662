def loL (B : Nat → Int32) (c1 c2 o1 o2 : Int32) (f : LQ → LQ) : Nat → LQ → LQ
  | 0, X => X
  | k + 1, X => if X.1.er = 0 then (if btL B (nxL B X) = c1 ∨ btL B (nxL B X) = c2 then
      loL B c1 c2 o1 o2 f k (emR (if btL B (nxL B X) = c1 then o1 else o2) (f ((nxL B X).1.wpo ((nxL B X).1.po + 1), X.2))) else nxL B X) else X
theorem loL_s {B : Nat → Int32} {c1 c2 o1 o2 : Int32} {f : LQ → LQ} {k : Nat} {X : LQ} : loL B c1 c2 o1 o2 f (k + 1) X = if X.1.er = 0 then (if btL B (nxL B X) = c1 ∨ btL B (nxL B X) = c2 then
      loL B c1 c2 o1 o2 f k (emR (if btL B (nxL B X) = c1 then o1 else o2) (f ((nxL B X).1.wpo ((nxL B X).1.po + 1), X.2))) else nxL B X) else X := rfl
def termL (B : Nat → Int32) (f : LQ → LQ) (X : LQ) : LQ := loL B 42 47 4 5 f 801 (f X)
def sum1L (B : Nat → Int32) (f : LQ → LQ) (X : LQ) : LQ := loL B 43 45 2 3 f 801 (f X)
def sumL2 (B : Nat → Int32) : Nat → LQ → LQ
  | 0 => sum1L B (termL B (facL B id))
  | n + 1 => sum1L B (termL B (facL B (sumL2 B n)))
theorem GK_id : GK id := fun X h => ⟨Kp.r h, fun a ha => ha.w (by omega)⟩
/-- one round of a loop -/
theorem lo_step {B : Nat → Int32} {f : LQ → LQ} (hf : GK f) {X : LQ} (h : MJ X.1) {x : Int32} (hx : ¬ btL B (nxL B X) = -1) : Kp X.1 (emR x (f ((nxL B X).1.wpo ((nxL B X).1.po + 1), X.2))).1 ∧ X.1.po < (emR x (f ((nxL B X).1.wpo ((nxL B X).1.po + 1), X.2))).1.po ∧ ∀ a, EI a X → EI a (emR x (f ((nxL B X).1.wpo ((nxL B X).1.po + 1), X.2))) := by
  have hn := Kp_nx (B := B) h
  have hlt : (nxR B X.1).po < (nxR B X.1).tl := by
    by_cases h2 : (nxR B X.1).po < (nxR B X.1).tl
    · exact h2
    · exact absurd (byR_f h2) hx
  have hk : Kp X.1 ((nxL B X).1.wpo ((nxL B X).1.po + 1)) := hn.t (Kp_po hlt)
  have h3 := hf ((nxL B X).1.wpo ((nxL B X).1.po + 1), X.2) (hk.mj h)
  refine ⟨?_, ?_, fun a ha => ?_⟩
  · rw [em_1]; exact hk.t h3.1
  · rw [em_1]
    have a1 := hn.2.1
    have a2 : (nxR B X.1).po + 1 ≤ (f ((nxL B X).1.wpo ((nxL B X).1.po + 1), X.2)).1.po := h3.1.2.1
    omega
  · have e1 : EI (a - 3) ((nxL B X).1.wpo ((nxL B X).1.po + 1), X.2) := ha.mv1 hk (fun _ => by
      have a1 := hn.2.1
      show X.1.po < (nxR B X.1).po + 1
      omega)
    exact (EI_em (h3.2 _ e1)).w (by omega)
theorem GK_lo {B : Nat → Int32} {c1 c2 o1 o2 : Int32} (hc1 : c1 ≠ -1) (hc2 : c2 ≠ -1) {f : LQ → LQ} (hf : GK f) : ∀ (k : Nat) (X : LQ), MJ X.1 → Kp X.1 (loL B c1 c2 o1 o2 f k X).1 ∧ ∀ a, EI a X → EI a (loL B c1 c2 o1 o2 f k X)
  | 0, X, h => ⟨Kp.r h, fun a ha => ha⟩
  | k + 1, X, h => by
    rw [loL_s]
    split
    · split
      · rename_i h9 h2
        have hx : ¬ btL B (nxL B X) = -1 := fun h8 => by
          rcases h2 with h2 | h2
          · exact hc1 (h2.symm.trans h8)
          · exact hc2 (h2.symm.trans h8)
        have h3 := lo_step hf h (x := if btL B (nxL B X) = c1 then o1 else o2) hx
        have h4 := GK_lo (B := B) hc1 hc2 (o1 := o1) (o2 := o2) hf k _ (h3.1.mj h)
        exact ⟨h3.1.t h4.1, fun a ha => h4.2 a (h3.2.2 a ha)⟩
      · exact ⟨Kp_nx h, fun a ha => ha.mv (Kp_nx h)⟩
    · exact ⟨Kp.r h, fun a ha => ha⟩
theorem GK_term {B : Nat → Int32} {f : LQ → LQ} (hf : GK f) : GK (termL B f) := fun X h => by
  have h1 := hf X h
  have h2 := GK_lo (B := B) (c1 := 42) (c2 := 47) (o1 := 4) (o2 := 5) (by decide) (by decide) hf 801 (f X) (h1.1.mj h)
  exact ⟨h1.1.t h2.1, fun a ha => h2.2 _ (h1.2 a ha)⟩
theorem GK_sum1 {B : Nat → Int32} {f : LQ → LQ} (hf : GK f) : GK (sum1L B f) := fun X h => by
  have h1 := hf X h
  have h2 := GK_lo (B := B) (c1 := 43) (c2 := 45) (o1 := 2) (o2 := 3) (by decide) (by decide) hf 801 (f X) (h1.1.mj h)
  exact ⟨h1.1.t h2.1, fun a ha => h2.2 _ (h1.2 a ha)⟩
theorem GK_sum {B : Nat → Int32} : ∀ n, GK (sumL2 B n)
  | 0 => GK_sum1 (GK_term (GK_fac GK_id))
  | n + 1 => GK_sum1 (GK_term (GK_fac (GK_sum n)))
theorem em_7 {v : Int32} {X : LQ} {k : Nat} (h : X.2 7 = nI k) (h9 : X.1.er = 0) : (emR v X).2 7 = nI (k + 1) := by
  rw [emR, if_pos h9]
  show upd (upd X.2 (176 + (X.2 7).toNatClampNeg) v) 7 (X.2 7 + 1) 7 = _
  rw [upd_at, if_pos rfl, h, nI_1]
theorem rep_po {k o : Int32} {s : MS} : (repR k o s).po = s.po := by
  unfold repR
  split
  · rfl
  · rfl
set_option maxRecDepth 20000 in
set_option maxHeartbeats 2000000 in
theorem r_factor0 (l : Launch) (g : Gl) (m : Nat → Nat) (B : Nat → Int32) (d0 : Int32) (hd : d0 = 4) (f : LQ → LQ) (hfi : f = id) (X : LQ) (hJ : MJ X.1) (hI : EI 2 X) (hne : X.1.ne = d0) : Ct l g yX7_factor cX7_factor 4 none 5 200 0 0 [.ref (m 0)] (lcW g m (X).1 B (X).2) (fun v w => v = none ∧ w = (lcW g m (facL B f X).1 B (facL B f X).2)) noX := by
  refine Ct.intro [some (.ref (m 0)), none, none, none] (by decide +kernel) (fun _ h => h) (Nat.le_of_ble_eq_true rfl) (fun A H0 K ok => ?_)
  refine A_aload_n ok.b rfl dX7_factor_0 gp0 ?_
  refine A_callVR ok [0, 1] [2] (As := []) (wr := ([(m 3, .inl (g.2.1 0, 1476, .inl (X.2)))] : va_W)) mf_X7_isGood ml_X7_71 in_X7_isGood se_X7_isGood cf7 gp0 (r_isGood l g m X.1 B hJ.mi.1) rfl rfl rfl dX7_factor_1 rfl rfl rfl (by decide) (Nat.le_of_ble_eq_true rfl) ⟨(Nat.le_of_ble_eq_true rfl), (Nat.le_of_ble_eq_true rfl)⟩ ⟨(Nat.le_of_ble_eq_true rfl), (Nat.le_of_ble_eq_true rfl)⟩ (fun _ _ hx => hx.elim) (fun v1 w1 q1 => ?_)
  obtain ⟨rfl, rfl⟩ := q1
  refine A_sub [1, 2, 0] (ws2 := (lcW g m (X.1) B (X.2))) rfl rfl ?_
  refine A_if_ne ok.b (tgt := 8) dX7_factor_4 (by decide) (fun c4 => ?_) (fun c4 => ?_)
  · skip
    have h9 : (X.1).er = 0 := by
      by_cases h : (X.1).er = 0
      · exact h
      · rw [if_neg h] at c4; exact absurd rfl c4
    refine A_aload_n ok.b rfl dX7_factor_8 gp0 ?_
    refine A_callVR ok [0, 1] [2] (As := []) (wr := ([(m 3, .inl (g.2.1 0, 1476, .inl (X.2)))] : va_W)) mf_X7_next ml_X7_75 in_X7_next se_X7_next cf7 gp0 (r_next l g m X.1 B hJ.mi.1 hJ.mi.2) rfl rfl rfl dX7_factor_9 rfl rfl rfl (by decide) (Nat.le_of_ble_eq_true rfl) ⟨(Nat.le_of_ble_eq_true rfl), (Nat.le_of_ble_eq_true rfl)⟩ ⟨(Nat.le_of_ble_eq_true rfl), (Nat.le_of_ble_eq_true rfl)⟩ (fun _ _ hx => hx.elim) (fun v9 w9 q9 => ?_)
    obtain ⟨rfl, rfl⟩ := q9
    have hSJ : MJ (nxR B X.1) := (Kp_nx hJ).mj hJ
    have hS9 : (nxR B X.1).er = 0 := h9
    have hSn : (nxR B X.1).ne = X.1.ne := rfl
    have hEI : EI 2 (nxR B X.1, X.2) := hI.mv (Kp_nx hJ)
    have eb : byR B X.1.tl (scanE fSp B X.1.tl X.1.po) = btL B (nxR B X.1, X.2) := rfl
    have eF : facL B f X = if btL B (nxR B X.1, X.2) = 40 then cloL B (f (opnL (nxR B X.1, X.2))) else facA B (nxR B X.1, X.2) := by rw [facL, if_pos h9] <;> rfl
    rw [eb]
    generalize nxR B X.1 = S at hSJ hS9 hSn hEI eF ⊢
    generalize X.2 = D at hEI eF ⊢
    refine A_sub [1, 2, 0] (ws2 := (lcW g m (S) B (D))) rfl rfl ?_
    refine A_istore_n ok.b rfl dX7_factor_12 (by decide) (sts1 rfl st0) ?_
    refine A_iload_n ok.b rfl dX7_factor_13 (gps gp0) ?_
    refine A_bipush ok.b (v := 40) dX7_factor_14 (by decide) ?_
    refine A_icmp_ne ok.b (tgt := 78) dX7_factor_16 (by decide) (fun c16 => ?_) (fun c16 => ?_)
    · skip
      rw [if_neg c16] at eF
      have M129 : ∀ V : Int32 × MS, vaM B S = V → AW g A H0 4 K 129 [some (.ref (m 0)), some (.int (btL B (S, D))), none, none] [.int V.1] (lcW g m V.2 B D) 0 0 := by
        intro V hV
        have hVJ : MJ V.2 := by rw [← hV]; exact (Kp_va hSJ).mj hSJ
        obtain ⟨k, hk, e7⟩ := hEI.room hSJ hS9
        have hk2 : k ≤ 1201 := by
          obtain ⟨k2, h2, e2⟩ := hEI hS9
          have a1 := hSJ.1
          have a2 := hSJ.2
          have e3 : nI k = nI k2 := e7.symm.trans e2
          have a3 : k2 ≤ 1201 := by
            have h2' : 2 * (k2 : Int) ≤ 3 * (S.po : Int) + 2 := h2
            omega
          have := (nI_eq (a := k) (b := k2) (by omega) (by omega)).mp e3
          omega
        have e7D : D 7 = nI k := e7
        have M146 : ∀ N : Int32 × MS, nvM B V = N → AW g A H0 4 K 146 [some (.ref (m 0)), some (.int (btL B (S, D))), some (.int V.1), none] [.int N.1] (lcW g m N.2 B D) 0 0 := by
          intro N hN
          have hNJ : MJ N.2 := by rw [← hN]; exact (Kp_nv hVJ).mj hVJ
          have eF2 : facL B f X = emR N.1 (emR (if 0 ≤ V.1 then 1 else 0) (N.2, D)) := by rw [eF, facA]; show emR (nvM B (vaM B S)).1 (emR (if 0 ≤ (vaM B S).1 then 1 else 0) ((nvM B (vaM B S)).2, D)) = _; rw [hV, hN]
          refine A_istore_n ok.b rfl dX7_factor_146 (by decide) (sts (sts (sts1 rfl st0))) ?_
          refine A_aload_n ok.b rfl dX7_factor_147 gp0 ?_
          refine A_iload_n ok.b rfl dX7_factor_148 (gps (gps gp0)) ?_
          refine A_if_ge ok.b (tgt := 156) dX7_factor_149 (by decide) (fun c149 => ?_) (fun c149 => ?_)
          · skip
            refine A_iconst ok.b (v := 1) dX7_factor_156 (by decide) ?_
            refine A_sameVR ok (As := [_]) mf_X7_emit ml_X7_131 in_X7_emit se_X7_emit cf7 gp0 (r_emit l g m N.2 B D hNJ.mi (fun _ => ⟨k, hk, e7D⟩) _) rfl rfl dX7_factor_157 (Nat.le_of_ble_eq_true rfl) ⟨(Nat.le_of_ble_eq_true rfl), (Nat.le_of_ble_eq_true rfl)⟩ ⟨(Nat.le_of_ble_eq_true rfl), (Nat.le_of_ble_eq_true rfl)⟩ (fun _ _ hx => hx.elim) (fun v157 w157 q157 => ?_)
            obtain ⟨rfl, rfl⟩ := q157
            refine A_aload_n ok.b rfl dX7_factor_160 gp0 ?_
            refine A_iload_n ok.b rfl dX7_factor_161 (gps (gps (gps gp0))) ?_
            refine A_sameVR ok (As := [_]) mf_X7_emit ml_X7_131 in_X7_emit se_X7_emit cf7 gp0 (r_emit l g m (emR 1 (N.2, D)).1 B (emR 1 (N.2, D)).2 (by rw [em_1]; exact hNJ.mi) (fun h => ⟨k + 1, by omega, em_7 e7D (by rw [em_1] at h; exact h)⟩) _) rfl rfl dX7_factor_162 (Nat.le_of_ble_eq_true rfl) ⟨(Nat.le_of_ble_eq_true rfl), (Nat.le_of_ble_eq_true rfl)⟩ ⟨(Nat.le_of_ble_eq_true rfl), (Nat.le_of_ble_eq_true rfl)⟩ (fun _ _ hx => hx.elim) (fun v162 w162 q162 => ?_)
            obtain ⟨rfl, rfl⟩ := q162
            refine A_vret ok dX7_factor_165 (Nat.le_of_ble_eq_true rfl) (Nat.le_of_ble_eq_true rfl) ?_
            rw [if_pos c149] at eF2
            exact ⟨rfl, by rw [eF2]⟩
          · skip
            refine A_iconst ok.b (v := 0) dX7_factor_152 (by decide) ?_
            refine A_goto ok.b (tgt := 157) dX7_factor_153 (by decide) ?_
            refine A_sameVR ok (As := [_]) mf_X7_emit ml_X7_131 in_X7_emit se_X7_emit cf7 gp0 (r_emit l g m N.2 B D hNJ.mi (fun _ => ⟨k, hk, e7D⟩) _) rfl rfl dX7_factor_157 (Nat.le_of_ble_eq_true rfl) ⟨(Nat.le_of_ble_eq_true rfl), (Nat.le_of_ble_eq_true rfl)⟩ ⟨(Nat.le_of_ble_eq_true rfl), (Nat.le_of_ble_eq_true rfl)⟩ (fun _ _ hx => hx.elim) (fun v157 w157 q157 => ?_)
            obtain ⟨rfl, rfl⟩ := q157
            refine A_aload_n ok.b rfl dX7_factor_160 gp0 ?_
            refine A_iload_n ok.b rfl dX7_factor_161 (gps (gps (gps gp0))) ?_
            refine A_sameVR ok (As := [_]) mf_X7_emit ml_X7_131 in_X7_emit se_X7_emit cf7 gp0 (r_emit l g m (emR 0 (N.2, D)).1 B (emR 0 (N.2, D)).2 (by rw [em_1]; exact hNJ.mi) (fun h => ⟨k + 1, by omega, em_7 e7D (by rw [em_1] at h; exact h)⟩) _) rfl rfl dX7_factor_162 (Nat.le_of_ble_eq_true rfl) ⟨(Nat.le_of_ble_eq_true rfl), (Nat.le_of_ble_eq_true rfl)⟩ ⟨(Nat.le_of_ble_eq_true rfl), (Nat.le_of_ble_eq_true rfl)⟩ (fun _ _ hx => hx.elim) (fun v162 w162 q162 => ?_)
            obtain ⟨rfl, rfl⟩ := q162
            refine A_vret ok dX7_factor_165 (Nat.le_of_ble_eq_true rfl) (Nat.le_of_ble_eq_true rfl) ?_
            rw [if_neg c149] at eF2
            exact ⟨rfl, by rw [eF2]⟩
        refine A_istore_n ok.b rfl dX7_factor_129 (by decide) (sts (sts1 rfl st0)) ?_
        refine A_iload_n ok.b rfl dX7_factor_130 (gps (gps gp0)) ?_
        refine A_if_ge ok.b (tgt := 145) dX7_factor_131 (by decide) (fun c131 => ?_) (fun c131 => ?_)
        · skip
          refine A_iload_n ok.b rfl dX7_factor_145 (gps (gps gp0)) ?_
          exact M146 V (by rw [nvM, if_pos c131])
        · skip
          refine A_aload_n ok.b rfl dX7_factor_134 gp0 ?_
          refine A_iconst ok.b (v := 0) dX7_factor_135 (by decide) ?_
          refine A_sipush ok.b (v := 9999) dX7_factor_136 (by decide) ?_
          refine A_callVR ok [0, 1] [2] (As := [_, _]) (wr := ([(m 3, .inl (g.2.1 0, 1476, .inl (D)))] : va_W)) mf_X7_number ml_X7_104 in_X7_number se_X7_number cf7 gp0 (r_number l g m V.2 B hVJ.mi.1 hVJ.mi.2 0 9999) rfl rfl rfl dX7_factor_139 rfl rfl rfl (by decide) (Nat.le_of_ble_eq_true rfl) ⟨(Nat.le_of_ble_eq_true rfl), (Nat.le_of_ble_eq_true rfl)⟩ ⟨(Nat.le_of_ble_eq_true rfl), (Nat.le_of_ble_eq_true rfl)⟩ (fun _ _ hx => hx.elim) (fun v139 w139 q139 => ?_)
          obtain ⟨rfl, rfl⟩ := q139
          refine A_sub [1, 2, 0] (ws2 := (lcW g m ((numM B 0 9999 V.2).2) B (D))) rfl rfl ?_
          refine A_goto ok.b (tgt := 146) dX7_factor_142 (by decide) ?_
          exact M146 (numM B 0 9999 V.2) (by rw [nvM, if_neg c131])
      refine A_iload_n ok.b rfl dX7_factor_78 (gps gp0) ?_
      refine A_pureS ok.b (As := [_]) mf_X7_isDigit ml_X7_92 rfl sc_X7_isDigit (r_isDigit l g _) rfl rfl dX7_factor_79 (Nat.le_of_ble_eq_true rfl) ⟨(Nat.le_of_ble_eq_true rfl), (Nat.le_of_ble_eq_true rfl)⟩ ⟨(Nat.le_of_ble_eq_true rfl), (Nat.le_of_ble_eq_true rfl)⟩ ?_
      refine A_if_eq ok.b (tgt := 89) dX7_factor_82 (by decide) (fun c82 => ?_) (fun c82 => ?_)
      · skip
        have hd : ¬ fDig (byR B S.tl S.po) = true := by rw [← inB_dig]; exact bI_z c82
        have k1 := (Kp_tw (B := B) (i := 9) (by decide) hSJ).mj hSJ
        have k2 := (Kp_tw (B := B) (i := 10) (by decide) k1).mj k1
        refine A_aload_n ok.b rfl dX7_factor_89 gp0 ?_
        refine A_ldcS ok.b (List.mem_of_getElem? (l := sTab) (i := 23) rfl) dX7_factor_90 ?_
        refine A_callVR ok [0, 1] [2] (As := [_]) (wr := ([(m 3, .inl (g.2.1 0, 1476, .inl (D)))] : va_W)) mf_X7_takeWord ml_X7_109 in_X7_takeWord se_X7_takeWord cf7 gp0 (r_takeWord l g m S B hSJ.mi.1 hSJ.mi.2 9 (by decide)) rfl rfl rfl dX7_factor_92 rfl rfl rfl (by decide) (Nat.le_of_ble_eq_true rfl) ⟨(Nat.le_of_ble_eq_true rfl), (Nat.le_of_ble_eq_true rfl)⟩ ⟨(Nat.le_of_ble_eq_true rfl), (Nat.le_of_ble_eq_true rfl)⟩ (fun _ _ hx => hx.elim) (fun v92 w92 q92 => ?_)
        obtain ⟨rfl, rfl⟩ := q92
        refine A_sub [1, 2, 0] (ws2 := (lcW g m ((twR B 9 S).2) B (D))) rfl rfl ?_
        refine A_if_eq ok.b (tgt := 102) dX7_factor_95 (by decide) (fun c95 => ?_) (fun c95 => ?_)
        · skip
          refine A_aload_n ok.b rfl dX7_factor_102 gp0 ?_
          refine A_ldcS ok.b (List.mem_of_getElem? (l := sTab) (i := 24) rfl) dX7_factor_103 ?_
          refine A_callVR ok [0, 1] [2] (As := [_]) (wr := ([(m 3, .inl (g.2.1 0, 1476, .inl (D)))] : va_W)) mf_X7_takeWord ml_X7_109 in_X7_takeWord se_X7_takeWord cf7 gp0 (r_takeWord l g m (twR B 9 S).2 B k1.mi.1 k1.mi.2 10 (by decide)) rfl rfl rfl dX7_factor_105 rfl rfl rfl (by decide) (Nat.le_of_ble_eq_true rfl) ⟨(Nat.le_of_ble_eq_true rfl), (Nat.le_of_ble_eq_true rfl)⟩ ⟨(Nat.le_of_ble_eq_true rfl), (Nat.le_of_ble_eq_true rfl)⟩ (fun _ _ hx => hx.elim) (fun v105 w105 q105 => ?_)
          obtain ⟨rfl, rfl⟩ := q105
          refine A_sub [1, 2, 0] (ws2 := (lcW g m ((twR B 10 (twR B 9 S).2).2) B (D))) rfl rfl ?_
          refine A_if_eq ok.b (tgt := 115) dX7_factor_108 (by decide) (fun c108 => ?_) (fun c108 => ?_)
          · skip
            refine A_aload_n ok.b rfl dX7_factor_115 gp0 ?_
            refine A_ldcS ok.b (List.mem_of_getElem? (l := sTab) (i := 25) rfl) dX7_factor_116 ?_
            refine A_callVR ok [0, 1] [2] (As := [_]) (wr := ([(m 3, .inl (g.2.1 0, 1476, .inl (D)))] : va_W)) mf_X7_takeWord ml_X7_109 in_X7_takeWord se_X7_takeWord cf7 gp0 (r_takeWord l g m (twR B 10 (twR B 9 S).2).2 B k2.mi.1 k2.mi.2 11 (by decide)) rfl rfl rfl dX7_factor_118 rfl rfl rfl (by decide) (Nat.le_of_ble_eq_true rfl) ⟨(Nat.le_of_ble_eq_true rfl), (Nat.le_of_ble_eq_true rfl)⟩ ⟨(Nat.le_of_ble_eq_true rfl), (Nat.le_of_ble_eq_true rfl)⟩ (fun _ _ hx => hx.elim) (fun v118 w118 q118 => ?_)
            obtain ⟨rfl, rfl⟩ := q118
            refine A_sub [1, 2, 0] (ws2 := (lcW g m ((twR B 11 (twR B 10 (twR B 9 S).2).2).2) B (D))) rfl rfl ?_
            refine A_if_eq ok.b (tgt := 128) dX7_factor_121 (by decide) (fun c121 => ?_) (fun c121 => ?_)
            · skip
              refine A_iconst ok.b (v := (-1)) dX7_factor_128 (by decide) ?_
              exact M129 (-1, (twR B 11 (twR B 10 (twR B 9 S).2).2).2) (by rw [vaM, if_neg hd, if_neg (bI_z c95), if_neg (bI_z c108), if_neg (bI_z c121)])
            · skip
              refine A_iconst ok.b (v := 2) dX7_factor_124 (by decide) ?_
              refine A_goto ok.b (tgt := 129) dX7_factor_125 (by decide) ?_
              exact M129 (2, (twR B 11 (twR B 10 (twR B 9 S).2).2).2) (by rw [vaM, if_neg hd, if_neg (bI_z c95), if_neg (bI_z c108), if_pos (bI_n c121)])
          · skip
            refine A_iconst ok.b (v := 1) dX7_factor_111 (by decide) ?_
            refine A_goto ok.b (tgt := 129) dX7_factor_112 (by decide) ?_
            exact M129 (1, (twR B 10 (twR B 9 S).2).2) (by rw [vaM, if_neg hd, if_neg (bI_z c95), if_pos (bI_n c108)])
        · skip
          refine A_iconst ok.b (v := 0) dX7_factor_98 (by decide) ?_
          refine A_goto ok.b (tgt := 129) dX7_factor_99 (by decide) ?_
          exact M129 (0, (twR B 9 S).2) (by rw [vaM, if_neg hd, if_pos (bI_n c95)])
      · skip
        refine A_iconst ok.b (v := (-1)) dX7_factor_85 (by decide) ?_
        refine A_goto ok.b (tgt := 129) dX7_factor_86 (by decide) ?_
        have hd : fDig (byR B S.tl S.po) = true := by rw [← inB_dig]; exact bI_n c82
        exact M129 (-1, S) (by rw [vaM, if_pos hd])
    · skip
      rw [if_pos c16] at eF
      have hlt : S.po < S.tl := byR_in c16 (by decide)
      refine A_aload_n ok.b rfl dX7_factor_19 gp0 ?_
      refine A_getf ok.b cf7 14 (by decide) fl_X7_115 gp0 (gps (gps (gps (gps (gps (gps (gps (gps (gps (gps (gps (gps (gps (gps gp0)))))))))))))) dX7_factor_20 ?_
      refine A_iconst ok.b (v := 4) dX7_factor_23 (by decide) ?_
      refine A_icmp_ne ok.b (tgt := 37) dX7_factor_24 (by decide) (fun c24 => ((show False from c24 (by rw [hSn, hne, hd]))).elim) (fun c24 => ?_)
      refine A_aload_n ok.b rfl dX7_factor_27 gp0 ?_
      refine A_bipush ok.b (v := (-5)) dX7_factor_28 (by decide) ?_
      refine A_aload_n ok.b rfl dX7_factor_30 gp0 ?_
      refine A_getf ok.b cf7 4 (by decide) fl_X7_54 gp0 (gps (gps (gps (gps gp0)))) dX7_factor_31 ?_
      refine A_callVR ok [0, 1] [2] (As := [_, _]) (wr := ([(m 3, .inl (g.2.1 0, 1476, .inl (D)))] : va_W)) mf_X7_report ml_X7_88 in_X7_report se_X7_report cf7 gp0 (r_report l g m S B hSJ.mi.1 _ _) rfl rfl rfl dX7_factor_34 rfl rfl rfl (by decide) (Nat.le_of_ble_eq_true rfl) ⟨(Nat.le_of_ble_eq_true rfl), (Nat.le_of_ble_eq_true rfl)⟩ ⟨(Nat.le_of_ble_eq_true rfl), (Nat.le_of_ble_eq_true rfl)⟩ (fun _ _ hx => hx.elim) (fun v34 w34 q34 => ?_)
      obtain ⟨rfl, rfl⟩ := q34
      have hrp : (repR (-5) (nI S.po) S).po = S.po := rep_po
      have hre : ¬ (repR (-5) (nI S.po) S).er = 0 := rep_er (by decide)
      have hro : opS S = repR (-5) (nI S.po) S := by rw [opS, if_pos (by rw [hSn, hne, hd])]
      have hMJr := (show MJ (((repR (-5) (nI S.po) S).wpo ((repR (-5) (nI S.po) S).po + 1)).wne ((repR (-5) (nI S.po) S).ne + 1)) from ⟨by have h := (Kp_rep (k := -5) (o := nI S.po) (by decide) hSJ).1; show (repR (-5) (nI S.po) S).po + 1 ≤ (repR (-5) (nI S.po) S).tl; rw [h, hrp]; exact hlt, by have h := (Kp_rep (k := -5) (o := nI S.po) (by decide) hSJ).1; show (repR (-5) (nI S.po) S).tl ≤ 800; rw [h]; exact hSJ.2⟩)
      have eF3 : facL B f X = cloL B (((repR (-5) (nI S.po) S).wpo ((repR (-5) (nI S.po) S).po + 1)).wne ((repR (-5) (nI S.po) S).ne + 1), D) := by rw [eF, hfi]; show cloL B (((opS S).wpo ((opS S).po + 1)).wne ((opS S).ne + 1), D) = _; rw [hro]
      generalize repR (-5) (nI S.po) S = Q at hrp hre hro hMJr eF3 ⊢
      refine A_sub [1, 2, 0] (ws2 := (lcW g m (Q) B (D))) rfl rfl ?_
      refine A_aload_n ok.b rfl dX7_factor_37 gp0 ?_
      refine A_dup ok.b dX7_factor_38 rfl ?_
      refine A_getf ok.b cf7 4 (by decide) fl_X7_54 gp0 (gps (gps (gps (gps gp0)))) dX7_factor_39 ?_
      refine A_iconst ok.b (v := 1) dX7_factor_42 (by decide) ?_
      refine A_iadd ok.b dX7_factor_43 ?_
      rw [nI_1]
      refine A_putf ok.b cf7 4 (by decide) rfl fl_X7_54 gp0 rfl rfl (gp_lt (gps (gps (gps (gps gp0))))) (wps (wps (wps (wps wp0)))) wp0 dX7_factor_44 ?_
      refine A_aload_n ok.b rfl dX7_factor_47 gp0 ?_
      refine A_dup ok.b dX7_factor_48 rfl ?_
      refine A_getf ok.b cf7 14 (by decide) fl_X7_115 gp0 (gps (gps (gps (gps (gps (gps (gps (gps (gps (gps (gps (gps (gps (gps gp0)))))))))))))) dX7_factor_49 ?_
      refine A_iconst ok.b (v := 1) dX7_factor_52 (by decide) ?_
      refine A_iadd ok.b dX7_factor_53 ?_
      refine A_putf ok.b cf7 14 (by decide) rfl fl_X7_115 gp0 rfl rfl (gp_lt (gps (gps (gps (gps (gps (gps (gps (gps (gps (gps (gps (gps (gps (gps gp0))))))))))))))) (wps (wps (wps (wps (wps (wps (wps (wps (wps (wps (wps (wps (wps (wps wp0)))))))))))))) wp0 dX7_factor_54 ?_
      refine A_aload_n ok.b rfl dX7_factor_57 gp0 ?_
      refine A_sameVR ok (As := []) mf_X7_sum ml_X7_118 in_X7_sum se_X7_sum cf7 gp0 (r_sumE l g m B ((Q.wpo (Q.po + 1)).wne (Q.ne + 1), D) hMJr hre) rfl rfl dX7_factor_58 (Nat.le_of_ble_eq_true rfl) ⟨(Nat.le_of_ble_eq_true rfl), (Nat.le_of_ble_eq_true rfl)⟩ ⟨(Nat.le_of_ble_eq_true rfl), (Nat.le_of_ble_eq_true rfl)⟩ (fun _ _ hx => hx.elim) (fun v58 w58 q58 => ?_)
      obtain ⟨rfl, rfl⟩ := q58
      refine A_aload_n ok.b rfl dX7_factor_61 gp0 ?_
      refine A_bipush ok.b (v := 41) dX7_factor_62 (by decide) ?_
      refine A_callVR ok [0, 1] [2] (As := [_]) (wr := ([(m 3, .inl (g.2.1 0, 1476, .inl (D)))] : va_W)) mf_X7_expect ml_X7_121 in_X7_expect se_X7_expect cf7 gp0 (r_expect l g m ((Q.wpo (Q.po + 1)).wne (Q.ne + 1)) B hMJr.mi.1 hMJr.mi.2 41) rfl rfl rfl dX7_factor_64 rfl rfl rfl (by decide) (Nat.le_of_ble_eq_true rfl) ⟨(Nat.le_of_ble_eq_true rfl), (Nat.le_of_ble_eq_true rfl)⟩ ⟨(Nat.le_of_ble_eq_true rfl), (Nat.le_of_ble_eq_true rfl)⟩ (fun _ _ hx => hx.elim) (fun v64 w64 q64 => ?_)
      obtain ⟨rfl, rfl⟩ := q64
      refine A_sub [1, 2, 0] (ws2 := (lcW g m (expR2 B 41 ((Q.wpo (Q.po + 1)).wne (Q.ne + 1))) B (D))) rfl rfl ?_
      refine A_aload_n ok.b rfl dX7_factor_67 gp0 ?_
      refine A_dup ok.b dX7_factor_68 rfl ?_
      refine A_getf ok.b cf7 14 (by decide) fl_X7_115 gp0 (gps (gps (gps (gps (gps (gps (gps (gps (gps (gps (gps (gps (gps (gps gp0)))))))))))))) dX7_factor_69 ?_
      refine A_iconst ok.b (v := 1) dX7_factor_72 (by decide) ?_
      refine A_isub ok.b dX7_factor_73 ?_
      refine A_putf ok.b cf7 14 (by decide) rfl fl_X7_115 gp0 rfl rfl (gp_lt (gps (gps (gps (gps (gps (gps (gps (gps (gps (gps (gps (gps (gps (gps gp0))))))))))))))) (wps (wps (wps (wps (wps (wps (wps (wps (wps (wps (wps (wps (wps (wps wp0)))))))))))))) wp0 dX7_factor_74 ?_
      refine A_vret ok dX7_factor_77 (Nat.le_of_ble_eq_true rfl) (Nat.le_of_ble_eq_true rfl) ?_
      exact ⟨rfl, by rw [eF3] <;> rfl⟩
  · skip
    refine A_vret ok dX7_factor_7 (Nat.le_of_ble_eq_true rfl) (Nat.le_of_ble_eq_true rfl) ?_
    have h9 : ¬ (X.1).er = 0 := fun h => by rw [if_pos h] at c4; exact absurd c4 (by decide)
    exact ⟨rfl, by rw [facL, if_neg h9]⟩
set_option maxRecDepth 20000 in
set_option maxHeartbeats 2000000 in
theorem r_factorS (l : Launch) (g : Gl) (m : Nat → Nat) (B : Nat → Int32) (d0 : Int32) (hd : ¬ d0 = 4) (f : LQ → LQ) (hf : GK f) (fr lo : Nat) (hfr : 4 ≤ fr) (hlo : 200 ≤ lo) (hct : ∀ Y : LQ, MJ Y.1 → EI 0 Y → Y.1.ne = d0 + 1 → Ct l g yX7_sum cX7_sum 2 none fr lo 0 0 [.ref (m 0)] (lcW g m (Y).1 B (Y).2) (fun v w => v = none ∧ w = (lcW g m (f Y).1 B (f Y).2)) noX) (X : LQ) (hJ : MJ X.1) (hI : EI 2 X) (hne : X.1.ne = d0) : Ct l g yX7_factor cX7_factor 4 none (fr + 1) (lo + 40) 0 0 [.ref (m 0)] (lcW g m (X).1 B (X).2) (fun v w => v = none ∧ w = (lcW g m (facL B f X).1 B (facL B f X).2)) noX := by
  refine Ct.intro [some (.ref (m 0)), none, none, none] (by decide +kernel) (fun _ h => h) (Nat.le_of_ble_eq_true rfl) (fun A H0 K ok => ?_)
  refine A_aload_n ok.b rfl dX7_factor_0 gp0 ?_
  refine A_callVR ok [0, 1] [2] (As := []) (wr := ([(m 3, .inl (g.2.1 0, 1476, .inl (X.2)))] : va_W)) mf_X7_isGood ml_X7_71 in_X7_isGood se_X7_isGood cf7 gp0 (r_isGood l g m X.1 B hJ.mi.1) rfl rfl rfl dX7_factor_1 rfl rfl rfl (by decide) (Nat.le_of_ble_eq_true rfl) ⟨by show _ ≤ fr + 1; omega, by show _ ≤ lo + 40; omega⟩ ⟨(Nat.le_of_ble_eq_true rfl), (Nat.le_of_ble_eq_true rfl)⟩ (fun _ _ hx => hx.elim) (fun v1 w1 q1 => ?_)
  obtain ⟨rfl, rfl⟩ := q1
  refine A_sub [1, 2, 0] (ws2 := (lcW g m (X.1) B (X.2))) rfl rfl ?_
  refine A_if_ne ok.b (tgt := 8) dX7_factor_4 (by decide) (fun c4 => ?_) (fun c4 => ?_)
  · skip
    have h9 : (X.1).er = 0 := by
      by_cases h : (X.1).er = 0
      · exact h
      · rw [if_neg h] at c4; exact absurd rfl c4
    refine A_aload_n ok.b rfl dX7_factor_8 gp0 ?_
    refine A_callVR ok [0, 1] [2] (As := []) (wr := ([(m 3, .inl (g.2.1 0, 1476, .inl (X.2)))] : va_W)) mf_X7_next ml_X7_75 in_X7_next se_X7_next cf7 gp0 (r_next l g m X.1 B hJ.mi.1 hJ.mi.2) rfl rfl rfl dX7_factor_9 rfl rfl rfl (by decide) (Nat.le_of_ble_eq_true rfl) ⟨by show _ ≤ fr + 1; omega, by show _ ≤ lo + 40; omega⟩ ⟨(Nat.le_of_ble_eq_true rfl), (Nat.le_of_ble_eq_true rfl)⟩ (fun _ _ hx => hx.elim) (fun v9 w9 q9 => ?_)
    obtain ⟨rfl, rfl⟩ := q9
    have hSJ : MJ (nxR B X.1) := (Kp_nx hJ).mj hJ
    have hS9 : (nxR B X.1).er = 0 := h9
    have hSn : (nxR B X.1).ne = X.1.ne := rfl
    have hEI : EI 2 (nxR B X.1, X.2) := hI.mv (Kp_nx hJ)
    have eb : byR B X.1.tl (scanE fSp B X.1.tl X.1.po) = btL B (nxR B X.1, X.2) := rfl
    have eF : facL B f X = if btL B (nxR B X.1, X.2) = 40 then cloL B (f (opnL (nxR B X.1, X.2))) else facA B (nxR B X.1, X.2) := by rw [facL, if_pos h9] <;> rfl
    rw [eb]
    generalize nxR B X.1 = S at hSJ hS9 hSn hEI eF ⊢
    generalize X.2 = D at hEI eF ⊢
    refine A_sub [1, 2, 0] (ws2 := (lcW g m (S) B (D))) rfl rfl ?_
    refine A_istore_n ok.b rfl dX7_factor_12 (by decide) (sts1 rfl st0) ?_
    refine A_iload_n ok.b rfl dX7_factor_13 (gps gp0) ?_
    refine A_bipush ok.b (v := 40) dX7_factor_14 (by decide) ?_
    refine A_icmp_ne ok.b (tgt := 78) dX7_factor_16 (by decide) (fun c16 => ?_) (fun c16 => ?_)
    · skip
      rw [if_neg c16] at eF
      have M129 : ∀ V : Int32 × MS, vaM B S = V → AW g A H0 4 K 129 [some (.ref (m 0)), some (.int (btL B (S, D))), none, none] [.int V.1] (lcW g m V.2 B D) 0 0 := by
        intro V hV
        have hVJ : MJ V.2 := by rw [← hV]; exact (Kp_va hSJ).mj hSJ
        obtain ⟨k, hk, e7⟩ := hEI.room hSJ hS9
        have hk2 : k ≤ 1201 := by
          obtain ⟨k2, h2, e2⟩ := hEI hS9
          have a1 := hSJ.1
          have a2 := hSJ.2
          have e3 : nI k = nI k2 := e7.symm.trans e2
          have a3 : k2 ≤ 1201 := by
            have h2' : 2 * (k2 : Int) ≤ 3 * (S.po : Int) + 2 := h2
            omega
          have := (nI_eq (a := k) (b := k2) (by omega) (by omega)).mp e3
          omega
        have e7D : D 7 = nI k := e7
        have M146 : ∀ N : Int32 × MS, nvM B V = N → AW g A H0 4 K 146 [some (.ref (m 0)), some (.int (btL B (S, D))), some (.int V.1), none] [.int N.1] (lcW g m N.2 B D) 0 0 := by
          intro N hN
          have hNJ : MJ N.2 := by rw [← hN]; exact (Kp_nv hVJ).mj hVJ
          have eF2 : facL B f X = emR N.1 (emR (if 0 ≤ V.1 then 1 else 0) (N.2, D)) := by rw [eF, facA]; show emR (nvM B (vaM B S)).1 (emR (if 0 ≤ (vaM B S).1 then 1 else 0) ((nvM B (vaM B S)).2, D)) = _; rw [hV, hN]
          refine A_istore_n ok.b rfl dX7_factor_146 (by decide) (sts (sts (sts1 rfl st0))) ?_
          refine A_aload_n ok.b rfl dX7_factor_147 gp0 ?_
          refine A_iload_n ok.b rfl dX7_factor_148 (gps (gps gp0)) ?_
          refine A_if_ge ok.b (tgt := 156) dX7_factor_149 (by decide) (fun c149 => ?_) (fun c149 => ?_)
          · skip
            refine A_iconst ok.b (v := 1) dX7_factor_156 (by decide) ?_
            refine A_sameVR ok (As := [_]) mf_X7_emit ml_X7_131 in_X7_emit se_X7_emit cf7 gp0 (r_emit l g m N.2 B D hNJ.mi (fun _ => ⟨k, hk, e7D⟩) _) rfl rfl dX7_factor_157 (Nat.le_of_ble_eq_true rfl) ⟨by show _ ≤ fr + 1; omega, by show _ ≤ lo + 40; omega⟩ ⟨(Nat.le_of_ble_eq_true rfl), (Nat.le_of_ble_eq_true rfl)⟩ (fun _ _ hx => hx.elim) (fun v157 w157 q157 => ?_)
            obtain ⟨rfl, rfl⟩ := q157
            refine A_aload_n ok.b rfl dX7_factor_160 gp0 ?_
            refine A_iload_n ok.b rfl dX7_factor_161 (gps (gps (gps gp0))) ?_
            refine A_sameVR ok (As := [_]) mf_X7_emit ml_X7_131 in_X7_emit se_X7_emit cf7 gp0 (r_emit l g m (emR 1 (N.2, D)).1 B (emR 1 (N.2, D)).2 (by rw [em_1]; exact hNJ.mi) (fun h => ⟨k + 1, by omega, em_7 e7D (by rw [em_1] at h; exact h)⟩) _) rfl rfl dX7_factor_162 (Nat.le_of_ble_eq_true rfl) ⟨by show _ ≤ fr + 1; omega, by show _ ≤ lo + 40; omega⟩ ⟨(Nat.le_of_ble_eq_true rfl), (Nat.le_of_ble_eq_true rfl)⟩ (fun _ _ hx => hx.elim) (fun v162 w162 q162 => ?_)
            obtain ⟨rfl, rfl⟩ := q162
            refine A_vret ok dX7_factor_165 (Nat.le_of_ble_eq_true rfl) (Nat.le_of_ble_eq_true rfl) ?_
            rw [if_pos c149] at eF2
            exact ⟨rfl, by rw [eF2]⟩
          · skip
            refine A_iconst ok.b (v := 0) dX7_factor_152 (by decide) ?_
            refine A_goto ok.b (tgt := 157) dX7_factor_153 (by decide) ?_
            refine A_sameVR ok (As := [_]) mf_X7_emit ml_X7_131 in_X7_emit se_X7_emit cf7 gp0 (r_emit l g m N.2 B D hNJ.mi (fun _ => ⟨k, hk, e7D⟩) _) rfl rfl dX7_factor_157 (Nat.le_of_ble_eq_true rfl) ⟨by show _ ≤ fr + 1; omega, by show _ ≤ lo + 40; omega⟩ ⟨(Nat.le_of_ble_eq_true rfl), (Nat.le_of_ble_eq_true rfl)⟩ (fun _ _ hx => hx.elim) (fun v157 w157 q157 => ?_)
            obtain ⟨rfl, rfl⟩ := q157
            refine A_aload_n ok.b rfl dX7_factor_160 gp0 ?_
            refine A_iload_n ok.b rfl dX7_factor_161 (gps (gps (gps gp0))) ?_
            refine A_sameVR ok (As := [_]) mf_X7_emit ml_X7_131 in_X7_emit se_X7_emit cf7 gp0 (r_emit l g m (emR 0 (N.2, D)).1 B (emR 0 (N.2, D)).2 (by rw [em_1]; exact hNJ.mi) (fun h => ⟨k + 1, by omega, em_7 e7D (by rw [em_1] at h; exact h)⟩) _) rfl rfl dX7_factor_162 (Nat.le_of_ble_eq_true rfl) ⟨by show _ ≤ fr + 1; omega, by show _ ≤ lo + 40; omega⟩ ⟨(Nat.le_of_ble_eq_true rfl), (Nat.le_of_ble_eq_true rfl)⟩ (fun _ _ hx => hx.elim) (fun v162 w162 q162 => ?_)
            obtain ⟨rfl, rfl⟩ := q162
            refine A_vret ok dX7_factor_165 (Nat.le_of_ble_eq_true rfl) (Nat.le_of_ble_eq_true rfl) ?_
            rw [if_neg c149] at eF2
            exact ⟨rfl, by rw [eF2]⟩
        refine A_istore_n ok.b rfl dX7_factor_129 (by decide) (sts (sts1 rfl st0)) ?_
        refine A_iload_n ok.b rfl dX7_factor_130 (gps (gps gp0)) ?_
        refine A_if_ge ok.b (tgt := 145) dX7_factor_131 (by decide) (fun c131 => ?_) (fun c131 => ?_)
        · skip
          refine A_iload_n ok.b rfl dX7_factor_145 (gps (gps gp0)) ?_
          exact M146 V (by rw [nvM, if_pos c131])
        · skip
          refine A_aload_n ok.b rfl dX7_factor_134 gp0 ?_
          refine A_iconst ok.b (v := 0) dX7_factor_135 (by decide) ?_
          refine A_sipush ok.b (v := 9999) dX7_factor_136 (by decide) ?_
          refine A_callVR ok [0, 1] [2] (As := [_, _]) (wr := ([(m 3, .inl (g.2.1 0, 1476, .inl (D)))] : va_W)) mf_X7_number ml_X7_104 in_X7_number se_X7_number cf7 gp0 (r_number l g m V.2 B hVJ.mi.1 hVJ.mi.2 0 9999) rfl rfl rfl dX7_factor_139 rfl rfl rfl (by decide) (Nat.le_of_ble_eq_true rfl) ⟨by show _ ≤ fr + 1; omega, by show _ ≤ lo + 40; omega⟩ ⟨(Nat.le_of_ble_eq_true rfl), (Nat.le_of_ble_eq_true rfl)⟩ (fun _ _ hx => hx.elim) (fun v139 w139 q139 => ?_)
          obtain ⟨rfl, rfl⟩ := q139
          refine A_sub [1, 2, 0] (ws2 := (lcW g m ((numM B 0 9999 V.2).2) B (D))) rfl rfl ?_
          refine A_goto ok.b (tgt := 146) dX7_factor_142 (by decide) ?_
          exact M146 (numM B 0 9999 V.2) (by rw [nvM, if_neg c131])
      refine A_iload_n ok.b rfl dX7_factor_78 (gps gp0) ?_
      refine A_pureS ok.b (As := [_]) mf_X7_isDigit ml_X7_92 rfl sc_X7_isDigit (r_isDigit l g _) rfl rfl dX7_factor_79 (Nat.le_of_ble_eq_true rfl) ⟨by show _ ≤ fr + 1; omega, by show _ ≤ lo + 40; omega⟩ ⟨(Nat.le_of_ble_eq_true rfl), (Nat.le_of_ble_eq_true rfl)⟩ ?_
      refine A_if_eq ok.b (tgt := 89) dX7_factor_82 (by decide) (fun c82 => ?_) (fun c82 => ?_)
      · skip
        have hd : ¬ fDig (byR B S.tl S.po) = true := by rw [← inB_dig]; exact bI_z c82
        have k1 := (Kp_tw (B := B) (i := 9) (by decide) hSJ).mj hSJ
        have k2 := (Kp_tw (B := B) (i := 10) (by decide) k1).mj k1
        refine A_aload_n ok.b rfl dX7_factor_89 gp0 ?_
        refine A_ldcS ok.b (List.mem_of_getElem? (l := sTab) (i := 23) rfl) dX7_factor_90 ?_
        refine A_callVR ok [0, 1] [2] (As := [_]) (wr := ([(m 3, .inl (g.2.1 0, 1476, .inl (D)))] : va_W)) mf_X7_takeWord ml_X7_109 in_X7_takeWord se_X7_takeWord cf7 gp0 (r_takeWord l g m S B hSJ.mi.1 hSJ.mi.2 9 (by decide)) rfl rfl rfl dX7_factor_92 rfl rfl rfl (by decide) (Nat.le_of_ble_eq_true rfl) ⟨by show _ ≤ fr + 1; omega, by show _ ≤ lo + 40; omega⟩ ⟨(Nat.le_of_ble_eq_true rfl), (Nat.le_of_ble_eq_true rfl)⟩ (fun _ _ hx => hx.elim) (fun v92 w92 q92 => ?_)
        obtain ⟨rfl, rfl⟩ := q92
        refine A_sub [1, 2, 0] (ws2 := (lcW g m ((twR B 9 S).2) B (D))) rfl rfl ?_
        refine A_if_eq ok.b (tgt := 102) dX7_factor_95 (by decide) (fun c95 => ?_) (fun c95 => ?_)
        · skip
          refine A_aload_n ok.b rfl dX7_factor_102 gp0 ?_
          refine A_ldcS ok.b (List.mem_of_getElem? (l := sTab) (i := 24) rfl) dX7_factor_103 ?_
          refine A_callVR ok [0, 1] [2] (As := [_]) (wr := ([(m 3, .inl (g.2.1 0, 1476, .inl (D)))] : va_W)) mf_X7_takeWord ml_X7_109 in_X7_takeWord se_X7_takeWord cf7 gp0 (r_takeWord l g m (twR B 9 S).2 B k1.mi.1 k1.mi.2 10 (by decide)) rfl rfl rfl dX7_factor_105 rfl rfl rfl (by decide) (Nat.le_of_ble_eq_true rfl) ⟨by show _ ≤ fr + 1; omega, by show _ ≤ lo + 40; omega⟩ ⟨(Nat.le_of_ble_eq_true rfl), (Nat.le_of_ble_eq_true rfl)⟩ (fun _ _ hx => hx.elim) (fun v105 w105 q105 => ?_)
          obtain ⟨rfl, rfl⟩ := q105
          refine A_sub [1, 2, 0] (ws2 := (lcW g m ((twR B 10 (twR B 9 S).2).2) B (D))) rfl rfl ?_
          refine A_if_eq ok.b (tgt := 115) dX7_factor_108 (by decide) (fun c108 => ?_) (fun c108 => ?_)
          · skip
            refine A_aload_n ok.b rfl dX7_factor_115 gp0 ?_
            refine A_ldcS ok.b (List.mem_of_getElem? (l := sTab) (i := 25) rfl) dX7_factor_116 ?_
            refine A_callVR ok [0, 1] [2] (As := [_]) (wr := ([(m 3, .inl (g.2.1 0, 1476, .inl (D)))] : va_W)) mf_X7_takeWord ml_X7_109 in_X7_takeWord se_X7_takeWord cf7 gp0 (r_takeWord l g m (twR B 10 (twR B 9 S).2).2 B k2.mi.1 k2.mi.2 11 (by decide)) rfl rfl rfl dX7_factor_118 rfl rfl rfl (by decide) (Nat.le_of_ble_eq_true rfl) ⟨by show _ ≤ fr + 1; omega, by show _ ≤ lo + 40; omega⟩ ⟨(Nat.le_of_ble_eq_true rfl), (Nat.le_of_ble_eq_true rfl)⟩ (fun _ _ hx => hx.elim) (fun v118 w118 q118 => ?_)
            obtain ⟨rfl, rfl⟩ := q118
            refine A_sub [1, 2, 0] (ws2 := (lcW g m ((twR B 11 (twR B 10 (twR B 9 S).2).2).2) B (D))) rfl rfl ?_
            refine A_if_eq ok.b (tgt := 128) dX7_factor_121 (by decide) (fun c121 => ?_) (fun c121 => ?_)
            · skip
              refine A_iconst ok.b (v := (-1)) dX7_factor_128 (by decide) ?_
              exact M129 (-1, (twR B 11 (twR B 10 (twR B 9 S).2).2).2) (by rw [vaM, if_neg hd, if_neg (bI_z c95), if_neg (bI_z c108), if_neg (bI_z c121)])
            · skip
              refine A_iconst ok.b (v := 2) dX7_factor_124 (by decide) ?_
              refine A_goto ok.b (tgt := 129) dX7_factor_125 (by decide) ?_
              exact M129 (2, (twR B 11 (twR B 10 (twR B 9 S).2).2).2) (by rw [vaM, if_neg hd, if_neg (bI_z c95), if_neg (bI_z c108), if_pos (bI_n c121)])
          · skip
            refine A_iconst ok.b (v := 1) dX7_factor_111 (by decide) ?_
            refine A_goto ok.b (tgt := 129) dX7_factor_112 (by decide) ?_
            exact M129 (1, (twR B 10 (twR B 9 S).2).2) (by rw [vaM, if_neg hd, if_neg (bI_z c95), if_pos (bI_n c108)])
        · skip
          refine A_iconst ok.b (v := 0) dX7_factor_98 (by decide) ?_
          refine A_goto ok.b (tgt := 129) dX7_factor_99 (by decide) ?_
          exact M129 (0, (twR B 9 S).2) (by rw [vaM, if_neg hd, if_pos (bI_n c95)])
      · skip
        refine A_iconst ok.b (v := (-1)) dX7_factor_85 (by decide) ?_
        refine A_goto ok.b (tgt := 129) dX7_factor_86 (by decide) ?_
        have hd : fDig (byR B S.tl S.po) = true := by rw [← inB_dig]; exact bI_n c82
        exact M129 (-1, S) (by rw [vaM, if_pos hd])
    · skip
      rw [if_pos c16] at eF
      have hlt : S.po < S.tl := byR_in c16 (by decide)
      refine A_aload_n ok.b rfl dX7_factor_19 gp0 ?_
      refine A_getf ok.b cf7 14 (by decide) fl_X7_115 gp0 (gps (gps (gps (gps (gps (gps (gps (gps (gps (gps (gps (gps (gps (gps gp0)))))))))))))) dX7_factor_20 ?_
      refine A_iconst ok.b (v := 4) dX7_factor_23 (by decide) ?_
      refine A_icmp_ne ok.b (tgt := 37) dX7_factor_24 (by decide) (fun c24 => ?_) (fun c24 => ((show False from hd (by rw [← hne, ← hSn, c24]))).elim)
      have hro : opS S = S := by rw [opS, if_neg c24]
      have hYJ : MJ ((S.wpo (S.po + 1)).wne (S.ne + 1)) := ⟨hlt, hSJ.2⟩
      have hYI : EI 0 ((S.wpo (S.po + 1)).wne (S.ne + 1), D) := fun h => by
        obtain ⟨k, h2, e⟩ := hEI h
        refine ⟨k, ?_, e⟩
        have h2' : 2 * (k : Int) ≤ 3 * (S.po : Int) + 2 := h2
        show 2 * (k : Int) ≤ 3 * ((S.po + 1 : Nat) : Int) + 0
        omega
      refine A_aload_n ok.b rfl dX7_factor_37 gp0 ?_
      refine A_dup ok.b dX7_factor_38 rfl ?_
      refine A_getf ok.b cf7 4 (by decide) fl_X7_54 gp0 (gps (gps (gps (gps gp0)))) dX7_factor_39 ?_
      refine A_iconst ok.b (v := 1) dX7_factor_42 (by decide) ?_
      refine A_iadd ok.b dX7_factor_43 ?_
      rw [nI_1]
      refine A_putf ok.b cf7 4 (by decide) rfl fl_X7_54 gp0 rfl rfl (gp_lt (gps (gps (gps (gps gp0))))) (wps (wps (wps (wps wp0)))) wp0 dX7_factor_44 ?_
      refine A_aload_n ok.b rfl dX7_factor_47 gp0 ?_
      refine A_dup ok.b dX7_factor_48 rfl ?_
      refine A_getf ok.b cf7 14 (by decide) fl_X7_115 gp0 (gps (gps (gps (gps (gps (gps (gps (gps (gps (gps (gps (gps (gps (gps gp0)))))))))))))) dX7_factor_49 ?_
      refine A_iconst ok.b (v := 1) dX7_factor_52 (by decide) ?_
      refine A_iadd ok.b dX7_factor_53 ?_
      refine A_putf ok.b cf7 14 (by decide) rfl fl_X7_115 gp0 rfl rfl (gp_lt (gps (gps (gps (gps (gps (gps (gps (gps (gps (gps (gps (gps (gps (gps gp0))))))))))))))) (wps (wps (wps (wps (wps (wps (wps (wps (wps (wps (wps (wps (wps (wps wp0)))))))))))))) wp0 dX7_factor_54 ?_
      refine A_aload_n ok.b rfl dX7_factor_57 gp0 ?_
      refine A_sameVR ok (As := []) mf_X7_sum ml_X7_118 in_X7_sum se_X7_sum cf7 gp0 (hct ((S.wpo (S.po + 1)).wne (S.ne + 1), D) hYJ hYI (by show S.ne + 1 = d0 + 1; rw [hSn, hne])) rfl rfl dX7_factor_58 (Nat.le_of_ble_eq_true rfl) ⟨by show fr + 1 ≤ fr + 1; omega, by show 8 + (2 + 11) + lo ≤ lo + 40; omega⟩ ⟨(Nat.le_of_ble_eq_true rfl), (Nat.le_of_ble_eq_true rfl)⟩ (fun _ _ hx => hx.elim) (fun v58 w58 q58 => ?_)
      obtain ⟨rfl, rfl⟩ := q58
      have hG := hf ((S.wpo (S.po + 1)).wne (S.ne + 1), D) hYJ
      have hGJ := hG.1.mj hYJ
      have eF3 : facL B f X = cloL B (f ((S.wpo (S.po + 1)).wne (S.ne + 1), D)) := by rw [eF]; show cloL B (f (((opS S).wpo ((opS S).po + 1)).wne ((opS S).ne + 1), D)) = _; rw [hro]
      generalize f ((S.wpo (S.po + 1)).wne (S.ne + 1), D) = G at hG hGJ eF3 ⊢
      refine A_aload_n ok.b rfl dX7_factor_61 gp0 ?_
      refine A_bipush ok.b (v := 41) dX7_factor_62 (by decide) ?_
      refine A_callVR ok [0, 1] [2] (As := [_]) (wr := ([(m 3, .inl (g.2.1 0, 1476, .inl (G.2)))] : va_W)) mf_X7_expect ml_X7_121 in_X7_expect se_X7_expect cf7 gp0 (r_expect l g m G.1 B hGJ.mi.1 hGJ.mi.2 41) rfl rfl rfl dX7_factor_64 rfl rfl rfl (by decide) (Nat.le_of_ble_eq_true rfl) ⟨by show _ ≤ fr + 1; omega, by show _ ≤ lo + 40; omega⟩ ⟨(Nat.le_of_ble_eq_true rfl), (Nat.le_of_ble_eq_true rfl)⟩ (fun _ _ hx => hx.elim) (fun v64 w64 q64 => ?_)
      obtain ⟨rfl, rfl⟩ := q64
      refine A_sub [1, 2, 0] (ws2 := (lcW g m (expR2 B 41 G.1) B (G.2))) rfl rfl ?_
      refine A_aload_n ok.b rfl dX7_factor_67 gp0 ?_
      refine A_dup ok.b dX7_factor_68 rfl ?_
      refine A_getf ok.b cf7 14 (by decide) fl_X7_115 gp0 (gps (gps (gps (gps (gps (gps (gps (gps (gps (gps (gps (gps (gps (gps gp0)))))))))))))) dX7_factor_69 ?_
      refine A_iconst ok.b (v := 1) dX7_factor_72 (by decide) ?_
      refine A_isub ok.b dX7_factor_73 ?_
      refine A_putf ok.b cf7 14 (by decide) rfl fl_X7_115 gp0 rfl rfl (gp_lt (gps (gps (gps (gps (gps (gps (gps (gps (gps (gps (gps (gps (gps (gps gp0))))))))))))))) (wps (wps (wps (wps (wps (wps (wps (wps (wps (wps (wps (wps (wps (wps wp0)))))))))))))) wp0 dX7_factor_74 ?_
      refine A_vret ok dX7_factor_77 (Nat.le_of_ble_eq_true rfl) (Nat.le_of_ble_eq_true rfl) ?_
      exact ⟨rfl, by rw [eF3] <;> rfl⟩
  · skip
    refine A_vret ok dX7_factor_7 (Nat.le_of_ble_eq_true rfl) (Nat.le_of_ble_eq_true rfl) ?_
    have h9 : ¬ (X.1).er = 0 := fun h => by rw [if_pos h] at c4; exact absurd c4 (by decide)
    exact ⟨rfl, by rw [facL, if_neg h9]⟩
