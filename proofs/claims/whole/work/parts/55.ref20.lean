theorem drv_keepK {n nc c : Nat} (hc : c < 20) {S : (Nat → Int32) × (Nat → Int32)} {j : Nat} (hj : 176 ≤ j) : (drvR n nc c S).2 j = S.2 j := by
  unfold drvR
  split
  · split
    · show upd S.2 (96 + 4 * c) _ j = _
      rw [upd_at, if_neg (by omega)]
    · rfl
  · show upd S.2 (96 + 4 * c) _ j = _
    rw [upd_at, if_neg (by omega)]
theorem df_keepK {n nc : Nat} {s w : Int32} {S : D3} {j : Nat} (hj : 176 ≤ j) : ∀ k, k ≤ 20 → (foldN (dfF n nc s w) S k).2.2 j = S.2.2 j
  | 0, _ => rfl
  | k + 1, h => by
    rw [foldN_s]
    have ih := df_keepK (n := n) (nc := nc) (s := s) (w := w) (S := S) hj k (by omega)
    have h1 : ∀ F : D3, (dfF n nc s w k F).2.2 j = F.2.2 j := fun F => by
      unfold dfF
      split
      · exact drv_keepK (by omega) hj
      · rfl
    rw [h1]; exact ih
theorem tkE_keepK {n nc : Nat} (hnc : nc ≤ 20) {S : D3} {j : Nat} (hj : 176 ≤ j) : ∀ k, (foldN (tkE n nc) S k).2.2 j = S.2.2 j
  | 0 => rfl
  | k + 1 => by rw [foldN_s]; exact (df_keepK hj nc hnc).trans (tkE_keepK hnc hj k)
theorem tkV_keepK {n nc : Nat} (hnc : nc ≤ 20) {S : D3} {j : Nat} (hj : 176 ≤ j) : ∀ k, (foldN (tkV n nc) S k).2.2 j = S.2.2 j
  | 0 => rfl
  | k + 1 => by rw [foldN_s]; exact (df_keepK hj nc hnc).trans (tkV_keepK hnc hj k)
theorem tkT_keepK {st : Nat → Int32} {nc : Nat} {d : Nat → Int32} {j : Nat} (hj : 176 ≤ j) : ∀ k, k ≤ 20 → foldN (tkT st nc) d k j = d j
  | 0, _ => rfl
  | k + 1, h => by
    rw [foldN_s]
    unfold tkT
    split
    · exact tkT_keepK hj k (by omega)
    · have h1 : ∀ F : Nat → Int32, trR nc k F j = F j := fun F => by
        unfold trR
        split
        · rw [upd_at, if_neg (by omega)]
        · rfl
      rw [h1]; exact tkT_keepK hj k (by omega)
theorem tkX_keepK {d : Nat → Int32} {j : Nat} (hj : 176 ≤ j) : ∀ k, k ≤ 20 → foldN tkX d k j = d j
  | 0, _ => rfl
  | k + 1, h => by
    rw [foldN_s]
    unfold tkX
    split
    · exact tkX_keepK hj k (by omega)
    · exact (xp_keep (by omega) (by omega)).trans (tkX_keepK hj k (by omega))
theorem tk4_keep {n nc : Nat} {cs : Nat → Int32} {kc : Nat} {X : TS} {j : Nat} (hj : j < 12) (h8 : j ≠ 8) (h9 : j ≠ 9) (h10 : j ≠ 10) : tk4 n nc cs kc X j = X.d j :=
  (tkX_keep (by omega) nc).trans ((tkT_keep (by omega) nc).trans (tk2_keep hj h8 h9 h10))
theorem tkF_keep {n nc : Nat} {cs : Nat → Int32} {kc : Nat} {X : TS} {j : Nat} (hj : j < 12) (h3 : j ≠ 3) (h8 : j ≠ 8) (h9 : j ≠ 9) (h10 : j ≠ 10) : (tkF n nc cs kc X).d j = X.d j := by
  show upd (tk4 n nc cs kc X) 3 _ j = _
  rw [upd_at, if_neg h3]
  exact tk4_keep hj h8 h9 h10
theorem tkF_keepK {n nc : Nat} (hn : n ≤ 12) (hnc : nc ≤ 20) {cs : Nat → Int32} {kc : Nat} {X : TS} (hf : X.d 4 < 0 ∨ Inn (X.d 4) n) {j : Nat} (hj : 176 ≤ j) : (tkF n nc cs kc X).d j = X.d j := by
  show upd (tk4 n nc cs kc X) 3 _ j = _
  rw [upd_at, if_neg (by omega)]
  exact (tkX_keepK hj nc hnc).trans ((tkT_keepK hj nc hnc).trans ((tkV_keepK hnc hj n).trans ((tkE_keepK hnc hj n).trans (tkA_keepC hn hf (by omega)))))
theorem RTd_of {d d2 cs : Nat → Int32} {kc : Nat} (h : RTd d cs kc) (h7 : d2 7 = d 7) (hK : ∀ j, 176 ≤ j → d2 j = d j) : RTd d2 cs kc := by
  refine ⟨h7.trans h.1, h.2.1, fun j hj => ?_⟩
  have h1 := h.2.2 j hj
  refine ⟨⟨fun h2 => (hK _ (by omega)).trans (h1.1.1 h2), fun h2 => ⟨(hK _ (by omega)).trans (h1.1.2 h2).1, (hK _ (by omega)).trans (h1.1.2 h2).2⟩⟩, h1.2⟩
theorem TKd_tick {n nc : Nat} (hn : n ≤ 12) (hnc : nc ≤ 20) {cs : Nat → Int32} {kc : Nat} {X : TS} (h : TKd n nc cs kc X.d) : TKd n nc cs kc (tkF n nc cs kc X).d := by
  have k := fun j (hj : j < 12) h3 h8 h9 h10 => tkF_keep (n := n) (nc := nc) (cs := cs) (kc := kc) (X := X) hj h3 h8 h9 h10
  refine ⟨(k 0 (by decide) (by decide) (by decide) (by decide) (by decide)).trans h.1, (k 2 (by decide) (by decide) (by decide) (by decide) (by decide)).trans h.2.1, ?_, fun c hc => ?_, fun h6 => ?_⟩
  · rw [k 4 (by decide) (by decide) (by decide) (by decide) (by decide)]; exact h.2.2.1
  · have h1 := (tk2_CK hn h c hc).1
    have e : (tkF n nc cs kc X).d (96 + 4 * c) = (tk2 n nc cs kc X).2.2 (96 + 4 * c) := by
      show upd (tk4 n nc cs kc X) 3 _ (96 + 4 * c) = _
      rw [upd_at, if_neg (by omega), tk4, tkX_keepC, tk3, tkT_keepC]
    rw [e]; exact h1
  · rw [k 6 (by decide) (by decide) (by decide) (by decide) (by decide)] at h6
    exact RTd_of (h.2.2.2.2 h6) (k 7 (by decide) (by decide) (by decide) (by decide) (by decide)) (fun j hj => tkF_keepK hn hnc h.2.2.1 hj)
/-- the ticks until nobody is inside -/
def clF (n nc : Nat) (cs : Nat → Int32) (kc : Nat) : Nat → Nat → TS → Int32 × TS
  | 0, _, X => (-1, X)
  | r + 1, k, X => if insR X.d nc = 0 then (nI k, X) else clF n nc cs kc r (k + 1) (tkF n nc cs kc X)
theorem clF_s {n nc : Nat} {cs : Nat → Int32} {kc r k : Nat} {X : TS} : clF n nc cs kc (r + 1) k X = if insR X.d nc = 0 then (nI k, X) else clF n nc cs kc r (k + 1) (tkF n nc cs kc X) := rfl
theorem TKd_cl {n nc : Nat} (hn : n ≤ 12) (hnc : nc ≤ 20) {cs : Nat → Int32} {kc : Nat} : ∀ (r k : Nat) (X : TS), TKd n nc cs kc X.d → TKd n nc cs kc (clF n nc cs kc r k X).2.d
  | 0, _, _, h => h
  | r + 1, k, X, h => by
    rw [clF_s]
    split
    · exact h
    · exact TKd_cl hn hnc r (k + 1) _ (TKd_tick hn hnc h)
set_option maxRecDepth 20000 in
set_option maxHeartbeats 2000000 in
theorem r_clears (l : Launch) (g : Gl) (m : Nat → Nat) (s : MS) (X : TS) (n nc : Nat) (hn : n ≤ 12) (hnc : nc ≤ 20) (cs : Nat → Int32) (kc : Nat) (hT : TKd n nc cs kc X.d) (L : Nat) (hL : L < 1000) : Ct l g yX7_clears cX7_clears 3 (some .int) 5 240 0 0 [.ref (m 0), .int (nI L)] (tsW g m (m 4) (s) (X)) (fun v w => v = some (.int (clF n nc cs kc (L + 1) 0 X).1) ∧ w = (tsW g m (m 4) (s) ((clF n nc cs kc (L + 1) 0 X).2))) noX := by
  refine Ct.intro [some (.ref (m 0)), some (.int (nI L)), none] (by decide +kernel) (fun _ h => h) (Nat.le_of_ble_eq_true rfl) (fun A H0 K ok => ?_)
  have LL : ∀ (r k : Nat) (Y : TS), k + r = L + 1 → TKd n nc cs kc Y.d → clF n nc cs kc (L + 1) 0 X = clF n nc cs kc r k Y → AW g A H0 3 K 2 [some (.ref (m 0)), some (.int (nI L)), some (.int (nI k))] [] (tsW g m (m 4) (s) (Y)) 0 0 := by
    intro r
    induction r with
    | zero =>
      intro k Y hk hY e
      refine A_iload_n ok.b rfl dX7_clears_2 (gps (gps gp0)) ?_
      refine A_iload_n ok.b rfl dX7_clears_3 (gps gp0) ?_
      refine A_icmp_gt ok.b (tgt := 33) dX7_clears_4 (by decide) (fun c4 => ?_) (fun c4 => ((show False from c4 (nI_lt (by omega) (by omega)))).elim)
      refine A_iconst ok.b (v := (-1)) dX7_clears_33 (by decide) ?_
      refine A_iret ok dX7_clears_34 (Nat.le_of_ble_eq_true rfl) (Nat.le_of_ble_eq_true rfl) ?_
      exact ⟨by rw [e] <;> rfl, by rw [e] <;> rfl⟩
    | succ r ih =>
      intro k Y hk hY e
      rw [clF_s (r := r) (k := k) (X := Y)] at e
      refine A_iload_n ok.b rfl dX7_clears_2 (gps (gps gp0)) ?_
      refine A_iload_n ok.b rfl dX7_clears_3 (gps gp0) ?_
      refine A_icmp_gt ok.b (tgt := 33) dX7_clears_4 (by decide) (fun c4 => ((show False from nI_nlt (a := L) (b := k) (by omega) (by omega) c4)).elim) (fun c4 => ?_)
      refine A_aload_n ok.b rfl dX7_clears_7 gp0 ?_
      refine A_getf ok.b cf7 10 (by decide) fl_X7_23 gp0 (gps (gps (gps (gps (gps (gps (gps (gps (gps (gps gp0)))))))))) dX7_clears_8 ?_
      refine A_callSR ok [5] [0, 1, 2, 3, 4] (As := [_]) (wr := ([moC m (s), (m 7, .inl (g.2.1 0, 12, .inl (Y).re)), (m 8, .inl (g.2.1 3, 20, .inl (Y).st)), (m 9, .inl (g.2.1 3, 20, .inl (Y).dr)), (m 6, .inl (g.2.1 1, 1300, .inr (.inl (Y).sk)))] : va_W)) mf_X7_insideOf ml_X7_218 rfl sc_X7_insideOf  (r_insideOf l g (m 4) Y.d nc hnc hY.2.1) rfl rfl rfl dX7_clears_11 rfl rfl rfl (by decide) (Nat.le_of_ble_eq_true rfl) ⟨(Nat.le_of_ble_eq_true rfl), (Nat.le_of_ble_eq_true rfl)⟩ ⟨(Nat.le_of_ble_eq_true rfl), (Nat.le_of_ble_eq_true rfl)⟩ (fun _ _ hx => hx.elim) (fun v11 w11 q11 => ?_)
      obtain ⟨rfl, rfl⟩ := q11
      refine A_sub [0, 1, 2, 3, 4, 5] (ws2 := (tsW g m (m 4) (s) (Y))) rfl rfl ?_
      refine A_if_ne ok.b (tgt := 19) dX7_clears_14 (by decide) (fun c14 => ?_) (fun c14 => ?_)
      · skip
        rw [if_neg c14] at e
        refine A_aload_n ok.b rfl dX7_clears_19 gp0 ?_
        refine A_aload_n ok.b rfl dX7_clears_20 gp0 ?_
        refine A_getf ok.b cf7 10 (by decide) fl_X7_23 gp0 (gps (gps (gps (gps (gps (gps (gps (gps (gps (gps gp0)))))))))) dX7_clears_21 ?_
        refine A_sameVR ok (As := [_]) mf_X7_tick ml_X7_271 in_X7_tick se_X7_tick cf7 gp0 (r_tick l g m (m 4) s Y n nc hn hnc cs kc hY) rfl rfl dX7_clears_24 (Nat.le_of_ble_eq_true rfl) ⟨(Nat.le_of_ble_eq_true rfl), (Nat.le_of_ble_eq_true rfl)⟩ ⟨(Nat.le_of_ble_eq_true rfl), (Nat.le_of_ble_eq_true rfl)⟩ (fun _ _ hx => hx.elim) (fun v24 w24 q24 => ?_)
        obtain ⟨rfl, rfl⟩ := q24
        refine A_iinc ok.b (v := _ + 1) dX7_clears_27 (gps (gps gp0)) rfl (by decide) (sts (sts1 rfl st0)) ?_
        refine A_goto ok.b (tgt := 2) dX7_clears_30 (by decide) ?_
        rw [nI_1]
        exact ih (k + 1) _ (by omega) (TKd_tick hn hnc hY) e
      · skip
        refine A_iload_n ok.b rfl dX7_clears_17 (gps (gps gp0)) ?_
        refine A_iret ok dX7_clears_18 (Nat.le_of_ble_eq_true rfl) (Nat.le_of_ble_eq_true rfl) ?_
        rw [if_pos c14] at e
        exact ⟨by rw [e], by rw [e]⟩
  refine A_iconst ok.b (v := 0) dX7_clears_0 (by decide) ?_
  refine A_istore_n ok.b rfl dX7_clears_1 (by decide) (sts (sts1 rfl st0)) ?_
  exact LL (L + 1) 0 X (by omega) hT rfl
def fuW (g : Gl) (m : Nat → Nat) (s : MS) (X : TS) (d : Nat → Int32) : va_W := tsW g m (m 4) s X ++ [(m 2, .inl (g.2.1 0, 1476, .inl d))]
/-- other data to work on -/
def TS.wd (X : TS) (d : Nat → Int32) : TS := (X.re, X.st, X.dr, X.sk, d)
/-- the fans that a prediction sets -/
def fnS (d : Nat → Int32) (x : Int32) (s : Nat) (f : Nat → Int32) : Nat → Int32 := if d (12 + 7 * s + 1) = 1 then upd f (12 + 7 * s + 2) x else f
/-- what the cars of the first k breathe -/
def sxR (d : Nat → Int32) (a : Int64) : Nat → Int64
  | 0 => a
  | k + 1 => if d (96 + 4 * k) < 0 then sxR d a k else sxR d a k + (d (12 + 7 * (d (96 + 4 * k)).toNatClampNeg)).toInt64
def exS (n nc : Nat) (cs : Nat → Int32) (kc : Nat) (_ : Nat) (S : Int64 × TS) : Int64 × TS := (sxR (tkF n nc cs kc S.2).d S.1 nc, tkF n nc cs kc S.2)
def exF (n nc : Nat) (cs : Nat → Int32) (kc : Nat) (x : Int32) (t : Nat) (X : TS) (d : Nat → Int32) : Int64 × TS := foldN (exS n nc cs kc) (0, X.wd (foldN (fnS d x) d n)) t
theorem fnS_keep {d : Nat → Int32} {x : Int32} {f : Nat → Int32} {j : Nat} (hj : j < 12 ∨ 96 ≤ j) : ∀ k, k ≤ 12 → foldN (fnS d x) f k j = f j
  | 0, _ => rfl
  | k + 1, h => by
    rw [foldN_s]
    unfold fnS
    split
    · rw [upd_at, if_neg (by omega)]; exact fnS_keep hj k (by omega)
    · exact fnS_keep hj k (by omega)
theorem TKd_of {n nc : Nat} {cs : Nat → Int32} {kc : Nat} {d d2 : Nat → Int32} (h : TKd n nc cs kc d) (hk : ∀ j, j < 12 ∨ 96 ≤ j → d2 j = d j) : TKd n nc cs kc d2 := by
  refine ⟨(hk 0 (by omega)).trans h.1, (hk 2 (by omega)).trans h.2.1, by rw [hk 4 (by omega)]; exact h.2.2.1, fun c hc => by rw [hk _ (by omega)]; exact h.2.2.2.1 c hc, fun h6 => ?_⟩
  rw [hk 6 (by omega)] at h6
  exact RTd_of (h.2.2.2.2 h6) (hk 7 (by omega)) (fun j hj => hk j (by omega))
theorem TKd_ex {n nc : Nat} (hn : n ≤ 12) (hnc : nc ≤ 20) {cs : Nat → Int32} {kc : Nat} {S : Int64 × TS} (h : TKd n nc cs kc S.2.d) : ∀ k, TKd n nc cs kc (foldN (exS n nc cs kc) S k).2.d
  | 0 => h
  | k + 1 => by
    rw [foldN_s]
    exact TKd_tick hn hnc (TKd_ex hn hnc h k)
set_option maxRecDepth 20000 in
set_option maxHeartbeats 2000000 in
theorem r_exposes (l : Launch) (g : Gl) (m : Nat → Nat) (s : MS) (X : TS) (d : Nat → Int32) (n nc : Nat) (hn : n ≤ 12) (hnc : nc ≤ 20) (cs : Nat → Int32) (kc : Nat) (hT : TKd n nc cs kc d) (x0 : Int32) (T : Nat) (hTt : T < 1000) : Ct l g yX7_exposes cX7_exposes 7 (some .long) 5 240 0 0 [.ref (m 0), .int x0, .int (nI T)] (fuW g m (s) (X) (d)) (fun v w => v = some (.long (exF n nc cs kc x0 T X d).1) ∧ w = (fuW g m (s) ((exF n nc cs kc x0 T X d).2) (d))) noX := by
  refine Ct.intro [some (.ref (m 0)), some (.int x0), some (.int (nI T)), none, none, none, none] (by decide +kernel) (fun _ h => h) (Nat.le_of_ble_eq_true rfl) (fun A H0 K ok => ?_)
  have LT : ∀ k, k ≤ T → AW g A H0 7 K 61 [some (.ref (m 0)), some (.int x0), some (.int (nI T)), some (.long ((foldN (exS n nc cs kc) (0, X.wd (foldN (fnS d x0) d (n))) (k)).1)), none, some (.int (nI (k))), none] [] (fuW g m (s) ((foldN (exS n nc cs kc) (0, X.wd (foldN (fnS d x0) d (n))) (k)).2) (d)) 0 0 := by
    refine up_ind T ?_ (fun k hk ih => ?_)
    · skip
      refine A_iload ok.b dX7_exposes_61 (gps (gps (gps (gps (gps gp0))))) ?_
      refine A_iload_n ok.b rfl dX7_exposes_63 (gps (gps gp0)) ?_
      refine A_icmp_ge ok.b (tgt := 136) dX7_exposes_64 (by decide) (fun c64 => ?_) (fun c64 => ((show False from c64 (nI_le (Nat.le_refl _) (by omega)))).elim)
      refine A_lload_n ok.b rfl dX7_exposes_136 (gps (gps (gps gp0))) ?_
      refine A_lret ok dX7_exposes_137 (Nat.le_of_ble_eq_true rfl) (Nat.le_of_ble_eq_true rfl) ?_
      exact ⟨rfl, rfl⟩
    · have hS : TKd n nc cs kc (foldN (exS n nc cs kc) (0, X.wd (foldN (fnS d x0) d (n))) (k)).2.d := TKd_ex hn hnc (TKd_of (d := d) hT (fun j hj => fnS_keep hj n hn)) k
      rw [foldN_s] at ih
      generalize (foldN (exS n nc cs kc) (0, X.wd (foldN (fnS d x0) d (n))) (k)) = S at hS ih ⊢
      rw [exS] at ih
      have hS2 := TKd_tick hn hnc hS
      refine A_iload ok.b dX7_exposes_61 (gps (gps (gps (gps (gps gp0))))) ?_
      refine A_iload_n ok.b rfl dX7_exposes_63 (gps (gps gp0)) ?_
      refine A_icmp_ge ok.b (tgt := 136) dX7_exposes_64 (by decide) (fun c64 => ((show False from nI_ge hk (by omega) c64)).elim) (fun c64 => ?_)
      refine A_aload_n ok.b rfl dX7_exposes_67 gp0 ?_
      refine A_aload_n ok.b rfl dX7_exposes_68 gp0 ?_
      refine A_getf ok.b cf7 10 (by decide) fl_X7_23 gp0 (gps (gps (gps (gps (gps (gps (gps (gps (gps (gps gp0)))))))))) dX7_exposes_69 ?_
      refine A_callVR ok [0, 1, 2, 3, 4, 5] [6] (As := [_]) (wr := ([(m 2, .inl (g.2.1 0, 1476, .inl d))] : va_W)) mf_X7_tick ml_X7_271 in_X7_tick se_X7_tick cf7 gp0 (r_tick l g m (m 4) s S.2 n nc hn hnc cs kc hS) rfl rfl rfl dX7_exposes_72 rfl rfl rfl (by decide) (Nat.le_of_ble_eq_true rfl) ⟨(Nat.le_of_ble_eq_true rfl), (Nat.le_of_ble_eq_true rfl)⟩ ⟨(Nat.le_of_ble_eq_true rfl), (Nat.le_of_ble_eq_true rfl)⟩ (fun _ _ hx => hx.elim) (fun v72 w72 q72 => ?_)
      obtain ⟨rfl, rfl⟩ := q72
      generalize tkF n nc cs kc S.2 = Y at hS2 ih ⊢
      refine A_sub [1, 2, 3, 4, 5, 6, 0] (ws2 := (fuW g m (s) (Y) (d))) rfl rfl ?_
      refine A_iconst ok.b (v := 0) dX7_exposes_75 (by decide) ?_
      refine A_istore ok.b dX7_exposes_76 (by decide) (sts (sts (sts (sts (sts (sts1 rfl st0)))))) ?_
      have LC : ∀ c, c ≤ nc → AW g A H0 7 K 78 [some (.ref (m 0)), some (.int x0), some (.int (nI T)), some (.long (sxR Y.d S.1 c)), none, some (.int (nI (k))), some (.int (nI (c)))] [] (fuW g m (s) (Y) (d)) 0 0 := by
        refine up_ind nc ?_ (fun c hc ihc => ?_)
        · skip
          refine A_iload ok.b dX7_exposes_78 (gps (gps (gps (gps (gps (gps gp0)))))) ?_
          refine A_aload_n ok.b rfl dX7_exposes_80 gp0 ?_
          refine A_getf ok.b cf7 10 (by decide) fl_X7_23 gp0 (gps (gps (gps (gps (gps (gps (gps (gps (gps (gps gp0)))))))))) dX7_exposes_81 ?_
          refine A_iconst ok.b (v := 2) dX7_exposes_84 (by decide) ?_
          refine A_iald ok.b (gps (gps (gps (gps (gps gp0))))) (ix_n (j := 2) (by decide) (by decide)) dX7_exposes_85 ?_
          rw [hS2.2.1]
          refine A_icmp_ge ok.b (tgt := 130) dX7_exposes_86 (by decide) (fun c86 => ?_) (fun c86 => ((show False from c86 (nI_le (Nat.le_refl _) (by omega)))).elim)
          refine A_iinc ok.b (v := _ + 1) dX7_exposes_130 (gps (gps (gps (gps (gps gp0))))) rfl (by decide) (sts (sts (sts (sts (sts1n st0))))) ?_
          refine A_goto ok.b (tgt := 61) dX7_exposes_133 (by decide) ?_
          refine A_lv (lleK (lleK (lleK (lleK (lleK (lleK (lleD lle0))))))) ?_
          rw [nI_1]
          exact ih
        · have hcs := hS2.2.2.2.1 c hc
          rw [sxR] at ihc
          refine A_iload ok.b dX7_exposes_78 (gps (gps (gps (gps (gps (gps gp0)))))) ?_
          refine A_aload_n ok.b rfl dX7_exposes_80 gp0 ?_
          refine A_getf ok.b cf7 10 (by decide) fl_X7_23 gp0 (gps (gps (gps (gps (gps (gps (gps (gps (gps (gps gp0)))))))))) dX7_exposes_81 ?_
          refine A_iconst ok.b (v := 2) dX7_exposes_84 (by decide) ?_
          refine A_iald ok.b (gps (gps (gps (gps (gps gp0))))) (ix_n (j := 2) (by decide) (by decide)) dX7_exposes_85 ?_
          rw [hS2.2.1]
          refine A_icmp_ge ok.b (tgt := 130) dX7_exposes_86 (by decide) (fun c86 => ((show False from nI_ge hc (by omega) c86)).elim) (fun c86 => ?_)
          refine A_aload_n ok.b rfl dX7_exposes_89 gp0 ?_
          refine A_getf ok.b cf7 10 (by decide) fl_X7_23 gp0 (gps (gps (gps (gps (gps (gps (gps (gps (gps (gps gp0)))))))))) dX7_exposes_90 ?_
          refine A_iload ok.b dX7_exposes_93 (gps (gps (gps (gps (gps (gps gp0)))))) ?_
          refine A_pureS ok.b (As := [_]) mf_X7_car ml_X7_162 rfl sc_X7_car (r_car l g _) rfl rfl dX7_exposes_95 (Nat.le_of_ble_eq_true rfl) ⟨(Nat.le_of_ble_eq_true rfl), (Nat.le_of_ble_eq_true rfl)⟩ ⟨(Nat.le_of_ble_eq_true rfl), (Nat.le_of_ble_eq_true rfl)⟩ ?_
          rw [car_n (by omega)]
          refine A_iald ok.b (gps (gps (gps (gps (gps gp0))))) (ix_n (by omega) (by decide)) dX7_exposes_98 ?_
          refine A_if_lt ok.b (tgt := 124) dX7_exposes_99 (by decide) (fun c99 => ?_) (fun c99 => ?_)
          · skip
            refine A_iinc ok.b (v := _ + 1) dX7_exposes_124 (gps (gps (gps (gps (gps (gps gp0)))))) rfl (by decide) (sts (sts (sts (sts (sts (sts1 rfl st0)))))) ?_
            refine A_goto ok.b (tgt := 78) dX7_exposes_127 (by decide) ?_
            rw [if_pos c99] at ihc
            rw [nI_1]
            exact ihc
          · skip
            refine A_lload_n ok.b rfl dX7_exposes_102 (gps (gps (gps gp0))) ?_
            refine A_aload_n ok.b rfl dX7_exposes_103 gp0 ?_
            refine A_getf ok.b cf7 10 (by decide) fl_X7_23 gp0 (gps (gps (gps (gps (gps (gps (gps (gps (gps (gps gp0)))))))))) dX7_exposes_104 ?_
            refine A_aload_n ok.b rfl dX7_exposes_107 gp0 ?_
            refine A_getf ok.b cf7 10 (by decide) fl_X7_23 gp0 (gps (gps (gps (gps (gps (gps (gps (gps (gps (gps gp0)))))))))) dX7_exposes_108 ?_
            refine A_iload ok.b dX7_exposes_111 (gps (gps (gps (gps (gps (gps gp0)))))) ?_
            refine A_pureS ok.b (As := [_]) mf_X7_car ml_X7_162 rfl sc_X7_car (r_car l g _) rfl rfl dX7_exposes_113 (Nat.le_of_ble_eq_true rfl) ⟨(Nat.le_of_ble_eq_true rfl), (Nat.le_of_ble_eq_true rfl)⟩ ⟨(Nat.le_of_ble_eq_true rfl), (Nat.le_of_ble_eq_true rfl)⟩ ?_
            rw [car_n (by omega)]
            refine A_iald ok.b (gps (gps (gps (gps (gps gp0))))) (ix_n (by omega) (by decide)) dX7_exposes_116 ?_
            obtain ⟨t, ht, et⟩ := hcs.resolve_left c99
            rw [et]
            refine A_pureS ok.b (As := [_]) mf_X7_section ml_X7_143 rfl sc_X7_section (r_section l g _) rfl rfl dX7_exposes_117 (Nat.le_of_ble_eq_true rfl) ⟨(Nat.le_of_ble_eq_true rfl), (Nat.le_of_ble_eq_true rfl)⟩ ⟨(Nat.le_of_ble_eq_true rfl), (Nat.le_of_ble_eq_true rfl)⟩ ?_
            rw [sec_n (by omega)]
            refine A_iald ok.b (gps (gps (gps (gps (gps gp0))))) (ix_n (by omega) (by decide)) dX7_exposes_120 ?_
            refine A_i2l ok.b dX7_exposes_121 ?_
            refine A_ladd ok.b dX7_exposes_122 ?_
            refine A_lstore_n ok.b rfl dX7_exposes_123 (by decide) (sts (sts (sts1 rfl st0w))) ?_
            refine A_iinc ok.b (v := _ + 1) dX7_exposes_124 (gps (gps (gps (gps (gps (gps gp0)))))) rfl (by decide) (sts (sts (sts (sts (sts (sts1 rfl st0)))))) ?_
            refine A_goto ok.b (tgt := 78) dX7_exposes_127 (by decide) ?_
            rw [if_neg c99, et, nI_clamp (by omega)] at ihc
            rw [nI_1]
            exact ihc
      exact LC 0 (Nat.zero_le _)
  have LF : ∀ k, k ≤ n → AW g A H0 7 K 13 [some (.ref (m 0)), some (.int x0), some (.int (nI T)), some (.int (nI k)), none, none, none] [] (fuW g m (s) (X.wd (foldN (fnS d x0) d (k))) (d)) 0 0 := by
    refine up_ind n ?_ (fun k hk ih => ?_)
    · skip
      refine A_iload_n ok.b rfl dX7_exposes_13 (gps (gps (gps gp0))) ?_
      refine A_aload_n ok.b rfl dX7_exposes_14 gp0 ?_
      refine A_getf ok.b cf7 8 (by decide) fl_X7_17 gp0 (gps (gps (gps (gps (gps (gps (gps (gps gp0)))))))) dX7_exposes_15 ?_
      refine A_iconst ok.b (v := 0) dX7_exposes_18 (by decide) ?_
      refine A_iald ok.b (gps (gps (gps (gps (gps (gps gp0)))))) (ix_n (j := 0) (by decide) (by decide)) dX7_exposes_19 ?_
      rw [hT.1]
      refine A_icmp_ge ok.b (tgt := 56) dX7_exposes_20 (by decide) (fun c20 => ?_) (fun c20 => ((show False from c20 (nI_le (Nat.le_refl _) (by omega)))).elim)
      refine A_lconst ok.b (v := 0) dX7_exposes_56 (by decide) ?_
      refine A_lstore_n ok.b rfl dX7_exposes_57 (by decide) (sts (sts (sts1 rfl st0w))) ?_
      refine A_iconst ok.b (v := 0) dX7_exposes_58 (by decide) ?_
      refine A_istore ok.b dX7_exposes_59 (by decide) (sts (sts (sts (sts (sts1n st0))))) ?_
      exact LT 0 (Nat.zero_le _)
    · rw [foldN_s, fnS] at ih
      refine A_iload_n ok.b rfl dX7_exposes_13 (gps (gps (gps gp0))) ?_
      refine A_aload_n ok.b rfl dX7_exposes_14 gp0 ?_
      refine A_getf ok.b cf7 8 (by decide) fl_X7_17 gp0 (gps (gps (gps (gps (gps (gps (gps (gps gp0)))))))) dX7_exposes_15 ?_
      refine A_iconst ok.b (v := 0) dX7_exposes_18 (by decide) ?_
      refine A_iald ok.b (gps (gps (gps (gps (gps (gps gp0)))))) (ix_n (j := 0) (by decide) (by decide)) dX7_exposes_19 ?_
      rw [hT.1]
      refine A_icmp_ge ok.b (tgt := 56) dX7_exposes_20 (by decide) (fun c20 => ((show False from nI_ge hk (by omega) c20)).elim) (fun c20 => ?_)
      refine A_aload_n ok.b rfl dX7_exposes_23 gp0 ?_
      refine A_getf ok.b cf7 8 (by decide) fl_X7_17 gp0 (gps (gps (gps (gps (gps (gps (gps (gps gp0)))))))) dX7_exposes_24 ?_
      refine A_iload_n ok.b rfl dX7_exposes_27 (gps (gps (gps gp0))) ?_
      refine A_pureS ok.b (As := [_]) mf_X7_section ml_X7_143 rfl sc_X7_section (r_section l g _) rfl rfl dX7_exposes_28 (Nat.le_of_ble_eq_true rfl) ⟨(Nat.le_of_ble_eq_true rfl), (Nat.le_of_ble_eq_true rfl)⟩ ⟨(Nat.le_of_ble_eq_true rfl), (Nat.le_of_ble_eq_true rfl)⟩ ?_
      rw [sec_n (by omega)]
      refine A_iconst ok.b (v := 1) dX7_exposes_31 (by decide) ?_
      refine A_iadd ok.b dX7_exposes_32 ?_
      rw [show nI (12 + 7 * k) + 1 = nI (12 + 7 * k + 1) from nI_add _ 1]
      refine A_iald ok.b (gps (gps (gps (gps (gps (gps gp0)))))) (ix_n (by omega) (by decide)) dX7_exposes_33 ?_
      refine A_iconst ok.b (v := 1) dX7_exposes_34 (by decide) ?_
      refine A_icmp_ne ok.b (tgt := 50) dX7_exposes_35 (by decide) (fun c35 => ?_) (fun c35 => ?_)
      · skip
        refine A_iinc ok.b (v := _ + 1) dX7_exposes_50 (gps (gps (gps gp0))) rfl (by decide) (sts (sts (sts1 rfl st0))) ?_
        refine A_goto ok.b (tgt := 13) dX7_exposes_53 (by decide) ?_
        rw [if_neg c35] at ih
        rw [nI_1]
        exact ih
      · skip
        refine A_aload_n ok.b rfl dX7_exposes_38 gp0 ?_
        refine A_getf ok.b cf7 10 (by decide) fl_X7_23 gp0 (gps (gps (gps (gps (gps (gps (gps (gps (gps (gps gp0)))))))))) dX7_exposes_39 ?_
        refine A_iload_n ok.b rfl dX7_exposes_42 (gps (gps (gps gp0))) ?_
        refine A_pureS ok.b (As := [_]) mf_X7_section ml_X7_143 rfl sc_X7_section (r_section l g _) rfl rfl dX7_exposes_43 (Nat.le_of_ble_eq_true rfl) ⟨(Nat.le_of_ble_eq_true rfl), (Nat.le_of_ble_eq_true rfl)⟩ ⟨(Nat.le_of_ble_eq_true rfl), (Nat.le_of_ble_eq_true rfl)⟩ ?_
        rw [sec_n (by omega)]
        refine A_iconst ok.b (v := 2) dX7_exposes_46 (by decide) ?_
        refine A_iadd ok.b dX7_exposes_47 ?_
        rw [show nI (12 + 7 * k) + 2 = nI (12 + 7 * k + 2) from nI_add _ 2]
        refine A_iload_n ok.b rfl dX7_exposes_48 (gps gp0) ?_
        refine A_iast ok.b (gps (gps (gps (gps (gps gp0))))) (ix_n (by omega) (by decide)) (wps (wps (wps (wps (wps wp0))))) dX7_exposes_49 ?_
        refine A_iinc ok.b (v := _ + 1) dX7_exposes_50 (gps (gps (gps gp0))) rfl (by decide) (sts (sts (sts1 rfl st0))) ?_
        refine A_goto ok.b (tgt := 13) dX7_exposes_53 (by decide) ?_
        rw [if_pos c35] at ih
        rw [nI_1]
        exact ih
  refine A_aload_n ok.b rfl dX7_exposes_0 gp0 ?_
  refine A_getf ok.b cf7 8 (by decide) fl_X7_17 gp0 (gps (gps (gps (gps (gps (gps (gps (gps gp0)))))))) dX7_exposes_1 ?_
  refine A_aload_n ok.b rfl dX7_exposes_4 gp0 ?_
  refine A_getf ok.b cf7 10 (by decide) fl_X7_23 gp0 (gps (gps (gps (gps (gps (gps (gps (gps (gps (gps gp0)))))))))) dX7_exposes_5 ?_
  refine A_callSR ok [6, 5] [0, 1, 2, 3, 4] (As := [_, _]) (wr := ([moC m (s), (m 7, .inl (g.2.1 0, 12, .inl (X).re)), (m 8, .inl (g.2.1 3, 20, .inl (X).st)), (m 9, .inl (g.2.1 3, 20, .inl (X).dr)), (m 6, .inl (g.2.1 1, 1300, .inr (.inl (X).sk)))] : va_W)) mf_X7_copy ml_X7_206 rfl sc_X7_copy  (r_copy l g (m 2) (m 4) d X.d) rfl rfl rfl dX7_exposes_8 rfl rfl rfl (by decide) (Nat.le_of_ble_eq_true rfl) ⟨(Nat.le_of_ble_eq_true rfl), (Nat.le_of_ble_eq_true rfl)⟩ ⟨(Nat.le_of_ble_eq_true rfl), (Nat.le_of_ble_eq_true rfl)⟩ (fun _ _ hx => hx.elim) (fun v8 w8 q8 => ?_)
  obtain ⟨rfl, rfl⟩ := q8
  refine A_sub [0, 1, 2, 3, 4, 6, 5] (ws2 := (fuW g m (s) (X.wd d) (d))) rfl rfl ?_
  refine A_iconst ok.b (v := 0) dX7_exposes_11 (by decide) ?_
  refine A_istore_n ok.b rfl dX7_exposes_12 (by decide) (sts (sts (sts1 rfl st0))) ?_
  exact LF 0 (Nat.zero_le _)
