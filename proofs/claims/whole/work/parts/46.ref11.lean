/-- what a tick works on: rests, stayed, driven, the stack, the data -/
abbrev TS : Type := (Nat → Int32) × (Nat → Int32) × (Nat → Int32) × (Nat → Int64) × (Nat → Int32)
abbrev TS.re (X : TS) : Nat → Int32 := X.1
abbrev TS.st (X : TS) : Nat → Int32 := X.2.1
abbrev TS.dr (X : TS) : Nat → Int32 := X.2.2.1
abbrev TS.sk (X : TS) : Nat → Int64 := X.2.2.2.1
abbrev TS.d (X : TS) : Nat → Int32 := X.2.2.2.2
def tsW (g : Gl) (m : Nat → Nat) (q : Nat) (s : MS) (X : TS) : va_W := ttW g m q s X.re X.st X.dr X.sk X.d
theorem smA_keepC {re d : Nat → Int32} {j : Nat} (hj : 96 ≤ j) : ∀ k, k ≤ 12 → (foldN smA (re, d) k).2 j = d j
  | 0, _ => rfl
  | k + 1, h => by
    rw [foldN_s]
    show upd (upd _ 10 _) (12 + 7 * k) 0 j = d j
    rw [upd_at, if_neg (by omega), upd_at, if_neg (by omega)]
    exact smA_keepC hj k (by omega)
theorem smB_keepC {n : Nat} (hn : n ≤ 12) {pa sp : Int32} {re d : Nat → Int32} {j : Nat} (hj : 96 ≤ j) : ∀ k, k ≤ 12 → (foldN (smB n pa sp re) d k) j = d j
  | 0, _ => rfl
  | k + 1, h => by
    rw [foldN_s]
    have h1 : smB1 pa re k (foldN (smB n pa sp re) d k) j = d j := by
      rw [smB1, upd_at, if_neg (by omega)]
      exact smB_keepC hn hj k (by omega)
    unfold smB
    split
    · rename_i hi
      obtain ⟨t, ht, et⟩ := in_inn hn hi
      rw [et, nI_clamp (by omega), upd_at, if_neg (by omega)]; exact h1
    · rw [upd_at, if_neg (by omega)]; exact h1
theorem smD_keepC {n : Nat} (hn : n ≤ 12) {re d : Nat → Int32} {j : Nat} (hj : 96 ≤ j) : smD n re d j = d j :=
  (smB_keepC hn hj n hn).trans (smA_keepC hj n hn)
theorem smF_keepC {n : Nat} (hn : n ≤ 12) {r : Int32} {d : Nat → Int32} (hf : d 4 < 0 ∨ Inn (d 4) n) {j : Nat} (hj : 96 ≤ j) : smF r d j = d j := by
  unfold smF
  split
  · rfl
  · rename_i h
    obtain ⟨t, ht, et⟩ := hf.resolve_left h
    rw [upd_at, if_neg (by omega), smF1, et, nI_clamp (by omega), upd_at, if_neg (by omega)]
/-- the cars stand within the tunnel or outside; who stayed stands within -/
def CK3 (n nc : Nat) (S : D3) : Prop := ∀ c, c < nc → (S.2.2 (96 + 4 * c) < 0 ∨ Inn (S.2.2 (96 + 4 * c)) n) ∧ (¬ S.2.1 c = 0 → Inn (S.2.2 (96 + 4 * c)) n)
theorem CK_df {n nc c : Nat} (hn : n ≤ 12) {s w : Int32} (hs : Inn s n) {S : D3} (h : CK3 n nc S) : CK3 n nc (dfF n nc s w c S) := by
  unfold dfF
  split
  · rename_i h1
    unfold drvR
    split
    · rename_i h2
      split
      · intro k hk
        show ((upd S.2.2 (96 + 4 * c) (toR S.2.2 c)) (96 + 4 * k) < 0 ∨ Inn ((upd S.2.2 (96 + 4 * c) (toR S.2.2 c)) (96 + 4 * k)) n) ∧ (¬ (upd S.2.1 c 0) k = 0 → Inn ((upd S.2.2 (96 + 4 * c) (toR S.2.2 c)) (96 + 4 * k)) n)
        by_cases e : k = c
        · rw [e, upd_at, if_pos rfl]
          exact ⟨Or.inr (in_inn hn h2), fun _ => in_inn hn h2⟩
        · rw [upd_at, if_neg (by omega), upd_at, if_neg e]
          exact h k hk
      · intro k hk
        show (S.2.2 (96 + 4 * k) < 0 ∨ Inn (S.2.2 (96 + 4 * k)) n) ∧ (¬ (upd (upd S.2.1 c 0) c 1) k = 0 → Inn (S.2.2 (96 + 4 * k)) n)
        by_cases e : k = c
        · rw [e, h1.2.1]
          exact ⟨Or.inr hs, fun _ => hs⟩
        · rw [upd_at, if_neg e, upd_at, if_neg e]
          exact h k hk
    · intro k hk
      show ((upd S.2.2 (96 + 4 * c) (-1)) (96 + 4 * k) < 0 ∨ Inn ((upd S.2.2 (96 + 4 * c) (-1)) (96 + 4 * k)) n) ∧ (¬ (upd S.2.1 c 0) k = 0 → Inn ((upd S.2.2 (96 + 4 * c) (-1)) (96 + 4 * k)) n)
      by_cases e : k = c
      · rw [e, upd_at, if_pos rfl, upd_at, if_pos rfl]
        exact ⟨Or.inl (by decide), fun h => absurd rfl h⟩
      · rw [upd_at, if_neg (by omega), upd_at, if_neg e]
        exact h k hk
  · exact h
theorem CK_dfR {n nc : Nat} (hn : n ≤ 12) {s w : Int32} (hs : Inn s n) {S : D3} (h : CK3 n nc S) : CK3 n nc (dfR n nc s w S) :=
  foldN_inv (CK3 n nc) (dfF n nc s w) S h (fun _ _ h1 => CK_df hn hs h1) nc
def tkE (n nc : Nat) (i : Nat) (S : D3) : D3 := dfR n nc (nI (n - 1 - i)) 1 S
def tkV (n nc : Nat) (i : Nat) (S : D3) : D3 := dfR n nc (nI i) (-1) S
def tkT (st : Nat → Int32) (nc c : Nat) (d : Nat → Int32) : Nat → Int32 := if st c = 0 then d else trR nc c d
def tkX (c : Nat) (d : Nat → Int32) : Nat → Int32 := if d (96 + 4 * c) < 0 then d else xpR d (96 + 4 * c + 2) (d (12 + 7 * (d (96 + 4 * c)).toNatClampNeg))
def tkA (n nc : Nat) (cs : Nat → Int32) (kc : Nat) (X : TS) : Nat → Int32 := smF (rtR X.d cs n nc kc X.sk) (smD n X.re X.d)
def tk0 (n nc : Nat) (cs : Nat → Int32) (kc : Nat) (X : TS) : D3 := (kI nc 0 X.dr, kI nc 0 X.st, tkA n nc cs kc X)
def tk1 (n nc : Nat) (cs : Nat → Int32) (kc : Nat) (X : TS) : D3 := foldN (tkE n nc) (tk0 n nc cs kc X) n
def tk2 (n nc : Nat) (cs : Nat → Int32) (kc : Nat) (X : TS) : D3 := foldN (tkV n nc) (tk1 n nc cs kc X) n
def tk3 (n nc : Nat) (cs : Nat → Int32) (kc : Nat) (X : TS) : Nat → Int32 := foldN (tkT (tk2 n nc cs kc X).2.1 nc) (tk2 n nc cs kc X).2.2 nc
def tk4 (n nc : Nat) (cs : Nat → Int32) (kc : Nat) (X : TS) : Nat → Int32 := foldN tkX (tk3 n nc cs kc X) nc
/-- a tick -/
def tkF (n nc : Nat) (cs : Nat → Int32) (kc : Nat) (X : TS) : TS := ((smE n X.re X.d).1, (tk2 n nc cs kc X).2.1, (tk2 n nc cs kc X).1, rtK X.d cs n nc kc X.sk, upd (tk4 n nc cs kc X) 3 (tk4 n nc cs kc X 3 + 1))
/-- what a tick wants of the data -/
def TKd (n nc : Nat) (cs : Nat → Int32) (kc : Nat) (d : Nat → Int32) : Prop := d 0 = nI n ∧ d 2 = nI nc ∧ (d 4 < 0 ∨ Inn (d 4) n) ∧ (∀ c, c < nc → d (96 + 4 * c) < 0 ∨ Inn (d (96 + 4 * c)) n) ∧ (¬ d 6 = 0 → RTd d cs kc)
theorem tkA_keep {n nc : Nat} {cs : Nat → Int32} {kc : Nat} {X : TS} {j : Nat} (hj : j < 12) (h8 : j ≠ 8) (h9 : j ≠ 9) (h10 : j ≠ 10) : tkA n nc cs kc X j = X.d j :=
  (smF_keep hj h8).trans (smD_keep hj h9 h10)
theorem tkA_keepC {n nc : Nat} (hn : n ≤ 12) {cs : Nat → Int32} {kc : Nat} {X : TS} (hf : X.d 4 < 0 ∨ Inn (X.d 4) n) {j : Nat} (hj : 96 ≤ j) : tkA n nc cs kc X j = X.d j :=
  (smF_keepC hn (by rw [smD_keep (by decide) (by decide) (by decide)]; exact hf) hj).trans (smD_keepC hn hj)
theorem tkE_keep {n nc : Nat} {S : D3} {j : Nat} (hj : j < 96) : ∀ k, (foldN (tkE n nc) S k).2.2 j = S.2.2 j
  | 0 => rfl
  | k + 1 => by rw [foldN_s]; exact (df_keep hj nc).trans (tkE_keep hj k)
theorem tkV_keep {n nc : Nat} {S : D3} {j : Nat} (hj : j < 96) : ∀ k, (foldN (tkV n nc) S k).2.2 j = S.2.2 j
  | 0 => rfl
  | k + 1 => by rw [foldN_s]; exact (df_keep hj nc).trans (tkV_keep hj k)
theorem tkT_keep {st : Nat → Int32} {nc : Nat} {d : Nat → Int32} {j : Nat} (hj : j < 96) : ∀ k, foldN (tkT st nc) d k j = d j
  | 0 => rfl
  | k + 1 => by
    rw [foldN_s]
    unfold tkT
    split
    · exact tkT_keep hj k
    · exact (tr_keep hj).trans (tkT_keep hj k)
theorem xp_keep {d : Nat → Int32} {j i : Nat} {x : Int32} (h1 : i ≠ j) (h2 : i ≠ j + 1) : xpR d j x i = d i := by
  rw [xpR, upd_at, if_neg h2, upd_at, if_neg h1]
theorem tkX_keep {d : Nat → Int32} {j : Nat} (hj : j < 96) : ∀ k, foldN tkX d k j = d j
  | 0 => rfl
  | k + 1 => by
    rw [foldN_s]
    unfold tkX
    split
    · exact tkX_keep hj k
    · exact (xp_keep (by omega) (by omega)).trans (tkX_keep hj k)
theorem tkX_keepC {d : Nat → Int32} {c : Nat} : ∀ k, foldN tkX d k (96 + 4 * c) = d (96 + 4 * c)
  | 0 => rfl
  | k + 1 => by
    rw [foldN_s]
    unfold tkX
    split
    · exact tkX_keepC k
    · exact (xp_keep (by omega) (by omega)).trans (tkX_keepC k)
theorem tkT_keepC {st : Nat → Int32} {nc : Nat} {d : Nat → Int32} {c : Nat} : ∀ k, foldN (tkT st nc) d k (96 + 4 * c) = d (96 + 4 * c)
  | 0 => rfl
  | k + 1 => by
    rw [foldN_s]
    unfold tkT
    split
    · exact tkT_keepC k
    · have h1 : ∀ D : Nat → Int32, trR nc k D (96 + 4 * c) = D (96 + 4 * c) := fun D => by
        unfold trR
        split
        · rw [upd_at, if_neg (by omega)]
        · rfl
      exact (h1 _).trans (tkT_keepC k)
theorem tk0_CK {n nc : Nat} (hn : n ≤ 12) {cs : Nat → Int32} {kc : Nat} {X : TS} (h : TKd n nc cs kc X.d) : CK3 n nc (tk0 n nc cs kc X) := by
  intro c hc
  show ((tkA n nc cs kc X) (96 + 4 * c) < 0 ∨ _) ∧ (¬ kI nc 0 X.st c = 0 → _)
  refine ⟨?_, fun h1 => absurd ?_ h1⟩
  · show (tkA n nc cs kc X) (96 + 4 * c) < 0 ∨ Inn ((tkA n nc cs kc X) (96 + 4 * c)) n
    rw [tkA_keepC hn h.2.2.1 (by omega)]
    exact h.2.2.2.1 c hc
  · rw [kI, if_pos hc]
theorem tkE_CK {n nc : Nat} (hn : n ≤ 12) {S : D3} (h : CK3 n nc S) : ∀ k, k ≤ n → CK3 n nc (foldN (tkE n nc) S k)
  | 0, _ => h
  | k + 1, hk => by
    rw [foldN_s]
    exact CK_dfR hn (inn_n (by omega)) (tkE_CK hn h k (by omega))
theorem tkV_CK {n nc : Nat} (hn : n ≤ 12) {S : D3} (h : CK3 n nc S) : ∀ k, k ≤ n → CK3 n nc (foldN (tkV n nc) S k)
  | 0, _ => h
  | k + 1, hk => by
    rw [foldN_s]
    exact CK_dfR hn (inn_n (by omega)) (tkV_CK hn h k (by omega))
theorem tk2_CK {n nc : Nat} (hn : n ≤ 12) {cs : Nat → Int32} {kc : Nat} {X : TS} (h : TKd n nc cs kc X.d) : CK3 n nc (tk2 n nc cs kc X) :=
  tkV_CK hn (tkE_CK hn (tk0_CK hn h) n (Nat.le_refl _)) n (Nat.le_refl _)
theorem tk2_keep {n nc : Nat} {cs : Nat → Int32} {kc : Nat} {X : TS} {j : Nat} (hj : j < 12) (h8 : j ≠ 8) (h9 : j ≠ 9) (h10 : j ≠ 10) : (tk2 n nc cs kc X).2.2 j = X.d j :=
  (tkV_keep (by omega) n).trans ((tkE_keep (by omega) n).trans (tkA_keep hj h8 h9 h10))
def evN (n i : Nat) : Int32 := if i < n then nI (n - 1 - i) else -1
theorem ev_s {n i : Nat} (h : i < n) : nI (n - 1 - i) + (-1) = evN n (i + 1) := by
  unfold evN
  split
  · rw [show n - 1 - i = (n - 1 - (i + 1)) + 1 by omega, nI_m1]
  · rw [show n - 1 - i = 0 by omega]; decide
theorem ev_0 (n : Nat) : nI n - 1 = evN n 0 := by
  unfold evN
  split
  · rw [show (1 : Int32) = nI 1 from rfl, pk_sub (by omega)]; rfl
  · rw [show n = 0 by omega]; decide
set_option maxRecDepth 20000 in
set_option maxHeartbeats 2000000 in
theorem r_tick (l : Launch) (g : Gl) (m : Nat → Nat) (q : Nat) (s : MS) (X : TS) (n nc : Nat) (hn : n ≤ 12) (hnc : nc ≤ 20) (cs : Nat → Int32) (kc : Nat) (hT : TKd n nc cs kc X.d) : Ct l g yX7_tick cX7_tick 3 none 4 160 0 0 [.ref (m 0), .ref q] (tsW g m q s X) (fun v w => v = none ∧ w = tsW g m q s (tkF n nc cs kc X)) noX := by
  refine Ct.intro [some (.ref (m 0)), some (.ref q), none] (by decide +kernel) (fun _ h => h) (Nat.le_of_ble_eq_true rfl) (fun A H0 K ok => ?_)
  have a0 : tkA n nc cs kc X 0 = nI n := (tkA_keep (by decide) (by decide) (by decide) (by decide)).trans hT.1
  have a2 : tkA n nc cs kc X 2 = nI nc := (tkA_keep (by decide) (by decide) (by decide) (by decide)).trans hT.2.1
  have b0 : (tk2 n nc cs kc X).2.2 0 = nI n := (tk2_keep (by decide) (by decide) (by decide) (by decide)).trans hT.1
  have b2 : (tk2 n nc cs kc X).2.2 2 = nI nc := (tk2_keep (by decide) (by decide) (by decide) (by decide)).trans hT.2.1
  have hCK := tk2_CK (cs := cs) (kc := kc) (X := X) hn hT
  have L5 : ∀ k, k ≤ nc → AW g A H0 3 K 116 [some (.ref (m 0)), some (.ref q), some (.int (nI k))] [] (ttW g m q s ((smE n X.re X.d).1) ((tk2 n nc cs kc X).2.1) ((tk2 n nc cs kc X).1) (rtK X.d cs n nc kc X.sk) ((foldN tkX (tk3 n nc cs kc X) (k)))) 0 0 := by
    refine up_ind nc ?_ (fun k hk ih => ?_)
    · skip
      have e2 : (foldN tkX (tk3 n nc cs kc X) (nc)) 2 = nI nc := (tkX_keep (by decide) nc).trans ((tkT_keep (by decide) nc).trans b2)
      refine A_iload_n ok.b rfl dX7_tick_116 (gps (gps gp0)) ?_
      refine A_aload_n ok.b rfl dX7_tick_117 (gps gp0) ?_
      refine A_iconst ok.b (v := 2) dX7_tick_118 (by decide) ?_
      refine A_iald ok.b (gps (gps (gps (gps (gps gp0))))) (ix_n (j := 2) (by decide) (by decide)) dX7_tick_119 ?_
      rw [e2]
      refine A_icmp_ge ok.b (tgt := 159) dX7_tick_120 (by decide) (fun c120 => ?_) (fun c120 => (c120 (nI_le (Nat.le_refl _) (by omega))).elim)
      refine A_aload_n ok.b rfl dX7_tick_159 (gps gp0) ?_
      refine A_iconst ok.b (v := 3) dX7_tick_160 (by decide) ?_
      refine A_dup2_11 ok.b dX7_tick_161 rfl rfl ?_
      refine A_iald ok.b (gps (gps (gps (gps (gps gp0))))) (ix_n (j := 3) (by decide) (by decide)) dX7_tick_162 ?_
      refine A_iconst ok.b (v := 1) dX7_tick_163 (by decide) ?_
      refine A_iadd ok.b dX7_tick_164 ?_
      refine A_iast ok.b (gps (gps (gps (gps (gps gp0))))) (ix_n (j := 3) (by decide) (by decide)) (wps (wps (wps (wps (wps wp0))))) dX7_tick_165 ?_
      refine A_vret ok dX7_tick_166 (Nat.le_of_ble_eq_true rfl) (Nat.le_of_ble_eq_true rfl) ?_
      exact ⟨rfl, rfl⟩
    · skip
      have e2 : (foldN tkX (tk3 n nc cs kc X) (k)) 2 = nI nc := (tkX_keep (by decide) k).trans ((tkT_keep (by decide) nc).trans b2)
      have ec : (foldN tkX (tk3 n nc cs kc X) (k)) (96 + 4 * k) < 0 ∨ Inn ((foldN tkX (tk3 n nc cs kc X) (k)) (96 + 4 * k)) n := by
        rw [tkX_keepC, tk3, tkT_keepC]; exact (hCK k hk).1
      rw [foldN_s] at ih
      generalize (foldN tkX (tk3 n nc cs kc X) (k)) = F at e2 ec ih ⊢
      refine A_iload_n ok.b rfl dX7_tick_116 (gps (gps gp0)) ?_
      refine A_aload_n ok.b rfl dX7_tick_117 (gps gp0) ?_
      refine A_iconst ok.b (v := 2) dX7_tick_118 (by decide) ?_
      refine A_iald ok.b (gps (gps (gps (gps (gps gp0))))) (ix_n (j := 2) (by decide) (by decide)) dX7_tick_119 ?_
      rw [e2]
      refine A_icmp_ge ok.b (tgt := 159) dX7_tick_120 (by decide) (fun c120 => (nI_ge hk (by omega) c120).elim) (fun c120 => ?_)
      refine A_aload_n ok.b rfl dX7_tick_123 (gps gp0) ?_
      refine A_iload_n ok.b rfl dX7_tick_124 (gps (gps gp0)) ?_
      refine A_pureS ok.b (As := [_]) mf_X7_car ml_X7_162 rfl sc_X7_car (r_car l g _) rfl rfl dX7_tick_125 (Nat.le_of_ble_eq_true rfl) ⟨(Nat.le_of_ble_eq_true rfl), (Nat.le_of_ble_eq_true rfl)⟩ ⟨(Nat.le_of_ble_eq_true rfl), (Nat.le_of_ble_eq_true rfl)⟩ ?_
      rw [car_n (by omega)]
      refine A_iald ok.b (gps (gps (gps (gps (gps gp0))))) (ix_n (by omega) (by decide)) dX7_tick_128 ?_
      refine A_if_lt ok.b (tgt := 153) dX7_tick_129 (by decide) (fun c129 => ?_) (fun c129 => ?_)
      · skip
        refine A_iinc ok.b (v := _ + 1) dX7_tick_153 (gps (gps gp0)) rfl (by decide) (sts (sts1 rfl st0)) ?_
        refine A_goto ok.b (tgt := 116) dX7_tick_156 (by decide) ?_
        rw [tkX, if_pos c129] at ih
        rw [nI_1]
        exact ih
      · skip
        refine A_aload_n ok.b rfl dX7_tick_132 (gps gp0) ?_
        refine A_iload_n ok.b rfl dX7_tick_133 (gps (gps gp0)) ?_
        refine A_pureS ok.b (As := [_]) mf_X7_car ml_X7_162 rfl sc_X7_car (r_car l g _) rfl rfl dX7_tick_134 (Nat.le_of_ble_eq_true rfl) ⟨(Nat.le_of_ble_eq_true rfl), (Nat.le_of_ble_eq_true rfl)⟩ ⟨(Nat.le_of_ble_eq_true rfl), (Nat.le_of_ble_eq_true rfl)⟩ ?_
        rw [car_n (by omega)]
        refine A_iconst ok.b (v := 2) dX7_tick_137 (by decide) ?_
        refine A_iadd ok.b dX7_tick_138 ?_
        rw [show nI (96 + 4 * k) + 2 = nI (96 + 4 * k + 2) from nI_add _ 2]
        refine A_aload_n ok.b rfl dX7_tick_139 (gps gp0) ?_
        refine A_aload_n ok.b rfl dX7_tick_140 (gps gp0) ?_
        refine A_iload_n ok.b rfl dX7_tick_141 (gps (gps gp0)) ?_
        refine A_pureS ok.b (As := [_]) mf_X7_car ml_X7_162 rfl sc_X7_car (r_car l g _) rfl rfl dX7_tick_142 (Nat.le_of_ble_eq_true rfl) ⟨(Nat.le_of_ble_eq_true rfl), (Nat.le_of_ble_eq_true rfl)⟩ ⟨(Nat.le_of_ble_eq_true rfl), (Nat.le_of_ble_eq_true rfl)⟩ ?_
        rw [car_n (by omega)]
        refine A_iald ok.b (gps (gps (gps (gps (gps gp0))))) (ix_n (by omega) (by decide)) dX7_tick_145 ?_
        obtain ⟨t, ht, et⟩ := ec.resolve_left c129
        rw [et]
        refine A_pureS ok.b (As := [_]) mf_X7_section ml_X7_143 rfl sc_X7_section (r_section l g _) rfl rfl dX7_tick_146 (Nat.le_of_ble_eq_true rfl) ⟨(Nat.le_of_ble_eq_true rfl), (Nat.le_of_ble_eq_true rfl)⟩ ⟨(Nat.le_of_ble_eq_true rfl), (Nat.le_of_ble_eq_true rfl)⟩ ?_
        rw [sec_n (by omega)]
        refine A_iald ok.b (gps (gps (gps (gps (gps gp0))))) (ix_n (by omega) (by decide)) dX7_tick_149 ?_
        refine A_callSR ok [5] [0, 1, 2, 3, 4] (As := [_, _, _]) (wr := ([moC m s, (m 7, .inl (g.2.1 0, 12, .inl (smE n X.re X.d).1)), (m 8, .inl (g.2.1 3, 20, .inl (tk2 n nc cs kc X).2.1)), (m 9, .inl (g.2.1 3, 20, .inl (tk2 n nc cs kc X).1)), (m 6, .inl (g.2.1 1, 1300, .inr (.inl (rtK X.d cs n nc kc X.sk))))] : va_W)) mf_X7_expose ml_X7_256 rfl sc_X7_expose  (r_expose l g q F (96 + 4 * k + 2) (by omega) _) rfl rfl rfl dX7_tick_150 rfl rfl rfl (by decide) (Nat.le_of_ble_eq_true rfl) ⟨(Nat.le_of_ble_eq_true rfl), (Nat.le_of_ble_eq_true rfl)⟩ ⟨(Nat.le_of_ble_eq_true rfl), (Nat.le_of_ble_eq_true rfl)⟩ (fun _ _ hx => hx.elim) (fun v150 w150 q150 => ?_)
        obtain ⟨rfl, rfl⟩ := q150
        refine A_sub [0, 1, 2, 3, 4, 5] (ws2 := (ttW g m q s ((smE n X.re X.d).1) ((tk2 n nc cs kc X).2.1) ((tk2 n nc cs kc X).1) (rtK X.d cs n nc kc X.sk) (xpR F (96 + 4 * k + 2) (F (12 + 7 * t))))) rfl rfl ?_
        refine A_iinc ok.b (v := _ + 1) dX7_tick_153 (gps (gps gp0)) rfl (by decide) (sts (sts1 rfl st0)) ?_
        refine A_goto ok.b (tgt := 116) dX7_tick_156 (by decide) ?_
        rw [tkX, if_neg c129, et, nI_clamp (by omega)] at ih
        rw [nI_1]
        exact ih
  have L4 : ∀ k, k ≤ nc → AW g A H0 3 K 86 [some (.ref (m 0)), some (.ref q), some (.int (nI k))] [] (ttW g m q s ((smE n X.re X.d).1) ((tk2 n nc cs kc X).2.1) ((tk2 n nc cs kc X).1) (rtK X.d cs n nc kc X.sk) ((foldN (tkT (tk2 n nc cs kc X).2.1 nc) (tk2 n nc cs kc X).2.2 (k)))) 0 0 := by
    refine up_ind nc ?_ (fun k hk ih => ?_)
    · skip
      have e2 : (foldN (tkT (tk2 n nc cs kc X).2.1 nc) (tk2 n nc cs kc X).2.2 (nc)) 2 = nI nc := (tkT_keep (by decide) nc).trans b2
      refine A_iload_n ok.b rfl dX7_tick_86 (gps (gps gp0)) ?_
      refine A_aload_n ok.b rfl dX7_tick_87 (gps gp0) ?_
      refine A_iconst ok.b (v := 2) dX7_tick_88 (by decide) ?_
      refine A_iald ok.b (gps (gps (gps (gps (gps gp0))))) (ix_n (j := 2) (by decide) (by decide)) dX7_tick_89 ?_
      rw [e2]
      refine A_icmp_ge ok.b (tgt := 114) dX7_tick_90 (by decide) (fun c90 => ?_) (fun c90 => (c90 (nI_le (Nat.le_refl _) (by omega))).elim)
      refine A_iconst ok.b (v := 0) dX7_tick_114 (by decide) ?_
      refine A_istore_n ok.b rfl dX7_tick_115 (by decide) (sts (sts1 rfl st0)) ?_
      exact L5 0 (Nat.zero_le _)
    · skip
      have e2 : (foldN (tkT (tk2 n nc cs kc X).2.1 nc) (tk2 n nc cs kc X).2.2 (k)) 2 = nI nc := (tkT_keep (by decide) k).trans b2
      have e0 : (foldN (tkT (tk2 n nc cs kc X).2.1 nc) (tk2 n nc cs kc X).2.2 (k)) 0 = nI n := (tkT_keep (by decide) k).trans b0
      have ec : ¬ (tk2 n nc cs kc X).2.1 k = 0 → Inn ((foldN (tkT (tk2 n nc cs kc X).2.1 nc) (tk2 n nc cs kc X).2.2 (k)) (96 + 4 * k)) n := by
        rw [tkT_keepC]; exact (hCK k hk).2
      rw [foldN_s] at ih
      generalize (foldN (tkT (tk2 n nc cs kc X).2.1 nc) (tk2 n nc cs kc X).2.2 (k)) = F at e2 e0 ec ih ⊢
      refine A_iload_n ok.b rfl dX7_tick_86 (gps (gps gp0)) ?_
      refine A_aload_n ok.b rfl dX7_tick_87 (gps gp0) ?_
      refine A_iconst ok.b (v := 2) dX7_tick_88 (by decide) ?_
      refine A_iald ok.b (gps (gps (gps (gps (gps gp0))))) (ix_n (j := 2) (by decide) (by decide)) dX7_tick_89 ?_
      rw [e2]
      refine A_icmp_ge ok.b (tgt := 114) dX7_tick_90 (by decide) (fun c90 => (nI_ge hk (by omega) c90).elim) (fun c90 => ?_)
      refine A_aload_n ok.b rfl dX7_tick_93 gp0 ?_
      refine A_getf ok.b cf7 19 (by decide) fl_X7_38 gp0 (gps (gps (gps (gps (gps (gps (gps (gps (gps (gps (gps (gps (gps (gps (gps (gps (gps (gps (gps gp0))))))))))))))))))) dX7_tick_94 ?_
      refine A_iload_n ok.b rfl dX7_tick_97 (gps (gps gp0)) ?_
      refine A_zald ok.b (gps (gps gp0)) (ix_n (by omega) (by decide)) dX7_tick_98 ?_
      refine A_if_eq ok.b (tgt := 108) dX7_tick_99 (by decide) (fun c99 => ?_) (fun c99 => ?_)
      · skip
        refine A_iinc ok.b (v := _ + 1) dX7_tick_108 (gps (gps gp0)) rfl (by decide) (sts (sts1 rfl st0)) ?_
        refine A_goto ok.b (tgt := 86) dX7_tick_111 (by decide) ?_
        rw [tkT, if_pos c99] at ih
        rw [nI_1]
        exact ih
      · skip
        refine A_aload_n ok.b rfl dX7_tick_102 gp0 ?_
        refine A_aload_n ok.b rfl dX7_tick_103 (gps gp0) ?_
        refine A_iload_n ok.b rfl dX7_tick_104 (gps (gps gp0)) ?_
        refine A_sameVR ok (As := [_, _]) mf_X7_turn ml_X7_253 in_X7_turn se_X7_turn cf7 gp0 (r_turn l g m q s _ _ _ _ F n nc hn hnc e0 e2 k hk (ec c99)) rfl rfl dX7_tick_105 (Nat.le_of_ble_eq_true rfl) ⟨(Nat.le_of_ble_eq_true rfl), (Nat.le_of_ble_eq_true rfl)⟩ ⟨(Nat.le_of_ble_eq_true rfl), (Nat.le_of_ble_eq_true rfl)⟩ (fun _ _ hx => hx.elim) (fun v105 w105 q105 => ?_)
        obtain ⟨rfl, rfl⟩ := q105
        refine A_iinc ok.b (v := _ + 1) dX7_tick_108 (gps (gps gp0)) rfl (by decide) (sts (sts1 rfl st0)) ?_
        refine A_goto ok.b (tgt := 86) dX7_tick_111 (by decide) ?_
        rw [tkT, if_neg c99] at ih
        rw [nI_1]
        exact ih
  have L3 : ∀ k, k ≤ n → AW g A H0 3 K 64 [some (.ref (m 0)), some (.ref q), some (.int (nI k))] [] (ttW g m q s ((smE n X.re X.d).1) ((foldN (tkV n nc) (tk1 n nc cs kc X) (k)).2.1) ((foldN (tkV n nc) (tk1 n nc cs kc X) (k)).1) (rtK X.d cs n nc kc X.sk) ((foldN (tkV n nc) (tk1 n nc cs kc X) (k)).2.2)) 0 0 := by
    refine up_ind n ?_ (fun k hk ih => ?_)
    · skip
      have e0 : (foldN (tkV n nc) (tk1 n nc cs kc X) (n)).2.2 0 = nI n := b0
      refine A_iload_n ok.b rfl dX7_tick_64 (gps (gps gp0)) ?_
      refine A_aload_n ok.b rfl dX7_tick_65 (gps gp0) ?_
      refine A_iconst ok.b (v := 0) dX7_tick_66 (by decide) ?_
      refine A_iald ok.b (gps (gps (gps (gps (gps gp0))))) (ix_n (j := 0) (by decide) (by decide)) dX7_tick_67 ?_
      rw [e0]
      refine A_icmp_ge ok.b (tgt := 84) dX7_tick_68 (by decide) (fun c68 => ?_) (fun c68 => (c68 (nI_le (Nat.le_refl _) (by omega))).elim)
      refine A_iconst ok.b (v := 0) dX7_tick_84 (by decide) ?_
      refine A_istore_n ok.b rfl dX7_tick_85 (by decide) (sts (sts1 rfl st0)) ?_
      exact L4 0 (Nat.zero_le _)
    · skip
      have e0 : (foldN (tkV n nc) (tk1 n nc cs kc X) (k)).2.2 0 = nI n := (tkV_keep (by decide) k).trans ((tkE_keep (by decide) n).trans a0)
      have e2 : (foldN (tkV n nc) (tk1 n nc cs kc X) (k)).2.2 2 = nI nc := (tkV_keep (by decide) k).trans ((tkE_keep (by decide) n).trans a2)
      rw [foldN_s] at ih
      generalize (foldN (tkV n nc) (tk1 n nc cs kc X) (k)) = F at e2 e0 ih ⊢
      refine A_iload_n ok.b rfl dX7_tick_64 (gps (gps gp0)) ?_
      refine A_aload_n ok.b rfl dX7_tick_65 (gps gp0) ?_
      refine A_iconst ok.b (v := 0) dX7_tick_66 (by decide) ?_
      refine A_iald ok.b (gps (gps (gps (gps (gps gp0))))) (ix_n (j := 0) (by decide) (by decide)) dX7_tick_67 ?_
      rw [e0]
      refine A_icmp_ge ok.b (tgt := 84) dX7_tick_68 (by decide) (fun c68 => (nI_ge hk (by omega) c68).elim) (fun c68 => ?_)
      refine A_aload_n ok.b rfl dX7_tick_71 gp0 ?_
      refine A_aload_n ok.b rfl dX7_tick_72 (gps gp0) ?_
      refine A_iload_n ok.b rfl dX7_tick_73 (gps (gps gp0)) ?_
      refine A_iconst ok.b (v := (-1)) dX7_tick_74 (by decide) ?_
      refine A_sameVR ok (As := [_, _, _]) mf_X7_driveFrom ml_X7_249 in_X7_driveFrom se_X7_driveFrom cf7 gp0 (r_driveFrom l g m q s _ _ F n nc hn hnc e0 e2 _ _) rfl rfl dX7_tick_75 (Nat.le_of_ble_eq_true rfl) ⟨(Nat.le_of_ble_eq_true rfl), (Nat.le_of_ble_eq_true rfl)⟩ ⟨(Nat.le_of_ble_eq_true rfl), (Nat.le_of_ble_eq_true rfl)⟩ (fun _ _ hx => hx.elim) (fun v75 w75 q75 => ?_)
      obtain ⟨rfl, rfl⟩ := q75
      refine A_iinc ok.b (v := _ + 1) dX7_tick_78 (gps (gps gp0)) rfl (by decide) (sts (sts1 rfl st0)) ?_
      refine A_goto ok.b (tgt := 64) dX7_tick_81 (by decide) ?_
      rw [nI_1]
      exact ih
  have L2 : ∀ k, k ≤ n → AW g A H0 3 K 45 [some (.ref (m 0)), some (.ref q), some (.int (evN n k))] [] (ttW g m q s ((smE n X.re X.d).1) ((foldN (tkE n nc) (tk0 n nc cs kc X) (k)).2.1) ((foldN (tkE n nc) (tk0 n nc cs kc X) (k)).1) (rtK X.d cs n nc kc X.sk) ((foldN (tkE n nc) (tk0 n nc cs kc X) (k)).2.2)) 0 0 := by
    refine up_ind n ?_ (fun k hk ih => ?_)
    · skip
      have en : evN n n = -1 := by rw [evN, if_neg (Nat.lt_irrefl _)]
      rw [en]
      refine A_iload_n ok.b rfl dX7_tick_45 (gps (gps gp0)) ?_
      refine A_if_lt ok.b (tgt := 62) dX7_tick_46 (by decide) (fun c46 => ?_) (fun c46 => ((show False from c46 (by decide))).elim)
      refine A_iconst ok.b (v := 0) dX7_tick_62 (by decide) ?_
      refine A_istore_n ok.b rfl dX7_tick_63 (by decide) (sts (sts1 rfl st0)) ?_
      exact L3 0 (Nat.zero_le _)
    · skip
      have e0 : (foldN (tkE n nc) (tk0 n nc cs kc X) (k)).2.2 0 = nI n := (tkE_keep (by decide) k).trans a0
      have e2 : (foldN (tkE n nc) (tk0 n nc cs kc X) (k)).2.2 2 = nI nc := (tkE_keep (by decide) k).trans a2
      rw [foldN_s] at ih
      generalize (foldN (tkE n nc) (tk0 n nc cs kc X) (k)) = F at e2 e0 ih ⊢
      rw [show evN n k = nI (n - 1 - k) by rw [evN, if_pos hk]]
      refine A_iload_n ok.b rfl dX7_tick_45 (gps (gps gp0)) ?_
      refine A_if_lt ok.b (tgt := 62) dX7_tick_46 (by decide) (fun c46 => ((nI_pos (by omega) c46)).elim) (fun c46 => ?_)
      refine A_aload_n ok.b rfl dX7_tick_49 gp0 ?_
      refine A_aload_n ok.b rfl dX7_tick_50 (gps gp0) ?_
      refine A_iload_n ok.b rfl dX7_tick_51 (gps (gps gp0)) ?_
      refine A_iconst ok.b (v := 1) dX7_tick_52 (by decide) ?_
      refine A_sameVR ok (As := [_, _, _]) mf_X7_driveFrom ml_X7_249 in_X7_driveFrom se_X7_driveFrom cf7 gp0 (r_driveFrom l g m q s _ _ F n nc hn hnc e0 e2 _ _) rfl rfl dX7_tick_53 (Nat.le_of_ble_eq_true rfl) ⟨(Nat.le_of_ble_eq_true rfl), (Nat.le_of_ble_eq_true rfl)⟩ ⟨(Nat.le_of_ble_eq_true rfl), (Nat.le_of_ble_eq_true rfl)⟩ (fun _ _ hx => hx.elim) (fun v53 w53 q53 => ?_)
      obtain ⟨rfl, rfl⟩ := q53
      refine A_iinc ok.b (v := _ + (-1)) dX7_tick_56 (gps (gps gp0)) rfl (by decide) (sts (sts1 rfl st0)) ?_
      refine A_goto ok.b (tgt := 45) dX7_tick_59 (by decide) ?_
      rw [ev_s hk]
      exact ih
  have L1 : ∀ k, k ≤ nc → AW g A H0 3 K 12 [some (.ref (m 0)), some (.ref q), some (.int (nI k))] [] (ttW g m q s ((smE n X.re X.d).1) (kI k 0 X.st) (kI k 0 X.dr) (rtK X.d cs n nc kc X.sk) (tkA n nc cs kc X)) 0 0 := by
    refine up_ind nc ?_ (fun k hk ih => ?_)
    · skip
      refine A_iload_n ok.b rfl dX7_tick_12 (gps (gps gp0)) ?_
      refine A_aload_n ok.b rfl dX7_tick_13 (gps gp0) ?_
      refine A_iconst ok.b (v := 2) dX7_tick_14 (by decide) ?_
      refine A_iald ok.b (gps (gps (gps (gps (gps gp0))))) (ix_n (j := 2) (by decide) (by decide)) dX7_tick_15 ?_
      rw [a2]
      refine A_icmp_ge ok.b (tgt := 39) dX7_tick_16 (by decide) (fun c16 => ?_) (fun c16 => (c16 (nI_le (Nat.le_refl _) (by omega))).elim)
      refine A_aload_n ok.b rfl dX7_tick_39 (gps gp0) ?_
      refine A_iconst ok.b (v := 0) dX7_tick_40 (by decide) ?_
      refine A_iald ok.b (gps (gps (gps (gps (gps gp0))))) (ix_n (j := 0) (by decide) (by decide)) dX7_tick_41 ?_
      rw [a0]
      refine A_iconst ok.b (v := 1) dX7_tick_42 (by decide) ?_
      refine A_isub ok.b dX7_tick_43 ?_
      refine A_istore_n ok.b rfl dX7_tick_44 (by decide) (sts (sts1 rfl st0)) ?_
      rw [ev_0]
      exact L2 0 (Nat.zero_le _)
    · skip
      refine A_iload_n ok.b rfl dX7_tick_12 (gps (gps gp0)) ?_
      refine A_aload_n ok.b rfl dX7_tick_13 (gps gp0) ?_
      refine A_iconst ok.b (v := 2) dX7_tick_14 (by decide) ?_
      refine A_iald ok.b (gps (gps (gps (gps (gps gp0))))) (ix_n (j := 2) (by decide) (by decide)) dX7_tick_15 ?_
      rw [a2]
      refine A_icmp_ge ok.b (tgt := 39) dX7_tick_16 (by decide) (fun c16 => (nI_ge hk (by omega) c16).elim) (fun c16 => ?_)
      refine A_aload_n ok.b rfl dX7_tick_19 gp0 ?_
      refine A_getf ok.b cf7 20 (by decide) fl_X7_42 gp0 (gps (gps (gps (gps (gps (gps (gps (gps (gps (gps (gps (gps (gps (gps (gps (gps (gps (gps (gps (gps gp0)))))))))))))))))))) dX7_tick_20 ?_
      refine A_iload_n ok.b rfl dX7_tick_23 (gps (gps gp0)) ?_
      refine A_iconst ok.b (v := 0) dX7_tick_24 (by decide) ?_
      refine A_zast ok.b (gps (gps (gps gp0))) (ix_n (by omega) (by decide)) (wps (wps (wps wp0))) dX7_tick_25 ?_
      refine A_aload_n ok.b rfl dX7_tick_26 gp0 ?_
      refine A_getf ok.b cf7 19 (by decide) fl_X7_38 gp0 (gps (gps (gps (gps (gps (gps (gps (gps (gps (gps (gps (gps (gps (gps (gps (gps (gps (gps (gps gp0))))))))))))))))))) dX7_tick_27 ?_
      refine A_iload_n ok.b rfl dX7_tick_30 (gps (gps gp0)) ?_
      refine A_iconst ok.b (v := 0) dX7_tick_31 (by decide) ?_
      refine A_zast ok.b (gps (gps gp0)) (ix_n (by omega) (by decide)) (wps (wps wp0)) dX7_tick_32 ?_
      refine A_iinc ok.b (v := _ + 1) dX7_tick_33 (gps (gps gp0)) rfl (by decide) (sts (sts1 rfl st0)) ?_
      refine A_goto ok.b (tgt := 12) dX7_tick_36 (by decide) ?_
      rw [nI_1]
      refine A_ext (ws2 := (ttW g m q s ((smE n X.re X.d).1) (kI (k + 1) 0 X.st) (kI (k + 1) 0 X.dr) (rtK X.d cs n nc kc X.sk) (tkA n nc cs kc X))) (weqs (weqs (weqc (ceq_i (fun j _ => kI_s j)) (weqc (ceq_i (fun j _ => kI_s j)) (weqs (weqs weq0)))))) ?_
      exact ih
  refine A_aload_n ok.b rfl dX7_tick_0 gp0 ?_
  refine A_aload_n ok.b rfl dX7_tick_1 (gps gp0) ?_
  refine A_aload_n ok.b rfl dX7_tick_2 gp0 ?_
  refine A_aload_n ok.b rfl dX7_tick_3 (gps gp0) ?_
  refine A_sameVR ok (As := [_]) mf_X7_rateOf ml_X7_231 in_X7_rateOf se_X7_rateOf cf7 gp0 (r_rateOf l g m q s X.re X.st X.dr X.sk X.d n nc hn hnc hT.1 hT.2.1 cs kc hT.2.2.2.2) rfl rfl dX7_tick_4 (Nat.le_of_ble_eq_true rfl) ⟨(Nat.le_of_ble_eq_true rfl), (Nat.le_of_ble_eq_true rfl)⟩ ⟨(Nat.le_of_ble_eq_true rfl), (Nat.le_of_ble_eq_true rfl)⟩ (fun _ _ hx => hx.elim) (fun v4 w4 q4 => ?_)
  obtain ⟨rfl, rfl⟩ := q4
  refine A_sameVR ok (As := [_, _]) mf_X7_smoulder ml_X7_246 in_X7_smoulder se_X7_smoulder cf7 gp0 (r_smoulder l g m q s X.re X.st X.dr (rtK X.d cs n nc kc X.sk) X.d n nc hn hnc hT.1 hT.2.1 hT.2.2.1 _) rfl rfl dX7_tick_7 (Nat.le_of_ble_eq_true rfl) ⟨(Nat.le_of_ble_eq_true rfl), (Nat.le_of_ble_eq_true rfl)⟩ ⟨(Nat.le_of_ble_eq_true rfl), (Nat.le_of_ble_eq_true rfl)⟩ (fun _ _ hx => hx.elim) (fun v7 w7 q7 => ?_)
  obtain ⟨rfl, rfl⟩ := q7
  refine A_iconst ok.b (v := 0) dX7_tick_10 (by decide) ?_
  refine A_istore_n ok.b rfl dX7_tick_11 (by decide) (sts (sts1 rfl st0)) ?_
  refine A_ext (ws2 := (ttW g m q s ((smE n X.re X.d).1) (kI 0 0 X.st) (kI 0 0 X.dr) (rtK X.d cs n nc kc X.sk) (tkA n nc cs kc X))) (weqs (weqs (weqc (ceq_i (fun j _ => kI_0 j)) (weqc (ceq_i (fun j _ => kI_0 j)) (weqs (weqs weq0)))))) ?_
  exact L1 0 (Nat.zero_le _)
