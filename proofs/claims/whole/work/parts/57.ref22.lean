theorem nI_half {k : Nat} (h : k < 2 ^ 31) : nI k / 2 = nI (k / 2) := by
  refine Int32.toInt_inj.mp ?_
  rw [Int32.toInt_div, nI_toInt h, nI_toInt (show k / 2 < 2 ^ 31 by omega)]
  show (Int.tdiv (k : Int) (2 : Int32).toInt).bmod _ = _
  rw [show (2 : Int32).toInt = 2 from by decide, Int.tdiv_eq_ediv_of_nonneg (by omega)]
  rw [Int.bmod_eq_of_le (by omega) (by omega)]
  omega
/-- how many ones -/
def onN : Nat → Nat → Nat
  | 0, _ => 0
  | f + 1, k => if k = 0 then 0 else k % 2 + onN f (k / 2)
theorem rem2 {k : Nat} (h : k < 2 ^ 31) : nI k - nI k / 2 * 2 = nI (k % 2) := by
  have e : nI k / 2 = nI (k / 2) := nI_half h
  rw [e, show (2 : Int32) = nI 2 from rfl, pk_mul, pk_sub (by omega), show k - k / 2 * 2 = k % 2 by omega]
theorem r_ones (l : Launch) (g : Gl) (v : Nat) (hv : v < 4096) : Ct l g yX7_ones cX7_ones 3 (some .int) 0 0 0 0 [.int (nI v)] [] (fun v9 w => v9 = some (.int (nI (onN 13 v))) ∧ w = []) noX := by
  refine Ct.intro [some (.int (nI v)), none, none] (by decide +kernel) (fun _ h => h) (Nat.le_of_ble_eq_true rfl) (fun A H0 K ok => ?_)
  have L : ∀ (f a k : Nat), k < 2 ^ f → f ≤ 12 → a + onN (f + 1) k = onN 13 v → AW g A H0 3 K 4 [some (.int (nI v)), some (.int (nI a)), some (.int (nI k))] [] [] 0 0 := by
    intro f
    induction f with
    | zero =>
      intro a k hk hf e
      have hk0 : k = 0 := by omega
      subst hk0
      refine A_iload_n ok.b rfl dX7_ones_4 (gps (gps gp0)) ?_
      refine A_if_le ok.b (tgt := 21) dX7_ones_5 (by decide) (fun c5 => ?_) (fun c5 => ((show False from c5 (by decide))).elim)
      refine A_iload_n ok.b rfl dX7_ones_21 (gps gp0) ?_
      refine A_iret ok dX7_ones_22 (Nat.le_of_ble_eq_true rfl) (Nat.le_of_ble_eq_true rfl) ?_
      have e2 : a = onN 13 v := e
      exact ⟨by rw [e2], rfl⟩
    | succ f ih =>
      intro a k hk hf e
      have hk31 : k < 2 ^ 31 := Nat.lt_of_lt_of_le hk (Nat.pow_le_pow_right (by decide) (by omega))
      by_cases hk0 : k = 0
      · subst hk0
        refine A_iload_n ok.b rfl dX7_ones_4 (gps (gps gp0)) ?_
        refine A_if_le ok.b (tgt := 21) dX7_ones_5 (by decide) (fun c5 => ?_) (fun c5 => ((show False from c5 (by decide))).elim)
        refine A_iload_n ok.b rfl dX7_ones_21 (gps gp0) ?_
        refine A_iret ok dX7_ones_22 (Nat.le_of_ble_eq_true rfl) (Nat.le_of_ble_eq_true rfl) ?_
        have e2 : a = onN 13 v := e
        exact ⟨by rw [e2], rfl⟩
      · rw [onN, if_neg hk0] at e
        refine A_iload_n ok.b rfl dX7_ones_4 (gps (gps gp0)) ?_
        refine A_if_le ok.b (tgt := 21) dX7_ones_5 (by decide) (fun c5 => ((show False from nI_nle (by omega) hk31 c5)).elim) (fun c5 => ?_)
        refine A_iload_n ok.b rfl dX7_ones_8 (gps gp0) ?_
        refine A_iload_n ok.b rfl dX7_ones_9 (gps (gps gp0)) ?_
        refine A_iconst ok.b (v := 2) dX7_ones_10 (by decide) ?_
        refine A_irem ok.b dX7_ones_11 (by decide) ?_
        rw [rem2 hk31]
        refine A_iadd ok.b dX7_ones_12 ?_
        rw [nI_add]
        refine A_istore_n ok.b rfl dX7_ones_13 (by decide) (sts1 rfl st0) ?_
        refine A_iload_n ok.b rfl dX7_ones_14 (gps (gps gp0)) ?_
        refine A_iconst ok.b (v := 2) dX7_ones_15 (by decide) ?_
        refine A_idiv ok.b dX7_ones_16 (by decide) ?_
        rw [nI_half hk31]
        refine A_istore_n ok.b rfl dX7_ones_17 (by decide) (sts (sts1 rfl st0)) ?_
        refine A_goto ok.b (tgt := 4) dX7_ones_18 (by decide) ?_
        exact ih (a + k % 2) (k / 2) (by rw [Nat.pow_succ] at hk; omega) (by omega) (by omega)
  refine A_iconst ok.b (v := 0) dX7_ones_0 (by decide) ?_
  refine A_istore_n ok.b rfl dX7_ones_1 (by decide) (sts1 rfl st0) ?_
  refine A_iload_n ok.b rfl dX7_ones_2 gp0 ?_
  refine A_istore_n ok.b rfl dX7_ones_3 (by decide) (sts (sts1 rfl st0)) ?_
  exact L 12 0 v (Nat.lt_of_lt_of_le hv (by decide)) (Nat.le_refl _) (by rw [Nat.zero_add])
/-- whether the set has bays alone -/
def arR (d : Nat → Int32) (v : Nat) : Nat → Int32
  | 0 => 1
  | k + 1 => if (nI v >>> (nI k &&& 31)) &&& 1 = 1 then (if 0 ≤ d (12 + 7 * k + 4) then arR d v k else 0) else arR d v k
/-- the bays open as the set says -/
def opS2 (d : Nat → Int32) (v s : Nat) (f : Nat → Int32) : Nat → Int32 := if d (12 + 7 * s + 4) < 0 then f else upd f (12 + 7 * s + 4) ((nI v >>> (nI s &&& 31)) &&& 1)
theorem opS2_keep {d : Nat → Int32} {v : Nat} {f : Nat → Int32} {j : Nat} (hj : j < 12 ∨ 96 ≤ j) : ∀ k, k ≤ 12 → foldN (opS2 d v) f k j = f j
  | 0, _ => rfl
  | k + 1, h => by
    rw [foldN_s]
    unfold opS2
    split
    · exact opS2_keep hj k (by omega)
    · rw [upd_at, if_neg (by omega)]; exact opS2_keep hj k (by omega)
/-- the best set so far, its time, the cells: one set tried -/
def fbT (n nc : Nat) (cs : Nat → Int32) (kc : Nat) (d : Nat → Int32) (v : Nat) (X : TS) : Int32 × TS := clF n nc cs kc 201 0 (X.wd (foldN (opS2 d v) d n))
def fbR (n nc : Nat) (cs : Nat → Int32) (kc : Nat) (d : Nat → Int32) (v : Nat) (S : Int32 × Int32 × TS) : Int32 × Int32 × TS :=
  if arR d v n = 0 then S
  else if (fbT n nc cs kc d v S.2.2).1 < 0 then (S.1, S.2.1, (fbT n nc cs kc d v S.2.2).2)
  else if 0 ≤ S.1 ∧ (S.2.1 < (fbT n nc cs kc d v S.2.2).1 ∨ ((fbT n nc cs kc d v S.2.2).1 = S.2.1 ∧ ¬ nI (onN 13 v) < nI (onN 13 S.1.toNatClampNeg))) then (S.1, S.2.1, (fbT n nc cs kc d v S.2.2).2)
  else (nI v, (fbT n nc cs kc d v S.2.2).1, (fbT n nc cs kc d v S.2.2).2)
def fbF (n nc : Nat) (cs : Nat → Int32) (kc : Nat) (d : Nat → Int32) (X : TS) (k : Nat) : Int32 × Int32 × TS := foldN (fbR n nc cs kc d) (-1, -1, X) k
theorem fb_in {n nc : Nat} {cs : Nat → Int32} {kc : Nat} {d : Nat → Int32} {X : TS} : ∀ k, k ≤ 4096 → (fbF n nc cs kc d X k).1 < 0 ∨ ∃ v, v < 4096 ∧ (fbF n nc cs kc d X k).1 = nI v
  | 0, _ => Or.inl (by show (-1 : Int32) < 0; decide)
  | k + 1, h => by
    have ih := fb_in (n := n) (nc := nc) (cs := cs) (kc := kc) (d := d) (X := X) k (by omega)
    rw [fbF, foldN_s, ← fbF]
    generalize fbF n nc cs kc d X k = S at ih ⊢
    unfold fbR
    split
    · exact ih
    · split
      · exact ih
      · split
        · exact ih
        · exact Or.inr ⟨k, by omega, rfl⟩
theorem ar_01 {d : Nat → Int32} {v : Nat} : ∀ k, arR d v k = 0 ∨ arR d v k = 1
  | 0 => Or.inr rfl
  | k + 1 => by
    rw [arR]
    split
    · split
      · exact ar_01 k
      · exact Or.inl rfl
    · exact ar_01 k
theorem pow_sh : ∀ n, n < 13 → (1 : Int32) <<< (nI n &&& 31) = nI (2 ^ n) := by decide
def FBs (s : MS) (S : Int32 × Int32 × TS) : MS := (s.wbs S.1).wbt S.2.1
set_option maxRecDepth 20000 in
set_option maxHeartbeats 2000000 in
theorem r_findBays (l : Launch) (g : Gl) (m : Nat → Nat) (s : MS) (X : TS) (d : Nat → Int32) (n nc : Nat) (hn : n ≤ 12) (hnc : nc ≤ 20) (cs : Nat → Int32) (kc : Nat) (hT : TKd n nc cs kc d) : Ct l g yX7_findBays cX7_findBays 4 none 6 300 0 0 [.ref (m 0)] (fuW g m (s) (X) (d)) (fun v w => v = none ∧ w = (fuW g m (FBs s (fbF n nc cs kc d X (2 ^ n))) ((fbF n nc cs kc d X (2 ^ n)).2.2) (d))) noX := by
  refine Ct.intro [some (.ref (m 0)), none, none, none] (by decide +kernel) (fun _ h => h) (Nat.le_of_ble_eq_true rfl) (fun A H0 K ok => ?_)
  have hp : (1 : Int32) <<< (nI n &&& 31) = nI (2 ^ n) := pow_sh n (by omega)
  have h2n : 2 ^ n ≤ 4096 := Nat.pow_le_pow_right (n := 2) (i := n) (j := 12) (by decide) hn
  have LK : ∀ k, k ≤ 2 ^ n → AW g A H0 4 K 12 [some (.ref (m 0)), some (.int (nI (k))), none, none] [] (fuW g m (FBs s (fbF n nc cs kc d X (k))) ((fbF n nc cs kc d X (k)).2.2) (d)) 0 0 := by
    refine up_ind (2 ^ n) ?_ (fun k hk ih => ?_)
    · skip
      refine A_iload_n ok.b rfl dX7_findBays_12 (gps gp0) ?_
      refine A_iconst ok.b (v := 1) dX7_findBays_13 (by decide) ?_
      refine A_aload_n ok.b rfl dX7_findBays_14 gp0 ?_
      refine A_getf ok.b cf7 8 (by decide) fl_X7_17 gp0 (gps (gps (gps (gps (gps (gps (gps (gps gp0)))))))) dX7_findBays_15 ?_
      refine A_iconst ok.b (v := 0) dX7_findBays_18 (by decide) ?_
      refine A_iald ok.b (gps (gps (gps (gps (gps (gps gp0)))))) (ix_n (j := 0) (by decide) (by decide)) dX7_findBays_19 ?_
      rw [hT.1]
      refine A_ishl ok.b dX7_findBays_20 ?_
      rw [hp]
      refine A_icmp_ge ok.b (tgt := 203) dX7_findBays_21 (by decide) (fun c21 => ?_) (fun c21 => ((show False from c21 (nI_le (Nat.le_refl _) (by omega)))).elim)
      refine A_vret ok dX7_findBays_203 (Nat.le_of_ble_eq_true rfl) (Nat.le_of_ble_eq_true rfl) ?_
      exact ⟨rfl, rfl⟩
    · have hin := fb_in (n := n) (nc := nc) (cs := cs) (kc := kc) (d := d) (X := X) k (by omega)
      rw [fbF, foldN_s, ← fbF] at ih
      generalize fbF n nc cs kc d X k = S at hin ih ⊢
      have hTX : TKd n nc cs kc (foldN (opS2 d k) d n) := TKd_of hT (fun j hj => opS2_keep hj n hn)
      have LO : arR d k n = 1 → ∀ c, c ≤ n → AW g A H0 4 K 89 [some (.ref (m 0)), some (.int (nI k)), some (.int 1), some (.int (nI c))] [] (fuW g m (FBs s (S)) (S.2.2.wd (foldN (opS2 d k) d c)) (d)) 0 0 := by
        intro har
        refine up_ind n ?_ (fun c hc ihc => ?_)
        · rw [fbR, if_neg (by rw [har]; decide)] at ih
          have eT : fbT n nc cs kc d k S.2.2 = clF n nc cs kc 201 0 (S.2.2.wd (foldN (opS2 d k) d n)) := rfl
          rw [eT] at ih
          refine A_iload_n ok.b rfl dX7_findBays_89 (gps (gps (gps gp0))) ?_
          refine A_aload_n ok.b rfl dX7_findBays_90 gp0 ?_
          refine A_getf ok.b cf7 8 (by decide) fl_X7_17 gp0 (gps (gps (gps (gps (gps (gps (gps (gps gp0)))))))) dX7_findBays_91 ?_
          refine A_iconst ok.b (v := 0) dX7_findBays_94 (by decide) ?_
          refine A_iald ok.b (gps (gps (gps (gps (gps (gps gp0)))))) (ix_n (j := 0) (by decide) (by decide)) dX7_findBays_95 ?_
          rw [hT.1]
          refine A_icmp_ge ok.b (tgt := 135) dX7_findBays_96 (by decide) (fun c96 => ?_) (fun c96 => ((show False from c96 (nI_le (Nat.le_refl _) (by omega)))).elim)
          refine A_aload_n ok.b rfl dX7_findBays_135 gp0 ?_
          refine A_sipush ok.b (v := 200) dX7_findBays_136 (by decide) ?_
          refine A_callVR ok [0, 1, 2, 3, 4, 5] [6] (As := [_]) (wr := ([(m 2, .inl (g.2.1 0, 1476, .inl d))] : va_W)) mf_X7_clears ml_X7_275 in_X7_clears se_X7_clears cf7 gp0 (r_clears l g m (FBs s S) (S.2.2.wd (foldN (opS2 d k) d n)) n nc hn hnc cs kc hTX 200 (by decide)) rfl rfl rfl dX7_findBays_139 rfl rfl rfl (by decide) (Nat.le_of_ble_eq_true rfl) ⟨(Nat.le_of_ble_eq_true rfl), (Nat.le_of_ble_eq_true rfl)⟩ ⟨(Nat.le_of_ble_eq_true rfl), (Nat.le_of_ble_eq_true rfl)⟩ (fun _ _ hx => hx.elim) (fun v139 w139 q139 => ?_)
          obtain ⟨rfl, rfl⟩ := q139
          rw [show clF n nc cs kc (200 + 1) 0 (S.2.2.wd (foldN (opS2 d k) d n)) = clF n nc cs kc 201 0 (S.2.2.wd (foldN (opS2 d k) d n)) from rfl]
          generalize clF n nc cs kc 201 0 (S.2.2.wd (foldN (opS2 d k) d n)) = C at ih ⊢
          refine A_sub [1, 2, 3, 4, 5, 6, 0] (ws2 := (fuW g m (FBs s (S)) (C.2) (d))) rfl rfl ?_
          refine A_istore_n ok.b rfl dX7_findBays_142 (by decide) (sts (sts (sts1 rfl st0))) ?_
          refine A_iload_n ok.b rfl dX7_findBays_143 (gps (gps (gps gp0))) ?_
          refine A_if_lt ok.b (tgt := 197) dX7_findBays_144 (by decide) (fun c144 => ?_) (fun c144 => ?_)
          · skip
            refine A_iinc ok.b (v := _ + 1) dX7_findBays_197 (gps gp0) rfl (by decide) (sts1 rfl st0) ?_
            refine A_goto ok.b (tgt := 12) dX7_findBays_200 (by decide) ?_
            refine A_lv (lleK (lleK (lleD (lleD lle0)))) ?_
            rw [if_pos c144] at ih
            rw [nI_1]
            exact ih
          · skip
            refine A_aload_n ok.b rfl dX7_findBays_147 gp0 ?_
            refine A_getf ok.b cf7 21 (by decide) fl_X7_278 gp0 (gps (gps (gps (gps (gps (gps (gps (gps (gps (gps (gps (gps (gps (gps (gps (gps (gps (gps (gps (gps (gps gp0))))))))))))))))))))) dX7_findBays_148 ?_
            refine A_if_lt ok.b (tgt := 187) dX7_findBays_151 (by decide) (fun c151 => ?_) (fun c151 => ?_)
            · skip
              refine A_aload_n ok.b rfl dX7_findBays_187 gp0 ?_
              refine A_iload_n ok.b rfl dX7_findBays_188 (gps gp0) ?_
              refine A_putf ok.b cf7 21 (by decide) rfl fl_X7_278 gp0 rfl rfl (gp_lt (gps (gps (gps (gps (gps (gps (gps (gps (gps (gps (gps (gps (gps (gps (gps (gps (gps (gps (gps (gps (gps gp0)))))))))))))))))))))) (wps (wps (wps (wps (wps (wps (wps (wps (wps (wps (wps (wps (wps (wps (wps (wps (wps (wps (wps (wps (wps wp0))))))))))))))))))))) wp0 dX7_findBays_189 ?_
              refine A_aload_n ok.b rfl dX7_findBays_192 gp0 ?_
              refine A_iload_n ok.b rfl dX7_findBays_193 (gps (gps (gps gp0))) ?_
              refine A_putf ok.b cf7 22 (by decide) rfl fl_X7_281 gp0 rfl rfl (gp_lt (gps (gps (gps (gps (gps (gps (gps (gps (gps (gps (gps (gps (gps (gps (gps (gps (gps (gps (gps (gps (gps (gps gp0))))))))))))))))))))))) (wps (wps (wps (wps (wps (wps (wps (wps (wps (wps (wps (wps (wps (wps (wps (wps (wps (wps (wps (wps (wps (wps wp0)))))))))))))))))))))) wp0 dX7_findBays_194 ?_
              refine A_iinc ok.b (v := _ + 1) dX7_findBays_197 (gps gp0) rfl (by decide) (sts1 rfl st0) ?_
              refine A_goto ok.b (tgt := 12) dX7_findBays_200 (by decide) ?_
              refine A_lv (lleK (lleK (lleD (lleD lle0)))) ?_
              rw [if_neg c144, if_neg (fun h => absurd c151 (Int32.not_lt.mpr h.1))] at ih
              rw [nI_1]
              exact ih
            · skip
              obtain ⟨v9, hv9, e9⟩ := hin.resolve_left c151
              refine A_iload_n ok.b rfl dX7_findBays_154 (gps (gps (gps gp0))) ?_
              refine A_aload_n ok.b rfl dX7_findBays_155 gp0 ?_
              refine A_getf ok.b cf7 22 (by decide) fl_X7_281 gp0 (gps (gps (gps (gps (gps (gps (gps (gps (gps (gps (gps (gps (gps (gps (gps (gps (gps (gps (gps (gps (gps (gps gp0)))))))))))))))))))))) dX7_findBays_156 ?_
              refine A_icmp_gt ok.b (tgt := 197) dX7_findBays_159 (by decide) (fun c159 => ?_) (fun c159 => ?_)
              · skip
                refine A_iinc ok.b (v := _ + 1) dX7_findBays_197 (gps gp0) rfl (by decide) (sts1 rfl st0) ?_
                refine A_goto ok.b (tgt := 12) dX7_findBays_200 (by decide) ?_
                refine A_lv (lleK (lleK (lleD (lleD lle0)))) ?_
                rw [if_neg c144, if_pos ⟨Int32.not_lt.mp c151, Or.inl c159⟩] at ih
                rw [nI_1]
                exact ih
              · skip
                refine A_iload_n ok.b rfl dX7_findBays_162 (gps (gps (gps gp0))) ?_
                refine A_aload_n ok.b rfl dX7_findBays_163 gp0 ?_
                refine A_getf ok.b cf7 22 (by decide) fl_X7_281 gp0 (gps (gps (gps (gps (gps (gps (gps (gps (gps (gps (gps (gps (gps (gps (gps (gps (gps (gps (gps (gps (gps (gps gp0)))))))))))))))))))))) dX7_findBays_164 ?_
                refine A_icmp_ne ok.b (tgt := 187) dX7_findBays_167 (by decide) (fun c167 => ?_) (fun c167 => ?_)
                · skip
                  refine A_aload_n ok.b rfl dX7_findBays_187 gp0 ?_
                  refine A_iload_n ok.b rfl dX7_findBays_188 (gps gp0) ?_
                  refine A_putf ok.b cf7 21 (by decide) rfl fl_X7_278 gp0 rfl rfl (gp_lt (gps (gps (gps (gps (gps (gps (gps (gps (gps (gps (gps (gps (gps (gps (gps (gps (gps (gps (gps (gps (gps gp0)))))))))))))))))))))) (wps (wps (wps (wps (wps (wps (wps (wps (wps (wps (wps (wps (wps (wps (wps (wps (wps (wps (wps (wps (wps wp0))))))))))))))))))))) wp0 dX7_findBays_189 ?_
                  refine A_aload_n ok.b rfl dX7_findBays_192 gp0 ?_
                  refine A_iload_n ok.b rfl dX7_findBays_193 (gps (gps (gps gp0))) ?_
                  refine A_putf ok.b cf7 22 (by decide) rfl fl_X7_281 gp0 rfl rfl (gp_lt (gps (gps (gps (gps (gps (gps (gps (gps (gps (gps (gps (gps (gps (gps (gps (gps (gps (gps (gps (gps (gps (gps gp0))))))))))))))))))))))) (wps (wps (wps (wps (wps (wps (wps (wps (wps (wps (wps (wps (wps (wps (wps (wps (wps (wps (wps (wps (wps (wps wp0)))))))))))))))))))))) wp0 dX7_findBays_194 ?_
                  refine A_iinc ok.b (v := _ + 1) dX7_findBays_197 (gps gp0) rfl (by decide) (sts1 rfl st0) ?_
                  refine A_goto ok.b (tgt := 12) dX7_findBays_200 (by decide) ?_
                  refine A_lv (lleK (lleK (lleD (lleD lle0)))) ?_
                  rw [if_neg c144, if_neg (fun h => h.2.elim c159 (fun h2 => c167 h2.1))] at ih
                  rw [nI_1]
                  exact ih
                · skip
                  refine A_iload_n ok.b rfl dX7_findBays_170 (gps gp0) ?_
                  refine A_pureS ok.b (As := [_]) mf_X7_ones ml_X7_284 rfl sc_X7_ones (r_ones l g k (by omega)) rfl rfl dX7_findBays_171 (Nat.le_of_ble_eq_true rfl) ⟨(Nat.le_of_ble_eq_true rfl), (Nat.le_of_ble_eq_true rfl)⟩ ⟨(Nat.le_of_ble_eq_true rfl), (Nat.le_of_ble_eq_true rfl)⟩ ?_
                  refine A_aload_n ok.b rfl dX7_findBays_174 gp0 ?_
                  refine A_getf ok.b cf7 21 (by decide) fl_X7_278 gp0 (gps (gps (gps (gps (gps (gps (gps (gps (gps (gps (gps (gps (gps (gps (gps (gps (gps (gps (gps (gps (gps gp0))))))))))))))))))))) dX7_findBays_175 ?_
                  rw [show (FBs s S).bs = S.1 from rfl, e9]
                  refine A_pureS ok.b (As := [_]) mf_X7_ones ml_X7_284 rfl sc_X7_ones (r_ones l g v9 hv9) rfl rfl dX7_findBays_178 (Nat.le_of_ble_eq_true rfl) ⟨(Nat.le_of_ble_eq_true rfl), (Nat.le_of_ble_eq_true rfl)⟩ ⟨(Nat.le_of_ble_eq_true rfl), (Nat.le_of_ble_eq_true rfl)⟩ ?_
                  refine A_icmp_lt ok.b (tgt := 187) dX7_findBays_181 (by decide) (fun c181 => ?_) (fun c181 => ?_)
                  · skip
                    refine A_aload_n ok.b rfl dX7_findBays_187 gp0 ?_
                    refine A_iload_n ok.b rfl dX7_findBays_188 (gps gp0) ?_
                    refine A_putf ok.b cf7 21 (by decide) rfl fl_X7_278 gp0 rfl rfl (gp_lt (gps (gps (gps (gps (gps (gps (gps (gps (gps (gps (gps (gps (gps (gps (gps (gps (gps (gps (gps (gps (gps gp0)))))))))))))))))))))) (wps (wps (wps (wps (wps (wps (wps (wps (wps (wps (wps (wps (wps (wps (wps (wps (wps (wps (wps (wps (wps wp0))))))))))))))))))))) wp0 dX7_findBays_189 ?_
                    refine A_aload_n ok.b rfl dX7_findBays_192 gp0 ?_
                    refine A_iload_n ok.b rfl dX7_findBays_193 (gps (gps (gps gp0))) ?_
                    refine A_putf ok.b cf7 22 (by decide) rfl fl_X7_281 gp0 rfl rfl (gp_lt (gps (gps (gps (gps (gps (gps (gps (gps (gps (gps (gps (gps (gps (gps (gps (gps (gps (gps (gps (gps (gps (gps gp0))))))))))))))))))))))) (wps (wps (wps (wps (wps (wps (wps (wps (wps (wps (wps (wps (wps (wps (wps (wps (wps (wps (wps (wps (wps (wps wp0)))))))))))))))))))))) wp0 dX7_findBays_194 ?_
                    refine A_iinc ok.b (v := _ + 1) dX7_findBays_197 (gps gp0) rfl (by decide) (sts1 rfl st0) ?_
                    refine A_goto ok.b (tgt := 12) dX7_findBays_200 (by decide) ?_
                    refine A_lv (lleK (lleK (lleD (lleD lle0)))) ?_
                    rw [if_neg c144, if_neg (fun h => h.2.elim c159 (fun h2 => h2.2 (by rw [e9, nI_clamp (by omega)]; exact c181)))] at ih
                    rw [nI_1]
                    exact ih
                  · skip
                    refine A_goto ok.b (tgt := 197) dX7_findBays_184 (by decide) ?_
                    refine A_iinc ok.b (v := _ + 1) dX7_findBays_197 (gps gp0) rfl (by decide) (sts1 rfl st0) ?_
                    refine A_goto ok.b (tgt := 12) dX7_findBays_200 (by decide) ?_
                    refine A_lv (lleK (lleK (lleD (lleD lle0)))) ?_
                    rw [if_neg c144, if_pos ⟨Int32.not_lt.mp c151, Or.inr ⟨c167, by rw [e9, nI_clamp (by omega)]; exact c181⟩⟩] at ih
                    rw [nI_1]
                    exact ih
        · rw [foldN_s, opS2] at ihc
          refine A_iload_n ok.b rfl dX7_findBays_89 (gps (gps (gps gp0))) ?_
          refine A_aload_n ok.b rfl dX7_findBays_90 gp0 ?_
          refine A_getf ok.b cf7 8 (by decide) fl_X7_17 gp0 (gps (gps (gps (gps (gps (gps (gps (gps gp0)))))))) dX7_findBays_91 ?_
          refine A_iconst ok.b (v := 0) dX7_findBays_94 (by decide) ?_
          refine A_iald ok.b (gps (gps (gps (gps (gps (gps gp0)))))) (ix_n (j := 0) (by decide) (by decide)) dX7_findBays_95 ?_
          rw [hT.1]
          refine A_icmp_ge ok.b (tgt := 135) dX7_findBays_96 (by decide) (fun c96 => ((show False from nI_ge hc (by omega) c96)).elim) (fun c96 => ?_)
          refine A_aload_n ok.b rfl dX7_findBays_99 gp0 ?_
          refine A_getf ok.b cf7 8 (by decide) fl_X7_17 gp0 (gps (gps (gps (gps (gps (gps (gps (gps gp0)))))))) dX7_findBays_100 ?_
          refine A_iload_n ok.b rfl dX7_findBays_103 (gps (gps (gps gp0))) ?_
          refine A_pureS ok.b (As := [_]) mf_X7_section ml_X7_143 rfl sc_X7_section (r_section l g _) rfl rfl dX7_findBays_104 (Nat.le_of_ble_eq_true rfl) ⟨(Nat.le_of_ble_eq_true rfl), (Nat.le_of_ble_eq_true rfl)⟩ ⟨(Nat.le_of_ble_eq_true rfl), (Nat.le_of_ble_eq_true rfl)⟩ ?_
          rw [sec_n (by omega)]
          refine A_iconst ok.b (v := 4) dX7_findBays_107 (by decide) ?_
          refine A_iadd ok.b dX7_findBays_108 ?_
          rw [show nI (12 + 7 * c) + 4 = nI (12 + 7 * c + 4) from nI_add _ 4]
          refine A_iald ok.b (gps (gps (gps (gps (gps (gps gp0)))))) (ix_n (by omega) (by decide)) dX7_findBays_109 ?_
          refine A_if_lt ok.b (tgt := 129) dX7_findBays_110 (by decide) (fun c110 => ?_) (fun c110 => ?_)
          · skip
            refine A_iinc ok.b (v := _ + 1) dX7_findBays_129 (gps (gps (gps gp0))) rfl (by decide) (sts (sts (sts1 rfl st0))) ?_
            refine A_goto ok.b (tgt := 89) dX7_findBays_132 (by decide) ?_
            rw [if_pos c110] at ihc
            rw [nI_1]
            exact ihc
          · skip
            refine A_aload_n ok.b rfl dX7_findBays_113 gp0 ?_
            refine A_getf ok.b cf7 10 (by decide) fl_X7_23 gp0 (gps (gps (gps (gps (gps (gps (gps (gps (gps (gps gp0)))))))))) dX7_findBays_114 ?_
            refine A_iload_n ok.b rfl dX7_findBays_117 (gps (gps (gps gp0))) ?_
            refine A_pureS ok.b (As := [_]) mf_X7_section ml_X7_143 rfl sc_X7_section (r_section l g _) rfl rfl dX7_findBays_118 (Nat.le_of_ble_eq_true rfl) ⟨(Nat.le_of_ble_eq_true rfl), (Nat.le_of_ble_eq_true rfl)⟩ ⟨(Nat.le_of_ble_eq_true rfl), (Nat.le_of_ble_eq_true rfl)⟩ ?_
            rw [sec_n (by omega)]
            refine A_iconst ok.b (v := 4) dX7_findBays_121 (by decide) ?_
            refine A_iadd ok.b dX7_findBays_122 ?_
            rw [show nI (12 + 7 * c) + 4 = nI (12 + 7 * c + 4) from nI_add _ 4]
            refine A_iload_n ok.b rfl dX7_findBays_123 (gps gp0) ?_
            refine A_iload_n ok.b rfl dX7_findBays_124 (gps (gps (gps gp0))) ?_
            refine A_ishr ok.b dX7_findBays_125 ?_
            refine A_iconst ok.b (v := 1) dX7_findBays_126 (by decide) ?_
            refine A_iand ok.b dX7_findBays_127 ?_
            refine A_iast ok.b (gps (gps (gps (gps (gps gp0))))) (ix_n (by omega) (by decide)) (wps (wps (wps (wps (wps wp0))))) dX7_findBays_128 ?_
            refine A_iinc ok.b (v := _ + 1) dX7_findBays_129 (gps (gps (gps gp0))) rfl (by decide) (sts (sts (sts1 rfl st0))) ?_
            refine A_goto ok.b (tgt := 89) dX7_findBays_132 (by decide) ?_
            rw [if_neg c110] at ihc
            rw [nI_1]
            exact ihc
      have LA : ∀ c, c ≤ n → AW g A H0 4 K 28 [some (.ref (m 0)), some (.int (nI k)), some (.int (arR d k c)), some (.int (nI c))] [] (fuW g m (FBs s (S)) ((S).2.2) (d)) 0 0 := by
        refine up_ind n ?_ (fun c hc ihc => ?_)
        · skip
          refine A_iload_n ok.b rfl dX7_findBays_28 (gps (gps (gps gp0))) ?_
          refine A_aload_n ok.b rfl dX7_findBays_29 gp0 ?_
          refine A_getf ok.b cf7 8 (by decide) fl_X7_17 gp0 (gps (gps (gps (gps (gps (gps (gps (gps gp0)))))))) dX7_findBays_30 ?_
          refine A_iconst ok.b (v := 0) dX7_findBays_33 (by decide) ?_
          refine A_iald ok.b (gps (gps (gps (gps (gps (gps gp0)))))) (ix_n (j := 0) (by decide) (by decide)) dX7_findBays_34 ?_
          rw [hT.1]
          refine A_icmp_ge ok.b (tgt := 69) dX7_findBays_35 (by decide) (fun c35 => ?_) (fun c35 => ((show False from c35 (nI_le (Nat.le_refl _) (by omega)))).elim)
          refine A_iload_n ok.b rfl dX7_findBays_69 (gps (gps gp0)) ?_
          refine A_if_ne ok.b (tgt := 76) dX7_findBays_70 (by decide) (fun c70 => ?_) (fun c70 => ?_)
          · skip
            have har : arR d k n = 1 := (ar_01 n).resolve_left c70
            rw [har]
            refine A_aload_n ok.b rfl dX7_findBays_76 gp0 ?_
            refine A_getf ok.b cf7 8 (by decide) fl_X7_17 gp0 (gps (gps (gps (gps (gps (gps (gps (gps gp0)))))))) dX7_findBays_77 ?_
            refine A_aload_n ok.b rfl dX7_findBays_80 gp0 ?_
            refine A_getf ok.b cf7 10 (by decide) fl_X7_23 gp0 (gps (gps (gps (gps (gps (gps (gps (gps (gps (gps gp0)))))))))) dX7_findBays_81 ?_
            refine A_callSR ok [6, 5] [0, 1, 2, 3, 4] (As := [_, _]) (wr := ([moC m (FBs s S), (m 7, .inl (g.2.1 0, 12, .inl (S.2.2).re)), (m 8, .inl (g.2.1 3, 20, .inl (S.2.2).st)), (m 9, .inl (g.2.1 3, 20, .inl (S.2.2).dr)), (m 6, .inl (g.2.1 1, 1300, .inr (.inl (S.2.2).sk)))] : va_W)) mf_X7_copy ml_X7_206 rfl sc_X7_copy  (r_copy l g (m 2) (m 4) d S.2.2.d) rfl rfl rfl dX7_findBays_84 rfl rfl rfl (by decide) (Nat.le_of_ble_eq_true rfl) ⟨(Nat.le_of_ble_eq_true rfl), (Nat.le_of_ble_eq_true rfl)⟩ ⟨(Nat.le_of_ble_eq_true rfl), (Nat.le_of_ble_eq_true rfl)⟩ (fun _ _ hx => hx.elim) (fun v84 w84 q84 => ?_)
            obtain ⟨rfl, rfl⟩ := q84
            refine A_sub [0, 1, 2, 3, 4, 6, 5] (ws2 := (fuW g m (FBs s (S)) (S.2.2.wd d) (d))) rfl rfl ?_
            refine A_iconst ok.b (v := 0) dX7_findBays_87 (by decide) ?_
            refine A_istore_n ok.b rfl dX7_findBays_88 (by decide) (sts (sts (sts1 rfl st0))) ?_
            exact LO har 0 (Nat.zero_le _)
          · skip
            refine A_goto ok.b (tgt := 197) dX7_findBays_73 (by decide) ?_
            refine A_iinc ok.b (v := _ + 1) dX7_findBays_197 (gps gp0) rfl (by decide) (sts1 rfl st0) ?_
            refine A_goto ok.b (tgt := 12) dX7_findBays_200 (by decide) ?_
            refine A_lv (lleK (lleK (lleD (lleD lle0)))) ?_
            rw [fbR, if_pos c70] at ih
            rw [nI_1]
            exact ih
        · rw [arR] at ihc
          refine A_iload_n ok.b rfl dX7_findBays_28 (gps (gps (gps gp0))) ?_
          refine A_aload_n ok.b rfl dX7_findBays_29 gp0 ?_
          refine A_getf ok.b cf7 8 (by decide) fl_X7_17 gp0 (gps (gps (gps (gps (gps (gps (gps (gps gp0)))))))) dX7_findBays_30 ?_
          refine A_iconst ok.b (v := 0) dX7_findBays_33 (by decide) ?_
          refine A_iald ok.b (gps (gps (gps (gps (gps (gps gp0)))))) (ix_n (j := 0) (by decide) (by decide)) dX7_findBays_34 ?_
          rw [hT.1]
          refine A_icmp_ge ok.b (tgt := 69) dX7_findBays_35 (by decide) (fun c35 => ((show False from nI_ge hc (by omega) c35)).elim) (fun c35 => ?_)
          refine A_iload_n ok.b rfl dX7_findBays_38 (gps gp0) ?_
          refine A_iload_n ok.b rfl dX7_findBays_39 (gps (gps (gps gp0))) ?_
          refine A_ishr ok.b dX7_findBays_40 ?_
          refine A_iconst ok.b (v := 1) dX7_findBays_41 (by decide) ?_
          refine A_iand ok.b dX7_findBays_42 ?_
          refine A_iconst ok.b (v := 1) dX7_findBays_43 (by decide) ?_
          refine A_icmp_ne ok.b (tgt := 63) dX7_findBays_44 (by decide) (fun c44 => ?_) (fun c44 => ?_)
          · skip
            refine A_iinc ok.b (v := _ + 1) dX7_findBays_63 (gps (gps (gps gp0))) rfl (by decide) (sts (sts (sts1 rfl st0))) ?_
            refine A_goto ok.b (tgt := 28) dX7_findBays_66 (by decide) ?_
            rw [if_neg c44] at ihc
            rw [nI_1]
            exact ihc
          · skip
            refine A_aload_n ok.b rfl dX7_findBays_47 gp0 ?_
            refine A_getf ok.b cf7 8 (by decide) fl_X7_17 gp0 (gps (gps (gps (gps (gps (gps (gps (gps gp0)))))))) dX7_findBays_48 ?_
            refine A_iload_n ok.b rfl dX7_findBays_51 (gps (gps (gps gp0))) ?_
            refine A_pureS ok.b (As := [_]) mf_X7_section ml_X7_143 rfl sc_X7_section (r_section l g _) rfl rfl dX7_findBays_52 (Nat.le_of_ble_eq_true rfl) ⟨(Nat.le_of_ble_eq_true rfl), (Nat.le_of_ble_eq_true rfl)⟩ ⟨(Nat.le_of_ble_eq_true rfl), (Nat.le_of_ble_eq_true rfl)⟩ ?_
            rw [sec_n (by omega)]
            refine A_iconst ok.b (v := 4) dX7_findBays_55 (by decide) ?_
            refine A_iadd ok.b dX7_findBays_56 ?_
            rw [show nI (12 + 7 * c) + 4 = nI (12 + 7 * c + 4) from nI_add _ 4]
            refine A_iald ok.b (gps (gps (gps (gps (gps (gps gp0)))))) (ix_n (by omega) (by decide)) dX7_findBays_57 ?_
            refine A_if_ge ok.b (tgt := 63) dX7_findBays_58 (by decide) (fun c58 => ?_) (fun c58 => ?_)
            · skip
              refine A_iinc ok.b (v := _ + 1) dX7_findBays_63 (gps (gps (gps gp0))) rfl (by decide) (sts (sts (sts1 rfl st0))) ?_
              refine A_goto ok.b (tgt := 28) dX7_findBays_66 (by decide) ?_
              rw [if_pos c44, if_pos c58] at ihc
              rw [nI_1]
              exact ihc
            · skip
              refine A_iconst ok.b (v := 0) dX7_findBays_61 (by decide) ?_
              refine A_istore_n ok.b rfl dX7_findBays_62 (by decide) (sts (sts1 rfl st0)) ?_
              refine A_iinc ok.b (v := _ + 1) dX7_findBays_63 (gps (gps (gps gp0))) rfl (by decide) (sts (sts (sts1 rfl st0))) ?_
              refine A_goto ok.b (tgt := 28) dX7_findBays_66 (by decide) ?_
              rw [if_pos c44, if_neg c58] at ihc
              rw [nI_1]
              exact ihc
      refine A_iload_n ok.b rfl dX7_findBays_12 (gps gp0) ?_
      refine A_iconst ok.b (v := 1) dX7_findBays_13 (by decide) ?_
      refine A_aload_n ok.b rfl dX7_findBays_14 gp0 ?_
      refine A_getf ok.b cf7 8 (by decide) fl_X7_17 gp0 (gps (gps (gps (gps (gps (gps (gps (gps gp0)))))))) dX7_findBays_15 ?_
      refine A_iconst ok.b (v := 0) dX7_findBays_18 (by decide) ?_
      refine A_iald ok.b (gps (gps (gps (gps (gps (gps gp0)))))) (ix_n (j := 0) (by decide) (by decide)) dX7_findBays_19 ?_
      rw [hT.1]
      refine A_ishl ok.b dX7_findBays_20 ?_
      rw [hp]
      refine A_icmp_ge ok.b (tgt := 203) dX7_findBays_21 (by decide) (fun c21 => ((show False from nI_ge hk (by omega) c21)).elim) (fun c21 => ?_)
      refine A_iconst ok.b (v := 1) dX7_findBays_24 (by decide) ?_
      refine A_istore_n ok.b rfl dX7_findBays_25 (by decide) (sts (sts1 rfl st0)) ?_
      refine A_iconst ok.b (v := 0) dX7_findBays_26 (by decide) ?_
      refine A_istore_n ok.b rfl dX7_findBays_27 (by decide) (sts (sts (sts1 rfl st0))) ?_
      exact LA 0 (Nat.zero_le _)
  refine A_aload_n ok.b rfl dX7_findBays_0 gp0 ?_
  refine A_iconst ok.b (v := (-1)) dX7_findBays_1 (by decide) ?_
  refine A_putf ok.b cf7 21 (by decide) rfl fl_X7_278 gp0 rfl rfl (gp_lt (gps (gps (gps (gps (gps (gps (gps (gps (gps (gps (gps (gps (gps (gps (gps (gps (gps (gps (gps (gps (gps gp0)))))))))))))))))))))) (wps (wps (wps (wps (wps (wps (wps (wps (wps (wps (wps (wps (wps (wps (wps (wps (wps (wps (wps (wps (wps wp0))))))))))))))))))))) wp0 dX7_findBays_2 ?_
  refine A_aload_n ok.b rfl dX7_findBays_5 gp0 ?_
  refine A_iconst ok.b (v := (-1)) dX7_findBays_6 (by decide) ?_
  refine A_putf ok.b cf7 22 (by decide) rfl fl_X7_281 gp0 rfl rfl (gp_lt (gps (gps (gps (gps (gps (gps (gps (gps (gps (gps (gps (gps (gps (gps (gps (gps (gps (gps (gps (gps (gps (gps gp0))))))))))))))))))))))) (wps (wps (wps (wps (wps (wps (wps (wps (wps (wps (wps (wps (wps (wps (wps (wps (wps (wps (wps (wps (wps (wps wp0)))))))))))))))))))))) wp0 dX7_findBays_7 ?_
  refine A_iconst ok.b (v := 0) dX7_findBays_10 (by decide) ?_
  refine A_istore_n ok.b rfl dX7_findBays_11 (by decide) (sts1 rfl st0) ?_
  exact LK 0 (Nat.zero_le _)
set_option maxRecDepth 20000 in
set_option maxHeartbeats 2000000 in
theorem r_bestBays (l : Launch) (g : Gl) (m : Nat → Nat) (s : MS) (X : TS) (d : Nat → Int32) (n nc : Nat) (hn : n ≤ 12) (hnc : nc ≤ 20) (cs : Nat → Int32) (kc : Nat) (hT : TKd n nc cs kc d) : Ct l g yX7_bestBays cX7_bestBays 1 (some .int) 7 360 0 0 [.ref (m 0)] (fuW g m (s) (X) (d)) (fun v w => v = some (.int (fbF n nc cs kc d X (2 ^ n)).1) ∧ w = (fuW g m (FBs (s.wth 0) (fbF n nc cs kc d X (2 ^ n))) ((fbF n nc cs kc d X (2 ^ n)).2.2) (d))) noX := by
  refine Ct.intro [some (.ref (m 0))] (by decide +kernel) (fun _ h => h) (Nat.le_of_ble_eq_true rfl) (fun A H0 K ok => ?_)
  refine A_aload_n ok.b rfl dX7_bestBays_0 gp0 ?_
  refine A_iconst ok.b (v := 0) dX7_bestBays_1 (by decide) ?_
  refine A_putf ok.b cf7 0 (by decide) rfl fl_X7_45 gp0 rfl rfl (gp_lt gp0) wp0 wp0 dX7_bestBays_2 ?_
  refine A_aload_n ok.b rfl dX7_bestBays_5 gp0 ?_
  refine A_sameVR ok (As := []) mf_X7_findBays ml_X7_287 in_X7_findBays se_X7_findBays cf7 gp0 (r_findBays l g m (s.wth 0) X d n nc hn hnc cs kc hT) rfl rfl dX7_bestBays_6 (Nat.le_of_ble_eq_true rfl) ⟨(Nat.le_of_ble_eq_true rfl), (Nat.le_of_ble_eq_true rfl)⟩ ⟨(Nat.le_of_ble_eq_true rfl), (Nat.le_of_ble_eq_true rfl)⟩ (fun _ _ hx => hx.elim) (fun v6 w6 q6 => ?_)
  obtain ⟨rfl, rfl⟩ := q6
  refine A_aload_n ok.b rfl dX7_bestBays_9 gp0 ?_
  refine A_getf ok.b cf7 21 (by decide) fl_X7_278 gp0 (gps (gps (gps (gps (gps (gps (gps (gps (gps (gps (gps (gps (gps (gps (gps (gps (gps (gps (gps (gps (gps gp0))))))))))))))))))))) dX7_bestBays_10 ?_
  refine A_iret ok dX7_bestBays_13 (Nat.le_of_ble_eq_true rfl) (Nat.le_of_ble_eq_true rfl) ?_
  exact ⟨rfl, rfl⟩
set_option maxRecDepth 20000 in
set_option maxHeartbeats 2000000 in
theorem r_bestBayTime (l : Launch) (g : Gl) (m : Nat → Nat) (s : MS) (X : TS) (d : Nat → Int32) (n nc : Nat) (hn : n ≤ 12) (hnc : nc ≤ 20) (cs : Nat → Int32) (kc : Nat) (hT : TKd n nc cs kc d) : Ct l g yX7_bestBayTime cX7_bestBayTime 1 (some .int) 7 360 0 0 [.ref (m 0)] (fuW g m (s) (X) (d)) (fun v w => v = some (.int (fbF n nc cs kc d X (2 ^ n)).2.1) ∧ w = (fuW g m (FBs (s.wth 0) (fbF n nc cs kc d X (2 ^ n))) ((fbF n nc cs kc d X (2 ^ n)).2.2) (d))) noX := by
  refine Ct.intro [some (.ref (m 0))] (by decide +kernel) (fun _ h => h) (Nat.le_of_ble_eq_true rfl) (fun A H0 K ok => ?_)
  refine A_aload_n ok.b rfl dX7_bestBayTime_0 gp0 ?_
  refine A_iconst ok.b (v := 0) dX7_bestBayTime_1 (by decide) ?_
  refine A_putf ok.b cf7 0 (by decide) rfl fl_X7_45 gp0 rfl rfl (gp_lt gp0) wp0 wp0 dX7_bestBayTime_2 ?_
  refine A_aload_n ok.b rfl dX7_bestBayTime_5 gp0 ?_
  refine A_sameVR ok (As := []) mf_X7_findBays ml_X7_287 in_X7_findBays se_X7_findBays cf7 gp0 (r_findBays l g m (s.wth 0) X d n nc hn hnc cs kc hT) rfl rfl dX7_bestBayTime_6 (Nat.le_of_ble_eq_true rfl) ⟨(Nat.le_of_ble_eq_true rfl), (Nat.le_of_ble_eq_true rfl)⟩ ⟨(Nat.le_of_ble_eq_true rfl), (Nat.le_of_ble_eq_true rfl)⟩ (fun _ _ hx => hx.elim) (fun v6 w6 q6 => ?_)
  obtain ⟨rfl, rfl⟩ := q6
  refine A_aload_n ok.b rfl dX7_bestBayTime_9 gp0 ?_
  refine A_getf ok.b cf7 22 (by decide) fl_X7_281 gp0 (gps (gps (gps (gps (gps (gps (gps (gps (gps (gps (gps (gps (gps (gps (gps (gps (gps (gps (gps (gps (gps (gps gp0)))))))))))))))))))))) dX7_bestBayTime_10 ?_
  refine A_iret ok dX7_bestBayTime_13 (Nat.le_of_ble_eq_true rfl) (Nat.le_of_ble_eq_true rfl) ?_
  exact ⟨rfl, rfl⟩
