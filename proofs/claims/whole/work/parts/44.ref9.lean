/-- what a vent takes -/
def smG (d : Nat → Int32) (s : Nat) : Int32 := ((d (12 + 7 * s)).toInt64 * (d (12 + 7 * s + 3)).toInt64 / 100).toInt32
def smA (s : Nat) (S : (Nat → Int32) × (Nat → Int32)) : (Nat → Int32) × (Nat → Int32) :=
  (upd S.1 s (S.2 (12 + 7 * s) - smG S.2 s), upd (upd S.2 10 (S.2 10 + smG S.2 s)) (12 + 7 * s) 0)
def mvR (pa : Int32) (re : Nat → Int32) (s : Nat) : Int32 := ((re s).toInt64 * pa.toInt64 / 100).toInt32
def smB1 (pa : Int32) (re : Nat → Int32) (s : Nat) (d : Nat → Int32) : Nat → Int32 := upd d (12 + 7 * s) (d (12 + 7 * s) + (re s - mvR pa re s))
def smB (n : Nat) (pa sp : Int32) (re : Nat → Int32) (s : Nat) (d : Nat → Int32) : Nat → Int32 :=
  if inB (nI s + sp) 0 (nI n - 1) = true then upd (smB1 pa re s d) (12 + 7 * (nI s + sp).toNatClampNeg) (smB1 pa re s d (12 + 7 * (nI s + sp).toNatClampNeg) + mvR pa re s)
  else upd (smB1 pa re s d) 9 (smB1 pa re s d 9 + mvR pa re s)
def partR (d : Nat → Int32) (n : Nat) : Int32 := if flowR d n < 0 then -(flowR d n) else flowR d n
def stepR (d : Nat → Int32) (n : Nat) : Int32 := if flowR d n < 0 then -1 else 1
def smE (n : Nat) (re d : Nat → Int32) : (Nat → Int32) × (Nat → Int32) := foldN smA (re, d) n
def smD (n : Nat) (re d : Nat → Int32) : Nat → Int32 := foldN (smB n (partR d n) (stepR d n) (smE n re d).1) (smE n re d).2 n
def smF1 (r : Int32) (d : Nat → Int32) : Nat → Int32 := upd d (12 + 7 * (d 4).toNatClampNeg) (d (12 + 7 * (d 4).toNatClampNeg) + r)
def smF (r : Int32) (d : Nat → Int32) : Nat → Int32 := if d 4 < 0 then d else upd (smF1 r d) 8 (smF1 r d 8 + r)
theorem smA_keep {re d : Nat → Int32} {j : Nat} (hj : j < 12) (h10 : j ≠ 10) : ∀ k, (foldN smA (re, d) k).2 j = d j
  | 0 => rfl
  | k + 1 => by
    rw [foldN_s]
    show upd (upd _ 10 _) (12 + 7 * k) 0 j = d j
    rw [upd_at, if_neg (by omega), upd_at, if_neg h10]
    exact smA_keep hj h10 k
theorem smB_keep {n : Nat} {pa sp : Int32} {re d : Nat → Int32} {j : Nat} (hj : j < 12) (h9 : j ≠ 9) : ∀ k, (foldN (smB n pa sp re) d k) j = d j
  | 0 => rfl
  | k + 1 => by
    rw [foldN_s]
    have h1 : smB1 pa re k (foldN (smB n pa sp re) d k) j = d j := by
      rw [smB1, upd_at, if_neg (by omega)]
      exact smB_keep hj h9 k
    unfold smB
    split
    · rw [upd_at, if_neg (by omega)]; exact h1
    · rw [upd_at, if_neg h9]; exact h1
theorem smD_keep {n : Nat} {re d : Nat → Int32} {j : Nat} (hj : j < 12) (h9 : j ≠ 9) (h10 : j ≠ 10) : smD n re d j = d j :=
  (smB_keep hj h9 n).trans (smA_keep hj h10 n)
theorem smF_keep {r : Int32} {d : Nat → Int32} {j : Nat} (hj : j < 12) (h8 : j ≠ 8) : smF r d j = d j := by
  unfold smF
  split
  · rfl
  · rw [upd_at, if_neg h8, smF1, upd_at, if_neg (by omega)]
set_option maxRecDepth 20000 in
set_option maxHeartbeats 2000000 in
theorem r_smoulder (l : Launch) (g : Gl) (m : Nat → Nat) (q : Nat) (s : MS) (re st dr : Nat → Int32) (sk : Nat → Int64) (d : Nat → Int32) (n nc : Nat) (hn : n ≤ 12) (hnc : nc ≤ 20) (h0 : d 0 = nI n) (h2 : d 2 = nI nc) (hf : d 4 < 0 ∨ Inn (d 4) n) (r0 : Int32) : Ct l g yX7_smoulder cX7_smoulder 9 none 2 80 0 0 [.ref (m 0), .ref q, .int r0] (ttW g m q s (re) (st) (dr) sk (d)) (fun v w => v = none ∧ w = ttW g m q s (smE n re d).1 st dr sk (smF r0 (smD n re d))) noX := by
  refine Ct.intro [some (.ref (m 0)), some (.ref q), some (.int r0), none, none, none, none, none, none] (by decide +kernel) (fun _ h => h) (Nat.le_of_ble_eq_true rfl) (fun A H0 K ok => ?_)
  have LB : ∀ k, k ≤ n → AW g A H0 9 K 107 [some (.ref (m 0)), some (.ref q), some (.int r0), some (.int (flowR d n)), some (.int (partR d n)), some (.int (stepR d n)), some (.int (nI (k))), none, none] [] (ttW g m q s (smE n re d).1 st dr sk (foldN (smB n (partR d n) (stepR d n) (smE n re d).1) (smE n re d).2 (k))) 0 0 := by
    refine up_ind n ?_ (fun k hk ih => ?_)
    · have e0 : foldN (smB n (partR d n) (stepR d n) (smE n re d).1) (smE n re d).2 n 0 = nI n := (smB_keep (by decide) (by decide) n).trans ((smA_keep (by decide) (by decide) n).trans h0)
      have e4 : foldN (smB n (partR d n) (stepR d n) (smE n re d).1) (smE n re d).2 n 4 = d 4 := (smB_keep (by decide) (by decide) n).trans (smA_keep (by decide) (by decide) n)
      have eD : foldN (smB n (partR d n) (stepR d n) (smE n re d).1) (smE n re d).2 n = smD n re d := rfl
      rw [eD] at e0 e4 ⊢
      generalize hD : smD n re d = D at e0 e4 ⊢
      refine A_iload ok.b dX7_smoulder_107 (gps (gps (gps (gps (gps (gps gp0)))))) ?_
      refine A_aload_n ok.b rfl dX7_smoulder_109 (gps gp0) ?_
      refine A_iconst ok.b (v := 0) dX7_smoulder_110 (by decide) ?_
      refine A_iald ok.b (gps (gps (gps (gps (gps gp0))))) (ix_n (j := 0) (by decide) (by decide)) dX7_smoulder_111 ?_
      rw [e0]
      refine A_icmp_ge ok.b (tgt := 204) dX7_smoulder_112 (by decide) (fun c112 => ?_) (fun c112 => (c112 (nI_le (Nat.le_refl _) (by omega))).elim)
      refine A_aload_n ok.b rfl dX7_smoulder_204 (gps gp0) ?_
      refine A_iconst ok.b (v := 4) dX7_smoulder_205 (by decide) ?_
      refine A_iald ok.b (gps (gps (gps (gps (gps gp0))))) (ix_n (j := 4) (by decide) (by decide)) dX7_smoulder_206 ?_
      rw [e4]
      refine A_if_ge ok.b (tgt := 211) dX7_smoulder_207 (by decide) (fun c207 => ?_) (fun c207 => ?_)
      · skip
        obtain ⟨t, ht, et⟩ := hf.resolve_left (Int32.not_lt.mpr c207)
        refine A_aload_n ok.b rfl dX7_smoulder_211 (gps gp0) ?_
        refine A_aload_n ok.b rfl dX7_smoulder_212 (gps gp0) ?_
        refine A_iconst ok.b (v := 4) dX7_smoulder_213 (by decide) ?_
        refine A_iald ok.b (gps (gps (gps (gps (gps gp0))))) (ix_n (j := 4) (by decide) (by decide)) dX7_smoulder_214 ?_
        rw [e4, et]
        refine A_pureS ok.b (As := [_]) mf_X7_section ml_X7_143 rfl sc_X7_section (r_section l g _) rfl rfl dX7_smoulder_215 (Nat.le_of_ble_eq_true rfl) ⟨(Nat.le_of_ble_eq_true rfl), (Nat.le_of_ble_eq_true rfl)⟩ ⟨(Nat.le_of_ble_eq_true rfl), (Nat.le_of_ble_eq_true rfl)⟩ ?_
        rw [sec_n (by omega)]
        refine A_dup2_11 ok.b dX7_smoulder_218 rfl rfl ?_
        refine A_iald ok.b (gps (gps (gps (gps (gps gp0))))) (ix_n (by omega) (by decide)) dX7_smoulder_219 ?_
        refine A_iload_n ok.b rfl dX7_smoulder_220 (gps (gps gp0)) ?_
        refine A_iadd ok.b dX7_smoulder_221 ?_
        refine A_iast ok.b (gps (gps (gps (gps (gps gp0))))) (ix_n (by omega) (by decide)) (wps (wps (wps (wps (wps wp0))))) dX7_smoulder_222 ?_
        refine A_aload_n ok.b rfl dX7_smoulder_223 (gps gp0) ?_
        refine A_bipush ok.b (v := 8) dX7_smoulder_224 (by decide) ?_
        refine A_dup2_11 ok.b dX7_smoulder_226 rfl rfl ?_
        refine A_iald ok.b (gps (gps (gps (gps (gps gp0))))) (ix_n (j := 8) (by decide) (by decide)) dX7_smoulder_227 ?_
        refine A_iload_n ok.b rfl dX7_smoulder_228 (gps (gps gp0)) ?_
        refine A_iadd ok.b dX7_smoulder_229 ?_
        refine A_iast ok.b (gps (gps (gps (gps (gps gp0))))) (ix_n (j := 8) (by decide) (by decide)) (wps (wps (wps (wps (wps wp0))))) dX7_smoulder_230 ?_
        refine A_vret ok dX7_smoulder_231 (Nat.le_of_ble_eq_true rfl) (Nat.le_of_ble_eq_true rfl) ?_
        exact ⟨rfl, by rw [hD, smF, if_neg (by rw [e4]; exact Int32.not_lt.mpr c207), smF1, e4, et, nI_clamp (by omega)]; rfl⟩
      · skip
        refine A_vret ok dX7_smoulder_210 (Nat.le_of_ble_eq_true rfl) (Nat.le_of_ble_eq_true rfl) ?_
        exact ⟨rfl, by rw [hD, smF, if_pos (by rw [e4]; exact Int32.not_le.mp c207)]⟩
    · have e0 : foldN (smB n (partR d n) (stepR d n) (smE n re d).1) (smE n re d).2 k 0 = nI n := (smB_keep (by decide) (by decide) k).trans ((smA_keep (by decide) (by decide) n).trans h0)
      rw [foldN_s] at ih
      generalize hF : foldN (smB n (partR d n) (stepR d n) (smE n re d).1) (smE n re d).2 k = F at e0 ih ⊢
      refine A_iload ok.b dX7_smoulder_107 (gps (gps (gps (gps (gps (gps gp0)))))) ?_
      refine A_aload_n ok.b rfl dX7_smoulder_109 (gps gp0) ?_
      refine A_iconst ok.b (v := 0) dX7_smoulder_110 (by decide) ?_
      refine A_iald ok.b (gps (gps (gps (gps (gps gp0))))) (ix_n (j := 0) (by decide) (by decide)) dX7_smoulder_111 ?_
      rw [e0]
      refine A_icmp_ge ok.b (tgt := 204) dX7_smoulder_112 (by decide) (fun c112 => (nI_ge hk (by omega) c112).elim) (fun c112 => ?_)
      refine A_aload_n ok.b rfl dX7_smoulder_115 gp0 ?_
      refine A_getf ok.b cf7 18 (by decide) fl_X7_35 gp0 (gps (gps (gps (gps (gps (gps (gps (gps (gps (gps (gps (gps (gps (gps (gps (gps (gps (gps gp0)))))))))))))))))) dX7_smoulder_116 ?_
      refine A_iload ok.b dX7_smoulder_119 (gps (gps (gps (gps (gps (gps gp0)))))) ?_
      refine A_iald ok.b (gps gp0) (ix_n (by omega) (by decide)) dX7_smoulder_121 ?_
      refine A_i2l ok.b dX7_smoulder_122 ?_
      refine A_iload ok.b dX7_smoulder_123 (gps (gps (gps (gps gp0)))) ?_
      refine A_i2l ok.b dX7_smoulder_125 ?_
      refine A_lmul ok.b dX7_smoulder_126 ?_
      refine A_ldc2 ok.b dX7_smoulder_127 kl_X7_234 ?_
      refine A_ldiv ok.b dX7_smoulder_130 (by decide) ?_
      refine A_l2i ok.b dX7_smoulder_131 ?_
      refine A_istore ok.b dX7_smoulder_132 (by decide) (sts (sts (sts (sts (sts (sts (sts1 rfl st0))))))) ?_
      refine A_aload_n ok.b rfl dX7_smoulder_134 (gps gp0) ?_
      refine A_iload ok.b dX7_smoulder_135 (gps (gps (gps (gps (gps (gps gp0)))))) ?_
      refine A_pureS ok.b (As := [_]) mf_X7_section ml_X7_143 rfl sc_X7_section (r_section l g _) rfl rfl dX7_smoulder_137 (Nat.le_of_ble_eq_true rfl) ⟨(Nat.le_of_ble_eq_true rfl), (Nat.le_of_ble_eq_true rfl)⟩ ⟨(Nat.le_of_ble_eq_true rfl), (Nat.le_of_ble_eq_true rfl)⟩ ?_
      rw [sec_n (by omega)]
      refine A_dup2_11 ok.b dX7_smoulder_140 rfl rfl ?_
      refine A_iald ok.b (gps (gps (gps (gps (gps gp0))))) (ix_n (by omega) (by decide)) dX7_smoulder_141 ?_
      refine A_aload_n ok.b rfl dX7_smoulder_142 gp0 ?_
      refine A_getf ok.b cf7 18 (by decide) fl_X7_35 gp0 (gps (gps (gps (gps (gps (gps (gps (gps (gps (gps (gps (gps (gps (gps (gps (gps (gps (gps gp0)))))))))))))))))) dX7_smoulder_143 ?_
      refine A_iload ok.b dX7_smoulder_146 (gps (gps (gps (gps (gps (gps gp0)))))) ?_
      refine A_iald ok.b (gps gp0) (ix_n (by omega) (by decide)) dX7_smoulder_148 ?_
      refine A_iload ok.b dX7_smoulder_149 (gps (gps (gps (gps (gps (gps (gps gp0))))))) ?_
      refine A_isub ok.b dX7_smoulder_151 ?_
      refine A_iadd ok.b dX7_smoulder_152 ?_
      refine A_iast ok.b (gps (gps (gps (gps (gps gp0))))) (ix_n (by omega) (by decide)) (wps (wps (wps (wps (wps wp0))))) dX7_smoulder_153 ?_
      refine A_iload ok.b dX7_smoulder_154 (gps (gps (gps (gps (gps (gps gp0)))))) ?_
      refine A_iload ok.b dX7_smoulder_156 (gps (gps (gps (gps (gps gp0))))) ?_
      refine A_iadd ok.b dX7_smoulder_158 ?_
      refine A_iconst ok.b (v := 0) dX7_smoulder_159 (by decide) ?_
      refine A_aload_n ok.b rfl dX7_smoulder_160 (gps gp0) ?_
      refine A_iconst ok.b (v := 0) dX7_smoulder_161 (by decide) ?_
      refine A_iald ok.b (gps (gps (gps (gps (gps gp0))))) (ix_n (j := 0) (by decide) (by decide)) dX7_smoulder_162 ?_
      rw [upd_at, if_neg (by omega), e0]
      refine A_iconst ok.b (v := 1) dX7_smoulder_163 (by decide) ?_
      refine A_isub ok.b dX7_smoulder_164 ?_
      refine A_pureS ok.b (As := [_, _, _]) mf_X7_in ml_X7_67 rfl sc_X7_in (r_in l g _ _ _) rfl rfl dX7_smoulder_165 (Nat.le_of_ble_eq_true rfl) ⟨(Nat.le_of_ble_eq_true rfl), (Nat.le_of_ble_eq_true rfl)⟩ ⟨(Nat.le_of_ble_eq_true rfl), (Nat.le_of_ble_eq_true rfl)⟩ ?_
      refine A_if_eq ok.b (tgt := 189) dX7_smoulder_168 (by decide) (fun c168 => ?_) (fun c168 => ?_)
      · skip
        refine A_aload_n ok.b rfl dX7_smoulder_189 (gps gp0) ?_
        refine A_bipush ok.b (v := 9) dX7_smoulder_190 (by decide) ?_
        refine A_dup2_11 ok.b dX7_smoulder_192 rfl rfl ?_
        refine A_iald ok.b (gps (gps (gps (gps (gps gp0))))) (ix_n (j := 9) (by decide) (by decide)) dX7_smoulder_193 ?_
        refine A_iload ok.b dX7_smoulder_194 (gps (gps (gps (gps (gps (gps (gps gp0))))))) ?_
        refine A_iadd ok.b dX7_smoulder_196 ?_
        refine A_iast ok.b (gps (gps (gps (gps (gps gp0))))) (ix_n (j := 9) (by decide) (by decide)) (wps (wps (wps (wps (wps wp0))))) dX7_smoulder_197 ?_
        refine A_iinc ok.b (v := _ + 1) dX7_smoulder_198 (gps (gps (gps (gps (gps (gps gp0)))))) rfl (by decide) (sts (sts (sts (sts (sts (sts1 rfl st0)))))) ?_
        refine A_goto ok.b (tgt := 107) dX7_smoulder_201 (by decide) ?_
        refine A_lv (lleK (lleK (lleK (lleK (lleK (lleK (lleK (lleD (lleD lle0))))))))) ?_
        rw [smB, if_neg (bI_z c168)] at ih
        rw [nI_1]
        exact ih
      · skip
        have hi : inB (nI k + stepR d n) 0 (nI n - 1) = true := bI_n c168
        obtain ⟨t, ht, et⟩ := in_inn hn hi
        refine A_aload_n ok.b rfl dX7_smoulder_171 (gps gp0) ?_
        refine A_iload ok.b dX7_smoulder_172 (gps (gps (gps (gps (gps (gps gp0)))))) ?_
        refine A_iload ok.b dX7_smoulder_174 (gps (gps (gps (gps (gps gp0))))) ?_
        refine A_iadd ok.b dX7_smoulder_176 ?_
        rw [et]
        refine A_pureS ok.b (As := [_]) mf_X7_section ml_X7_143 rfl sc_X7_section (r_section l g _) rfl rfl dX7_smoulder_177 (Nat.le_of_ble_eq_true rfl) ⟨(Nat.le_of_ble_eq_true rfl), (Nat.le_of_ble_eq_true rfl)⟩ ⟨(Nat.le_of_ble_eq_true rfl), (Nat.le_of_ble_eq_true rfl)⟩ ?_
        rw [sec_n (by omega)]
        refine A_dup2_11 ok.b dX7_smoulder_180 rfl rfl ?_
        refine A_iald ok.b (gps (gps (gps (gps (gps gp0))))) (ix_n (by omega) (by decide)) dX7_smoulder_181 ?_
        refine A_iload ok.b dX7_smoulder_182 (gps (gps (gps (gps (gps (gps (gps gp0))))))) ?_
        refine A_iadd ok.b dX7_smoulder_184 ?_
        refine A_iast ok.b (gps (gps (gps (gps (gps gp0))))) (ix_n (by omega) (by decide)) (wps (wps (wps (wps (wps wp0))))) dX7_smoulder_185 ?_
        refine A_goto ok.b (tgt := 198) dX7_smoulder_186 (by decide) ?_
        refine A_iinc ok.b (v := _ + 1) dX7_smoulder_198 (gps (gps (gps (gps (gps (gps gp0)))))) rfl (by decide) (sts (sts (sts (sts (sts (sts1 rfl st0)))))) ?_
        refine A_goto ok.b (tgt := 107) dX7_smoulder_201 (by decide) ?_
        refine A_lv (lleK (lleK (lleK (lleK (lleK (lleK (lleK (lleD (lleD lle0))))))))) ?_
        rw [smB, if_pos hi, et, nI_clamp (by omega)] at ih
        rw [nI_1]
        exact ih
  have LA : ∀ k, k ≤ n → AW g A H0 9 K 31 [some (.ref (m 0)), some (.ref q), some (.int r0), some (.int (flowR d n)), some (.int (partR d n)), some (.int (stepR d n)), some (.int (nI (k))), none, none] [] (ttW g m q s (foldN smA (re, d) (k)).1 st dr sk (foldN smA (re, d) (k)).2) 0 0 := by
    refine up_ind n ?_ (fun k hk ih => ?_)
    · have e0 : (foldN smA (re, d) n).2 0 = nI n := (smA_keep (by decide) (by decide) n).trans h0
      refine A_iload ok.b dX7_smoulder_31 (gps (gps (gps (gps (gps (gps gp0)))))) ?_
      refine A_aload_n ok.b rfl dX7_smoulder_33 (gps gp0) ?_
      refine A_iconst ok.b (v := 0) dX7_smoulder_34 (by decide) ?_
      refine A_iald ok.b (gps (gps (gps (gps (gps gp0))))) (ix_n (j := 0) (by decide) (by decide)) dX7_smoulder_35 ?_
      rw [e0]
      refine A_icmp_ge ok.b (tgt := 104) dX7_smoulder_36 (by decide) (fun c36 => ?_) (fun c36 => (c36 (nI_le (Nat.le_refl _) (by omega))).elim)
      refine A_iconst ok.b (v := 0) dX7_smoulder_104 (by decide) ?_
      refine A_istore ok.b dX7_smoulder_105 (by decide) (sts (sts (sts (sts (sts (sts1 rfl st0)))))) ?_
      exact LB 0 (Nat.zero_le _)
    · have e0 : (foldN smA (re, d) k).2 0 = nI n := (smA_keep (by decide) (by decide) k).trans h0
      rw [foldN_s] at ih
      generalize foldN smA (re, d) k = F at e0 ih ⊢
      refine A_iload ok.b dX7_smoulder_31 (gps (gps (gps (gps (gps (gps gp0)))))) ?_
      refine A_aload_n ok.b rfl dX7_smoulder_33 (gps gp0) ?_
      refine A_iconst ok.b (v := 0) dX7_smoulder_34 (by decide) ?_
      refine A_iald ok.b (gps (gps (gps (gps (gps gp0))))) (ix_n (j := 0) (by decide) (by decide)) dX7_smoulder_35 ?_
      rw [e0]
      refine A_icmp_ge ok.b (tgt := 104) dX7_smoulder_36 (by decide) (fun c36 => (nI_ge hk (by omega) c36).elim) (fun c36 => ?_)
      refine A_aload_n ok.b rfl dX7_smoulder_39 (gps gp0) ?_
      refine A_iload ok.b dX7_smoulder_40 (gps (gps (gps (gps (gps (gps gp0)))))) ?_
      refine A_pureS ok.b (As := [_]) mf_X7_section ml_X7_143 rfl sc_X7_section (r_section l g _) rfl rfl dX7_smoulder_42 (Nat.le_of_ble_eq_true rfl) ⟨(Nat.le_of_ble_eq_true rfl), (Nat.le_of_ble_eq_true rfl)⟩ ⟨(Nat.le_of_ble_eq_true rfl), (Nat.le_of_ble_eq_true rfl)⟩ ?_
      rw [sec_n (by omega)]
      refine A_iald ok.b (gps (gps (gps (gps (gps gp0))))) (ix_n (by omega) (by decide)) dX7_smoulder_45 ?_
      refine A_istore ok.b dX7_smoulder_46 (by decide) (sts (sts (sts (sts (sts (sts (sts1 rfl st0))))))) ?_
      refine A_iload ok.b dX7_smoulder_48 (gps (gps (gps (gps (gps (gps (gps gp0))))))) ?_
      refine A_i2l ok.b dX7_smoulder_50 ?_
      refine A_aload_n ok.b rfl dX7_smoulder_51 (gps gp0) ?_
      refine A_iload ok.b dX7_smoulder_52 (gps (gps (gps (gps (gps (gps gp0)))))) ?_
      refine A_pureS ok.b (As := [_]) mf_X7_section ml_X7_143 rfl sc_X7_section (r_section l g _) rfl rfl dX7_smoulder_54 (Nat.le_of_ble_eq_true rfl) ⟨(Nat.le_of_ble_eq_true rfl), (Nat.le_of_ble_eq_true rfl)⟩ ⟨(Nat.le_of_ble_eq_true rfl), (Nat.le_of_ble_eq_true rfl)⟩ ?_
      rw [sec_n (by omega)]
      refine A_iconst ok.b (v := 3) dX7_smoulder_57 (by decide) ?_
      refine A_iadd ok.b dX7_smoulder_58 ?_
      rw [show nI (12 + 7 * k) + 3 = nI (12 + 7 * k + 3) from nI_add _ 3]
      refine A_iald ok.b (gps (gps (gps (gps (gps gp0))))) (ix_n (by omega) (by decide)) dX7_smoulder_59 ?_
      refine A_i2l ok.b dX7_smoulder_60 ?_
      refine A_lmul ok.b dX7_smoulder_61 ?_
      refine A_ldc2 ok.b dX7_smoulder_62 kl_X7_234 ?_
      refine A_ldiv ok.b dX7_smoulder_65 (by decide) ?_
      refine A_l2i ok.b dX7_smoulder_66 ?_
      refine A_istore ok.b dX7_smoulder_67 (by decide) (sts (sts (sts (sts (sts (sts (sts (sts1 rfl st0)))))))) ?_
      refine A_aload_n ok.b rfl dX7_smoulder_69 (gps gp0) ?_
      refine A_bipush ok.b (v := 10) dX7_smoulder_70 (by decide) ?_
      refine A_dup2_11 ok.b dX7_smoulder_72 rfl rfl ?_
      refine A_iald ok.b (gps (gps (gps (gps (gps gp0))))) (ix_n (j := 10) (by decide) (by decide)) dX7_smoulder_73 ?_
      refine A_iload ok.b dX7_smoulder_74 (gps (gps (gps (gps (gps (gps (gps (gps gp0)))))))) ?_
      refine A_iadd ok.b dX7_smoulder_76 ?_
      refine A_iast ok.b (gps (gps (gps (gps (gps gp0))))) (ix_n (j := 10) (by decide) (by decide)) (wps (wps (wps (wps (wps wp0))))) dX7_smoulder_77 ?_
      refine A_aload_n ok.b rfl dX7_smoulder_78 gp0 ?_
      refine A_getf ok.b cf7 18 (by decide) fl_X7_35 gp0 (gps (gps (gps (gps (gps (gps (gps (gps (gps (gps (gps (gps (gps (gps (gps (gps (gps (gps gp0)))))))))))))))))) dX7_smoulder_79 ?_
      refine A_iload ok.b dX7_smoulder_82 (gps (gps (gps (gps (gps (gps gp0)))))) ?_
      refine A_iload ok.b dX7_smoulder_84 (gps (gps (gps (gps (gps (gps (gps gp0))))))) ?_
      refine A_iload ok.b dX7_smoulder_86 (gps (gps (gps (gps (gps (gps (gps (gps gp0)))))))) ?_
      refine A_isub ok.b dX7_smoulder_88 ?_
      refine A_iast ok.b (gps gp0) (ix_n (by omega) (by decide)) (wps wp0) dX7_smoulder_89 ?_
      refine A_aload_n ok.b rfl dX7_smoulder_90 (gps gp0) ?_
      refine A_iload ok.b dX7_smoulder_91 (gps (gps (gps (gps (gps (gps gp0)))))) ?_
      refine A_pureS ok.b (As := [_]) mf_X7_section ml_X7_143 rfl sc_X7_section (r_section l g _) rfl rfl dX7_smoulder_93 (Nat.le_of_ble_eq_true rfl) ⟨(Nat.le_of_ble_eq_true rfl), (Nat.le_of_ble_eq_true rfl)⟩ ⟨(Nat.le_of_ble_eq_true rfl), (Nat.le_of_ble_eq_true rfl)⟩ ?_
      rw [sec_n (by omega)]
      refine A_iconst ok.b (v := 0) dX7_smoulder_96 (by decide) ?_
      refine A_iast ok.b (gps (gps (gps (gps (gps gp0))))) (ix_n (by omega) (by decide)) (wps (wps (wps (wps (wps wp0))))) dX7_smoulder_97 ?_
      refine A_iinc ok.b (v := _ + 1) dX7_smoulder_98 (gps (gps (gps (gps (gps (gps gp0)))))) rfl (by decide) (sts (sts (sts (sts (sts (sts1 rfl st0)))))) ?_
      refine A_goto ok.b (tgt := 31) dX7_smoulder_101 (by decide) ?_
      refine A_lv (lleK (lleK (lleK (lleK (lleK (lleK (lleK (lleD (lleD lle0))))))))) ?_
      rw [nI_1]
      exact ih
  refine A_aload_n ok.b rfl dX7_smoulder_0 (gps gp0) ?_
  refine A_callSR ok [5] [0, 1, 2, 3, 4] (As := [_]) (wr := ([moC m s, (m 7, .inl (g.2.1 0, 12, .inl re)), (m 8, .inl (g.2.1 3, 20, .inl st)), (m 9, .inl (g.2.1 3, 20, .inl dr)), (m 6, .inl (g.2.1 1, 1300, .inr (.inl sk)))] : va_W)) mf_X7_flowOf ml_X7_222 rfl sc_X7_flowOf  (r_flowOf l g q d n hn h0) rfl rfl rfl dX7_smoulder_1 rfl rfl rfl (by decide) (Nat.le_of_ble_eq_true rfl) ⟨(Nat.le_of_ble_eq_true rfl), (Nat.le_of_ble_eq_true rfl)⟩ ⟨(Nat.le_of_ble_eq_true rfl), (Nat.le_of_ble_eq_true rfl)⟩ (fun _ _ hx => hx.elim) (fun v1 w1 q1 => ?_)
  obtain ⟨rfl, rfl⟩ := q1
  refine A_sub [0, 1, 2, 3, 4, 5] (ws2 := (ttW g m q s (re) (st) (dr) sk (d))) rfl rfl ?_
  refine A_istore_n ok.b rfl dX7_smoulder_4 (by decide) (sts (sts (sts1 rfl st0))) ?_
  refine A_iload_n ok.b rfl dX7_smoulder_5 (gps (gps (gps gp0))) ?_
  refine A_if_ge ok.b (tgt := 14) dX7_smoulder_6 (by decide) (fun c6 => ?_) (fun c6 => ?_)
  · skip
    refine A_iload_n ok.b rfl dX7_smoulder_14 (gps (gps (gps gp0))) ?_
    refine A_istore ok.b dX7_smoulder_15 (by decide) (sts (sts (sts (sts1 rfl st0)))) ?_
    refine A_iload_n ok.b rfl dX7_smoulder_17 (gps (gps (gps gp0))) ?_
    refine A_if_ge ok.b (tgt := 25) dX7_smoulder_18 (by decide) (fun c18 => ?_) (fun c18 => ((show False from c18 c6)).elim)
    refine A_iconst ok.b (v := 1) dX7_smoulder_25 (by decide) ?_
    refine A_istore ok.b dX7_smoulder_26 (by decide) (sts (sts (sts (sts (sts1 rfl st0))))) ?_
    refine A_iconst ok.b (v := 0) dX7_smoulder_28 (by decide) ?_
    refine A_istore ok.b dX7_smoulder_29 (by decide) (sts (sts (sts (sts (sts (sts1 rfl st0)))))) ?_
    have L9 := LA 0 (Nat.zero_le _)
    rw [partR, stepR, if_neg (Int32.not_lt.mpr c6), if_neg (Int32.not_lt.mpr c6)] at L9
    exact L9
  · skip
    refine A_iload_n ok.b rfl dX7_smoulder_9 (gps (gps (gps gp0))) ?_
    refine A_ineg ok.b dX7_smoulder_10 ?_
    refine A_goto ok.b (tgt := 15) dX7_smoulder_11 (by decide) ?_
    refine A_istore ok.b dX7_smoulder_15 (by decide) (sts (sts (sts (sts1 rfl st0)))) ?_
    refine A_iload_n ok.b rfl dX7_smoulder_17 (gps (gps (gps gp0))) ?_
    refine A_if_ge ok.b (tgt := 25) dX7_smoulder_18 (by decide) (fun c18 => ((show False from c6 c18)).elim) (fun c18 => ?_)
    refine A_iconst ok.b (v := (-1)) dX7_smoulder_21 (by decide) ?_
    refine A_goto ok.b (tgt := 26) dX7_smoulder_22 (by decide) ?_
    refine A_istore ok.b dX7_smoulder_26 (by decide) (sts (sts (sts (sts (sts1 rfl st0))))) ?_
    refine A_iconst ok.b (v := 0) dX7_smoulder_28 (by decide) ?_
    refine A_istore ok.b dX7_smoulder_29 (by decide) (sts (sts (sts (sts (sts (sts1 rfl st0)))))) ?_
    have L9 := LA 0 (Nat.zero_le _)
    rw [partR, stepR, if_pos (Int32.not_le.mp c6), if_pos (Int32.not_le.mp c6)] at L9
    exact L9
