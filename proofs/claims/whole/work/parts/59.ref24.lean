def ckS (d : Nat → Int32) (k : Nat) (s : Int64) : Int64 := 31 * (31 * s + (d (12 + 7 * k)).toInt64) + (d (12 + 7 * k + 4)).toInt64
def ckC (d : Nat → Int32) (k : Nat) (s : Int64) : Int64 := 31 * (31 * (31 * s + (d (96 + 4 * k)).toInt64) + (d (96 + 4 * k + 1)).toInt64) + exR d (96 + 4 * k + 2)
def ck0 (d : Nat → Int32) : Int64 := 31 * (d 3).toInt64 + (d 4).toInt64
def ckR (d : Nat → Int32) (n nc : Nat) : Int64 := if d 0 = 0 then 0 else 31 * foldN (ckC d) (foldN (ckS d) (ck0 d) n) nc + (flowR d n).toInt64
set_option maxRecDepth 20000 in
set_option maxHeartbeats 2000000 in
theorem r_checksum (l : Launch) (g : Gl) (m : Nat → Nat) (s : MS) (d : Nat → Int32) (n nc : Nat) (hn : n ≤ 12) (hnc : nc ≤ 20) (h0 : d 0 = nI n) (h2 : d 2 = nI nc) : Ct l g yX7_checksum cX7_checksum 4 (some .long) 2 80 0 0 [.ref (m 0)] (drW g m s d) (fun v w => v = some (.long (ckR d n nc)) ∧ w = drW g m (s.wth (0)) d) noX := by
  refine Ct.intro [some (.ref (m 0)), none, none, none] (by decide +kernel) (fun _ h => h) (Nat.le_of_ble_eq_true rfl) (fun A H0 K ok => ?_)
  have LC : ¬ d 0 = 0 → ∀ k, k ≤ nc → AW g A H0 4 K 92 [some (.ref (m 0)), some (.long (foldN (ckC d) (foldN (ckS d) (ck0 d) n) k)), none, some (.int (nI (k)))] [] (drW g m (s.wth 0) d) 0 0 := by
    intro hz
    refine up_ind nc ?_ (fun k hk ih => ?_)
    · skip
      refine A_iload_n ok.b rfl dX7_checksum_92 (gps (gps (gps gp0))) ?_
      refine A_aload_n ok.b rfl dX7_checksum_93 gp0 ?_
      refine A_getf ok.b cf7 8 (by decide) fl_X7_17 gp0 (gps (gps (gps (gps (gps (gps (gps (gps gp0)))))))) dX7_checksum_94 ?_
      refine A_iconst ok.b (v := 2) dX7_checksum_97 (by decide) ?_
      refine A_iald ok.b (gps gp0) (ix_n (j := 2) (by decide) (by decide)) dX7_checksum_98 ?_
      rw [h2]
      refine A_icmp_ge ok.b (tgt := 164) dX7_checksum_99 (by decide) (fun c99 => ?_) (fun c99 => ((show False from c99 (nI_le (Nat.le_refl _) (by omega)))).elim)
      refine A_ldc2 ok.b dX7_checksum_164 kl_X7_297 ?_
      refine A_lload_n ok.b rfl dX7_checksum_167 (gps gp0) ?_
      refine A_lmul ok.b dX7_checksum_168 ?_
      refine A_aload_n ok.b rfl dX7_checksum_169 gp0 ?_
      refine A_getf ok.b cf7 8 (by decide) fl_X7_17 gp0 (gps (gps (gps (gps (gps (gps (gps (gps gp0)))))))) dX7_checksum_170 ?_
      refine A_callSR ok [1] [0] (As := [_]) (wr := ([moC m (s.wth 0)] : va_W)) mf_X7_flowOf ml_X7_222 rfl sc_X7_flowOf  (r_flowOf l g (m 2) d n hn h0) rfl rfl rfl dX7_checksum_173 rfl rfl rfl (by decide) (Nat.le_of_ble_eq_true rfl) ⟨(Nat.le_of_ble_eq_true rfl), (Nat.le_of_ble_eq_true rfl)⟩ ⟨(Nat.le_of_ble_eq_true rfl), (Nat.le_of_ble_eq_true rfl)⟩ (fun _ _ hx => hx.elim) (fun v173 w173 q173 => ?_)
      obtain ⟨rfl, rfl⟩ := q173
      refine A_sub [0, 1] (ws2 := drW g m (s.wth 0) d) rfl rfl ?_
      refine A_i2l ok.b dX7_checksum_176 ?_
      refine A_ladd ok.b dX7_checksum_177 ?_
      refine A_lret ok dX7_checksum_178 (Nat.le_of_ble_eq_true rfl) (Nat.le_of_ble_eq_true rfl) ?_
      exact ⟨by rw [ckR, if_neg hz], rfl⟩
    · rw [foldN_s] at ih
      generalize foldN (ckC d) (foldN (ckS d) (ck0 d) n) k = v at ih ⊢
      rw [ckC] at ih
      refine A_iload_n ok.b rfl dX7_checksum_92 (gps (gps (gps gp0))) ?_
      refine A_aload_n ok.b rfl dX7_checksum_93 gp0 ?_
      refine A_getf ok.b cf7 8 (by decide) fl_X7_17 gp0 (gps (gps (gps (gps (gps (gps (gps (gps gp0)))))))) dX7_checksum_94 ?_
      refine A_iconst ok.b (v := 2) dX7_checksum_97 (by decide) ?_
      refine A_iald ok.b (gps gp0) (ix_n (j := 2) (by decide) (by decide)) dX7_checksum_98 ?_
      rw [h2]
      refine A_icmp_ge ok.b (tgt := 164) dX7_checksum_99 (by decide) (fun c99 => ((show False from nI_ge hk (by omega) c99)).elim) (fun c99 => ?_)
      refine A_ldc2 ok.b dX7_checksum_102 kl_X7_297 ?_
      refine A_lload_n ok.b rfl dX7_checksum_105 (gps gp0) ?_
      refine A_lmul ok.b dX7_checksum_106 ?_
      refine A_aload_n ok.b rfl dX7_checksum_107 gp0 ?_
      refine A_getf ok.b cf7 8 (by decide) fl_X7_17 gp0 (gps (gps (gps (gps (gps (gps (gps (gps gp0)))))))) dX7_checksum_108 ?_
      refine A_iload_n ok.b rfl dX7_checksum_111 (gps (gps (gps gp0))) ?_
      refine A_pureS ok.b (As := [_]) mf_X7_car ml_X7_162 rfl sc_X7_car (r_car l g _) rfl rfl dX7_checksum_112 (Nat.le_of_ble_eq_true rfl) ⟨(Nat.le_of_ble_eq_true rfl), (Nat.le_of_ble_eq_true rfl)⟩ ⟨(Nat.le_of_ble_eq_true rfl), (Nat.le_of_ble_eq_true rfl)⟩ ?_
      rw [car_n (by omega)]
      refine A_iald ok.b (gps gp0) (ix_n (by omega) (by decide)) dX7_checksum_115 ?_
      refine A_i2l ok.b dX7_checksum_116 ?_
      refine A_ladd ok.b dX7_checksum_117 ?_
      refine A_lstore_n ok.b rfl dX7_checksum_118 (by decide) (sts1 rfl st0w) ?_
      refine A_ldc2 ok.b dX7_checksum_119 kl_X7_297 ?_
      refine A_lload_n ok.b rfl dX7_checksum_122 (gps gp0) ?_
      refine A_lmul ok.b dX7_checksum_123 ?_
      refine A_aload_n ok.b rfl dX7_checksum_124 gp0 ?_
      refine A_getf ok.b cf7 8 (by decide) fl_X7_17 gp0 (gps (gps (gps (gps (gps (gps (gps (gps gp0)))))))) dX7_checksum_125 ?_
      refine A_iload_n ok.b rfl dX7_checksum_128 (gps (gps (gps gp0))) ?_
      refine A_pureS ok.b (As := [_]) mf_X7_car ml_X7_162 rfl sc_X7_car (r_car l g _) rfl rfl dX7_checksum_129 (Nat.le_of_ble_eq_true rfl) ⟨(Nat.le_of_ble_eq_true rfl), (Nat.le_of_ble_eq_true rfl)⟩ ⟨(Nat.le_of_ble_eq_true rfl), (Nat.le_of_ble_eq_true rfl)⟩ ?_
      rw [car_n (by omega)]
      refine A_iconst ok.b (v := 1) dX7_checksum_132 (by decide) ?_
      refine A_iadd ok.b dX7_checksum_133 ?_
      rw [show nI (96 + 4 * k) + 1 = nI (96 + 4 * k + 1) from nI_1 _]
      refine A_iald ok.b (gps gp0) (ix_n (by omega) (by decide)) dX7_checksum_134 ?_
      refine A_i2l ok.b dX7_checksum_135 ?_
      refine A_ladd ok.b dX7_checksum_136 ?_
      refine A_lstore_n ok.b rfl dX7_checksum_137 (by decide) (sts1 rfl st0w) ?_
      refine A_ldc2 ok.b dX7_checksum_138 kl_X7_297 ?_
      refine A_lload_n ok.b rfl dX7_checksum_141 (gps gp0) ?_
      refine A_lmul ok.b dX7_checksum_142 ?_
      refine A_aload_n ok.b rfl dX7_checksum_143 gp0 ?_
      refine A_getf ok.b cf7 8 (by decide) fl_X7_17 gp0 (gps (gps (gps (gps (gps (gps (gps (gps gp0)))))))) dX7_checksum_144 ?_
      refine A_iload_n ok.b rfl dX7_checksum_147 (gps (gps (gps gp0))) ?_
      refine A_pureS ok.b (As := [_]) mf_X7_car ml_X7_162 rfl sc_X7_car (r_car l g _) rfl rfl dX7_checksum_148 (Nat.le_of_ble_eq_true rfl) ⟨(Nat.le_of_ble_eq_true rfl), (Nat.le_of_ble_eq_true rfl)⟩ ⟨(Nat.le_of_ble_eq_true rfl), (Nat.le_of_ble_eq_true rfl)⟩ ?_
      rw [car_n (by omega)]
      refine A_iconst ok.b (v := 2) dX7_checksum_151 (by decide) ?_
      refine A_iadd ok.b dX7_checksum_152 ?_
      rw [show nI (96 + 4 * k) + 2 = nI (96 + 4 * k + 2) from nI_add _ 2]
      refine A_callSR ok [1] [0] (As := [_, _]) (wr := ([moC m (s.wth 0)] : va_W)) mf_X7_exposed ml_X7_242 rfl sc_X7_exposed  (r_exposed l g (m 2) d (96 + 4 * k + 2) (by omega)) rfl rfl rfl dX7_checksum_153 rfl rfl rfl (by decide) (Nat.le_of_ble_eq_true rfl) ⟨(Nat.le_of_ble_eq_true rfl), (Nat.le_of_ble_eq_true rfl)⟩ ⟨(Nat.le_of_ble_eq_true rfl), (Nat.le_of_ble_eq_true rfl)⟩ (fun _ _ hx => hx.elim) (fun v153 w153 q153 => ?_)
      obtain ⟨rfl, rfl⟩ := q153
      refine A_sub [0, 1] (ws2 := drW g m (s.wth 0) d) rfl rfl ?_
      refine A_ladd ok.b dX7_checksum_156 ?_
      refine A_lstore_n ok.b rfl dX7_checksum_157 (by decide) (sts1 rfl st0w) ?_
      refine A_iinc ok.b (v := _ + 1) dX7_checksum_158 (gps (gps (gps gp0))) rfl (by decide) (sts (sts (sts1n st0))) ?_
      refine A_goto ok.b (tgt := 92) dX7_checksum_161 (by decide) ?_
      rw [nI_1]
      exact ih
  have LS9 : ¬ d 0 = 0 → ∀ k, k ≤ n → AW g A H0 4 K 38 [some (.ref (m 0)), some (.long (foldN (ckS d) (ck0 d) k)), none, some (.int (nI (k)))] [] (drW g m (s.wth 0) d) 0 0 := by
    intro hz
    refine up_ind n ?_ (fun k hk ih => ?_)
    · skip
      refine A_iload_n ok.b rfl dX7_checksum_38 (gps (gps (gps gp0))) ?_
      refine A_aload_n ok.b rfl dX7_checksum_39 gp0 ?_
      refine A_getf ok.b cf7 8 (by decide) fl_X7_17 gp0 (gps (gps (gps (gps (gps (gps (gps (gps gp0)))))))) dX7_checksum_40 ?_
      refine A_iconst ok.b (v := 0) dX7_checksum_43 (by decide) ?_
      refine A_iald ok.b (gps gp0) (ix_n (j := 0) (by decide) (by decide)) dX7_checksum_44 ?_
      rw [h0]
      refine A_icmp_ge ok.b (tgt := 90) dX7_checksum_45 (by decide) (fun c45 => ?_) (fun c45 => ((show False from c45 (nI_le (Nat.le_refl _) (by omega)))).elim)
      refine A_iconst ok.b (v := 0) dX7_checksum_90 (by decide) ?_
      refine A_istore_n ok.b rfl dX7_checksum_91 (by decide) (sts (sts (sts1n st0))) ?_
      exact LC hz 0 (Nat.zero_le _)
    · rw [foldN_s] at ih
      generalize foldN (ckS d) (ck0 d) k = v at ih ⊢
      rw [ckS] at ih
      refine A_iload_n ok.b rfl dX7_checksum_38 (gps (gps (gps gp0))) ?_
      refine A_aload_n ok.b rfl dX7_checksum_39 gp0 ?_
      refine A_getf ok.b cf7 8 (by decide) fl_X7_17 gp0 (gps (gps (gps (gps (gps (gps (gps (gps gp0)))))))) dX7_checksum_40 ?_
      refine A_iconst ok.b (v := 0) dX7_checksum_43 (by decide) ?_
      refine A_iald ok.b (gps gp0) (ix_n (j := 0) (by decide) (by decide)) dX7_checksum_44 ?_
      rw [h0]
      refine A_icmp_ge ok.b (tgt := 90) dX7_checksum_45 (by decide) (fun c45 => ((show False from nI_ge hk (by omega) c45)).elim) (fun c45 => ?_)
      refine A_ldc2 ok.b dX7_checksum_48 kl_X7_297 ?_
      refine A_lload_n ok.b rfl dX7_checksum_51 (gps gp0) ?_
      refine A_lmul ok.b dX7_checksum_52 ?_
      refine A_aload_n ok.b rfl dX7_checksum_53 gp0 ?_
      refine A_getf ok.b cf7 8 (by decide) fl_X7_17 gp0 (gps (gps (gps (gps (gps (gps (gps (gps gp0)))))))) dX7_checksum_54 ?_
      refine A_iload_n ok.b rfl dX7_checksum_57 (gps (gps (gps gp0))) ?_
      refine A_pureS ok.b (As := [_]) mf_X7_section ml_X7_143 rfl sc_X7_section (r_section l g _) rfl rfl dX7_checksum_58 (Nat.le_of_ble_eq_true rfl) ⟨(Nat.le_of_ble_eq_true rfl), (Nat.le_of_ble_eq_true rfl)⟩ ⟨(Nat.le_of_ble_eq_true rfl), (Nat.le_of_ble_eq_true rfl)⟩ ?_
      rw [sec_n (by omega)]
      refine A_iald ok.b (gps gp0) (ix_n (by omega) (by decide)) dX7_checksum_61 ?_
      refine A_i2l ok.b dX7_checksum_62 ?_
      refine A_ladd ok.b dX7_checksum_63 ?_
      refine A_lstore_n ok.b rfl dX7_checksum_64 (by decide) (sts1 rfl st0w) ?_
      refine A_ldc2 ok.b dX7_checksum_65 kl_X7_297 ?_
      refine A_lload_n ok.b rfl dX7_checksum_68 (gps gp0) ?_
      refine A_lmul ok.b dX7_checksum_69 ?_
      refine A_aload_n ok.b rfl dX7_checksum_70 gp0 ?_
      refine A_getf ok.b cf7 8 (by decide) fl_X7_17 gp0 (gps (gps (gps (gps (gps (gps (gps (gps gp0)))))))) dX7_checksum_71 ?_
      refine A_iload_n ok.b rfl dX7_checksum_74 (gps (gps (gps gp0))) ?_
      refine A_pureS ok.b (As := [_]) mf_X7_section ml_X7_143 rfl sc_X7_section (r_section l g _) rfl rfl dX7_checksum_75 (Nat.le_of_ble_eq_true rfl) ⟨(Nat.le_of_ble_eq_true rfl), (Nat.le_of_ble_eq_true rfl)⟩ ⟨(Nat.le_of_ble_eq_true rfl), (Nat.le_of_ble_eq_true rfl)⟩ ?_
      rw [sec_n (by omega)]
      refine A_iconst ok.b (v := 4) dX7_checksum_78 (by decide) ?_
      refine A_iadd ok.b dX7_checksum_79 ?_
      rw [show nI (12 + 7 * k) + 4 = nI (12 + 7 * k + 4) from nI_add _ 4]
      refine A_iald ok.b (gps gp0) (ix_n (by omega) (by decide)) dX7_checksum_80 ?_
      refine A_i2l ok.b dX7_checksum_81 ?_
      refine A_ladd ok.b dX7_checksum_82 ?_
      refine A_lstore_n ok.b rfl dX7_checksum_83 (by decide) (sts1 rfl st0w) ?_
      refine A_iinc ok.b (v := _ + 1) dX7_checksum_84 (gps (gps (gps gp0))) rfl (by decide) (sts (sts (sts1n st0))) ?_
      refine A_goto ok.b (tgt := 38) dX7_checksum_87 (by decide) ?_
      rw [nI_1]
      exact ih
  refine A_aload_n ok.b rfl dX7_checksum_0 gp0 ?_
  refine A_iconst ok.b (v := 0) dX7_checksum_1 (by decide) ?_
  refine A_putf ok.b cf7 0 (by decide) rfl fl_X7_45 gp0 rfl rfl (gp_lt gp0) wp0 wp0 dX7_checksum_2 ?_
  refine A_aload_n ok.b rfl dX7_checksum_5 gp0 ?_
  refine A_getf ok.b cf7 8 (by decide) fl_X7_17 gp0 (gps (gps (gps (gps (gps (gps (gps (gps gp0)))))))) dX7_checksum_6 ?_
  refine A_iconst ok.b (v := 0) dX7_checksum_9 (by decide) ?_
  refine A_iald ok.b (gps gp0) (ix_n (j := 0) (by decide) (by decide)) dX7_checksum_10 ?_
  refine A_if_ne ok.b (tgt := 16) dX7_checksum_11 (by decide) (fun c11 => ?_) (fun c11 => ?_)
  · skip
    refine A_ldc2 ok.b dX7_checksum_16 kl_X7_297 ?_
    refine A_aload_n ok.b rfl dX7_checksum_19 gp0 ?_
    refine A_getf ok.b cf7 8 (by decide) fl_X7_17 gp0 (gps (gps (gps (gps (gps (gps (gps (gps gp0)))))))) dX7_checksum_20 ?_
    refine A_iconst ok.b (v := 3) dX7_checksum_23 (by decide) ?_
    refine A_iald ok.b (gps gp0) (ix_n (j := 3) (by decide) (by decide)) dX7_checksum_24 ?_
    refine A_i2l ok.b dX7_checksum_25 ?_
    refine A_lmul ok.b dX7_checksum_26 ?_
    refine A_aload_n ok.b rfl dX7_checksum_27 gp0 ?_
    refine A_getf ok.b cf7 8 (by decide) fl_X7_17 gp0 (gps (gps (gps (gps (gps (gps (gps (gps gp0)))))))) dX7_checksum_28 ?_
    refine A_iconst ok.b (v := 4) dX7_checksum_31 (by decide) ?_
    refine A_iald ok.b (gps gp0) (ix_n (j := 4) (by decide) (by decide)) dX7_checksum_32 ?_
    refine A_i2l ok.b dX7_checksum_33 ?_
    refine A_ladd ok.b dX7_checksum_34 ?_
    refine A_lstore_n ok.b rfl dX7_checksum_35 (by decide) (sts1 rfl st0w) ?_
    refine A_iconst ok.b (v := 0) dX7_checksum_36 (by decide) ?_
    refine A_istore_n ok.b rfl dX7_checksum_37 (by decide) (sts (sts (sts1n st0))) ?_
    exact LS9 c11 0 (Nat.zero_le _)
  · skip
    refine A_lconst ok.b (v := 0) dX7_checksum_14 (by decide) ?_
    refine A_lret ok dX7_checksum_15 (Nat.le_of_ble_eq_true rfl) (Nat.le_of_ble_eq_true rfl) ?_
    exact ⟨by rw [ckR, if_pos c11], rfl⟩
def wsR (x1 x2 x3 x4 x5 : Int32) (k : Nat) : Int32 := if 4 ≤ nI k then (if 8 ≤ nI k then (if 12 ≤ nI k then (if 16 ≤ nI k then x5 else x4) else x3) else x2) else x1
def abR (x : Int32) (k : Nat) : Int32 := (x >>> ((24 - 8 * (nI k - nI k / 4 * 4)) &&& 31)) &&& 255
def apR (x1 x2 x3 x4 x5 : Int32) (n k : Nat) (B : Nat → Int32) : Nat → Int32 := upd B (n + k) (abR (wsR x1 x2 x3 x4 x5 k) k)
def apB (x1 x2 x3 x4 x5 : Int32) (n : Nat) (B : Nat → Int32) (k : Nat) : Nat → Int32 := foldN (apR x1 x2 x3 x4 x5 n) B k
set_option maxRecDepth 20000 in
set_option maxHeartbeats 2000000 in
theorem r_append (l : Launch) (g : Gl) (m : Nat → Nat) (s : MS) (B : Nat → Int32) (hbl : s.bl ≤ 800) (x1 x2 x3 x4 x5 : Int32) : Ct l g yX7_append cX7_append 8 (some .int) 0 0 0 0 [.ref (m 0), .int x1, .int x2, .int x3, .int x4, .int x5] (lxW g m (s) (B)) (fun v w => v = some (.int (if 780 < s.bl then -1 else nI (s.bl + 20))) ∧ w = if 780 < s.bl then (lxW g m (s.wth 0) (B)) else (lxW g m ((s.wth 0).wbl (s.bl + 20)) (apB x1 x2 x3 x4 x5 s.bl B 20))) noX := by
  refine Ct.intro [some (.ref (m 0)), some (.int x1), some (.int x2), some (.int x3), some (.int x4), some (.int x5), none, none] (by decide +kernel) (fun _ h => h) (Nat.le_of_ble_eq_true rfl) (fun A H0 K ok => ?_)
  have L : s.bl ≤ 780 → ∀ k, k ≤ 20 → AW g A H0 8 K 23 [some (.ref (m 0)), some (.int x1), some (.int x2), some (.int x3), some (.int x4), some (.int x5), some (.int (nI (k))), none] [] (lxW g m ((s.wth 0).wbl (s.bl + k)) (apB x1 x2 x3 x4 x5 s.bl B k)) 0 0 := by
    intro h78
    refine up_ind 20 ?_ (fun k hk ih => ?_)
    · skip
      refine A_iload ok.b dX7_append_23 (gps (gps (gps (gps (gps (gps gp0)))))) ?_
      refine A_bipush ok.b (v := 20) dX7_append_25 (by decide) ?_
      refine A_icmp_ge ok.b (tgt := 120) dX7_append_27 (by decide) (fun c27 => ?_) (fun c27 => ((show False from c27 (by decide))).elim)
      refine A_aload_n ok.b rfl dX7_append_120 gp0 ?_
      refine A_getf ok.b cf7 2 (by decide) fl_X7_48 gp0 (gps (gps gp0)) dX7_append_121 ?_
      refine A_iret ok dX7_append_124 (Nat.le_of_ble_eq_true rfl) (Nat.le_of_ble_eq_true rfl) ?_
      exact ⟨by rw [if_neg (by omega)]; rfl, by rw [if_neg (by omega)]⟩
    · rw [apB] at ih ⊢
      refine A_iload ok.b dX7_append_23 (gps (gps (gps (gps (gps (gps gp0)))))) ?_
      refine A_bipush ok.b (v := 20) dX7_append_25 (by decide) ?_
      refine A_icmp_ge ok.b (tgt := 120) dX7_append_27 (by decide) (fun c27 => ((show False from nI_ge (a := k) (b := 20) hk (by decide) c27)).elim) (fun c27 => ?_)
      refine A_iload ok.b dX7_append_30 (gps (gps (gps (gps (gps (gps gp0)))))) ?_
      refine A_iconst ok.b (v := 4) dX7_append_32 (by decide) ?_
      refine A_icmp_ge ok.b (tgt := 40) dX7_append_33 (by decide) (fun c33 => ?_) (fun c33 => ?_)
      · skip
        refine A_iload ok.b dX7_append_40 (gps (gps (gps (gps (gps (gps gp0)))))) ?_
        refine A_bipush ok.b (v := 8) dX7_append_42 (by decide) ?_
        refine A_icmp_ge ok.b (tgt := 51) dX7_append_44 (by decide) (fun c44 => ?_) (fun c44 => ?_)
        · skip
          refine A_iload ok.b dX7_append_51 (gps (gps (gps (gps (gps (gps gp0)))))) ?_
          refine A_bipush ok.b (v := 12) dX7_append_53 (by decide) ?_
          refine A_icmp_ge ok.b (tgt := 62) dX7_append_55 (by decide) (fun c55 => ?_) (fun c55 => ?_)
          · skip
            refine A_iload ok.b dX7_append_62 (gps (gps (gps (gps (gps (gps gp0)))))) ?_
            refine A_bipush ok.b (v := 16) dX7_append_64 (by decide) ?_
            refine A_icmp_ge ok.b (tgt := 74) dX7_append_66 (by decide) (fun c66 => ?_) (fun c66 => ?_)
            · skip
              refine A_iload ok.b dX7_append_74 (gps (gps (gps (gps (gps gp0))))) ?_
              refine A_istore ok.b dX7_append_76 (by decide) (sts (sts (sts (sts (sts (sts (sts1 rfl st0))))))) ?_
              refine A_aload_n ok.b rfl dX7_append_78 gp0 ?_
              refine A_getf ok.b cf7 1 (by decide) fl_X7_9 gp0 (gps gp0) dX7_append_79 ?_
              refine A_aload_n ok.b rfl dX7_append_82 gp0 ?_
              refine A_getf ok.b cf7 2 (by decide) fl_X7_48 gp0 (gps (gps gp0)) dX7_append_83 ?_
              refine A_iload ok.b dX7_append_86 (gps (gps (gps (gps (gps (gps (gps gp0))))))) ?_
              refine A_bipush ok.b (v := 24) dX7_append_88 (by decide) ?_
              refine A_bipush ok.b (v := 8) dX7_append_90 (by decide) ?_
              refine A_iload ok.b dX7_append_92 (gps (gps (gps (gps (gps (gps gp0)))))) ?_
              refine A_iconst ok.b (v := 4) dX7_append_94 (by decide) ?_
              refine A_irem ok.b dX7_append_95 (by decide) ?_
              refine A_imul ok.b dX7_append_96 ?_
              refine A_isub ok.b dX7_append_97 ?_
              refine A_ishr ok.b dX7_append_98 ?_
              refine A_sipush ok.b (v := 255) dX7_append_99 (by decide) ?_
              refine A_iand ok.b dX7_append_102 ?_
              refine A_iast ok.b (gps gp0) (show Ix (nI (s.bl + k)) 800 (s.bl + k) from ix_n (by omega) (by decide)) (wps wp0) dX7_append_103 ?_
              refine A_aload_n ok.b rfl dX7_append_104 gp0 ?_
              refine A_dup ok.b dX7_append_105 rfl ?_
              refine A_getf ok.b cf7 2 (by decide) fl_X7_48 gp0 (gps (gps gp0)) dX7_append_106 ?_
              refine A_iconst ok.b (v := 1) dX7_append_109 (by decide) ?_
              refine A_iadd ok.b dX7_append_110 ?_
              rw [show nI ((s.wth 0).wbl (s.bl + k)).bl + 1 = nI (s.bl + (k + 1)) from nI_1 _]
              refine A_putf ok.b cf7 2 (by decide) rfl fl_X7_48 gp0 rfl rfl (gp_lt (gps (gps gp0))) (wps (wps wp0)) wp0 dX7_append_111 ?_
              refine A_iinc ok.b (v := _ + 1) dX7_append_114 (gps (gps (gps (gps (gps (gps gp0)))))) rfl (by decide) (sts (sts (sts (sts (sts (sts1 rfl st0)))))) ?_
              refine A_goto ok.b (tgt := 23) dX7_append_117 (by decide) ?_
              refine A_lv (lleK (lleK (lleK (lleK (lleK (lleK (lleK (lleD lle0)))))))) ?_
              rw [foldN_s] at ih
              rw [apR, wsR, if_pos c33, if_pos c44, if_pos c55, if_pos c66, abR] at ih
              rw [nI_1]
              exact ih
            · skip
              refine A_iload ok.b dX7_append_69 (gps (gps (gps (gps gp0)))) ?_
              refine A_goto ok.b (tgt := 76) dX7_append_71 (by decide) ?_
              refine A_istore ok.b dX7_append_76 (by decide) (sts (sts (sts (sts (sts (sts (sts1 rfl st0))))))) ?_
              refine A_aload_n ok.b rfl dX7_append_78 gp0 ?_
              refine A_getf ok.b cf7 1 (by decide) fl_X7_9 gp0 (gps gp0) dX7_append_79 ?_
              refine A_aload_n ok.b rfl dX7_append_82 gp0 ?_
              refine A_getf ok.b cf7 2 (by decide) fl_X7_48 gp0 (gps (gps gp0)) dX7_append_83 ?_
              refine A_iload ok.b dX7_append_86 (gps (gps (gps (gps (gps (gps (gps gp0))))))) ?_
              refine A_bipush ok.b (v := 24) dX7_append_88 (by decide) ?_
              refine A_bipush ok.b (v := 8) dX7_append_90 (by decide) ?_
              refine A_iload ok.b dX7_append_92 (gps (gps (gps (gps (gps (gps gp0)))))) ?_
              refine A_iconst ok.b (v := 4) dX7_append_94 (by decide) ?_
              refine A_irem ok.b dX7_append_95 (by decide) ?_
              refine A_imul ok.b dX7_append_96 ?_
              refine A_isub ok.b dX7_append_97 ?_
              refine A_ishr ok.b dX7_append_98 ?_
              refine A_sipush ok.b (v := 255) dX7_append_99 (by decide) ?_
              refine A_iand ok.b dX7_append_102 ?_
              refine A_iast ok.b (gps gp0) (show Ix (nI (s.bl + k)) 800 (s.bl + k) from ix_n (by omega) (by decide)) (wps wp0) dX7_append_103 ?_
              refine A_aload_n ok.b rfl dX7_append_104 gp0 ?_
              refine A_dup ok.b dX7_append_105 rfl ?_
              refine A_getf ok.b cf7 2 (by decide) fl_X7_48 gp0 (gps (gps gp0)) dX7_append_106 ?_
              refine A_iconst ok.b (v := 1) dX7_append_109 (by decide) ?_
              refine A_iadd ok.b dX7_append_110 ?_
              rw [show nI ((s.wth 0).wbl (s.bl + k)).bl + 1 = nI (s.bl + (k + 1)) from nI_1 _]
              refine A_putf ok.b cf7 2 (by decide) rfl fl_X7_48 gp0 rfl rfl (gp_lt (gps (gps gp0))) (wps (wps wp0)) wp0 dX7_append_111 ?_
              refine A_iinc ok.b (v := _ + 1) dX7_append_114 (gps (gps (gps (gps (gps (gps gp0)))))) rfl (by decide) (sts (sts (sts (sts (sts (sts1 rfl st0)))))) ?_
              refine A_goto ok.b (tgt := 23) dX7_append_117 (by decide) ?_
              refine A_lv (lleK (lleK (lleK (lleK (lleK (lleK (lleK (lleD lle0)))))))) ?_
              rw [foldN_s] at ih
              rw [apR, wsR, if_pos c33, if_pos c44, if_pos c55, if_neg c66, abR] at ih
              rw [nI_1]
              exact ih
          · skip
            refine A_iload_n ok.b rfl dX7_append_58 (gps (gps (gps gp0))) ?_
            refine A_goto ok.b (tgt := 76) dX7_append_59 (by decide) ?_
            refine A_istore ok.b dX7_append_76 (by decide) (sts (sts (sts (sts (sts (sts (sts1 rfl st0))))))) ?_
            refine A_aload_n ok.b rfl dX7_append_78 gp0 ?_
            refine A_getf ok.b cf7 1 (by decide) fl_X7_9 gp0 (gps gp0) dX7_append_79 ?_
            refine A_aload_n ok.b rfl dX7_append_82 gp0 ?_
            refine A_getf ok.b cf7 2 (by decide) fl_X7_48 gp0 (gps (gps gp0)) dX7_append_83 ?_
            refine A_iload ok.b dX7_append_86 (gps (gps (gps (gps (gps (gps (gps gp0))))))) ?_
            refine A_bipush ok.b (v := 24) dX7_append_88 (by decide) ?_
            refine A_bipush ok.b (v := 8) dX7_append_90 (by decide) ?_
            refine A_iload ok.b dX7_append_92 (gps (gps (gps (gps (gps (gps gp0)))))) ?_
            refine A_iconst ok.b (v := 4) dX7_append_94 (by decide) ?_
            refine A_irem ok.b dX7_append_95 (by decide) ?_
            refine A_imul ok.b dX7_append_96 ?_
            refine A_isub ok.b dX7_append_97 ?_
            refine A_ishr ok.b dX7_append_98 ?_
            refine A_sipush ok.b (v := 255) dX7_append_99 (by decide) ?_
            refine A_iand ok.b dX7_append_102 ?_
            refine A_iast ok.b (gps gp0) (show Ix (nI (s.bl + k)) 800 (s.bl + k) from ix_n (by omega) (by decide)) (wps wp0) dX7_append_103 ?_
            refine A_aload_n ok.b rfl dX7_append_104 gp0 ?_
            refine A_dup ok.b dX7_append_105 rfl ?_
            refine A_getf ok.b cf7 2 (by decide) fl_X7_48 gp0 (gps (gps gp0)) dX7_append_106 ?_
            refine A_iconst ok.b (v := 1) dX7_append_109 (by decide) ?_
            refine A_iadd ok.b dX7_append_110 ?_
            rw [show nI ((s.wth 0).wbl (s.bl + k)).bl + 1 = nI (s.bl + (k + 1)) from nI_1 _]
            refine A_putf ok.b cf7 2 (by decide) rfl fl_X7_48 gp0 rfl rfl (gp_lt (gps (gps gp0))) (wps (wps wp0)) wp0 dX7_append_111 ?_
            refine A_iinc ok.b (v := _ + 1) dX7_append_114 (gps (gps (gps (gps (gps (gps gp0)))))) rfl (by decide) (sts (sts (sts (sts (sts (sts1 rfl st0)))))) ?_
            refine A_goto ok.b (tgt := 23) dX7_append_117 (by decide) ?_
            refine A_lv (lleK (lleK (lleK (lleK (lleK (lleK (lleK (lleD lle0)))))))) ?_
            rw [foldN_s] at ih
            rw [apR, wsR, if_pos c33, if_pos c44, if_neg c55, abR] at ih
            rw [nI_1]
            exact ih
        · skip
          refine A_iload_n ok.b rfl dX7_append_47 (gps (gps gp0)) ?_
          refine A_goto ok.b (tgt := 76) dX7_append_48 (by decide) ?_
          refine A_istore ok.b dX7_append_76 (by decide) (sts (sts (sts (sts (sts (sts (sts1 rfl st0))))))) ?_
          refine A_aload_n ok.b rfl dX7_append_78 gp0 ?_
          refine A_getf ok.b cf7 1 (by decide) fl_X7_9 gp0 (gps gp0) dX7_append_79 ?_
          refine A_aload_n ok.b rfl dX7_append_82 gp0 ?_
          refine A_getf ok.b cf7 2 (by decide) fl_X7_48 gp0 (gps (gps gp0)) dX7_append_83 ?_
          refine A_iload ok.b dX7_append_86 (gps (gps (gps (gps (gps (gps (gps gp0))))))) ?_
          refine A_bipush ok.b (v := 24) dX7_append_88 (by decide) ?_
          refine A_bipush ok.b (v := 8) dX7_append_90 (by decide) ?_
          refine A_iload ok.b dX7_append_92 (gps (gps (gps (gps (gps (gps gp0)))))) ?_
          refine A_iconst ok.b (v := 4) dX7_append_94 (by decide) ?_
          refine A_irem ok.b dX7_append_95 (by decide) ?_
          refine A_imul ok.b dX7_append_96 ?_
          refine A_isub ok.b dX7_append_97 ?_
          refine A_ishr ok.b dX7_append_98 ?_
          refine A_sipush ok.b (v := 255) dX7_append_99 (by decide) ?_
          refine A_iand ok.b dX7_append_102 ?_
          refine A_iast ok.b (gps gp0) (show Ix (nI (s.bl + k)) 800 (s.bl + k) from ix_n (by omega) (by decide)) (wps wp0) dX7_append_103 ?_
          refine A_aload_n ok.b rfl dX7_append_104 gp0 ?_
          refine A_dup ok.b dX7_append_105 rfl ?_
          refine A_getf ok.b cf7 2 (by decide) fl_X7_48 gp0 (gps (gps gp0)) dX7_append_106 ?_
          refine A_iconst ok.b (v := 1) dX7_append_109 (by decide) ?_
          refine A_iadd ok.b dX7_append_110 ?_
          rw [show nI ((s.wth 0).wbl (s.bl + k)).bl + 1 = nI (s.bl + (k + 1)) from nI_1 _]
          refine A_putf ok.b cf7 2 (by decide) rfl fl_X7_48 gp0 rfl rfl (gp_lt (gps (gps gp0))) (wps (wps wp0)) wp0 dX7_append_111 ?_
          refine A_iinc ok.b (v := _ + 1) dX7_append_114 (gps (gps (gps (gps (gps (gps gp0)))))) rfl (by decide) (sts (sts (sts (sts (sts (sts1 rfl st0)))))) ?_
          refine A_goto ok.b (tgt := 23) dX7_append_117 (by decide) ?_
          refine A_lv (lleK (lleK (lleK (lleK (lleK (lleK (lleK (lleD lle0)))))))) ?_
          rw [foldN_s] at ih
          rw [apR, wsR, if_pos c33, if_neg c44, abR] at ih
          rw [nI_1]
          exact ih
      · skip
        refine A_iload_n ok.b rfl dX7_append_36 (gps gp0) ?_
        refine A_goto ok.b (tgt := 76) dX7_append_37 (by decide) ?_
        refine A_istore ok.b dX7_append_76 (by decide) (sts (sts (sts (sts (sts (sts (sts1 rfl st0))))))) ?_
        refine A_aload_n ok.b rfl dX7_append_78 gp0 ?_
        refine A_getf ok.b cf7 1 (by decide) fl_X7_9 gp0 (gps gp0) dX7_append_79 ?_
        refine A_aload_n ok.b rfl dX7_append_82 gp0 ?_
        refine A_getf ok.b cf7 2 (by decide) fl_X7_48 gp0 (gps (gps gp0)) dX7_append_83 ?_
        refine A_iload ok.b dX7_append_86 (gps (gps (gps (gps (gps (gps (gps gp0))))))) ?_
        refine A_bipush ok.b (v := 24) dX7_append_88 (by decide) ?_
        refine A_bipush ok.b (v := 8) dX7_append_90 (by decide) ?_
        refine A_iload ok.b dX7_append_92 (gps (gps (gps (gps (gps (gps gp0)))))) ?_
        refine A_iconst ok.b (v := 4) dX7_append_94 (by decide) ?_
        refine A_irem ok.b dX7_append_95 (by decide) ?_
        refine A_imul ok.b dX7_append_96 ?_
        refine A_isub ok.b dX7_append_97 ?_
        refine A_ishr ok.b dX7_append_98 ?_
        refine A_sipush ok.b (v := 255) dX7_append_99 (by decide) ?_
        refine A_iand ok.b dX7_append_102 ?_
        refine A_iast ok.b (gps gp0) (show Ix (nI (s.bl + k)) 800 (s.bl + k) from ix_n (by omega) (by decide)) (wps wp0) dX7_append_103 ?_
        refine A_aload_n ok.b rfl dX7_append_104 gp0 ?_
        refine A_dup ok.b dX7_append_105 rfl ?_
        refine A_getf ok.b cf7 2 (by decide) fl_X7_48 gp0 (gps (gps gp0)) dX7_append_106 ?_
        refine A_iconst ok.b (v := 1) dX7_append_109 (by decide) ?_
        refine A_iadd ok.b dX7_append_110 ?_
        rw [show nI ((s.wth 0).wbl (s.bl + k)).bl + 1 = nI (s.bl + (k + 1)) from nI_1 _]
        refine A_putf ok.b cf7 2 (by decide) rfl fl_X7_48 gp0 rfl rfl (gp_lt (gps (gps gp0))) (wps (wps wp0)) wp0 dX7_append_111 ?_
        refine A_iinc ok.b (v := _ + 1) dX7_append_114 (gps (gps (gps (gps (gps (gps gp0)))))) rfl (by decide) (sts (sts (sts (sts (sts (sts1 rfl st0)))))) ?_
        refine A_goto ok.b (tgt := 23) dX7_append_117 (by decide) ?_
        refine A_lv (lleK (lleK (lleK (lleK (lleK (lleK (lleK (lleD lle0)))))))) ?_
        rw [foldN_s] at ih
        rw [apR, wsR, if_neg c33, abR] at ih
        rw [nI_1]
        exact ih
  refine A_aload_n ok.b rfl dX7_append_0 gp0 ?_
  refine A_iconst ok.b (v := 0) dX7_append_1 (by decide) ?_
  refine A_putf ok.b cf7 0 (by decide) rfl fl_X7_45 gp0 rfl rfl (gp_lt gp0) wp0 wp0 dX7_append_2 ?_
  refine A_aload_n ok.b rfl dX7_append_5 gp0 ?_
  refine A_getf ok.b cf7 2 (by decide) fl_X7_48 gp0 (gps (gps gp0)) dX7_append_6 ?_
  refine A_bipush ok.b (v := 20) dX7_append_9 (by decide) ?_
  refine A_iadd ok.b dX7_append_11 ?_
  rw [show nI s.bl + 20 = nI (s.bl + 20) from nI_add _ 20]
  refine A_sipush ok.b (v := 800) dX7_append_12 (by decide) ?_
  refine A_icmp_le ok.b (tgt := 20) dX7_append_15 (by decide) (fun c15 => ?_) (fun c15 => ?_)
  · skip
    refine A_iconst ok.b (v := 0) dX7_append_20 (by decide) ?_
    refine A_istore ok.b dX7_append_21 (by decide) (sts (sts (sts (sts (sts (sts1 rfl st0)))))) ?_
    have h7 : s.bl ≤ 780 := by
      rcases Nat.lt_or_ge 780 s.bl with h | h
      · exact absurd c15 (nI_ge (a := 800) (b := s.bl + 20) (by omega) (by omega))
      · exact h
    exact L h7 0 (Nat.zero_le _)
  · skip
    refine A_iconst ok.b (v := (-1)) dX7_append_18 (by decide) ?_
    refine A_iret ok dX7_append_19 (Nat.le_of_ble_eq_true rfl) (Nat.le_of_ble_eq_true rfl) ?_
    have h7 : 780 < s.bl := by
      rcases Nat.lt_or_ge 780 s.bl with h | h
      · exact h
      · exact absurd (nI_le (a := s.bl + 20) (b := 800) (by omega) (by decide)) c15
    exact ⟨by rw [if_pos h7], by rw [if_pos h7]; rfl⟩
