theorem ml_X5_59 : Cond.methodLink RX5 59 arraycopyName ∈ GT := gt_of (by decide +kernel) rfl
def tunW (g : Gl) (a : Nat → Nat) (p : Nat) (T : TD) : va_W := [
  (a 0, .inr (5, [.ref p, .int (tClock T), .int (tFire T), .int (tIns T), .long (tLeft T), .long (tRem T), .ref (a 1), .ref (a 2), .ref (a 3), .ref (a 4), .ref (a 5), .ref (a 6), .ref (a 7), .ref (a 8)])),
  (a 1, .inl (g.2.1 1, 12, .inr (.inl (tSmoke T)))), (a 2, .inl (g.2.1 0, 12, .inl (tFan T))), (a 3, .inl (g.2.1 0, 12, .inl (tBay T))), (a 4, .inl (g.2.1 3, 24, .inl (tRed T))), (a 5, .inl (g.2.1 0, 24, .inl (tLane T))), (a 6, .inl (g.2.1 0, 20, .inl (tCs T))), (a 7, .inl (g.2.1 0, 20, .inl (tCd T))), (a 8, .inl (g.2.1 1, 20, .inr (.inl (tEx T))))]
def planW (g : Gl) (b : Nat → Nat) (P : PD) : va_W := [
  (b 0, .inr (2, [.int (nI (pN P)), .int (pCap P), .int (pDraft P), .int (nI (pCar P)), .ref (b 1), .ref (b 2), .ref (b 3)])), (b 1, .inl (g.2.1 0, 12, .inl (pVent P))), (b 2, .inl (g.2.1 3, 12, .inl (pHf P))), (b 3, .inr (3, [.ref (b 4), .ref (b 5)])), (b 4, .inl (g.2.1 0, pNc P, .inl (pCodes P))), (b 5, .inl (g.2.1 1, 11, .inr (.inl (pStk P))))]
theorem tpW_eq (g : Gl) (a b : Nat → Nat) (T : TD) (P : PD) : tpW g a b T P = tunW g a (b 0) T ++ planW g b P := rfl
theorem cpy_at {α : Type} {f g : Nat → α} {n : Int32} {N : Nat} (hn : n.toNatClampNeg = N) {j : Nat} (h : j < N) : va_cpy f g (0 : Int32).toNatClampNeg (0 : Int32).toNatClampNeg n.toNatClampNeg j = f j := by
  rw [hn]
  show va_cpy f g 0 0 N j = f j
  rw [pk_cpy_in (Nat.zero_le _) (by omega)]
  congr 1
  omega
theorem nar_b {x : Int32} (h : x = 0 ∨ x = 1) : vp_nar .boolean x = x := by rcases h with rfl | rfl <;> rfl
def redK (T T2 : TD) (k : Nat) : Nat → Int32 := fun j => if j < k then tRed T2 j else tRed T j

set_option maxRecDepth 20000 in
set_option maxHeartbeats 2000000 in
theorem c_copyFrom (l : Launch) (g : Gl) (a a2 : Nat → Nat) (p p2 : Nat) (T T2 : TD) (hrd : ∀ j, j < 24 → tRed T2 j = 0 ∨ tRed T2 j = 1) : Ct l g yX5_copyFrom cX5_copyFrom 3 none 1 80 0 0 [.ref (a 0), .ref (a2 0)] (tunW g a p T ++ tunW g a2 p2 T2) (fun v w => v = none ∧ w = tunW g a p2 T2 ++ tunW g a2 p2 T2) noX := by
  refine Ct.intro [some (.ref (a 0)), some (.ref (a2 0)), none] (by decide +kernel) (fun _ h => h) (Nat.le_of_ble_eq_true rfl) (fun A H0 K ok => ?_)
  have L : ∀ k, k ≤ 24 → AW g A H0 3 K 155 [some (.ref (a 0)), some (.ref (a2 0)), some (.int (nI k))] [] (tunW g a p2 (sRed T2 (redK T T2 k)) ++ tunW g a2 p2 T2) 0 0 := by
    refine up_ind 24 ?_ (fun k hk ih => ?_)
    · refine A_ext (ws2 := tunW g a p2 T2 ++ tunW g a2 p2 T2) ?_ ?_
      · exact weqs (weqs (weqs (weqs (weqc (ceq_i (fun j hj => by show redK T T2 24 j = _; rw [redK, if_pos hj])) (weq_r _)))))
      refine A_iload_n ok.b rfl dX5_copyFrom_155 (gps (gps gp0)) ?_
      refine A_bipush ok.b (v := 24) dX5_copyFrom_156 (by decide) ?_
      refine A_icmp_ge ok.b (tgt := 179) dX5_copyFrom_158 (by decide) (fun c158 => ?_) (fun c158 => (c158 (by decide)).elim)
      refine A_vret ok dX5_copyFrom_179 (Nat.le_of_ble_eq_true rfl) (Nat.le_of_ble_eq_true rfl) ?_
      exact ⟨rfl, rfl⟩
    · skip
      refine A_iload_n ok.b rfl dX5_copyFrom_155 (gps (gps gp0)) ?_
      refine A_bipush ok.b (v := 24) dX5_copyFrom_156 (by decide) ?_
      refine A_icmp_ge ok.b (tgt := 179) dX5_copyFrom_158 (by decide) (fun c158 => ((nI_ge (b := 24) hk (by omega)) c158).elim) (fun c158 => ?_)
      refine A_aload_n ok.b rfl dX5_copyFrom_161 gp0 ?_
      refine A_getf ok.b cf5 9 (by decide) fl_X5_26 gp0 (gps (gps (gps (gps (gps (gps (gps (gps (gps gp0))))))))) dX5_copyFrom_162 ?_
      refine A_iload_n ok.b rfl dX5_copyFrom_165 (gps (gps gp0)) ?_
      refine A_aload_n ok.b rfl dX5_copyFrom_166 (gps gp0) ?_
      refine A_getf ok.b cf5 9 (by decide) fl_X5_26 (gps (gps (gps (gps (gps (gps (gps (gps (gps gp0))))))))) (gps (gps (gps (gps (gps (gps (gps (gps (gps gp0))))))))) dX5_copyFrom_167 ?_
      refine A_iload_n ok.b rfl dX5_copyFrom_170 (gps (gps gp0)) ?_
      refine A_zald ok.b (gps (gps (gps (gps (gps (gps (gps (gps (gps (gps (gps (gps (gps gp0))))))))))))) (ix_n (by omega) (by decide)) dX5_copyFrom_171 ?_
      refine A_zast ok.b (gps (gps (gps (gps gp0)))) (ix_n (by omega) (by decide)) (wps (wps (wps (wps wp0)))) dX5_copyFrom_172 ?_
      refine A_iinc ok.b (v := _ + 1) dX5_copyFrom_173 (gps (gps gp0)) rfl (by decide) (sts (sts1 rfl st0)) ?_
      refine A_goto ok.b (tgt := 155) dX5_copyFrom_176 (by decide) ?_
      refine A_ext (ws2 := tunW g a p2 (sRed T2 (redK T T2 (k + 1))) ++ tunW g a2 p2 T2) ?_ ?_
      · refine weqs (weqs (weqs (weqs (weqc (ceq_i (fun j hj => ?_)) (weq_r _)))))
        show upd (redK T T2 k) k (vp_nar .boolean (tRed T2 k)) j = redK T T2 (k + 1) j
        rw [nar_b (hrd k hk), upd_at]
        unfold redK
        by_cases h : j = k
        · rw [if_pos h, if_pos (by omega), h]
        · rw [if_neg h]
          by_cases h2 : j < k
          · rw [if_pos h2, if_pos (by omega)]
          · rw [if_neg h2, if_neg (by omega)]
      rw [nI_1]
      exact ih
  refine A_aload_n ok.b rfl dX5_copyFrom_0 gp0 ?_
  refine A_aload_n ok.b rfl dX5_copyFrom_1 (gps gp0) ?_
  refine A_getf ok.b cf5 0 (by decide) fl_X5_42 (gps (gps (gps (gps (gps (gps (gps (gps (gps gp0))))))))) gp0 dX5_copyFrom_2 ?_
  refine A_putf ok.b cf5 0 (by decide) rfl fl_X5_42 gp0 rfl rfl (gp_lt gp0) wp0 wp0 dX5_copyFrom_5 ?_
  refine A_aload_n ok.b rfl dX5_copyFrom_8 gp0 ?_
  refine A_aload_n ok.b rfl dX5_copyFrom_9 (gps gp0) ?_
  refine A_getf ok.b cf5 1 (by decide) fl_X5_46 (gps (gps (gps (gps (gps (gps (gps (gps (gps gp0))))))))) (gps gp0) dX5_copyFrom_10 ?_
  refine A_putf ok.b cf5 1 (by decide) rfl fl_X5_46 gp0 rfl rfl (gp_lt (gps gp0)) (wps wp0) wp0 dX5_copyFrom_13 ?_
  refine A_aload_n ok.b rfl dX5_copyFrom_16 gp0 ?_
  refine A_aload_n ok.b rfl dX5_copyFrom_17 (gps gp0) ?_
  refine A_getf ok.b cf5 2 (by decide) fl_X5_9 (gps (gps (gps (gps (gps (gps (gps (gps (gps gp0))))))))) (gps (gps gp0)) dX5_copyFrom_18 ?_
  refine A_putf ok.b cf5 2 (by decide) rfl fl_X5_9 gp0 rfl rfl (gp_lt (gps (gps gp0))) (wps (wps wp0)) wp0 dX5_copyFrom_21 ?_
  refine A_aload_n ok.b rfl dX5_copyFrom_24 gp0 ?_
  refine A_aload_n ok.b rfl dX5_copyFrom_25 (gps gp0) ?_
  refine A_getf ok.b cf5 3 (by decide) fl_X5_49 (gps (gps (gps (gps (gps (gps (gps (gps (gps gp0))))))))) (gps (gps (gps gp0))) dX5_copyFrom_26 ?_
  refine A_putf ok.b cf5 3 (by decide) rfl fl_X5_49 gp0 rfl rfl (gp_lt (gps (gps (gps gp0)))) (wps (wps (wps wp0))) wp0 dX5_copyFrom_29 ?_
  refine A_aload_n ok.b rfl dX5_copyFrom_32 gp0 ?_
  refine A_aload_n ok.b rfl dX5_copyFrom_33 (gps gp0) ?_
  refine A_getf ok.b cf5 4 (by decide) fl_X5_52 (gps (gps (gps (gps (gps (gps (gps (gps (gps gp0))))))))) (gps (gps (gps (gps gp0)))) dX5_copyFrom_34 ?_
  refine A_putf ok.b cf5 4 (by decide) rfl fl_X5_52 gp0 rfl rfl (gp_lt (gps (gps (gps (gps gp0))))) (wps (wps (wps (wps wp0)))) wp0 dX5_copyFrom_37 ?_
  refine A_aload_n ok.b rfl dX5_copyFrom_40 gp0 ?_
  refine A_aload_n ok.b rfl dX5_copyFrom_41 (gps gp0) ?_
  refine A_getf ok.b cf5 5 (by decide) fl_X5_56 (gps (gps (gps (gps (gps (gps (gps (gps (gps gp0))))))))) (gps (gps (gps (gps (gps gp0))))) dX5_copyFrom_42 ?_
  refine A_putf ok.b cf5 5 (by decide) rfl fl_X5_56 gp0 rfl rfl (gp_lt (gps (gps (gps (gps (gps gp0)))))) (wps (wps (wps (wps (wps wp0))))) wp0 dX5_copyFrom_45 ?_
  refine A_aload_n ok.b rfl dX5_copyFrom_48 (gps gp0) ?_
  refine A_getf ok.b cf5 6 (by decide) fl_X5_15 (gps (gps (gps (gps (gps (gps (gps (gps (gps gp0))))))))) (gps (gps (gps (gps (gps (gps gp0)))))) dX5_copyFrom_49 ?_
  refine A_iconst ok.b (v := 0) dX5_copyFrom_52 (by decide) ?_
  refine A_aload_n ok.b rfl dX5_copyFrom_53 gp0 ?_
  refine A_getf ok.b cf5 6 (by decide) fl_X5_15 gp0 (gps (gps (gps (gps (gps (gps gp0)))))) dX5_copyFrom_54 ?_
  refine A_iconst ok.b (v := 0) dX5_copyFrom_57 (by decide) ?_
  refine A_bipush ok.b (v := 12) dX5_copyFrom_58 (by decide) ?_
  refine A_cpyl ok.b 1 ml_X5_59 (gps (gps (gps (gps (gps (gps (gps (gps (gps (gps gp0)))))))))) (gps gp0) rfl rfl (by decide) (by decide) (by decide) (by decide) (by decide) (fun _ _ => rfl) (Nat.le_of_ble_eq_true rfl) (by decide) (wps wp0) dX5_copyFrom_60 ?_
  refine A_aload_n ok.b rfl dX5_copyFrom_63 (gps gp0) ?_
  refine A_getf ok.b cf5 7 (by decide) fl_X5_19 (gps (gps (gps (gps (gps (gps (gps (gps (gps gp0))))))))) (gps (gps (gps (gps (gps (gps (gps gp0))))))) dX5_copyFrom_64 ?_
  refine A_iconst ok.b (v := 0) dX5_copyFrom_67 (by decide) ?_
  refine A_aload_n ok.b rfl dX5_copyFrom_68 gp0 ?_
  refine A_getf ok.b cf5 7 (by decide) fl_X5_19 gp0 (gps (gps (gps (gps (gps (gps (gps gp0))))))) dX5_copyFrom_69 ?_
  refine A_iconst ok.b (v := 0) dX5_copyFrom_72 (by decide) ?_
  refine A_bipush ok.b (v := 12) dX5_copyFrom_73 (by decide) ?_
  refine A_cpyi ok.b 0 ml_X5_59 (gps (gps (gps (gps (gps (gps (gps (gps (gps (gps (gps gp0))))))))))) (gps (gps gp0)) rfl rfl (by decide) (by decide) (by decide) (by decide) (by decide) (fun _ _ => rfl) (Nat.le_of_ble_eq_true rfl) (by decide) (wps (wps wp0)) dX5_copyFrom_75 ?_
  refine A_aload_n ok.b rfl dX5_copyFrom_78 (gps gp0) ?_
  refine A_getf ok.b cf5 8 (by decide) fl_X5_23 (gps (gps (gps (gps (gps (gps (gps (gps (gps gp0))))))))) (gps (gps (gps (gps (gps (gps (gps (gps gp0)))))))) dX5_copyFrom_79 ?_
  refine A_iconst ok.b (v := 0) dX5_copyFrom_82 (by decide) ?_
  refine A_aload_n ok.b rfl dX5_copyFrom_83 gp0 ?_
  refine A_getf ok.b cf5 8 (by decide) fl_X5_23 gp0 (gps (gps (gps (gps (gps (gps (gps (gps gp0)))))))) dX5_copyFrom_84 ?_
  refine A_iconst ok.b (v := 0) dX5_copyFrom_87 (by decide) ?_
  refine A_bipush ok.b (v := 12) dX5_copyFrom_88 (by decide) ?_
  refine A_cpyi ok.b 0 ml_X5_59 (gps (gps (gps (gps (gps (gps (gps (gps (gps (gps (gps (gps gp0)))))))))))) (gps (gps (gps gp0))) rfl rfl (by decide) (by decide) (by decide) (by decide) (by decide) (fun _ _ => rfl) (Nat.le_of_ble_eq_true rfl) (by decide) (wps (wps (wps wp0))) dX5_copyFrom_90 ?_
  refine A_aload_n ok.b rfl dX5_copyFrom_93 (gps gp0) ?_
  refine A_getf ok.b cf5 10 (by decide) fl_X5_30 (gps (gps (gps (gps (gps (gps (gps (gps (gps gp0))))))))) (gps (gps (gps (gps (gps (gps (gps (gps (gps (gps gp0)))))))))) dX5_copyFrom_94 ?_
  refine A_iconst ok.b (v := 0) dX5_copyFrom_97 (by decide) ?_
  refine A_aload_n ok.b rfl dX5_copyFrom_98 gp0 ?_
  refine A_getf ok.b cf5 10 (by decide) fl_X5_30 gp0 (gps (gps (gps (gps (gps (gps (gps (gps (gps (gps gp0)))))))))) dX5_copyFrom_99 ?_
  refine A_iconst ok.b (v := 0) dX5_copyFrom_102 (by decide) ?_
  refine A_bipush ok.b (v := 24) dX5_copyFrom_103 (by decide) ?_
  refine A_cpyi ok.b 0 ml_X5_59 (gps (gps (gps (gps (gps (gps (gps (gps (gps (gps (gps (gps (gps (gps gp0)))))))))))))) (gps (gps (gps (gps (gps gp0))))) rfl rfl (by decide) (by decide) (by decide) (by decide) (by decide) (fun _ _ => rfl) (Nat.le_of_ble_eq_true rfl) (by decide) (wps (wps (wps (wps (wps wp0))))) dX5_copyFrom_105 ?_
  refine A_aload_n ok.b rfl dX5_copyFrom_108 (gps gp0) ?_
  refine A_getf ok.b cf5 11 (by decide) fl_X5_33 (gps (gps (gps (gps (gps (gps (gps (gps (gps gp0))))))))) (gps (gps (gps (gps (gps (gps (gps (gps (gps (gps (gps gp0))))))))))) dX5_copyFrom_109 ?_
  refine A_iconst ok.b (v := 0) dX5_copyFrom_112 (by decide) ?_
  refine A_aload_n ok.b rfl dX5_copyFrom_113 gp0 ?_
  refine A_getf ok.b cf5 11 (by decide) fl_X5_33 gp0 (gps (gps (gps (gps (gps (gps (gps (gps (gps (gps (gps gp0))))))))))) dX5_copyFrom_114 ?_
  refine A_iconst ok.b (v := 0) dX5_copyFrom_117 (by decide) ?_
  refine A_bipush ok.b (v := 20) dX5_copyFrom_118 (by decide) ?_
  refine A_cpyi ok.b 0 ml_X5_59 (gps (gps (gps (gps (gps (gps (gps (gps (gps (gps (gps (gps (gps (gps (gps gp0))))))))))))))) (gps (gps (gps (gps (gps (gps gp0)))))) rfl rfl (by decide) (by decide) (by decide) (by decide) (by decide) (fun _ _ => rfl) (Nat.le_of_ble_eq_true rfl) (by decide) (wps (wps (wps (wps (wps (wps wp0)))))) dX5_copyFrom_120 ?_
  refine A_aload_n ok.b rfl dX5_copyFrom_123 (gps gp0) ?_
  refine A_getf ok.b cf5 12 (by decide) fl_X5_36 (gps (gps (gps (gps (gps (gps (gps (gps (gps gp0))))))))) (gps (gps (gps (gps (gps (gps (gps (gps (gps (gps (gps (gps gp0)))))))))))) dX5_copyFrom_124 ?_
  refine A_iconst ok.b (v := 0) dX5_copyFrom_127 (by decide) ?_
  refine A_aload_n ok.b rfl dX5_copyFrom_128 gp0 ?_
  refine A_getf ok.b cf5 12 (by decide) fl_X5_36 gp0 (gps (gps (gps (gps (gps (gps (gps (gps (gps (gps (gps (gps gp0)))))))))))) dX5_copyFrom_129 ?_
  refine A_iconst ok.b (v := 0) dX5_copyFrom_132 (by decide) ?_
  refine A_bipush ok.b (v := 20) dX5_copyFrom_133 (by decide) ?_
  refine A_cpyi ok.b 0 ml_X5_59 (gps (gps (gps (gps (gps (gps (gps (gps (gps (gps (gps (gps (gps (gps (gps (gps gp0)))))))))))))))) (gps (gps (gps (gps (gps (gps (gps gp0))))))) rfl rfl (by decide) (by decide) (by decide) (by decide) (by decide) (fun _ _ => rfl) (Nat.le_of_ble_eq_true rfl) (by decide) (wps (wps (wps (wps (wps (wps (wps wp0))))))) dX5_copyFrom_135 ?_
  refine A_aload_n ok.b rfl dX5_copyFrom_138 (gps gp0) ?_
  refine A_getf ok.b cf5 13 (by decide) fl_X5_39 (gps (gps (gps (gps (gps (gps (gps (gps (gps gp0))))))))) (gps (gps (gps (gps (gps (gps (gps (gps (gps (gps (gps (gps (gps gp0))))))))))))) dX5_copyFrom_139 ?_
  refine A_iconst ok.b (v := 0) dX5_copyFrom_142 (by decide) ?_
  refine A_aload_n ok.b rfl dX5_copyFrom_143 gp0 ?_
  refine A_getf ok.b cf5 13 (by decide) fl_X5_39 gp0 (gps (gps (gps (gps (gps (gps (gps (gps (gps (gps (gps (gps (gps gp0))))))))))))) dX5_copyFrom_144 ?_
  refine A_iconst ok.b (v := 0) dX5_copyFrom_147 (by decide) ?_
  refine A_bipush ok.b (v := 20) dX5_copyFrom_148 (by decide) ?_
  refine A_cpyl ok.b 1 ml_X5_59 (gps (gps (gps (gps (gps (gps (gps (gps (gps (gps (gps (gps (gps (gps (gps (gps (gps gp0))))))))))))))))) (gps (gps (gps (gps (gps (gps (gps (gps gp0)))))))) rfl rfl (by decide) (by decide) (by decide) (by decide) (by decide) (fun _ _ => rfl) (Nat.le_of_ble_eq_true rfl) (by decide) (wps (wps (wps (wps (wps (wps (wps (wps wp0)))))))) dX5_copyFrom_150 ?_
  refine A_ext (ws2 := tunW g a p2 (sRed T2 (redK T T2 0)) ++ tunW g a2 p2 T2) ?_ ?_
  · exact weqs (weqc (ceq_l (fun j hj => cpy_at rfl hj)) (weqc (ceq_i (fun j hj => cpy_at rfl hj)) (weqc (ceq_i (fun j hj => cpy_at rfl hj)) (weqc (ceq_i (fun j hj => by show _ = redK T T2 0 j; rw [redK, if_neg (Nat.not_lt_zero j)])) (weqc (ceq_i (fun j hj => cpy_at rfl hj)) (weqc (ceq_i (fun j hj => cpy_at rfl hj)) (weqc (ceq_i (fun j hj => cpy_at rfl hj)) (weqc (ceq_l (fun j hj => cpy_at rfl hj)) (weq_r _)))))))))
  refine A_iconst ok.b (v := 0) dX5_copyFrom_153 (by decide) ?_
  refine A_istore_n ok.b rfl dX5_copyFrom_154 (by decide) (sts (sts1 rfl st0)) ?_
  exact L 0 (Nat.zero_le _)
def sCar (P : PD) (c : Nat) : PD := (pN P, pCap P, pDraft P, c, P.2.2.2.2)
def addF (P : PD) (s0 d0 : Int32) (T : TD) : TD := sIns (incL (sCd (sCs T (upd (tCs T) (pCar P) s0)) (upd (tCd T) (pCar P) d0)) s0 d0) (tIns T + 1)
set_option maxRecDepth 20000 in
set_option maxHeartbeats 2000000 in
theorem c_addCar (l : Launch) (g : Gl) (a b : Nat → Nat) (T : TD) (P : PD) (hn : pN P ≤ 12) (hc : pCar P < 20) (s0 d0 : Int32) (hs : Inn s0 (pN P)) : Ct l g yX5_addCar cX5_addCar 3 none 1 40 0 0 [.ref (a 0), .int s0, .int d0] (tpW g a b T P) (fun v w => v = none ∧ w = tpW g a b (addF P s0 d0 T) (sCar P (pCar P + 1))) noX := by
  refine Ct.intro [some (.ref (a 0)), some (.int s0), some (.int d0)] (by decide +kernel) (fun _ h => h) (Nat.le_of_ble_eq_true rfl) (fun A H0 K ok => ?_)
  refine A_aload_n ok.b rfl dX5_addCar_0 gp0 ?_
  refine A_getf ok.b cf5 11 (by decide) fl_X5_33 gp0 (gps (gps (gps (gps (gps (gps (gps (gps (gps (gps (gps gp0))))))))))) dX5_addCar_1 ?_
  refine A_aload_n ok.b rfl dX5_addCar_4 gp0 ?_
  refine A_getf ok.b cf5 0 (by decide) fl_X5_42 gp0 gp0 dX5_addCar_5 ?_
  refine A_getf ok.b cf2 3 (by decide) fl_X5_74 (gps (gps (gps (gps (gps (gps (gps (gps (gps gp0))))))))) (gps (gps (gps gp0))) dX5_addCar_8 ?_
  refine A_iload_n ok.b rfl dX5_addCar_11 (gps gp0) ?_
  refine A_iast ok.b (gps (gps (gps (gps (gps (gps gp0)))))) (ix_n (by omega) (by decide)) (wps (wps (wps (wps (wps (wps wp0)))))) dX5_addCar_12 ?_
  refine A_aload_n ok.b rfl dX5_addCar_13 gp0 ?_
  refine A_getf ok.b cf5 12 (by decide) fl_X5_36 gp0 (gps (gps (gps (gps (gps (gps (gps (gps (gps (gps (gps (gps gp0)))))))))))) dX5_addCar_14 ?_
  refine A_aload_n ok.b rfl dX5_addCar_17 gp0 ?_
  refine A_getf ok.b cf5 0 (by decide) fl_X5_42 gp0 gp0 dX5_addCar_18 ?_
  refine A_getf ok.b cf2 3 (by decide) fl_X5_74 (gps (gps (gps (gps (gps (gps (gps (gps (gps gp0))))))))) (gps (gps (gps gp0))) dX5_addCar_21 ?_
  refine A_iload_n ok.b rfl dX5_addCar_24 (gps (gps gp0)) ?_
  refine A_iast ok.b (gps (gps (gps (gps (gps (gps (gps gp0))))))) (ix_n (by omega) (by decide)) (wps (wps (wps (wps (wps (wps (wps wp0))))))) dX5_addCar_25 ?_
  refine A_aload_n ok.b rfl dX5_addCar_26 gp0 ?_
  refine A_getf ok.b cf5 10 (by decide) fl_X5_30 gp0 (gps (gps (gps (gps (gps (gps (gps (gps (gps (gps gp0)))))))))) dX5_addCar_27 ?_
  refine A_iload_n ok.b rfl dX5_addCar_30 (gps gp0) ?_
  refine A_iload_n ok.b rfl dX5_addCar_31 (gps (gps gp0)) ?_
  refine A_pureSN ok.b (As := [_, _]) mf_X6_laneIndex (List.mem_of_getElem? (i := 4) rfl) sc_X6_laneIndex (c_laneIndex l g _ _) rfl rfl dX5_addCar_32 (Nat.le_of_ble_eq_true rfl) ⟨(Nat.le_of_ble_eq_true rfl), (Nat.le_of_ble_eq_true rfl)⟩ ⟨(Nat.le_of_ble_eq_true rfl), (Nat.le_of_ble_eq_true rfl)⟩ ?_
  refine A_dup2_11 ok.b dX5_addCar_35 rfl rfl ?_
  refine A_iald ok.b (gps (gps (gps (gps (gps gp0))))) (lx_ix hn hs _) dX5_addCar_36 ?_
  refine A_iconst ok.b (v := 1) dX5_addCar_37 (by decide) ?_
  refine A_iadd ok.b dX5_addCar_38 ?_
  refine A_iast ok.b (gps (gps (gps (gps (gps gp0))))) (lx_ix hn hs _) (wps (wps (wps (wps (wps wp0))))) dX5_addCar_39 ?_
  refine A_aload_n ok.b rfl dX5_addCar_40 gp0 ?_
  refine A_getf ok.b cf5 0 (by decide) fl_X5_42 gp0 gp0 dX5_addCar_41 ?_
  refine A_dup ok.b dX5_addCar_44 rfl ?_
  refine A_getf ok.b cf2 3 (by decide) fl_X5_74 (gps (gps (gps (gps (gps (gps (gps (gps (gps gp0))))))))) (gps (gps (gps gp0))) dX5_addCar_45 ?_
  refine A_iconst ok.b (v := 1) dX5_addCar_48 (by decide) ?_
  refine A_iadd ok.b dX5_addCar_49 ?_
  rw [nI_1]
  refine A_putf ok.b cf2 3 (by decide) rfl fl_X5_74 (gps (gps (gps (gps (gps (gps (gps (gps (gps gp0))))))))) rfl rfl (gp_lt (gps (gps (gps gp0)))) (wps (wps (wps wp0))) (wps (wps (wps (wps (wps (wps (wps (wps (wps wp0))))))))) dX5_addCar_50 ?_
  refine A_aload_n ok.b rfl dX5_addCar_53 gp0 ?_
  refine A_dup ok.b dX5_addCar_54 rfl ?_
  refine A_getf ok.b cf5 3 (by decide) fl_X5_49 gp0 (gps (gps (gps gp0))) dX5_addCar_55 ?_
  refine A_iconst ok.b (v := 1) dX5_addCar_58 (by decide) ?_
  refine A_iadd ok.b dX5_addCar_59 ?_
  refine A_putf ok.b cf5 3 (by decide) rfl fl_X5_49 gp0 rfl rfl (gp_lt (gps (gps (gps gp0)))) (wps (wps (wps wp0))) wp0 dX5_addCar_60 ?_
  refine A_vret ok dX5_addCar_63 (Nat.le_of_ble_eq_true rfl) (Nat.le_of_ble_eq_true rfl) ?_
  exact ⟨rfl, rfl⟩
def clr (T : TD) : TD := (0, -1, 0, 0, 0, (fun _ => 0), (fun _ => 0), (fun _ => -1), (fun _ => 0), (fun _ => 0), tCs T, tCd T, (fun _ => 0))
def kI (k : Nat) (x : Int32) (f : Nat → Int32) : Nat → Int32 := fun j => if j < k then x else f j
def kL (k : Nat) (x : Int64) (f : Nat → Int64) : Nat → Int64 := fun j => if j < k then x else f j
theorem kI_s {k : Nat} {x : Int32} {f : Nat → Int32} (j : Nat) : upd (kI k x f) k x j = kI (k + 1) x f j := by
  rw [upd_at]
  unfold kI
  by_cases h : j = k
  · rw [if_pos h, if_pos (by omega)]
  · rw [if_neg h]
    by_cases h2 : j < k
    · rw [if_pos h2, if_pos (by omega)]
    · rw [if_neg h2, if_neg (by omega)]
theorem kL_s {k : Nat} {x : Int64} {f : Nat → Int64} (j : Nat) : vp_updL (kL k x f) k x j = kL (k + 1) x f j := by
  show (if j = k then x else kL k x f j) = _
  unfold kL
  by_cases h : j = k
  · rw [if_pos h, if_pos (by omega)]
  · rw [if_neg h]
    by_cases h2 : j < k
    · rw [if_pos h2, if_pos (by omega)]
    · rw [if_neg h2, if_neg (by omega)]
theorem kI_0 {x : Int32} {f : Nat → Int32} (j : Nat) : f j = kI 0 x f j := by rw [kI, if_neg (Nat.not_lt_zero j)]
theorem kL_0 {x : Int64} {f : Nat → Int64} (j : Nat) : f j = kL 0 x f j := by rw [kL, if_neg (Nat.not_lt_zero j)]
def clr1 (T : TD) (k : Nat) : TD := (0, -1, 0, 0, 0, kL k 0 (tSmoke T), kI k 0 (tFan T), kI k (-1) (tBay T), tRed T, tLane T, tCs T, tCd T, tEx T)
def clr2 (T : TD) (k : Nat) : TD := (0, -1, 0, 0, 0, (fun _ => 0), (fun _ => 0), (fun _ => -1), kI k 0 (tRed T), kI k 0 (tLane T), tCs T, tCd T, tEx T)
def clr3 (T : TD) (k : Nat) : TD := (0, -1, 0, 0, 0, (fun _ => 0), (fun _ => 0), (fun _ => -1), (fun _ => 0), (fun _ => 0), tCs T, tCd T, kL k 0 (tEx T))
set_option maxRecDepth 20000 in
set_option maxHeartbeats 2000000 in
theorem c_clear (l : Launch) (g : Gl) (a : Nat → Nat) (p q : Nat) (T : TD) : Ct l g yX5_clear cX5_clear 3 none 0 0 0 0 [.ref (a 0), .ref q] (tunW g a p T) (fun v w => v = none ∧ w = tunW g a q (clr T)) noX := by
  refine Ct.intro [some (.ref (a 0)), some (.ref q), none] (by decide +kernel) (fun _ h => h) (Nat.le_of_ble_eq_true rfl) (fun A H0 K ok => ?_)
  have L3 : ∀ k, k ≤ 20 → AW g A H0 3 K 95 [some (.ref (a 0)), some (.ref q), some (.int (nI k))] [] (tunW g a q (clr3 T k)) 0 0 := by
    refine up_ind 20 ?_ (fun k hk ih => ?_)
    · refine A_ext (ws2 := tunW g a q (clr T)) (weqs (weqs (weqs (weqs (weqs (weqs (weqs (weqs (weqc (ceq_l (fun j hj => by show kL 20 0 _ j = _; rw [kL, if_pos hj]; rfl)) (weq_r _)))))))))) ?_
      refine A_iload_n ok.b rfl dX5_clear_95 (gps (gps gp0)) ?_
      refine A_bipush ok.b (v := 20) dX5_clear_96 (by decide) ?_
      refine A_icmp_ge ok.b (tgt := 114) dX5_clear_98 (by decide) (fun c98 => ?_) (fun c98 => (c98 (by decide)).elim)
      refine A_vret ok dX5_clear_114 (Nat.le_of_ble_eq_true rfl) (Nat.le_of_ble_eq_true rfl) ?_
      exact ⟨rfl, rfl⟩
    · skip
      refine A_iload_n ok.b rfl dX5_clear_95 (gps (gps gp0)) ?_
      refine A_bipush ok.b (v := 20) dX5_clear_96 (by decide) ?_
      refine A_icmp_ge ok.b (tgt := 114) dX5_clear_98 (by decide) (fun c98 => ((nI_ge (b := 20) hk (by omega)) c98).elim) (fun c98 => ?_)
      refine A_aload_n ok.b rfl dX5_clear_101 gp0 ?_
      refine A_getf ok.b cf5 13 (by decide) fl_X5_39 gp0 (gps (gps (gps (gps (gps (gps (gps (gps (gps (gps (gps (gps (gps gp0))))))))))))) dX5_clear_102 ?_
      refine A_iload_n ok.b rfl dX5_clear_105 (gps (gps gp0)) ?_
      refine A_lconst ok.b (v := 0) dX5_clear_106 (by decide) ?_
      refine A_last ok.b (gps (gps (gps (gps (gps (gps (gps (gps gp0)))))))) (ix_n (by omega) (by decide)) (wps (wps (wps (wps (wps (wps (wps (wps wp0)))))))) dX5_clear_107 ?_
      refine A_iinc ok.b (v := _ + 1) dX5_clear_108 (gps (gps gp0)) rfl (by decide) (sts (sts1 rfl st0)) ?_
      refine A_goto ok.b (tgt := 95) dX5_clear_111 (by decide) ?_
      refine A_ext (ws2 := tunW g a q (clr3 T (k + 1))) (weqs (weqs (weqs (weqs (weqs (weqs (weqs (weqs (weqc (ceq_l (fun j hj => kL_s j)) (weq_r _)))))))))) ?_
      rw [nI_1]
      exact ih
  have L2 : ∀ k, k ≤ 24 → AW g A H0 3 K 67 [some (.ref (a 0)), some (.ref q), some (.int (nI k))] [] (tunW g a q (clr2 T k)) 0 0 := by
    refine up_ind 24 ?_ (fun k hk ih => ?_)
    · refine A_ext (ws2 := tunW g a q (clr3 T 0)) (weqs (weqs (weqs (weqs (weqc (ceq_i (fun j hj => by show kI 24 0 _ j = _; rw [kI, if_pos hj]; rfl)) (weqc (ceq_i (fun j hj => by show kI 24 0 _ j = _; rw [kI, if_pos hj]; rfl)) (weqs (weqs (weqc (ceq_l (fun j hj => kL_0 (x := 0) j)) (weq_r _)))))))))) ?_
      refine A_iload_n ok.b rfl dX5_clear_67 (gps (gps gp0)) ?_
      refine A_bipush ok.b (v := 24) dX5_clear_68 (by decide) ?_
      refine A_icmp_ge ok.b (tgt := 93) dX5_clear_70 (by decide) (fun c70 => ?_) (fun c70 => (c70 (by decide)).elim)
      refine A_iconst ok.b (v := 0) dX5_clear_93 (by decide) ?_
      refine A_istore_n ok.b rfl dX5_clear_94 (by decide) (sts (sts1 rfl st0)) ?_
      exact L3 0 (Nat.zero_le _)
    · skip
      refine A_iload_n ok.b rfl dX5_clear_67 (gps (gps gp0)) ?_
      refine A_bipush ok.b (v := 24) dX5_clear_68 (by decide) ?_
      refine A_icmp_ge ok.b (tgt := 93) dX5_clear_70 (by decide) (fun c70 => ((nI_ge (b := 24) hk (by omega)) c70).elim) (fun c70 => ?_)
      refine A_aload_n ok.b rfl dX5_clear_73 gp0 ?_
      refine A_getf ok.b cf5 9 (by decide) fl_X5_26 gp0 (gps (gps (gps (gps (gps (gps (gps (gps (gps gp0))))))))) dX5_clear_74 ?_
      refine A_iload_n ok.b rfl dX5_clear_77 (gps (gps gp0)) ?_
      refine A_iconst ok.b (v := 0) dX5_clear_78 (by decide) ?_
      refine A_zast ok.b (gps (gps (gps (gps gp0)))) (ix_n (by omega) (by decide)) (wps (wps (wps (wps wp0)))) dX5_clear_79 ?_
      refine A_aload_n ok.b rfl dX5_clear_80 gp0 ?_
      refine A_getf ok.b cf5 10 (by decide) fl_X5_30 gp0 (gps (gps (gps (gps (gps (gps (gps (gps (gps (gps gp0)))))))))) dX5_clear_81 ?_
      refine A_iload_n ok.b rfl dX5_clear_84 (gps (gps gp0)) ?_
      refine A_iconst ok.b (v := 0) dX5_clear_85 (by decide) ?_
      refine A_iast ok.b (gps (gps (gps (gps (gps gp0))))) (ix_n (by omega) (by decide)) (wps (wps (wps (wps (wps wp0))))) dX5_clear_86 ?_
      refine A_iinc ok.b (v := _ + 1) dX5_clear_87 (gps (gps gp0)) rfl (by decide) (sts (sts1 rfl st0)) ?_
      refine A_goto ok.b (tgt := 67) dX5_clear_90 (by decide) ?_
      refine A_ext (ws2 := tunW g a q (clr2 T (k + 1))) (weqs (weqs (weqs (weqs (weqc (ceq_i (fun j hj => kI_s j)) (weqc (ceq_i (fun j hj => kI_s j)) (weq_r _))))))) ?_
      rw [nI_1]
      exact ih
  have L1 : ∀ k, k ≤ 12 → AW g A H0 3 K 32 [some (.ref (a 0)), some (.ref q), some (.int (nI k))] [] (tunW g a q (clr1 T k)) 0 0 := by
    refine up_ind 12 ?_ (fun k hk ih => ?_)
    · refine A_ext (ws2 := tunW g a q (clr2 T 0)) (weqs (weqc (ceq_l (fun j hj => by show kL 12 0 _ j = _; rw [kL, if_pos hj]; rfl)) (weqc (ceq_i (fun j hj => by show kI 12 0 _ j = _; rw [kI, if_pos hj]; rfl)) (weqc (ceq_i (fun j hj => by show kI 12 (-1) _ j = _; rw [kI, if_pos hj]; rfl)) (weqc (ceq_i (fun j hj => kI_0 (x := 0) j)) (weqc (ceq_i (fun j hj => kI_0 (x := 0) j)) (weq_r _))))))) ?_
      refine A_iload_n ok.b rfl dX5_clear_32 (gps (gps gp0)) ?_
      refine A_bipush ok.b (v := 12) dX5_clear_33 (by decide) ?_
      refine A_icmp_ge ok.b (tgt := 65) dX5_clear_35 (by decide) (fun c35 => ?_) (fun c35 => (c35 (by decide)).elim)
      refine A_iconst ok.b (v := 0) dX5_clear_65 (by decide) ?_
      refine A_istore_n ok.b rfl dX5_clear_66 (by decide) (sts (sts1 rfl st0)) ?_
      exact L2 0 (Nat.zero_le _)
    · skip
      refine A_iload_n ok.b rfl dX5_clear_32 (gps (gps gp0)) ?_
      refine A_bipush ok.b (v := 12) dX5_clear_33 (by decide) ?_
      refine A_icmp_ge ok.b (tgt := 65) dX5_clear_35 (by decide) (fun c35 => ((nI_ge (b := 12) hk (by omega)) c35).elim) (fun c35 => ?_)
      refine A_aload_n ok.b rfl dX5_clear_38 gp0 ?_
      refine A_getf ok.b cf5 6 (by decide) fl_X5_15 gp0 (gps (gps (gps (gps (gps (gps gp0)))))) dX5_clear_39 ?_
      refine A_iload_n ok.b rfl dX5_clear_42 (gps (gps gp0)) ?_
      refine A_lconst ok.b (v := 0) dX5_clear_43 (by decide) ?_
      refine A_last ok.b (gps gp0) (ix_n (by omega) (by decide)) (wps wp0) dX5_clear_44 ?_
      refine A_aload_n ok.b rfl dX5_clear_45 gp0 ?_
      refine A_getf ok.b cf5 7 (by decide) fl_X5_19 gp0 (gps (gps (gps (gps (gps (gps (gps gp0))))))) dX5_clear_46 ?_
      refine A_iload_n ok.b rfl dX5_clear_49 (gps (gps gp0)) ?_
      refine A_iconst ok.b (v := 0) dX5_clear_50 (by decide) ?_
      refine A_iast ok.b (gps (gps gp0)) (ix_n (by omega) (by decide)) (wps (wps wp0)) dX5_clear_51 ?_
      refine A_aload_n ok.b rfl dX5_clear_52 gp0 ?_
      refine A_getf ok.b cf5 8 (by decide) fl_X5_23 gp0 (gps (gps (gps (gps (gps (gps (gps (gps gp0)))))))) dX5_clear_53 ?_
      refine A_iload_n ok.b rfl dX5_clear_56 (gps (gps gp0)) ?_
      refine A_iconst ok.b (v := (-1)) dX5_clear_57 (by decide) ?_
      refine A_iast ok.b (gps (gps (gps gp0))) (ix_n (by omega) (by decide)) (wps (wps (wps wp0))) dX5_clear_58 ?_
      refine A_iinc ok.b (v := _ + 1) dX5_clear_59 (gps (gps gp0)) rfl (by decide) (sts (sts1 rfl st0)) ?_
      refine A_goto ok.b (tgt := 32) dX5_clear_62 (by decide) ?_
      refine A_ext (ws2 := tunW g a q (clr1 T (k + 1))) (weqs (weqc (ceq_l (fun j hj => kL_s j)) (weqc (ceq_i (fun j hj => kI_s j)) (weqc (ceq_i (fun j hj => kI_s j)) (weq_r _))))) ?_
      rw [nI_1]
      exact ih
  refine A_aload_n ok.b rfl dX5_clear_0 gp0 ?_
  refine A_aload_n ok.b rfl dX5_clear_1 (gps gp0) ?_
  refine A_putf ok.b cf5 0 (by decide) rfl fl_X5_42 gp0 rfl rfl (gp_lt gp0) wp0 wp0 dX5_clear_2 ?_
  refine A_aload_n ok.b rfl dX5_clear_5 gp0 ?_
  refine A_iconst ok.b (v := 0) dX5_clear_6 (by decide) ?_
  refine A_putf ok.b cf5 1 (by decide) rfl fl_X5_46 gp0 rfl rfl (gp_lt (gps gp0)) (wps wp0) wp0 dX5_clear_7 ?_
  refine A_aload_n ok.b rfl dX5_clear_10 gp0 ?_
  refine A_iconst ok.b (v := (-1)) dX5_clear_11 (by decide) ?_
  refine A_putf ok.b cf5 2 (by decide) rfl fl_X5_9 gp0 rfl rfl (gp_lt (gps (gps gp0))) (wps (wps wp0)) wp0 dX5_clear_12 ?_
  refine A_aload_n ok.b rfl dX5_clear_15 gp0 ?_
  refine A_iconst ok.b (v := 0) dX5_clear_16 (by decide) ?_
  refine A_putf ok.b cf5 3 (by decide) rfl fl_X5_49 gp0 rfl rfl (gp_lt (gps (gps (gps gp0)))) (wps (wps (wps wp0))) wp0 dX5_clear_17 ?_
  refine A_aload_n ok.b rfl dX5_clear_20 gp0 ?_
  refine A_lconst ok.b (v := 0) dX5_clear_21 (by decide) ?_
  refine A_putf ok.b cf5 4 (by decide) rfl fl_X5_52 gp0 rfl rfl (gp_lt (gps (gps (gps (gps gp0))))) (wps (wps (wps (wps wp0)))) wp0 dX5_clear_22 ?_
  refine A_aload_n ok.b rfl dX5_clear_25 gp0 ?_
  refine A_lconst ok.b (v := 0) dX5_clear_26 (by decide) ?_
  refine A_putf ok.b cf5 5 (by decide) rfl fl_X5_56 gp0 rfl rfl (gp_lt (gps (gps (gps (gps (gps gp0)))))) (wps (wps (wps (wps (wps wp0))))) wp0 dX5_clear_27 ?_
  refine A_iconst ok.b (v := 0) dX5_clear_30 (by decide) ?_
  refine A_istore_n ok.b rfl dX5_clear_31 (by decide) (sts (sts1 rfl st0)) ?_
  refine A_ext (ws2 := tunW g a q (clr1 T 0)) (weqs (weqc (ceq_l (fun j hj => kL_0 (x := 0) j)) (weqc (ceq_i (fun j hj => kI_0 (x := 0) j)) (weqc (ceq_i (fun j hj => kI_0 (x := -1) j)) (weq_r _))))) ?_
  exact L1 0 (Nat.zero_le _)
def tick2 (S : TD × PD) : TD × PD := (tickF S.2 S.1, rateP S.1 S.2)
def expR : Nat → TD × PD → TD × PD
  | 0, S => S
  | r + 1, S => if tIns S.1 ≤ 0 then S else expR r (tick2 S)
def expF (n : Nat) (T : TD) (P : PD) : Int64 := sumL (tEx (expR n (T, P)).1) (pCar (expR n (T, P)).2) - sumL (tEx T) (pCar P)
/-- what a tick needs and keeps -/
def TOK (S : TD × PD) : Prop := pN S.2 ≤ 12 ∧ pCar S.2 ≤ 20 ∧ pNc S.2 < 1000 ∧ COK S.2 S.1 ∧ FOK S.2 S.1
theorem expose_fire {T : TD} (k : Nat) : tFire (foldN exposeF T k) = tFire T := by
  refine foldN_inv (fun S : TD => tFire S = tFire T) exposeF T rfl (fun c S hS => ?_) k
  show tFire (exposeF c S) = tFire T
  unfold exposeF
  split
  · exact hS
  · exact hS
theorem drive_fire (P : PD) (T : TD) (c : Nat) (f d : Int32) : tFire (driveF P T c f d).2 = tFire T := by
  unfold driveF
  split
  · rfl
  · split <;> rfl
theorem lanes_fire (P : PD) (T : TD) (d : Int32) : tFire (driveLanesF P T d).2 = tFire T := by
  refine foldN_inv (fun S : Int32 × TD => tFire S.2 = tFire T) (driveLF P d) (0, T) rfl (fun i S hS => ?_) (pN P)
  show tFire (driveLF P d i S).2 = tFire T
  unfold driveLF
  split
  · exact hS
  · refine foldN_inv (fun S : Int32 × TD => tFire S.2 = tFire T) (driveCF P d (driveSec (pN P) d i)) S hS (fun c S1 h1 => ?_) (pCar P)
    show tFire (driveCF P d _ c S1).2 = tFire T
    unfold driveCF
    split
    · exact (drive_fire P _ _ _ _).trans h1
    · exact h1
theorem turn_fire {P : PD} {mv : Int32} {T : TD} (k : Nat) : tFire (foldN (turnF P mv) (0, T) k).2 = tFire T := by
  refine foldN_inv (fun S : Int32 × TD => tFire S.2 = tFire T) (turnF P mv) (0, T) rfl (fun c S hS => ?_) k
  show tFire (turnF P mv c S).2 = tFire T
  unfold turnF
  split
  · exact hS
  · exact hS
theorem move_fire (P : PD) (T : TD) : tFire (moveF P T).2 = tFire T := (turn_fire (pCar P)).trans ((lanes_fire P _ (-1)).trans (lanes_fire P T 1))
theorem tickB_fire (P : PD) (r : Int32) (T : TD) : tFire (tickB P r T) = tFire T := by unfold tickB; split <;> rfl
theorem tick_fire (P : PD) (T : TD) : tFire (tickF P T) = tFire T := (expose_fire _).trans ((move_fire _ _).trans ((tickB_fire _ _ _).trans (smoke_keep _ _ T).2))
theorem COK_tick {P : PD} {T : TD} (hn : pN P ≤ 12) (h : COK P T) : COK (rateP T P) (tickF P T) := by
  have hn' : pN (rateP T P) ≤ 12 := by rw [rateP_n]; exact hn
  have h1 : COK (rateP T P) T := COK_of h (rateP_n T P) (rateP_c T P) rfl
  have h2 : COK (rateP T P) (tickB (rateP T P) (rateF T P) (tickS (rateP T P) T)) := COK_of h1 rfl rfl ((tickB_cs _ _ _).trans (smoke_keep _ _ T).1)
  exact COK_of (COK_move hn' h2) rfl rfl (expose_cs _)
theorem TOK_tick {S : TD × PD} (h : TOK S) : TOK (tick2 S) := by
  obtain ⟨h1, h2, h3, h4, h5⟩ := h
  refine ⟨by show pN (rateP _ _) ≤ 12; rw [rateP_n]; exact h1, by show pCar (rateP _ _) ≤ 20; rw [rateP_c]; exact h2, by show pNc (rateP _ _) < 1000; rw [rateP_k]; exact h3, COK_tick h1 h4, ?_⟩
  show FOK (rateP S.1 S.2) (tickF S.2 S.1)
  unfold FOK
  rw [rateP_n, tick_fire]
  exact h5
set_option maxRecDepth 20000 in
set_option maxHeartbeats 2000000 in
theorem c_exposureIncrease (l : Launch) (g : Gl) (a b : Nat → Nat) (T : TD) (P : PD) (hok : TOK (T, P)) (n : Nat) (hn : n < 1000) : Ct l g yX5_exposureIncrease cX5_exposureIncrease 5 (some .long) 5 200 0 0 [.ref (a 0), .int (nI n)] (tpW g a b T P) (fun v w => v = some (.long (expF n T P)) ∧ w = tpW g a b (expR n (T, P)).1 (expR n (T, P)).2) noX := by
  refine Ct.intro [some (.ref (a 0)), some (.int (nI n)), none, none, none] (by decide +kernel) (fun _ h => h) (Nat.le_of_ble_eq_true rfl) (fun A H0 K ok => ?_)
  have L : ∀ (r k : Nat) (S : TD × PD), r + k = n → TOK S → expR n (T, P) = expR r S → AW g A H0 5 K 8 [some (.ref (a 0)), some (.int (nI n)), some (.long (sumL (tEx T) (pCar P))), none, some (.int (nI k))] [] (tpW g a b S.1 S.2) 0 0 := by
    intro r
    have X : ∀ (S : TD × PD) (k : Int32), TOK S → expR n (T, P) = S → AW g A H0 5 K 31 [some (.ref (a 0)), some (.int (nI n)), some (.long (sumL (tEx T) (pCar P))), none, some (.int k)] [] (tpW g a b S.1 S.2) 0 0 := by
      intro S k hS e
      refine A_aload_n ok.b rfl dX5_exposureIncrease_31 gp0 ?_
      refine A_sameVR ok (As := []) mf_X5_exposureSum ml_X5_156 in_X5_exposureSum se_X5_exposureSum cf5 gp0 (c_exposureSum l g a b S.1 S.2 hS.1 hS.2.1) rfl rfl dX5_exposureIncrease_32 (Nat.le_of_ble_eq_true rfl) ⟨(Nat.le_of_ble_eq_true rfl), (Nat.le_of_ble_eq_true rfl)⟩ ⟨(Nat.le_of_ble_eq_true rfl), (Nat.le_of_ble_eq_true rfl)⟩ (fun _ _ hx => hx.elim) (fun v32 w32 q32 => ?_)
      obtain ⟨rfl, rfl⟩ := q32
      refine A_lload_n ok.b rfl dX5_exposureIncrease_35 (gps (gps gp0)) ?_
      refine A_lsub ok.b dX5_exposureIncrease_36 ?_
      refine A_lret ok dX5_exposureIncrease_37 (Nat.le_of_ble_eq_true rfl) (Nat.le_of_ble_eq_true rfl) ?_
      exact ⟨by rw [expF, e], by rw [e]⟩
    induction r with
    | zero =>
      intro k S hr hS e
      have hk : k = n := by omega
      subst hk
      refine A_iload ok.b dX5_exposureIncrease_8 (gps (gps (gps (gps gp0)))) ?_
      refine A_iload_n ok.b rfl dX5_exposureIncrease_10 (gps gp0) ?_
      refine A_icmp_ge ok.b (tgt := 31) dX5_exposureIncrease_11 (by decide) (fun c11 => ?_) (fun c11 => (c11 (nI_le (Nat.le_refl _) (by omega))).elim)
      exact X S _ hS e
    | succ r ih =>
      intro k S hr hS e
      refine A_iload ok.b dX5_exposureIncrease_8 (gps (gps (gps (gps gp0)))) ?_
      refine A_iload_n ok.b rfl dX5_exposureIncrease_10 (gps gp0) ?_
      refine A_icmp_ge ok.b (tgt := 31) dX5_exposureIncrease_11 (by decide) (fun c11 => (nI_ge (a := k) (b := n) (by omega) (by omega) c11).elim) (fun c11 => ?_)
      refine A_aload_n ok.b rfl dX5_exposureIncrease_14 gp0 ?_
      refine A_getf ok.b cf5 3 (by decide) fl_X5_49 gp0 (gps (gps (gps gp0))) dX5_exposureIncrease_15 ?_
      refine A_if_le ok.b (tgt := 31) dX5_exposureIncrease_18 (by decide) (fun c18 => ?_) (fun c18 => ?_)
      · skip
        exact X S _ hS (e.trans (by rw [expR, if_pos c18]))
      · skip
        refine A_aload_n ok.b rfl dX5_exposureIncrease_21 gp0 ?_
        refine A_sameVR ok (As := []) mf_X5_tick ml_X5_160 in_X5_tick se_X5_tick cf5 gp0 (c_tick l g a b S.1 S.2 hS.1 hS.2.1 hS.2.2.1 hS.2.2.2.1 hS.2.2.2.2) rfl rfl dX5_exposureIncrease_22 (Nat.le_of_ble_eq_true rfl) ⟨(Nat.le_of_ble_eq_true rfl), (Nat.le_of_ble_eq_true rfl)⟩ ⟨(Nat.le_of_ble_eq_true rfl), (Nat.le_of_ble_eq_true rfl)⟩ (fun _ _ hx => hx.elim) (fun v22 w22 q22 => ?_)
        obtain ⟨rfl, rfl⟩ := q22
        refine A_iinc ok.b (v := _ + 1) dX5_exposureIncrease_25 (gps (gps (gps (gps gp0)))) rfl (by decide) (sts (sts (sts (sts1n st0)))) ?_
        refine A_goto ok.b (tgt := 8) dX5_exposureIncrease_28 (by decide) ?_
        rw [nI_1]
        exact ih (k + 1) (tick2 S) (by omega) (TOK_tick hS) (e.trans (by rw [expR, if_neg c18]))
  refine A_aload_n ok.b rfl dX5_exposureIncrease_0 gp0 ?_
  refine A_sameVR ok (As := []) mf_X5_exposureSum ml_X5_156 in_X5_exposureSum se_X5_exposureSum cf5 gp0 (c_exposureSum l g a b T P hok.1 hok.2.1) rfl rfl dX5_exposureIncrease_1 (Nat.le_of_ble_eq_true rfl) ⟨(Nat.le_of_ble_eq_true rfl), (Nat.le_of_ble_eq_true rfl)⟩ ⟨(Nat.le_of_ble_eq_true rfl), (Nat.le_of_ble_eq_true rfl)⟩ (fun _ _ hx => hx.elim) (fun v1 w1 q1 => ?_)
  obtain ⟨rfl, rfl⟩ := q1
  refine A_lstore_n ok.b rfl dX5_exposureIncrease_4 (by decide) (sts (sts1 rfl st0w)) ?_
  refine A_iconst ok.b (v := 0) dX5_exposureIncrease_5 (by decide) ?_
  refine A_istore ok.b dX5_exposureIncrease_6 (by decide) (sts (sts (sts (sts1n st0)))) ?_
  exact L n 0 (T, P) (by omega) hok rfl
