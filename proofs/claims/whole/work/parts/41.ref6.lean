theorem in_inn {x : Int32} {n : Nat} (hn : n ≤ 12) (h : inB x 0 (nI n - 1) = true) : Inn x n := by
  have h1 : ¬ x < 0 := fun h2 => by rw [inB_f1 h2] at h; exact absurd h Bool.false_ne_true
  have h2 : ¬ nI n - 1 < x := fun h3 => by rw [inB_f2 h3] at h; exact absurd h Bool.false_ne_true
  refine inn_of (by omega) h1 (fun h3 => h2 (Int32.lt_iff_toInt_lt.mpr ?_))
  have h4 := Int32.le_iff_toInt_le.mp h3
  have e1 : (nI n).toInt = (n : Int) := nI_toInt (by omega)
  have e2 : (nI n - 1).toInt = (n : Int) - 1 := by
    rw [Int32.toInt_sub, e1]
    show ((n : Int) - 1).bmod _ = _
    rw [Int.bmod_eq_of_le (by omega) (by omega)]
  omega
/-- the reference's cells for a tick -/
def ttW (g : Gl) (m : Nat → Nat) (q : Nat) (s : MS) (re st dr : Nat → Int32) (sk : Nat → Int64) (d : Nat → Int32) : va_W := [moC m s, (m 7, .inl (g.2.1 0, 12, .inl re)), (m 8, .inl (g.2.1 3, 20, .inl st)), (m 9, .inl (g.2.1 3, 20, .inl dr)), (m 6, .inl (g.2.1 1, 1300, .inr (.inl sk))), (q, .inl (g.2.1 0, 1476, .inl d))]
def toR (d : Nat → Int32) (c : Nat) : Int32 := d (96 + 4 * c) + d (96 + 4 * c + 1)
def freeB (d : Nat → Int32) (nc c : Nat) : Bool := !decide (toR d c = d 4) && decide (d (12 + 7 * (toR d c).toNatClampNeg + (if d (96 + 4 * c + 1) = 1 then 5 else 6)) = 0) && decide (laneR d (toR d c) (d (96 + 4 * c + 1)) nc < d 1)
def freeR (d : Nat → Int32) (nc c : Nat) : Prop := ¬ toR d c = d 4 ∧ d (12 + 7 * (toR d c).toNatClampNeg + (if d (96 + 4 * c + 1) = 1 then 5 else 6)) = 0 ∧ laneR d (toR d c) (d (96 + 4 * c + 1)) nc < d 1
theorem free_iff {d : Nat → Int32} {nc c : Nat} : freeB d nc c = true ↔ freeR d nc c := by
  simp [freeB, freeR, and_assoc]
/-- a car drives: who stayed, the data -/
def drvR (n nc c : Nat) (S : (Nat → Int32) × (Nat → Int32)) : (Nat → Int32) × (Nat → Int32) :=
  if inB (toR S.2 c) 0 (nI n - 1) = true then (if freeB S.2 nc c = true then (upd S.1 c 0, upd S.2 (96 + 4 * c) (toR S.2 c)) else (upd (upd S.1 c 0) c 1, S.2)) else (upd S.1 c 0, upd S.2 (96 + 4 * c) (-1))
set_option maxRecDepth 20000 in
set_option maxHeartbeats 2000000 in
theorem r_drive (l : Launch) (g : Gl) (m : Nat → Nat) (q : Nat) (s : MS) (re st dr : Nat → Int32) (sk : Nat → Int64) (d : Nat → Int32) (n nc : Nat) (hn : n ≤ 12) (hnc : nc ≤ 20) (h0 : d 0 = nI n) (h2 : d 2 = nI nc) (c : Nat) (hc : c < nc) : Ct l g yX7_drive cX7_drive 8 none 2 80 0 0 [.ref (m 0), .ref q, .int (nI c)] (ttW g m q s (re) (st) (dr) sk (d)) (fun v w => v = none ∧ w = (ttW g m q s (re) ((drvR n nc c (st, d)).1) (dr) sk ((drvR n nc c (st, d)).2))) noX := by
  refine Ct.intro [some (.ref (m 0)), some (.ref q), some (.int (nI c)), none, none, none, none, none] (by decide +kernel) (fun _ h => h) (Nat.le_of_ble_eq_true rfl) (fun A H0 K ok => ?_)
  refine A_iload_n ok.b rfl dX7_drive_0 (gps (gps gp0)) ?_
  refine A_pureS ok.b (As := [_]) mf_X7_car ml_X7_162 rfl sc_X7_car (r_car l g _) rfl rfl dX7_drive_1 (Nat.le_of_ble_eq_true rfl) ⟨(Nat.le_of_ble_eq_true rfl), (Nat.le_of_ble_eq_true rfl)⟩ ⟨(Nat.le_of_ble_eq_true rfl), (Nat.le_of_ble_eq_true rfl)⟩ ?_
  rw [car_n (by omega)]
  refine A_istore_n ok.b rfl dX7_drive_4 (by decide) (sts (sts (sts1 rfl st0))) ?_
  refine A_aload_n ok.b rfl dX7_drive_5 (gps gp0) ?_
  refine A_iload_n ok.b rfl dX7_drive_6 (gps (gps (gps gp0))) ?_
  refine A_iald ok.b (gps (gps (gps (gps (gps gp0))))) (ix_n (by omega) (by decide)) dX7_drive_7 ?_
  refine A_istore ok.b dX7_drive_8 (by decide) (sts (sts (sts (sts1 rfl st0)))) ?_
  refine A_aload_n ok.b rfl dX7_drive_10 (gps gp0) ?_
  refine A_iload_n ok.b rfl dX7_drive_11 (gps (gps (gps gp0))) ?_
  refine A_iconst ok.b (v := 1) dX7_drive_12 (by decide) ?_
  refine A_iadd ok.b dX7_drive_13 ?_
  rw [show nI (96 + 4 * c) + 1 = nI (96 + 4 * c + 1) from nI_1 _]
  refine A_iald ok.b (gps (gps (gps (gps (gps gp0))))) (ix_n (by omega) (by decide)) dX7_drive_14 ?_
  refine A_istore ok.b dX7_drive_15 (by decide) (sts (sts (sts (sts (sts1 rfl st0))))) ?_
  refine A_iload ok.b dX7_drive_17 (gps (gps (gps (gps gp0)))) ?_
  refine A_iload ok.b dX7_drive_19 (gps (gps (gps (gps (gps gp0))))) ?_
  refine A_iadd ok.b dX7_drive_21 ?_
  refine A_istore ok.b dX7_drive_22 (by decide) (sts (sts (sts (sts (sts (sts1 rfl st0)))))) ?_
  refine A_aload_n ok.b rfl dX7_drive_24 gp0 ?_
  refine A_getf ok.b cf7 19 (by decide) fl_X7_38 gp0 (gps (gps (gps (gps (gps (gps (gps (gps (gps (gps (gps (gps (gps (gps (gps (gps (gps (gps (gps gp0))))))))))))))))))) dX7_drive_25 ?_
  refine A_iload_n ok.b rfl dX7_drive_28 (gps (gps gp0)) ?_
  refine A_iconst ok.b (v := 0) dX7_drive_29 (by decide) ?_
  refine A_zast ok.b (gps (gps gp0)) (ix_n (by omega) (by decide)) (wps (wps wp0)) dX7_drive_30 ?_
  refine A_iload ok.b dX7_drive_31 (gps (gps (gps (gps (gps (gps gp0)))))) ?_
  refine A_iconst ok.b (v := 0) dX7_drive_33 (by decide) ?_
  refine A_aload_n ok.b rfl dX7_drive_34 (gps gp0) ?_
  refine A_iconst ok.b (v := 0) dX7_drive_35 (by decide) ?_
  refine A_iald ok.b (gps (gps (gps (gps (gps gp0))))) (ix_n (j := 0) (by decide) (by decide)) dX7_drive_36 ?_
  rw [h0]
  refine A_iconst ok.b (v := 1) dX7_drive_37 (by decide) ?_
  refine A_isub ok.b dX7_drive_38 ?_
  refine A_pureS ok.b (As := [_, _, _]) mf_X7_in ml_X7_67 rfl sc_X7_in (r_in l g _ _ _) rfl rfl dX7_drive_39 (Nat.le_of_ble_eq_true rfl) ⟨(Nat.le_of_ble_eq_true rfl), (Nat.le_of_ble_eq_true rfl)⟩ ⟨(Nat.le_of_ble_eq_true rfl), (Nat.le_of_ble_eq_true rfl)⟩ ?_
  refine A_if_ne ok.b (tgt := 50) dX7_drive_42 (by decide) (fun c42 => ?_) (fun c42 => ?_)
  · skip
    have hi : inB (toR d c) 0 (nI n - 1) = true := bI_n c42
    obtain ⟨t, ht, et⟩ := in_inn hn hi
    have et2 : d (96 + 4 * c) + d (96 + 4 * c + 1) = nI t := et
    have et3 : (toR d c).toNatClampNeg = t := by rw [et]; exact nI_clamp (by omega)
    rw [et2]
    refine A_iload ok.b dX7_drive_50 (gps (gps (gps (gps (gps (gps gp0)))))) ?_
    refine A_aload_n ok.b rfl dX7_drive_52 (gps gp0) ?_
    refine A_iconst ok.b (v := 4) dX7_drive_53 (by decide) ?_
    refine A_iald ok.b (gps (gps (gps (gps (gps gp0))))) (ix_n (j := 4) (by decide) (by decide)) dX7_drive_54 ?_
    refine A_icmp_eq ok.b (tgt := 99) dX7_drive_55 (by decide) (fun c55 => ?_) (fun c55 => ?_)
    · skip
      refine A_iconst ok.b (v := 0) dX7_drive_99 (by decide) ?_
      refine A_istore ok.b dX7_drive_100 (by decide) (sts (sts (sts (sts (sts (sts (sts1 rfl st0))))))) ?_
      refine A_iload ok.b dX7_drive_102 (gps (gps (gps (gps (gps (gps (gps gp0))))))) ?_
      refine A_if_eq ok.b (tgt := 115) dX7_drive_104 (by decide) (fun c104 => ?_) (fun c104 => ((show False from absurd rfl c104)).elim)
      refine A_aload_n ok.b rfl dX7_drive_115 gp0 ?_
      refine A_getf ok.b cf7 19 (by decide) fl_X7_38 gp0 (gps (gps (gps (gps (gps (gps (gps (gps (gps (gps (gps (gps (gps (gps (gps (gps (gps (gps (gps gp0))))))))))))))))))) dX7_drive_116 ?_
      refine A_iload_n ok.b rfl dX7_drive_119 (gps (gps gp0)) ?_
      refine A_iconst ok.b (v := 1) dX7_drive_120 (by decide) ?_
      refine A_zast ok.b (gps (gps gp0)) (ix_n (by omega) (by decide)) (wps (wps wp0)) dX7_drive_121 ?_
      refine A_vret ok dX7_drive_122 (Nat.le_of_ble_eq_true rfl) (Nat.le_of_ble_eq_true rfl) ?_
      have hf : ¬ freeR d nc c := fun h => h.1 (by rw [et]; exact c55)
      exact ⟨rfl, by rw [drvR, if_pos hi, if_neg (fun z => hf (free_iff.mp z))]; rfl⟩
    · skip
      refine A_aload_n ok.b rfl dX7_drive_58 (gps gp0) ?_
      refine A_iload ok.b dX7_drive_59 (gps (gps (gps (gps (gps (gps gp0)))))) ?_
      refine A_pureS ok.b (As := [_]) mf_X7_section ml_X7_143 rfl sc_X7_section (r_section l g _) rfl rfl dX7_drive_61 (Nat.le_of_ble_eq_true rfl) ⟨(Nat.le_of_ble_eq_true rfl), (Nat.le_of_ble_eq_true rfl)⟩ ⟨(Nat.le_of_ble_eq_true rfl), (Nat.le_of_ble_eq_true rfl)⟩ ?_
      rw [sec_n (by omega)]
      refine A_iload ok.b dX7_drive_64 (gps (gps (gps (gps (gps gp0))))) ?_
      refine A_iconst ok.b (v := 1) dX7_drive_66 (by decide) ?_
      refine A_icmp_ne ok.b (tgt := 74) dX7_drive_67 (by decide) (fun c67 => ?_) (fun c67 => ?_)
      · skip
        refine A_bipush ok.b (v := 6) dX7_drive_74 (by decide) ?_
        refine A_iadd ok.b dX7_drive_76 ?_
        rw [show nI (12 + 7 * t) + 6 = nI (12 + 7 * t + 6) from nI_add _ 6]
        refine A_iald ok.b (gps (gps (gps (gps (gps gp0))))) (ix_n (by omega) (by decide)) dX7_drive_77 ?_
        refine A_if_ne ok.b (tgt := 99) dX7_drive_78 (by decide) (fun c78 => ?_) (fun c78 => ?_)
        · skip
          refine A_iconst ok.b (v := 0) dX7_drive_99 (by decide) ?_
          refine A_istore ok.b dX7_drive_100 (by decide) (sts (sts (sts (sts (sts (sts (sts1 rfl st0))))))) ?_
          refine A_iload ok.b dX7_drive_102 (gps (gps (gps (gps (gps (gps (gps gp0))))))) ?_
          refine A_if_eq ok.b (tgt := 115) dX7_drive_104 (by decide) (fun c104 => ?_) (fun c104 => ((show False from absurd rfl c104)).elim)
          refine A_aload_n ok.b rfl dX7_drive_115 gp0 ?_
          refine A_getf ok.b cf7 19 (by decide) fl_X7_38 gp0 (gps (gps (gps (gps (gps (gps (gps (gps (gps (gps (gps (gps (gps (gps (gps (gps (gps (gps (gps gp0))))))))))))))))))) dX7_drive_116 ?_
          refine A_iload_n ok.b rfl dX7_drive_119 (gps (gps gp0)) ?_
          refine A_iconst ok.b (v := 1) dX7_drive_120 (by decide) ?_
          refine A_zast ok.b (gps (gps gp0)) (ix_n (by omega) (by decide)) (wps (wps wp0)) dX7_drive_121 ?_
          refine A_vret ok dX7_drive_122 (Nat.le_of_ble_eq_true rfl) (Nat.le_of_ble_eq_true rfl) ?_
          have hf : ¬ freeR d nc c := fun h => c78 (by have h3 := h.2.1; rw [et3, if_neg c67] at h3; exact h3)
          exact ⟨rfl, by rw [drvR, if_pos hi, if_neg (fun z => hf (free_iff.mp z))]; rfl⟩
        · skip
          refine A_aload_n ok.b rfl dX7_drive_81 (gps gp0) ?_
          refine A_iload ok.b dX7_drive_82 (gps (gps (gps (gps (gps (gps gp0)))))) ?_
          refine A_iload ok.b dX7_drive_84 (gps (gps (gps (gps (gps gp0))))) ?_
          refine A_callSR ok [5] [0, 1, 2, 3, 4] (As := [_, _, _]) (wr := ([moC m s, (m 7, .inl (g.2.1 0, 12, .inl re)), (m 8, .inl (g.2.1 3, 20, .inl (upd st c 0))), (m 9, .inl (g.2.1 3, 20, .inl dr)), (m 6, .inl (g.2.1 1, 1300, .inr (.inl sk)))] : va_W)) mf_X7_lane ml_X7_158 rfl sc_X7_lane  (r_lane l g q d _ _ nc hnc h2) rfl rfl rfl dX7_drive_86 rfl rfl rfl (by decide) (Nat.le_of_ble_eq_true rfl) ⟨(Nat.le_of_ble_eq_true rfl), (Nat.le_of_ble_eq_true rfl)⟩ ⟨(Nat.le_of_ble_eq_true rfl), (Nat.le_of_ble_eq_true rfl)⟩ (fun _ _ hx => hx.elim) (fun v86 w86 q86 => ?_)
          obtain ⟨rfl, rfl⟩ := q86
          refine A_sub [0, 1, 2, 3, 4, 5] (ws2 := (ttW g m q s (re) (upd st c 0) (dr) sk (d))) rfl rfl ?_
          refine A_aload_n ok.b rfl dX7_drive_89 (gps gp0) ?_
          refine A_iconst ok.b (v := 1) dX7_drive_90 (by decide) ?_
          refine A_iald ok.b (gps (gps (gps (gps (gps gp0))))) (ix_n (j := 1) (by decide) (by decide)) dX7_drive_91 ?_
          refine A_icmp_ge ok.b (tgt := 99) dX7_drive_92 (by decide) (fun c92 => ?_) (fun c92 => ?_)
          · skip
            refine A_iconst ok.b (v := 0) dX7_drive_99 (by decide) ?_
            refine A_istore ok.b dX7_drive_100 (by decide) (sts (sts (sts (sts (sts (sts (sts1 rfl st0))))))) ?_
            refine A_iload ok.b dX7_drive_102 (gps (gps (gps (gps (gps (gps (gps gp0))))))) ?_
            refine A_if_eq ok.b (tgt := 115) dX7_drive_104 (by decide) (fun c104 => ?_) (fun c104 => ((show False from absurd rfl c104)).elim)
            refine A_aload_n ok.b rfl dX7_drive_115 gp0 ?_
            refine A_getf ok.b cf7 19 (by decide) fl_X7_38 gp0 (gps (gps (gps (gps (gps (gps (gps (gps (gps (gps (gps (gps (gps (gps (gps (gps (gps (gps (gps gp0))))))))))))))))))) dX7_drive_116 ?_
            refine A_iload_n ok.b rfl dX7_drive_119 (gps (gps gp0)) ?_
            refine A_iconst ok.b (v := 1) dX7_drive_120 (by decide) ?_
            refine A_zast ok.b (gps (gps gp0)) (ix_n (by omega) (by decide)) (wps (wps wp0)) dX7_drive_121 ?_
            refine A_vret ok dX7_drive_122 (Nat.le_of_ble_eq_true rfl) (Nat.le_of_ble_eq_true rfl) ?_
            have hf : ¬ freeR d nc c := fun h => by
              have h3 := h.2.2
              rw [et] at h3
              exact absurd h3 (Int32.not_lt.mpr c92)
            exact ⟨rfl, by rw [drvR, if_pos hi, if_neg (fun z => hf (free_iff.mp z))]; rfl⟩
          · skip
            refine A_iconst ok.b (v := 1) dX7_drive_95 (by decide) ?_
            refine A_goto ok.b (tgt := 100) dX7_drive_96 (by decide) ?_
            refine A_istore ok.b dX7_drive_100 (by decide) (sts (sts (sts (sts (sts (sts (sts1 rfl st0))))))) ?_
            refine A_iload ok.b dX7_drive_102 (gps (gps (gps (gps (gps (gps (gps gp0))))))) ?_
            refine A_if_eq ok.b (tgt := 115) dX7_drive_104 (by decide) (fun c104 => ((show False from absurd c104 (by decide))).elim) (fun c104 => ?_)
            refine A_aload_n ok.b rfl dX7_drive_107 (gps gp0) ?_
            refine A_iload_n ok.b rfl dX7_drive_108 (gps (gps (gps gp0))) ?_
            refine A_iload ok.b dX7_drive_109 (gps (gps (gps (gps (gps (gps gp0)))))) ?_
            refine A_iast ok.b (gps (gps (gps (gps (gps gp0))))) (ix_n (by omega) (by decide)) (wps (wps (wps (wps (wps wp0))))) dX7_drive_111 ?_
            refine A_goto ok.b (tgt := 122) dX7_drive_112 (by decide) ?_
            refine A_vret ok dX7_drive_122 (Nat.le_of_ble_eq_true rfl) (Nat.le_of_ble_eq_true rfl) ?_
            have hf : freeR d nc c := ⟨fun h => c55 (by rw [← et]; exact h), by rw [et3, if_neg c67]; exact c78, by rw [et]; exact Int32.not_le.mp c92⟩
            exact ⟨rfl, by rw [drvR, if_pos hi, if_pos (free_iff.mpr hf), et]; rfl⟩
      · skip
        refine A_iconst ok.b (v := 5) dX7_drive_70 (by decide) ?_
        refine A_goto ok.b (tgt := 76) dX7_drive_71 (by decide) ?_
        refine A_iadd ok.b dX7_drive_76 ?_
        rw [show nI (12 + 7 * t) + 5 = nI (12 + 7 * t + 5) from nI_add _ 5]
        refine A_iald ok.b (gps (gps (gps (gps (gps gp0))))) (ix_n (by omega) (by decide)) dX7_drive_77 ?_
        refine A_if_ne ok.b (tgt := 99) dX7_drive_78 (by decide) (fun c78 => ?_) (fun c78 => ?_)
        · skip
          refine A_iconst ok.b (v := 0) dX7_drive_99 (by decide) ?_
          refine A_istore ok.b dX7_drive_100 (by decide) (sts (sts (sts (sts (sts (sts (sts1 rfl st0))))))) ?_
          refine A_iload ok.b dX7_drive_102 (gps (gps (gps (gps (gps (gps (gps gp0))))))) ?_
          refine A_if_eq ok.b (tgt := 115) dX7_drive_104 (by decide) (fun c104 => ?_) (fun c104 => ((show False from absurd rfl c104)).elim)
          refine A_aload_n ok.b rfl dX7_drive_115 gp0 ?_
          refine A_getf ok.b cf7 19 (by decide) fl_X7_38 gp0 (gps (gps (gps (gps (gps (gps (gps (gps (gps (gps (gps (gps (gps (gps (gps (gps (gps (gps (gps gp0))))))))))))))))))) dX7_drive_116 ?_
          refine A_iload_n ok.b rfl dX7_drive_119 (gps (gps gp0)) ?_
          refine A_iconst ok.b (v := 1) dX7_drive_120 (by decide) ?_
          refine A_zast ok.b (gps (gps gp0)) (ix_n (by omega) (by decide)) (wps (wps wp0)) dX7_drive_121 ?_
          refine A_vret ok dX7_drive_122 (Nat.le_of_ble_eq_true rfl) (Nat.le_of_ble_eq_true rfl) ?_
          have hf : ¬ freeR d nc c := fun h => c78 (by have h3 := h.2.1; rw [et3, if_pos c67] at h3; exact h3)
          exact ⟨rfl, by rw [drvR, if_pos hi, if_neg (fun z => hf (free_iff.mp z))]; rfl⟩
        · skip
          refine A_aload_n ok.b rfl dX7_drive_81 (gps gp0) ?_
          refine A_iload ok.b dX7_drive_82 (gps (gps (gps (gps (gps (gps gp0)))))) ?_
          refine A_iload ok.b dX7_drive_84 (gps (gps (gps (gps (gps gp0))))) ?_
          refine A_callSR ok [5] [0, 1, 2, 3, 4] (As := [_, _, _]) (wr := ([moC m s, (m 7, .inl (g.2.1 0, 12, .inl re)), (m 8, .inl (g.2.1 3, 20, .inl (upd st c 0))), (m 9, .inl (g.2.1 3, 20, .inl dr)), (m 6, .inl (g.2.1 1, 1300, .inr (.inl sk)))] : va_W)) mf_X7_lane ml_X7_158 rfl sc_X7_lane  (r_lane l g q d _ _ nc hnc h2) rfl rfl rfl dX7_drive_86 rfl rfl rfl (by decide) (Nat.le_of_ble_eq_true rfl) ⟨(Nat.le_of_ble_eq_true rfl), (Nat.le_of_ble_eq_true rfl)⟩ ⟨(Nat.le_of_ble_eq_true rfl), (Nat.le_of_ble_eq_true rfl)⟩ (fun _ _ hx => hx.elim) (fun v86 w86 q86 => ?_)
          obtain ⟨rfl, rfl⟩ := q86
          refine A_sub [0, 1, 2, 3, 4, 5] (ws2 := (ttW g m q s (re) (upd st c 0) (dr) sk (d))) rfl rfl ?_
          refine A_aload_n ok.b rfl dX7_drive_89 (gps gp0) ?_
          refine A_iconst ok.b (v := 1) dX7_drive_90 (by decide) ?_
          refine A_iald ok.b (gps (gps (gps (gps (gps gp0))))) (ix_n (j := 1) (by decide) (by decide)) dX7_drive_91 ?_
          refine A_icmp_ge ok.b (tgt := 99) dX7_drive_92 (by decide) (fun c92 => ?_) (fun c92 => ?_)
          · skip
            refine A_iconst ok.b (v := 0) dX7_drive_99 (by decide) ?_
            refine A_istore ok.b dX7_drive_100 (by decide) (sts (sts (sts (sts (sts (sts (sts1 rfl st0))))))) ?_
            refine A_iload ok.b dX7_drive_102 (gps (gps (gps (gps (gps (gps (gps gp0))))))) ?_
            refine A_if_eq ok.b (tgt := 115) dX7_drive_104 (by decide) (fun c104 => ?_) (fun c104 => ((show False from absurd rfl c104)).elim)
            refine A_aload_n ok.b rfl dX7_drive_115 gp0 ?_
            refine A_getf ok.b cf7 19 (by decide) fl_X7_38 gp0 (gps (gps (gps (gps (gps (gps (gps (gps (gps (gps (gps (gps (gps (gps (gps (gps (gps (gps (gps gp0))))))))))))))))))) dX7_drive_116 ?_
            refine A_iload_n ok.b rfl dX7_drive_119 (gps (gps gp0)) ?_
            refine A_iconst ok.b (v := 1) dX7_drive_120 (by decide) ?_
            refine A_zast ok.b (gps (gps gp0)) (ix_n (by omega) (by decide)) (wps (wps wp0)) dX7_drive_121 ?_
            refine A_vret ok dX7_drive_122 (Nat.le_of_ble_eq_true rfl) (Nat.le_of_ble_eq_true rfl) ?_
            have hf : ¬ freeR d nc c := fun h => by
              have h3 := h.2.2
              rw [et] at h3
              exact absurd h3 (Int32.not_lt.mpr c92)
            exact ⟨rfl, by rw [drvR, if_pos hi, if_neg (fun z => hf (free_iff.mp z))]; rfl⟩
          · skip
            refine A_iconst ok.b (v := 1) dX7_drive_95 (by decide) ?_
            refine A_goto ok.b (tgt := 100) dX7_drive_96 (by decide) ?_
            refine A_istore ok.b dX7_drive_100 (by decide) (sts (sts (sts (sts (sts (sts (sts1 rfl st0))))))) ?_
            refine A_iload ok.b dX7_drive_102 (gps (gps (gps (gps (gps (gps (gps gp0))))))) ?_
            refine A_if_eq ok.b (tgt := 115) dX7_drive_104 (by decide) (fun c104 => ((show False from absurd c104 (by decide))).elim) (fun c104 => ?_)
            refine A_aload_n ok.b rfl dX7_drive_107 (gps gp0) ?_
            refine A_iload_n ok.b rfl dX7_drive_108 (gps (gps (gps gp0))) ?_
            refine A_iload ok.b dX7_drive_109 (gps (gps (gps (gps (gps (gps gp0)))))) ?_
            refine A_iast ok.b (gps (gps (gps (gps (gps gp0))))) (ix_n (by omega) (by decide)) (wps (wps (wps (wps (wps wp0))))) dX7_drive_111 ?_
            refine A_goto ok.b (tgt := 122) dX7_drive_112 (by decide) ?_
            refine A_vret ok dX7_drive_122 (Nat.le_of_ble_eq_true rfl) (Nat.le_of_ble_eq_true rfl) ?_
            have hf : freeR d nc c := ⟨fun h => c55 (by rw [← et]; exact h), by rw [et3, if_pos c67]; exact c78, by rw [et]; exact Int32.not_le.mp c92⟩
            exact ⟨rfl, by rw [drvR, if_pos hi, if_pos (free_iff.mpr hf), et]; rfl⟩
  · skip
    refine A_aload_n ok.b rfl dX7_drive_45 (gps gp0) ?_
    refine A_iload_n ok.b rfl dX7_drive_46 (gps (gps (gps gp0))) ?_
    refine A_iconst ok.b (v := (-1)) dX7_drive_47 (by decide) ?_
    refine A_iast ok.b (gps (gps (gps (gps (gps gp0))))) (ix_n (by omega) (by decide)) (wps (wps (wps (wps (wps wp0))))) dX7_drive_48 ?_
    refine A_vret ok dX7_drive_49 (Nat.le_of_ble_eq_true rfl) (Nat.le_of_ble_eq_true rfl) ?_
    have hi : ¬ inB (toR d c) 0 (nI n - 1) = true := bI_z c42
    exact ⟨rfl, by rw [drvR, if_neg hi]; rfl⟩
