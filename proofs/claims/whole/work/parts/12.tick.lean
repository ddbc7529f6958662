/-- each car is out or in a section -/
def COK (P : PD) (T : TD) : Prop := ∀ c, c < pCar P → tCs T c < 0 ∨ Inn (tCs T c) (pN P)
theorem upd_at (f : Nat → Int32) (k : Nat) (x : Int32) (j : Nat) : upd f k x j = if j = k then x else f j := rfl
theorem COK_drive {P : PD} {T : TD} (hn : pN P ≤ 12) (h : COK P T) (c : Nat) (f d : Int32) : COK P (driveF P T c f d).2 := by
  unfold driveF
  have hn9 : pN P < 2 ^ 31 := by omega
  split
  · intro j hj
    show upd (tCs T) c (-1) j < 0 ∨ Inn (upd (tCs T) c (-1) j) (pN P)
    rw [upd_at]
    split
    · exact Or.inl (by decide)
    · exact h j hj
  · rename_i h1
    split
    · exact h
    · intro j hj
      show upd (tCs T) c (f + d) j < 0 ∨ Inn (upd (tCs T) c (f + d) j) (pN P)
      rw [upd_at]
      split
      · exact Or.inr (inn_of hn9 (fun z => h1 (Or.inl z)) (fun z => h1 (Or.inr z)))
      · exact h j hj
theorem foldN_inv {σ : Type} (I : σ → Prop) (f : Nat → σ → σ) (s : σ) (h0 : I s) (hs : ∀ k s, I s → I (f k s)) : ∀ k, I (foldN f s k)
  | 0 => h0
  | k + 1 => hs k _ (foldN_inv I f s h0 hs k)
theorem COK_lanes {P : PD} {T : TD} (hn : pN P ≤ 12) (h : COK P T) (d : Int32) : COK P (driveLanesF P T d).2 := by
  refine foldN_inv (fun S : Int32 × TD => COK P S.2) (driveLF P d) (0, T) h (fun i S hS => ?_) (pN P)
  show COK P (driveLF P d i S).2
  unfold driveLF
  split
  · exact hS
  · refine foldN_inv (fun S : Int32 × TD => COK P S.2) (driveCF P d (driveSec (pN P) d i)) S hS (fun c S1 h1 => ?_) (pCar P)
    show COK P (driveCF P d _ c S1).2
    unfold driveCF
    split
    · exact COK_drive hn h1 _ _ _
    · exact h1
/-- the car c turns, if it may: 1 if any did -/
def turnF (P : PD) (mv : Int32) (c : Nat) (S : Int32 × TD) : Int32 × TD :=
  if tCs S.2 c < 0 ∨ ¬ ((mv >>> (nI c &&& 31)) &&& 1) = 0 ∨ ¬ tBay S.2 (tCs S.2 c).toNatClampNeg = 1 ∨ aheadF S.2 (tCs S.2 c) (tCd S.2 c) = 0 ∨ roomF S.2 P (tCs S.2 c) (-(tCd S.2 c)) = 0 then S
  else (1, incL (decL (sCd S.2 (upd (tCd S.2) c (-(tCd S.2 c)))) (tCs S.2 c) (tCd S.2 c)) (tCs S.2 c) (-(tCd S.2 c)))
def turnCarsF (P : PD) (mv : Int32) (T : TD) : Int32 × TD := foldN (turnF P mv) (0, T) (pCar P)
theorem turn_cs {P : PD} {mv : Int32} {T : TD} (k : Nat) : tCs (foldN (turnF P mv) (0, T) k).2 = tCs T := by
  refine foldN_inv (fun S : Int32 × TD => tCs S.2 = tCs T) (turnF P mv) (0, T) rfl (fun c S hS => ?_) k
  show tCs (turnF P mv c S).2 = tCs T
  unfold turnF
  split
  · exact hS
  · exact hS

theorem turn_01 {P : PD} {mv : Int32} {T : TD} (k : Nat) : (foldN (turnF P mv) (0, T) k).1 = 0 ∨ (foldN (turnF P mv) (0, T) k).1 = 1 := by
  refine foldN_inv (fun S : Int32 × TD => S.1 = 0 ∨ S.1 = 1) (turnF P mv) (0, T) (Or.inl rfl) (fun c S hS => ?_) k
  show (turnF P mv c S).1 = 0 ∨ (turnF P mv c S).1 = 1
  unfold turnF
  split
  · exact hS
  · exact Or.inr rfl
set_option maxRecDepth 20000 in
set_option maxHeartbeats 2000000 in
theorem c_turnCars (l : Launch) (g : Gl) (a b : Nat → Nat) (T : TD) (P : PD) (hn : pN P ≤ 12) (hc : pCar P ≤ 20) (hok : COK P T) (mv : Int32) : Ct l g yX5_turnCars cX5_turnCars 6 (some .boolean) 2 80 0 0 [.ref (a 0), .int mv] (tpW g a b T P) (fun v w => v = some (.int (turnCarsF P mv T).1) ∧ w = tpW g a b (turnCarsF P mv T).2 P) noX := by
  refine Ct.intro [some (.ref (a 0)), some (.int mv), none, none, none, none] (by decide +kernel) (fun _ h => h) (Nat.le_of_ble_eq_true rfl) (fun A H0 K ok => ?_)
  have L : ∀ k, k ≤ pCar P → AW g A H0 6 K 4 [some (.ref (a 0)), some (.int mv), some (.int (foldN (turnF P mv) (0, T) k).1), some (.int (nI k)), none, none] [] (tpW g a b (foldN (turnF P mv) (0, T) k).2 P) 0 0 := by
    refine up_ind (pCar P) ?_ (fun k hk ih => ?_)
    · skip
      refine A_iload_n ok.b rfl dX5_turnCars_4 (gps (gps (gps gp0))) ?_
      refine A_aload_n ok.b rfl dX5_turnCars_5 gp0 ?_
      refine A_getf ok.b cf5 0 (by decide) fl_X5_42 gp0 gp0 dX5_turnCars_6 ?_
      refine A_getf ok.b cf2 3 (by decide) fl_X5_74 (gps (gps (gps (gps (gps (gps (gps (gps (gps gp0))))))))) (gps (gps (gps gp0))) dX5_turnCars_9 ?_
      refine A_icmp_ge ok.b (tgt := 128) dX5_turnCars_12 (by decide) (fun c12 => ?_) (fun c12 => (c12 (nI_le (Nat.le_refl _) (by omega))).elim)
      refine A_iload_n ok.b rfl dX5_turnCars_128 (gps (gps gp0)) ?_
      refine A_zret ok dX5_turnCars_129 (turn_01 _) (Nat.le_of_ble_eq_true rfl) (Nat.le_of_ble_eq_true rfl) ?_
      exact ⟨rfl, rfl⟩
    · have hcs := hok k hk
      rw [← turn_cs (P := P) (mv := mv) (T := T) k] at hcs
      rw [foldN_s] at ih
      generalize foldN (turnF P mv) (0, T) k = S at ih hcs ⊢
      refine A_iload_n ok.b rfl dX5_turnCars_4 (gps (gps (gps gp0))) ?_
      refine A_aload_n ok.b rfl dX5_turnCars_5 gp0 ?_
      refine A_getf ok.b cf5 0 (by decide) fl_X5_42 gp0 gp0 dX5_turnCars_6 ?_
      refine A_getf ok.b cf2 3 (by decide) fl_X5_74 (gps (gps (gps (gps (gps (gps (gps (gps (gps gp0))))))))) (gps (gps (gps gp0))) dX5_turnCars_9 ?_
      refine A_icmp_ge ok.b (tgt := 128) dX5_turnCars_12 (by decide) (fun c12 => (nI_ge hk (by omega) c12).elim) (fun c12 => ?_)
      refine A_aload_n ok.b rfl dX5_turnCars_15 gp0 ?_
      refine A_getf ok.b cf5 11 (by decide) fl_X5_33 gp0 (gps (gps (gps (gps (gps (gps (gps (gps (gps (gps (gps gp0))))))))))) dX5_turnCars_16 ?_
      refine A_iload_n ok.b rfl dX5_turnCars_19 (gps (gps (gps gp0))) ?_
      refine A_iald ok.b (gps (gps (gps (gps (gps (gps gp0)))))) (ix_n (by omega) (by decide)) dX5_turnCars_20 ?_
      refine A_istore ok.b dX5_turnCars_21 (by decide) (sts (sts (sts (sts1 rfl st0)))) ?_
      refine A_aload_n ok.b rfl dX5_turnCars_23 gp0 ?_
      refine A_getf ok.b cf5 12 (by decide) fl_X5_36 gp0 (gps (gps (gps (gps (gps (gps (gps (gps (gps (gps (gps (gps gp0)))))))))))) dX5_turnCars_24 ?_
      refine A_iload_n ok.b rfl dX5_turnCars_27 (gps (gps (gps gp0))) ?_
      refine A_iald ok.b (gps (gps (gps (gps (gps (gps (gps gp0))))))) (ix_n (by omega) (by decide)) dX5_turnCars_28 ?_
      refine A_istore ok.b dX5_turnCars_29 (by decide) (sts (sts (sts (sts (sts1 rfl st0))))) ?_
      refine A_iload ok.b dX5_turnCars_31 (gps (gps (gps (gps gp0)))) ?_
      refine A_if_lt ok.b (tgt := 122) dX5_turnCars_33 (by decide) (fun c33 => ?_) (fun c33 => ?_)
      · skip
        refine A_iinc ok.b (v := _ + 1) dX5_turnCars_122 (gps (gps (gps gp0))) rfl (by decide) (sts (sts (sts1 rfl st0))) ?_
        refine A_goto ok.b (tgt := 4) dX5_turnCars_125 (by decide) ?_
        refine A_lv (lleK (lleK (lleK (lleK (lleD (lleD lle0)))))) ?_
        rw [turnF, if_pos (Or.inl c33)] at ih
        rw [nI_1]
        exact ih
      · skip
        have hin : Inn (tCs S.2 k) (pN P) := hcs.resolve_left c33
        refine A_iload_n ok.b rfl dX5_turnCars_36 (gps gp0) ?_
        refine A_iload_n ok.b rfl dX5_turnCars_37 (gps (gps (gps gp0))) ?_
        refine A_ishr ok.b dX5_turnCars_38 ?_
        refine A_iconst ok.b (v := 1) dX5_turnCars_39 (by decide) ?_
        refine A_iand ok.b dX5_turnCars_40 ?_
        refine A_if_ne ok.b (tgt := 122) dX5_turnCars_41 (by decide) (fun c41 => ?_) (fun c41 => ?_)
        · skip
          refine A_iinc ok.b (v := _ + 1) dX5_turnCars_122 (gps (gps (gps gp0))) rfl (by decide) (sts (sts (sts1 rfl st0))) ?_
          refine A_goto ok.b (tgt := 4) dX5_turnCars_125 (by decide) ?_
          refine A_lv (lleK (lleK (lleK (lleK (lleD (lleD lle0)))))) ?_
          rw [turnF, if_pos (Or.inr (Or.inl c41))] at ih
          rw [nI_1]
          exact ih
        · skip
          refine A_aload_n ok.b rfl dX5_turnCars_44 gp0 ?_
          refine A_getf ok.b cf5 8 (by decide) fl_X5_23 gp0 (gps (gps (gps (gps (gps (gps (gps (gps gp0)))))))) dX5_turnCars_45 ?_
          refine A_iload ok.b dX5_turnCars_48 (gps (gps (gps (gps gp0)))) ?_
          refine A_iald ok.b (gps (gps (gps gp0))) (inn_ix hn (by decide) hin) dX5_turnCars_50 ?_
          refine A_iconst ok.b (v := 1) dX5_turnCars_51 (by decide) ?_
          refine A_icmp_ne ok.b (tgt := 122) dX5_turnCars_52 (by decide) (fun c52 => ?_) (fun c52 => ?_)
          · skip
            refine A_iinc ok.b (v := _ + 1) dX5_turnCars_122 (gps (gps (gps gp0))) rfl (by decide) (sts (sts (sts1 rfl st0))) ?_
            refine A_goto ok.b (tgt := 4) dX5_turnCars_125 (by decide) ?_
            refine A_lv (lleK (lleK (lleK (lleK (lleD (lleD lle0)))))) ?_
            rw [turnF, if_pos (Or.inr (Or.inr (Or.inl c52)))] at ih
            rw [nI_1]
            exact ih
          · skip
            refine A_aload_n ok.b rfl dX5_turnCars_55 gp0 ?_
            refine A_iload ok.b dX5_turnCars_56 (gps (gps (gps (gps gp0)))) ?_
            refine A_iload ok.b dX5_turnCars_58 (gps (gps (gps (gps (gps gp0))))) ?_
            refine A_sameVR ok (As := [_, _]) mf_X5_isFireAhead ml_X5_146 in_X5_isFireAhead se_X5_isFireAhead cf5 gp0 (c_isFireAhead l g a b S.2 P _ _) rfl rfl dX5_turnCars_60 (Nat.le_of_ble_eq_true rfl) ⟨(Nat.le_of_ble_eq_true rfl), (Nat.le_of_ble_eq_true rfl)⟩ ⟨(Nat.le_of_ble_eq_true rfl), (Nat.le_of_ble_eq_true rfl)⟩ (fun _ _ hx => hx.elim) (fun v60 w60 q60 => ?_)
            obtain ⟨rfl, rfl⟩ := q60
            refine A_if_eq ok.b (tgt := 122) dX5_turnCars_63 (by decide) (fun c63 => ?_) (fun c63 => ?_)
            · skip
              refine A_iinc ok.b (v := _ + 1) dX5_turnCars_122 (gps (gps (gps gp0))) rfl (by decide) (sts (sts (sts1 rfl st0))) ?_
              refine A_goto ok.b (tgt := 4) dX5_turnCars_125 (by decide) ?_
              refine A_lv (lleK (lleK (lleK (lleK (lleD (lleD lle0)))))) ?_
              rw [turnF, if_pos (Or.inr (Or.inr (Or.inr (Or.inl c63))))] at ih
              rw [nI_1]
              exact ih
            · skip
              refine A_aload_n ok.b rfl dX5_turnCars_66 gp0 ?_
              refine A_iload ok.b dX5_turnCars_67 (gps (gps (gps (gps gp0)))) ?_
              refine A_iload ok.b dX5_turnCars_69 (gps (gps (gps (gps (gps gp0))))) ?_
              refine A_ineg ok.b dX5_turnCars_71 ?_
              refine A_sameVR ok (As := [_, _]) mf_X5_hasRoom ml_X5_150 in_X5_hasRoom se_X5_hasRoom cf5 gp0 (c_hasRoom l g a b S.2 P hn _ _ hin) rfl rfl dX5_turnCars_72 (Nat.le_of_ble_eq_true rfl) ⟨(Nat.le_of_ble_eq_true rfl), (Nat.le_of_ble_eq_true rfl)⟩ ⟨(Nat.le_of_ble_eq_true rfl), (Nat.le_of_ble_eq_true rfl)⟩ (fun _ _ hx => hx.elim) (fun v72 w72 q72 => ?_)
              obtain ⟨rfl, rfl⟩ := q72
              refine A_if_eq ok.b (tgt := 122) dX5_turnCars_75 (by decide) (fun c75 => ?_) (fun c75 => ?_)
              · skip
                refine A_iinc ok.b (v := _ + 1) dX5_turnCars_122 (gps (gps (gps gp0))) rfl (by decide) (sts (sts (sts1 rfl st0))) ?_
                refine A_goto ok.b (tgt := 4) dX5_turnCars_125 (by decide) ?_
                refine A_lv (lleK (lleK (lleK (lleK (lleD (lleD lle0)))))) ?_
                rw [turnF, if_pos (Or.inr (Or.inr (Or.inr (Or.inr c75))))] at ih
                rw [nI_1]
                exact ih
              · skip
                refine A_aload_n ok.b rfl dX5_turnCars_78 gp0 ?_
                refine A_getf ok.b cf5 12 (by decide) fl_X5_36 gp0 (gps (gps (gps (gps (gps (gps (gps (gps (gps (gps (gps (gps gp0)))))))))))) dX5_turnCars_79 ?_
                refine A_iload_n ok.b rfl dX5_turnCars_82 (gps (gps (gps gp0))) ?_
                refine A_iload ok.b dX5_turnCars_83 (gps (gps (gps (gps (gps gp0))))) ?_
                refine A_ineg ok.b dX5_turnCars_85 ?_
                refine A_iast ok.b (gps (gps (gps (gps (gps (gps (gps gp0))))))) (ix_n (by omega) (by decide)) (wps (wps (wps (wps (wps (wps (wps wp0))))))) dX5_turnCars_86 ?_
                refine A_aload_n ok.b rfl dX5_turnCars_87 gp0 ?_
                refine A_getf ok.b cf5 10 (by decide) fl_X5_30 gp0 (gps (gps (gps (gps (gps (gps (gps (gps (gps (gps gp0)))))))))) dX5_turnCars_88 ?_
                refine A_iload ok.b dX5_turnCars_91 (gps (gps (gps (gps gp0)))) ?_
                refine A_iload ok.b dX5_turnCars_93 (gps (gps (gps (gps (gps gp0))))) ?_
                refine A_pureSN ok.b (As := [_, _]) mf_X6_laneIndex (List.mem_of_getElem? (i := 4) rfl) sc_X6_laneIndex (c_laneIndex l g _ _) rfl rfl dX5_turnCars_95 (Nat.le_of_ble_eq_true rfl) ⟨(Nat.le_of_ble_eq_true rfl), (Nat.le_of_ble_eq_true rfl)⟩ ⟨(Nat.le_of_ble_eq_true rfl), (Nat.le_of_ble_eq_true rfl)⟩ ?_
                refine A_dup2_11 ok.b dX5_turnCars_98 rfl rfl ?_
                refine A_iald ok.b (gps (gps (gps (gps (gps gp0))))) (lx_ix hn hin _) dX5_turnCars_99 ?_
                refine A_iconst ok.b (v := 1) dX5_turnCars_100 (by decide) ?_
                refine A_isub ok.b dX5_turnCars_101 ?_
                refine A_iast ok.b (gps (gps (gps (gps (gps gp0))))) (lx_ix hn hin _) (wps (wps (wps (wps (wps wp0))))) dX5_turnCars_102 ?_
                refine A_aload_n ok.b rfl dX5_turnCars_103 gp0 ?_
                refine A_getf ok.b cf5 10 (by decide) fl_X5_30 gp0 (gps (gps (gps (gps (gps (gps (gps (gps (gps (gps gp0)))))))))) dX5_turnCars_104 ?_
                refine A_iload ok.b dX5_turnCars_107 (gps (gps (gps (gps gp0)))) ?_
                refine A_iload ok.b dX5_turnCars_109 (gps (gps (gps (gps (gps gp0))))) ?_
                refine A_ineg ok.b dX5_turnCars_111 ?_
                refine A_pureSN ok.b (As := [_, _]) mf_X6_laneIndex (List.mem_of_getElem? (i := 4) rfl) sc_X6_laneIndex (c_laneIndex l g _ _) rfl rfl dX5_turnCars_112 (Nat.le_of_ble_eq_true rfl) ⟨(Nat.le_of_ble_eq_true rfl), (Nat.le_of_ble_eq_true rfl)⟩ ⟨(Nat.le_of_ble_eq_true rfl), (Nat.le_of_ble_eq_true rfl)⟩ ?_
                refine A_dup2_11 ok.b dX5_turnCars_115 rfl rfl ?_
                refine A_iald ok.b (gps (gps (gps (gps (gps gp0))))) (lx_ix hn hin _) dX5_turnCars_116 ?_
                refine A_iconst ok.b (v := 1) dX5_turnCars_117 (by decide) ?_
                refine A_iadd ok.b dX5_turnCars_118 ?_
                refine A_iast ok.b (gps (gps (gps (gps (gps gp0))))) (lx_ix hn hin _) (wps (wps (wps (wps (wps wp0))))) dX5_turnCars_119 ?_
                refine A_iconst ok.b (v := 1) dX5_turnCars_120 (by decide) ?_
                refine A_istore_n ok.b rfl dX5_turnCars_121 (by decide) (sts (sts1 rfl st0)) ?_
                refine A_iinc ok.b (v := _ + 1) dX5_turnCars_122 (gps (gps (gps gp0))) rfl (by decide) (sts (sts (sts1 rfl st0))) ?_
                refine A_goto ok.b (tgt := 4) dX5_turnCars_125 (by decide) ?_
                refine A_lv (lleK (lleK (lleK (lleK (lleD (lleD lle0)))))) ?_
                rw [turnF, if_neg (by rintro (h | h | h | h | h); exact c33 h; exact h c41; exact h c52; exact c63 h; exact c75 h)] at ih
                rw [nI_1]
                exact ih
  refine A_iconst ok.b (v := 0) dX5_turnCars_0 (by decide) ?_
  refine A_istore_n ok.b rfl dX5_turnCars_1 (by decide) (sts (sts1 rfl st0)) ?_
  refine A_iconst ok.b (v := 0) dX5_turnCars_2 (by decide) ?_
  refine A_istore_n ok.b rfl dX5_turnCars_3 (by decide) (sts (sts (sts1 rfl st0))) ?_
  exact L 0 (Nat.zero_le _)
def moveA (P : PD) (T : TD) : Int32 × TD := driveLanesF P T 1
def moveB (P : PD) (T : TD) : Int32 × TD := driveLanesF P (moveA P T).2 (-1)
def moveM (P : PD) (T : TD) : Int32 := (moveA P T).1 ||| (moveB P T).1
def moveC (P : PD) (T : TD) : Int32 × TD := turnCarsF P (moveM P T) (moveB P T).2
def moveF (P : PD) (T : TD) : Int32 × TD := ((if moveM P T = 0 ∧ (moveC P T).1 = 0 then 0 else 1), (moveC P T).2)
set_option maxRecDepth 20000 in
set_option maxHeartbeats 2000000 in
theorem c_moveCars (l : Launch) (g : Gl) (a b : Nat → Nat) (T : TD) (P : PD) (hn : pN P ≤ 12) (hc : pCar P ≤ 20) (hok : COK P T) : Ct l g yX5_moveCars cX5_moveCars 3 (some .boolean) 3 120 0 0 [.ref (a 0)] (tpW g a b T P) (fun v w => v = some (.int (moveF P T).1) ∧ w = tpW g a b (moveF P T).2 P) noX := by
  refine Ct.intro [some (.ref (a 0)), none, none] (by decide +kernel) (fun _ h => h) (Nat.le_of_ble_eq_true rfl) (fun A H0 K ok => ?_)
  refine A_aload_n ok.b rfl dX5_moveCars_0 gp0 ?_
  refine A_iconst ok.b (v := 1) dX5_moveCars_1 (by decide) ?_
  refine A_sameVR ok (As := [_]) mf_X5_driveLanes ml_X5_135 in_X5_driveLanes se_X5_driveLanes cf5 gp0 (c_driveLanes l g a b T P hn hc 1) rfl rfl dX5_moveCars_2 (Nat.le_of_ble_eq_true rfl) ⟨(Nat.le_of_ble_eq_true rfl), (Nat.le_of_ble_eq_true rfl)⟩ ⟨(Nat.le_of_ble_eq_true rfl), (Nat.le_of_ble_eq_true rfl)⟩ (fun _ _ hx => hx.elim) (fun v2 w2 q2 => ?_)
  obtain ⟨rfl, rfl⟩ := q2
  refine A_istore_n ok.b rfl dX5_moveCars_5 (by decide) (sts1 rfl st0) ?_
  refine A_iload_n ok.b rfl dX5_moveCars_6 (gps gp0) ?_
  refine A_aload_n ok.b rfl dX5_moveCars_7 gp0 ?_
  refine A_iconst ok.b (v := (-1)) dX5_moveCars_8 (by decide) ?_
  refine A_sameVR ok (As := [_]) mf_X5_driveLanes ml_X5_135 in_X5_driveLanes se_X5_driveLanes cf5 gp0 (c_driveLanes l g a b (driveLanesF P T 1).2 P hn hc (-1)) rfl rfl dX5_moveCars_9 (Nat.le_of_ble_eq_true rfl) ⟨(Nat.le_of_ble_eq_true rfl), (Nat.le_of_ble_eq_true rfl)⟩ ⟨(Nat.le_of_ble_eq_true rfl), (Nat.le_of_ble_eq_true rfl)⟩ (fun _ _ hx => hx.elim) (fun v9 w9 q9 => ?_)
  obtain ⟨rfl, rfl⟩ := q9
  refine A_ior ok.b dX5_moveCars_12 ?_
  refine A_istore_n ok.b rfl dX5_moveCars_13 (by decide) (sts1 rfl st0) ?_
  refine A_aload_n ok.b rfl dX5_moveCars_14 gp0 ?_
  refine A_iload_n ok.b rfl dX5_moveCars_15 (gps gp0) ?_
  refine A_sameVR ok (As := [_]) mf_X5_turnCars ml_X5_138 in_X5_turnCars se_X5_turnCars cf5 gp0 (c_turnCars l g a b (moveB P T).2 P hn hc (COK_lanes hn (COK_lanes hn hok 1) (-1)) (moveM P T)) rfl rfl dX5_moveCars_16 (Nat.le_of_ble_eq_true rfl) ⟨(Nat.le_of_ble_eq_true rfl), (Nat.le_of_ble_eq_true rfl)⟩ ⟨(Nat.le_of_ble_eq_true rfl), (Nat.le_of_ble_eq_true rfl)⟩ (fun _ _ hx => hx.elim) (fun v16 w16 q16 => ?_)
  obtain ⟨rfl, rfl⟩ := q16
  refine A_istore_n ok.b rfl dX5_moveCars_19 (by decide) (sts (sts1 rfl st0)) ?_
  refine A_iload_n ok.b rfl dX5_moveCars_20 (gps gp0) ?_
  refine A_if_ne ok.b (tgt := 28) dX5_moveCars_21 (by decide) (fun c21 => ?_) (fun c21 => ?_)
  · skip
    refine A_iconst ok.b (v := 1) dX5_moveCars_28 (by decide) ?_
    refine A_goto ok.b (tgt := 33) dX5_moveCars_29 (by decide) ?_
    refine A_zret ok dX5_moveCars_33 (by decide) (Nat.le_of_ble_eq_true rfl) (Nat.le_of_ble_eq_true rfl) ?_
    exact ⟨by rw [moveF, if_neg (fun h => c21 h.1)], rfl⟩
  · skip
    refine A_iload_n ok.b rfl dX5_moveCars_24 (gps (gps gp0)) ?_
    refine A_if_eq ok.b (tgt := 32) dX5_moveCars_25 (by decide) (fun c25 => ?_) (fun c25 => ?_)
    · skip
      refine A_iconst ok.b (v := 0) dX5_moveCars_32 (by decide) ?_
      refine A_zret ok dX5_moveCars_33 (by decide) (Nat.le_of_ble_eq_true rfl) (Nat.le_of_ble_eq_true rfl) ?_
      exact ⟨by rw [moveF, if_pos ⟨c21, c25⟩], rfl⟩
    · skip
      refine A_iconst ok.b (v := 1) dX5_moveCars_28 (by decide) ?_
      refine A_goto ok.b (tgt := 33) dX5_moveCars_29 (by decide) ?_
      refine A_zret ok dX5_moveCars_33 (by decide) (Nat.le_of_ble_eq_true rfl) (Nat.le_of_ble_eq_true rfl) ?_
      exact ⟨by rw [moveF, if_neg (fun h => c25 h.2)], rfl⟩
def exposeF (c : Nat) (T : TD) : TD := if tCs T c < 0 then T else sEx T (vp_updL (tEx T) c (tEx T c + tSmoke T (tCs T c).toNatClampNeg))
def exposeCarsF (P : PD) (T : TD) : TD := foldN exposeF T (pCar P)
theorem expose_cs {T : TD} (k : Nat) : tCs (foldN exposeF T k) = tCs T := by
  refine foldN_inv (fun S : TD => tCs S = tCs T) exposeF T rfl (fun c S hS => ?_) k
  show tCs (exposeF c S) = tCs T
  unfold exposeF
  split
  · exact hS
  · exact hS
set_option maxRecDepth 20000 in
set_option maxHeartbeats 2000000 in
theorem c_exposeCars (l : Launch) (g : Gl) (a b : Nat → Nat) (T : TD) (P : PD) (hn : pN P ≤ 12) (hc : pCar P ≤ 20) (hok : COK P T) : Ct l g yX5_exposeCars cX5_exposeCars 2 none 0 0 0 0 [.ref (a 0)] (tpW g a b T P) (fun v w => v = none ∧ w = tpW g a b (exposeCarsF P T) P) noX := by
  refine Ct.intro [some (.ref (a 0)), none] (by decide +kernel) (fun _ h => h) (Nat.le_of_ble_eq_true rfl) (fun A H0 K ok => ?_)
  have L : ∀ k, k ≤ pCar P → AW g A H0 2 K 2 [some (.ref (a 0)), some (.int (nI k))] [] (tpW g a b (foldN exposeF T k) P) 0 0 := by
    refine up_ind (pCar P) ?_ (fun k hk ih => ?_)
    · skip
      refine A_iload_n ok.b rfl dX5_exposeCars_2 (gps gp0) ?_
      refine A_aload_n ok.b rfl dX5_exposeCars_3 gp0 ?_
      refine A_getf ok.b cf5 0 (by decide) fl_X5_42 gp0 gp0 dX5_exposeCars_4 ?_
      refine A_getf ok.b cf2 3 (by decide) fl_X5_74 (gps (gps (gps (gps (gps (gps (gps (gps (gps gp0))))))))) (gps (gps (gps gp0))) dX5_exposeCars_7 ?_
      refine A_icmp_ge ok.b (tgt := 48) dX5_exposeCars_10 (by decide) (fun c10 => ?_) (fun c10 => (c10 (nI_le (Nat.le_refl _) (by omega))).elim)
      refine A_vret ok dX5_exposeCars_48 (Nat.le_of_ble_eq_true rfl) (Nat.le_of_ble_eq_true rfl) ?_
      exact ⟨rfl, rfl⟩
    · have hcs := hok k hk
      rw [← expose_cs (T := T) k] at hcs
      rw [foldN_s] at ih
      generalize foldN exposeF T k = S at ih hcs ⊢
      refine A_iload_n ok.b rfl dX5_exposeCars_2 (gps gp0) ?_
      refine A_aload_n ok.b rfl dX5_exposeCars_3 gp0 ?_
      refine A_getf ok.b cf5 0 (by decide) fl_X5_42 gp0 gp0 dX5_exposeCars_4 ?_
      refine A_getf ok.b cf2 3 (by decide) fl_X5_74 (gps (gps (gps (gps (gps (gps (gps (gps (gps gp0))))))))) (gps (gps (gps gp0))) dX5_exposeCars_7 ?_
      refine A_icmp_ge ok.b (tgt := 48) dX5_exposeCars_10 (by decide) (fun c10 => (nI_ge hk (by omega) c10).elim) (fun c10 => ?_)
      refine A_aload_n ok.b rfl dX5_exposeCars_13 gp0 ?_
      refine A_getf ok.b cf5 11 (by decide) fl_X5_33 gp0 (gps (gps (gps (gps (gps (gps (gps (gps (gps (gps (gps gp0))))))))))) dX5_exposeCars_14 ?_
      refine A_iload_n ok.b rfl dX5_exposeCars_17 (gps gp0) ?_
      refine A_iald ok.b (gps (gps (gps (gps (gps (gps gp0)))))) (ix_n (by omega) (by decide)) dX5_exposeCars_18 ?_
      refine A_if_lt ok.b (tgt := 42) dX5_exposeCars_19 (by decide) (fun c19 => ?_) (fun c19 => ?_)
      · skip
        refine A_iinc ok.b (v := _ + 1) dX5_exposeCars_42 (gps gp0) rfl (by decide) (sts1 rfl st0) ?_
        refine A_goto ok.b (tgt := 2) dX5_exposeCars_45 (by decide) ?_
        rw [exposeF, if_pos c19] at ih
        rw [nI_1]
        exact ih
      · skip
        refine A_aload_n ok.b rfl dX5_exposeCars_22 gp0 ?_
        refine A_getf ok.b cf5 13 (by decide) fl_X5_39 gp0 (gps (gps (gps (gps (gps (gps (gps (gps (gps (gps (gps (gps (gps gp0))))))))))))) dX5_exposeCars_23 ?_
        refine A_iload_n ok.b rfl dX5_exposeCars_26 (gps gp0) ?_
        refine A_dup2_11 ok.b dX5_exposeCars_27 rfl rfl ?_
        refine A_lald ok.b (gps (gps (gps (gps (gps (gps (gps (gps gp0)))))))) (ix_n (by omega) (by decide)) dX5_exposeCars_28 ?_
        refine A_aload_n ok.b rfl dX5_exposeCars_29 gp0 ?_
        refine A_getf ok.b cf5 6 (by decide) fl_X5_15 gp0 (gps (gps (gps (gps (gps (gps gp0)))))) dX5_exposeCars_30 ?_
        refine A_aload_n ok.b rfl dX5_exposeCars_33 gp0 ?_
        refine A_getf ok.b cf5 11 (by decide) fl_X5_33 gp0 (gps (gps (gps (gps (gps (gps (gps (gps (gps (gps (gps gp0))))))))))) dX5_exposeCars_34 ?_
        refine A_iload_n ok.b rfl dX5_exposeCars_37 (gps gp0) ?_
        refine A_iald ok.b (gps (gps (gps (gps (gps (gps gp0)))))) (ix_n (by omega) (by decide)) dX5_exposeCars_38 ?_
        refine A_lald ok.b (gps gp0) (inn_ix hn (by decide) (hcs.resolve_left c19)) dX5_exposeCars_39 ?_
        refine A_ladd ok.b dX5_exposeCars_40 ?_
        refine A_last ok.b (gps (gps (gps (gps (gps (gps (gps (gps gp0)))))))) (ix_n (by omega) (by decide)) (wps (wps (wps (wps (wps (wps (wps (wps wp0)))))))) dX5_exposeCars_41 ?_
        refine A_iinc ok.b (v := _ + 1) dX5_exposeCars_42 (gps gp0) rfl (by decide) (sts1 rfl st0) ?_
        refine A_goto ok.b (tgt := 2) dX5_exposeCars_45 (by decide) ?_
        rw [exposeF, if_neg c19] at ih
        rw [nI_1]
        exact ih
  refine A_iconst ok.b (v := 0) dX5_exposeCars_0 (by decide) ?_
  refine A_istore_n ok.b rfl dX5_exposeCars_1 (by decide) (sts1 rfl st0) ?_
  exact L 0 (Nat.zero_le _)
def sumL (f : Nat → Int64) : Nat → Int64
  | 0 => 0
  | k + 1 => sumL f k + f k
set_option maxRecDepth 20000 in
set_option maxHeartbeats 2000000 in
theorem c_smokeInside (l : Launch) (g : Gl) (a b : Nat → Nat) (T : TD) (P : PD) (hn : pN P ≤ 12) (hc : pCar P ≤ 20) : Ct l g yX5_smokeInside cX5_smokeInside 4 (some .long) 0 0 0 0 [.ref (a 0)] (tpW g a b T P) (fun v w => v = some (.long (sumL (tSmoke T) (pN P))) ∧ w = tpW g a b T P) noX := by
  refine Ct.intro [some (.ref (a 0)), none, none, none] (by decide +kernel) (fun _ h => h) (Nat.le_of_ble_eq_true rfl) (fun A H0 K ok => ?_)
  have L : ∀ k, k ≤ pN P → AW g A H0 4 K 4 [some (.ref (a 0)), some (.long (sumL (tSmoke T) k)), none, some (.int (nI k))] [] (tpW g a b T P) 0 0 := by
    refine up_ind (pN P) ?_ (fun k hk ih => ?_)
    · skip
      refine A_iload_n ok.b rfl dX5_smokeInside_4 (gps (gps (gps gp0))) ?_
      refine A_aload_n ok.b rfl dX5_smokeInside_5 gp0 ?_
      refine A_getf ok.b cf5 0 (by decide) fl_X5_42 gp0 gp0 dX5_smokeInside_6 ?_
      refine A_getf ok.b cf2 0 (by decide) fl_X5_80 (gps (gps (gps (gps (gps (gps (gps (gps (gps gp0))))))))) gp0 dX5_smokeInside_9 ?_
      refine A_icmp_ge ok.b (tgt := 30) dX5_smokeInside_12 (by decide) (fun c12 => ?_) (fun c12 => (c12 (nI_le (Nat.le_refl _) (by omega))).elim)
      refine A_lload_n ok.b rfl dX5_smokeInside_30 (gps gp0) ?_
      refine A_lret ok dX5_smokeInside_31 (Nat.le_of_ble_eq_true rfl) (Nat.le_of_ble_eq_true rfl) ?_
      exact ⟨rfl, rfl⟩
    · skip
      refine A_iload_n ok.b rfl dX5_smokeInside_4 (gps (gps (gps gp0))) ?_
      refine A_aload_n ok.b rfl dX5_smokeInside_5 gp0 ?_
      refine A_getf ok.b cf5 0 (by decide) fl_X5_42 gp0 gp0 dX5_smokeInside_6 ?_
      refine A_getf ok.b cf2 0 (by decide) fl_X5_80 (gps (gps (gps (gps (gps (gps (gps (gps (gps gp0))))))))) gp0 dX5_smokeInside_9 ?_
      refine A_icmp_ge ok.b (tgt := 30) dX5_smokeInside_12 (by decide) (fun c12 => (nI_ge hk (by omega) c12).elim) (fun c12 => ?_)
      refine A_lload_n ok.b rfl dX5_smokeInside_15 (gps gp0) ?_
      refine A_aload_n ok.b rfl dX5_smokeInside_16 gp0 ?_
      refine A_getf ok.b cf5 6 (by decide) fl_X5_15 gp0 (gps (gps (gps (gps (gps (gps gp0)))))) dX5_smokeInside_17 ?_
      refine A_iload_n ok.b rfl dX5_smokeInside_20 (gps (gps (gps gp0))) ?_
      refine A_lald ok.b (gps gp0) (ix_n (by omega) (by decide)) dX5_smokeInside_21 ?_
      refine A_ladd ok.b dX5_smokeInside_22 ?_
      refine A_lstore_n ok.b rfl dX5_smokeInside_23 (by decide) (sts1 rfl st0w) ?_
      refine A_iinc ok.b (v := _ + 1) dX5_smokeInside_24 (gps (gps (gps gp0))) rfl (by decide) (sts (sts (sts1n st0))) ?_
      refine A_goto ok.b (tgt := 4) dX5_smokeInside_27 (by decide) ?_
      rw [nI_1]
      exact ih
  refine A_lconst ok.b (v := 0) dX5_smokeInside_0 (by decide) ?_
  refine A_lstore_n ok.b rfl dX5_smokeInside_1 (by decide) (sts1 rfl st0w) ?_
  refine A_iconst ok.b (v := 0) dX5_smokeInside_2 (by decide) ?_
  refine A_istore_n ok.b rfl dX5_smokeInside_3 (by decide) (sts (sts (sts1n st0))) ?_
  exact L 0 (Nat.zero_le _)
set_option maxRecDepth 20000 in
set_option maxHeartbeats 2000000 in
theorem c_exposureSum (l : Launch) (g : Gl) (a b : Nat → Nat) (T : TD) (P : PD) (hn : pN P ≤ 12) (hc : pCar P ≤ 20) : Ct l g yX5_exposureSum cX5_exposureSum 4 (some .long) 0 0 0 0 [.ref (a 0)] (tpW g a b T P) (fun v w => v = some (.long (sumL (tEx T) (pCar P))) ∧ w = tpW g a b T P) noX := by
  refine Ct.intro [some (.ref (a 0)), none, none, none] (by decide +kernel) (fun _ h => h) (Nat.le_of_ble_eq_true rfl) (fun A H0 K ok => ?_)
  have L : ∀ k, k ≤ pCar P → AW g A H0 4 K 4 [some (.ref (a 0)), some (.long (sumL (tEx T) k)), none, some (.int (nI k))] [] (tpW g a b T P) 0 0 := by
    refine up_ind (pCar P) ?_ (fun k hk ih => ?_)
    · skip
      refine A_iload_n ok.b rfl dX5_exposureSum_4 (gps (gps (gps gp0))) ?_
      refine A_aload_n ok.b rfl dX5_exposureSum_5 gp0 ?_
      refine A_getf ok.b cf5 0 (by decide) fl_X5_42 gp0 gp0 dX5_exposureSum_6 ?_
      refine A_getf ok.b cf2 3 (by decide) fl_X5_74 (gps (gps (gps (gps (gps (gps (gps (gps (gps gp0))))))))) (gps (gps (gps gp0))) dX5_exposureSum_9 ?_
      refine A_icmp_ge ok.b (tgt := 30) dX5_exposureSum_12 (by decide) (fun c12 => ?_) (fun c12 => (c12 (nI_le (Nat.le_refl _) (by omega))).elim)
      refine A_lload_n ok.b rfl dX5_exposureSum_30 (gps gp0) ?_
      refine A_lret ok dX5_exposureSum_31 (Nat.le_of_ble_eq_true rfl) (Nat.le_of_ble_eq_true rfl) ?_
      exact ⟨rfl, rfl⟩
    · skip
      refine A_iload_n ok.b rfl dX5_exposureSum_4 (gps (gps (gps gp0))) ?_
      refine A_aload_n ok.b rfl dX5_exposureSum_5 gp0 ?_
      refine A_getf ok.b cf5 0 (by decide) fl_X5_42 gp0 gp0 dX5_exposureSum_6 ?_
      refine A_getf ok.b cf2 3 (by decide) fl_X5_74 (gps (gps (gps (gps (gps (gps (gps (gps (gps gp0))))))))) (gps (gps (gps gp0))) dX5_exposureSum_9 ?_
      refine A_icmp_ge ok.b (tgt := 30) dX5_exposureSum_12 (by decide) (fun c12 => (nI_ge hk (by omega) c12).elim) (fun c12 => ?_)
      refine A_lload_n ok.b rfl dX5_exposureSum_15 (gps gp0) ?_
      refine A_aload_n ok.b rfl dX5_exposureSum_16 gp0 ?_
      refine A_getf ok.b cf5 13 (by decide) fl_X5_39 gp0 (gps (gps (gps (gps (gps (gps (gps (gps (gps (gps (gps (gps (gps gp0))))))))))))) dX5_exposureSum_17 ?_
      refine A_iload_n ok.b rfl dX5_exposureSum_20 (gps (gps (gps gp0))) ?_
      refine A_lald ok.b (gps (gps (gps (gps (gps (gps (gps (gps gp0)))))))) (ix_n (by omega) (by decide)) dX5_exposureSum_21 ?_
      refine A_ladd ok.b dX5_exposureSum_22 ?_
      refine A_lstore_n ok.b rfl dX5_exposureSum_23 (by decide) (sts1 rfl st0w) ?_
      refine A_iinc ok.b (v := _ + 1) dX5_exposureSum_24 (gps (gps (gps gp0))) rfl (by decide) (sts (sts (sts1n st0))) ?_
      refine A_goto ok.b (tgt := 4) dX5_exposureSum_27 (by decide) ?_
      rw [nI_1]
      exact ih
  refine A_lconst ok.b (v := 0) dX5_exposureSum_0 (by decide) ?_
  refine A_lstore_n ok.b rfl dX5_exposureSum_1 (by decide) (sts1 rfl st0w) ?_
  refine A_iconst ok.b (v := 0) dX5_exposureSum_2 (by decide) ?_
  refine A_istore_n ok.b rfl dX5_exposureSum_3 (by decide) (sts (sts (sts1n st0))) ?_
  exact L 0 (Nat.zero_le _)
def absI (x : Int32) : Int32 := if 0 ≤ x then x else 0 - x
def smokeSec (n : Nat) (fl : Int32) (i : Nat) : Int32 := if fl ≤ 0 then nI n - 1 - nI i else nI i
theorem smokeSec_in {n i : Nat} (fl : Int32) (h : i < n) : Inn (smokeSec n fl i) n := by
  unfold smokeSec
  split
  · rw [inn_sub h]; exact inn_n (by omega)
  · exact inn_n h
/-- one section's smoke: removed, moved on, what comes in -/
def smokeStep (P : PD) (fl : Int32) (i : Nat) (S : Int64 × TD) : Int64 × TD :=
  ((tSmoke S.2 (smokeSec (pN P) fl i).toNatClampNeg - tSmoke S.2 (smokeSec (pN P) fl i).toNatClampNeg * (pVent P (smokeSec (pN P) fl i).toNatClampNeg).toInt64 / 100) * (absI fl).toInt64 / 100,
   sRem (sSmoke S.2 (vp_updL (tSmoke S.2) (smokeSec (pN P) fl i).toNatClampNeg
     (tSmoke S.2 (smokeSec (pN P) fl i).toNatClampNeg - tSmoke S.2 (smokeSec (pN P) fl i).toNatClampNeg * (pVent P (smokeSec (pN P) fl i).toNatClampNeg).toInt64 / 100
       - (tSmoke S.2 (smokeSec (pN P) fl i).toNatClampNeg - tSmoke S.2 (smokeSec (pN P) fl i).toNatClampNeg * (pVent P (smokeSec (pN P) fl i).toNatClampNeg).toInt64 / 100) * (absI fl).toInt64 / 100 + S.1)))
     (tRem S.2 + tSmoke S.2 (smokeSec (pN P) fl i).toNatClampNeg * (pVent P (smokeSec (pN P) fl i).toNatClampNeg).toInt64 / 100))
def smokeRun (P : PD) (fl : Int32) (T : TD) : Int64 × TD := foldN (smokeStep P fl) (0, T) (pN P)
def moveSmokeF (P : PD) (fl : Int32) (T : TD) : TD := sLeft (smokeRun P fl T).2 (tLeft (smokeRun P fl T).2 + (smokeRun P fl T).1)
set_option maxRecDepth 20000 in
set_option maxHeartbeats 2000000 in
theorem c_moveSmoke (l : Launch) (g : Gl) (a b : Nat → Nat) (T : TD) (P : PD) (hn : pN P ≤ 12) (hc : pCar P ≤ 20) (fl : Int32) : Ct l g yX5_moveSmoke cX5_moveSmoke 12 none 1 40 0 0 [.ref (a 0), .int fl] (tpW g a b T P) (fun v w => v = none ∧ w = tpW g a b (moveSmokeF P fl T) P) noX := by
  refine Ct.intro [some (.ref (a 0)), some (.int fl), none, none, none, none, none, none, none, none, none, none] (by decide +kernel) (fun _ h => h) (Nat.le_of_ble_eq_true rfl) (fun A H0 K ok => ?_)
  have L : ∀ k, k ≤ pN P → AW g A H0 12 K 5 [some (.ref (a 0)), some (.int fl), some (.long (foldN (smokeStep P fl) (0, T) k).1), none, some (.int (nI k)), none, none, none, none, none, none, none] [] (tpW g a b (foldN (smokeStep P fl) (0, T) k).2 P) 0 0 := by
    refine up_ind (pN P) ?_ (fun k hk ih => ?_)
    · skip
      refine A_iload ok.b dX5_moveSmoke_5 (gps (gps (gps (gps gp0)))) ?_
      refine A_aload_n ok.b rfl dX5_moveSmoke_7 gp0 ?_
      refine A_getf ok.b cf5 0 (by decide) fl_X5_42 gp0 gp0 dX5_moveSmoke_8 ?_
      refine A_getf ok.b cf2 0 (by decide) fl_X5_80 (gps (gps (gps (gps (gps (gps (gps (gps (gps gp0))))))))) gp0 dX5_moveSmoke_11 ?_
      refine A_icmp_ge ok.b (tgt := 125) dX5_moveSmoke_14 (by decide) (fun c14 => ?_) (fun c14 => (c14 (nI_le (Nat.le_refl _) (by omega))).elim)
      refine A_aload_n ok.b rfl dX5_moveSmoke_125 gp0 ?_
      refine A_dup ok.b dX5_moveSmoke_126 rfl ?_
      refine A_getf ok.b cf5 4 (by decide) fl_X5_52 gp0 (gps (gps (gps (gps gp0)))) dX5_moveSmoke_127 ?_
      refine A_lload_n ok.b rfl dX5_moveSmoke_130 (gps (gps gp0)) ?_
      refine A_ladd ok.b dX5_moveSmoke_131 ?_
      refine A_putf ok.b cf5 4 (by decide) rfl fl_X5_52 gp0 rfl rfl (gp_lt (gps (gps (gps (gps gp0))))) (wps (wps (wps (wps wp0)))) wp0 dX5_moveSmoke_132 ?_
      refine A_vret ok dX5_moveSmoke_135 (Nat.le_of_ble_eq_true rfl) (Nat.le_of_ble_eq_true rfl) ?_
      exact ⟨rfl, rfl⟩
    · rw [foldN_s] at ih
      generalize foldN (smokeStep P fl) (0, T) k = S at ih ⊢
      have M : AW g A H0 12 K 38 [some (.ref (a 0)), some (.int fl), some (.long S.1), none, some (.int (nI k)), none, none, none, none, none, none, none] [.int (smokeSec (pN P) fl k)] (tpW g a b S.2 P) 0 0 := by
        refine A_istore ok.b dX5_moveSmoke_38 (by decide) (sts (sts (sts (sts (sts1 rfl st0))))) ?_
        refine A_aload_n ok.b rfl dX5_moveSmoke_40 gp0 ?_
        refine A_getf ok.b cf5 6 (by decide) fl_X5_15 gp0 (gps (gps (gps (gps (gps (gps gp0)))))) dX5_moveSmoke_41 ?_
        refine A_iload ok.b dX5_moveSmoke_44 (gps (gps (gps (gps (gps gp0))))) ?_
        refine A_lald ok.b (gps gp0) (inn_ix hn (by decide) (smokeSec_in fl hk)) dX5_moveSmoke_46 ?_
        refine A_aload_n ok.b rfl dX5_moveSmoke_47 gp0 ?_
        refine A_getf ok.b cf5 0 (by decide) fl_X5_42 gp0 gp0 dX5_moveSmoke_48 ?_
        refine A_getf ok.b cf2 4 (by decide) fl_X5_126 (gps (gps (gps (gps (gps (gps (gps (gps (gps gp0))))))))) (gps (gps (gps (gps gp0)))) dX5_moveSmoke_51 ?_
        refine A_iload ok.b dX5_moveSmoke_54 (gps (gps (gps (gps (gps gp0))))) ?_
        refine A_iald ok.b (gps (gps (gps (gps (gps (gps (gps (gps (gps (gps gp0)))))))))) (inn_ix hn (by decide) (smokeSec_in fl hk)) dX5_moveSmoke_56 ?_
        refine A_i2l ok.b dX5_moveSmoke_57 ?_
        refine A_lmul ok.b dX5_moveSmoke_58 ?_
        refine A_ldc2 ok.b dX5_moveSmoke_59 kl_X5_129 ?_
        refine A_ldiv ok.b dX5_moveSmoke_62 (by decide) ?_
        refine A_lstore ok.b dX5_moveSmoke_63 (by decide) (sts (sts (sts (sts (sts (sts1 rfl st0w)))))) ?_
        refine A_aload_n ok.b rfl dX5_moveSmoke_65 gp0 ?_
        refine A_getf ok.b cf5 6 (by decide) fl_X5_15 gp0 (gps (gps (gps (gps (gps (gps gp0)))))) dX5_moveSmoke_66 ?_
        refine A_iload ok.b dX5_moveSmoke_69 (gps (gps (gps (gps (gps gp0))))) ?_
        refine A_lald ok.b (gps gp0) (inn_ix hn (by decide) (smokeSec_in fl hk)) dX5_moveSmoke_71 ?_
        refine A_lload ok.b dX5_moveSmoke_72 (gps (gps (gps (gps (gps (gps gp0)))))) ?_
        refine A_lsub ok.b dX5_moveSmoke_74 ?_
        refine A_lstore ok.b dX5_moveSmoke_75 (by decide) (sts (sts (sts (sts (sts (sts (sts (sts1n st0w)))))))) ?_
        refine A_lload ok.b dX5_moveSmoke_77 (gps (gps (gps (gps (gps (gps (gps (gps gp0)))))))) ?_
        refine A_iload_n ok.b rfl dX5_moveSmoke_79 (gps gp0) ?_
        refine A_abs ok.b (ml_X5_131) dX5_moveSmoke_80 (Nat.le_of_ble_eq_true rfl) (Nat.le_of_ble_eq_true rfl) (Nat.le_of_ble_eq_true rfl) (Nat.le_of_ble_eq_true rfl) ?_
        refine A_i2l ok.b dX5_moveSmoke_83 ?_
        refine A_lmul ok.b dX5_moveSmoke_84 ?_
        refine A_ldc2 ok.b dX5_moveSmoke_85 kl_X5_129 ?_
        refine A_ldiv ok.b dX5_moveSmoke_88 (by decide) ?_
        refine A_lstore ok.b dX5_moveSmoke_89 (by decide) (sts (sts (sts (sts (sts (sts (sts (sts (sts (sts1n st0w)))))))))) ?_
        refine A_aload_n ok.b rfl dX5_moveSmoke_91 gp0 ?_
        refine A_getf ok.b cf5 6 (by decide) fl_X5_15 gp0 (gps (gps (gps (gps (gps (gps gp0)))))) dX5_moveSmoke_92 ?_
        refine A_iload ok.b dX5_moveSmoke_95 (gps (gps (gps (gps (gps gp0))))) ?_
        refine A_lload ok.b dX5_moveSmoke_97 (gps (gps (gps (gps (gps (gps (gps (gps gp0)))))))) ?_
        refine A_lload ok.b dX5_moveSmoke_99 (gps (gps (gps (gps (gps (gps (gps (gps (gps (gps gp0)))))))))) ?_
        refine A_lsub ok.b dX5_moveSmoke_101 ?_
        refine A_lload_n ok.b rfl dX5_moveSmoke_102 (gps (gps gp0)) ?_
        refine A_ladd ok.b dX5_moveSmoke_103 ?_
        refine A_last ok.b (gps gp0) (inn_ix hn (by decide) (smokeSec_in fl hk)) (wps wp0) dX5_moveSmoke_104 ?_
        refine A_aload_n ok.b rfl dX5_moveSmoke_105 gp0 ?_
        refine A_dup ok.b dX5_moveSmoke_106 rfl ?_
        refine A_getf ok.b cf5 5 (by decide) fl_X5_56 gp0 (gps (gps (gps (gps (gps gp0))))) dX5_moveSmoke_107 ?_
        refine A_lload ok.b dX5_moveSmoke_110 (gps (gps (gps (gps (gps (gps gp0)))))) ?_
        refine A_ladd ok.b dX5_moveSmoke_112 ?_
        refine A_putf ok.b cf5 5 (by decide) rfl fl_X5_56 gp0 rfl rfl (gp_lt (gps (gps (gps (gps (gps gp0)))))) (wps (wps (wps (wps (wps wp0))))) wp0 dX5_moveSmoke_113 ?_
        refine A_lload ok.b dX5_moveSmoke_116 (gps (gps (gps (gps (gps (gps (gps (gps (gps (gps gp0)))))))))) ?_
        refine A_lstore_n ok.b rfl dX5_moveSmoke_118 (by decide) (sts (sts1 rfl st0w)) ?_
        refine A_iinc ok.b (v := _ + 1) dX5_moveSmoke_119 (gps (gps (gps (gps gp0)))) rfl (by decide) (sts (sts (sts (sts1n st0)))) ?_
        refine A_goto ok.b (tgt := 5) dX5_moveSmoke_122 (by decide) ?_
        refine A_lv (lleK (lleK (lleK (lleK (lleK (lleD (lleD (lleK (lleD (lleK (lleD (lleK lle0)))))))))))) ?_
        rw [nI_1]
        exact ih
      refine A_iload ok.b dX5_moveSmoke_5 (gps (gps (gps (gps gp0)))) ?_
      refine A_aload_n ok.b rfl dX5_moveSmoke_7 gp0 ?_
      refine A_getf ok.b cf5 0 (by decide) fl_X5_42 gp0 gp0 dX5_moveSmoke_8 ?_
      refine A_getf ok.b cf2 0 (by decide) fl_X5_80 (gps (gps (gps (gps (gps (gps (gps (gps (gps gp0))))))))) gp0 dX5_moveSmoke_11 ?_
      refine A_icmp_ge ok.b (tgt := 125) dX5_moveSmoke_14 (by decide) (fun c14 => (nI_ge hk (by omega) c14).elim) (fun c14 => ?_)
      refine A_iload_n ok.b rfl dX5_moveSmoke_17 (gps gp0) ?_
      refine A_if_le ok.b (tgt := 26) dX5_moveSmoke_18 (by decide) (fun c18 => ?_) (fun c18 => ?_)
      · skip
        refine A_aload_n ok.b rfl dX5_moveSmoke_26 gp0 ?_
        refine A_getf ok.b cf5 0 (by decide) fl_X5_42 gp0 gp0 dX5_moveSmoke_27 ?_
        refine A_getf ok.b cf2 0 (by decide) fl_X5_80 (gps (gps (gps (gps (gps (gps (gps (gps (gps gp0))))))))) gp0 dX5_moveSmoke_30 ?_
        refine A_iconst ok.b (v := 1) dX5_moveSmoke_33 (by decide) ?_
        refine A_isub ok.b dX5_moveSmoke_34 ?_
        refine A_iload ok.b dX5_moveSmoke_35 (gps (gps (gps (gps gp0)))) ?_
        refine A_isub ok.b dX5_moveSmoke_37 ?_
        rw [smokeSec, if_pos c18] at M
        exact M
      · skip
        refine A_iload ok.b dX5_moveSmoke_21 (gps (gps (gps (gps gp0)))) ?_
        refine A_goto ok.b (tgt := 38) dX5_moveSmoke_23 (by decide) ?_
        rw [smokeSec, if_neg c18] at M
        exact M
  refine A_lconst ok.b (v := 0) dX5_moveSmoke_0 (by decide) ?_
  refine A_lstore_n ok.b rfl dX5_moveSmoke_1 (by decide) (sts (sts1 rfl st0w)) ?_
  refine A_iconst ok.b (v := 0) dX5_moveSmoke_2 (by decide) ?_
  refine A_istore ok.b dX5_moveSmoke_3 (by decide) (sts (sts (sts (sts1n st0)))) ?_
  exact L 0 (Nat.zero_le _)
