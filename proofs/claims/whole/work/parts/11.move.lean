def foldN {σ : Type} (f : Nat → σ → σ) (s : σ) : Nat → σ
  | 0 => s
  | k + 1 => f k (foldN f s k)
theorem foldN_s {σ : Type} (f : Nat → σ → σ) (s : σ) (k : Nat) : foldN f s (k + 1) = f k (foldN f s k) := rfl
def Lle (l2 l1 : List (Option Value)) : Prop := ∀ (j : Nat) (v : Value), l2[j]? = some (some v) → l1[j]? = some (some v)
theorem lle0 {l1 : List (Option Value)} : Lle [] l1 := fun j v h => by simp at h
theorem lleK {x : Option Value} {t2 t1 : List (Option Value)} (h : Lle t2 t1) : Lle (x :: t2) (x :: t1) := fun j v hj => by
  cases j with
  | zero => simpa using hj
  | succ j => simpa using h j v (by simpa using hj)
theorem lleD {x : Option Value} {t2 t1 : List (Option Value)} (h : Lle t2 t1) : Lle (none :: t2) (x :: t1) := fun j v hj => by
  cases j with
  | zero => simp at hj
  | succ j => simpa using h j v (by simpa using hj)
theorem inn_sub {n i : Nat} (h : i < n) : nI n - 1 - nI i = nI (n - 1 - i) := by
  rw [show (1 : Int32) = nI 1 from rfl, pk_sub (by omega), pk_sub (by omega)]

/-- the car c drives, if it is in section s towards d; the set of those that moved -/
def driveCF (P : PD) (d s : Int32) (c : Nat) (S : Int32 × TD) : Int32 × TD :=
  if tCs S.2 c = s ∧ tCd S.2 c = d then ((if (driveF P S.2 c s d).1 = 0 then S.1 else S.1 ||| ((1 : Int32) <<< (nI c &&& 31))), (driveF P S.2 c s d).2) else S
def driveSec (n : Nat) (d : Int32) (i : Nat) : Int32 := if d = 1 then nI n - 1 - nI i else nI i
def driveLF (P : PD) (d : Int32) (i : Nat) (S : Int32 × TD) : Int32 × TD :=
  if tLane S.2 (lx (driveSec (pN P) d i) d) = 0 then S else foldN (driveCF P d (driveSec (pN P) d i)) S (pCar P)
def driveLanesF (P : PD) (T : TD) (d : Int32) : Int32 × TD := foldN (driveLF P d) (0, T) (pN P)
theorem driveSec_in {n i : Nat} (d : Int32) (h : i < n) : Inn (driveSec n d i) n := by
  unfold driveSec
  split
  · rw [inn_sub h]; exact inn_n (by omega)
  · exact inn_n h
set_option maxRecDepth 20000 in
set_option maxHeartbeats 2000000 in
theorem c_driveLanes (l : Launch) (g : Gl) (a b : Nat → Nat) (T : TD) (P : PD) (hn : pN P ≤ 12) (hc : pCar P ≤ 20) (d : Int32) : Ct l g yX5_driveLanes cX5_driveLanes 6 (some .int) 2 80 0 0 [.ref (a 0), .int d] (tpW g a b T P) (fun v w => v = some (.int (driveLanesF P T d).1) ∧ w = tpW g a b (driveLanesF P T d).2 P) noX := by
  refine Ct.intro [some (.ref (a 0)), some (.int d), none, none, none, none] (by decide +kernel) (fun _ h => h) (Nat.le_of_ble_eq_true rfl) (fun A H0 K ok => ?_)
  have L : ∀ k, k ≤ pN P → AW g A H0 6 K 4 [some (.ref (a 0)), some (.int d), some (.int (foldN (driveLF P d) (0, T) k).1), some (.int (nI k)), none, none] [] (tpW g a b (foldN (driveLF P d) (0, T) k).2 P) 0 0 := by
    refine up_ind (pN P) ?_ (fun k hk ih => ?_)
    · skip
      refine A_iload_n ok.b rfl dX5_driveLanes_4 (gps (gps (gps gp0))) ?_
      refine A_aload_n ok.b rfl dX5_driveLanes_5 gp0 ?_
      refine A_getf ok.b cf5 0 (by decide) fl_X5_42 gp0 gp0 dX5_driveLanes_6 ?_
      refine A_getf ok.b cf2 0 (by decide) fl_X5_80 (gps (gps (gps (gps (gps (gps (gps (gps (gps gp0))))))))) gp0 dX5_driveLanes_9 ?_
      refine A_icmp_ge ok.b (tgt := 123) dX5_driveLanes_12 (by decide) (fun c12 => ?_) (fun c12 => (c12 (nI_le (Nat.le_refl _) (by omega))).elim)
      refine A_iload_n ok.b rfl dX5_driveLanes_123 (gps (gps gp0)) ?_
      refine A_iret ok dX5_driveLanes_124 (Nat.le_of_ble_eq_true rfl) (Nat.le_of_ble_eq_true rfl) ?_
      exact ⟨rfl, rfl⟩
    · rw [foldN_s] at ih
      generalize foldN (driveLF P d) (0, T) k = S at ih ⊢
      have M : AW g A H0 6 K 35 [some (.ref (a 0)), some (.int d), some (.int S.1), some (.int (nI k)), none, none] [.int (driveSec (pN P) d k)] (tpW g a b S.2 P) 0 0 := by
        refine A_istore ok.b dX5_driveLanes_35 (by decide) (sts (sts (sts (sts1 rfl st0)))) ?_
        refine A_aload_n ok.b rfl dX5_driveLanes_37 gp0 ?_
        refine A_getf ok.b cf5 10 (by decide) fl_X5_30 gp0 (gps (gps (gps (gps (gps (gps (gps (gps (gps (gps gp0)))))))))) dX5_driveLanes_38 ?_
        refine A_iload ok.b dX5_driveLanes_41 (gps (gps (gps (gps gp0)))) ?_
        refine A_iload_n ok.b rfl dX5_driveLanes_43 (gps gp0) ?_
        refine A_pureSN ok.b (As := [_, _]) mf_X6_laneIndex (List.mem_of_getElem? (i := 4) rfl) sc_X6_laneIndex (c_laneIndex l g _ _) rfl rfl dX5_driveLanes_44 (Nat.le_of_ble_eq_true rfl) ⟨(Nat.le_of_ble_eq_true rfl), (Nat.le_of_ble_eq_true rfl)⟩ ⟨(Nat.le_of_ble_eq_true rfl), (Nat.le_of_ble_eq_true rfl)⟩ ?_
        refine A_iald ok.b (gps (gps (gps (gps (gps gp0))))) (lx_ix hn (driveSec_in d hk) d) dX5_driveLanes_47 ?_
        refine A_if_ne ok.b (tgt := 54) dX5_driveLanes_48 (by decide) (fun c48 => ?_) (fun c48 => ?_)
        · skip
          refine A_iconst ok.b (v := 0) dX5_driveLanes_54 (by decide) ?_
          refine A_istore ok.b dX5_driveLanes_55 (by decide) (sts (sts (sts (sts (sts1 rfl st0))))) ?_
          have hs : Inn (driveSec (pN P) d k) (pN P) := driveSec_in d hk
          have J : ∀ c, c ≤ pCar P → AW g A H0 6 K 57 [some (.ref (a 0)), some (.int d), some (.int (foldN (driveCF P d (driveSec (pN P) d k)) S c).1), some (.int (nI k)), some (.int (driveSec (pN P) d k)), some (.int (nI c))] [] (tpW g a b (foldN (driveCF P d (driveSec (pN P) d k)) S c).2 P) 0 0 := by
            refine up_ind (pCar P) ?_ (fun c hcc ihc => ?_)
            · rw [driveLF, if_neg c48] at ih
              generalize foldN (driveCF P d (driveSec (pN P) d k)) S (pCar P) = S1 at ih ⊢
              refine A_iload ok.b dX5_driveLanes_57 (gps (gps (gps (gps (gps gp0))))) ?_
              refine A_aload_n ok.b rfl dX5_driveLanes_59 gp0 ?_
              refine A_getf ok.b cf5 0 (by decide) fl_X5_42 gp0 gp0 dX5_driveLanes_60 ?_
              refine A_getf ok.b cf2 3 (by decide) fl_X5_74 (gps (gps (gps (gps (gps (gps (gps (gps (gps gp0))))))))) (gps (gps (gps gp0))) dX5_driveLanes_63 ?_
              refine A_icmp_ge ok.b (tgt := 117) dX5_driveLanes_66 (by decide) (fun c66 => ?_) (fun c66 => (c66 (nI_le (Nat.le_refl _) (by omega))).elim)
              refine A_iinc ok.b (v := _ + 1) dX5_driveLanes_117 (gps (gps (gps gp0))) rfl (by decide) (sts (sts (sts1 rfl st0))) ?_
              refine A_goto ok.b (tgt := 4) dX5_driveLanes_120 (by decide) ?_
              refine A_lv (lleK (lleK (lleK (lleK (lleD (lleD lle0)))))) ?_
              rw [nI_1]
              exact ih
            · rw [foldN_s] at ihc
              generalize foldN (driveCF P d (driveSec (pN P) d k)) S c = S1 at ihc ⊢
              refine A_iload ok.b dX5_driveLanes_57 (gps (gps (gps (gps (gps gp0))))) ?_
              refine A_aload_n ok.b rfl dX5_driveLanes_59 gp0 ?_
              refine A_getf ok.b cf5 0 (by decide) fl_X5_42 gp0 gp0 dX5_driveLanes_60 ?_
              refine A_getf ok.b cf2 3 (by decide) fl_X5_74 (gps (gps (gps (gps (gps (gps (gps (gps (gps gp0))))))))) (gps (gps (gps gp0))) dX5_driveLanes_63 ?_
              refine A_icmp_ge ok.b (tgt := 117) dX5_driveLanes_66 (by decide) (fun c66 => (nI_ge hcc (by omega) c66).elim) (fun c66 => ?_)
              refine A_aload_n ok.b rfl dX5_driveLanes_69 gp0 ?_
              refine A_getf ok.b cf5 11 (by decide) fl_X5_33 gp0 (gps (gps (gps (gps (gps (gps (gps (gps (gps (gps (gps gp0))))))))))) dX5_driveLanes_70 ?_
              refine A_iload ok.b dX5_driveLanes_73 (gps (gps (gps (gps (gps gp0))))) ?_
              refine A_iald ok.b (gps (gps (gps (gps (gps (gps gp0)))))) (ix_n (by omega) (by decide)) dX5_driveLanes_75 ?_
              refine A_iload ok.b dX5_driveLanes_76 (gps (gps (gps (gps gp0)))) ?_
              refine A_icmp_ne ok.b (tgt := 111) dX5_driveLanes_78 (by decide) (fun c78 => ?_) (fun c78 => ?_)
              · skip
                refine A_iinc ok.b (v := _ + 1) dX5_driveLanes_111 (gps (gps (gps (gps (gps gp0))))) rfl (by decide) (sts (sts (sts (sts (sts1 rfl st0))))) ?_
                refine A_goto ok.b (tgt := 57) dX5_driveLanes_114 (by decide) ?_
                rw [driveCF, if_neg (fun h => c78 h.1)] at ihc
                rw [nI_1]
                exact ihc
              · skip
                refine A_aload_n ok.b rfl dX5_driveLanes_81 gp0 ?_
                refine A_getf ok.b cf5 12 (by decide) fl_X5_36 gp0 (gps (gps (gps (gps (gps (gps (gps (gps (gps (gps (gps (gps gp0)))))))))))) dX5_driveLanes_82 ?_
                refine A_iload ok.b dX5_driveLanes_85 (gps (gps (gps (gps (gps gp0))))) ?_
                refine A_iald ok.b (gps (gps (gps (gps (gps (gps (gps gp0))))))) (ix_n (by omega) (by decide)) dX5_driveLanes_87 ?_
                refine A_iload_n ok.b rfl dX5_driveLanes_88 (gps gp0) ?_
                refine A_icmp_ne ok.b (tgt := 111) dX5_driveLanes_89 (by decide) (fun c89 => ?_) (fun c89 => ?_)
                · skip
                  refine A_iinc ok.b (v := _ + 1) dX5_driveLanes_111 (gps (gps (gps (gps (gps gp0))))) rfl (by decide) (sts (sts (sts (sts (sts1 rfl st0))))) ?_
                  refine A_goto ok.b (tgt := 57) dX5_driveLanes_114 (by decide) ?_
                  rw [driveCF, if_neg (fun h => c89 h.2)] at ihc
                  rw [nI_1]
                  exact ihc
                · skip
                  refine A_aload_n ok.b rfl dX5_driveLanes_92 gp0 ?_
                  refine A_iload ok.b dX5_driveLanes_93 (gps (gps (gps (gps (gps gp0))))) ?_
                  refine A_iload ok.b dX5_driveLanes_95 (gps (gps (gps (gps gp0)))) ?_
                  refine A_iload_n ok.b rfl dX5_driveLanes_97 (gps gp0) ?_
                  refine A_sameVR ok (As := [_, _, _]) mf_X5_driveCar ml_X5_142 in_X5_driveCar se_X5_driveCar cf5 gp0 (c_driveCar l g a b S1.2 P hn c (by omega) (driveSec (pN P) d k) d hs) rfl rfl dX5_driveLanes_98 (Nat.le_of_ble_eq_true rfl) ⟨(Nat.le_of_ble_eq_true rfl), (Nat.le_of_ble_eq_true rfl)⟩ ⟨(Nat.le_of_ble_eq_true rfl), (Nat.le_of_ble_eq_true rfl)⟩ (fun _ _ hx => hx.elim) (fun v98 w98 q98 => ?_)
                  obtain ⟨rfl, rfl⟩ := q98
                  refine A_if_eq ok.b (tgt := 111) dX5_driveLanes_101 (by decide) (fun c101 => ?_) (fun c101 => ?_)
                  · skip
                    refine A_iinc ok.b (v := _ + 1) dX5_driveLanes_111 (gps (gps (gps (gps (gps gp0))))) rfl (by decide) (sts (sts (sts (sts (sts1 rfl st0))))) ?_
                    refine A_goto ok.b (tgt := 57) dX5_driveLanes_114 (by decide) ?_
                    rw [driveCF, if_pos ⟨c78, c89⟩, if_pos c101] at ihc
                    rw [nI_1]
                    exact ihc
                  · skip
                    refine A_iload_n ok.b rfl dX5_driveLanes_104 (gps (gps gp0)) ?_
                    refine A_iconst ok.b (v := 1) dX5_driveLanes_105 (by decide) ?_
                    refine A_iload ok.b dX5_driveLanes_106 (gps (gps (gps (gps (gps gp0))))) ?_
                    refine A_ishl ok.b dX5_driveLanes_108 ?_
                    refine A_ior ok.b dX5_driveLanes_109 ?_
                    refine A_istore_n ok.b rfl dX5_driveLanes_110 (by decide) (sts (sts1 rfl st0)) ?_
                    refine A_iinc ok.b (v := _ + 1) dX5_driveLanes_111 (gps (gps (gps (gps (gps gp0))))) rfl (by decide) (sts (sts (sts (sts (sts1 rfl st0))))) ?_
                    refine A_goto ok.b (tgt := 57) dX5_driveLanes_114 (by decide) ?_
                    rw [driveCF, if_pos ⟨c78, c89⟩, if_neg c101] at ihc
                    rw [nI_1]
                    exact ihc
          exact J 0 (Nat.zero_le _)
        · skip
          refine A_goto ok.b (tgt := 117) dX5_driveLanes_51 (by decide) ?_
          refine A_iinc ok.b (v := _ + 1) dX5_driveLanes_117 (gps (gps (gps gp0))) rfl (by decide) (sts (sts (sts1 rfl st0))) ?_
          refine A_goto ok.b (tgt := 4) dX5_driveLanes_120 (by decide) ?_
          refine A_lv (lleK (lleK (lleK (lleK (lleD (lleD lle0)))))) ?_
          rw [driveLF, if_pos c48] at ih
          rw [nI_1]
          exact ih
      refine A_iload_n ok.b rfl dX5_driveLanes_4 (gps (gps (gps gp0))) ?_
      refine A_aload_n ok.b rfl dX5_driveLanes_5 gp0 ?_
      refine A_getf ok.b cf5 0 (by decide) fl_X5_42 gp0 gp0 dX5_driveLanes_6 ?_
      refine A_getf ok.b cf2 0 (by decide) fl_X5_80 (gps (gps (gps (gps (gps (gps (gps (gps (gps gp0))))))))) gp0 dX5_driveLanes_9 ?_
      refine A_icmp_ge ok.b (tgt := 123) dX5_driveLanes_12 (by decide) (fun c12 => (nI_ge hk (by omega) c12).elim) (fun c12 => ?_)
      refine A_iload_n ok.b rfl dX5_driveLanes_15 (gps gp0) ?_
      refine A_iconst ok.b (v := 1) dX5_driveLanes_16 (by decide) ?_
      refine A_icmp_ne ok.b (tgt := 34) dX5_driveLanes_17 (by decide) (fun c17 => ?_) (fun c17 => ?_)
      · skip
        refine A_iload_n ok.b rfl dX5_driveLanes_34 (gps (gps (gps gp0))) ?_
        rw [driveSec, if_neg c17] at M
        exact M
      · skip
        refine A_aload_n ok.b rfl dX5_driveLanes_20 gp0 ?_
        refine A_getf ok.b cf5 0 (by decide) fl_X5_42 gp0 gp0 dX5_driveLanes_21 ?_
        refine A_getf ok.b cf2 0 (by decide) fl_X5_80 (gps (gps (gps (gps (gps (gps (gps (gps (gps gp0))))))))) gp0 dX5_driveLanes_24 ?_
        refine A_iconst ok.b (v := 1) dX5_driveLanes_27 (by decide) ?_
        refine A_isub ok.b dX5_driveLanes_28 ?_
        refine A_iload_n ok.b rfl dX5_driveLanes_29 (gps (gps (gps gp0))) ?_
        refine A_isub ok.b dX5_driveLanes_30 ?_
        refine A_goto ok.b (tgt := 35) dX5_driveLanes_31 (by decide) ?_
        rw [driveSec, if_pos c17] at M
        exact M
  refine A_iconst ok.b (v := 0) dX5_driveLanes_0 (by decide) ?_
  refine A_istore_n ok.b rfl dX5_driveLanes_1 (by decide) (sts (sts1 rfl st0)) ?_
  refine A_iconst ok.b (v := 0) dX5_driveLanes_2 (by decide) ?_
  refine A_istore_n ok.b rfl dX5_driveLanes_3 (by decide) (sts (sts (sts1 rfl st0))) ?_
  exact L 0 (Nat.zero_le _)
