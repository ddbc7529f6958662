set_option maxRecDepth 20000 in
set_option maxHeartbeats 2000000 in
theorem c_bestBayTime (l : Launch) (g : Gl) (k rd hs : Nat) (eo : Int32) (a b : Nat → Nat) (T : TD) (P : PD) (hn : pN P ≤ 12) (hc : pCar P ≤ 20) (hl0 : l.stackTraces = false) (a3 : Nat → Nat) (p3 : Nat) (T3 : TD) (hrd : ∀ j, j < 24 → tRed T j = 0 ∨ tRed T j = 1) (hok : COK P T) : Ct l g yX6_bestBayTime cX6_bestBayTime 2 (some .int) 7 400 0 0 [.ref k] (dkW g k rd hs (a3 0) eo a b T (P) ++ tunW g a3 (p3) (T3)) (fun v w => v = some (.int (if (bbF T P (baySetF (tBay T) (pN P)).toNatClampNeg ((baySetF (tBay T) (pN P)).toNatClampNeg + 1)).1 < 0 then -1 else (clearR P (200 + 1) 0 (openAllF P (bbF T P (baySetF (tBay T) (pN P)).toNatClampNeg ((baySetF (tBay T) (pN P)).toNatClampNeg + 1)).1 T)).1)) ∧ ∃ (T4 : TD) (p4 : Nat), w = (dkW g k rd hs (a3 0) eo a b T (P) ++ tunW g a3 (p4) (T4))) noX := by
  refine Ct.intro [some (.ref k), none] (by decide +kernel) (fun _ h => h) (Nat.le_of_ble_eq_true rfl) (fun A H0 K ok => ?_)
  refine A_aload_n ok.b rfl dX6_bestBayTime_0 gp0 ?_
  refine A_sameVR ok (As := []) mf_X6_bestBays ml_X6_181 in_X6_bestBays se_X6_bestBays cf6 gp0 (c_bestBays l g k rd hs eo a b T P hn hc hl0 a3 p3 T3 hrd hok) rfl rfl dX6_bestBayTime_1 (Nat.le_of_ble_eq_true rfl) ⟨(Nat.le_of_ble_eq_true rfl), (Nat.le_of_ble_eq_true rfl)⟩ ⟨(Nat.le_of_ble_eq_true rfl), (Nat.le_of_ble_eq_true rfl)⟩ (fun _ _ hx => hx.elim) (fun v1 w1 q1 => ?_)
  obtain ⟨rfl, T5, p5, rfl⟩ := q1
  generalize hq : (bbF T P (baySetF (tBay T) (pN P)).toNatClampNeg ((baySetF (tBay T) (pN P)).toNatClampNeg + 1)).1 = q
  refine A_istore_n ok.b rfl dX6_bestBayTime_4 (by decide) (sts1 rfl st0) ?_
  refine A_iload_n ok.b rfl dX6_bestBayTime_5 (gps gp0) ?_
  refine A_if_ge ok.b (tgt := 11) dX6_bestBayTime_6 (by decide) (fun c6 => ?_) (fun c6 => ?_)
  · skip
    refine A_aload_n ok.b rfl dX6_bestBayTime_11 gp0 ?_
    refine A_getf ok.b cf6 3 (by decide) fl_X6_35 gp0 (gps (gps (gps gp0))) dX6_bestBayTime_12 ?_
    refine A_aload_n ok.b rfl dX6_bestBayTime_15 gp0 ?_
    refine A_getf ok.b cf6 2 (by decide) fl_X6_31 gp0 (gps (gps gp0)) dX6_bestBayTime_16 ?_
    refine A_callVR ok [16, 17, 18, 19, 20, 21, 22, 23, 24, 1, 2, 3, 4, 5, 6, 7, 8, 9] [0, 10, 11, 12, 13, 14, 15] (As := [_]) (wr := ([(k, .inr (6, [.ref rd, .ref hs, .ref (a 0), .ref (a3 0), .int eo]))] : va_W) ++ planW g b (P)) mf_X5_copyFrom ml_X6_79 in_X5_copyFrom se_X5_copyFrom cf5 (gps (gps (gps (gps (gps (gps (gps (gps (gps (gps (gps (gps (gps (gps (gps (gps gp0)))))))))))))))) (c_copyFrom l g a3 a _ (b 0) _ T hrd) rfl rfl rfl dX6_bestBayTime_19 rfl rfl rfl (by decide) (Nat.le_of_ble_eq_true rfl) ⟨(Nat.le_of_ble_eq_true rfl), (Nat.le_of_ble_eq_true rfl)⟩ ⟨(Nat.le_of_ble_eq_true rfl), (Nat.le_of_ble_eq_true rfl)⟩ (fun _ _ hx => hx.elim) (fun v19 w19 q19 => ?_)
    obtain ⟨rfl, rfl⟩ := q19
    refine A_sub [0, 16, 17, 18, 19, 20, 21, 22, 23, 24, 1, 2, 3, 4, 5, 6, 7, 8, 9, 10, 11, 12, 13, 14, 15] (ws2 := (dkW g k rd hs (a3 0) eo a b T (P) ++ tunW g a3 (b 0) (T))) rfl rfl ?_
    refine A_aload_n ok.b rfl dX6_bestBayTime_22 gp0 ?_
    refine A_getf ok.b cf6 3 (by decide) fl_X6_35 gp0 (gps (gps (gps gp0))) dX6_bestBayTime_23 ?_
    refine A_iload_n ok.b rfl dX6_bestBayTime_26 (gps gp0) ?_
    refine A_callVR ok [16, 17, 18, 19, 20, 21, 22, 23, 24, 10, 11, 12, 13, 14, 15] [0, 1, 2, 3, 4, 5, 6, 7, 8, 9] (As := [_]) (wr := ([(k, .inr (6, [.ref rd, .ref hs, .ref (a 0), .ref (a3 0), .int eo]))] : va_W) ++ tunW g a (b 0) T) mf_X5_openExactly ml_X6_173 in_X5_openExactly se_X5_openExactly cf5 (gps (gps (gps (gps (gps (gps (gps (gps (gps (gps (gps (gps (gps (gps (gps (gps gp0)))))))))))))))) (c_openExactly l g a3 b T P hn hc q) rfl rfl rfl dX6_bestBayTime_27 rfl rfl rfl (by decide) (Nat.le_of_ble_eq_true rfl) ⟨(Nat.le_of_ble_eq_true rfl), (Nat.le_of_ble_eq_true rfl)⟩ ⟨(Nat.le_of_ble_eq_true rfl), (Nat.le_of_ble_eq_true rfl)⟩ (fun _ _ hx => hx.elim) (fun v27 w27 q27 => ?_)
    obtain ⟨rfl, rfl⟩ := q27
    refine A_sub [0, 1, 2, 3, 4, 5, 6, 7, 8, 9, 19, 20, 21, 22, 23, 24, 10, 11, 12, 13, 14, 15, 16, 17, 18] (ws2 := (dkW g k rd hs (a3 0) eo a b T (P) ++ tunW g a3 (b 0) (openAllF P q T))) rfl rfl ?_
    refine A_aload_n ok.b rfl dX6_bestBayTime_30 gp0 ?_
    refine A_getf ok.b cf6 3 (by decide) fl_X6_35 gp0 (gps (gps (gps gp0))) dX6_bestBayTime_31 ?_
    refine A_sipush ok.b (v := 200) dX6_bestBayTime_34 (by decide) ?_
    refine A_callVR ok [16, 17, 18, 19, 20, 21, 22, 23, 24, 10, 11, 12, 13, 14, 15] [0, 1, 2, 3, 4, 5, 6, 7, 8, 9] (As := [_]) (wr := ([(k, .inr (6, [.ref rd, .ref hs, .ref (a 0), .ref (a3 0), .int eo]))] : va_W) ++ tunW g a (b 0) T) mf_X5_ticksUntilClear ml_X6_166 in_X5_ticksUntilClear se_X5_ticksUntilClear cf5 (gps (gps (gps (gps (gps (gps (gps (gps (gps (gps (gps (gps (gps (gps (gps (gps gp0)))))))))))))))) (c_ticksUntilClear l g a3 b (openAllF P q T) P hn hc (COK_of hok rfl rfl (open_keep P q T)) 200 (by decide)) rfl rfl rfl dX6_bestBayTime_37 rfl rfl rfl (by decide) (Nat.le_of_ble_eq_true rfl) ⟨(Nat.le_of_ble_eq_true rfl), (Nat.le_of_ble_eq_true rfl)⟩ ⟨(Nat.le_of_ble_eq_true rfl), (Nat.le_of_ble_eq_true rfl)⟩ (fun _ _ hx => hx.elim) (fun v37 w37 q37 => ?_)
    obtain ⟨rfl, rfl⟩ := q37
    refine A_sub [0, 1, 2, 3, 4, 5, 6, 7, 8, 9, 19, 20, 21, 22, 23, 24, 10, 11, 12, 13, 14, 15, 16, 17, 18] (ws2 := (dkW g k rd hs (a3 0) eo a b T (P) ++ tunW g a3 (b 0) ((clearR P (200 + 1) 0 (openAllF P q T)).2))) rfl rfl ?_
    refine A_iret ok dX6_bestBayTime_40 (Nat.le_of_ble_eq_true rfl) (Nat.le_of_ble_eq_true rfl) ?_
    exact ⟨by rw [hq, if_neg (Int32.not_lt.mpr c6)], (clearR P (200 + 1) 0 (openAllF P q T)).2, b 0, rfl⟩
  · skip
    refine A_iconst ok.b (v := (-1)) dX6_bestBayTime_9 (by decide) ?_
    refine A_iret ok dX6_bestBayTime_10 (Nat.le_of_ble_eq_true rfl) (Nat.le_of_ble_eq_true rfl) ?_
    exact ⟨by rw [hq, if_pos (Int32.not_le.mp c6)], T5, p5, rfl⟩
section AWR
variable {l : Launch} {g : Gl} {own nm : String} {cc : ByteArray} {nL : Nat} {ret : Option FieldType} {R : Room} {A : Nat → Prop} {H0 : Heap} {K : KT} {pc : Nat} {lv : List (Option Value)} {st : List Value} {ws : va_W} {cn sn : Nat}

theorem A_newq (ok : OkB l g own nm cc nL ret R A H0 K) {ix : Nat} {n : Int32} {N : Nat} (hcl : Cond.classLink own ix "TunnelControlDesk$Tunnel" ∈ GT) (hn : ¬ n < 0) (hN : n.toNatClampNeg = N) (hb8 : N * 4 ≤ 536870912) (hc : cn + 1 ≤ R.cells) (hs : sn + N ≤ R.slots) (d : decode cc pc = .ok (.anewarray ix, 3))
    (k : ∀ q : Nat, AW g A H0 nL K (pc + 3) lv (.ref q :: st) (ws ++ [(q, .inl (g.2.1 4, N, .inr (.inr (.inr (.inr (fun _ => none))))))]) (cn + 1) (sn + N)) : AW g A H0 nL K pc lv (.int n :: st) ws cn sn := by
  obtain ⟨p, e, s, m, args, below, meth, c, Q, rfl, rfl, hx, hb, hml, hown, hts, hr, hlk, hKn, hG, hA, hnm⟩ := ok
  intro H locs ls hP hD hS hl
  refine va_newq hx hb hown (hts _ hcl) hG.gv.2.2.2.1 hKn hP hD hS hA hn hN hb8 hc hs d (fun q cA H1 hK2 hP1 hD1 hS1 => ?_)
  obtain ⟨_, _, _, _, _, e1⟩ := (hK2.2 6 (cA, .object "TunnelControlDesk$Tunnel") rfl).2
  obtain ⟨_, _, _, _, _, e2⟩ := (hKn.2 4 (g.2.1 4, .object "TunnelControlDesk$Tunnel") rfl).2
  have e : cA = g.2.1 4 := Option.some.inj (e1.symm.trans e2)
  subst e
  exact k q H1 locs ls hP1 hD1 hS1 hl
theorem A_astq (ok : OkB l g own nm cc nL ret R A H0 K) {q qk a n j v : Nat} {f : Nat → Option Nat} {i : Int32} {vs : List Value} {ws2 : va_W} (gq : Gp q ws (a, .inl (g.2.1 4, n, .inr (.inr (.inr (.inr f)))))) (gv : Gp qk ws (v, .inr (5, vs))) (hi : Ix i n j) (ww : Wp q ws (a, .inl (g.2.1 4, n, .inr (.inr (.inr (.inr (va_up f j (some v))))))) ws2) (d : decode cc pc = .ok (.aastore, 1))
    (k : AW g A H0 nL K (pc + 1) lv st ws2 cn sn) : AW g A H0 nL K pc lv (.ref v :: .int i :: .ref a :: st) ws cn sn := by
  obtain ⟨p, e, s, m, args, below, meth, c, Q, rfl, rfl, hx, hb, hml, hown, hts, hr, hlk, hKn, hG, hA, hnm⟩ := ok
  intro H locs ls hP hD hS hl
  obtain ⟨hin, rfl⟩ := hi
  refine va_astq hx hb hKn hP hD hS q 4 qk 5 gq rfl gv cf5.1 hin d (fun H1 locs1 hP1 hD1 hS1 => ?_)
  rw [wp_of ww] at hP1 hD1
  exact k H1 locs1 ls hP1 hD1 hS1 hl
end AWR
theorem gp_end {α : Type} {l1 l2 : List α} {x : α} (h : l2[0]? = some x) : Gp l1.length (l1 ++ l2) x := by
  show (l1 ++ l2)[l1.length]? = some x
  rw [List.getElem?_append_right (Nat.le_refl _), Nat.sub_self]
  exact h
def pr (x y : Nat) : Nat → Nat
  | 0 => x
  | _ => y
def RS0 : RS := (0, 0, 0, 0, 0, 0, 0, 0, 0, 0, (fun _ => 0), (0, 0, 0, 0), T0, P0)

set_option maxRecDepth 20000 in
set_option maxHeartbeats 2000000 in
theorem c_X4init (l : Launch) (g : Gl) (q p : Nat) : Ct l g yX4_init cX4_init 2 none 2 80 12 1765 [.ref q, .ref p] [(q, .inr (4, [.null, .null, .int 0, .int 0, .int 0, .int 0, .int 0, .int 0, .int 0, .int 0, .int 0, .int 0, .null]))] (fun v w => ∃ r i a : Nat → Nat, r 0 = q ∧ v = none ∧ w = rdT g r i a p 0 0 (fun _ => 0) RS0) noX := by
  refine Ct.intro [some (.ref q), some (.ref p)] (by decide +kernel) (fun _ h => h) (Nat.le_of_ble_eq_true rfl) (fun A H0 K ok => ?_)
  refine A_aload_n ok.b rfl dX4_init_0 gp0 ?_
  refine A_objInit ok.b ml_X4_3 dX4_init_1 (Nat.le_of_ble_eq_true rfl) (Nat.le_of_ble_eq_true rfl) ?_
  refine A_aload_n ok.b rfl dX4_init_4 gp0 ?_
  refine A_new ok.b cf1 cl_X4_9 it_X1 ii_X1 df_X1 (Nat.le_of_ble_eq_true rfl) (Nat.le_of_ble_eq_true rfl) dX4_init_5 (fun q5 => ?_)
  refine A_dup ok.b dX4_init_8 rfl ?_
  refine A_lastINB ok.b (As := []) _ [(q5, .inr (1, [.int 0, .int 0, .int 0, .int 0, .int 0, .int 0, .null]))] mf_X1_init (List.mem_of_getElem? (i := 1) rfl) in_X1_init rfl (c_X1init l g _) rfl rfl dX4_init_9 (Nat.le_of_ble_eq_true rfl) ⟨(Nat.le_of_ble_eq_true rfl), (Nat.le_of_ble_eq_true rfl)⟩ ⟨(Nat.le_of_ble_eq_true rfl), (Nat.le_of_ble_eq_true rfl)⟩ (fun _ _ hx => hx.elim) (fun v9 w9 q9 => ?_)
  obtain ⟨qb, rfl, rfl⟩ := q9
  refine A_putF ok.b cf4 0 (by decide) rfl rfl fl_X4_12 gp0 rfl rfl (gp_lt gp0) wp0 wp0 dX4_init_12 ?_
  refine A_aload_n ok.b rfl dX4_init_15 gp0 ?_
  refine A_sipush ok.b (v := 800) dX4_init_16 (by decide) ?_
  refine A_newaI ok.b (N := 800) (by decide) rfl (by decide) (Nat.le_of_ble_eq_true rfl) (Nat.le_of_ble_eq_true rfl) dX4_init_19 (fun q19 => ?_)
  refine A_putF ok.b cf4 12 (by decide) rfl rfl fl_X4_18 gp0 rfl rfl (gp_lt (gps (gps (gps (gps (gps (gps (gps (gps (gps (gps (gps (gps gp0))))))))))))) (wps (wps (wps (wps (wps (wps (wps (wps (wps (wps (wps (wps wp0)))))))))))) wp0 dX4_init_21 ?_
  refine A_aload_n ok.b rfl dX4_init_24 gp0 ?_
  refine A_new ok.b cf5 cl_X4_22 it_X5 ii_X5 df_X5 (Nat.le_of_ble_eq_true rfl) (Nat.le_of_ble_eq_true rfl) dX4_init_25 (fun q25 => ?_)
  refine A_dup ok.b dX4_init_28 rfl ?_
  refine A_aload_n ok.b rfl dX4_init_29 (gps gp0) ?_
  refine A_lastIB ok.b (As := [_]) _ [(q25, .inr (5, [.null, .int 0, .int 0, .int 0, .long 0, .long 0, .null, .null, .null, .null, .null, .null, .null, .null]))] mf_X5_init ml_X4_24 in_X5_init rfl (c_X5init l g _ _) rfl rfl dX4_init_30 (Nat.le_of_ble_eq_true rfl) ⟨(Nat.le_of_ble_eq_true rfl), (Nat.le_of_ble_eq_true rfl)⟩ ⟨(Nat.le_of_ble_eq_true rfl), (Nat.le_of_ble_eq_true rfl)⟩ (fun _ _ hx => hx.elim) (fun v30 w30 q30 => ?_)
  obtain ⟨a, rfl, rfl, rfl⟩ := q30
  refine A_putF ok.b cf4 1 (by decide) rfl rfl fl_X4_27 gp0 rfl rfl (gp_lt (gps gp0)) (wps wp0) wp0 dX4_init_33 ?_
  refine A_vret ok dX4_init_36 (Nat.le_of_ble_eq_true rfl) (Nat.le_of_ble_eq_true rfl) ?_
  exact ⟨pr q q19, pr q5 qb, a, rfl, rfl, rfl⟩
def tunsW (g : Gl) (at_ : Nat → Nat → Nat) (p : Nat) (n : Nat) : va_W := ((List.range n).map (fun j => tunW g (at_ j) p T0)).flatten
theorem tuns_s (g : Gl) (at_ : Nat → Nat → Nat) (p n : Nat) (a : Nat → Nat) : tunsW g at_ p n ++ tunW g a p T0 = tunsW g (fun j => if j = n then a else at_ j) p (n + 1) := by
  unfold tunsW
  rw [List.range_succ, List.map_append, List.flatten_append]
  congr 1
  · congr 1
    apply List.map_congr_left
    intro j hj
    have hj2 := List.mem_range.mp hj
    show tunW g (at_ j) p T0 = tunW g (if j = n then a else at_ j) p T0
    rw [if_neg (by omega)]
  · simp
/-- a new history's cells -/
def hs0 (g : Gl) (q h1 : Nat) (at_ : Nat → Nat → Nat) (n : Nat) : va_W := [(q, .inr (0, [.int 0, .int 0, .ref h1])), (h1, .inl (g.2.1 4, 8, .inr (.inr (.inr (.inr (fun j => if j < n then some (at_ j 0) else none))))))]
set_option maxRecDepth 20000 in
set_option maxHeartbeats 2000000 in
theorem c_X0init (l : Launch) (g : Gl) (q p : Nat) : Ct l g yX0_init cX0_init 3 none 2 80 73 1272 [.ref q, .ref p] [(q, .inr (0, [.int 0, .int 0, .null]))] (fun v w => ∃ (h1 : Nat) (at_ : Nat → Nat → Nat), v = none ∧ w = hs0 g q h1 at_ 8 ++ tunsW g at_ p 8) noX := by
  refine Ct.intro [some (.ref q), some (.ref p), none] (by decide +kernel) (fun _ h => h) (Nat.le_of_ble_eq_true rfl) (fun A H0 K ok => ?_)
  have L : ∀ j, j ≤ 8 → ∀ (h1 : Nat) (at_ : Nat → Nat → Nat), AW g A H0 3 K 15 [some (.ref q), some (.ref p), some (.int (nI j))] [] (hs0 g q h1 (at_) (j) ++ tunsW g (at_) p (j)) (1 + 9 * j) (8 + 158 * j) := by
    refine up_ind 8 ?_ (fun j hj ih => ?_)
    · intro h1 at_
      refine A_iload_n ok.b rfl dX0_init_15 (gps (gps gp0)) ?_
      refine A_bipush ok.b (v := 8) dX0_init_16 (by decide) ?_
      refine A_icmp_ge ok.b (tgt := 41) dX0_init_18 (by decide) (fun c18 => ?_) (fun c18 => (c18 (by decide)).elim)
      refine A_vret ok dX0_init_41 (Nat.le_of_ble_eq_true rfl) (Nat.le_of_ble_eq_true rfl) ?_
      exact ⟨h1, at_, rfl, rfl⟩
    · intro h1 at_
      refine A_iload_n ok.b rfl dX0_init_15 (gps (gps gp0)) ?_
      refine A_bipush ok.b (v := 8) dX0_init_16 (by decide) ?_
      refine A_icmp_ge ok.b (tgt := 41) dX0_init_18 (by decide) (fun c18 => ((nI_ge (b := 8) hj (by omega)) c18).elim) (fun c18 => ?_)
      refine A_aload_n ok.b rfl dX0_init_21 gp0 ?_
      refine A_getf ok.b cf0 2 (by decide) fl_X0_11 gp0 (gps (gps gp0)) dX0_init_22 ?_
      refine A_iload_n ok.b rfl dX0_init_25 (gps (gps gp0)) ?_
      refine A_new ok.b cf5 cl_X0_9 it_X5 ii_X5 df_X5 (by show 1 + 9 * j + 1 ≤ 73; omega) (by show 8 + 158 * j + 14 ≤ 1272; omega) dX0_init_26 (fun q26 => ?_)
      refine A_dup ok.b dX0_init_29 rfl ?_
      refine A_aload_n ok.b rfl dX0_init_30 (gps gp0) ?_
      refine A_lastIB ok.b (As := [_]) (hs0 g q h1 (at_) (j) ++ tunsW g (at_) p (j)) [(q26, .inr (5, [.null, .int 0, .int 0, .int 0, .long 0, .long 0, .null, .null, .null, .null, .null, .null, .null, .null]))] mf_X5_init ml_X0_17 in_X5_init rfl (c_X5init l g _ _) rfl rfl dX0_init_31 (Nat.le_of_ble_eq_true rfl) ⟨(Nat.le_of_ble_eq_true rfl), (Nat.le_of_ble_eq_true rfl)⟩ ⟨by show 1 + 9 * j + 1 + 8 ≤ 73; omega, by show 8 + 158 * j + 14 + 144 ≤ 1272; omega⟩ (fun _ _ hx => hx.elim) (fun v31 w31 q31 => ?_)
      obtain ⟨a, rfl, rfl, rfl⟩ := q31
      refine A_astq ok.b (gps gp0) (gp_end (l1 := (hs0 g q h1 (at_) (j) ++ tunsW g (at_) p (j))) rfl) (ix_n hj (by decide)) (wps wp0) dX0_init_34 ?_
      refine A_ext (ws2 := hs0 g q h1 (fun i => if i = j then a else at_ i) (j + 1) ++ (tunsW g at_ p j ++ tunW g a p T0)) ?_ ?_
      · refine weqs (weqc (ceq_q (fun i hi => ?_)) ?_)
        · show va_up (fun i => if i < j then some (at_ i 0) else none) j (some (a 0)) i = _
          rw [va_up]
          by_cases h : i = j
          · rw [if_pos h, if_pos (by omega)]
            show some (a 0) = some ((if i = j then a else at_ i) 0)
            rw [if_pos h]
          · rw [if_neg h]
            by_cases h2 : i < j
            · rw [if_pos h2, if_pos (by omega)]
              show some (at_ i 0) = some ((if i = j then a else at_ i) 0)
              rw [if_neg h]
            · rw [if_neg h2, if_neg (by omega)]
        · exact (weq_r (tunsW g at_ p j ++ tunW g a p T0) : Weq (tunsW g at_ p j ++ tunW g a p T0) (tunsW g at_ p j ++ tunW g a p T0))
      rw [tuns_s]
      refine A_iinc ok.b (v := _ + 1) dX0_init_35 (gps (gps gp0)) rfl (by decide) (sts (sts1 rfl st0)) ?_
      refine A_goto ok.b (tgt := 15) dX0_init_38 (by decide) ?_
      have ih2 := ih h1 (fun i => if i = j then a else at_ i)
      rw [show 1 + 9 * (j + 1) = 1 + 9 * j + 1 + 8 by omega, show 8 + 158 * (j + 1) = 8 + 158 * j + 14 + 144 by omega] at ih2
      rw [nI_1]
      exact ih2
  refine A_aload_n ok.b rfl dX0_init_0 gp0 ?_
  refine A_objInit ok.b ml_X0_3 dX0_init_1 (Nat.le_of_ble_eq_true rfl) (Nat.le_of_ble_eq_true rfl) ?_
  refine A_aload_n ok.b rfl dX0_init_4 gp0 ?_
  refine A_bipush ok.b (v := 8) dX0_init_5 (by decide) ?_
  refine A_newq ok.b (N := 8) cl_X0_9 (by decide) rfl (by decide) (Nat.le_of_ble_eq_true rfl) (Nat.le_of_ble_eq_true rfl) dX0_init_7 (fun h1 => ?_)
  refine A_putF ok.b cf0 2 (by decide) rfl rfl fl_X0_11 gp0 rfl rfl (gp_lt (gps (gps gp0))) (wps (wps wp0)) wp0 dX0_init_10 ?_
  refine A_iconst ok.b (v := 0) dX0_init_13 (by decide) ?_
  refine A_istore_n ok.b rfl dX0_init_14 (by decide) (sts (sts1 rfl st0)) ?_
  refine A_ext (ws2 := hs0 g q h1 (fun _ _ => 0) 0 ++ tunsW g (fun _ _ => 0) p 0) (weqs (weqc (ceq_q (fun i hi => by rw [if_neg (Nat.not_lt_zero i)])) weq0)) ?_
  exact L 0 (Nat.zero_le _) h1 _
