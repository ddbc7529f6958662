section AWR
variable {l : Launch} {g : Gl} {own nm : String} {cc : ByteArray} {nL : Nat} {ret : Option FieldType} {R : Room} {A : Nat → Prop} {H0 : Heap} {K : KT} {pc : Nat} {lv : List (Option Value)} {st : List Value} {ws : va_W} {cn sn : Nat}
theorem pl_rows {N : Nat} {r : Nat → Nat} {e : va_E} : va_pl ([] ++ (List.range N).map r) (vr_up (fun _ => e) ((List.range N).map r) e) = (List.range N).map (fun i => (r i, e)) := by
  have h : vr_up (fun _ => e) ((List.range N).map r) e = fun _ => e := by
    funext a
    by_cases h : a ∈ (List.range N).map r
    · exact vr_up_in h
    · exact vr_up_ne h
  rw [h, List.nil_append]
  show ((List.range N).map r).map (fun a => (a, e)) = _
  rw [List.map_map]
  rfl
theorem A_mna (ok : OkB l g own nm cc nL ret R A H0 K) {ix : Nat} {n k : Int32} {N M : Nat} (hcl : Cond.classLink own ix "[[I" ∈ GT) (hn : ¬ n < 0) (hk : ¬ k < 0) (hN : n.toNatClampNeg = N) (hM : k.toNatClampNeg = M) (hb1 : N * 4 ≤ 536870912) (hb2 : M * 8 ≤ 536870912) (hc : cn + (1 + N) ≤ R.cells) (hs : sn + (N + N * M) ≤ R.slots) (d : decode cc pc = .ok (.multianewarray ix 2, 4))
    (kk : ∀ (q : Nat) (r : Nat → Nat), AW g A H0 nL K (pc + 4) lv (.ref q :: st) ((ws ++ [(q, .inl (g.2.1 5, N, .inr (.inr (.inr (.inr (fun i => if i < N then some (r i) else none))))))]) ++ (List.range N).map (fun i => (r i, .inl (g.2.1 0, M, .inl (fun _ => 0))))) (cn + 1 + N) (sn + N + N * M)) : AW g A H0 nL K pc lv (.int k :: .int n :: st) ws cn sn := by
  obtain ⟨p, e, s, m, args, below, meth, c, Q, rfl, rfl, hx, hb, hml, hown, hts, hr, hlk, hKn, hG, hA, hnm⟩ := ok
  intro H locs ls hP hD hS hl
  have hP' : va_P g.1 vwCl (ws ++ va_pl [] (fun _ => .inl (g.2.1 0, (M, .inl (fun _ => (0 : Int32)))))) H := by
    show va_P g.1 vwCl (ws ++ []) H
    rw [List.append_nil]; exact hP
  have hD' : va_D A (ws ++ va_pl [] (fun _ => .inl (g.2.1 0, (M, .inl (fun _ => (0 : Int32)))))) := by
    show va_D A (ws ++ [])
    rw [List.append_nil]; exact hD
  refine va_mna (L := []) (f := fun _ => .inl (g.2.1 0, (M, .inl (fun _ => (0 : Int32))))) (ty := .int) (z := (M, .inl (fun _ => 0))) hx hb hown (hts _ hcl) hG.gv.2.2.2.2.2.2.2 (hts _ gm_arr.1) ((hKn.2 0 (g.2.1 0, .int) rfl).2) hKn hP' hD' hS hA hn hk hN hM hb1 (by simp only [componentBytes]; omega) (by omega) rfl rfl hc hs (fun c => by show ({ cls := c, slots := Array.replicate M (.int 0), vm := .none } : Cell) = _; rw [arrV_new]; rfl) d (fun q r cA H1 _ _ hK2 hP1 hD1 hS1 => ?_)
  have e1 := (hK2.2 6 (cA, .array .int) rfl).2
  have e2 := (hKn.2 5 (g.2.1 5, .array .int) rfl).2
  have e : cA = g.2.1 5 := Option.some.inj (e1.symm.trans e2)
  subst e
  rw [pl_rows] at hP1 hD1
  exact kk q r H1 locs ls hP1 hD1 hS1 hl
end AWR
theorem cl_X7_26 : Cond.classLink RX7 26 "[[I" ∈ GT := gt_of (by decide +kernel) rfl
def mT (o b d f u h sk re st dr : Nat) : Nat → Nat
  | 0 => o
  | 1 => b
  | 2 => d
  | 3 => f
  | 4 => u
  | 5 => h
  | 6 => sk
  | 7 => re
  | 8 => st
  | _ => dr
/-- the reference's numbers at first -/
def MS0 : MS := (0, 0, 0, 0, 0, 0, -1, 0, 0, 0, 0, 0, 0, 0)
/-- all of the reference's cells -/
def allW (g : Gl) (m h : Nat → Nat) (s : MS) (B D : Nat → Int32) (X : TS) (fu : Nat → Int32) (R : Nat → Nat → Int32) : va_W := [moC m s, (m 1, .inl (g.2.1 0, 800, .inl B)), (m 2, .inl (g.2.1 0, 1476, .inl X.d)), (m 3, .inl (g.2.1 0, 1476, .inl D)), (m 4, .inl (g.2.1 0, 1476, .inl fu)), (m 5, .inl (g.2.1 5, 8, .inr (.inr (.inr (.inr (fun j => some (h j))))))), rowC g h R 0, rowC g h R 1, rowC g h R 2, rowC g h R 3, rowC g h R 4, rowC g h R 5, rowC g h R 6, rowC g h R 7, (m 6, .inl (g.2.1 1, 1300, .inr (.inl X.sk))), (m 7, .inl (g.2.1 0, 12, .inl X.re)), (m 8, .inl (g.2.1 3, 20, .inl X.st)), (m 9, .inl (g.2.1 3, 20, .inl X.dr))]
def TS0 : TS := ((fun _ => 0), (fun _ => 0), (fun _ => 0), (fun _ => 0), upd (fun _ => 0) 4 (-1))
set_option maxRecDepth 20000 in
set_option maxHeartbeats 2000000 in
theorem r_init (l : Launch) (g : Gl) (q : Nat) : Ct l g yX7_init cX7_init 1 none 1 40 17 18396 [.ref q] [(q, .inr (7, [.int 0, .null, .int 0, .int 0, .int 0, .int 0, .int 0, .int 0, .null, .null, .null, .null, .int 0, .int 0, .int 0, .int 0, .int 0, .null, .null, .null, .null, .int 0, .int 0]))] (fun v w => ∃ (m h : Nat → Nat) (rf : Nat → Option Nat), (∀ j, j < 8 → rf j = some (h j)) ∧ m 0 = q ∧ v = none ∧ w = (allW g m h MS0 (fun _ => 0) (fun _ => 0) TS0 (fun _ => 0) (fun _ _ => 0)).set 5 (m 5, .inl (g.2.1 5, 8, .inr (.inr (.inr (.inr rf)))))) noX := by
  refine Ct.intro [some (.ref q)] (by decide +kernel) (fun _ h => h) (Nat.le_of_ble_eq_true rfl) (fun A H0 K ok => ?_)
  refine A_aload_n ok.b rfl dX7_init_0 gp0 ?_
  refine A_objInit ok.b ml_X7_3 dX7_init_1 (Nat.le_of_ble_eq_true rfl) (Nat.le_of_ble_eq_true rfl) ?_
  refine A_aload_n ok.b rfl dX7_init_4 gp0 ?_
  refine A_sipush ok.b (v := 800) dX7_init_5 (by decide) ?_
  refine A_newaI ok.b (N := 800) (by decide) rfl (by decide) (Nat.le_of_ble_eq_true rfl) (Nat.le_of_ble_eq_true rfl) dX7_init_8 (fun q8 => ?_)
  refine A_putF ok.b cf7 1 (by decide) rfl rfl fl_X7_9 gp0 rfl rfl (gp_lt (gps gp0)) (wps wp0) wp0 dX7_init_10 ?_
  refine A_aload_n ok.b rfl dX7_init_13 gp0 ?_
  refine A_iconst ok.b (v := (-1)) dX7_init_14 (by decide) ?_
  refine A_putf ok.b cf7 7 (by decide) rfl fl_X7_13 gp0 rfl rfl (gp_lt (gps (gps (gps (gps (gps (gps (gps gp0)))))))) (wps (wps (wps (wps (wps (wps (wps wp0))))))) wp0 dX7_init_15 ?_
  refine A_aload_n ok.b rfl dX7_init_18 gp0 ?_
  refine A_sipush ok.b (v := 1476) dX7_init_19 (by decide) ?_
  refine A_newaI ok.b (N := 1476) (by decide) rfl (by decide) (Nat.le_of_ble_eq_true rfl) (Nat.le_of_ble_eq_true rfl) dX7_init_22 (fun q22 => ?_)
  refine A_putF ok.b cf7 8 (by decide) rfl rfl fl_X7_17 gp0 rfl rfl (gp_lt (gps (gps (gps (gps (gps (gps (gps (gps gp0))))))))) (wps (wps (wps (wps (wps (wps (wps (wps wp0)))))))) wp0 dX7_init_24 ?_
  refine A_aload_n ok.b rfl dX7_init_27 gp0 ?_
  refine A_sipush ok.b (v := 1476) dX7_init_28 (by decide) ?_
  refine A_newaI ok.b (N := 1476) (by decide) rfl (by decide) (Nat.le_of_ble_eq_true rfl) (Nat.le_of_ble_eq_true rfl) dX7_init_31 (fun q31 => ?_)
  refine A_putF ok.b cf7 9 (by decide) rfl rfl fl_X7_20 gp0 rfl rfl (gp_lt (gps (gps (gps (gps (gps (gps (gps (gps (gps gp0)))))))))) (wps (wps (wps (wps (wps (wps (wps (wps (wps wp0))))))))) wp0 dX7_init_33 ?_
  refine A_aload_n ok.b rfl dX7_init_36 gp0 ?_
  refine A_sipush ok.b (v := 1476) dX7_init_37 (by decide) ?_
  refine A_newaI ok.b (N := 1476) (by decide) rfl (by decide) (Nat.le_of_ble_eq_true rfl) (Nat.le_of_ble_eq_true rfl) dX7_init_40 (fun q40 => ?_)
  refine A_putF ok.b cf7 10 (by decide) rfl rfl fl_X7_23 gp0 rfl rfl (gp_lt (gps (gps (gps (gps (gps (gps (gps (gps (gps (gps gp0))))))))))) (wps (wps (wps (wps (wps (wps (wps (wps (wps (wps wp0)))))))))) wp0 dX7_init_42 ?_
  refine A_aload_n ok.b rfl dX7_init_45 gp0 ?_
  refine A_bipush ok.b (v := 8) dX7_init_46 (by decide) ?_
  refine A_sipush ok.b (v := 1476) dX7_init_48 (by decide) ?_
  refine A_mna ok.b (N := 8) (M := 1476) cl_X7_26 (by decide) (by decide) rfl rfl (by decide) (by decide) (Nat.le_of_ble_eq_true rfl) (Nat.le_of_ble_eq_true rfl) dX7_init_51 (fun q51 r51 => ?_)
  refine A_putF ok.b cf7 11 (by decide) rfl rfl fl_X7_28 gp0 rfl rfl (gp_lt (gps (gps (gps (gps (gps (gps (gps (gps (gps (gps (gps gp0)))))))))))) (wps (wps (wps (wps (wps (wps (wps (wps (wps (wps (wps wp0))))))))))) wp0 dX7_init_55 ?_
  refine A_aload_n ok.b rfl dX7_init_58 gp0 ?_
  refine A_sipush ok.b (v := 1300) dX7_init_59 (by decide) ?_
  refine A_newaJ ok.b (N := 1300) (by decide) rfl (by decide) (Nat.le_of_ble_eq_true rfl) (Nat.le_of_ble_eq_true rfl) dX7_init_62 (fun q62 => ?_)
  refine A_putF ok.b cf7 17 (by decide) rfl rfl fl_X7_31 gp0 rfl rfl (gp_lt (gps (gps (gps (gps (gps (gps (gps (gps (gps (gps (gps (gps (gps (gps (gps (gps (gps gp0)))))))))))))))))) (wps (wps (wps (wps (wps (wps (wps (wps (wps (wps (wps (wps (wps (wps (wps (wps (wps wp0))))))))))))))))) wp0 dX7_init_64 ?_
  refine A_aload_n ok.b rfl dX7_init_67 gp0 ?_
  refine A_bipush ok.b (v := 12) dX7_init_68 (by decide) ?_
  refine A_newaI ok.b (N := 12) (by decide) rfl (by decide) (Nat.le_of_ble_eq_true rfl) (Nat.le_of_ble_eq_true rfl) dX7_init_70 (fun q70 => ?_)
  refine A_putF ok.b cf7 18 (by decide) rfl rfl fl_X7_35 gp0 rfl rfl (gp_lt (gps (gps (gps (gps (gps (gps (gps (gps (gps (gps (gps (gps (gps (gps (gps (gps (gps (gps gp0))))))))))))))))))) (wps (wps (wps (wps (wps (wps (wps (wps (wps (wps (wps (wps (wps (wps (wps (wps (wps (wps wp0)))))))))))))))))) wp0 dX7_init_72 ?_
  refine A_aload_n ok.b rfl dX7_init_75 gp0 ?_
  refine A_bipush ok.b (v := 20) dX7_init_76 (by decide) ?_
  refine A_newaZ ok.b (N := 20) (by decide) rfl (by decide) (Nat.le_of_ble_eq_true rfl) (Nat.le_of_ble_eq_true rfl) dX7_init_78 (fun q78 => ?_)
  refine A_putF ok.b cf7 19 (by decide) rfl rfl fl_X7_38 gp0 rfl rfl (gp_lt (gps (gps (gps (gps (gps (gps (gps (gps (gps (gps (gps (gps (gps (gps (gps (gps (gps (gps (gps gp0)))))))))))))))))))) (wps (wps (wps (wps (wps (wps (wps (wps (wps (wps (wps (wps (wps (wps (wps (wps (wps (wps (wps wp0))))))))))))))))))) wp0 dX7_init_80 ?_
  refine A_aload_n ok.b rfl dX7_init_83 gp0 ?_
  refine A_bipush ok.b (v := 20) dX7_init_84 (by decide) ?_
  refine A_newaZ ok.b (N := 20) (by decide) rfl (by decide) (Nat.le_of_ble_eq_true rfl) (Nat.le_of_ble_eq_true rfl) dX7_init_86 (fun q86 => ?_)
  refine A_putF ok.b cf7 20 (by decide) rfl rfl fl_X7_42 gp0 rfl rfl (gp_lt (gps (gps (gps (gps (gps (gps (gps (gps (gps (gps (gps (gps (gps (gps (gps (gps (gps (gps (gps (gps gp0))))))))))))))))))))) (wps (wps (wps (wps (wps (wps (wps (wps (wps (wps (wps (wps (wps (wps (wps (wps (wps (wps (wps (wps wp0)))))))))))))))))))) wp0 dX7_init_88 ?_
  refine A_aload_n ok.b rfl dX7_init_91 gp0 ?_
  refine A_getf ok.b cf7 8 (by decide) fl_X7_17 gp0 (gps (gps (gps (gps (gps (gps (gps (gps gp0)))))))) dX7_init_92 ?_
  refine A_iconst ok.b (v := 4) dX7_init_95 (by decide) ?_
  refine A_iconst ok.b (v := (-1)) dX7_init_96 (by decide) ?_
  refine A_iast ok.b (gps (gps gp0)) (ix_n (j := 4) (by decide) (by decide)) (wps (wps wp0)) dX7_init_97 ?_
  refine A_vret ok dX7_init_98 (Nat.le_of_ble_eq_true rfl) (Nat.le_of_ble_eq_true rfl) ?_
  refine ⟨mT q q8 q22 q31 q40 q51 q62 q70 q78 q86, r51, (fun i => if i < 8 then some (r51 i) else none), fun j hj => if_pos hj, rfl, rfl, ?_⟩
  rfl
set_option maxRecDepth 20000 in
set_option maxHeartbeats 2000000 in
theorem r_rate (l : Launch) (g : Gl) (m : Nat → Nat) (s : MS) (X : TS) (n nc : Nat) (hn : n ≤ 12) (hnc : nc ≤ 20) (cs : Nat → Int32) (kc : Nat) (hT : TKd n nc cs kc X.d) : Ct l g yX7_rate cX7_rate 1 (some .int) 3 160 0 0 [.ref (m 0)] (tsW g m (m 2) s X) (fun v w => v = some (.int (rtR X.d cs n nc kc X.sk)) ∧ w = tsW g m (m 2) (s.wth 0) (X.re, X.st, X.dr, rtK X.d cs n nc kc X.sk, X.d)) noX := by
  refine Ct.intro [some (.ref (m 0))] (by decide +kernel) (fun _ h => h) (Nat.le_of_ble_eq_true rfl) (fun A H0 K ok => ?_)
  refine A_aload_n ok.b rfl dX7_rate_0 gp0 ?_
  refine A_iconst ok.b (v := 0) dX7_rate_1 (by decide) ?_
  refine A_putf ok.b cf7 0 (by decide) rfl fl_X7_45 gp0 rfl rfl (gp_lt gp0) wp0 wp0 dX7_rate_2 ?_
  refine A_aload_n ok.b rfl dX7_rate_5 gp0 ?_
  refine A_aload_n ok.b rfl dX7_rate_6 gp0 ?_
  refine A_getf ok.b cf7 8 (by decide) fl_X7_17 gp0 (gps (gps (gps (gps (gps (gps (gps (gps gp0)))))))) dX7_rate_7 ?_
  refine A_sameVR ok (As := [_]) mf_X7_rateOf ml_X7_231 in_X7_rateOf se_X7_rateOf cf7 gp0 (r_rateOf l g m (m 2) (s.wth 0) X.re X.st X.dr X.sk X.d n nc hn hnc hT.1 hT.2.1 cs kc hT.2.2.2.2) rfl rfl dX7_rate_10 (Nat.le_of_ble_eq_true rfl) ⟨(Nat.le_of_ble_eq_true rfl), (Nat.le_of_ble_eq_true rfl)⟩ ⟨(Nat.le_of_ble_eq_true rfl), (Nat.le_of_ble_eq_true rfl)⟩ (fun _ _ hx => hx.elim) (fun v10 w10 q10 => ?_)
  obtain ⟨rfl, rfl⟩ := q10
  refine A_iret ok dX7_rate_13 (Nat.le_of_ble_eq_true rfl) (Nat.le_of_ble_eq_true rfl) ?_
  exact ⟨rfl, rfl⟩
