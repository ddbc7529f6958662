section AWC22
variable {l : Launch} {g : Gl} {own nm : String} {cc : ByteArray} {nL : Nat} {ret : Option FieldType} {R : Room} {A : Nat → Prop} {H0 : Heap} {K : KT} {pc : Nat} {lv : List (Option Value)} {cn sn : Nat}
theorem last_dis (n m : Nat) : ∀ i ∈ List.range m, i ∉ (List.range n).map (· + m) := by
  intro i hi h
  obtain ⟨j, -, rfl⟩ := List.mem_map.mp h
  have := List.mem_range.mp hi
  omega

/-- a constructor's call on the world's last part -/
theorem A_lastIB (ok : OkB l g own nm cc nL ret R A H0 K) {y : MethodName} {bytes : ByteArray} {maxL n ix fr lo mc ms : Nat} {Q : QT} {X : XT} {b : Nat} {As rest : List Value} (wr wc : va_W) (mf : MF y bytes maxL none n) (hlk9 : Cond.methodLink own ix y ∈ GT) (hin : Cond.instanceMethod y ∈ GT) (hy1 : y.name = "<init>") (hct : Ct l g y bytes maxL none fr lo mc ms (.ref b :: As) wc Q X) (hn9 : As.length = n) {st0 : List Value} (hstk : st0 = As.reverse ++ .ref b :: rest) (d : decode cc pc = .ok (.invokespecial ix, 3)) (hst : (rest.map fun v => v.category).sum ≤ 8) (hfr : fr + 1 ≤ R.frames ∧ 8 + (maxL + 11) + lo ≤ R.locals) (hmk : cn + mc ≤ R.cells ∧ sn + ms ≤ R.slots) (hX : ∀ (E : String) (w : va_W), ¬ X E w)
    (kk : ∀ (v : Option Value) (w : va_W), Q v w → AW g A H0 nL K (pc + 3) lv (v.toList ++ rest) (wr ++ w) (cn + mc) (sn + ms)) : AW g A H0 nL K pc lv st0 (wr ++ wc) cn sn :=
  A_callIB ok ((List.range wc.length).map (· + wr.length)) (List.range wr.length) (wr := wr) mf hlk9 hin hy1 hct hn9 (pre_nd _ _) hstk d (pre_R wr wc) (pre_C wr wc) (nd_range _) (last_dis _ _) hst hfr hmk hX kk

/-- a constructor's call on the world's last part -/
theorem A_lastINB (ok : OkB l g own nm cc nL ret R A H0 K) {y : MethodName} {bytes : ByteArray} {maxL n ix fr lo mc ms : Nat} {Q : QT} {X : XT} {b : Nat} {host : String} {As rest : List Value} (wr wc : va_W) (mf : MF y bytes maxL none n) (hlk9 : (own, ix, y, host) ∈ nTab) (hin : Cond.instanceMethod y ∈ GT) (hy1 : y.name = "<init>") (hct : Ct l g y bytes maxL none fr lo mc ms (.ref b :: As) wc Q X) (hn9 : As.length = n) {st0 : List Value} (hstk : st0 = As.reverse ++ .ref b :: rest) (d : decode cc pc = .ok (.invokespecial ix, 3)) (hst : (rest.map fun v => v.category).sum ≤ 8) (hfr : fr + 1 ≤ R.frames ∧ 8 + (maxL + 11) + lo ≤ R.locals) (hmk : cn + mc ≤ R.cells ∧ sn + ms ≤ R.slots) (hX : ∀ (E : String) (w : va_W), ¬ X E w)
    (kk : ∀ (v : Option Value) (w : va_W), Q v w → AW g A H0 nL K (pc + 3) lv (v.toList ++ rest) (wr ++ w) (cn + mc) (sn + ms)) : AW g A H0 nL K pc lv st0 (wr ++ wc) cn sn :=
  A_callINB ok ((List.range wc.length).map (· + wr.length)) (List.range wr.length) (wr := wr) mf hlk9 hin hy1 hct hn9 (pre_nd _ _) hstk d (pre_R wr wc) (pre_C wr wc) (nd_range _) (last_dis _ _) hst hfr hmk hX kk

end AWC22
theorem it_X0 : Cond.instantiable RX0 3 ∈ GT := gt_at 306 (by decide +kernel) rfl
theorem ii_X0 : Cond.initialized RX0 ∈ GT := gt_at 74 (by decide +kernel) rfl
theorem df_X0 : ∀ j, j < 3 → defaultValue (tyX0 j) = vp_V [.int 0, .int 0, .null] j := by
  intro j hj
  match j, hj with
  | 0, _ => rfl
  | 1, _ => rfl
  | 2, _ => rfl
  | k + 3, h9 => exact absurd h9 (by omega)
theorem it_X1 : Cond.instantiable RX1 7 ∈ GT := gt_at 161 (by decide +kernel) rfl
theorem ii_X1 : Cond.initialized RX1 ∈ GT := gt_at 72 (by decide +kernel) rfl
theorem df_X1 : ∀ j, j < 7 → defaultValue (tyX1 j) = vp_V [.int 0, .int 0, .int 0, .int 0, .int 0, .int 0, .null] j := by
  intro j hj
  match j, hj with
  | 0, _ => rfl
  | 1, _ => rfl
  | 2, _ => rfl
  | 3, _ => rfl
  | 4, _ => rfl
  | 5, _ => rfl
  | 6, _ => rfl
  | k + 7, h9 => exact absurd h9 (by omega)
theorem it_X2 : Cond.instantiable RX2 7 ∈ GT := gt_at 98 (by decide +kernel) rfl
theorem ii_X2 : Cond.initialized RX2 ∈ GT := gt_at 69 (by decide +kernel) rfl
theorem df_X2 : ∀ j, j < 7 → defaultValue (tyX2 j) = vp_V [.int 0, .int 0, .int 0, .int 0, .null, .null, .null] j := by
  intro j hj
  match j, hj with
  | 0, _ => rfl
  | 1, _ => rfl
  | 2, _ => rfl
  | 3, _ => rfl
  | 4, _ => rfl
  | 5, _ => rfl
  | 6, _ => rfl
  | k + 7, h9 => exact absurd h9 (by omega)
theorem it_X3 : Cond.instantiable RX3 2 ∈ GT := gt_at 104 (by decide +kernel) rfl
theorem ii_X3 : Cond.initialized RX3 ∈ GT := gt_at 70 (by decide +kernel) rfl
theorem df_X3 : ∀ j, j < 2 → defaultValue (tyX3 j) = vp_V [.null, .null] j := by
  intro j hj
  match j, hj with
  | 0, _ => rfl
  | 1, _ => rfl
  | k + 2, h9 => exact absurd h9 (by omega)
theorem it_X4 : Cond.instantiable RX4 13 ∈ GT := gt_at 155 (by decide +kernel) rfl
theorem ii_X4 : Cond.initialized RX4 ∈ GT := gt_at 71 (by decide +kernel) rfl
theorem df_X4 : ∀ j, j < 13 → defaultValue (tyX4 j) = vp_V [.null, .null, .int 0, .int 0, .int 0, .int 0, .int 0, .int 0, .int 0, .int 0, .int 0, .int 0, .null] j := by
  intro j hj
  match j, hj with
  | 0, _ => rfl
  | 1, _ => rfl
  | 2, _ => rfl
  | 3, _ => rfl
  | 4, _ => rfl
  | 5, _ => rfl
  | 6, _ => rfl
  | 7, _ => rfl
  | 8, _ => rfl
  | 9, _ => rfl
  | 10, _ => rfl
  | 11, _ => rfl
  | 12, _ => rfl
  | k + 13, h9 => exact absurd h9 (by omega)
theorem it_X5 : Cond.instantiable RX5 14 ∈ GT := gt_at 194 (by decide +kernel) rfl
theorem ii_X5 : Cond.initialized RX5 ∈ GT := gt_at 73 (by decide +kernel) rfl
theorem df_X5 : ∀ j, j < 14 → defaultValue (tyX5 j) = vp_V [.null, .int 0, .int 0, .int 0, .long 0, .long 0, .null, .null, .null, .null, .null, .null, .null, .null] j := by
  intro j hj
  match j, hj with
  | 0, _ => rfl
  | 1, _ => rfl
  | 2, _ => rfl
  | 3, _ => rfl
  | 4, _ => rfl
  | 5, _ => rfl
  | 6, _ => rfl
  | 7, _ => rfl
  | 8, _ => rfl
  | 9, _ => rfl
  | 10, _ => rfl
  | 11, _ => rfl
  | 12, _ => rfl
  | 13, _ => rfl
  | k + 14, h9 => exact absurd h9 (by omega)
theorem it_X6 : Cond.instantiable RX6 5 ∈ GT := gt_at 90 (by decide +kernel) rfl
theorem ii_X6 : Cond.initialized RX6 ∈ GT := gt_at 68 (by decide +kernel) rfl
theorem df_X6 : ∀ j, j < 5 → defaultValue (tyX6 j) = vp_V [.null, .null, .null, .null, .int 0] j := by
  intro j hj
  match j, hj with
  | 0, _ => rfl
  | 1, _ => rfl
  | 2, _ => rfl
  | 3, _ => rfl
  | 4, _ => rfl
  | k + 5, h9 => exact absurd h9 (by omega)
theorem it_X7 : Cond.instantiable RX7 23 ∈ GT := gt_at 968 (by decide +kernel) rfl
theorem ii_X7 : Cond.initialized RX7 ∈ GT := gt_at 75 (by decide +kernel) rfl
theorem df_X7 : ∀ j, j < 23 → defaultValue (tyX7 j) = vp_V [.int 0, .null, .int 0, .int 0, .int 0, .int 0, .int 0, .int 0, .null, .null, .null, .null, .int 0, .int 0, .int 0, .int 0, .int 0, .null, .null, .null, .null, .int 0, .int 0] j := by
  intro j hj
  match j, hj with
  | 0, _ => rfl
  | 1, _ => rfl
  | 2, _ => rfl
  | 3, _ => rfl
  | 4, _ => rfl
  | 5, _ => rfl
  | 6, _ => rfl
  | 7, _ => rfl
  | 8, _ => rfl
  | 9, _ => rfl
  | 10, _ => rfl
  | 11, _ => rfl
  | 12, _ => rfl
  | 13, _ => rfl
  | 14, _ => rfl
  | 15, _ => rfl
  | 16, _ => rfl
  | 17, _ => rfl
  | 18, _ => rfl
  | 19, _ => rfl
  | 20, _ => rfl
  | 21, _ => rfl
  | 22, _ => rfl
  | k + 23, h9 => exact absurd h9 (by omega)
theorem cl_X6_7 : Cond.classLink RX6 7 RX2 ∈ GT := gt_at 97 (by decide +kernel) rfl
theorem cl_X6_10 : Cond.classLink RX6 10 RX4 ∈ GT := gt_at 154 (by decide +kernel) rfl
theorem cl_X6_21 : Cond.classLink RX6 21 RX0 ∈ GT := gt_at 305 (by decide +kernel) rfl
theorem cl_X6_28 : Cond.classLink RX6 28 RX5 ∈ GT := gt_at 325 (by decide +kernel) rfl
theorem cl_X0_9 : Cond.classLink RX0 9 RX5 ∈ GT := gt_at 311 (by decide +kernel) rfl
theorem cl_X2_19 : Cond.classLink RX2 19 RX3 ∈ GT := gt_at 103 (by decide +kernel) rfl
theorem cl_X4_9 : Cond.classLink RX4 9 RX1 ∈ GT := gt_at 160 (by decide +kernel) rfl
theorem cl_X4_22 : Cond.classLink RX4 22 RX5 ∈ GT := gt_at 193 (by decide +kernel) rfl
theorem cl_X4_31 : Cond.classLink RX4 31 RX2 ∈ GT := gt_at 573 (by decide +kernel) rfl
theorem cl_X4_200 : Cond.classLink RX4 200 RX3 ∈ GT := gt_at 746 (by decide +kernel) rfl
theorem cl_L_8 : Cond.classLink RL 8 RX6 ∈ GT := gt_at 89 (by decide +kernel) rfl
theorem cl_L_77 : Cond.classLink RL 77 RX7 ∈ GT := gt_at 967 (by decide +kernel) rfl
theorem ml_X6_1 : Cond.methodLink RX6 1 Lib.objectInit ∈ GT := gt_at 94 (by decide +kernel) rfl
theorem ml_X0_3 : Cond.methodLink RX0 3 Lib.objectInit ∈ GT := gt_at 310 (by decide +kernel) rfl
theorem ml_X1_3 : Cond.methodLink RX1 3 Lib.objectInit ∈ GT := gt_at 165 (by decide +kernel) rfl
theorem ml_X2_3 : Cond.methodLink RX2 3 Lib.objectInit ∈ GT := gt_at 102 (by decide +kernel) rfl
theorem ml_X3_3 : Cond.methodLink RX3 3 Lib.objectInit ∈ GT := gt_at 108 (by decide +kernel) rfl
theorem ml_X4_3 : Cond.methodLink RX4 3 Lib.objectInit ∈ GT := gt_at 159 (by decide +kernel) rfl
theorem ml_X5_3 : Cond.methodLink RX5 3 Lib.objectInit ∈ GT := gt_at 198 (by decide +kernel) rfl
theorem ml_X7_3 : Cond.methodLink RX7 3 Lib.objectInit ∈ GT := gt_at 972 (by decide +kernel) rfl
def bP (q v h o a s : Nat) : Nat → Nat
  | 0 => q
  | 1 => v
  | 2 => h
  | 3 => o
  | 4 => a
  | _ => s
def aT (q a b c d e f h i : Nat) : Nat → Nat
  | 0 => q
  | 1 => a
  | 2 => b
  | 3 => c
  | 4 => d
  | 5 => e
  | 6 => f
  | 7 => h
  | _ => i
def P0 : PD := (0, 0, 0, 0, (fun _ => 0), (fun _ => 0), 1, upd (fun _ => 0) 0 100, (fun _ => 0))
def T0 : TD := (0, -1, 0, 0, 0, (fun _ => 0), (fun _ => 0), (fun _ => 0), (fun _ => 0), (fun _ => 0), (fun _ => 0), (fun _ => 0), (fun _ => 0))
set_option maxRecDepth 20000 in
set_option maxHeartbeats 2000000 in
theorem c_X3init (l : Launch) (g : Gl) (q k : Nat) : Ct l g yX3_init cX3_init 2 none 1 40 1 11 [.ref q, .ref k] [(q, .inr (3, [.null, .null]))] (fun v w => ∃ q2, v = none ∧ w = [(q, .inr (3, [.ref k, .ref q2])), (q2, .inl (g.2.1 1, 11, .inr (.inl (fun _ => 0))))]) noX := by
  refine Ct.intro [some (.ref q), some (.ref k)] (by decide +kernel) (fun _ h => h) (Nat.le_of_ble_eq_true rfl) (fun A H0 K ok => ?_)
  refine A_aload_n ok.b rfl dX3_init_0 gp0 ?_
  refine A_objInit ok.b ml_X3_3 dX3_init_1 (Nat.le_of_ble_eq_true rfl) (Nat.le_of_ble_eq_true rfl) ?_
  refine A_aload_n ok.b rfl dX3_init_4 gp0 ?_
  refine A_bipush ok.b (v := 11) dX3_init_5 (by decide) ?_
  refine A_newaJ ok.b (N := 11) (by decide) rfl (by decide) (Nat.le_of_ble_eq_true rfl) (Nat.le_of_ble_eq_true rfl) dX3_init_7 (fun q7 => ?_)
  refine A_putF ok.b cf3 1 (by decide) rfl rfl fl_X3_11 gp0 rfl rfl (gp_lt (gps gp0)) (wps wp0) wp0 dX3_init_9 ?_
  refine A_aload_n ok.b rfl dX3_init_12 gp0 ?_
  refine A_aload_n ok.b rfl dX3_init_13 (gps gp0) ?_
  refine A_putF ok.b cf3 0 (by decide) rfl rfl fl_X3_15 gp0 rfl rfl (gp_lt gp0) wp0 wp0 dX3_init_14 ?_
  refine A_vret ok dX3_init_17 (Nat.le_of_ble_eq_true rfl) (Nat.le_of_ble_eq_true rfl) ?_
  exact ⟨q7, rfl, rfl⟩
set_option maxRecDepth 20000 in
set_option maxHeartbeats 2000000 in
theorem c_X1init (l : Launch) (g : Gl) (q : Nat) : Ct l g yX1_init cX1_init 1 none 1 40 1 800 [.ref q] [(q, .inr (1, [.int 0, .int 0, .int 0, .int 0, .int 0, .int 0, .null]))] (fun v w => ∃ q2, v = none ∧ w = inW g q q2 0 0 0 0 0 0 (fun _ => 0)) noX := by
  refine Ct.intro [some (.ref q)] (by decide +kernel) (fun _ h => h) (Nat.le_of_ble_eq_true rfl) (fun A H0 K ok => ?_)
  refine A_aload_n ok.b rfl dX1_init_0 gp0 ?_
  refine A_objInit ok.b ml_X1_3 dX1_init_1 (Nat.le_of_ble_eq_true rfl) (Nat.le_of_ble_eq_true rfl) ?_
  refine A_aload_n ok.b rfl dX1_init_4 gp0 ?_
  refine A_sipush ok.b (v := 800) dX1_init_5 (by decide) ?_
  refine A_newaB ok.b (N := 800) (by decide) rfl (by decide) (Nat.le_of_ble_eq_true rfl) (Nat.le_of_ble_eq_true rfl) dX1_init_8 (fun q8 => ?_)
  refine A_putF ok.b cf1 6 (by decide) rfl rfl fl_X1_9 gp0 rfl rfl (gp_lt (gps (gps (gps (gps (gps (gps gp0))))))) (wps (wps (wps (wps (wps (wps wp0)))))) wp0 dX1_init_10 ?_
  refine A_vret ok dX1_init_13 (Nat.le_of_ble_eq_true rfl) (Nat.le_of_ble_eq_true rfl) ?_
  exact ⟨q8, rfl, rfl⟩
set_option maxRecDepth 20000 in
set_option maxHeartbeats 2000000 in
theorem c_X5init (l : Launch) (g : Gl) (q p : Nat) : Ct l g yX5_init cX5_init 2 none 1 40 8 144 [.ref q, .ref p] [(q, .inr (5, [.null, .int 0, .int 0, .int 0, .long 0, .long 0, .null, .null, .null, .null, .null, .null, .null, .null]))] (fun v w => ∃ a : Nat → Nat, a 0 = q ∧ v = none ∧ w = tunW g a p T0) noX := by
  refine Ct.intro [some (.ref q), some (.ref p)] (by decide +kernel) (fun _ h => h) (Nat.le_of_ble_eq_true rfl) (fun A H0 K ok => ?_)
  refine A_aload_n ok.b rfl dX5_init_0 gp0 ?_
  refine A_objInit ok.b ml_X5_3 dX5_init_1 (Nat.le_of_ble_eq_true rfl) (Nat.le_of_ble_eq_true rfl) ?_
  refine A_aload_n ok.b rfl dX5_init_4 gp0 ?_
  refine A_iconst ok.b (v := (-1)) dX5_init_5 (by decide) ?_
  refine A_putf ok.b cf5 2 (by decide) rfl fl_X5_9 gp0 rfl rfl (gp_lt (gps (gps gp0))) (wps (wps wp0)) wp0 dX5_init_6 ?_
  refine A_aload_n ok.b rfl dX5_init_9 gp0 ?_
  refine A_bipush ok.b (v := 12) dX5_init_10 (by decide) ?_
  refine A_newaJ ok.b (N := 12) (by decide) rfl (by decide) (Nat.le_of_ble_eq_true rfl) (Nat.le_of_ble_eq_true rfl) dX5_init_12 (fun q12 => ?_)
  refine A_putF ok.b cf5 6 (by decide) rfl rfl fl_X5_15 gp0 rfl rfl (gp_lt (gps (gps (gps (gps (gps (gps gp0))))))) (wps (wps (wps (wps (wps (wps wp0)))))) wp0 dX5_init_14 ?_
  refine A_aload_n ok.b rfl dX5_init_17 gp0 ?_
  refine A_bipush ok.b (v := 12) dX5_init_18 (by decide) ?_
  refine A_newaI ok.b (N := 12) (by decide) rfl (by decide) (Nat.le_of_ble_eq_true rfl) (Nat.le_of_ble_eq_true rfl) dX5_init_20 (fun q20 => ?_)
  refine A_putF ok.b cf5 7 (by decide) rfl rfl fl_X5_19 gp0 rfl rfl (gp_lt (gps (gps (gps (gps (gps (gps (gps gp0)))))))) (wps (wps (wps (wps (wps (wps (wps wp0))))))) wp0 dX5_init_22 ?_
  refine A_aload_n ok.b rfl dX5_init_25 gp0 ?_
  refine A_bipush ok.b (v := 12) dX5_init_26 (by decide) ?_
  refine A_newaI ok.b (N := 12) (by decide) rfl (by decide) (Nat.le_of_ble_eq_true rfl) (Nat.le_of_ble_eq_true rfl) dX5_init_28 (fun q28 => ?_)
  refine A_putF ok.b cf5 8 (by decide) rfl rfl fl_X5_23 gp0 rfl rfl (gp_lt (gps (gps (gps (gps (gps (gps (gps (gps gp0))))))))) (wps (wps (wps (wps (wps (wps (wps (wps wp0)))))))) wp0 dX5_init_30 ?_
  refine A_aload_n ok.b rfl dX5_init_33 gp0 ?_
  refine A_bipush ok.b (v := 24) dX5_init_34 (by decide) ?_
  refine A_newaZ ok.b (N := 24) (by decide) rfl (by decide) (Nat.le_of_ble_eq_true rfl) (Nat.le_of_ble_eq_true rfl) dX5_init_36 (fun q36 => ?_)
  refine A_putF ok.b cf5 9 (by decide) rfl rfl fl_X5_26 gp0 rfl rfl (gp_lt (gps (gps (gps (gps (gps (gps (gps (gps (gps gp0)))))))))) (wps (wps (wps (wps (wps (wps (wps (wps (wps wp0))))))))) wp0 dX5_init_38 ?_
  refine A_aload_n ok.b rfl dX5_init_41 gp0 ?_
  refine A_bipush ok.b (v := 24) dX5_init_42 (by decide) ?_
  refine A_newaI ok.b (N := 24) (by decide) rfl (by decide) (Nat.le_of_ble_eq_true rfl) (Nat.le_of_ble_eq_true rfl) dX5_init_44 (fun q44 => ?_)
  refine A_putF ok.b cf5 10 (by decide) rfl rfl fl_X5_30 gp0 rfl rfl (gp_lt (gps (gps (gps (gps (gps (gps (gps (gps (gps (gps gp0))))))))))) (wps (wps (wps (wps (wps (wps (wps (wps (wps (wps wp0)))))))))) wp0 dX5_init_46 ?_
  refine A_aload_n ok.b rfl dX5_init_49 gp0 ?_
  refine A_bipush ok.b (v := 20) dX5_init_50 (by decide) ?_
  refine A_newaI ok.b (N := 20) (by decide) rfl (by decide) (Nat.le_of_ble_eq_true rfl) (Nat.le_of_ble_eq_true rfl) dX5_init_52 (fun q52 => ?_)
  refine A_putF ok.b cf5 11 (by decide) rfl rfl fl_X5_33 gp0 rfl rfl (gp_lt (gps (gps (gps (gps (gps (gps (gps (gps (gps (gps (gps gp0)))))))))))) (wps (wps (wps (wps (wps (wps (wps (wps (wps (wps (wps wp0))))))))))) wp0 dX5_init_54 ?_
  refine A_aload_n ok.b rfl dX5_init_57 gp0 ?_
  refine A_bipush ok.b (v := 20) dX5_init_58 (by decide) ?_
  refine A_newaI ok.b (N := 20) (by decide) rfl (by decide) (Nat.le_of_ble_eq_true rfl) (Nat.le_of_ble_eq_true rfl) dX5_init_60 (fun q60 => ?_)
  refine A_putF ok.b cf5 12 (by decide) rfl rfl fl_X5_36 gp0 rfl rfl (gp_lt (gps (gps (gps (gps (gps (gps (gps (gps (gps (gps (gps (gps gp0))))))))))))) (wps (wps (wps (wps (wps (wps (wps (wps (wps (wps (wps (wps wp0)))))))))))) wp0 dX5_init_62 ?_
  refine A_aload_n ok.b rfl dX5_init_65 gp0 ?_
  refine A_bipush ok.b (v := 20) dX5_init_66 (by decide) ?_
  refine A_newaJ ok.b (N := 20) (by decide) rfl (by decide) (Nat.le_of_ble_eq_true rfl) (Nat.le_of_ble_eq_true rfl) dX5_init_68 (fun q68 => ?_)
  refine A_putF ok.b cf5 13 (by decide) rfl rfl fl_X5_39 gp0 rfl rfl (gp_lt (gps (gps (gps (gps (gps (gps (gps (gps (gps (gps (gps (gps (gps gp0)))))))))))))) (wps (wps (wps (wps (wps (wps (wps (wps (wps (wps (wps (wps (wps wp0))))))))))))) wp0 dX5_init_70 ?_
  refine A_aload_n ok.b rfl dX5_init_73 gp0 ?_
  refine A_aload_n ok.b rfl dX5_init_74 (gps gp0) ?_
  refine A_putf ok.b cf5 0 (by decide) rfl fl_X5_42 gp0 rfl rfl (gp_lt gp0) wp0 wp0 dX5_init_75 ?_
  refine A_vret ok dX5_init_78 (Nat.le_of_ble_eq_true rfl) (Nat.le_of_ble_eq_true rfl) ?_
  exact ⟨aT q q12 q20 q28 q36 q44 q52 q60 q68, rfl, rfl, rfl⟩
set_option maxRecDepth 20000 in
set_option maxHeartbeats 2000000 in
theorem c_X2init (l : Launch) (g : Gl) (q : Nat) : Ct l g yX2_init cX2_init 1 none 2 80 5 38 [.ref q] [(q, .inr (2, [.int 0, .int 0, .int 0, .int 0, .null, .null, .null]))] (fun v w => ∃ b : Nat → Nat, b 0 = q ∧ v = none ∧ w = planW g b P0) noX := by
  refine Ct.intro [some (.ref q)] (by decide +kernel) (fun _ h => h) (Nat.le_of_ble_eq_true rfl) (fun A H0 K ok => ?_)
  refine A_aload_n ok.b rfl dX2_init_0 gp0 ?_
  refine A_objInit ok.b ml_X2_3 dX2_init_1 (Nat.le_of_ble_eq_true rfl) (Nat.le_of_ble_eq_true rfl) ?_
  refine A_aload_n ok.b rfl dX2_init_4 gp0 ?_
  refine A_bipush ok.b (v := 12) dX2_init_5 (by decide) ?_
  refine A_newaI ok.b (N := 12) (by decide) rfl (by decide) (Nat.le_of_ble_eq_true rfl) (Nat.le_of_ble_eq_true rfl) dX2_init_7 (fun q7 => ?_)
  refine A_putF ok.b cf2 4 (by decide) rfl rfl fl_X2_9 gp0 rfl rfl (gp_lt (gps (gps (gps (gps gp0))))) (wps (wps (wps (wps wp0)))) wp0 dX2_init_9 ?_
  refine A_aload_n ok.b rfl dX2_init_12 gp0 ?_
  refine A_bipush ok.b (v := 12) dX2_init_13 (by decide) ?_
  refine A_newaZ ok.b (N := 12) (by decide) rfl (by decide) (Nat.le_of_ble_eq_true rfl) (Nat.le_of_ble_eq_true rfl) dX2_init_15 (fun q15 => ?_)
  refine A_putF ok.b cf2 5 (by decide) rfl rfl fl_X2_15 gp0 rfl rfl (gp_lt (gps (gps (gps (gps (gps gp0)))))) (wps (wps (wps (wps (wps wp0))))) wp0 dX2_init_17 ?_
  refine A_aload_n ok.b rfl dX2_init_20 gp0 ?_
  refine A_new ok.b cf3 cl_X2_19 it_X3 ii_X3 df_X3 (Nat.le_of_ble_eq_true rfl) (Nat.le_of_ble_eq_true rfl) dX2_init_21 (fun q21 => ?_)
  refine A_dup ok.b dX2_init_24 rfl ?_
  refine A_iconst ok.b (v := 1) dX2_init_25 (by decide) ?_
  refine A_newaI ok.b (N := 1) (by decide) rfl (by decide) (Nat.le_of_ble_eq_true rfl) (Nat.le_of_ble_eq_true rfl) dX2_init_26 (fun q26 => ?_)
  refine A_dup ok.b dX2_init_28 rfl ?_
  refine A_iconst ok.b (v := 0) dX2_init_29 (by decide) ?_
  refine A_bipush ok.b (v := 100) dX2_init_30 (by decide) ?_
  refine A_iast ok.b (gps (gps (gps (gps gp0)))) (ix_n (j := 0) (by decide) (by decide)) (wps (wps (wps (wps wp0)))) dX2_init_32 ?_
  refine A_sub [0, 1, 2, 4, 3] (ws2 := [(q, .inr (2, [.int 0, .int 0, .int 0, .int 0, .ref q7, .ref q15, .null])), (q7, .inl (g.2.1 0, 12, .inl (fun _ => 0))), (q15, .inl (g.2.1 3, 12, .inl (fun _ => 0))), (q26, .inl (g.2.1 0, 1, .inl (upd (fun _ => 0) 0 100)))] ++ [(q21, .inr (3, [.null, .null]))]) rfl rfl ?_
  refine A_lastIB ok.b (As := [_]) _ _ mf_X3_init ml_X2_21 in_X3_init rfl (c_X3init l g _ _) rfl rfl dX2_init_33 (Nat.le_of_ble_eq_true rfl) ⟨(Nat.le_of_ble_eq_true rfl), (Nat.le_of_ble_eq_true rfl)⟩ ⟨(Nat.le_of_ble_eq_true rfl), (Nat.le_of_ble_eq_true rfl)⟩ (fun _ _ hx => hx.elim) (fun v33 w33 q33 => ?_)
  obtain ⟨q5, rfl, rfl⟩ := q33
  refine A_putf ok.b cf2 6 (by decide) rfl fl_X2_24 gp0 rfl rfl (gp_lt (gps (gps (gps (gps (gps (gps gp0))))))) (wps (wps (wps (wps (wps (wps wp0)))))) wp0 dX2_init_36 ?_
  refine A_sub [0, 1, 2, 4, 3, 5] (ws2 := planW g (bP q q7 q15 q21 q26 q5) P0) rfl rfl ?_
  refine A_vret ok dX2_init_39 (Nat.le_of_ble_eq_true rfl) (Nat.le_of_ble_eq_true rfl) ?_
  exact ⟨bP q q7 q15 q21 q26 q5, rfl, rfl, rfl⟩
