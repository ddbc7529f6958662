theorem js_value : Cond.fieldLink "java/lang/String" 9 "java/lang/String" "value" "[B" ∈ GT := gt_of (by decide +kernel) rfl
theorem js_coder : Cond.fieldLink "java/lang/String" 15 "java/lang/String" "coder" "B" ∈ GT := gt_of (by decide +kernel) rfl
theorem js_comp : Cond.fieldLink "java/lang/String" 38 "java/lang/String" "COMPACT_STRINGS" "Z" ∈ GT := gt_of (by decide +kernel) rfl
theorem js_fmt : Cond.fieldLink "java/lang/String" 1053 "jdk/internal/util/Preconditions" "SIOOBE_FORMATTER" "Ljava/util/function/BiFunction;" ∈ GT := gt_of (by decide +kernel) rfl
theorem js_m335 : Cond.methodLink "java/lang/String" 335 yJ0_coder_7d493 ∈ GT := gt_of (by decide +kernel) rfl
theorem js_m492 : Cond.methodLink "java/lang/String" 492 yJ0_isLatin1_aae02 ∈ GT := gt_of (by decide +kernel) rfl
theorem js_m495 : Cond.methodLink "java/lang/String" 495 yJ1_charAt_3b067 ∈ GT := gt_of (by decide +kernel) rfl
theorem js_m9 : Cond.methodLink "java/lang/StringLatin1" 9 yJ0_checkIndex_df160 ∈ GT := gt_of (by decide +kernel) rfl
theorem js_m1059 : Cond.methodLink "java/lang/String" 1059 yJ3_checkIndex_8e157 ∈ GT := gt_of (by decide +kernel) rfl

section AWR
variable {l : Launch} {g : Gl} {own nm : String} {cc : ByteArray} {nL : Nat} {ret : Option FieldType} {R : Room} {A : Nat → Prop} {H0 : Heap} {K : KT} {pc : Nat} {lv : List (Option Value)} {st : List Value} {ws : va_W} {cn sn : Nat}

theorem A_ldcS (ok : OkB l g own nm cc nL ret R A H0 K) {ix i : Nat} {tx : String} (ht : (own, ix, tx, i) ∈ sTab) (d : decode cc pc = .ok (.ldc ix, 2)) (k : AW g A H0 nL K (pc + 2) lv (.ref (g.2.2.1 i) :: st) ws cn sn) : AW g A H0 nL K pc lv st ws cn sn := by
  obtain ⟨p, e, s, m, args, below, meth, c, Q, rfl, rfl, hx, hb, hml, hown, hts, hr, hlk, hKn, hG, hA, hnm⟩ := ok
  intro H locs ls hP hD hS hl
  exact va_ldcS hx hb hown (hG.gv.1 _ ht) d (k H locs ls hP hD hS hl)

theorem A_sval (ok : OkB l g own nm cc nL ret R A H0 K) {ix i : Nat} (hi : i < 14) (hw : Cond.fieldLink own ix "java/lang/String" "value" "[B" ∈ GT) (d : decode cc pc = .ok (.getfield ix, 3)) (k : AW g A H0 nL K (pc + 3) lv (.ref (g.2.2.2 i) :: st) ws cn sn) : AW g A H0 nL K pc lv (.ref (g.2.2.1 i) :: st) ws cn sn := by
  obtain ⟨p, e, s, m, args, below, meth, c, Q, rfl, rfl, hx, hb, hml, hown, hts, hr, hlk, hKn, hG, hA, hnm⟩ := ok
  intro H locs ls hP hD hS hl
  exact vk_getf hx hb (hG.2.2.2.2.1.1 i hi).2.2.1 hS hown (hts _ hw) (fun _ h => h) d (k H locs ls hP hD hS hl)

theorem A_scod (ok : OkB l g own nm cc nL ret R A H0 K) {ix i : Nat} (hi : i < 14) (hw : Cond.fieldLink own ix "java/lang/String" "coder" "B" ∈ GT) (d : decode cc pc = .ok (.getfield ix, 3)) (k : AW g A H0 nL K (pc + 3) lv (.int 0 :: st) ws cn sn) : AW g A H0 nL K pc lv (.ref (g.2.2.1 i) :: st) ws cn sn := by
  obtain ⟨p, e, s, m, args, below, meth, c, Q, rfl, rfl, hx, hb, hml, hown, hts, hr, hlk, hKn, hG, hA, hnm⟩ := ok
  intro H locs ls hP hD hS hl
  exact vk_getf hx hb (hG.2.2.2.2.1.1 i hi).2.1 hS hown (hts _ hw) (fun _ h => h) d (k H locs ls hP hD hS hl)

theorem A_slen (ok : OkB l g own nm cc nL ret R A H0 K) {i : Nat} (hi : i < 14) (d : decode cc pc = .ok (.arraylength, 1)) (k : AW g A H0 nL K (pc + 1) lv (.int (nI (lenS.getD i 0)) :: st) ws cn sn) : AW g A H0 nL K pc lv (.ref (g.2.2.2 i) :: st) ws cn sn := by
  obtain ⟨p, e, s, m, args, below, meth, c, Q, rfl, rfl, hx, hb, hml, hown, hts, hr, hlk, hKn, hG, hA, hnm⟩ := ok
  intro H locs ls hP hD hS hl
  exact va_tlen hx hb (hG.2.2.2.2.1.1 i hi).2.2.2 hS rfl d (k H locs ls hP hD hS hl)

theorem A_sbyt (ok : OkB l g own nm cc nL ret R A H0 K) {i j : Nat} {x : Int32} (hi : i < 14) (hj : Ix x (lenS.getD i 0) j) (d : decode cc pc = .ok (.baload, 1)) (k : AW g A H0 nL K (pc + 1) lv (.int ((bytS.getD i []).getD j 0) :: st) ws cn sn) : AW g A H0 nL K pc lv (.int x :: .ref (g.2.2.2 i) :: st) ws cn sn := by
  obtain ⟨p, e, s, m, args, below, meth, c, Q, rfl, rfl, hx, hb, hml, hown, hts, hr, hlk, hKn, hG, hA, hnm⟩ := ok
  intro H locs ls hP hD hS hl
  obtain ⟨hin, rfl⟩ := hj
  exact va_tb hx hb (hG.2.2.2.2.1.1 i hi).2.2.2 hS hin rfl d (k H locs ls hP hD hS hl)

theorem A_gets1 (ok : OkB l g own nm cc nL ret R A H0 K) {ix : Nat} (hw : Cond.fieldLink own ix "java/lang/String" "COMPACT_STRINGS" "Z" ∈ GT) (d : decode cc pc = .ok (.getstatic ix, 3)) (k : AW g A H0 nL K (pc + 3) lv (.int 1 :: st) ws cn sn) : AW g A H0 nL K pc lv st ws cn sn := by
  obtain ⟨p, e, s, m, args, below, meth, c, Q, rfl, rfl, hx, hb, hml, hown, hts, hr, hlk, hKn, hG, hA, hnm⟩ := ok
  intro H locs ls hP hD hS hl
  exact va_gets hx hb hG.2.2.1 hS hown (hts _ hw) (fun _ h => h) d (k H locs ls hP hD hS hl)

theorem A_getsF (ok : OkB l g own nm cc nL ret R A H0 K) {ix : Nat} (hw : Cond.fieldLink own ix "jdk/internal/util/Preconditions" "SIOOBE_FORMATTER" "Ljava/util/function/BiFunction;" ∈ GT) (d : decode cc pc = .ok (.getstatic ix, 3)) (k : ∀ v : Value, v.category = 1 → AW g A H0 nL K (pc + 3) lv (v :: st) ws cn sn) : AW g A H0 nL K pc lv st ws cn sn := by
  obtain ⟨p, e, s, m, args, below, meth, c, Q, rfl, rfl, hx, hb, hml, hown, hts, hr, hlk, hKn, hG, hA, hnm⟩ := ok
  intro H locs ls hP hD hS hl
  rcases hG.2.2.2.1 with h | ⟨t, h⟩
  · exact va_gets hx hb h hS hown (hts _ hw) (fun _ h => h) d (k _ rfl H locs ls hP hD hS hl)
  · exact va_gets hx hb h hS hown (hts _ hw) (fun _ h => h) d (k _ rfl H locs ls hP hD hS hl)

theorem A_i2c (ok : OkB l g own nm cc nL ret R A H0 K) {x : Int32} (d : decode cc pc = .ok (.i2c, 1)) (k : AW g A H0 nL K (pc + 1) lv (.int (x.toUInt32 % 65536).toInt32 :: st) ws cn sn) : AW g A H0 nL K pc lv (.int x :: st) ws cn sn := by
  obtain ⟨p, e, s, m, args, below, meth, c, Q, rfl, rfl, hx, hb, hml, hown, hts, hr, hlk, hKn, hG, hA, hnm⟩ := ok
  intro H locs ls hP hD hS hl
  exact lv_i2c hx hb d rfl (k H locs ls hP hD hS hl)

end AWR
section AWS7
variable {l : Launch} {g : Gl} {own nm : String} {cc : ByteArray} {nL : Nat} {ret : Option FieldType} {R : Room} {ws0 : va_W} {Q : QT} {X : XT} {A : Nat → Prop} {H0 : Heap} {K : KT} {pc : Nat} {lv : List (Option Value)} {st : List Value} {ws : va_W} {cn sn : Nat}
theorem A_nret {ty : FieldType} (ok : OkR l g own nm cc nL (some ty) R ws0 Q X A H0 K) {v : Int32} (d : decode cc pc = .ok (.ireturn, 1)) (hv : narrow ty (.int v) = .int v) (hc : cn ≤ R.cells) (hs : sn ≤ R.slots) (hq : Q (some (.int v)) ws) : AW g A H0 nL K pc lv ([.int v]) ws cn sn := by
  obtain ⟨p, e, s, m, args, below, meth, c, rfl, rfl, hx, hb, hml, hown, hts, hr, hlk, hKn, hG, hA, hnm, hAe, hex⟩ := ok
  intro H locs ls hP hD hS hl
  subst hAe
  refine W.widen hc hs (vx_ret ?_)
  exact W.zret hx hb hr hv (fun t ht hW => ⟨⟨_, ws, rfl, hq, by rw [ht]; exact hP, hD⟩, hS.F ht⟩) hS.2.2 d
/-- a text constant's method -/
theorem A_str (ok : OkB l g own nm cc nL ret R A H0 K) {y : MethodName} {bytes : ByteArray} {maxL n ix fr lo i : Nat} {rt : Option FieldType} {r : Value} {As rest : List Value} (hi : i < 14) (hyc : y.cls = "java/lang/String") (mf : MF y bytes maxL rt n) (hlk9 : Cond.methodLink own ix y ∈ GT) (hin : Cond.instanceMethod y ∈ GT) (hse : Cond.selects y.cls y y ∈ GT) (hct : Ct l g y bytes maxL rt fr lo 0 0 (.ref (g.2.2.1 i) :: As) [] (fun v w => v = some r ∧ w = []) noX) (hn9 : As.length = n) {st0 : List Value} (hstk : st0 = As.reverse ++ .ref (g.2.2.1 i) :: rest) (d : decode cc pc = .ok (.invokevirtual ix, 3)) (hst : (rest.map fun v => v.category).sum ≤ 8) (hfr : fr + 1 ≤ R.frames ∧ 8 + (maxL + 11) + lo ≤ R.locals) (hmk : cn ≤ R.cells ∧ sn ≤ R.slots)
    (k : AW g A H0 nL K (pc + 3) lv (r :: rest) ws cn sn) : AW g A H0 nL K pc lv st0 ws cn sn := by
  obtain ⟨p, e, s, m, args, below, meth, c, Q, rfl, rfl, hx, hb, hml, hown, hts, hr, hlk, hKn, hG, hA, hnm⟩ := ok
  intro H locs ls hP hD hS hl
  have hFc := va_free (wc := []) hD hS hA [] rfl
  refine run_W [] (List.range ws.length) (wc := []) (wr := ws) (vx_runV (As := As) (rest := rest) ⟨hx, hb, hml, hown, hts⟩ (hct H.size) (cwV n hts (wsV_good mf hlk9 hin hse) rfl rfl rfl ⟨rfl, mf.2.2⟩ hfr) ⟨cP_blind, ?_, fun U hU hW => cP_at hU hW (fun k q h => by simp at h) hKn (hD.sub [] rfl rfl) hS hG hFc⟩ rfl hn9 hl.1 hstk (lv_room hst) d hmk) hP hD hS hA rfl (range_pick ws) (nd_range _) (fun _ _ h => by cases h) (fun E ce q9 w H1 locs1 hxw hP2 hD2 hS2 h1 h2 h3 => hxw.elim) (fun v w H1 locs1 hq hP2 hD2 hS2 => ?_)
  · rw [hyc]
    exact vk_recv hG.2.2.2.2.1 hi hS
  · obtain ⟨rfl, rfl⟩ := hq
    rw [List.append_nil] at hP2 hD2
    exact k H1 locs1 ls hP2 hD2 hS2 hl
/-- a static method of another class, that touches no cell -/
theorem A_foreign (ok : OkB l g own nm cc nL ret R A H0 K) {y : MethodName} {bytes : ByteArray} {maxL n ix fr lo : Nat} {rt : Option FieldType} {r : Option Value} {As rest : List Value} (mf : MF y bytes maxL rt n) (hlk9 : Cond.methodLink own ix y ∈ GT) (hin : Cond.static y ∈ GT) (hct : Ct l g y bytes maxL rt fr lo 0 0 As [] (fun v w => v = r ∧ w = []) noX) (hn9 : As.length = n) {st0 : List Value} (hstk : st0 = As.reverse ++ rest) (d : decode cc pc = .ok (.invokestatic ix, 3)) (hst : (rest.map fun v => v.category).sum ≤ 8) (hfr : fr + 1 ≤ R.frames ∧ 8 + (maxL + 11) + lo ≤ R.locals) (hmk : cn ≤ R.cells ∧ sn ≤ R.slots)
    (k : AW g A H0 nL K (pc + 3) lv (r.toList ++ rest) ws cn sn) : AW g A H0 nL K pc lv st0 ws cn sn := by
  obtain ⟨p, e, s, m, args, below, meth, c, Q, rfl, rfl, hx, hb, hml, hown, hts, hr, hlk, hKn, hG, hA, hnm⟩ := ok
  intro H locs ls hP hD hS hl
  have hFc := va_free (wc := []) hD hS hA [] rfl
  refine run_W [] (List.range ws.length) (wc := []) (wr := ws) (vx_runS (As := As) (rest := rest) ⟨hx, hb, hml, hown, hts⟩ (hct H.size) ⟨callB_of n hts (wsM_good mf.1) rfl rfl rfl (hts _ mf.2.1) (hts _ hlk9) mf.2.2 hfr, hts _ hin⟩ ⟨cP_blind, fun U hU hW => cP_at hU hW (fun k q h => by simp at h) hKn (hD.sub [] rfl rfl) hS hG hFc⟩ rfl hn9 hl.1 hstk (lv_room hst) d hmk) hP hD hS hA rfl (range_pick ws) (nd_range _) (fun _ _ h => by cases h) (fun E ce q9 w H1 locs1 hxw hP2 hD2 hS2 h1 h2 h3 => hxw.elim) (fun v w H1 locs1 hq hP2 hD2 hS2 => ?_)
  obtain ⟨rfl, rfl⟩ := hq
  rw [List.append_nil] at hP2 hD2
  exact k H1 locs1 ls hP2 hD2 hS2 hl
end AWS7

theorem len_lt {i : Nat} (hi : i < 14) : lenS.getD i 0 < 2 ^ 31 := by
  have h : ∀ j, j < 14 → lenS.getD j 0 < 2 ^ 31 := by decide
  exact h i hi
set_option maxHeartbeats 1000000 in
theorem c_coder (l : Launch) (g : Gl) (i : Nat) (hi : i < 14) : Ct l g yJ0_coder_7d493 cJ0_coder_7d493 1 (some .byte) 0 0 0 0 [.ref (g.2.2.1 i)] [] (fun v w => v = some (.int 0) ∧ w = []) noX := by
  refine Ct.intro [some (.ref (g.2.2.1 i))] (by decide +kernel) (fun _ h => h) (Nat.le_of_ble_eq_true rfl) (fun A H0 K ok => ?_)
  refine A_gets1 ok.b js_comp dJ0_coder_7d493_0 ?_
  refine A_if_eq ok.b (tgt := 13) dJ0_coder_7d493_3 (by decide) (fun c => absurd c (by decide)) (fun c => ?_)
  refine A_aload_n ok.b rfl dJ0_coder_7d493_6 gp0 ?_
  refine A_scod ok.b hi js_coder dJ0_coder_7d493_7 ?_
  refine A_goto ok.b (tgt := 14) dJ0_coder_7d493_10 (by decide) ?_
  exact A_nret ok dJ0_coder_7d493_14 rfl (Nat.le_of_ble_eq_true rfl) (Nat.le_of_ble_eq_true rfl) ⟨rfl, rfl⟩
set_option maxHeartbeats 1000000 in
theorem c_isLatin1 (l : Launch) (g : Gl) (i : Nat) (hi : i < 14) : Ct l g yJ0_isLatin1_aae02 cJ0_isLatin1_aae02 1 (some .boolean) 0 0 0 0 [.ref (g.2.2.1 i)] [] (fun v w => v = some (.int 1) ∧ w = []) noX := by
  refine Ct.intro [some (.ref (g.2.2.1 i))] (by decide +kernel) (fun _ h => h) (Nat.le_of_ble_eq_true rfl) (fun A H0 K ok => ?_)
  refine A_gets1 ok.b js_comp dJ0_isLatin1_aae02_0 ?_
  refine A_if_eq ok.b (tgt := 17) dJ0_isLatin1_aae02_3 (by decide) (fun c => absurd c (by decide)) (fun c => ?_)
  refine A_aload_n ok.b rfl dJ0_isLatin1_aae02_6 gp0 ?_
  refine A_scod ok.b hi js_coder dJ0_isLatin1_aae02_7 ?_
  refine A_if_ne ok.b (tgt := 17) dJ0_isLatin1_aae02_10 (by decide) (fun c => absurd rfl c) (fun c => ?_)
  refine A_iconst ok.b (v := 1) dJ0_isLatin1_aae02_13 (by decide) ?_
  refine A_goto ok.b (tgt := 18) dJ0_isLatin1_aae02_14 (by decide) ?_
  exact A_nret ok dJ0_isLatin1_aae02_18 rfl (Nat.le_of_ble_eq_true rfl) (Nat.le_of_ble_eq_true rfl) ⟨rfl, rfl⟩
set_option maxHeartbeats 1000000 in
theorem c_strlen (l : Launch) (g : Gl) (i : Nat) (hi : i < 14) : Ct l g yJ0_length_8abf5 cJ0_length_8abf5 1 (some .int) 1 40 0 0 [.ref (g.2.2.1 i)] [] (fun v w => v = some (.int (nI (lenS.getD i 0))) ∧ w = []) noX := by
  refine Ct.intro [some (.ref (g.2.2.1 i))] (by decide +kernel) (fun _ h => h) (Nat.le_of_ble_eq_true rfl) (fun A H0 K ok => ?_)
  refine A_aload_n ok.b rfl dJ0_length_8abf5_0 gp0 ?_
  refine A_sval ok.b hi js_value dJ0_length_8abf5_1 ?_
  refine A_slen ok.b hi dJ0_length_8abf5_4 ?_
  refine A_aload_n ok.b rfl dJ0_length_8abf5_5 gp0 ?_
  refine A_str ok.b (As := []) hi rfl mf_J0_coder_7d493 js_m335 in_J0_coder_7d493 se_J0_coder_7d493 (c_coder l g i hi) rfl rfl dJ0_length_8abf5_6 (Nat.le_of_ble_eq_true rfl) ⟨(Nat.le_of_ble_eq_true rfl), (Nat.le_of_ble_eq_true rfl)⟩ ⟨(Nat.le_of_ble_eq_true rfl), (Nat.le_of_ble_eq_true rfl)⟩ ?_
  refine A_ishr ok.b dJ0_length_8abf5_9 ?_
  exact A_iret ok dJ0_length_8abf5_10 (Nat.le_of_ble_eq_true rfl) (Nat.le_of_ble_eq_true rfl) ⟨by rw [sc_shr0 (len_lt hi)], rfl⟩
set_option maxHeartbeats 1000000 in
theorem c_prechk (l : Launch) (g : Gl) (j n : Int32) (v0 : Value) (hv : v0.category = 1) (h0 : ¬ j < 0) (h1 : j < n) : Ct l g yJ3_checkIndex_8e157 cJ3_checkIndex_8e157 3 (some .int) 0 0 0 0 [.int j, .int n, v0] [] (fun v w => v = some (.int j) ∧ w = []) noX := by
  refine Ct.intro [some (.int j), some (.int n), none] (by decide +kernel) (fun q h => ?_) ?_ (fun A H0 K ok => ?_)
  · obtain ⟨q1, q2⟩ := q
    have h9 := lvl_mem.mp h
    match q1, h9 with
    | 0, h9 => simp at h9; subst h9; simp [lv_args]
    | 1, h9 => simp at h9; subst h9; simp [lv_args, Value.category]
    | 2, h9 => simp at h9
    | k + 3, h9 => simp at h9
  · cases v0 <;> first | exact (Nat.le_of_ble_eq_true rfl) | (simp [Value.category] at hv)
  refine A_iload_n ok.b rfl dJ3_checkIndex_8e157_0 gp0 ?_
  refine A_if_lt ok.b (tgt := 9) dJ3_checkIndex_8e157_1 (by decide) (fun c => absurd c h0) (fun c => ?_)
  refine A_iload_n ok.b rfl dJ3_checkIndex_8e157_4 gp0 ?_
  refine A_iload_n ok.b rfl dJ3_checkIndex_8e157_5 (gps gp0) ?_
  refine A_icmp_lt ok.b (tgt := 16) dJ3_checkIndex_8e157_6 (by decide) (fun c => ?_) (fun c => absurd h1 c)
  refine A_iload_n ok.b rfl dJ3_checkIndex_8e157_16 gp0 ?_
  exact A_iret ok dJ3_checkIndex_8e157_17 (Nat.le_of_ble_eq_true rfl) (Nat.le_of_ble_eq_true rfl) ⟨rfl, rfl⟩
set_option maxHeartbeats 1000000 in
theorem c_chkIndex (l : Launch) (g : Gl) (j n : Int32) (h0 : ¬ j < 0) (h1 : j < n) : Ct l g yJ0_checkIndex_df160 cJ0_checkIndex_df160 2 none 1 40 0 0 [.int j, .int n] [] (fun v w => v = none ∧ w = []) noX := by
  refine Ct.intro [some (.int j), some (.int n)] (by decide +kernel) (fun _ h => h) (Nat.le_of_ble_eq_true rfl) (fun A H0 K ok => ?_)
  refine A_iload_n ok.b rfl dJ0_checkIndex_df160_0 gp0 ?_
  refine A_iload_n ok.b rfl dJ0_checkIndex_df160_1 (gps gp0) ?_
  refine A_getsF ok.b js_fmt dJ0_checkIndex_df160_2 (fun v0 hv => ?_)
  refine A_foreign ok.b (As := [.int j, .int n, v0]) mf_J3_checkIndex_8e157 js_m1059 sc_J3_checkIndex_8e157 (c_prechk l g j n v0 hv h0 h1) rfl rfl dJ0_checkIndex_df160_5 (Nat.le_of_ble_eq_true rfl) ⟨(Nat.le_of_ble_eq_true rfl), (Nat.le_of_ble_eq_true rfl)⟩ ⟨(Nat.le_of_ble_eq_true rfl), (Nat.le_of_ble_eq_true rfl)⟩ ?_
  refine A_pop ok.b dJ0_checkIndex_df160_8 rfl ?_
  exact A_vret ok dJ0_checkIndex_df160_9 (Nat.le_of_ble_eq_true rfl) (Nat.le_of_ble_eq_true rfl) ⟨rfl, rfl⟩
def chS (i k : Nat) : Int32 := (((bytS.getD i []).getD k 0 &&& 255).toUInt32 % 65536).toInt32
theorem chS_nar (i k : Nat) : narrow .char (.int (chS i k)) = .int (chS i k) := pk_nc _
set_option maxHeartbeats 1000000 in
theorem c_lchar (l : Launch) (g : Gl) (i k : Nat) (hi : i < 14) (hk : k < lenS.getD i 0) : Ct l g yJ1_charAt_3b067 cJ1_charAt_3b067 2 (some .char) 2 80 0 0 [.ref (g.2.2.2 i), .int (nI k)] [] (fun v w => v = some (.int (chS i k)) ∧ w = []) noX := by
  have hlen : lenS.getD i 0 < 2 ^ 31 := by
    have h : ∀ j, j < 14 → lenS.getD j 0 < 2 ^ 31 := by decide
    exact h i hi
  refine Ct.intro [some (.ref (g.2.2.2 i)), some (.int (nI k))] (by decide +kernel) (fun _ h => h) (Nat.le_of_ble_eq_true rfl) (fun A H0 K ok => ?_)
  refine A_iload_n ok.b rfl dJ1_charAt_3b067_0 (gps gp0) ?_
  refine A_aload_n ok.b rfl dJ1_charAt_3b067_1 gp0 ?_
  refine A_slen ok.b hi dJ1_charAt_3b067_2 ?_
  refine A_foreign ok.b (As := [.int (nI k), .int (nI (lenS.getD i 0))]) mf_J0_checkIndex_df160 js_m9 sc_J0_checkIndex_df160 (c_chkIndex l g (nI k) (nI (lenS.getD i 0)) (nI_pos (by omega)) (nI_lt hk hlen)) rfl rfl dJ1_charAt_3b067_3 (Nat.le_of_ble_eq_true rfl) ⟨(Nat.le_of_ble_eq_true rfl), (Nat.le_of_ble_eq_true rfl)⟩ ⟨(Nat.le_of_ble_eq_true rfl), (Nat.le_of_ble_eq_true rfl)⟩ ?_
  refine A_aload_n ok.b rfl dJ1_charAt_3b067_6 gp0 ?_
  refine A_iload_n ok.b rfl dJ1_charAt_3b067_7 (gps gp0) ?_
  refine A_sbyt ok.b hi (ix_n hk hlen) dJ1_charAt_3b067_8 ?_
  refine A_sipush ok.b (v := 255) dJ1_charAt_3b067_9 (by decide) ?_
  refine A_iand ok.b dJ1_charAt_3b067_12 ?_
  refine A_i2c ok.b dJ1_charAt_3b067_13 ?_
  exact A_nret ok dJ1_charAt_3b067_14 (chS_nar i k) (Nat.le_of_ble_eq_true rfl) (Nat.le_of_ble_eq_true rfl) ⟨rfl, rfl⟩
set_option maxHeartbeats 1000000 in
theorem c_charAt (l : Launch) (g : Gl) (i k : Nat) (hi : i < 14) (hk : k < lenS.getD i 0) : Ct l g yJ0_charAt_5068e cJ0_charAt_5068e 2 (some .char) 3 120 0 0 [.ref (g.2.2.1 i), .int (nI k)] [] (fun v w => v = some (.int (chS i k)) ∧ w = []) noX := by
  refine Ct.intro [some (.ref (g.2.2.1 i)), some (.int (nI k))] (by decide +kernel) (fun _ h => h) (Nat.le_of_ble_eq_true rfl) (fun A H0 K ok => ?_)
  refine A_aload_n ok.b rfl dJ0_charAt_5068e_0 gp0 ?_
  refine A_str ok.b (As := []) hi rfl mf_J0_isLatin1_aae02 js_m492 in_J0_isLatin1_aae02 se_J0_isLatin1_aae02 (c_isLatin1 l g i hi) rfl rfl dJ0_charAt_5068e_1 (Nat.le_of_ble_eq_true rfl) ⟨(Nat.le_of_ble_eq_true rfl), (Nat.le_of_ble_eq_true rfl)⟩ ⟨(Nat.le_of_ble_eq_true rfl), (Nat.le_of_ble_eq_true rfl)⟩ ?_
  refine A_if_eq ok.b (tgt := 16) dJ0_charAt_5068e_4 (by decide) (fun c => absurd c (by decide)) (fun c => ?_)
  refine A_aload_n ok.b rfl dJ0_charAt_5068e_7 gp0 ?_
  refine A_sval ok.b hi js_value dJ0_charAt_5068e_8 ?_
  refine A_iload_n ok.b rfl dJ0_charAt_5068e_11 (gps gp0) ?_
  refine A_foreign ok.b (As := [.ref (g.2.2.2 i), .int (nI k)]) mf_J1_charAt_3b067 js_m495 sc_J1_charAt_3b067 (c_lchar l g i k hi hk) rfl rfl dJ0_charAt_5068e_12 (Nat.le_of_ble_eq_true rfl) ⟨(Nat.le_of_ble_eq_true rfl), (Nat.le_of_ble_eq_true rfl)⟩ ⟨(Nat.le_of_ble_eq_true rfl), (Nat.le_of_ble_eq_true rfl)⟩ ?_
  exact A_nret ok dJ0_charAt_5068e_15 (chS_nar i k) (Nat.le_of_ble_eq_true rfl) (Nat.le_of_ble_eq_true rfl) ⟨rfl, rfl⟩
/-- the character k of the word i -/
theorem chS_eq : ∀ i, i < 14 → ∀ k, k < lenS.getD i 0 → chS i k = (bytS.getD i []).getD k 0 := by decide +kernel

