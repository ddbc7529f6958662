theorem PE_exp : ∀ (n : Nat) (S : TD × PD), PE S.2 (expR n S).2
  | 0, S => PE.r _
  | n + 1, S => by
    rw [expR]
    split
    · exact PE.r _
    · exact (PE_rate S.1 S.2).t (PE_exp n (tick2 S))
theorem fu_out {g : Gl} {m : Nat → Nat} {S : MS} {th : Int32} {X : TS} {d : Nat → Int32} {w : va_W} (hw : w = fuW g m (S.wth th) X d) : ∃ (S9 : MS) (X9 : TS), (S9.eo = S.eo ∧ S9.bl = S.bl ∧ S9.ud = S.ud) ∧ S9.th = th ∧ w = fuW g m S9 X9 d := ⟨S.wth th, X, ⟨rfl, rfl, rfl⟩, rfl, hw⟩
theorem fb_out {g : Gl} {m : Nat → Nat} {S : MS} {Y : Int32 × Int32 × TS} {X : TS} {d : Nat → Int32} {w : va_W} (hw : w = fuW g m (FBs (S.wth 0) Y) X d) : ∃ (S9 : MS) (X9 : TS), (S9.eo = S.eo ∧ S9.bl = S.bl ∧ S9.ud = S.ud) ∧ w = fuW g m S9 X9 d := ⟨FBs (S.wth 0) Y, X, ⟨rfl, rfl, rfl⟩, hw⟩
theorem fore_le {t0 : Int32} (h : foreX t0 = none) : ∃ t, t ≤ 60 ∧ t0 = nI t := by
  rw [foreX] at h
  by_cases c : t0 < 0 ∨ 60 < t0
  · rw [if_pos c] at h; exact absurd h nofun
  · exact fore_n (fun h9 => c (Or.inl h9)) (fun h9 => c (Or.inr h9))
theorem LInv_keep {eo : Int32} {n : Nat} {B : Nat → Int32} {s : RS} {cnt nx : Nat} {sp : Nat → Nat} {sT : Nat → TD} {T : TD} {b : Nat → Nat} {P P2 : PD} {pr : PL} {S S2 : MS} {E9 d : Nat → Int32} {R : Nat → Nat → Int32} (inv : LInv eo n B s cnt nx sp sT T b P pr S E9 d R) (hp : PE P P2) (hS : S2.eo = S.eo ∧ S2.bl = S.bl ∧ S2.ud = S.ud) : LInv eo n B s cnt nx sp sT T b P2 pr S2 E9 d R := by
  obtain ⟨i1, i2, i3, i4, i5, i6, i7, i8⟩ := inv
  exact ⟨i1.trans hS.1.symm, i2.trans hS.2.1.symm, i3, i4, i5, i6.pe hp, i7.trans hS.2.2.symm, i8.le (PLe.head hp)⟩
set_option maxRecDepth 20000 in
set_option maxHeartbeats 4000000 in
theorem op_append {l : Launch} {g : Gl} {ad : Nat → Nat → Nat} {A : Nat → Prop} {H0 : Heap} {K : KT} {bS L : Nat} {xs : Nat → Int32} {i cn sn : Nat} (ok : OkL l g A H0 K bS L xs) (hl0 : l.stackTraces = false) (hi : i + 6 ≤ L) (hL : L ≤ 3072) (hc : cn + 40 ≤ room_1.cells) (hs : sn + 900 ≤ room_1.slots) (hk : LKont g ad A H0 K bS i (cn + 40) (sn + 900)) {eo : Int32} {p : Nat} {n : Nat} {len : Nat} {B : Nat → Int32} {s : RS} {cnt : Nat} {nx : Nat} {sp : Nat → Nat} {sT : Nat → TD} {T : TD} {b : Nat → Nat} {P : PD} {pr : PL} {p3 : Nat} {T3 : TD} {f : Nat → Int64} {S : MS} {E9 : Nat → Int32} {D9 : Nat → Int32} {d : Nat → Int32} {fu : Nat → Int32} {R : Nat → Nat → Int32} {sk : Nat → Int64} {re : Nat → Int32} {st : Nat → Int32} {dn : Nat → Int32} (inv : LInv eo n B s cnt nx sp sT T b P pr S E9 d R) : AW g A H0 8 K 180 (lvL ad bS i) [] (LWb g ad eo p n len B s cnt nx sp sT T b P pr p3 T3 f S E9 D9 d fu R sk re st dn).flatten cn sn := by
  obtain ⟨nm, okb⟩ := ok.b
  obtain ⟨i1, i2, i3, i4, i5, i6, i7, i8⟩ := id inv
  have hn := i6.1.n
  have hnc := i6.1.nc
  have hbl : S.bl ≤ 800 := by rw [← i2]; exact i3
  refine A_aload_n okb rfl dL_law_180 (gps gp0) ?_
  refine A_arg ok (j := 1) (by decide) (by decide) hi hL gp0 (gps (gps (gps (gps gp0)))) dL_law_181 dL_law_182 dL_law_184 dL_law_185 dL_law_186 ?_
  refine A_arg ok (j := 2) (by decide) (by decide) hi hL gp0 (gps (gps (gps (gps gp0)))) dL_law_187 dL_law_188 dL_law_190 dL_law_191 dL_law_192 ?_
  refine A_arg ok (j := 3) (by decide) (by decide) hi hL gp0 (gps (gps (gps (gps gp0)))) dL_law_193 dL_law_194 dL_law_196 dL_law_197 dL_law_198 ?_
  refine A_arg ok (j := 4) (by decide) (by decide) hi hL gp0 (gps (gps (gps (gps gp0)))) dL_law_199 dL_law_200 dL_law_202 dL_law_203 dL_law_204 ?_
  refine A_arg ok (j := 5) (by decide) (by decide) hi hL gp0 (gps (gps (gps (gps gp0)))) dL_law_205 dL_law_206 dL_law_208 dL_law_209 dL_law_210 ?_
  refine A_cutN (N := 20) rfl [[(ad 7 0, .inr (6, [.ref (ad 0 0), .ref (ad 7 1), .ref (ad 3 0), .ref (ad 4 0), .int eo]))], rdT g (ad 0) (ad 1) (ad 2) p (nI n) len B s] [hsW g (ad 7 1) (ad 7 2) cnt nx (fun j => ad (8 + j) 0), svs g ad sp sT, tunW g (ad 3) (b 0) T, tunW g (ad 4) p3 T3, planW g b P, plsW g pr, ouW g (ad 7 3) f, [moC (ad 5) S], [(ad 5 1, .inl (g.2.1 0, 800, .inl E9))], [(ad 5 2, .inl (g.2.1 0, 1476, .inl d))], [(ad 5 3, .inl (g.2.1 0, 1476, .inl D9))], [(ad 5 4, .inl (g.2.1 0, 1476, .inl fu))], [(ad 5 5, .inl (g.2.1 5, 8, .inr (.inr (.inr (.inr (fun j => some (ad 6 j)))))))], rowsW g (ad 6) R, [(ad 5 6, .inl (g.2.1 1, 1300, .inr (.inl sk)))], [(ad 5 7, .inl (g.2.1 0, 12, .inl re))], [(ad 5 8, .inl (g.2.1 3, 20, .inl st))], [(ad 5 9, .inl (g.2.1 3, 20, .inl dn))]] [0, 1, 2, 3, 4, 5, 6, 7, 8, 9, 10, 11, 12, 13, 14, 15, 16, 17, 18, 19] (wc := ([(ad 7 0, .inr (6, [.ref (ad 0 0), .ref (ad 7 1), .ref (ad 3 0), .ref (ad 4 0), .int eo]))] : va_W) ++ rdT g (ad 0) (ad 1) (ad 2) p (nI n) len B s) (by decide +kernel) rfl rfl ?_
  refine A_preVB okb _ _ (As := [_, _, _, _, _]) mf_X6_append ml_L_80 in_X6_append se_X6_append cf6 (gp_app gp0) (c_append l g (ad 7 0) (ad 7 1) (ad 4 0) eo (ad 0) (ad 1) (ad 2) (ad 3) p n len B s i3 (xs (i + 1)) (xs (i + 2)) (xs (i + 3)) (xs (i + 4)) (xs (i + 5))) rfl rfl dL_law_211 (Nat.le_of_ble_eq_true rfl) ⟨(Nat.le_of_ble_eq_true rfl), (Nat.le_of_ble_eq_true rfl)⟩ ⟨by omega, by omega⟩ (fun _ _ hx => hx.elim) (fun v w hq => ?_)
  obtain ⟨rfl, hw⟩ := hq
  by_cases h780 : 780 < n
  · have h780b : 780 < S.bl := by rw [← i2]; exact h780
    rw [if_pos h780] at hw
    subst hw
    refine A_backN (LWb g ad eo p n len B s cnt nx sp sT T b P pr p3 T3 f S E9 D9 d fu R sk re st dn) (N := 20) rfl [[(ad 7 0, .inr (6, [.ref (ad 0 0), .ref (ad 7 1), .ref (ad 3 0), .ref (ad 4 0), .int eo]))], rdT g (ad 0) (ad 1) (ad 2) p (nI n) len B s] [0, 1, 2, 3, 4, 5, 6, 7, 8, 9, 10, 11, 12, 13, 14, 15, 16, 17, 18, 19] (by decide +kernel) rfl rfl ?_
    refine A_aload_n okb rfl dL_law_214 (gps (gps gp0)) ?_
    refine A_arg ok (j := 1) (by decide) (by decide) hi hL gp0 (gps (gps (gps (gps gp0)))) dL_law_215 dL_law_216 dL_law_218 dL_law_219 dL_law_220 ?_
    refine A_arg ok (j := 2) (by decide) (by decide) hi hL gp0 (gps (gps (gps (gps gp0)))) dL_law_221 dL_law_222 dL_law_224 dL_law_225 dL_law_226 ?_
    refine A_arg ok (j := 3) (by decide) (by decide) hi hL gp0 (gps (gps (gps (gps gp0)))) dL_law_227 dL_law_228 dL_law_230 dL_law_231 dL_law_232 ?_
    refine A_arg ok (j := 4) (by decide) (by decide) hi hL gp0 (gps (gps (gps (gps gp0)))) dL_law_233 dL_law_234 dL_law_236 dL_law_237 dL_law_238 ?_
    refine A_arg ok (j := 5) (by decide) (by decide) hi hL gp0 (gps (gps (gps (gps gp0)))) dL_law_239 dL_law_240 dL_law_242 dL_law_243 dL_law_244 ?_
    refine A_cutN (N := 20) rfl [[moC (ad 5) S], [(ad 5 1, .inl (g.2.1 0, 800, .inl E9))]] [[(ad 7 0, .inr (6, [.ref (ad 0 0), .ref (ad 7 1), .ref (ad 3 0), .ref (ad 4 0), .int eo]))], rdT g (ad 0) (ad 1) (ad 2) p (nI n) len B s, hsW g (ad 7 1) (ad 7 2) cnt nx (fun j => ad (8 + j) 0), svs g ad sp sT, tunW g (ad 3) (b 0) T, tunW g (ad 4) p3 T3, planW g b P, plsW g pr, ouW g (ad 7 3) f, [(ad 5 2, .inl (g.2.1 0, 1476, .inl d))], [(ad 5 3, .inl (g.2.1 0, 1476, .inl D9))], [(ad 5 4, .inl (g.2.1 0, 1476, .inl fu))], [(ad 5 5, .inl (g.2.1 5, 8, .inr (.inr (.inr (.inr (fun j => some (ad 6 j)))))))], rowsW g (ad 6) R, [(ad 5 6, .inl (g.2.1 1, 1300, .inr (.inl sk)))], [(ad 5 7, .inl (g.2.1 0, 12, .inl re))], [(ad 5 8, .inl (g.2.1 3, 20, .inl st))], [(ad 5 9, .inl (g.2.1 3, 20, .inl dn))]] [9, 10, 0, 1, 2, 3, 4, 5, 6, 7, 8, 11, 12, 13, 14, 15, 16, 17, 18, 19] (wc := lxW g (ad 5) S E9) (by decide +kernel) rfl rfl ?_
    refine A_preVB okb _ _ (As := [_, _, _, _, _]) mf_X7_append ml_L_84 in_X7_append se_X7_append cf7 (gp_app gp0) (r_append l g (ad 5) S E9 hbl (xs (i + 1)) (xs (i + 2)) (xs (i + 3)) (xs (i + 4)) (xs (i + 5))) rfl rfl dL_law_245 (Nat.le_of_ble_eq_true rfl) ⟨(Nat.le_of_ble_eq_true rfl), (Nat.le_of_ble_eq_true rfl)⟩ ⟨by omega, by omega⟩ (fun _ _ hx => hx.elim) (fun v w hq => ?_)
    obtain ⟨rfl, hw⟩ := hq
    rw [if_pos h780b] at hw
    subst hw
    refine A_backN (LWb g ad eo p n len B s cnt nx sp sT T b P pr p3 T3 f (S.wth 0) E9 D9 d fu R sk re st dn) (N := 20) rfl [[moC (ad 5) (S.wth 0)], [(ad 5 1, .inl (g.2.1 0, 800, .inl E9))]] [9, 10, 0, 1, 2, 3, 4, 5, 6, 7, 8, 11, 12, 13, 14, 15, 16, 17, 18, 19] (by decide +kernel) rfl rfl ?_
    refine A_icmp_eq okb (tgt := 1552) dL_law_248 (by decide) (fun _ => ?_) (fun c => absurd (by rw [i2]) c)
    refine A_widen okb (cn2 := cn + 40) (sn2 := sn + 900) (by omega) (by omega) ?_
    exact hk eo p n len B s cnt nx sp sT T b P pr p3 T3 f (S.wth 0) E9 D9 d fu R sk re st dn (inv)
  · have h780b : ¬ 780 < S.bl := by rw [← i2]; exact h780
    rw [if_neg h780] at hw
    subst hw
    refine A_backN (LWb g ad eo p (n + 20) len (putAll (xs (i + 1)) (xs (i + 2)) (xs (i + 3)) (xs (i + 4)) (xs (i + 5)) n B) s cnt nx sp sT T b P pr p3 T3 f S E9 D9 d fu R sk re st dn) (N := 20) rfl [[(ad 7 0, .inr (6, [.ref (ad 0 0), .ref (ad 7 1), .ref (ad 3 0), .ref (ad 4 0), .int eo]))], rdT g (ad 0) (ad 1) (ad 2) p (nI (n + 20)) len (putAll (xs (i + 1)) (xs (i + 2)) (xs (i + 3)) (xs (i + 4)) (xs (i + 5)) n B) s] [0, 1, 2, 3, 4, 5, 6, 7, 8, 9, 10, 11, 12, 13, 14, 15, 16, 17, 18, 19] (by decide +kernel) rfl rfl ?_
    refine A_aload_n okb rfl dL_law_214 (gps (gps gp0)) ?_
    refine A_arg ok (j := 1) (by decide) (by decide) hi hL gp0 (gps (gps (gps (gps gp0)))) dL_law_215 dL_law_216 dL_law_218 dL_law_219 dL_law_220 ?_
    refine A_arg ok (j := 2) (by decide) (by decide) hi hL gp0 (gps (gps (gps (gps gp0)))) dL_law_221 dL_law_222 dL_law_224 dL_law_225 dL_law_226 ?_
    refine A_arg ok (j := 3) (by decide) (by decide) hi hL gp0 (gps (gps (gps (gps gp0)))) dL_law_227 dL_law_228 dL_law_230 dL_law_231 dL_law_232 ?_
    refine A_arg ok (j := 4) (by decide) (by decide) hi hL gp0 (gps (gps (gps (gps gp0)))) dL_law_233 dL_law_234 dL_law_236 dL_law_237 dL_law_238 ?_
    refine A_arg ok (j := 5) (by decide) (by decide) hi hL gp0 (gps (gps (gps (gps gp0)))) dL_law_239 dL_law_240 dL_law_242 dL_law_243 dL_law_244 ?_
    refine A_cutN (N := 20) rfl [[moC (ad 5) S], [(ad 5 1, .inl (g.2.1 0, 800, .inl E9))]] [[(ad 7 0, .inr (6, [.ref (ad 0 0), .ref (ad 7 1), .ref (ad 3 0), .ref (ad 4 0), .int eo]))], rdT g (ad 0) (ad 1) (ad 2) p (nI (n + 20)) len (putAll (xs (i + 1)) (xs (i + 2)) (xs (i + 3)) (xs (i + 4)) (xs (i + 5)) n B) s, hsW g (ad 7 1) (ad 7 2) cnt nx (fun j => ad (8 + j) 0), svs g ad sp sT, tunW g (ad 3) (b 0) T, tunW g (ad 4) p3 T3, planW g b P, plsW g pr, ouW g (ad 7 3) f, [(ad 5 2, .inl (g.2.1 0, 1476, .inl d))], [(ad 5 3, .inl (g.2.1 0, 1476, .inl D9))], [(ad 5 4, .inl (g.2.1 0, 1476, .inl fu))], [(ad 5 5, .inl (g.2.1 5, 8, .inr (.inr (.inr (.inr (fun j => some (ad 6 j)))))))], rowsW g (ad 6) R, [(ad 5 6, .inl (g.2.1 1, 1300, .inr (.inl sk)))], [(ad 5 7, .inl (g.2.1 0, 12, .inl re))], [(ad 5 8, .inl (g.2.1 3, 20, .inl st))], [(ad 5 9, .inl (g.2.1 3, 20, .inl dn))]] [9, 10, 0, 1, 2, 3, 4, 5, 6, 7, 8, 11, 12, 13, 14, 15, 16, 17, 18, 19] (wc := lxW g (ad 5) S E9) (by decide +kernel) rfl rfl ?_
    refine A_preVB okb _ _ (As := [_, _, _, _, _]) mf_X7_append ml_L_84 in_X7_append se_X7_append cf7 (gp_app gp0) (r_append l g (ad 5) S E9 hbl (xs (i + 1)) (xs (i + 2)) (xs (i + 3)) (xs (i + 4)) (xs (i + 5))) rfl rfl dL_law_245 (Nat.le_of_ble_eq_true rfl) ⟨(Nat.le_of_ble_eq_true rfl), (Nat.le_of_ble_eq_true rfl)⟩ ⟨by omega, by omega⟩ (fun _ _ hx => hx.elim) (fun v w hq => ?_)
    obtain ⟨rfl, hw⟩ := hq
    rw [if_neg h780b] at hw
    subst hw
    refine A_backN (LWb g ad eo p (n + 20) len (putAll (xs (i + 1)) (xs (i + 2)) (xs (i + 3)) (xs (i + 4)) (xs (i + 5)) n B) s cnt nx sp sT T b P pr p3 T3 f ((S.wth 0).wbl (S.bl + 20)) (apB (xs (i + 1)) (xs (i + 2)) (xs (i + 3)) (xs (i + 4)) (xs (i + 5)) S.bl E9 20) D9 d fu R sk re st dn) (N := 20) rfl [[moC (ad 5) ((S.wth 0).wbl (S.bl + 20))], [(ad 5 1, .inl (g.2.1 0, 800, .inl (apB (xs (i + 1)) (xs (i + 2)) (xs (i + 3)) (xs (i + 4)) (xs (i + 5)) S.bl E9 20)))]] [9, 10, 0, 1, 2, 3, 4, 5, 6, 7, 8, 11, 12, 13, 14, 15, 16, 17, 18, 19] (by decide +kernel) rfl rfl ?_
    refine A_icmp_eq okb (tgt := 1552) dL_law_248 (by decide) (fun _ => ?_) (fun c => absurd (by rw [i2]) c)
    refine A_widen okb (cn2 := cn + 40) (sn2 := sn + 900) (by omega) (by omega) ?_
    exact hk eo p (n + 20) len (putAll (xs (i + 1)) (xs (i + 2)) (xs (i + 3)) (xs (i + 4)) (xs (i + 5)) n B) s cnt nx sp sT T b P pr p3 T3 f ((S.wth 0).wbl (S.bl + 20)) (apB (xs (i + 1)) (xs (i + 2)) (xs (i + 3)) (xs (i + 4)) (xs (i + 5)) S.bl E9 20) D9 d fu R sk re st dn (⟨i1, by show n + 20 = S.bl + 20; rw [i2], by omega, i4, by rw [i2]; exact BRel_append i5 (xs (i + 1)) (xs (i + 2)) (xs (i + 3)) (xs (i + 4)) (xs (i + 5)) S.bl, i6, i7, i8⟩)
set_option maxRecDepth 20000 in
set_option maxHeartbeats 4000000 in
theorem op_clearingTime {l : Launch} {g : Gl} {ad : Nat → Nat → Nat} {A : Nat → Prop} {H0 : Heap} {K : KT} {bS L : Nat} {xs : Nat → Int32} {i cn sn : Nat} (ok : OkL l g A H0 K bS L xs) (hl0 : l.stackTraces = false) (hi : i + 6 ≤ L) (hL : L ≤ 3072) (hc : cn + 40 ≤ room_1.cells) (hs : sn + 900 ≤ room_1.slots) (hk : LKont g ad A H0 K bS i (cn + 40) (sn + 900)) {eo : Int32} {p : Nat} {n : Nat} {len : Nat} {B : Nat → Int32} {s : RS} {cnt : Nat} {nx : Nat} {sp : Nat → Nat} {sT : Nat → TD} {T : TD} {b : Nat → Nat} {P : PD} {pr : PL} {p3 : Nat} {T3 : TD} {f : Nat → Int64} {S : MS} {E9 : Nat → Int32} {D9 : Nat → Int32} {d : Nat → Int32} {fu : Nat → Int32} {R : Nat → Nat → Int32} {sk : Nat → Int64} {re : Nat → Int32} {st : Nat → Int32} {dn : Nat → Int32} (inv : LInv eo n B s cnt nx sp sT T b P pr S E9 d R) : AW g A H0 8 K 946 (lvL ad bS i) [] (LWb g ad eo p n len B s cnt nx sp sT T b P pr p3 T3 f S E9 D9 d fu R sk re st dn).flatten cn sn := by
  obtain ⟨nm, okb⟩ := ok.b
  obtain ⟨i1, i2, i3, i4, i5, i6, i7, i8⟩ := id inv
  have hn := i6.1.n
  have hnc := i6.1.nc
  have an := an_clearingTime i6.1 ((re, st, dn, sk, fu) : TS) (xs (i + 1))
  refine A_aload_n okb rfl dL_law_946 (gps gp0) ?_
  refine A_arg ok (j := 1) (by decide) (by decide) hi hL gp0 (gps (gps (gps (gps gp0)))) dL_law_947 dL_law_948 dL_law_950 dL_law_951 dL_law_952 ?_
  refine A_aload_n okb rfl dL_law_953 (gps (gps (gps gp0))) ?_
  refine A_cutN (N := 20) rfl [[(ad 7 0, .inr (6, [.ref (ad 0 0), .ref (ad 7 1), .ref (ad 3 0), .ref (ad 4 0), .int eo]))], tunW g (ad 3) (b 0) T, planW g b P, tunW g (ad 4) p3 T3, ouW g (ad 7 3) f] [rdT g (ad 0) (ad 1) (ad 2) p (nI n) len B s, hsW g (ad 7 1) (ad 7 2) cnt nx (fun j => ad (8 + j) 0), svs g ad sp sT, plsW g pr, [moC (ad 5) S], [(ad 5 1, .inl (g.2.1 0, 800, .inl E9))], [(ad 5 2, .inl (g.2.1 0, 1476, .inl d))], [(ad 5 3, .inl (g.2.1 0, 1476, .inl D9))], [(ad 5 4, .inl (g.2.1 0, 1476, .inl fu))], [(ad 5 5, .inl (g.2.1 5, 8, .inr (.inr (.inr (.inr (fun j => some (ad 6 j)))))))], rowsW g (ad 6) R, [(ad 5 6, .inl (g.2.1 1, 1300, .inr (.inl sk)))], [(ad 5 7, .inl (g.2.1 0, 12, .inl re))], [(ad 5 8, .inl (g.2.1 3, 20, .inl st))], [(ad 5 9, .inl (g.2.1 3, 20, .inl dn))]] [0, 4, 6, 5, 8, 1, 2, 3, 7, 9, 10, 11, 12, 13, 14, 15, 16, 17, 18, 19] (wc := (dkW g (ad 7 0) (ad 0 0) (ad 7 1) (ad 4 0) eo (ad 3) b T P ++ tunW g (ad 4) p3 T3) ++ ouW g (ad 7 3) f) (by decide +kernel) rfl rfl ?_
  refine A_preSH okb _ _ (As := [_, _, _]) mf_L_clearingTime ml_L_155 sc_L_clearingTime (h_clearingTime l g (ad 7 0) (ad 7 3) f (xs (i + 1)) (ws := dkW g (ad 7 0) (ad 0 0) (ad 7 1) (ad 4 0) eo (ad 3) b T P ++ tunW g (ad 4) p3 T3) gp0 (c_clearingTime l g (ad 7 0) (ad 0 0) (ad 7 1) eo (ad 3) b T P hn hnc hl0 (ad 4) p3 T3 i6.1.red i6.1.cok (xs (i + 1))) (fun v w h => ⟨_, h.2.1⟩) (fun E w h => mem1 (an.2 E h.1).1)) rfl rfl dL_law_954 (Nat.le_of_ble_eq_true rfl) ⟨(Nat.le_of_ble_eq_true rfl), (Nat.le_of_ble_eq_true rfl)⟩ ⟨by omega, by omega⟩ (fun v w hq => ?_)
  rcases hq with ⟨y, w1, hq, rfl, rfl⟩ | ⟨E, w1, hx, rfl, rfl⟩
  · obtain ⟨o1, hy, T4, rfl⟩ := hq
    cases hy
    have ha := an.1 o1
    have hpe : PE P P := PE.r P
    generalize hf : vp_updL f 0 _ = f1
    refine A_backN (LWb g ad eo p n len B s cnt nx sp sT T b P pr (b 0) T4 f1 S E9 D9 d fu R sk re st dn) (N := 20) rfl [ouW g (ad 7 3) f1, [(ad 7 0, .inr (6, [.ref (ad 0 0), .ref (ad 7 1), .ref (ad 3 0), .ref (ad 4 0), .int eo]))], tunW g (ad 3) (b 0) T, planW g b P, tunW g (ad 4) (b 0) T4] [8, 0, 4, 6, 5, 1, 2, 3, 7, 9, 10, 11, 12, 13, 14, 15, 16, 17, 18, 19] (by decide +kernel) rfl rfl ?_
    refine A_istore okb dL_law_957 (by decide) (sts (sts (sts (sts (sts1 rfl st0))))) ?_
    refine A_aload_n okb rfl dL_law_959 (gps (gps gp0)) ?_
    refine A_arg ok (j := 1) (by decide) (by decide) hi hL gp0 (gps (gps (gps (gps gp0)))) dL_law_960 dL_law_961 dL_law_963 dL_law_964 dL_law_965 ?_
    refine A_cutN (N := 20) rfl [[moC (ad 5) S], [(ad 5 7, .inl (g.2.1 0, 12, .inl re))], [(ad 5 8, .inl (g.2.1 3, 20, .inl st))], [(ad 5 9, .inl (g.2.1 3, 20, .inl dn))], [(ad 5 6, .inl (g.2.1 1, 1300, .inr (.inl sk)))], [(ad 5 4, .inl (g.2.1 0, 1476, .inl fu))], [(ad 5 2, .inl (g.2.1 0, 1476, .inl d))]] [[(ad 7 0, .inr (6, [.ref (ad 0 0), .ref (ad 7 1), .ref (ad 3 0), .ref (ad 4 0), .int eo]))], rdT g (ad 0) (ad 1) (ad 2) p (nI n) len B s, hsW g (ad 7 1) (ad 7 2) cnt nx (fun j => ad (8 + j) 0), svs g ad sp sT, tunW g (ad 3) (b 0) T, tunW g (ad 4) (b 0) T4, planW g b P, plsW g pr, ouW g (ad 7 3) f1, [(ad 5 1, .inl (g.2.1 0, 800, .inl E9))], [(ad 5 3, .inl (g.2.1 0, 1476, .inl D9))], [(ad 5 5, .inl (g.2.1 5, 8, .inr (.inr (.inr (.inr (fun j => some (ad 6 j)))))))], rowsW g (ad 6) R] [9, 17, 18, 19, 16, 13, 11, 0, 1, 2, 3, 4, 5, 6, 7, 8, 10, 12, 14, 15] (wc := fuW g (ad 5) S (re, st, dn, sk, fu) d) (by decide +kernel) rfl rfl ?_
    refine A_preVB okb _ _ (As := [_]) mf_X7_clearingTime ml_L_157 in_X7_clearingTime se_X7_clearingTime cf7 (gp_app gp0) (r_clearingTime l g (ad 5) S ((re, st, dn, sk, fu) : TS) d (pN P) (pCar P) hn hnc (pCodes P) (pNc P) i6.1.tk (xs (i + 1))) rfl rfl dL_law_966 (Nat.le_of_ble_eq_true rfl) ⟨(Nat.le_of_ble_eq_true rfl), (Nat.le_of_ble_eq_true rfl)⟩ ⟨by omega, by omega⟩ (fun _ _ hx => hx.elim) (fun v w hq => ?_)
    obtain ⟨rfl, hw⟩ := hq
    obtain ⟨S9, X9, hS9, hth, hw9⟩ := fu_out hw
    subst hw9
    refine A_backN (LWb g ad eo p n len B s cnt nx sp sT T b P pr (b 0) T4 f1 S9 E9 D9 d (X9.d) R (X9.sk) (X9.re) (X9.st) (X9.dr)) (N := 20) rfl [[moC (ad 5) S9], [(ad 5 7, .inl (g.2.1 0, 12, .inl (X9.re)))], [(ad 5 8, .inl (g.2.1 3, 20, .inl (X9.st)))], [(ad 5 9, .inl (g.2.1 3, 20, .inl (X9.dr)))], [(ad 5 6, .inl (g.2.1 1, 1300, .inr (.inl (X9.sk))))], [(ad 5 4, .inl (g.2.1 0, 1476, .inl (X9.d)))], [(ad 5 2, .inl (g.2.1 0, 1476, .inl d))]] [9, 17, 18, 19, 16, 13, 11, 0, 1, 2, 3, 4, 5, 6, 7, 8, 10, 12, 14, 15] (by decide +kernel) rfl rfl ?_
    refine A_istore okb dL_law_969 (by decide) (sts (sts (sts (sts (sts (sts1 rfl st0)))))) ?_
    refine A_aload_n okb rfl dL_law_971 (gps (gps gp0)) ?_
    refine A_cutN (N := 20) rfl [[moC (ad 5) S9]] [[(ad 7 0, .inr (6, [.ref (ad 0 0), .ref (ad 7 1), .ref (ad 3 0), .ref (ad 4 0), .int eo]))], rdT g (ad 0) (ad 1) (ad 2) p (nI n) len B s, hsW g (ad 7 1) (ad 7 2) cnt nx (fun j => ad (8 + j) 0), svs g ad sp sT, tunW g (ad 3) (b 0) T, tunW g (ad 4) (b 0) T4, planW g b P, plsW g pr, ouW g (ad 7 3) f1, [(ad 5 1, .inl (g.2.1 0, 800, .inl E9))], [(ad 5 2, .inl (g.2.1 0, 1476, .inl d))], [(ad 5 3, .inl (g.2.1 0, 1476, .inl D9))], [(ad 5 4, .inl (g.2.1 0, 1476, .inl (X9.d)))], [(ad 5 5, .inl (g.2.1 5, 8, .inr (.inr (.inr (.inr (fun j => some (ad 6 j)))))))], rowsW g (ad 6) R, [(ad 5 6, .inl (g.2.1 1, 1300, .inr (.inl (X9.sk))))], [(ad 5 7, .inl (g.2.1 0, 12, .inl (X9.re)))], [(ad 5 8, .inl (g.2.1 3, 20, .inl (X9.st)))], [(ad 5 9, .inl (g.2.1 3, 20, .inl (X9.dr)))]] [9, 0, 1, 2, 3, 4, 5, 6, 7, 8, 10, 11, 12, 13, 14, 15, 16, 17, 18, 19] (wc := [moC (ad 5) (S9)]) (by decide +kernel) rfl rfl ?_
    refine A_preVB okb _ _ (As := []) mf_X7_thrown ml_L_91 in_X7_thrown se_X7_thrown cf7 (gp_app gp0) (r_thrown l g (ad 5) (S9)) rfl rfl dL_law_972 (Nat.le_of_ble_eq_true rfl) ⟨(Nat.le_of_ble_eq_true rfl), (Nat.le_of_ble_eq_true rfl)⟩ ⟨by omega, by omega⟩ (fun _ _ hx => hx.elim) (fun v w hq => ?_)
    obtain ⟨rfl, rfl⟩ := hq
    refine A_backN (LWb g ad eo p n len B s cnt nx sp sT T b P pr (b 0) T4 f1 S9 E9 D9 d (X9.d) R (X9.sk) (X9.re) (X9.st) (X9.dr)) (N := 20) rfl [[moC (ad 5) S9]] [9, 0, 1, 2, 3, 4, 5, 6, 7, 8, 10, 11, 12, 13, 14, 15, 16, 17, 18, 19] (by decide +kernel) rfl rfl ?_
    refine A_iload okb dL_law_975 (gps (gps (gps (gps (gps gp0))))) ?_
    refine A_icmp_eq okb (tgt := 982) dL_law_977 (by decide) (fun _ => ?_) (fun c => absurd (hth.trans ha.1) c)
    refine A_iload okb dL_law_982 (gps (gps (gps (gps (gps gp0))))) ?_
    refine A_if_ne okb (tgt := 999) dL_law_984 (by decide) (fun c => absurd rfl c) (fun _ => ?_)
    refine A_aload_n okb rfl dL_law_987 (gps (gps (gps gp0))) ?_
    refine A_iconst okb (v := 0) dL_law_988 (by decide) ?_
    refine A_cutN (N := 20) rfl [ouW g (ad 7 3) f1] [[(ad 7 0, .inr (6, [.ref (ad 0 0), .ref (ad 7 1), .ref (ad 3 0), .ref (ad 4 0), .int eo]))], rdT g (ad 0) (ad 1) (ad 2) p (nI n) len B s, hsW g (ad 7 1) (ad 7 2) cnt nx (fun j => ad (8 + j) 0), svs g ad sp sT, tunW g (ad 3) (b 0) T, tunW g (ad 4) (b 0) T4, planW g b P, plsW g pr, [moC (ad 5) S9], [(ad 5 1, .inl (g.2.1 0, 800, .inl E9))], [(ad 5 2, .inl (g.2.1 0, 1476, .inl d))], [(ad 5 3, .inl (g.2.1 0, 1476, .inl D9))], [(ad 5 4, .inl (g.2.1 0, 1476, .inl (X9.d)))], [(ad 5 5, .inl (g.2.1 5, 8, .inr (.inr (.inr (.inr (fun j => some (ad 6 j)))))))], rowsW g (ad 6) R, [(ad 5 6, .inl (g.2.1 1, 1300, .inr (.inl (X9.sk))))], [(ad 5 7, .inl (g.2.1 0, 12, .inl (X9.re)))], [(ad 5 8, .inl (g.2.1 3, 20, .inl (X9.st)))], [(ad 5 9, .inl (g.2.1 3, 20, .inl (X9.dr)))]] [8, 0, 1, 2, 3, 4, 5, 6, 7, 9, 10, 11, 12, 13, 14, 15, 16, 17, 18, 19] (wc := ouW g (ad 7 3) (f1)) (by decide +kernel) rfl rfl ?_
    refine A_lald okb (gp_app gp0) ix0 dL_law_989 ?_
    refine A_back2 (LWb g ad eo p n len B s cnt nx sp sT T b P pr (b 0) T4 f1 S9 E9 D9 d (X9.d) R (X9.sk) (X9.re) (X9.st) (X9.dr)) (N := 20) rfl [ouW g (ad 7 3) f1] [8, 0, 1, 2, 3, 4, 5, 6, 7, 9, 10, 11, 12, 13, 14, 15, 16, 17, 18, 19] (by decide +kernel) rfl rfl ?_
    refine A_iload okb dL_law_990 (gps (gps (gps (gps (gps (gps gp0)))))) ?_
    refine A_i2l okb dL_law_992 ?_
    refine A_lcmp okb dL_law_993 ?_
    refine A_if_eq okb (tgt := 999) dL_law_994 (by decide) (fun _ => ?_) (fun c => absurd (lg_cmp_0.mpr (by rw [← hf, pk_uLs]; exact congrArg Int32.toInt64 ha.2)) c)
    refine A_goto okb (tgt := 1552) dL_law_999 (by decide) ?_
    refine A_lv (lv2 := lvL ad bS i) lv58 ?_
    refine A_widen okb (cn2 := cn + 40) (sn2 := sn + 900) (by omega) (by omega) ?_
    exact hk eo p n len B s cnt nx sp sT T b P pr (b 0) T4 f1 S9 E9 D9 d (X9.d) R (X9.sk) (X9.re) (X9.st) (X9.dr) (LInv_keep inv hpe hS9)
  · obtain ⟨ho, hp⟩ := hx
    have ht := an.2 E ho
    refine A_perm (List.Perm.append_left _ (List.Perm.append_left _ hp)) ?_
    refine A_backN (LWb g ad eo p n len B s cnt nx sp sT T b P pr p3 T3 f S E9 D9 d fu R sk re st dn) (N := 20) rfl [ouW g (ad 7 3) f, [(ad 7 0, .inr (6, [.ref (ad 0 0), .ref (ad 7 1), .ref (ad 3 0), .ref (ad 4 0), .int eo]))], tunW g (ad 3) (b 0) T, planW g b P, tunW g (ad 4) p3 T3] [8, 0, 4, 6, 5, 1, 2, 3, 7, 9, 10, 11, 12, 13, 14, 15, 16, 17, 18, 19] (by decide +kernel) rfl rfl ?_
    refine A_istore okb dL_law_957 (by decide) (sts (sts (sts (sts (sts1 rfl st0))))) ?_
    refine A_aload_n okb rfl dL_law_959 (gps (gps gp0)) ?_
    refine A_arg ok (j := 1) (by decide) (by decide) hi hL gp0 (gps (gps (gps (gps gp0)))) dL_law_960 dL_law_961 dL_law_963 dL_law_964 dL_law_965 ?_
    refine A_cutN (N := 20) rfl [[moC (ad 5) S], [(ad 5 7, .inl (g.2.1 0, 12, .inl re))], [(ad 5 8, .inl (g.2.1 3, 20, .inl st))], [(ad 5 9, .inl (g.2.1 3, 20, .inl dn))], [(ad 5 6, .inl (g.2.1 1, 1300, .inr (.inl sk)))], [(ad 5 4, .inl (g.2.1 0, 1476, .inl fu))], [(ad 5 2, .inl (g.2.1 0, 1476, .inl d))]] [[(ad 7 0, .inr (6, [.ref (ad 0 0), .ref (ad 7 1), .ref (ad 3 0), .ref (ad 4 0), .int eo]))], rdT g (ad 0) (ad 1) (ad 2) p (nI n) len B s, hsW g (ad 7 1) (ad 7 2) cnt nx (fun j => ad (8 + j) 0), svs g ad sp sT, tunW g (ad 3) (b 0) T, tunW g (ad 4) p3 T3, planW g b P, plsW g pr, ouW g (ad 7 3) f, [(ad 5 1, .inl (g.2.1 0, 800, .inl E9))], [(ad 5 3, .inl (g.2.1 0, 1476, .inl D9))], [(ad 5 5, .inl (g.2.1 5, 8, .inr (.inr (.inr (.inr (fun j => some (ad 6 j)))))))], rowsW g (ad 6) R] [9, 17, 18, 19, 16, 13, 11, 0, 1, 2, 3, 4, 5, 6, 7, 8, 10, 12, 14, 15] (wc := fuW g (ad 5) S (re, st, dn, sk, fu) d) (by decide +kernel) rfl rfl ?_
    refine A_preVB okb _ _ (As := [_]) mf_X7_clearingTime ml_L_157 in_X7_clearingTime se_X7_clearingTime cf7 (gp_app gp0) (r_clearingTime l g (ad 5) S ((re, st, dn, sk, fu) : TS) d (pN P) (pCar P) hn hnc (pCodes P) (pNc P) i6.1.tk (xs (i + 1))) rfl rfl dL_law_966 (Nat.le_of_ble_eq_true rfl) ⟨(Nat.le_of_ble_eq_true rfl), (Nat.le_of_ble_eq_true rfl)⟩ ⟨by omega, by omega⟩ (fun _ _ hx => hx.elim) (fun v w hq => ?_)
    obtain ⟨rfl, hw⟩ := hq
    obtain ⟨S9, X9, hS9, hth, hw9⟩ := fu_out hw
    subst hw9
    refine A_backN (LWb g ad eo p n len B s cnt nx sp sT T b P pr p3 T3 f S9 E9 D9 d (X9.d) R (X9.sk) (X9.re) (X9.st) (X9.dr)) (N := 20) rfl [[moC (ad 5) S9], [(ad 5 7, .inl (g.2.1 0, 12, .inl (X9.re)))], [(ad 5 8, .inl (g.2.1 3, 20, .inl (X9.st)))], [(ad 5 9, .inl (g.2.1 3, 20, .inl (X9.dr)))], [(ad 5 6, .inl (g.2.1 1, 1300, .inr (.inl (X9.sk))))], [(ad 5 4, .inl (g.2.1 0, 1476, .inl (X9.d)))], [(ad 5 2, .inl (g.2.1 0, 1476, .inl d))]] [9, 17, 18, 19, 16, 13, 11, 0, 1, 2, 3, 4, 5, 6, 7, 8, 10, 12, 14, 15] (by decide +kernel) rfl rfl ?_
    refine A_istore okb dL_law_969 (by decide) (sts (sts (sts (sts (sts (sts1 rfl st0)))))) ?_
    refine A_aload_n okb rfl dL_law_971 (gps (gps gp0)) ?_
    refine A_cutN (N := 20) rfl [[moC (ad 5) S9]] [[(ad 7 0, .inr (6, [.ref (ad 0 0), .ref (ad 7 1), .ref (ad 3 0), .ref (ad 4 0), .int eo]))], rdT g (ad 0) (ad 1) (ad 2) p (nI n) len B s, hsW g (ad 7 1) (ad 7 2) cnt nx (fun j => ad (8 + j) 0), svs g ad sp sT, tunW g (ad 3) (b 0) T, tunW g (ad 4) p3 T3, planW g b P, plsW g pr, ouW g (ad 7 3) f, [(ad 5 1, .inl (g.2.1 0, 800, .inl E9))], [(ad 5 2, .inl (g.2.1 0, 1476, .inl d))], [(ad 5 3, .inl (g.2.1 0, 1476, .inl D9))], [(ad 5 4, .inl (g.2.1 0, 1476, .inl (X9.d)))], [(ad 5 5, .inl (g.2.1 5, 8, .inr (.inr (.inr (.inr (fun j => some (ad 6 j)))))))], rowsW g (ad 6) R, [(ad 5 6, .inl (g.2.1 1, 1300, .inr (.inl (X9.sk))))], [(ad 5 7, .inl (g.2.1 0, 12, .inl (X9.re)))], [(ad 5 8, .inl (g.2.1 3, 20, .inl (X9.st)))], [(ad 5 9, .inl (g.2.1 3, 20, .inl (X9.dr)))]] [9, 0, 1, 2, 3, 4, 5, 6, 7, 8, 10, 11, 12, 13, 14, 15, 16, 17, 18, 19] (wc := [moC (ad 5) (S9)]) (by decide +kernel) rfl rfl ?_
    refine A_preVB okb _ _ (As := []) mf_X7_thrown ml_L_91 in_X7_thrown se_X7_thrown cf7 (gp_app gp0) (r_thrown l g (ad 5) (S9)) rfl rfl dL_law_972 (Nat.le_of_ble_eq_true rfl) ⟨(Nat.le_of_ble_eq_true rfl), (Nat.le_of_ble_eq_true rfl)⟩ ⟨by omega, by omega⟩ (fun _ _ hx => hx.elim) (fun v w hq => ?_)
    obtain ⟨rfl, rfl⟩ := hq
    refine A_backN (LWb g ad eo p n len B s cnt nx sp sT T b P pr p3 T3 f S9 E9 D9 d (X9.d) R (X9.sk) (X9.re) (X9.st) (X9.dr)) (N := 20) rfl [[moC (ad 5) S9]] [9, 0, 1, 2, 3, 4, 5, 6, 7, 8, 10, 11, 12, 13, 14, 15, 16, 17, 18, 19] (by decide +kernel) rfl rfl ?_
    refine A_iload okb dL_law_975 (gps (gps (gps (gps (gps gp0))))) ?_
    refine A_icmp_eq okb (tgt := 982) dL_law_977 (by decide) (fun _ => ?_) (fun c => absurd (hth.trans ht.2.1) c)
    refine A_iload okb dL_law_982 (gps (gps (gps (gps (gps gp0))))) ?_
    refine A_if_ne okb (tgt := 999) dL_law_984 (by decide) (fun _ => ?_) (fun c => absurd c ht.2.2)
    refine A_goto okb (tgt := 1552) dL_law_999 (by decide) ?_
    refine A_lv (lv2 := lvL ad bS i) lv58 ?_
    refine A_widen okb (cn2 := cn + 40) (sn2 := sn + 900) (by omega) (by omega) ?_
    exact hk eo p n len B s cnt nx sp sT T b P pr p3 T3 f S9 E9 D9 d (X9.d) R (X9.sk) (X9.re) (X9.st) (X9.dr) (LInv_keep inv (PE.r P) hS9)
set_option maxRecDepth 20000 in
set_option maxHeartbeats 4000000 in
theorem op_exposureWith {l : Launch} {g : Gl} {ad : Nat → Nat → Nat} {A : Nat → Prop} {H0 : Heap} {K : KT} {bS L : Nat} {xs : Nat → Int32} {i cn sn : Nat} (ok : OkL l g A H0 K bS L xs) (hl0 : l.stackTraces = false) (hi : i + 6 ≤ L) (hL : L ≤ 3072) (hc : cn + 40 ≤ room_1.cells) (hs : sn + 900 ≤ room_1.slots) (hk : LKont g ad A H0 K bS i (cn + 40) (sn + 900)) {eo : Int32} {p : Nat} {n : Nat} {len : Nat} {B : Nat → Int32} {s : RS} {cnt : Nat} {nx : Nat} {sp : Nat → Nat} {sT : Nat → TD} {T : TD} {b : Nat → Nat} {P : PD} {pr : PL} {p3 : Nat} {T3 : TD} {f : Nat → Int64} {S : MS} {E9 : Nat → Int32} {D9 : Nat → Int32} {d : Nat → Int32} {fu : Nat → Int32} {R : Nat → Nat → Int32} {sk : Nat → Int64} {re : Nat → Int32} {st : Nat → Int32} {dn : Nat → Int32} (inv : LInv eo n B s cnt nx sp sT T b P pr S E9 d R) : AW g A H0 8 K 1028 (lvL ad bS i) [] (LWb g ad eo p n len B s cnt nx sp sT T b P pr p3 T3 f S E9 D9 d fu R sk re st dn).flatten cn sn := by
  obtain ⟨nm, okb⟩ := ok.b
  obtain ⟨i1, i2, i3, i4, i5, i6, i7, i8⟩ := id inv
  have hn := i6.1.n
  have hnc := i6.1.nc
  have an := an_exposureWith i6.1 i6.2 ((re, st, dn, sk, fu) : TS) (xs (i + 1)) (xs (i + 2))
  refine A_aload_n okb rfl dL_law_1028 (gps gp0) ?_
  refine A_arg ok (j := 1) (by decide) (by decide) hi hL gp0 (gps (gps (gps (gps gp0)))) dL_law_1029 dL_law_1030 dL_law_1032 dL_law_1033 dL_law_1034 ?_
  refine A_arg ok (j := 2) (by decide) (by decide) hi hL gp0 (gps (gps (gps (gps gp0)))) dL_law_1035 dL_law_1036 dL_law_1038 dL_law_1039 dL_law_1040 ?_
  refine A_aload_n okb rfl dL_law_1041 (gps (gps (gps gp0))) ?_
  refine A_cutN (N := 20) rfl [[(ad 7 0, .inr (6, [.ref (ad 0 0), .ref (ad 7 1), .ref (ad 3 0), .ref (ad 4 0), .int eo]))], tunW g (ad 3) (b 0) T, planW g b P, tunW g (ad 4) p3 T3, ouW g (ad 7 3) f] [rdT g (ad 0) (ad 1) (ad 2) p (nI n) len B s, hsW g (ad 7 1) (ad 7 2) cnt nx (fun j => ad (8 + j) 0), svs g ad sp sT, plsW g pr, [moC (ad 5) S], [(ad 5 1, .inl (g.2.1 0, 800, .inl E9))], [(ad 5 2, .inl (g.2.1 0, 1476, .inl d))], [(ad 5 3, .inl (g.2.1 0, 1476, .inl D9))], [(ad 5 4, .inl (g.2.1 0, 1476, .inl fu))], [(ad 5 5, .inl (g.2.1 5, 8, .inr (.inr (.inr (.inr (fun j => some (ad 6 j)))))))], rowsW g (ad 6) R, [(ad 5 6, .inl (g.2.1 1, 1300, .inr (.inl sk)))], [(ad 5 7, .inl (g.2.1 0, 12, .inl re))], [(ad 5 8, .inl (g.2.1 3, 20, .inl st))], [(ad 5 9, .inl (g.2.1 3, 20, .inl dn))]] [0, 4, 6, 5, 8, 1, 2, 3, 7, 9, 10, 11, 12, 13, 14, 15, 16, 17, 18, 19] (wc := (dkW g (ad 7 0) (ad 0 0) (ad 7 1) (ad 4 0) eo (ad 3) b T P ++ tunW g (ad 4) p3 T3) ++ ouW g (ad 7 3) f) (by decide +kernel) rfl rfl ?_
  refine A_preSH okb _ _ (As := [_, _, _, _]) mf_L_exposureWith ml_L_166 sc_L_exposureWith (h_exposureWith l g (ad 7 0) (ad 7 3) f (xs (i + 1)) (xs (i + 2)) (ws := dkW g (ad 7 0) (ad 0 0) (ad 7 1) (ad 4 0) eo (ad 3) b T P ++ tunW g (ad 4) p3 T3) gp0 (c_exposureWith l g (ad 7 0) (ad 0 0) (ad 7 1) eo (ad 3) b T P hn hnc hl0 (ad 4) p3 T3 i6.1.red i6.1.tok (xs (i + 1)) (xs (i + 2))) (fun v w h => ⟨_, h.2.1⟩) (fun E w h => mem1 (an.2 E h.1).1)) rfl rfl dL_law_1042 (Nat.le_of_ble_eq_true rfl) ⟨(Nat.le_of_ble_eq_true rfl), (Nat.le_of_ble_eq_true rfl)⟩ ⟨by omega, by omega⟩ (fun v w hq => ?_)
  rcases hq with ⟨y, w1, hq, rfl, rfl⟩ | ⟨E, w1, hx, rfl, rfl⟩
  · obtain ⟨o1, hy, T4, rfl⟩ := hq
    cases hy
    have ha := an.1 o1
    have hpe : PE P (ewP (xs (i + 1)) (xs (i + 2)).toNatClampNeg T P) := PE_exp _ _
    generalize hf : vp_updL f 0 _ = f1
    generalize ewP (xs (i + 1)) (xs (i + 2)).toNatClampNeg T P = P4 at hpe ⊢
    refine A_backN (LWb g ad eo p n len B s cnt nx sp sT T b P4 pr (b 0) T4 f1 S E9 D9 d fu R sk re st dn) (N := 20) rfl [ouW g (ad 7 3) f1, [(ad 7 0, .inr (6, [.ref (ad 0 0), .ref (ad 7 1), .ref (ad 3 0), .ref (ad 4 0), .int eo]))], tunW g (ad 3) (b 0) T, planW g b P4, tunW g (ad 4) (b 0) T4] [8, 0, 4, 6, 5, 1, 2, 3, 7, 9, 10, 11, 12, 13, 14, 15, 16, 17, 18, 19] (by decide +kernel) rfl rfl ?_
    refine A_istore okb dL_law_1045 (by decide) (sts (sts (sts (sts (sts1 rfl st0))))) ?_
    refine A_aload_n okb rfl dL_law_1047 (gps (gps gp0)) ?_
    refine A_arg ok (j := 1) (by decide) (by decide) hi hL gp0 (gps (gps (gps (gps gp0)))) dL_law_1048 dL_law_1049 dL_law_1051 dL_law_1052 dL_law_1053 ?_
    refine A_arg ok (j := 2) (by decide) (by decide) hi hL gp0 (gps (gps (gps (gps gp0)))) dL_law_1054 dL_law_1055 dL_law_1057 dL_law_1058 dL_law_1059 ?_
    refine A_cutN (N := 20) rfl [[moC (ad 5) S], [(ad 5 7, .inl (g.2.1 0, 12, .inl re))], [(ad 5 8, .inl (g.2.1 3, 20, .inl st))], [(ad 5 9, .inl (g.2.1 3, 20, .inl dn))], [(ad 5 6, .inl (g.2.1 1, 1300, .inr (.inl sk)))], [(ad 5 4, .inl (g.2.1 0, 1476, .inl fu))], [(ad 5 2, .inl (g.2.1 0, 1476, .inl d))]] [[(ad 7 0, .inr (6, [.ref (ad 0 0), .ref (ad 7 1), .ref (ad 3 0), .ref (ad 4 0), .int eo]))], rdT g (ad 0) (ad 1) (ad 2) p (nI n) len B s, hsW g (ad 7 1) (ad 7 2) cnt nx (fun j => ad (8 + j) 0), svs g ad sp sT, tunW g (ad 3) (b 0) T, tunW g (ad 4) (b 0) T4, planW g b P4, plsW g pr, ouW g (ad 7 3) f1, [(ad 5 1, .inl (g.2.1 0, 800, .inl E9))], [(ad 5 3, .inl (g.2.1 0, 1476, .inl D9))], [(ad 5 5, .inl (g.2.1 5, 8, .inr (.inr (.inr (.inr (fun j => some (ad 6 j)))))))], rowsW g (ad 6) R] [9, 17, 18, 19, 16, 13, 11, 0, 1, 2, 3, 4, 5, 6, 7, 8, 10, 12, 14, 15] (wc := fuW g (ad 5) S (re, st, dn, sk, fu) d) (by decide +kernel) rfl rfl ?_
    refine A_preVB okb _ _ (As := [_, _]) mf_X7_exposureWith ml_L_168 in_X7_exposureWith se_X7_exposureWith cf7 (gp_app gp0) (r_exposureWith l g (ad 5) S ((re, st, dn, sk, fu) : TS) d (pN P) (pCar P) hn hnc (pCodes P) (pNc P) i6.1.tk (xs (i + 1)) (xs (i + 2))) rfl rfl dL_law_1060 (Nat.le_of_ble_eq_true rfl) ⟨(Nat.le_of_ble_eq_true rfl), (Nat.le_of_ble_eq_true rfl)⟩ ⟨by omega, by omega⟩ (fun _ _ hx => hx.elim) (fun v w hq => ?_)
    obtain ⟨rfl, hw⟩ := hq
    obtain ⟨S9, X9, hS9, hth, hw9⟩ := fu_out hw
    subst hw9
    refine A_backN (LWb g ad eo p n len B s cnt nx sp sT T b P4 pr (b 0) T4 f1 S9 E9 D9 d (X9.d) R (X9.sk) (X9.re) (X9.st) (X9.dr)) (N := 20) rfl [[moC (ad 5) S9], [(ad 5 7, .inl (g.2.1 0, 12, .inl (X9.re)))], [(ad 5 8, .inl (g.2.1 3, 20, .inl (X9.st)))], [(ad 5 9, .inl (g.2.1 3, 20, .inl (X9.dr)))], [(ad 5 6, .inl (g.2.1 1, 1300, .inr (.inl (X9.sk))))], [(ad 5 4, .inl (g.2.1 0, 1476, .inl (X9.d)))], [(ad 5 2, .inl (g.2.1 0, 1476, .inl d))]] [9, 17, 18, 19, 16, 13, 11, 0, 1, 2, 3, 4, 5, 6, 7, 8, 10, 12, 14, 15] (by decide +kernel) rfl rfl ?_
    refine A_lstore okb dL_law_1063 (by decide) (sts (sts (sts (sts (sts (sts1 rfl st0w)))))) ?_
    refine A_aload_n okb rfl dL_law_1065 (gps (gps gp0)) ?_
    refine A_cutN (N := 20) rfl [[moC (ad 5) S9]] [[(ad 7 0, .inr (6, [.ref (ad 0 0), .ref (ad 7 1), .ref (ad 3 0), .ref (ad 4 0), .int eo]))], rdT g (ad 0) (ad 1) (ad 2) p (nI n) len B s, hsW g (ad 7 1) (ad 7 2) cnt nx (fun j => ad (8 + j) 0), svs g ad sp sT, tunW g (ad 3) (b 0) T, tunW g (ad 4) (b 0) T4, planW g b P4, plsW g pr, ouW g (ad 7 3) f1, [(ad 5 1, .inl (g.2.1 0, 800, .inl E9))], [(ad 5 2, .inl (g.2.1 0, 1476, .inl d))], [(ad 5 3, .inl (g.2.1 0, 1476, .inl D9))], [(ad 5 4, .inl (g.2.1 0, 1476, .inl (X9.d)))], [(ad 5 5, .inl (g.2.1 5, 8, .inr (.inr (.inr (.inr (fun j => some (ad 6 j)))))))], rowsW g (ad 6) R, [(ad 5 6, .inl (g.2.1 1, 1300, .inr (.inl (X9.sk))))], [(ad 5 7, .inl (g.2.1 0, 12, .inl (X9.re)))], [(ad 5 8, .inl (g.2.1 3, 20, .inl (X9.st)))], [(ad 5 9, .inl (g.2.1 3, 20, .inl (X9.dr)))]] [9, 0, 1, 2, 3, 4, 5, 6, 7, 8, 10, 11, 12, 13, 14, 15, 16, 17, 18, 19] (wc := [moC (ad 5) (S9)]) (by decide +kernel) rfl rfl ?_
    refine A_preVB okb _ _ (As := []) mf_X7_thrown ml_L_91 in_X7_thrown se_X7_thrown cf7 (gp_app gp0) (r_thrown l g (ad 5) (S9)) rfl rfl dL_law_1066 (Nat.le_of_ble_eq_true rfl) ⟨(Nat.le_of_ble_eq_true rfl), (Nat.le_of_ble_eq_true rfl)⟩ ⟨by omega, by omega⟩ (fun _ _ hx => hx.elim) (fun v w hq => ?_)
    obtain ⟨rfl, rfl⟩ := hq
    refine A_backN (LWb g ad eo p n len B s cnt nx sp sT T b P4 pr (b 0) T4 f1 S9 E9 D9 d (X9.d) R (X9.sk) (X9.re) (X9.st) (X9.dr)) (N := 20) rfl [[moC (ad 5) S9]] [9, 0, 1, 2, 3, 4, 5, 6, 7, 8, 10, 11, 12, 13, 14, 15, 16, 17, 18, 19] (by decide +kernel) rfl rfl ?_
    refine A_iload okb dL_law_1069 (gps (gps (gps (gps (gps gp0))))) ?_
    refine A_icmp_eq okb (tgt := 1076) dL_law_1071 (by decide) (fun _ => ?_) (fun c => absurd (hth.trans ha.1) c)
    refine A_iload okb dL_law_1076 (gps (gps (gps (gps (gps gp0))))) ?_
    refine A_if_ne okb (tgt := 1092) dL_law_1078 (by decide) (fun c => absurd rfl c) (fun _ => ?_)
    refine A_aload_n okb rfl dL_law_1081 (gps (gps (gps gp0))) ?_
    refine A_iconst okb (v := 0) dL_law_1082 (by decide) ?_
    refine A_cutN (N := 20) rfl [ouW g (ad 7 3) f1] [[(ad 7 0, .inr (6, [.ref (ad 0 0), .ref (ad 7 1), .ref (ad 3 0), .ref (ad 4 0), .int eo]))], rdT g (ad 0) (ad 1) (ad 2) p (nI n) len B s, hsW g (ad 7 1) (ad 7 2) cnt nx (fun j => ad (8 + j) 0), svs g ad sp sT, tunW g (ad 3) (b 0) T, tunW g (ad 4) (b 0) T4, planW g b P4, plsW g pr, [moC (ad 5) S9], [(ad 5 1, .inl (g.2.1 0, 800, .inl E9))], [(ad 5 2, .inl (g.2.1 0, 1476, .inl d))], [(ad 5 3, .inl (g.2.1 0, 1476, .inl D9))], [(ad 5 4, .inl (g.2.1 0, 1476, .inl (X9.d)))], [(ad 5 5, .inl (g.2.1 5, 8, .inr (.inr (.inr (.inr (fun j => some (ad 6 j)))))))], rowsW g (ad 6) R, [(ad 5 6, .inl (g.2.1 1, 1300, .inr (.inl (X9.sk))))], [(ad 5 7, .inl (g.2.1 0, 12, .inl (X9.re)))], [(ad 5 8, .inl (g.2.1 3, 20, .inl (X9.st)))], [(ad 5 9, .inl (g.2.1 3, 20, .inl (X9.dr)))]] [8, 0, 1, 2, 3, 4, 5, 6, 7, 9, 10, 11, 12, 13, 14, 15, 16, 17, 18, 19] (wc := ouW g (ad 7 3) (f1)) (by decide +kernel) rfl rfl ?_
    refine A_lald okb (gp_app gp0) ix0 dL_law_1083 ?_
    refine A_back2 (LWb g ad eo p n len B s cnt nx sp sT T b P4 pr (b 0) T4 f1 S9 E9 D9 d (X9.d) R (X9.sk) (X9.re) (X9.st) (X9.dr)) (N := 20) rfl [ouW g (ad 7 3) f1] [8, 0, 1, 2, 3, 4, 5, 6, 7, 9, 10, 11, 12, 13, 14, 15, 16, 17, 18, 19] (by decide +kernel) rfl rfl ?_
    refine A_lload okb dL_law_1084 (gps (gps (gps (gps (gps (gps gp0)))))) ?_
    refine A_lcmp okb dL_law_1086 ?_
    refine A_if_eq okb (tgt := 1092) dL_law_1087 (by decide) (fun _ => ?_) (fun c => absurd (lg_cmp_0.mpr (by rw [← hf, pk_uLs]; exact ha.2)) c)
    refine A_goto okb (tgt := 1552) dL_law_1092 (by decide) ?_
    refine A_lv (lv2 := lvL ad bS i) lv58 ?_
    refine A_widen okb (cn2 := cn + 40) (sn2 := sn + 900) (by omega) (by omega) ?_
    exact hk eo p n len B s cnt nx sp sT T b P4 pr (b 0) T4 f1 S9 E9 D9 d (X9.d) R (X9.sk) (X9.re) (X9.st) (X9.dr) (LInv_keep inv hpe hS9)
  · obtain ⟨ho, hp⟩ := hx
    have ht := an.2 E ho
    refine A_perm (List.Perm.append_left _ (List.Perm.append_left _ hp)) ?_
    refine A_backN (LWb g ad eo p n len B s cnt nx sp sT T b P pr p3 T3 f S E9 D9 d fu R sk re st dn) (N := 20) rfl [ouW g (ad 7 3) f, [(ad 7 0, .inr (6, [.ref (ad 0 0), .ref (ad 7 1), .ref (ad 3 0), .ref (ad 4 0), .int eo]))], tunW g (ad 3) (b 0) T, planW g b P, tunW g (ad 4) p3 T3] [8, 0, 4, 6, 5, 1, 2, 3, 7, 9, 10, 11, 12, 13, 14, 15, 16, 17, 18, 19] (by decide +kernel) rfl rfl ?_
    refine A_istore okb dL_law_1045 (by decide) (sts (sts (sts (sts (sts1 rfl st0))))) ?_
    refine A_aload_n okb rfl dL_law_1047 (gps (gps gp0)) ?_
    refine A_arg ok (j := 1) (by decide) (by decide) hi hL gp0 (gps (gps (gps (gps gp0)))) dL_law_1048 dL_law_1049 dL_law_1051 dL_law_1052 dL_law_1053 ?_
    refine A_arg ok (j := 2) (by decide) (by decide) hi hL gp0 (gps (gps (gps (gps gp0)))) dL_law_1054 dL_law_1055 dL_law_1057 dL_law_1058 dL_law_1059 ?_
    refine A_cutN (N := 20) rfl [[moC (ad 5) S], [(ad 5 7, .inl (g.2.1 0, 12, .inl re))], [(ad 5 8, .inl (g.2.1 3, 20, .inl st))], [(ad 5 9, .inl (g.2.1 3, 20, .inl dn))], [(ad 5 6, .inl (g.2.1 1, 1300, .inr (.inl sk)))], [(ad 5 4, .inl (g.2.1 0, 1476, .inl fu))], [(ad 5 2, .inl (g.2.1 0, 1476, .inl d))]] [[(ad 7 0, .inr (6, [.ref (ad 0 0), .ref (ad 7 1), .ref (ad 3 0), .ref (ad 4 0), .int eo]))], rdT g (ad 0) (ad 1) (ad 2) p (nI n) len B s, hsW g (ad 7 1) (ad 7 2) cnt nx (fun j => ad (8 + j) 0), svs g ad sp sT, tunW g (ad 3) (b 0) T, tunW g (ad 4) p3 T3, planW g b P, plsW g pr, ouW g (ad 7 3) f, [(ad 5 1, .inl (g.2.1 0, 800, .inl E9))], [(ad 5 3, .inl (g.2.1 0, 1476, .inl D9))], [(ad 5 5, .inl (g.2.1 5, 8, .inr (.inr (.inr (.inr (fun j => some (ad 6 j)))))))], rowsW g (ad 6) R] [9, 17, 18, 19, 16, 13, 11, 0, 1, 2, 3, 4, 5, 6, 7, 8, 10, 12, 14, 15] (wc := fuW g (ad 5) S (re, st, dn, sk, fu) d) (by decide +kernel) rfl rfl ?_
    refine A_preVB okb _ _ (As := [_, _]) mf_X7_exposureWith ml_L_168 in_X7_exposureWith se_X7_exposureWith cf7 (gp_app gp0) (r_exposureWith l g (ad 5) S ((re, st, dn, sk, fu) : TS) d (pN P) (pCar P) hn hnc (pCodes P) (pNc P) i6.1.tk (xs (i + 1)) (xs (i + 2))) rfl rfl dL_law_1060 (Nat.le_of_ble_eq_true rfl) ⟨(Nat.le_of_ble_eq_true rfl), (Nat.le_of_ble_eq_true rfl)⟩ ⟨by omega, by omega⟩ (fun _ _ hx => hx.elim) (fun v w hq => ?_)
    obtain ⟨rfl, hw⟩ := hq
    obtain ⟨S9, X9, hS9, hth, hw9⟩ := fu_out hw
    subst hw9
    refine A_backN (LWb g ad eo p n len B s cnt nx sp sT T b P pr p3 T3 f S9 E9 D9 d (X9.d) R (X9.sk) (X9.re) (X9.st) (X9.dr)) (N := 20) rfl [[moC (ad 5) S9], [(ad 5 7, .inl (g.2.1 0, 12, .inl (X9.re)))], [(ad 5 8, .inl (g.2.1 3, 20, .inl (X9.st)))], [(ad 5 9, .inl (g.2.1 3, 20, .inl (X9.dr)))], [(ad 5 6, .inl (g.2.1 1, 1300, .inr (.inl (X9.sk))))], [(ad 5 4, .inl (g.2.1 0, 1476, .inl (X9.d)))], [(ad 5 2, .inl (g.2.1 0, 1476, .inl d))]] [9, 17, 18, 19, 16, 13, 11, 0, 1, 2, 3, 4, 5, 6, 7, 8, 10, 12, 14, 15] (by decide +kernel) rfl rfl ?_
    refine A_lstore okb dL_law_1063 (by decide) (sts (sts (sts (sts (sts (sts1 rfl st0w)))))) ?_
    refine A_aload_n okb rfl dL_law_1065 (gps (gps gp0)) ?_
    refine A_cutN (N := 20) rfl [[moC (ad 5) S9]] [[(ad 7 0, .inr (6, [.ref (ad 0 0), .ref (ad 7 1), .ref (ad 3 0), .ref (ad 4 0), .int eo]))], rdT g (ad 0) (ad 1) (ad 2) p (nI n) len B s, hsW g (ad 7 1) (ad 7 2) cnt nx (fun j => ad (8 + j) 0), svs g ad sp sT, tunW g (ad 3) (b 0) T, tunW g (ad 4) p3 T3, planW g b P, plsW g pr, ouW g (ad 7 3) f, [(ad 5 1, .inl (g.2.1 0, 800, .inl E9))], [(ad 5 2, .inl (g.2.1 0, 1476, .inl d))], [(ad 5 3, .inl (g.2.1 0, 1476, .inl D9))], [(ad 5 4, .inl (g.2.1 0, 1476, .inl (X9.d)))], [(ad 5 5, .inl (g.2.1 5, 8, .inr (.inr (.inr (.inr (fun j => some (ad 6 j)))))))], rowsW g (ad 6) R, [(ad 5 6, .inl (g.2.1 1, 1300, .inr (.inl (X9.sk))))], [(ad 5 7, .inl (g.2.1 0, 12, .inl (X9.re)))], [(ad 5 8, .inl (g.2.1 3, 20, .inl (X9.st)))], [(ad 5 9, .inl (g.2.1 3, 20, .inl (X9.dr)))]] [9, 0, 1, 2, 3, 4, 5, 6, 7, 8, 10, 11, 12, 13, 14, 15, 16, 17, 18, 19] (wc := [moC (ad 5) (S9)]) (by decide +kernel) rfl rfl ?_
    refine A_preVB okb _ _ (As := []) mf_X7_thrown ml_L_91 in_X7_thrown se_X7_thrown cf7 (gp_app gp0) (r_thrown l g (ad 5) (S9)) rfl rfl dL_law_1066 (Nat.le_of_ble_eq_true rfl) ⟨(Nat.le_of_ble_eq_true rfl), (Nat.le_of_ble_eq_true rfl)⟩ ⟨by omega, by omega⟩ (fun _ _ hx => hx.elim) (fun v w hq => ?_)
    obtain ⟨rfl, rfl⟩ := hq
    refine A_backN (LWb g ad eo p n len B s cnt nx sp sT T b P pr p3 T3 f S9 E9 D9 d (X9.d) R (X9.sk) (X9.re) (X9.st) (X9.dr)) (N := 20) rfl [[moC (ad 5) S9]] [9, 0, 1, 2, 3, 4, 5, 6, 7, 8, 10, 11, 12, 13, 14, 15, 16, 17, 18, 19] (by decide +kernel) rfl rfl ?_
    refine A_iload okb dL_law_1069 (gps (gps (gps (gps (gps gp0))))) ?_
    refine A_icmp_eq okb (tgt := 1076) dL_law_1071 (by decide) (fun _ => ?_) (fun c => absurd (hth.trans ht.2.1) c)
    refine A_iload okb dL_law_1076 (gps (gps (gps (gps (gps gp0))))) ?_
    refine A_if_ne okb (tgt := 1092) dL_law_1078 (by decide) (fun _ => ?_) (fun c => absurd c ht.2.2)
    refine A_goto okb (tgt := 1552) dL_law_1092 (by decide) ?_
    refine A_lv (lv2 := lvL ad bS i) lv58 ?_
    refine A_widen okb (cn2 := cn + 40) (sn2 := sn + 900) (by omega) (by omega) ?_
    exact hk eo p n len B s cnt nx sp sT T b P pr p3 T3 f S9 E9 D9 d (X9.d) R (X9.sk) (X9.re) (X9.st) (X9.dr) (LInv_keep inv (PE.r P) hS9)
set_option maxRecDepth 20000 in
set_option maxHeartbeats 4000000 in
theorem op_bestSetting {l : Launch} {g : Gl} {ad : Nat → Nat → Nat} {A : Nat → Prop} {H0 : Heap} {K : KT} {bS L : Nat} {xs : Nat → Int32} {i cn sn : Nat} (ok : OkL l g A H0 K bS L xs) (hl0 : l.stackTraces = false) (hi : i + 6 ≤ L) (hL : L ≤ 3072) (hc : cn + 40 ≤ room_1.cells) (hs : sn + 900 ≤ room_1.slots) (hk : LKont g ad A H0 K bS i (cn + 40) (sn + 900)) {eo : Int32} {p : Nat} {n : Nat} {len : Nat} {B : Nat → Int32} {s : RS} {cnt : Nat} {nx : Nat} {sp : Nat → Nat} {sT : Nat → TD} {T : TD} {b : Nat → Nat} {P : PD} {pr : PL} {p3 : Nat} {T3 : TD} {f : Nat → Int64} {S : MS} {E9 : Nat → Int32} {D9 : Nat → Int32} {d : Nat → Int32} {fu : Nat → Int32} {R : Nat → Nat → Int32} {sk : Nat → Int64} {re : Nat → Int32} {st : Nat → Int32} {dn : Nat → Int32} (inv : LInv eo n B s cnt nx sp sT T b P pr S E9 d R) : AW g A H0 8 K 1095 (lvL ad bS i) [] (LWb g ad eo p n len B s cnt nx sp sT T b P pr p3 T3 f S E9 D9 d fu R sk re st dn).flatten cn sn := by
  obtain ⟨nm, okb⟩ := ok.b
  obtain ⟨i1, i2, i3, i4, i5, i6, i7, i8⟩ := id inv
  have hn := i6.1.n
  have hnc := i6.1.nc
  have an := an_bestSetting i6.1 i6.2 ((re, st, dn, sk, fu) : TS) (xs (i + 1))
  refine A_aload_n okb rfl dL_law_1095 (gps gp0) ?_
  refine A_arg ok (j := 1) (by decide) (by decide) hi hL gp0 (gps (gps (gps (gps gp0)))) dL_law_1096 dL_law_1097 dL_law_1099 dL_law_1100 dL_law_1101 ?_
  refine A_aload_n okb rfl dL_law_1102 (gps (gps (gps gp0))) ?_
  refine A_cutN (N := 20) rfl [[(ad 7 0, .inr (6, [.ref (ad 0 0), .ref (ad 7 1), .ref (ad 3 0), .ref (ad 4 0), .int eo]))], tunW g (ad 3) (b 0) T, planW g b P, tunW g (ad 4) p3 T3, ouW g (ad 7 3) f] [rdT g (ad 0) (ad 1) (ad 2) p (nI n) len B s, hsW g (ad 7 1) (ad 7 2) cnt nx (fun j => ad (8 + j) 0), svs g ad sp sT, plsW g pr, [moC (ad 5) S], [(ad 5 1, .inl (g.2.1 0, 800, .inl E9))], [(ad 5 2, .inl (g.2.1 0, 1476, .inl d))], [(ad 5 3, .inl (g.2.1 0, 1476, .inl D9))], [(ad 5 4, .inl (g.2.1 0, 1476, .inl fu))], [(ad 5 5, .inl (g.2.1 5, 8, .inr (.inr (.inr (.inr (fun j => some (ad 6 j)))))))], rowsW g (ad 6) R, [(ad 5 6, .inl (g.2.1 1, 1300, .inr (.inl sk)))], [(ad 5 7, .inl (g.2.1 0, 12, .inl re))], [(ad 5 8, .inl (g.2.1 3, 20, .inl st))], [(ad 5 9, .inl (g.2.1 3, 20, .inl dn))]] [0, 4, 6, 5, 8, 1, 2, 3, 7, 9, 10, 11, 12, 13, 14, 15, 16, 17, 18, 19] (wc := (dkW g (ad 7 0) (ad 0 0) (ad 7 1) (ad 4 0) eo (ad 3) b T P ++ tunW g (ad 4) p3 T3) ++ ouW g (ad 7 3) f) (by decide +kernel) rfl rfl ?_
  refine A_preSH okb _ _ (As := [_, _, _]) mf_L_bestSetting ml_L_169 sc_L_bestSetting (h_bestSetting l g (ad 7 0) (ad 7 3) f (xs (i + 1)) (ws := dkW g (ad 7 0) (ad 0 0) (ad 7 1) (ad 4 0) eo (ad 3) b T P ++ tunW g (ad 4) p3 T3) gp0 (c_bestSetting l g (ad 7 0) (ad 0 0) (ad 7 1) eo (ad 3) b T P hn hnc hl0 (ad 4) p3 T3 i6.1.red i6.1.tok (xs (i + 1))) (fun v w h => ⟨_, h.2.1⟩) (fun E w h => mem1 (an.2 E h.1).1)) rfl rfl dL_law_1103 (Nat.le_of_ble_eq_true rfl) ⟨(Nat.le_of_ble_eq_true rfl), (Nat.le_of_ble_eq_true rfl)⟩ ⟨by omega, by omega⟩ (fun v w hq => ?_)
  rcases hq with ⟨y, w1, hq, rfl, rfl⟩ | ⟨E, w1, hx, rfl, rfl⟩
  · obtain ⟨o1, hy, T4, rfl⟩ := hq
    cases hy
    have ha := an.1 o1
    obtain ⟨t, ht60, et⟩ := fore_le o1
    have hpe : PE P (bsF (xs (i + 1)).toNatClampNeg T P 10).2.2 := (bs_rel i6.1 i6.2 (n := (xs (i + 1)).toNatClampNeg) (by rw [et, nI_clamp (by omega)]; omega) ((re, st, dn, sk, fu) : TS) 10 (Nat.le_refl _)).2.2
    generalize hf : vp_updL f 0 _ = f1
    generalize (bsF (xs (i + 1)).toNatClampNeg T P 10).2.2 = P4 at hpe ⊢
    refine A_backN (LWb g ad eo p n len B s cnt nx sp sT T b P4 pr (b 0) T4 f1 S E9 D9 d fu R sk re st dn) (N := 20) rfl [ouW g (ad 7 3) f1, [(ad 7 0, .inr (6, [.ref (ad 0 0), .ref (ad 7 1), .ref (ad 3 0), .ref (ad 4 0), .int eo]))], tunW g (ad 3) (b 0) T, planW g b P4, tunW g (ad 4) (b 0) T4] [8, 0, 4, 6, 5, 1, 2, 3, 7, 9, 10, 11, 12, 13, 14, 15, 16, 17, 18, 19] (by decide +kernel) rfl rfl ?_
    refine A_istore okb dL_law_1106 (by decide) (sts (sts (sts (sts (sts1 rfl st0))))) ?_
    refine A_aload_n okb rfl dL_law_1108 (gps (gps gp0)) ?_
    refine A_arg ok (j := 1) (by decide) (by decide) hi hL gp0 (gps (gps (gps (gps gp0)))) dL_law_1109 dL_law_1110 dL_law_1112 dL_law_1113 dL_law_1114 ?_
    rw [et] at ha hf
    rw [et]
    refine A_cutN (N := 20) rfl [[moC (ad 5) S], [(ad 5 7, .inl (g.2.1 0, 12, .inl re))], [(ad 5 8, .inl (g.2.1 3, 20, .inl st))], [(ad 5 9, .inl (g.2.1 3, 20, .inl dn))], [(ad 5 6, .inl (g.2.1 1, 1300, .inr (.inl sk)))], [(ad 5 4, .inl (g.2.1 0, 1476, .inl fu))], [(ad 5 2, .inl (g.2.1 0, 1476, .inl d))]] [[(ad 7 0, .inr (6, [.ref (ad 0 0), .ref (ad 7 1), .ref (ad 3 0), .ref (ad 4 0), .int eo]))], rdT g (ad 0) (ad 1) (ad 2) p (nI n) len B s, hsW g (ad 7 1) (ad 7 2) cnt nx (fun j => ad (8 + j) 0), svs g ad sp sT, tunW g (ad 3) (b 0) T, tunW g (ad 4) (b 0) T4, planW g b P4, plsW g pr, ouW g (ad 7 3) f1, [(ad 5 1, .inl (g.2.1 0, 800, .inl E9))], [(ad 5 3, .inl (g.2.1 0, 1476, .inl D9))], [(ad 5 5, .inl (g.2.1 5, 8, .inr (.inr (.inr (.inr (fun j => some (ad 6 j)))))))], rowsW g (ad 6) R] [9, 17, 18, 19, 16, 13, 11, 0, 1, 2, 3, 4, 5, 6, 7, 8, 10, 12, 14, 15] (wc := fuW g (ad 5) S (re, st, dn, sk, fu) d) (by decide +kernel) rfl rfl ?_
    refine A_preVB okb _ _ (As := [_]) mf_X7_bestSetting ml_L_171 in_X7_bestSetting se_X7_bestSetting cf7 (gp_app gp0) (r_bestSettingN l g (ad 5) S ((re, st, dn, sk, fu) : TS) d (pN P) (pCar P) hn hnc (pCodes P) (pNc P) i6.1.tk t (by omega)) rfl rfl dL_law_1115 (Nat.le_of_ble_eq_true rfl) ⟨(Nat.le_of_ble_eq_true rfl), (Nat.le_of_ble_eq_true rfl)⟩ ⟨by omega, by omega⟩ (fun _ _ hx => hx.elim) (fun v w hq => ?_)
    obtain ⟨rfl, hw⟩ := hq
    obtain ⟨S9, X9, hS9, hth, hw9⟩ := fu_out hw
    subst hw9
    refine A_backN (LWb g ad eo p n len B s cnt nx sp sT T b P4 pr (b 0) T4 f1 S9 E9 D9 d (X9.d) R (X9.sk) (X9.re) (X9.st) (X9.dr)) (N := 20) rfl [[moC (ad 5) S9], [(ad 5 7, .inl (g.2.1 0, 12, .inl (X9.re)))], [(ad 5 8, .inl (g.2.1 3, 20, .inl (X9.st)))], [(ad 5 9, .inl (g.2.1 3, 20, .inl (X9.dr)))], [(ad 5 6, .inl (g.2.1 1, 1300, .inr (.inl (X9.sk))))], [(ad 5 4, .inl (g.2.1 0, 1476, .inl (X9.d)))], [(ad 5 2, .inl (g.2.1 0, 1476, .inl d))]] [9, 17, 18, 19, 16, 13, 11, 0, 1, 2, 3, 4, 5, 6, 7, 8, 10, 12, 14, 15] (by decide +kernel) rfl rfl ?_
    refine A_istore okb dL_law_1118 (by decide) (sts (sts (sts (sts (sts (sts1 rfl st0)))))) ?_
    refine A_aload_n okb rfl dL_law_1120 (gps (gps gp0)) ?_
    refine A_cutN (N := 20) rfl [[moC (ad 5) S9]] [[(ad 7 0, .inr (6, [.ref (ad 0 0), .ref (ad 7 1), .ref (ad 3 0), .ref (ad 4 0), .int eo]))], rdT g (ad 0) (ad 1) (ad 2) p (nI n) len B s, hsW g (ad 7 1) (ad 7 2) cnt nx (fun j => ad (8 + j) 0), svs g ad sp sT, tunW g (ad 3) (b 0) T, tunW g (ad 4) (b 0) T4, planW g b P4, plsW g pr, ouW g (ad 7 3) f1, [(ad 5 1, .inl (g.2.1 0, 800, .inl E9))], [(ad 5 2, .inl (g.2.1 0, 1476, .inl d))], [(ad 5 3, .inl (g.2.1 0, 1476, .inl D9))], [(ad 5 4, .inl (g.2.1 0, 1476, .inl (X9.d)))], [(ad 5 5, .inl (g.2.1 5, 8, .inr (.inr (.inr (.inr (fun j => some (ad 6 j)))))))], rowsW g (ad 6) R, [(ad 5 6, .inl (g.2.1 1, 1300, .inr (.inl (X9.sk))))], [(ad 5 7, .inl (g.2.1 0, 12, .inl (X9.re)))], [(ad 5 8, .inl (g.2.1 3, 20, .inl (X9.st)))], [(ad 5 9, .inl (g.2.1 3, 20, .inl (X9.dr)))]] [9, 0, 1, 2, 3, 4, 5, 6, 7, 8, 10, 11, 12, 13, 14, 15, 16, 17, 18, 19] (wc := [moC (ad 5) (S9)]) (by decide +kernel) rfl rfl ?_
    refine A_preVB okb _ _ (As := []) mf_X7_thrown ml_L_91 in_X7_thrown se_X7_thrown cf7 (gp_app gp0) (r_thrown l g (ad 5) (S9)) rfl rfl dL_law_1121 (Nat.le_of_ble_eq_true rfl) ⟨(Nat.le_of_ble_eq_true rfl), (Nat.le_of_ble_eq_true rfl)⟩ ⟨by omega, by omega⟩ (fun _ _ hx => hx.elim) (fun v w hq => ?_)
    obtain ⟨rfl, rfl⟩ := hq
    refine A_backN (LWb g ad eo p n len B s cnt nx sp sT T b P4 pr (b 0) T4 f1 S9 E9 D9 d (X9.d) R (X9.sk) (X9.re) (X9.st) (X9.dr)) (N := 20) rfl [[moC (ad 5) S9]] [9, 0, 1, 2, 3, 4, 5, 6, 7, 8, 10, 11, 12, 13, 14, 15, 16, 17, 18, 19] (by decide +kernel) rfl rfl ?_
    refine A_iload okb dL_law_1124 (gps (gps (gps (gps (gps gp0))))) ?_
    refine A_icmp_eq okb (tgt := 1131) dL_law_1126 (by decide) (fun _ => ?_) (fun c => absurd (hth.trans ha.1) c)
    refine A_iload okb dL_law_1131 (gps (gps (gps (gps (gps gp0))))) ?_
    refine A_if_ne okb (tgt := 1148) dL_law_1133 (by decide) (fun c => absurd rfl c) (fun _ => ?_)
    refine A_aload_n okb rfl dL_law_1136 (gps (gps (gps gp0))) ?_
    refine A_iconst okb (v := 0) dL_law_1137 (by decide) ?_
    refine A_cutN (N := 20) rfl [ouW g (ad 7 3) f1] [[(ad 7 0, .inr (6, [.ref (ad 0 0), .ref (ad 7 1), .ref (ad 3 0), .ref (ad 4 0), .int eo]))], rdT g (ad 0) (ad 1) (ad 2) p (nI n) len B s, hsW g (ad 7 1) (ad 7 2) cnt nx (fun j => ad (8 + j) 0), svs g ad sp sT, tunW g (ad 3) (b 0) T, tunW g (ad 4) (b 0) T4, planW g b P4, plsW g pr, [moC (ad 5) S9], [(ad 5 1, .inl (g.2.1 0, 800, .inl E9))], [(ad 5 2, .inl (g.2.1 0, 1476, .inl d))], [(ad 5 3, .inl (g.2.1 0, 1476, .inl D9))], [(ad 5 4, .inl (g.2.1 0, 1476, .inl (X9.d)))], [(ad 5 5, .inl (g.2.1 5, 8, .inr (.inr (.inr (.inr (fun j => some (ad 6 j)))))))], rowsW g (ad 6) R, [(ad 5 6, .inl (g.2.1 1, 1300, .inr (.inl (X9.sk))))], [(ad 5 7, .inl (g.2.1 0, 12, .inl (X9.re)))], [(ad 5 8, .inl (g.2.1 3, 20, .inl (X9.st)))], [(ad 5 9, .inl (g.2.1 3, 20, .inl (X9.dr)))]] [8, 0, 1, 2, 3, 4, 5, 6, 7, 9, 10, 11, 12, 13, 14, 15, 16, 17, 18, 19] (wc := ouW g (ad 7 3) (f1)) (by decide +kernel) rfl rfl ?_
    refine A_lald okb (gp_app gp0) ix0 dL_law_1138 ?_
    refine A_back2 (LWb g ad eo p n len B s cnt nx sp sT T b P4 pr (b 0) T4 f1 S9 E9 D9 d (X9.d) R (X9.sk) (X9.re) (X9.st) (X9.dr)) (N := 20) rfl [ouW g (ad 7 3) f1] [8, 0, 1, 2, 3, 4, 5, 6, 7, 9, 10, 11, 12, 13, 14, 15, 16, 17, 18, 19] (by decide +kernel) rfl rfl ?_
    refine A_iload okb dL_law_1139 (gps (gps (gps (gps (gps (gps gp0)))))) ?_
    refine A_i2l okb dL_law_1141 ?_
    refine A_lcmp okb dL_law_1142 ?_
    refine A_if_eq okb (tgt := 1148) dL_law_1143 (by decide) (fun _ => ?_) (fun c => absurd (lg_cmp_0.mpr (by rw [← hf, pk_uLs]; exact congrArg Int32.toInt64 ha.2)) c)
    refine A_goto okb (tgt := 1552) dL_law_1148 (by decide) ?_
    refine A_lv (lv2 := lvL ad bS i) lv58 ?_
    refine A_widen okb (cn2 := cn + 40) (sn2 := sn + 900) (by omega) (by omega) ?_
    exact hk eo p n len B s cnt nx sp sT T b P4 pr (b 0) T4 f1 S9 E9 D9 d (X9.d) R (X9.sk) (X9.re) (X9.st) (X9.dr) (LInv_keep inv hpe hS9)
  · obtain ⟨ho, hp⟩ := hx
    have ht0 := an.2 E ho
    have hbad : tikE (xs (i + 1)) = true := by
      rw [fore_iff] at ho
      by_cases c : tikE (xs (i + 1)) = true
      · exact c
      · rw [if_neg c] at ho; exact absurd ho nofun
    have ht : E ∈ [IAE] ∧ (1 : Int32) = nI (([IAE] : List String).idxOf E + 1) ∧ ¬ nI (([IAE] : List String).idxOf E + 1) = 0 := by
      rw [if_pos hbad] at ht0; exact ht0
    refine A_perm (List.Perm.append_left _ (List.Perm.append_left _ hp)) ?_
    refine A_backN (LWb g ad eo p n len B s cnt nx sp sT T b P pr p3 T3 f S E9 D9 d fu R sk re st dn) (N := 20) rfl [ouW g (ad 7 3) f, [(ad 7 0, .inr (6, [.ref (ad 0 0), .ref (ad 7 1), .ref (ad 3 0), .ref (ad 4 0), .int eo]))], tunW g (ad 3) (b 0) T, planW g b P, tunW g (ad 4) p3 T3] [8, 0, 4, 6, 5, 1, 2, 3, 7, 9, 10, 11, 12, 13, 14, 15, 16, 17, 18, 19] (by decide +kernel) rfl rfl ?_
    refine A_istore okb dL_law_1106 (by decide) (sts (sts (sts (sts (sts1 rfl st0))))) ?_
    refine A_aload_n okb rfl dL_law_1108 (gps (gps gp0)) ?_
    refine A_arg ok (j := 1) (by decide) (by decide) hi hL gp0 (gps (gps (gps (gps gp0)))) dL_law_1109 dL_law_1110 dL_law_1112 dL_law_1113 dL_law_1114 ?_
    refine A_cutN (N := 20) rfl [[moC (ad 5) S], [(ad 5 7, .inl (g.2.1 0, 12, .inl re))], [(ad 5 8, .inl (g.2.1 3, 20, .inl st))], [(ad 5 9, .inl (g.2.1 3, 20, .inl dn))], [(ad 5 6, .inl (g.2.1 1, 1300, .inr (.inl sk)))], [(ad 5 4, .inl (g.2.1 0, 1476, .inl fu))], [(ad 5 2, .inl (g.2.1 0, 1476, .inl d))]] [[(ad 7 0, .inr (6, [.ref (ad 0 0), .ref (ad 7 1), .ref (ad 3 0), .ref (ad 4 0), .int eo]))], rdT g (ad 0) (ad 1) (ad 2) p (nI n) len B s, hsW g (ad 7 1) (ad 7 2) cnt nx (fun j => ad (8 + j) 0), svs g ad sp sT, tunW g (ad 3) (b 0) T, tunW g (ad 4) p3 T3, planW g b P, plsW g pr, ouW g (ad 7 3) f, [(ad 5 1, .inl (g.2.1 0, 800, .inl E9))], [(ad 5 3, .inl (g.2.1 0, 1476, .inl D9))], [(ad 5 5, .inl (g.2.1 5, 8, .inr (.inr (.inr (.inr (fun j => some (ad 6 j)))))))], rowsW g (ad 6) R] [9, 17, 18, 19, 16, 13, 11, 0, 1, 2, 3, 4, 5, 6, 7, 8, 10, 12, 14, 15] (wc := fuW g (ad 5) S (re, st, dn, sk, fu) d) (by decide +kernel) rfl rfl ?_
    refine A_preVB okb _ _ (As := [_]) mf_X7_bestSetting ml_L_171 in_X7_bestSetting se_X7_bestSetting cf7 (gp_app gp0) (r_bestSettingE l g (ad 5) S ((re, st, dn, sk, fu) : TS) d (pN P) (pCar P) hn hnc (pCodes P) (pNc P) i6.1.tk (xs (i + 1)) hbad) rfl rfl dL_law_1115 (Nat.le_of_ble_eq_true rfl) ⟨(Nat.le_of_ble_eq_true rfl), (Nat.le_of_ble_eq_true rfl)⟩ ⟨by omega, by omega⟩ (fun _ _ hx => hx.elim) (fun v w hq => ?_)
    obtain ⟨rfl, hw⟩ := hq
    obtain ⟨S9, X9, hS9, hth, hw9⟩ := fu_out hw
    subst hw9
    refine A_backN (LWb g ad eo p n len B s cnt nx sp sT T b P pr p3 T3 f S9 E9 D9 d (X9.d) R (X9.sk) (X9.re) (X9.st) (X9.dr)) (N := 20) rfl [[moC (ad 5) S9], [(ad 5 7, .inl (g.2.1 0, 12, .inl (X9.re)))], [(ad 5 8, .inl (g.2.1 3, 20, .inl (X9.st)))], [(ad 5 9, .inl (g.2.1 3, 20, .inl (X9.dr)))], [(ad 5 6, .inl (g.2.1 1, 1300, .inr (.inl (X9.sk))))], [(ad 5 4, .inl (g.2.1 0, 1476, .inl (X9.d)))], [(ad 5 2, .inl (g.2.1 0, 1476, .inl d))]] [9, 17, 18, 19, 16, 13, 11, 0, 1, 2, 3, 4, 5, 6, 7, 8, 10, 12, 14, 15] (by decide +kernel) rfl rfl ?_
    refine A_istore okb dL_law_1118 (by decide) (sts (sts (sts (sts (sts (sts1 rfl st0)))))) ?_
    refine A_aload_n okb rfl dL_law_1120 (gps (gps gp0)) ?_
    refine A_cutN (N := 20) rfl [[moC (ad 5) S9]] [[(ad 7 0, .inr (6, [.ref (ad 0 0), .ref (ad 7 1), .ref (ad 3 0), .ref (ad 4 0), .int eo]))], rdT g (ad 0) (ad 1) (ad 2) p (nI n) len B s, hsW g (ad 7 1) (ad 7 2) cnt nx (fun j => ad (8 + j) 0), svs g ad sp sT, tunW g (ad 3) (b 0) T, tunW g (ad 4) p3 T3, planW g b P, plsW g pr, ouW g (ad 7 3) f, [(ad 5 1, .inl (g.2.1 0, 800, .inl E9))], [(ad 5 2, .inl (g.2.1 0, 1476, .inl d))], [(ad 5 3, .inl (g.2.1 0, 1476, .inl D9))], [(ad 5 4, .inl (g.2.1 0, 1476, .inl (X9.d)))], [(ad 5 5, .inl (g.2.1 5, 8, .inr (.inr (.inr (.inr (fun j => some (ad 6 j)))))))], rowsW g (ad 6) R, [(ad 5 6, .inl (g.2.1 1, 1300, .inr (.inl (X9.sk))))], [(ad 5 7, .inl (g.2.1 0, 12, .inl (X9.re)))], [(ad 5 8, .inl (g.2.1 3, 20, .inl (X9.st)))], [(ad 5 9, .inl (g.2.1 3, 20, .inl (X9.dr)))]] [9, 0, 1, 2, 3, 4, 5, 6, 7, 8, 10, 11, 12, 13, 14, 15, 16, 17, 18, 19] (wc := [moC (ad 5) (S9)]) (by decide +kernel) rfl rfl ?_
    refine A_preVB okb _ _ (As := []) mf_X7_thrown ml_L_91 in_X7_thrown se_X7_thrown cf7 (gp_app gp0) (r_thrown l g (ad 5) (S9)) rfl rfl dL_law_1121 (Nat.le_of_ble_eq_true rfl) ⟨(Nat.le_of_ble_eq_true rfl), (Nat.le_of_ble_eq_true rfl)⟩ ⟨by omega, by omega⟩ (fun _ _ hx => hx.elim) (fun v w hq => ?_)
    obtain ⟨rfl, rfl⟩ := hq
    refine A_backN (LWb g ad eo p n len B s cnt nx sp sT T b P pr p3 T3 f S9 E9 D9 d (X9.d) R (X9.sk) (X9.re) (X9.st) (X9.dr)) (N := 20) rfl [[moC (ad 5) S9]] [9, 0, 1, 2, 3, 4, 5, 6, 7, 8, 10, 11, 12, 13, 14, 15, 16, 17, 18, 19] (by decide +kernel) rfl rfl ?_
    refine A_iload okb dL_law_1124 (gps (gps (gps (gps (gps gp0))))) ?_
    refine A_icmp_eq okb (tgt := 1131) dL_law_1126 (by decide) (fun _ => ?_) (fun c => absurd (hth.trans ht.2.1) c)
    refine A_iload okb dL_law_1131 (gps (gps (gps (gps (gps gp0))))) ?_
    refine A_if_ne okb (tgt := 1148) dL_law_1133 (by decide) (fun _ => ?_) (fun c => absurd c ht.2.2)
    refine A_goto okb (tgt := 1552) dL_law_1148 (by decide) ?_
    refine A_lv (lv2 := lvL ad bS i) lv58 ?_
    refine A_widen okb (cn2 := cn + 40) (sn2 := sn + 900) (by omega) (by omega) ?_
    exact hk eo p n len B s cnt nx sp sT T b P pr p3 T3 f S9 E9 D9 d (X9.d) R (X9.sk) (X9.re) (X9.st) (X9.dr) (LInv_keep inv (PE.r P) hS9)
set_option maxRecDepth 20000 in
set_option maxHeartbeats 4000000 in
theorem op_bestBays {l : Launch} {g : Gl} {ad : Nat → Nat → Nat} {A : Nat → Prop} {H0 : Heap} {K : KT} {bS L : Nat} {xs : Nat → Int32} {i cn sn : Nat} (ok : OkL l g A H0 K bS L xs) (hl0 : l.stackTraces = false) (hi : i + 6 ≤ L) (hL : L ≤ 3072) (hc : cn + 40 ≤ room_1.cells) (hs : sn + 900 ≤ room_1.slots) (hk : LKont g ad A H0 K bS i (cn + 40) (sn + 900)) {eo : Int32} {p : Nat} {n : Nat} {len : Nat} {B : Nat → Int32} {s : RS} {cnt : Nat} {nx : Nat} {sp : Nat → Nat} {sT : Nat → TD} {T : TD} {b : Nat → Nat} {P : PD} {pr : PL} {p3 : Nat} {T3 : TD} {f : Nat → Int64} {S : MS} {E9 : Nat → Int32} {D9 : Nat → Int32} {d : Nat → Int32} {fu : Nat → Int32} {R : Nat → Nat → Int32} {sk : Nat → Int64} {re : Nat → Int32} {st : Nat → Int32} {dn : Nat → Int32} (inv : LInv eo n B s cnt nx sp sT T b P pr S E9 d R) : AW g A H0 8 K 1002 (lvL ad bS i) [] (LWb g ad eo p n len B s cnt nx sp sT T b P pr p3 T3 f S E9 D9 d fu R sk re st dn).flatten cn sn := by
  obtain ⟨nm, okb⟩ := ok.b
  obtain ⟨i1, i2, i3, i4, i5, i6, i7, i8⟩ := id inv
  have hn := i6.1.n
  have hnc := i6.1.nc
  have hb9 : ∀ s, s < pN P → tBay T s = -1 ∨ tBay T s = 0 ∨ tBay T s = 1 := fun s hs => (i6.1.2.2.2.1.2.1 s hs).2.2.2
  refine A_aload_n okb rfl dL_law_1002 (gps gp0) ?_
  refine A_cutN (N := 20) rfl [[(ad 7 0, .inr (6, [.ref (ad 0 0), .ref (ad 7 1), .ref (ad 3 0), .ref (ad 4 0), .int eo]))], tunW g (ad 3) (b 0) T, planW g b P, tunW g (ad 4) p3 T3] [rdT g (ad 0) (ad 1) (ad 2) p (nI n) len B s, hsW g (ad 7 1) (ad 7 2) cnt nx (fun j => ad (8 + j) 0), svs g ad sp sT, plsW g pr, ouW g (ad 7 3) f, [moC (ad 5) S], [(ad 5 1, .inl (g.2.1 0, 800, .inl E9))], [(ad 5 2, .inl (g.2.1 0, 1476, .inl d))], [(ad 5 3, .inl (g.2.1 0, 1476, .inl D9))], [(ad 5 4, .inl (g.2.1 0, 1476, .inl fu))], [(ad 5 5, .inl (g.2.1 5, 8, .inr (.inr (.inr (.inr (fun j => some (ad 6 j)))))))], rowsW g (ad 6) R, [(ad 5 6, .inl (g.2.1 1, 1300, .inr (.inl sk)))], [(ad 5 7, .inl (g.2.1 0, 12, .inl re))], [(ad 5 8, .inl (g.2.1 3, 20, .inl st))], [(ad 5 9, .inl (g.2.1 3, 20, .inl dn))]] [0, 4, 6, 5, 1, 2, 3, 7, 8, 9, 10, 11, 12, 13, 14, 15, 16, 17, 18, 19] (wc := dkW g (ad 7 0) (ad 0 0) (ad 7 1) (ad 4 0) eo (ad 3) b T P ++ tunW g (ad 4) p3 T3) (by decide +kernel) rfl rfl ?_
  refine A_preVB okb _ _ (As := []) mf_X6_bestBays ml_L_158 in_X6_bestBays se_X6_bestBays cf6 (gp_app gp0) (c_bestBays l g (ad 7 0) (ad 0 0) (ad 7 1) eo (ad 3) b T P hn hnc hl0 (ad 4) p3 T3 i6.1.red i6.1.cok) rfl rfl dL_law_1003 (Nat.le_of_ble_eq_true rfl) ⟨(Nat.le_of_ble_eq_true rfl), (Nat.le_of_ble_eq_true rfl)⟩ ⟨by omega, by omega⟩ (fun _ _ hx => hx.elim) (fun v w hq => ?_)
  have hbr := (bays_rel i6.1.1 hb9 (pCodes P) (pNc P) ((re, st, dn, sk, fu) : TS)).1
  obtain ⟨hv, T4, p4, rfl⟩ := hq
  rw [hbr] at hv
  subst hv
  clear hbr
  refine A_backN (LWb g ad eo p n len B s cnt nx sp sT T b P pr p4 T4 f S E9 D9 d fu R sk re st dn) (N := 20) rfl [[(ad 7 0, .inr (6, [.ref (ad 0 0), .ref (ad 7 1), .ref (ad 3 0), .ref (ad 4 0), .int eo]))], tunW g (ad 3) (b 0) T, planW g b P, tunW g (ad 4) p4 T4] [0, 4, 6, 5, 1, 2, 3, 7, 8, 9, 10, 11, 12, 13, 14, 15, 16, 17, 18, 19] (by decide +kernel) rfl rfl ?_
  refine A_aload_n okb rfl dL_law_1006 (gps (gps gp0)) ?_
  refine A_cutN (N := 20) rfl [[moC (ad 5) S], [(ad 5 7, .inl (g.2.1 0, 12, .inl re))], [(ad 5 8, .inl (g.2.1 3, 20, .inl st))], [(ad 5 9, .inl (g.2.1 3, 20, .inl dn))], [(ad 5 6, .inl (g.2.1 1, 1300, .inr (.inl sk)))], [(ad 5 4, .inl (g.2.1 0, 1476, .inl fu))], [(ad 5 2, .inl (g.2.1 0, 1476, .inl d))]] [[(ad 7 0, .inr (6, [.ref (ad 0 0), .ref (ad 7 1), .ref (ad 3 0), .ref (ad 4 0), .int eo]))], rdT g (ad 0) (ad 1) (ad 2) p (nI n) len B s, hsW g (ad 7 1) (ad 7 2) cnt nx (fun j => ad (8 + j) 0), svs g ad sp sT, tunW g (ad 3) (b 0) T, tunW g (ad 4) p4 T4, planW g b P, plsW g pr, ouW g (ad 7 3) f, [(ad 5 1, .inl (g.2.1 0, 800, .inl E9))], [(ad 5 3, .inl (g.2.1 0, 1476, .inl D9))], [(ad 5 5, .inl (g.2.1 5, 8, .inr (.inr (.inr (.inr (fun j => some (ad 6 j)))))))], rowsW g (ad 6) R] [9, 17, 18, 19, 16, 13, 11, 0, 1, 2, 3, 4, 5, 6, 7, 8, 10, 12, 14, 15] (wc := fuW g (ad 5) S (re, st, dn, sk, fu) d) (by decide +kernel) rfl rfl ?_
  refine A_preVB okb _ _ (As := []) mf_X7_bestBays ml_L_161 in_X7_bestBays se_X7_bestBays cf7 (gp_app gp0) (r_bestBays l g (ad 5) S ((re, st, dn, sk, fu) : TS) d (pN P) (pCar P) hn hnc (pCodes P) (pNc P) i6.1.tk) rfl rfl dL_law_1007 (Nat.le_of_ble_eq_true rfl) ⟨(Nat.le_of_ble_eq_true rfl), (Nat.le_of_ble_eq_true rfl)⟩ ⟨by omega, by omega⟩ (fun _ _ hx => hx.elim) (fun v w hq => ?_)
  obtain ⟨rfl, hw⟩ := hq
  obtain ⟨S9, X9, hS9, hw9⟩ := fb_out hw
  subst hw9
  refine A_backN (LWb g ad eo p n len B s cnt nx sp sT T b P pr p4 T4 f S9 E9 D9 d (X9.d) R (X9.sk) (X9.re) (X9.st) (X9.dr)) (N := 20) rfl [[moC (ad 5) S9], [(ad 5 7, .inl (g.2.1 0, 12, .inl (X9.re)))], [(ad 5 8, .inl (g.2.1 3, 20, .inl (X9.st)))], [(ad 5 9, .inl (g.2.1 3, 20, .inl (X9.dr)))], [(ad 5 6, .inl (g.2.1 1, 1300, .inr (.inl (X9.sk))))], [(ad 5 4, .inl (g.2.1 0, 1476, .inl (X9.d)))], [(ad 5 2, .inl (g.2.1 0, 1476, .inl d))]] [9, 17, 18, 19, 16, 13, 11, 0, 1, 2, 3, 4, 5, 6, 7, 8, 10, 12, 14, 15] (by decide +kernel) rfl rfl ?_
  refine A_icmp_eq okb (tgt := 1552) dL_law_1010 (by decide) (fun _ => ?_) (fun c => absurd rfl c)
  refine A_widen okb (cn2 := cn + 40) (sn2 := sn + 900) (by omega) (by omega) ?_
  exact hk eo p n len B s cnt nx sp sT T b P pr p4 T4 f S9 E9 D9 d (X9.d) R (X9.sk) (X9.re) (X9.st) (X9.dr) (LInv_keep inv (PE.r P) hS9)
set_option maxRecDepth 20000 in
set_option maxHeartbeats 4000000 in
theorem op_bestBayTime {l : Launch} {g : Gl} {ad : Nat → Nat → Nat} {A : Nat → Prop} {H0 : Heap} {K : KT} {bS L : Nat} {xs : Nat → Int32} {i cn sn : Nat} (ok : OkL l g A H0 K bS L xs) (hl0 : l.stackTraces = false) (hi : i + 6 ≤ L) (hL : L ≤ 3072) (hc : cn + 40 ≤ room_1.cells) (hs : sn + 900 ≤ room_1.slots) (hk : LKont g ad A H0 K bS i (cn + 40) (sn + 900)) {eo : Int32} {p : Nat} {n : Nat} {len : Nat} {B : Nat → Int32} {s : RS} {cnt : Nat} {nx : Nat} {sp : Nat → Nat} {sT : Nat → TD} {T : TD} {b : Nat → Nat} {P : PD} {pr : PL} {p3 : Nat} {T3 : TD} {f : Nat → Int64} {S : MS} {E9 : Nat → Int32} {D9 : Nat → Int32} {d : Nat → Int32} {fu : Nat → Int32} {R : Nat → Nat → Int32} {sk : Nat → Int64} {re : Nat → Int32} {st : Nat → Int32} {dn : Nat → Int32} (inv : LInv eo n B s cnt nx sp sT T b P pr S E9 d R) : AW g A H0 8 K 1015 (lvL ad bS i) [] (LWb g ad eo p n len B s cnt nx sp sT T b P pr p3 T3 f S E9 D9 d fu R sk re st dn).flatten cn sn := by
  obtain ⟨nm, okb⟩ := ok.b
  obtain ⟨i1, i2, i3, i4, i5, i6, i7, i8⟩ := id inv
  have hn := i6.1.n
  have hnc := i6.1.nc
  have hb9 : ∀ s, s < pN P → tBay T s = -1 ∨ tBay T s = 0 ∨ tBay T s = 1 := fun s hs => (i6.1.2.2.2.1.2.1 s hs).2.2.2
  refine A_aload_n okb rfl dL_law_1015 (gps gp0) ?_
  refine A_cutN (N := 20) rfl [[(ad 7 0, .inr (6, [.ref (ad 0 0), .ref (ad 7 1), .ref (ad 3 0), .ref (ad 4 0), .int eo]))], tunW g (ad 3) (b 0) T, planW g b P, tunW g (ad 4) p3 T3] [rdT g (ad 0) (ad 1) (ad 2) p (nI n) len B s, hsW g (ad 7 1) (ad 7 2) cnt nx (fun j => ad (8 + j) 0), svs g ad sp sT, plsW g pr, ouW g (ad 7 3) f, [moC (ad 5) S], [(ad 5 1, .inl (g.2.1 0, 800, .inl E9))], [(ad 5 2, .inl (g.2.1 0, 1476, .inl d))], [(ad 5 3, .inl (g.2.1 0, 1476, .inl D9))], [(ad 5 4, .inl (g.2.1 0, 1476, .inl fu))], [(ad 5 5, .inl (g.2.1 5, 8, .inr (.inr (.inr (.inr (fun j => some (ad 6 j)))))))], rowsW g (ad 6) R, [(ad 5 6, .inl (g.2.1 1, 1300, .inr (.inl sk)))], [(ad 5 7, .inl (g.2.1 0, 12, .inl re))], [(ad 5 8, .inl (g.2.1 3, 20, .inl st))], [(ad 5 9, .inl (g.2.1 3, 20, .inl dn))]] [0, 4, 6, 5, 1, 2, 3, 7, 8, 9, 10, 11, 12, 13, 14, 15, 16, 17, 18, 19] (wc := dkW g (ad 7 0) (ad 0 0) (ad 7 1) (ad 4 0) eo (ad 3) b T P ++ tunW g (ad 4) p3 T3) (by decide +kernel) rfl rfl ?_
  refine A_preVB okb _ _ (As := []) mf_X6_bestBayTime ml_L_162 in_X6_bestBayTime se_X6_bestBayTime cf6 (gp_app gp0) (c_bestBayTime l g (ad 7 0) (ad 0 0) (ad 7 1) eo (ad 3) b T P hn hnc hl0 (ad 4) p3 T3 i6.1.red i6.1.cok) rfl rfl dL_law_1016 (Nat.le_of_ble_eq_true rfl) ⟨(Nat.le_of_ble_eq_true rfl), (Nat.le_of_ble_eq_true rfl)⟩ ⟨by omega, by omega⟩ (fun _ _ hx => hx.elim) (fun v w hq => ?_)
  have hbr := (bays_rel i6.1.1 hb9 (pCodes P) (pNc P) ((re, st, dn, sk, fu) : TS)).2
  obtain ⟨hv, T4, p4, rfl⟩ := hq
  rw [hbr] at hv
  subst hv
  clear hbr
  refine A_backN (LWb g ad eo p n len B s cnt nx sp sT T b P pr p4 T4 f S E9 D9 d fu R sk re st dn) (N := 20) rfl [[(ad 7 0, .inr (6, [.ref (ad 0 0), .ref (ad 7 1), .ref (ad 3 0), .ref (ad 4 0), .int eo]))], tunW g (ad 3) (b 0) T, planW g b P, tunW g (ad 4) p4 T4] [0, 4, 6, 5, 1, 2, 3, 7, 8, 9, 10, 11, 12, 13, 14, 15, 16, 17, 18, 19] (by decide +kernel) rfl rfl ?_
  refine A_aload_n okb rfl dL_law_1019 (gps (gps gp0)) ?_
  refine A_cutN (N := 20) rfl [[moC (ad 5) S], [(ad 5 7, .inl (g.2.1 0, 12, .inl re))], [(ad 5 8, .inl (g.2.1 3, 20, .inl st))], [(ad 5 9, .inl (g.2.1 3, 20, .inl dn))], [(ad 5 6, .inl (g.2.1 1, 1300, .inr (.inl sk)))], [(ad 5 4, .inl (g.2.1 0, 1476, .inl fu))], [(ad 5 2, .inl (g.2.1 0, 1476, .inl d))]] [[(ad 7 0, .inr (6, [.ref (ad 0 0), .ref (ad 7 1), .ref (ad 3 0), .ref (ad 4 0), .int eo]))], rdT g (ad 0) (ad 1) (ad 2) p (nI n) len B s, hsW g (ad 7 1) (ad 7 2) cnt nx (fun j => ad (8 + j) 0), svs g ad sp sT, tunW g (ad 3) (b 0) T, tunW g (ad 4) p4 T4, planW g b P, plsW g pr, ouW g (ad 7 3) f, [(ad 5 1, .inl (g.2.1 0, 800, .inl E9))], [(ad 5 3, .inl (g.2.1 0, 1476, .inl D9))], [(ad 5 5, .inl (g.2.1 5, 8, .inr (.inr (.inr (.inr (fun j => some (ad 6 j)))))))], rowsW g (ad 6) R] [9, 17, 18, 19, 16, 13, 11, 0, 1, 2, 3, 4, 5, 6, 7, 8, 10, 12, 14, 15] (wc := fuW g (ad 5) S (re, st, dn, sk, fu) d) (by decide +kernel) rfl rfl ?_
  refine A_preVB okb _ _ (As := []) mf_X7_bestBayTime ml_L_165 in_X7_bestBayTime se_X7_bestBayTime cf7 (gp_app gp0) (r_bestBayTime l g (ad 5) S ((re, st, dn, sk, fu) : TS) d (pN P) (pCar P) hn hnc (pCodes P) (pNc P) i6.1.tk) rfl rfl dL_law_1020 (Nat.le_of_ble_eq_true rfl) ⟨(Nat.le_of_ble_eq_true rfl), (Nat.le_of_ble_eq_true rfl)⟩ ⟨by omega, by omega⟩ (fun _ _ hx => hx.elim) (fun v w hq => ?_)
  obtain ⟨rfl, hw⟩ := hq
  obtain ⟨S9, X9, hS9, hw9⟩ := fb_out hw
  subst hw9
  refine A_backN (LWb g ad eo p n len B s cnt nx sp sT T b P pr p4 T4 f S9 E9 D9 d (X9.d) R (X9.sk) (X9.re) (X9.st) (X9.dr)) (N := 20) rfl [[moC (ad 5) S9], [(ad 5 7, .inl (g.2.1 0, 12, .inl (X9.re)))], [(ad 5 8, .inl (g.2.1 3, 20, .inl (X9.st)))], [(ad 5 9, .inl (g.2.1 3, 20, .inl (X9.dr)))], [(ad 5 6, .inl (g.2.1 1, 1300, .inr (.inl (X9.sk))))], [(ad 5 4, .inl (g.2.1 0, 1476, .inl (X9.d)))], [(ad 5 2, .inl (g.2.1 0, 1476, .inl d))]] [9, 17, 18, 19, 16, 13, 11, 0, 1, 2, 3, 4, 5, 6, 7, 8, 10, 12, 14, 15] (by decide +kernel) rfl rfl ?_
  refine A_icmp_eq okb (tgt := 1552) dL_law_1023 (by decide) (fun _ => ?_) (fun c => absurd rfl c)
  refine A_widen okb (cn2 := cn + 40) (sn2 := sn + 900) (by omega) (by omega) ?_
  exact hk eo p n len B s cnt nx sp sT T b P pr p4 T4 f S9 E9 D9 d (X9.d) R (X9.sk) (X9.re) (X9.st) (X9.dr) (LInv_keep inv (PE.r P) hS9)
