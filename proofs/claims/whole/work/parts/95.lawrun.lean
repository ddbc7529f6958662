theorem ad_make (r i a c d m h x : Nat → Nat) (at_ : Nat → Nat → Nat) : ∃ ad : Nat → Nat → Nat, ad 0 = r ∧ ad 1 = i ∧ ad 2 = a ∧ ad 3 = c ∧ ad 4 = d ∧ ad 5 = m ∧ ad 6 = h ∧ ad 7 = x ∧ at_ = fun j => ad (8 + j) := by
  refine ⟨fun k => if k = 0 then r else if k = 1 then i else if k = 2 then a else if k = 3 then c else if k = 4 then d else if k = 5 then m else if k = 6 then h else if k = 7 then x else at_ (k - 8), rfl, rfl, rfl, rfl, rfl, rfl, rfl, rfl, ?_⟩
  funext j
  show at_ j = if 8 + j = 0 then r else if 8 + j = 1 then i else if 8 + j = 2 then a else if 8 + j = 3 then c else if 8 + j = 4 then d else if 8 + j = 5 then m else if 8 + j = 6 then h else if 8 + j = 7 then x else at_ (8 + j - 8)
  rw [if_neg (by omega), if_neg (by omega), if_neg (by omega), if_neg (by omega), if_neg (by omega), if_neg (by omega), if_neg (by omega), if_neg (by omega), Nat.add_sub_cancel_left]
def x4 (a b c d : Nat) : Nat → Nat
  | 0 => a
  | 1 => b
  | 2 => c
  | _ => d
theorem inv_start {b : Nat → Nat} : LInv (-1) 0 (fun _ => 0) RS0 0 0 (fun _ => b 0) (fun _ => T0) T0 b P0 ([]) MS0 (fun _ => 0) (upd (fun _ => 0) 4 (-1)) (fun _ _ => 0) :=
  ⟨rfl, rfl, Nat.zero_le _, ⟨Nat.zero_le _, fun _ _ _ _ => Or.inl rfl⟩, BRel_0, ⟨rel_none, by decide⟩, rfl, RingR.none⟩
theorem start_flat {g : Gl} {ad : Nat → Nat → Nat} {b : Nat → Nat} : (LWb g ad (-1) (b 0) 0 0 (fun _ => 0) RS0 0 0 (fun _ => b 0) (fun _ => T0) T0 b P0 ([]) (b 0) T0 (fun _ => 0) MS0 (fun _ => 0) (fun _ => 0) (upd (fun _ => 0) 4 (-1)) (fun _ => 0) (fun _ _ => 0) (fun _ => 0) (fun _ => 0) (fun _ => 0) (fun _ => 0)).flatten = ([[(ad 7 0, .inr (6, [.ref (ad 0 0), .ref (ad 7 1), .ref (ad 3 0), .ref (ad 4 0), .int (-1)]))], rdT g (ad 0) (ad 1) (ad 2) (b 0) (nI 0) 0 (fun _ => 0) RS0, hsW g (ad 7 1) (ad 7 2) 0 0 (fun j => ad (8 + j) 0), svs g ad (fun _ => b 0) (fun _ => T0), tunW g (ad 3) (b 0) T0, tunW g (ad 4) (b 0) T0, planW g b P0, plsW g ([]), ouW g (ad 7 3) (fun _ => 0), allW g (ad 5) (ad 6) MS0 (fun _ => 0) (fun _ => 0) TS0 (fun _ => 0) (fun _ _ => 0)] : List va_W).flatten := rfl
theorem start_world {g : Gl} {ad : Nat → Nat → Nat} {b : Nat → Nat} : ((((([(ad 7 0, .inr (6, [.ref (ad 0 0), .ref (ad 7 1), .ref (ad 3 0), .ref (ad 4 0), .int (-1)]))] ++ planW g b P0) ++ rdT g (ad 0) (ad 1) (ad 2) (b 0) 0 0 (fun _ => 0) RS0) ++ (hsW g (ad 7 1) (ad 7 2) 0 0 (fun j => ad (8 + j) 0) ++ tunsW g (fun j => ad (8 + j)) (b 0) 8)) ++ tunW g (ad 3) (b 0) T0) ++ tunW g (ad 4) (b 0) T0 : va_W) ++ allW g (ad 5) (ad 6) MS0 (fun _ => 0) (fun _ => 0) TS0 (fun _ => 0) (fun _ _ => 0) ++ ouW g (ad 7 3) (fun _ => 0) = ([[(ad 7 0, .inr (6, [.ref (ad 0 0), .ref (ad 7 1), .ref (ad 3 0), .ref (ad 4 0), .int (-1)]))], planW g b P0, rdT g (ad 0) (ad 1) (ad 2) (b 0) (nI 0) 0 (fun _ => 0) RS0, hsW g (ad 7 1) (ad 7 2) 0 0 (fun j => ad (8 + j) 0), svs g ad (fun _ => b 0) (fun _ => T0), tunW g (ad 3) (b 0) T0, tunW g (ad 4) (b 0) T0, plsW g ([]), allW g (ad 5) (ad 6) MS0 (fun _ => 0) (fun _ => 0) TS0 (fun _ => 0) (fun _ _ => 0), ouW g (ad 7 3) (fun _ => 0)] : List va_W).flatten := by
  have e1 : tunsW g (fun j => ad (8 + j)) (b 0) 8 = svs g ad (fun _ => b 0) (fun _ => T0) := rfl
  have e2 : plsW g ([]) = [] := rfl
  rw [e1, e2]
  simp only [List.flatten_cons, List.flatten_nil, List.append_assoc, List.append_nil, List.nil_append]
  rfl
set_option maxRecDepth 20000 in
set_option maxHeartbeats 8000000 in
theorem law_run {l : Launch} {g : Gl} {A : Nat → Prop} {H0 : Heap} {K : KT} {bS L : Nat} {xs : Nat → Int32} (ok : OkL l g A H0 K bS L xs) (hl0 : l.stackTraces = false) (hL : L ≤ 3072) : AW g A H0 8 K 0 [some (.ref bS), none, none, none, none, none, none, none] [] [] 0 0 := by
  obtain ⟨nm, okb⟩ := ok.b
  refine A_new okb cf6 cl_L_8 it_X6 ii_X6 df_X6 (Nat.le_of_ble_eq_true rfl) (Nat.le_of_ble_eq_true rfl) dL_law_0 (fun q0 => ?_)
  refine A_dup okb dL_law_3 rfl ?_
  refine A_lastIB okb (As := []) [] [(q0, .inr (6, [.null, .null, .null, .null, .int 0]))] mf_X6_init ml_L_76 in_X6_init rfl (c_X6init l g q0) rfl rfl dL_law_4 (Nat.le_of_ble_eq_true rfl) ⟨(Nat.le_of_ble_eq_true rfl), (Nat.le_of_ble_eq_true rfl)⟩ ⟨(Nat.le_of_ble_eq_true rfl), (Nat.le_of_ble_eq_true rfl)⟩ (fun _ _ hx => hx.elim) (fun v4 w4 hq4 => ?_)
  obtain ⟨b, r, i, a, c, d, h0, h1, at_, rfl, rfl⟩ := hq4
  refine A_astore_n okb rfl dL_law_7 (by decide) (sts1 rfl st0) ?_
  rw [List.nil_append]
  generalize hW : ((((([(q0, .inr (6, [.ref (r 0), .ref h0, .ref (c 0), .ref (d 0), .int (-1)]))] ++ planW g b P0) ++ rdT g r i a (b 0) 0 0 (fun _ => 0) RS0) ++ (hs0 g h0 h1 at_ 8 ++ tunsW g at_ (b 0) 8)) ++ tunW g c (b 0) T0) ++ tunW g d (b 0) T0 : va_W) = W
  refine A_new okb cf7 cl_L_77 it_X7 ii_X7 df_X7 (Nat.le_of_ble_eq_true rfl) (Nat.le_of_ble_eq_true rfl) dL_law_8 (fun q1 => ?_)
  refine A_dup okb dL_law_11 rfl ?_
  refine A_lastIB okb (As := []) W [(q1, .inr (7, [.int 0, .null, .int 0, .int 0, .int 0, .int 0, .int 0, .int 0, .null, .null, .null, .null, .int 0, .int 0, .int 0, .int 0, .int 0, .null, .null, .null, .null, .int 0, .int 0]))] mf_X7_init ml_L_79 in_X7_init rfl (r_init l g q1) rfl rfl dL_law_12 (Nat.le_of_ble_eq_true rfl) ⟨(Nat.le_of_ble_eq_true rfl), (Nat.le_of_ble_eq_true rfl)⟩ ⟨(Nat.le_of_ble_eq_true rfl), (Nat.le_of_ble_eq_true rfl)⟩ (fun _ _ hx => hx.elim) (fun v12 w12 hq12 => ?_)
  obtain ⟨m, h, rf, hrf, hm0, rfl, rfl⟩ := hq12
  refine A_astore_n okb rfl dL_law_15 (by decide) (sts (sts1 rfl st0)) ?_
  refine A_iconst okb (v := 1) dL_law_16 (by decide) ?_
  refine A_newaJ okb (N := 1) (by decide) rfl (by decide) (Nat.le_of_ble_eq_true rfl) (Nat.le_of_ble_eq_true rfl) dL_law_17 (fun q2 => ?_)
  refine A_astore_n okb rfl dL_law_19 (by decide) (sts (sts (sts1 rfl st0))) ?_
  refine A_iconst okb (v := 0) dL_law_20 (by decide) ?_
  refine A_istore okb dL_law_21 (by decide) (sts (sts (sts (sts1 rfl st0)))) ?_
  subst hW
  obtain ⟨ad, a0, a1, a2, a3, a4, a5, a6, a7, a8⟩ := ad_make r i a c d m h (x4 q0 h0 h1 q2) at_
  subst a0 a1 a2 a3 a4 a5 a6 a8
  have e0 : q0 = ad 7 0 := by rw [a7]; rfl
  have e1 : h0 = ad 7 1 := by rw [a7]; rfl
  have e2 : h1 = ad 7 2 := by rw [a7]; rfl
  have e3 : q2 = ad 7 3 := by rw [a7]; rfl
  clear a7
  subst e0 e1 e2 e3 hm0
  refine A_ext (ws2 := (((((([(ad 7 0, .inr (6, [.ref (ad 0 0), .ref (ad 7 1), .ref (ad 3 0), .ref (ad 4 0), .int (-1)]))] ++ planW g b P0) ++ rdT g (ad 0) (ad 1) (ad 2) (b 0) 0 0 (fun _ => 0) RS0) ++ (hsW g (ad 7 1) (ad 7 2) 0 0 (fun j => ad (8 + j) 0) ++ tunsW g (fun j => ad (8 + j)) (b 0) 8)) ++ tunW g (ad 3) (b 0) T0) ++ tunW g (ad 4) (b 0) T0 : va_W) ++ allW g (ad 5) (ad 6) MS0 (fun _ => 0) (fun _ => 0) TS0 (fun _ => 0) (fun _ _ => 0) ++ ouW g (ad 7 3) (fun _ => 0))) (weq_app (weq_app (weq_app (weq_app (weq_app (weq_r _) (weq_app (weqs (weqc (ceq_q (fun j hj => if_pos hj)) weq0)) (weq_r _))) (weq_r _)) (weq_r _)) (weqs (weqs (weqs (weqs (weqs (weqc (ceq_q (fun j hj => hrf j hj)) (weq_r _)))))))) (weq_r _)) ?_
  rw [start_world]
  refine A_blk [0, 2, 3, 4, 5, 6, 1, 7, 9, 8] (bs2 := [[(ad 7 0, .inr (6, [.ref (ad 0 0), .ref (ad 7 1), .ref (ad 3 0), .ref (ad 4 0), .int (-1)]))], rdT g (ad 0) (ad 1) (ad 2) (b 0) (nI 0) 0 (fun _ => 0) RS0, hsW g (ad 7 1) (ad 7 2) 0 0 (fun j => ad (8 + j) 0), svs g ad (fun _ => b 0) (fun _ => T0), tunW g (ad 3) (b 0) T0, tunW g (ad 4) (b 0) T0, planW g b P0, plsW g ([]), ouW g (ad 7 3) (fun _ => 0), allW g (ad 5) (ad 6) MS0 (fun _ => 0) (fun _ => 0) TS0 (fun _ => 0) (fun _ _ => 0)]) (show List.isPerm [0, 2, 3, 4, 5, 6, 1, 7, 9, 8] (List.range 10) = true by decide +kernel) rfl ?_
  rw [← start_flat]
  refine A_widen okb (cn2 := 200) (sn2 := 30000) (Nat.le_of_ble_eq_true rfl) (Nat.le_of_ble_eq_true rfl) ?_
  exact law_loop ok hl0 hL 513 0 200 30000 (Nat.zero_le _) (by omega) (Nat.le_of_ble_eq_true rfl) (Nat.le_of_ble_eq_true rfl) (-1) (b 0) 0 0 (fun _ => 0) RS0 0 0 (fun _ => b 0) (fun _ => T0) T0 b P0 ([]) (b 0) T0 (fun _ => 0) MS0 (fun _ => 0) (fun _ => 0) (upd (fun _ => 0) 4 (-1)) (fun _ => 0) (fun _ _ => 0) (fun _ => 0) (fun _ => 0) (fun _ => 0) (fun _ => 0) inv_start
