theorem r_undoS (l : Launch) (g : Gl) (m h : Nat → Nat) (s : MS) (d : Nat → Int32) (R : Nat → Nat → Int32) (hu : s.ud ≤ 8) (h0 : ¬ s.ud = 0) : Ct l g yX7_undo cX7_undo 1 (some .int) 1 40 0 0 [.ref (m 0)] (hiW g m h (s) (d) (R)) (fun v w => v = some (.int (nI (s.ud - 1))) ∧ w = (hiW g m h ((s.wth 0).wud (s.ud - 1)) (R (s.ud - 1)) (R))) noX := by
  have h9 : s.ud = 1 ∨ s.ud = 2 ∨ s.ud = 3 ∨ s.ud = 4 ∨ s.ud = 5 ∨ s.ud = 6 ∨ s.ud = 7 ∨ s.ud = 8 := by omega
  rcases h9 with e | e | e | e | e | e | e | e
  · have q := r_undo1 l g m h s d R e
    rw [e]; exact q
  · have q := r_undo2 l g m h s d R e
    rw [e]; exact q
  · have q := r_undo3 l g m h s d R e
    rw [e]; exact q
  · have q := r_undo4 l g m h s d R e
    rw [e]; exact q
  · have q := r_undo5 l g m h s d R e
    rw [e]; exact q
  · have q := r_undo6 l g m h s d R e
    rw [e]; exact q
  · have q := r_undo7 l g m h s d R e
    rw [e]; exact q
  · have q := r_undo8 l g m h s d R e
    rw [e]; exact q
/-- .. the current tunnel at the plan x9 -/
def LWb5 (g : Gl) (ad : Nat → Nat → Nat) (j q9 : Nat) (T9 : TD) (x9 : Nat) (eo : Int32) (p : Nat) (n : Nat) (len : Nat) (B : Nat → Int32) (s : RS) (cnt : Nat) (nx : Nat) (sp : Nat → Nat) (sT : Nat → TD) (T : TD) (b : Nat → Nat) (P : PD) (pr : PL) (p3 : Nat) (T3 : TD) (f : Nat → Int64) (S : MS) (E9 : Nat → Int32) (D9 : Nat → Int32) (d : Nat → Int32) (fu : Nat → Int32) (R : Nat → Nat → Int32) (sk : Nat → Int64) (re : Nat → Int32) (st : Nat → Int32) (dn : Nat → Int32) : List va_W := [[(ad 7 0, .inr (6, [.ref (ad 0 0), .ref (ad 7 1), .ref (ad 3 0), .ref (ad 4 0), .int eo]))], rdT g (ad 0) (ad 1) (ad 2) p (nI n) len B s, hsW g (ad 7 1) (ad 7 2) cnt nx (fun j => ad (8 + j) 0), tunW g (ad (8 + j)) q9 T9, svr g ad sp sT j, tunW g (ad 3) x9 T, tunW g (ad 4) p3 T3, planW g b P, plsW g pr, ouW g (ad 7 3) f, [moC (ad 5) S], [(ad 5 1, .inl (g.2.1 0, 800, .inl E9))], [(ad 5 2, .inl (g.2.1 0, 1476, .inl d))], [(ad 5 3, .inl (g.2.1 0, 1476, .inl D9))], [(ad 5 4, .inl (g.2.1 0, 1476, .inl fu))], [(ad 5 5, .inl (g.2.1 5, 8, .inr (.inr (.inr (.inr (fun j => some (ad 6 j)))))))], rowsW g (ad 6) R, [(ad 5 6, .inl (g.2.1 1, 1300, .inr (.inl sk)))], [(ad 5 7, .inl (g.2.1 0, 12, .inl re))], [(ad 5 8, .inl (g.2.1 3, 20, .inl st))], [(ad 5 9, .inl (g.2.1 3, 20, .inl dn))]]
/-- .. a further plan -/
def LWb4 (g : Gl) (ad : Nat → Nat → Nat) (j q9 : Nat) (T9 : TD) (b0 : Nat → Nat) (P9 : PD) (eo : Int32) (p : Nat) (n : Nat) (len : Nat) (B : Nat → Int32) (s : RS) (cnt : Nat) (nx : Nat) (sp : Nat → Nat) (sT : Nat → TD) (T : TD) (b : Nat → Nat) (P : PD) (pr : PL) (p3 : Nat) (T3 : TD) (f : Nat → Int64) (S : MS) (E9 : Nat → Int32) (D9 : Nat → Int32) (d : Nat → Int32) (fu : Nat → Int32) (R : Nat → Nat → Int32) (sk : Nat → Int64) (re : Nat → Int32) (st : Nat → Int32) (dn : Nat → Int32) : List va_W := [[(ad 7 0, .inr (6, [.ref (ad 0 0), .ref (ad 7 1), .ref (ad 3 0), .ref (ad 4 0), .int eo]))], rdT g (ad 0) (ad 1) (ad 2) p (nI n) len B s, hsW g (ad 7 1) (ad 7 2) cnt nx (fun j => ad (8 + j) 0), tunW g (ad (8 + j)) q9 T9, svr g ad sp sT j, tunW g (ad 3) (b 0) T, tunW g (ad 4) p3 T3, planW g b P, planW g b0 P9, plsW g pr, ouW g (ad 7 3) f, [moC (ad 5) S], [(ad 5 1, .inl (g.2.1 0, 800, .inl E9))], [(ad 5 2, .inl (g.2.1 0, 1476, .inl d))], [(ad 5 3, .inl (g.2.1 0, 1476, .inl D9))], [(ad 5 4, .inl (g.2.1 0, 1476, .inl fu))], [(ad 5 5, .inl (g.2.1 5, 8, .inr (.inr (.inr (.inr (fun j => some (ad 6 j)))))))], rowsW g (ad 6) R, [(ad 5 6, .inl (g.2.1 1, 1300, .inr (.inl sk)))], [(ad 5 7, .inl (g.2.1 0, 12, .inl re))], [(ad 5 8, .inl (g.2.1 3, 20, .inl st))], [(ad 5 9, .inl (g.2.1 3, 20, .inl dn))]]
theorem LW_pool {g : Gl} {ad : Nat → Nat → Nat} {j q9 : Nat} {T9 : TD} {b0 : Nat → Nat} {P9 : PD} {eo : Int32} {p : Nat} {n : Nat} {len : Nat} {B : Nat → Int32} {s : RS} {cnt : Nat} {nx : Nat} {sp : Nat → Nat} {sT : Nat → TD} {T : TD} {b : Nat → Nat} {P : PD} {pr : PL} {p3 : Nat} {T3 : TD} {f : Nat → Int64} {S : MS} {E9 : Nat → Int32} {D9 : Nat → Int32} {d : Nat → Int32} {fu : Nat → Int32} {R : Nat → Nat → Int32} {sk : Nat → Int64} {re : Nat → Int32} {st : Nat → Int32} {dn : Nat → Int32} : (LWb4 g ad j q9 T9 b0 P9 eo p n len B s cnt nx sp sT T b P pr p3 T3 f S E9 D9 d fu R sk re st dn).flatten = (LWb2 g ad j q9 T9 eo p n len B s cnt nx sp sT T b P ((b0, P9) :: pr) p3 T3 f S E9 D9 d fu R sk re st dn).flatten := by
  simp only [LWb4, LWb2, List.flatten_cons, pls_cons, List.append_assoc]
theorem LW_undo {g : Gl} {ad : Nat → Nat → Nat} {j q9 : Nat} {T9 : TD} {x9 : Nat} {eo : Int32} {p : Nat} {n : Nat} {len : Nat} {B : Nat → Int32} {s : RS} {cnt : Nat} {nx : Nat} {sp : Nat → Nat} {sT : Nat → TD} {T : TD} {b : Nat → Nat} {P : PD} {pr : PL} {p3 : Nat} {T3 : TD} {f : Nat → Int64} {S : MS} {E9 : Nat → Int32} {D9 : Nat → Int32} {d : Nat → Int32} {fu : Nat → Int32} {R : Nat → Nat → Int32} {sk : Nat → Int64} {re : Nat → Int32} {st : Nat → Int32} {dn : Nat → Int32} {b1 : Nat → Nat} {P1 : PD} {pr1 : PL} (hx : x9 = b1 0) (hp : ((b, P) :: pr).Perm ((b1, P1) :: pr1)) : (LWb5 g ad j q9 T9 x9 eo p n len B s cnt nx sp sT T b P pr p3 T3 f S E9 D9 d fu R sk re st dn).flatten.Perm (LWb2 g ad j q9 T9 eo p n len B s cnt nx sp sT T b1 P1 pr1 p3 T3 f S E9 D9 d fu R sk re st dn).flatten := by
  have h := fun X : va_W => (pls_perm (g := g) hp).append_right X
  simp only [pls_cons, List.append_assoc] at h
  subst hx
  simp only [LWb5, LWb2, List.flatten_cons]
  repeat refine List.Perm.append_left _ ?_
  exact h _
set_option maxRecDepth 20000 in
set_option maxHeartbeats 4000000 in
theorem op_undo {l : Launch} {g : Gl} {ad : Nat → Nat → Nat} {A : Nat → Prop} {H0 : Heap} {K : KT} {bS L : Nat} {xs : Nat → Int32} {i cn sn : Nat} (ok : OkL l g A H0 K bS L xs) (hl0 : l.stackTraces = false) (hi : i + 6 ≤ L) (hL : L ≤ 3072) (hc : cn + 40 ≤ room_1.cells) (hs : sn + 900 ≤ room_1.slots) (hk : LKont g ad A H0 K bS i (cn + 40) (sn + 900)) {eo : Int32} {p : Nat} {n : Nat} {len : Nat} {B : Nat → Int32} {s : RS} {cnt : Nat} {nx : Nat} {sp : Nat → Nat} {sT : Nat → TD} {T : TD} {b : Nat → Nat} {P : PD} {pr : PL} {p3 : Nat} {T3 : TD} {f : Nat → Int64} {S : MS} {E9 : Nat → Int32} {D9 : Nat → Int32} {d : Nat → Int32} {fu : Nat → Int32} {R : Nat → Nat → Int32} {sk : Nat → Int64} {re : Nat → Int32} {st : Nat → Int32} {dn : Nat → Int32} (inv : LInv eo n B s cnt nx sp sT T b P pr S E9 d R) : AW g A H0 8 K 1525 (lvL ad bS i) [] (LWb g ad eo p n len B s cnt nx sp sT T b P pr p3 T3 f S E9 D9 d fu R sk re st dn).flatten cn sn := by
  obtain ⟨nm, okb⟩ := ok.b
  obtain ⟨i1, i2, i3, i4, i5, i6, i7, i8⟩ := id inv
  have hn := i6.1.n
  have hnc := i6.1.nc
  have hu : S.ud ≤ 8 := by rw [← i7]; exact i8.1
  have hq7 : (nx + 7) % 8 < 8 := Nat.mod_lt _ (by decide)
  refine A_perm (LW_open (j := (nx + 7) % 8) hq7) ?_
  refine A_aload_n okb rfl dL_law_1525 (gps gp0) ?_
  refine A_cutN (N := 21) rfl [[(ad 7 0, .inr (6, [.ref (ad 0 0), .ref (ad 7 1), .ref (ad 3 0), .ref (ad 4 0), .int eo]))], tunW g (ad 3) (b 0) T, planW g b P, hsW g (ad 7 1) (ad 7 2) cnt nx (fun j => ad (8 + j) 0), tunW g (ad (8 + ((nx + 7) % 8))) (sp ((nx + 7) % 8)) (sT ((nx + 7) % 8))] [rdT g (ad 0) (ad 1) (ad 2) p (nI n) len B s, svr g ad sp sT ((nx + 7) % 8), tunW g (ad 4) p3 T3, plsW g pr, ouW g (ad 7 3) f, [moC (ad 5) S], [(ad 5 1, .inl (g.2.1 0, 800, .inl E9))], [(ad 5 2, .inl (g.2.1 0, 1476, .inl d))], [(ad 5 3, .inl (g.2.1 0, 1476, .inl D9))], [(ad 5 4, .inl (g.2.1 0, 1476, .inl fu))], [(ad 5 5, .inl (g.2.1 5, 8, .inr (.inr (.inr (.inr (fun j => some (ad 6 j)))))))], rowsW g (ad 6) R, [(ad 5 6, .inl (g.2.1 1, 1300, .inr (.inl sk)))], [(ad 5 7, .inl (g.2.1 0, 12, .inl re))], [(ad 5 8, .inl (g.2.1 3, 20, .inl st))], [(ad 5 9, .inl (g.2.1 3, 20, .inl dn))]] [0, 5, 7, 2, 3, 1, 4, 6, 8, 9, 10, 11, 12, 13, 14, 15, 16, 17, 18, 19, 20] (wc := dkW g (ad 7 0) (ad 0 0) (ad 7 1) (ad 4 0) eo (ad 3) b T P ++ (hsW g (ad 7 1) (ad 7 2) cnt nx (fun j => ad (8 + j) 0) ++ tunW g (ad (8 + ((nx + 7) % 8))) (sp ((nx + 7) % 8)) (sT ((nx + 7) % 8)))) (by decide +kernel) rfl rfl ?_
  by_cases hc0 : cnt = 0
  · have hu0 : S.ud = 0 := by rw [← i7]; exact hc0
    refine A_preVB okb _ _ (As := []) mf_X6_undo ml_L_189 in_X6_undo se_X6_undo cf6 (gp_app gp0) (c_undo0 l g (ad 7 0) (ad 0 0) (ad 7 1) (ad 4 0) eo (ad 3) b T P hn hnc hl0 (ad 7 2) cnt nx (fun j => ad (8 + j) 0) (ad (8 + (nx + 7) % 8)) (sp ((nx + 7) % 8)) (sT ((nx + 7) % 8)) i8.1 i8.2.1 rfl (i4.2 _ hq7) hc0) rfl rfl dL_law_1526 (Nat.le_of_ble_eq_true rfl) ⟨(Nat.le_of_ble_eq_true rfl), (Nat.le_of_ble_eq_true rfl)⟩ ⟨by omega, by omega⟩ (fun _ _ hx => hx.elim) (fun v w hq => ?_)
    obtain ⟨rfl, rfl⟩ := hq
    refine A_backN (LWb2 g ad ((nx + 7) % 8) (sp ((nx + 7) % 8)) (sT ((nx + 7) % 8)) eo p n len B s cnt nx sp sT T b P pr p3 T3 f S E9 D9 d fu R sk re st dn) (N := 21) rfl [[(ad 7 0, .inr (6, [.ref (ad 0 0), .ref (ad 7 1), .ref (ad 3 0), .ref (ad 4 0), .int eo]))], tunW g (ad 3) (b 0) T, planW g b P, hsW g (ad 7 1) (ad 7 2) cnt nx (fun j => ad (8 + j) 0), tunW g (ad (8 + ((nx + 7) % 8))) (sp ((nx + 7) % 8)) (sT ((nx + 7) % 8))] [0, 5, 7, 2, 3, 1, 4, 6, 8, 9, 10, 11, 12, 13, 14, 15, 16, 17, 18, 19, 20] (by decide +kernel) rfl rfl ?_
    refine A_perm (LW_open (j := (nx + 7) % 8) hq7).symm ?_
    refine A_aload_n okb rfl dL_law_1529 (gps (gps gp0)) ?_
    refine A_cutN (N := 20) rfl [[moC (ad 5) S], [(ad 5 2, .inl (g.2.1 0, 1476, .inl d))], [(ad 5 5, .inl (g.2.1 5, 8, .inr (.inr (.inr (.inr (fun j => some (ad 6 j)))))))], rowsW g (ad 6) R] [[(ad 7 0, .inr (6, [.ref (ad 0 0), .ref (ad 7 1), .ref (ad 3 0), .ref (ad 4 0), .int eo]))], rdT g (ad 0) (ad 1) (ad 2) p (nI n) len B s, hsW g (ad 7 1) (ad 7 2) cnt nx (fun j => ad (8 + j) 0), svs g ad sp sT, tunW g (ad 3) (b 0) T, tunW g (ad 4) p3 T3, planW g b P, plsW g pr, ouW g (ad 7 3) f, [(ad 5 1, .inl (g.2.1 0, 800, .inl E9))], [(ad 5 3, .inl (g.2.1 0, 1476, .inl D9))], [(ad 5 4, .inl (g.2.1 0, 1476, .inl fu))], [(ad 5 6, .inl (g.2.1 1, 1300, .inr (.inl sk)))], [(ad 5 7, .inl (g.2.1 0, 12, .inl re))], [(ad 5 8, .inl (g.2.1 3, 20, .inl st))], [(ad 5 9, .inl (g.2.1 3, 20, .inl dn))]] [9, 11, 14, 15, 0, 1, 2, 3, 4, 5, 6, 7, 8, 10, 12, 13, 16, 17, 18, 19] (wc := hiW g (ad 5) (ad 6) S d R) (by decide +kernel) rfl rfl ?_
    refine A_preVB okb _ _ (As := []) mf_X7_undo ml_L_192 in_X7_undo se_X7_undo cf7 (gp_app gp0) (r_undo0 l g (ad 5) (ad 6) S d R hu0) rfl rfl dL_law_1530 (Nat.le_of_ble_eq_true rfl) ⟨(Nat.le_of_ble_eq_true rfl), (Nat.le_of_ble_eq_true rfl)⟩ ⟨by omega, by omega⟩ (fun _ _ hx => hx.elim) (fun v w hq => ?_)
    obtain ⟨rfl, rfl⟩ := hq
    refine A_backN (LWb g ad eo p n len B s cnt nx sp sT T b P pr p3 T3 f (S.wth 0) E9 D9 d fu R sk re st dn) (N := 20) rfl [[moC (ad 5) (S.wth 0)], [(ad 5 2, .inl (g.2.1 0, 1476, .inl d))], [(ad 5 5, .inl (g.2.1 5, 8, .inr (.inr (.inr (.inr (fun j => some (ad 6 j)))))))], rowsW g (ad 6) R] [9, 11, 14, 15, 0, 1, 2, 3, 4, 5, 6, 7, 8, 10, 12, 13, 16, 17, 18, 19] (by decide +kernel) rfl rfl ?_
    refine A_icmp_eq okb (tgt := 1552) dL_law_1533 (by decide) (fun _ => ?_) (fun c => absurd rfl c)
    refine A_widen okb (cn2 := cn + 40) (sn2 := sn + 900) (by omega) (by omega) ?_
    exact hk eo p n len B s cnt nx sp sT T b P pr p3 T3 f (S.wth 0) E9 D9 d fu R sk re st dn (inv)
  · have hu0 : ¬ S.ud = 0 := by rw [← i7]; exact hc0
    refine A_preVB okb _ _ (As := []) mf_X6_undo ml_L_189 in_X6_undo se_X6_undo cf6 (gp_app gp0) (c_undoS l g (ad 7 0) (ad 0 0) (ad 7 1) (ad 4 0) eo (ad 3) b T P hn hnc hl0 (ad 7 2) cnt nx (fun j => ad (8 + j) 0) (ad (8 + (nx + 7) % 8)) (sp ((nx + 7) % 8)) (sT ((nx + 7) % 8)) i8.1 i8.2.1 rfl (i4.2 _ hq7) hc0) rfl rfl dL_law_1526 (Nat.le_of_ble_eq_true rfl) ⟨(Nat.le_of_ble_eq_true rfl), (Nat.le_of_ble_eq_true rfl)⟩ ⟨by omega, by omega⟩ (fun _ _ hx => hx.elim) (fun v w hq => ?_)
    obtain ⟨rfl, rfl⟩ := hq
    refine A_backN (LWb5 g ad ((nx + 7) % 8) (sp ((nx + 7) % 8)) (sT ((nx + 7) % 8)) (sp ((nx + 7) % 8)) eo p n len B s (cnt - 1) ((nx + 7) % 8) sp sT (sT ((nx + 7) % 8)) b P pr p3 T3 f S E9 D9 d fu R sk re st dn) (N := 21) rfl [[(ad 7 0, .inr (6, [.ref (ad 0 0), .ref (ad 7 1), .ref (ad 3 0), .ref (ad 4 0), .int eo]))], tunW g (ad 3) (sp ((nx + 7) % 8)) (sT ((nx + 7) % 8)), planW g b P, hsW g (ad 7 1) (ad 7 2) (cnt - 1) ((nx + 7) % 8) (fun j => ad (8 + j) 0), tunW g (ad (8 + ((nx + 7) % 8))) (sp ((nx + 7) % 8)) (sT ((nx + 7) % 8))] [0, 5, 7, 2, 3, 1, 4, 6, 8, 9, 10, 11, 12, 13, 14, 15, 16, 17, 18, 19, 20] (by decide +kernel) rfl rfl ?_
    obtain ⟨⟨b1, P1, hm1, hs1, hr1⟩, hring⟩ := i8.last hc0
    obtain ⟨pr1, hp1⟩ := pool_pick hm1
    refine A_perm (LW_undo hs1 hp1) ?_
    refine A_perm (LW_open (j := (nx + 7) % 8) hq7).symm ?_
    refine A_aload_n okb rfl dL_law_1529 (gps (gps gp0)) ?_
    refine A_cutN (N := 20) rfl [[moC (ad 5) S], [(ad 5 2, .inl (g.2.1 0, 1476, .inl d))], [(ad 5 5, .inl (g.2.1 5, 8, .inr (.inr (.inr (.inr (fun j => some (ad 6 j)))))))], rowsW g (ad 6) R] [[(ad 7 0, .inr (6, [.ref (ad 0 0), .ref (ad 7 1), .ref (ad 3 0), .ref (ad 4 0), .int eo]))], rdT g (ad 0) (ad 1) (ad 2) p (nI n) len B s, hsW g (ad 7 1) (ad 7 2) (cnt - 1) ((nx + 7) % 8) (fun j => ad (8 + j) 0), svs g ad sp sT, tunW g (ad 3) (b1 0) (sT ((nx + 7) % 8)), tunW g (ad 4) p3 T3, planW g b1 P1, plsW g pr1, ouW g (ad 7 3) f, [(ad 5 1, .inl (g.2.1 0, 800, .inl E9))], [(ad 5 3, .inl (g.2.1 0, 1476, .inl D9))], [(ad 5 4, .inl (g.2.1 0, 1476, .inl fu))], [(ad 5 6, .inl (g.2.1 1, 1300, .inr (.inl sk)))], [(ad 5 7, .inl (g.2.1 0, 12, .inl re))], [(ad 5 8, .inl (g.2.1 3, 20, .inl st))], [(ad 5 9, .inl (g.2.1 3, 20, .inl dn))]] [9, 11, 14, 15, 0, 1, 2, 3, 4, 5, 6, 7, 8, 10, 12, 13, 16, 17, 18, 19] (wc := hiW g (ad 5) (ad 6) S d R) (by decide +kernel) rfl rfl ?_
    refine A_preVB okb _ _ (As := []) mf_X7_undo ml_L_192 in_X7_undo se_X7_undo cf7 (gp_app gp0) (r_undoS l g (ad 5) (ad 6) S d R hu hu0) rfl rfl dL_law_1530 (Nat.le_of_ble_eq_true rfl) ⟨(Nat.le_of_ble_eq_true rfl), (Nat.le_of_ble_eq_true rfl)⟩ ⟨by omega, by omega⟩ (fun _ _ hx => hx.elim) (fun v w hq => ?_)
    obtain ⟨rfl, rfl⟩ := hq
    refine A_backN (LWb g ad eo p n len B s (cnt - 1) ((nx + 7) % 8) sp sT (sT ((nx + 7) % 8)) b1 P1 pr1 p3 T3 f ((S.wth 0).wud (S.ud - 1)) E9 D9 (R (S.ud - 1)) fu R sk re st dn) (N := 20) rfl [[moC (ad 5) ((S.wth 0).wud (S.ud - 1))], [(ad 5 2, .inl (g.2.1 0, 1476, .inl (R (S.ud - 1))))], [(ad 5 5, .inl (g.2.1 5, 8, .inr (.inr (.inr (.inr (fun j => some (ad 6 j)))))))], rowsW g (ad 6) R] [9, 11, 14, 15, 0, 1, 2, 3, 4, 5, 6, 7, 8, 10, 12, 13, 16, 17, 18, 19] (by decide +kernel) rfl rfl ?_
    refine A_icmp_eq okb (tgt := 1552) dL_law_1533 (by decide) (fun _ => ?_) (fun c => absurd (by rw [i7]) c)
    refine A_widen okb (cn2 := cn + 40) (sn2 := sn + 900) (by omega) (by omega) ?_
    exact hk eo p n len B s (cnt - 1) ((nx + 7) % 8) sp sT (sT ((nx + 7) % 8)) b1 P1 pr1 p3 T3 f ((S.wth 0).wud (S.ud - 1)) E9 D9 (R (S.ud - 1)) fu R sk re st dn (⟨i1, i2, i3, i4, i5, by rw [← i7]; exact hr1, by show cnt - 1 = S.ud - 1; rw [i7], hring.le (PLe.perm hp1)⟩)
theorem ld_keep {B : Nat → Int32} {s : MS} {len : Nat} (hlen : len ≤ 800) : (ldF B (ldS s len)).1.th = 0 ∧ (ldF B (ldS s len)).1.bl = 0 ∧ (ldF B (ldS s len)).1.ud = s.ud := by
  have hJ : MJ (ldS s len) := ⟨Nat.zero_le _, hlen⟩
  have h1 : Ko (ldS s len) (ldF B (ldS s len)).1 := ((Kp_ldH (B := B) hJ).o hJ).t (Ko_li (B := B) 801 (ldH B (ldS s len)) ((Kp_ldH (B := B) hJ).mj hJ))
  generalize (ldF B (ldS s len)).1 = F at h1 ⊢
  have h4 := h1.2.2.2.2.2
  simp only [Prod.mk.injEq] at h4
  exact ⟨h4.1, h4.2.1, h4.2.2.2.1⟩
theorem LInv_load1 {eo : Int32} {n : Nat} {B : Nat → Int32} {s s2 : RS} {cnt nx : Nat} {sp : Nat → Nat} {sT : Nat → TD} {T : TD} {b b2 : Nat → Nat} {P : PD} {pr : PL} {S S2 : MS} {E9 d d2 : Nat → Int32} {R : Nat → Nat → Int32} (inv : LInv eo n B s cnt nx sp sT T b P pr S E9 d R) (hcc : s2.cc ≤ 800) (h2 : RelC s2.P s2.T d2) (hbl : S2.bl = 0) (hud : S2.ud = S.ud) : LInv (-1) 0 B s2 (cntS cnt) ((nx + 1) % 8) (uS sp nx (b 0)) (uS sT nx T) s2.T b2 s2.P ((b, P) :: pr) (reS (S2.weo (-1))) E9 d2 (reR S.ud d R) := by
  obtain ⟨i1, i2, i3, i4, i5, i6, i7, i8⟩ := inv
  refine ⟨(eo_reS (S2.weo (-1))).symm, ?_, Nat.zero_le _, ⟨hcc, fun j hj => ?_⟩, i5, h2, ?_, ?_⟩
  · rw [bl_reS]; exact hbl.symm
  · by_cases e : j = nx
    · subst e; rw [uS_eq]; exact i6.1.red
    · rw [uS_ne e]; exact i4.2 j hj
  · rcases cntS_reS (S := S2.weo (-1)) with e | e
    · rw [e]; show cntS cnt = cntS S2.ud; rw [hud, i7]
    · have e2 : 8 < S2.ud := e
      have := i8.1
      omega
  · rw [← i7]
    exact (i8.save List.mem_cons_self i6).le (PLe.cons (PLe.r _))
theorem LInv_load0 {eo eo2 : Int32} {n : Nat} {B : Nat → Int32} {s s2 : RS} {cnt nx : Nat} {sp : Nat → Nat} {sT : Nat → TD} {T : TD} {b b2 : Nat → Nat} {P P2 : PD} {pr : PL} {S S2 : MS} {E9 d : Nat → Int32} {R : Nat → Nat → Int32} (inv : LInv eo n B s cnt nx sp sT T b P pr S E9 d R) (hcc : s2.cc ≤ 800) (hbl : S2.bl = 0) (hud : S2.ud = S.ud) (heo : eo2 = S2.ea) : LInv eo2 0 B s2 cnt nx sp sT T b P ((b2, P2) :: pr) (S2.weo S2.ea) E9 d R := by
  obtain ⟨i1, i2, i3, i4, i5, i6, i7, i8⟩ := inv
  exact ⟨heo, hbl.symm, Nat.zero_le _, ⟨hcc, i4.2⟩, i5, i6, i7.trans hud.symm, i8.le (PLe.t (PLe.cons (PLe.r _)) (PLe.perm (List.Perm.swap _ _ _)))⟩
set_option maxRecDepth 20000 in
set_option maxHeartbeats 4000000 in
theorem op_load {l : Launch} {g : Gl} {ad : Nat → Nat → Nat} {A : Nat → Prop} {H0 : Heap} {K : KT} {bS L : Nat} {xs : Nat → Int32} {i cn sn : Nat} (ok : OkL l g A H0 K bS L xs) (hl0 : l.stackTraces = false) (hi : i + 6 ≤ L) (hL : L ≤ 3072) (hc : cn + 40 ≤ room_1.cells) (hs : sn + 900 ≤ room_1.slots) (hk : LKont g ad A H0 K bS i (cn + 40) (sn + 900)) {eo : Int32} {p : Nat} {n : Nat} {len : Nat} {B : Nat → Int32} {s : RS} {cnt : Nat} {nx : Nat} {sp : Nat → Nat} {sT : Nat → TD} {T : TD} {b : Nat → Nat} {P : PD} {pr : PL} {p3 : Nat} {T3 : TD} {f : Nat → Int64} {S : MS} {E9 : Nat → Int32} {D9 : Nat → Int32} {d : Nat → Int32} {fu : Nat → Int32} {R : Nat → Nat → Int32} {sk : Nat → Int64} {re : Nat → Int32} {st : Nat → Int32} {dn : Nat → Int32} (inv : LInv eo n B s cnt nx sp sT T b P pr S E9 d R) : AW g A H0 8 K 253 (lvL ad bS i) [] (LWb g ad eo p n len B s cnt nx sp sT T b P pr p3 T3 f S E9 D9 d fu R sk re st dn).flatten cn sn := by
  obtain ⟨nm, okb⟩ := ok.b
  obtain ⟨i1, i2, i3, i4, i5, i6, i7, i8⟩ := id inv
  have hn := i6.1.n
  have hnc := i6.1.nc
  have hu : S.ud ≤ 8 := by rw [← i7]; exact i8.1
  have hbl : S.bl ≤ 800 := by rw [← i2]; exact i3
  have an : Thr [IAE] (loadX (nI n) (xs (i + 1))) (if (!inB (xs (i + 1)) 0 (nI n)) = true then (1 : Int32) else 0) := by
    rw [load_iff]
    by_cases c : (!inB (xs (i + 1)) 0 (nI n)) = true
    · rw [if_pos c, if_pos c]; exact thr_s List.mem_cons_self xi_2 rfl (by decide)
    · rw [if_neg c]; exact thr_n
  refine A_perm (LW_open (j := nx) i8.2.1) ?_
  refine A_aload_n okb rfl dL_law_253 (gps gp0) ?_
  refine A_arg ok (j := 1) (by decide) (by decide) hi hL gp0 (gps (gps (gps (gps gp0)))) dL_law_254 dL_law_255 dL_law_257 dL_law_258 dL_law_259 ?_
  refine A_aload_n okb rfl dL_law_260 (gps (gps (gps gp0))) ?_
  refine A_cutN (N := 21) rfl [[(ad 7 0, .inr (6, [.ref (ad 0 0), .ref (ad 7 1), .ref (ad 3 0), .ref (ad 4 0), .int eo]))], rdT g (ad 0) (ad 1) (ad 2) p (nI n) len B s, hsW g (ad 7 1) (ad 7 2) cnt nx (fun j => ad (8 + j) 0), tunW g (ad (8 + nx)) (sp nx) (sT nx), tunW g (ad 3) (b 0) T, ouW g (ad 7 3) f] [svr g ad sp sT nx, tunW g (ad 4) p3 T3, planW g b P, plsW g pr, [moC (ad 5) S], [(ad 5 1, .inl (g.2.1 0, 800, .inl E9))], [(ad 5 2, .inl (g.2.1 0, 1476, .inl d))], [(ad 5 3, .inl (g.2.1 0, 1476, .inl D9))], [(ad 5 4, .inl (g.2.1 0, 1476, .inl fu))], [(ad 5 5, .inl (g.2.1 5, 8, .inr (.inr (.inr (.inr (fun j => some (ad 6 j)))))))], rowsW g (ad 6) R, [(ad 5 6, .inl (g.2.1 1, 1300, .inr (.inl sk)))], [(ad 5 7, .inl (g.2.1 0, 12, .inl re))], [(ad 5 8, .inl (g.2.1 3, 20, .inl st))], [(ad 5 9, .inl (g.2.1 3, 20, .inl dn))]] [0, 1, 2, 3, 5, 9, 4, 6, 7, 8, 10, 11, 12, 13, 14, 15, 16, 17, 18, 19, 20] (wc := (([(ad 7 0, .inr (6, [.ref (ad 0 0), .ref (ad 7 1), .ref (ad 3 0), .ref (ad 4 0), .int eo]))] : va_W) ++ (rdT g (ad 0) (ad 1) (ad 2) p (nI n) len B s ++ (hsW g (ad 7 1) (ad 7 2) cnt nx (fun j => ad (8 + j) 0) ++ (tunW g (ad (8 + nx)) (sp nx) (sT nx) ++ tunW g (ad 3) (b 0) T)))) ++ ouW g (ad 7 3) f) (by decide +kernel) rfl rfl ?_
  refine A_preSH okb _ _ (As := [_, _, _]) mf_L_load ml_L_85 sc_L_load (h_load l g (ad 7 0) (ad 7 3) f (xs (i + 1)) (ws := ([(ad 7 0, .inr (6, [.ref (ad 0 0), .ref (ad 7 1), .ref (ad 3 0), .ref (ad 4 0), .int eo]))] : va_W) ++ (rdT g (ad 0) (ad 1) (ad 2) p (nI n) len B s ++ (hsW g (ad 7 1) (ad 7 2) cnt nx (fun j => ad (8 + j) 0) ++ (tunW g (ad (8 + nx)) (sp nx) (sT nx) ++ tunW g (ad 3) (b 0) T)))) gp0 (c_load l g (ad 7 0) (ad 7 1) (ad 4 0) eo (ad 0) (ad 1) (ad 2) (ad 3) p n len B s i3 i4.1 hl0 (ad 7 2) cnt nx (fun j => ad (8 + j) 0) (ad (8 + nx)) (sp nx) (b 0) (sT nx) T i8.1 i8.2.1 rfl i6.1.red (fun m9 => (text_red (len := m9) (B := B) s).1) (xs (i + 1))) (fun v w h => ?_) (fun E w h => mem1 (an E h.1).1)) rfl rfl dL_law_261 (Nat.le_of_ble_eq_true rfl) ⟨(Nat.le_of_ble_eq_true rfl), (Nat.le_of_ble_eq_true rfl)⟩ ⟨by omega, by omega⟩ (fun v w hq => ?_)
  · obtain ⟨_, b9, h9⟩ := h
    split at h9
    · exact ⟨_, h9.1⟩
    · exact ⟨_, h9.1⟩
  rcases hq with ⟨y, w1, hq, rfl, rfl⟩ | ⟨E, w1, hx9, rfl, rfl⟩
  · obtain ⟨o1, b2, hq⟩ := hq
    have hin : inB (xs (i + 1)) 0 (nI n) = true := by
      rw [load_iff] at o1
      cases hb : inB (xs (i + 1)) 0 (nI n)
      · rw [hb] at o1; exact absurd o1 nofun
      · rfl
    obtain ⟨t, ht, et⟩ := inB_n (by omega) hin
    have htx : (xs (i + 1)).toNatClampNeg = t := by rw [et, nI_clamp (by omega)]
    rw [htx] at hq
    have hcc : (setupR t B s).2.cc ≤ 800 := (RK_setup (B := B) (by omega) i4.1).k
    have hres := text_sim (len := t) (by omega) i5 s S
    have hkp := ld_keep (B := E9) (s := S) (len := t) (by omega)
    have hclk := (text_red (len := t) (B := B) s).2
    generalize hSU : setupR t B s = SU at hq hcc hres hclk
    generalize hF : ldF E9 (ldS S t) = F at hres hkp
    by_cases hgood : SU.1 = true
    · rw [if_pos hgood] at hq
      obtain ⟨hy, rfl⟩ := hq
      cases hy
      generalize hf : vp_updL f 0 _ = f1
      obtain ⟨hTR, hSD⟩ := hres.1 hgood
      have her : F.1.er = 0 := hTR.2.2.1
      have hea : F.1.ea = -1 := (Prod.mk.injEq _ _ _ _ ▸ hSD.2.2.2.2 : F.1.ne = 0 ∧ F.1.ea = -1).2
      have hrl : RelC SU.2.P SU.2.T F.2 := ⟨hSD.1, by rw [hSD.1.2.2.2.2.2.2.1, hclk]; decide⟩
      refine A_backN (LWb4 g ad nx (b 0) T b (P) (-1) (b2 0) 0 t B (SU.2) (cntS cnt) ((nx + 1) % 8) sp sT (SU.2.T) b2 (SU.2.P) pr p3 T3 f1 S E9 D9 d fu R sk re st dn) (N := 22) rfl [ouW g (ad 7 3) f1, [(ad 7 0, .inr (6, [.ref (ad 0 0), .ref (ad 7 1), .ref (ad 3 0), .ref (ad 4 0), .int (-1)]))], rdT g (ad 0) (ad 1) (ad 2) (b2 0) (nI 0) t B (SU.2), hsW g (ad 7 1) (ad 7 2) (cntS cnt) ((nx + 1) % 8) (fun j => ad (8 + j) 0), tunW g (ad (8 + nx)) (b 0) T, tunW g (ad 3) (b2 0) (SU.2.T), planW g b2 (SU.2.P)] [10, 0, 1, 2, 3, 5, 7, 4, 6, 8, 9, 11, 12, 13, 14, 15, 16, 17, 18, 19, 20, 21] (by decide +kernel) rfl rfl ?_
      rw [LW_pool]
      refine A_perm (LW_close i8.2.1) ?_
      refine A_istore okb dL_law_264 (by decide) (sts (sts (sts (sts (sts1 rfl st0))))) ?_
      refine A_aload_n okb rfl dL_law_266 (gps (gps gp0)) ?_
      refine A_arg ok (j := 1) (by decide) (by decide) hi hL gp0 (gps (gps (gps (gps gp0)))) dL_law_267 dL_law_268 dL_law_270 dL_law_271 dL_law_272 ?_
      rw [et]
      refine A_cutN (N := 20) rfl [[moC (ad 5) S], [(ad 5 1, .inl (g.2.1 0, 800, .inl E9))], [(ad 5 3, .inl (g.2.1 0, 1476, .inl D9))], [(ad 5 2, .inl (g.2.1 0, 1476, .inl d))], [(ad 5 5, .inl (g.2.1 5, 8, .inr (.inr (.inr (.inr (fun j => some (ad 6 j)))))))], rowsW g (ad 6) R] [[(ad 7 0, .inr (6, [.ref (ad 0 0), .ref (ad 7 1), .ref (ad 3 0), .ref (ad 4 0), .int (-1)]))], rdT g (ad 0) (ad 1) (ad 2) (b2 0) (nI 0) t B (SU.2), hsW g (ad 7 1) (ad 7 2) (cntS cnt) ((nx + 1) % 8) (fun j => ad (8 + j) 0), svs g ad (uS sp nx (b 0)) (uS sT nx T), tunW g (ad 3) (b2 0) (SU.2.T), tunW g (ad 4) p3 T3, planW g b2 (SU.2.P), plsW g ((b, P) :: pr), ouW g (ad 7 3) f1, [(ad 5 4, .inl (g.2.1 0, 1476, .inl fu))], [(ad 5 6, .inl (g.2.1 1, 1300, .inr (.inl sk)))], [(ad 5 7, .inl (g.2.1 0, 12, .inl re))], [(ad 5 8, .inl (g.2.1 3, 20, .inl st))], [(ad 5 9, .inl (g.2.1 3, 20, .inl dn))]] [9, 10, 12, 11, 14, 15, 0, 1, 2, 3, 4, 5, 6, 7, 8, 13, 16, 17, 18, 19] (wc := loW g (ad 5) (ad 6) S E9 D9 d R) (by decide +kernel) rfl rfl ?_
      refine A_preVB okb _ _ (As := [_]) mf_X7_load ml_L_90 in_X7_load se_X7_load cf7 (gp_app gp0) (r_load l g (ad 5) (ad 6) S E9 D9 d R hu hbl t (by rw [← i2]; exact ht) F hF) rfl rfl dL_law_273 (Nat.le_of_ble_eq_true rfl) ⟨(Nat.le_of_ble_eq_true rfl), (Nat.le_of_ble_eq_true rfl)⟩ ⟨by omega, by omega⟩ (fun _ _ hx => hx.elim) (fun v w hq => ?_)
      obtain ⟨rfl, hw⟩ := hq
      replace hw := hw.trans (if_pos her)
      rw [hea] at hw
      subst hw
      refine A_backN (LWb g ad (-1) (b2 0) 0 t B (SU.2) (cntS cnt) ((nx + 1) % 8) (uS sp nx (b 0)) (uS sT nx T) (SU.2.T) b2 (SU.2.P) ((b, P) :: pr) p3 T3 f1 (reS (F.1.weo (-1))) E9 (F.2) (F.2) fu (reR S.ud d R) sk re st dn) (N := 20) rfl [[moC (ad 5) (reS (F.1.weo (-1)))], [(ad 5 1, .inl (g.2.1 0, 800, .inl E9))], [(ad 5 3, .inl (g.2.1 0, 1476, .inl (F.2)))], [(ad 5 2, .inl (g.2.1 0, 1476, .inl (F.2)))], [(ad 5 5, .inl (g.2.1 5, 8, .inr (.inr (.inr (.inr (fun j => some (ad 6 j)))))))], rowsW g (ad 6) (reR S.ud d R)] [9, 10, 12, 11, 14, 15, 0, 1, 2, 3, 4, 5, 6, 7, 8, 13, 16, 17, 18, 19] (by decide +kernel) rfl rfl ?_
      refine A_istore okb dL_law_276 (by decide) (sts (sts (sts (sts (sts (sts1 rfl st0)))))) ?_
      refine A_aload_n okb rfl dL_law_278 (gps (gps gp0)) ?_
      refine A_cutN (N := 20) rfl [[moC (ad 5) (reS (F.1.weo (-1)))]] [[(ad 7 0, .inr (6, [.ref (ad 0 0), .ref (ad 7 1), .ref (ad 3 0), .ref (ad 4 0), .int (-1)]))], rdT g (ad 0) (ad 1) (ad 2) (b2 0) (nI 0) t B (SU.2), hsW g (ad 7 1) (ad 7 2) (cntS cnt) ((nx + 1) % 8) (fun j => ad (8 + j) 0), svs g ad (uS sp nx (b 0)) (uS sT nx T), tunW g (ad 3) (b2 0) (SU.2.T), tunW g (ad 4) p3 T3, planW g b2 (SU.2.P), plsW g ((b, P) :: pr), ouW g (ad 7 3) f1, [(ad 5 1, .inl (g.2.1 0, 800, .inl E9))], [(ad 5 2, .inl (g.2.1 0, 1476, .inl (F.2)))], [(ad 5 3, .inl (g.2.1 0, 1476, .inl (F.2)))], [(ad 5 4, .inl (g.2.1 0, 1476, .inl fu))], [(ad 5 5, .inl (g.2.1 5, 8, .inr (.inr (.inr (.inr (fun j => some (ad 6 j)))))))], rowsW g (ad 6) (reR S.ud d R), [(ad 5 6, .inl (g.2.1 1, 1300, .inr (.inl sk)))], [(ad 5 7, .inl (g.2.1 0, 12, .inl re))], [(ad 5 8, .inl (g.2.1 3, 20, .inl st))], [(ad 5 9, .inl (g.2.1 3, 20, .inl dn))]] [9, 0, 1, 2, 3, 4, 5, 6, 7, 8, 10, 11, 12, 13, 14, 15, 16, 17, 18, 19] (wc := [moC (ad 5) (reS (F.1.weo (-1)))]) (by decide +kernel) rfl rfl ?_
      refine A_preVB okb _ _ (As := []) mf_X7_thrown ml_L_91 in_X7_thrown se_X7_thrown cf7 (gp_app gp0) (r_thrown l g (ad 5) (reS (F.1.weo (-1)))) rfl rfl dL_law_279 (Nat.le_of_ble_eq_true rfl) ⟨(Nat.le_of_ble_eq_true rfl), (Nat.le_of_ble_eq_true rfl)⟩ ⟨by omega, by omega⟩ (fun _ _ hx => hx.elim) (fun v w hq => ?_)
      obtain ⟨rfl, rfl⟩ := hq
      refine A_backN (LWb g ad (-1) (b2 0) 0 t B (SU.2) (cntS cnt) ((nx + 1) % 8) (uS sp nx (b 0)) (uS sT nx T) (SU.2.T) b2 (SU.2.P) ((b, P) :: pr) p3 T3 f1 (reS (F.1.weo (-1))) E9 (F.2) (F.2) fu (reR S.ud d R) sk re st dn) (N := 20) rfl [[moC (ad 5) (reS (F.1.weo (-1)))]] [9, 0, 1, 2, 3, 4, 5, 6, 7, 8, 10, 11, 12, 13, 14, 15, 16, 17, 18, 19] (by decide +kernel) rfl rfl ?_
      refine A_iload okb dL_law_282 (gps (gps (gps (gps (gps gp0))))) ?_
      refine A_icmp_eq okb (tgt := 289) dL_law_284 (by decide) (fun _ => ?_) (fun c => absurd ((th_reS (F.1.weo (-1))).trans hkp.1) c)
      refine A_iload okb dL_law_289 (gps (gps (gps (gps (gps gp0))))) ?_
      refine A_if_ne okb (tgt := 306) dL_law_291 (by decide) (fun c => absurd rfl c) (fun _ => ?_)
      refine A_aload_n okb rfl dL_law_294 (gps (gps (gps gp0))) ?_
      refine A_iconst okb (v := 0) dL_law_295 (by decide) ?_
      refine A_cutN (N := 20) rfl [ouW g (ad 7 3) f1] [[(ad 7 0, .inr (6, [.ref (ad 0 0), .ref (ad 7 1), .ref (ad 3 0), .ref (ad 4 0), .int (-1)]))], rdT g (ad 0) (ad 1) (ad 2) (b2 0) (nI 0) t B (SU.2), hsW g (ad 7 1) (ad 7 2) (cntS cnt) ((nx + 1) % 8) (fun j => ad (8 + j) 0), svs g ad (uS sp nx (b 0)) (uS sT nx T), tunW g (ad 3) (b2 0) (SU.2.T), tunW g (ad 4) p3 T3, planW g b2 (SU.2.P), plsW g ((b, P) :: pr), [moC (ad 5) (reS (F.1.weo (-1)))], [(ad 5 1, .inl (g.2.1 0, 800, .inl E9))], [(ad 5 2, .inl (g.2.1 0, 1476, .inl (F.2)))], [(ad 5 3, .inl (g.2.1 0, 1476, .inl (F.2)))], [(ad 5 4, .inl (g.2.1 0, 1476, .inl fu))], [(ad 5 5, .inl (g.2.1 5, 8, .inr (.inr (.inr (.inr (fun j => some (ad 6 j)))))))], rowsW g (ad 6) (reR S.ud d R), [(ad 5 6, .inl (g.2.1 1, 1300, .inr (.inl sk)))], [(ad 5 7, .inl (g.2.1 0, 12, .inl re))], [(ad 5 8, .inl (g.2.1 3, 20, .inl st))], [(ad 5 9, .inl (g.2.1 3, 20, .inl dn))]] [8, 0, 1, 2, 3, 4, 5, 6, 7, 9, 10, 11, 12, 13, 14, 15, 16, 17, 18, 19] (wc := ouW g (ad 7 3) (f1)) (by decide +kernel) rfl rfl ?_
      refine A_lald okb (gp_app gp0) ix0 dL_law_296 ?_
      refine A_back2 (LWb g ad (-1) (b2 0) 0 t B (SU.2) (cntS cnt) ((nx + 1) % 8) (uS sp nx (b 0)) (uS sT nx T) (SU.2.T) b2 (SU.2.P) ((b, P) :: pr) p3 T3 f1 (reS (F.1.weo (-1))) E9 (F.2) (F.2) fu (reR S.ud d R) sk re st dn) (N := 20) rfl [ouW g (ad 7 3) f1] [8, 0, 1, 2, 3, 4, 5, 6, 7, 9, 10, 11, 12, 13, 14, 15, 16, 17, 18, 19] (by decide +kernel) rfl rfl ?_
      refine A_iload okb dL_law_297 (gps (gps (gps (gps (gps (gps gp0)))))) ?_
      refine A_i2l okb dL_law_299 ?_
      refine A_lcmp okb dL_law_300 ?_
      refine A_if_eq okb (tgt := 306) dL_law_301 (by decide) (fun _ => ?_) (fun c => absurd (lg_cmp_0.mpr (by rw [← hf, pk_uLs]; exact congrArg Int32.toInt64 (hSD.1.1.1.2.2.1.symm.trans (if_pos her).symm))) c)
      refine A_goto okb (tgt := 1552) dL_law_306 (by decide) ?_
      refine A_lv (lv2 := lvL ad bS i) lv58 ?_
      refine A_widen okb (cn2 := cn + 40) (sn2 := sn + 900) (by omega) (by omega) ?_
      exact hk (-1) (b2 0) 0 t B (SU.2) (cntS cnt) ((nx + 1) % 8) (uS sp nx (b 0)) (uS sT nx T) (SU.2.T) b2 (SU.2.P) ((b, P) :: pr) p3 T3 f1 (reS (F.1.weo (-1))) E9 (F.2) (F.2) fu (reR S.ud d R) sk re st dn (LInv_load1 inv hcc hrl hkp.2.1 hkp.2.2)
    · rw [if_neg hgood] at hq
      obtain ⟨hy, rfl⟩ := hq
      cases hy
      generalize hf : vp_updL f 0 _ = f1
      obtain ⟨e1, e2, her⟩ := hres.2 hgood
      refine A_backN (LWb4 g ad nx (sp nx) (sT nx) b2 (SU.2.P) (SU.2.eo) (b2 0) 0 t B (SU.2) cnt nx sp sT T b P pr p3 T3 f1 S E9 D9 d fu R sk re st dn) (N := 22) rfl [ouW g (ad 7 3) f1, [(ad 7 0, .inr (6, [.ref (ad 0 0), .ref (ad 7 1), .ref (ad 3 0), .ref (ad 4 0), .int (SU.2.eo)]))], rdT g (ad 0) (ad 1) (ad 2) (b2 0) (nI 0) t B (SU.2), hsW g (ad 7 1) (ad 7 2) cnt nx (fun j => ad (8 + j) 0), tunW g (ad (8 + nx)) (sp nx) (sT nx), tunW g (ad 3) (b 0) T, planW g b2 (SU.2.P)] [10, 0, 1, 2, 3, 5, 8, 4, 6, 7, 9, 11, 12, 13, 14, 15, 16, 17, 18, 19, 20, 21] (by decide +kernel) rfl rfl ?_
      rw [LW_pool]
      refine A_perm (LW_open (j := nx) i8.2.1).symm ?_
      refine A_istore okb dL_law_264 (by decide) (sts (sts (sts (sts (sts1 rfl st0))))) ?_
      refine A_aload_n okb rfl dL_law_266 (gps (gps gp0)) ?_
      refine A_arg ok (j := 1) (by decide) (by decide) hi hL gp0 (gps (gps (gps (gps gp0)))) dL_law_267 dL_law_268 dL_law_270 dL_law_271 dL_law_272 ?_
      rw [et]
      refine A_cutN (N := 20) rfl [[moC (ad 5) S], [(ad 5 1, .inl (g.2.1 0, 800, .inl E9))], [(ad 5 3, .inl (g.2.1 0, 1476, .inl D9))], [(ad 5 2, .inl (g.2.1 0, 1476, .inl d))], [(ad 5 5, .inl (g.2.1 5, 8, .inr (.inr (.inr (.inr (fun j => some (ad 6 j)))))))], rowsW g (ad 6) R] [[(ad 7 0, .inr (6, [.ref (ad 0 0), .ref (ad 7 1), .ref (ad 3 0), .ref (ad 4 0), .int (SU.2.eo)]))], rdT g (ad 0) (ad 1) (ad 2) (b2 0) (nI 0) t B (SU.2), hsW g (ad 7 1) (ad 7 2) cnt nx (fun j => ad (8 + j) 0), svs g ad sp sT, tunW g (ad 3) (b 0) T, tunW g (ad 4) p3 T3, planW g b P, plsW g ((b2, SU.2.P) :: pr), ouW g (ad 7 3) f1, [(ad 5 4, .inl (g.2.1 0, 1476, .inl fu))], [(ad 5 6, .inl (g.2.1 1, 1300, .inr (.inl sk)))], [(ad 5 7, .inl (g.2.1 0, 12, .inl re))], [(ad 5 8, .inl (g.2.1 3, 20, .inl st))], [(ad 5 9, .inl (g.2.1 3, 20, .inl dn))]] [9, 10, 12, 11, 14, 15, 0, 1, 2, 3, 4, 5, 6, 7, 8, 13, 16, 17, 18, 19] (wc := loW g (ad 5) (ad 6) S E9 D9 d R) (by decide +kernel) rfl rfl ?_
      refine A_preVB okb _ _ (As := [_]) mf_X7_load ml_L_90 in_X7_load se_X7_load cf7 (gp_app gp0) (r_load l g (ad 5) (ad 6) S E9 D9 d R hu hbl t (by rw [← i2]; exact ht) F hF) rfl rfl dL_law_273 (Nat.le_of_ble_eq_true rfl) ⟨(Nat.le_of_ble_eq_true rfl), (Nat.le_of_ble_eq_true rfl)⟩ ⟨by omega, by omega⟩ (fun _ _ hx => hx.elim) (fun v w hq => ?_)
      obtain ⟨rfl, hw⟩ := hq
      replace hw := hw.trans (if_neg her)
      subst hw
      refine A_backN (LWb g ad (SU.2.eo) (b2 0) 0 t B (SU.2) cnt nx sp sT T b P ((b2, SU.2.P) :: pr) p3 T3 f1 (F.1.weo F.1.ea) E9 (F.2) d fu R sk re st dn) (N := 20) rfl [[moC (ad 5) (F.1.weo F.1.ea)], [(ad 5 1, .inl (g.2.1 0, 800, .inl E9))], [(ad 5 3, .inl (g.2.1 0, 1476, .inl (F.2)))], [(ad 5 2, .inl (g.2.1 0, 1476, .inl d))], [(ad 5 5, .inl (g.2.1 5, 8, .inr (.inr (.inr (.inr (fun j => some (ad 6 j)))))))], rowsW g (ad 6) R] [9, 10, 12, 11, 14, 15, 0, 1, 2, 3, 4, 5, 6, 7, 8, 13, 16, 17, 18, 19] (by decide +kernel) rfl rfl ?_
      refine A_istore okb dL_law_276 (by decide) (sts (sts (sts (sts (sts (sts1 rfl st0)))))) ?_
      refine A_aload_n okb rfl dL_law_278 (gps (gps gp0)) ?_
      refine A_cutN (N := 20) rfl [[moC (ad 5) (F.1.weo F.1.ea)]] [[(ad 7 0, .inr (6, [.ref (ad 0 0), .ref (ad 7 1), .ref (ad 3 0), .ref (ad 4 0), .int (SU.2.eo)]))], rdT g (ad 0) (ad 1) (ad 2) (b2 0) (nI 0) t B (SU.2), hsW g (ad 7 1) (ad 7 2) cnt nx (fun j => ad (8 + j) 0), svs g ad sp sT, tunW g (ad 3) (b 0) T, tunW g (ad 4) p3 T3, planW g b P, plsW g ((b2, SU.2.P) :: pr), ouW g (ad 7 3) f1, [(ad 5 1, .inl (g.2.1 0, 800, .inl E9))], [(ad 5 2, .inl (g.2.1 0, 1476, .inl d))], [(ad 5 3, .inl (g.2.1 0, 1476, .inl (F.2)))], [(ad 5 4, .inl (g.2.1 0, 1476, .inl fu))], [(ad 5 5, .inl (g.2.1 5, 8, .inr (.inr (.inr (.inr (fun j => some (ad 6 j)))))))], rowsW g (ad 6) R, [(ad 5 6, .inl (g.2.1 1, 1300, .inr (.inl sk)))], [(ad 5 7, .inl (g.2.1 0, 12, .inl re))], [(ad 5 8, .inl (g.2.1 3, 20, .inl st))], [(ad 5 9, .inl (g.2.1 3, 20, .inl dn))]] [9, 0, 1, 2, 3, 4, 5, 6, 7, 8, 10, 11, 12, 13, 14, 15, 16, 17, 18, 19] (wc := [moC (ad 5) (F.1.weo F.1.ea)]) (by decide +kernel) rfl rfl ?_
      refine A_preVB okb _ _ (As := []) mf_X7_thrown ml_L_91 in_X7_thrown se_X7_thrown cf7 (gp_app gp0) (r_thrown l g (ad 5) (F.1.weo F.1.ea)) rfl rfl dL_law_279 (Nat.le_of_ble_eq_true rfl) ⟨(Nat.le_of_ble_eq_true rfl), (Nat.le_of_ble_eq_true rfl)⟩ ⟨by omega, by omega⟩ (fun _ _ hx => hx.elim) (fun v w hq => ?_)
      obtain ⟨rfl, rfl⟩ := hq
      refine A_backN (LWb g ad (SU.2.eo) (b2 0) 0 t B (SU.2) cnt nx sp sT T b P ((b2, SU.2.P) :: pr) p3 T3 f1 (F.1.weo F.1.ea) E9 (F.2) d fu R sk re st dn) (N := 20) rfl [[moC (ad 5) (F.1.weo F.1.ea)]] [9, 0, 1, 2, 3, 4, 5, 6, 7, 8, 10, 11, 12, 13, 14, 15, 16, 17, 18, 19] (by decide +kernel) rfl rfl ?_
      refine A_iload okb dL_law_282 (gps (gps (gps (gps (gps gp0))))) ?_
      refine A_icmp_eq okb (tgt := 289) dL_law_284 (by decide) (fun _ => ?_) (fun c => absurd (hkp.1) c)
      refine A_iload okb dL_law_289 (gps (gps (gps (gps (gps gp0))))) ?_
      refine A_if_ne okb (tgt := 306) dL_law_291 (by decide) (fun c => absurd rfl c) (fun _ => ?_)
      refine A_aload_n okb rfl dL_law_294 (gps (gps (gps gp0))) ?_
      refine A_iconst okb (v := 0) dL_law_295 (by decide) ?_
      refine A_cutN (N := 20) rfl [ouW g (ad 7 3) f1] [[(ad 7 0, .inr (6, [.ref (ad 0 0), .ref (ad 7 1), .ref (ad 3 0), .ref (ad 4 0), .int (SU.2.eo)]))], rdT g (ad 0) (ad 1) (ad 2) (b2 0) (nI 0) t B (SU.2), hsW g (ad 7 1) (ad 7 2) cnt nx (fun j => ad (8 + j) 0), svs g ad sp sT, tunW g (ad 3) (b 0) T, tunW g (ad 4) p3 T3, planW g b P, plsW g ((b2, SU.2.P) :: pr), [moC (ad 5) (F.1.weo F.1.ea)], [(ad 5 1, .inl (g.2.1 0, 800, .inl E9))], [(ad 5 2, .inl (g.2.1 0, 1476, .inl d))], [(ad 5 3, .inl (g.2.1 0, 1476, .inl (F.2)))], [(ad 5 4, .inl (g.2.1 0, 1476, .inl fu))], [(ad 5 5, .inl (g.2.1 5, 8, .inr (.inr (.inr (.inr (fun j => some (ad 6 j)))))))], rowsW g (ad 6) R, [(ad 5 6, .inl (g.2.1 1, 1300, .inr (.inl sk)))], [(ad 5 7, .inl (g.2.1 0, 12, .inl re))], [(ad 5 8, .inl (g.2.1 3, 20, .inl st))], [(ad 5 9, .inl (g.2.1 3, 20, .inl dn))]] [8, 0, 1, 2, 3, 4, 5, 6, 7, 9, 10, 11, 12, 13, 14, 15, 16, 17, 18, 19] (wc := ouW g (ad 7 3) (f1)) (by decide +kernel) rfl rfl ?_
      refine A_lald okb (gp_app gp0) ix0 dL_law_296 ?_
      refine A_back2 (LWb g ad (SU.2.eo) (b2 0) 0 t B (SU.2) cnt nx sp sT T b P ((b2, SU.2.P) :: pr) p3 T3 f1 (F.1.weo F.1.ea) E9 (F.2) d fu R sk re st dn) (N := 20) rfl [ouW g (ad 7 3) f1] [8, 0, 1, 2, 3, 4, 5, 6, 7, 9, 10, 11, 12, 13, 14, 15, 16, 17, 18, 19] (by decide +kernel) rfl rfl ?_
      refine A_iload okb dL_law_297 (gps (gps (gps (gps (gps (gps gp0)))))) ?_
      refine A_i2l okb dL_law_299 ?_
      refine A_lcmp okb dL_law_300 ?_
      refine A_if_eq okb (tgt := 306) dL_law_301 (by decide) (fun _ => ?_) (fun c => absurd (lg_cmp_0.mpr (by rw [← hf, pk_uLs]; exact congrArg Int32.toInt64 (e1.symm.trans (if_neg her).symm))) c)
      refine A_goto okb (tgt := 1552) dL_law_306 (by decide) ?_
      refine A_lv (lv2 := lvL ad bS i) lv58 ?_
      refine A_widen okb (cn2 := cn + 40) (sn2 := sn + 900) (by omega) (by omega) ?_
      exact hk (SU.2.eo) (b2 0) 0 t B (SU.2) cnt nx sp sT T b P ((b2, SU.2.P) :: pr) p3 T3 f1 (F.1.weo F.1.ea) E9 (F.2) d fu R sk re st dn (LInv_load0 inv hcc hkp.2.1 hkp.2.2 e2.symm)
  · obtain ⟨ho, hp⟩ := hx9
    have ht0 := an E ho
    have hbad : inB (xs (i + 1)) 0 (nI S.bl) = false := by
      rw [← i2]
      rw [load_iff] at ho
      cases hb : inB (xs (i + 1)) 0 (nI n)
      · rfl
      · rw [hb] at ho; exact absurd ho nofun
    have ht : E ∈ [IAE] ∧ (1 : Int32) = nI (([IAE] : List String).idxOf E + 1) ∧ ¬ nI (([IAE] : List String).idxOf E + 1) = 0 := by
      rw [i2, hbad] at ht0; exact ht0
    refine A_perm (List.Perm.append_left _ (List.Perm.append_left _ hp)) ?_
    refine A_backN (LWb2 g ad nx (sp nx) (sT nx) eo p n len B s cnt nx sp sT T b P pr p3 T3 f S E9 D9 d fu R sk re st dn) (N := 21) rfl [ouW g (ad 7 3) f, [(ad 7 0, .inr (6, [.ref (ad 0 0), .ref (ad 7 1), .ref (ad 3 0), .ref (ad 4 0), .int eo]))], rdT g (ad 0) (ad 1) (ad 2) p (nI n) len B s, hsW g (ad 7 1) (ad 7 2) cnt nx (fun j => ad (8 + j) 0), tunW g (ad (8 + nx)) (sp nx) (sT nx), tunW g (ad 3) (b 0) T] [9, 0, 1, 2, 3, 5, 4, 6, 7, 8, 10, 11, 12, 13, 14, 15, 16, 17, 18, 19, 20] (by decide +kernel) rfl rfl ?_
    refine A_perm (LW_open (j := nx) i8.2.1).symm ?_
    refine A_istore okb dL_law_264 (by decide) (sts (sts (sts (sts (sts1 rfl st0))))) ?_
    refine A_aload_n okb rfl dL_law_266 (gps (gps gp0)) ?_
    refine A_arg ok (j := 1) (by decide) (by decide) hi hL gp0 (gps (gps (gps (gps gp0)))) dL_law_267 dL_law_268 dL_law_270 dL_law_271 dL_law_272 ?_
    refine A_cutN (N := 20) rfl [[moC (ad 5) S], [(ad 5 1, .inl (g.2.1 0, 800, .inl E9))], [(ad 5 3, .inl (g.2.1 0, 1476, .inl D9))], [(ad 5 2, .inl (g.2.1 0, 1476, .inl d))], [(ad 5 5, .inl (g.2.1 5, 8, .inr (.inr (.inr (.inr (fun j => some (ad 6 j)))))))], rowsW g (ad 6) R] [[(ad 7 0, .inr (6, [.ref (ad 0 0), .ref (ad 7 1), .ref (ad 3 0), .ref (ad 4 0), .int eo]))], rdT g (ad 0) (ad 1) (ad 2) p (nI n) len B s, hsW g (ad 7 1) (ad 7 2) cnt nx (fun j => ad (8 + j) 0), svs g ad sp sT, tunW g (ad 3) (b 0) T, tunW g (ad 4) p3 T3, planW g b P, plsW g pr, ouW g (ad 7 3) f, [(ad 5 4, .inl (g.2.1 0, 1476, .inl fu))], [(ad 5 6, .inl (g.2.1 1, 1300, .inr (.inl sk)))], [(ad 5 7, .inl (g.2.1 0, 12, .inl re))], [(ad 5 8, .inl (g.2.1 3, 20, .inl st))], [(ad 5 9, .inl (g.2.1 3, 20, .inl dn))]] [9, 10, 12, 11, 14, 15, 0, 1, 2, 3, 4, 5, 6, 7, 8, 13, 16, 17, 18, 19] (wc := loW g (ad 5) (ad 6) S E9 D9 d R) (by decide +kernel) rfl rfl ?_
    refine A_preVB okb _ _ (As := [_]) mf_X7_load ml_L_90 in_X7_load se_X7_load cf7 (gp_app gp0) (r_loadX l g (ad 5) (ad 6) S E9 D9 d R hu hbl (xs (i + 1)) hbad) rfl rfl dL_law_273 (Nat.le_of_ble_eq_true rfl) ⟨(Nat.le_of_ble_eq_true rfl), (Nat.le_of_ble_eq_true rfl)⟩ ⟨by omega, by omega⟩ (fun _ _ hx => hx.elim) (fun v w hq => ?_)
    obtain ⟨rfl, rfl⟩ := hq
    refine A_backN (LWb g ad eo p n len B s cnt nx sp sT T b P pr p3 T3 f (S.wth 1) E9 D9 d fu R sk re st dn) (N := 20) rfl [[moC (ad 5) (S.wth 1)], [(ad 5 1, .inl (g.2.1 0, 800, .inl E9))], [(ad 5 3, .inl (g.2.1 0, 1476, .inl D9))], [(ad 5 2, .inl (g.2.1 0, 1476, .inl d))], [(ad 5 5, .inl (g.2.1 5, 8, .inr (.inr (.inr (.inr (fun j => some (ad 6 j)))))))], rowsW g (ad 6) R] [9, 10, 12, 11, 14, 15, 0, 1, 2, 3, 4, 5, 6, 7, 8, 13, 16, 17, 18, 19] (by decide +kernel) rfl rfl ?_
    refine A_istore okb dL_law_276 (by decide) (sts (sts (sts (sts (sts (sts1 rfl st0)))))) ?_
    refine A_aload_n okb rfl dL_law_278 (gps (gps gp0)) ?_
    refine A_cutN (N := 20) rfl [[moC (ad 5) (S.wth 1)]] [[(ad 7 0, .inr (6, [.ref (ad 0 0), .ref (ad 7 1), .ref (ad 3 0), .ref (ad 4 0), .int eo]))], rdT g (ad 0) (ad 1) (ad 2) p (nI n) len B s, hsW g (ad 7 1) (ad 7 2) cnt nx (fun j => ad (8 + j) 0), svs g ad sp sT, tunW g (ad 3) (b 0) T, tunW g (ad 4) p3 T3, planW g b P, plsW g pr, ouW g (ad 7 3) f, [(ad 5 1, .inl (g.2.1 0, 800, .inl E9))], [(ad 5 2, .inl (g.2.1 0, 1476, .inl d))], [(ad 5 3, .inl (g.2.1 0, 1476, .inl D9))], [(ad 5 4, .inl (g.2.1 0, 1476, .inl fu))], [(ad 5 5, .inl (g.2.1 5, 8, .inr (.inr (.inr (.inr (fun j => some (ad 6 j)))))))], rowsW g (ad 6) R, [(ad 5 6, .inl (g.2.1 1, 1300, .inr (.inl sk)))], [(ad 5 7, .inl (g.2.1 0, 12, .inl re))], [(ad 5 8, .inl (g.2.1 3, 20, .inl st))], [(ad 5 9, .inl (g.2.1 3, 20, .inl dn))]] [9, 0, 1, 2, 3, 4, 5, 6, 7, 8, 10, 11, 12, 13, 14, 15, 16, 17, 18, 19] (wc := [moC (ad 5) (S.wth 1)]) (by decide +kernel) rfl rfl ?_
    refine A_preVB okb _ _ (As := []) mf_X7_thrown ml_L_91 in_X7_thrown se_X7_thrown cf7 (gp_app gp0) (r_thrown l g (ad 5) (S.wth 1)) rfl rfl dL_law_279 (Nat.le_of_ble_eq_true rfl) ⟨(Nat.le_of_ble_eq_true rfl), (Nat.le_of_ble_eq_true rfl)⟩ ⟨by omega, by omega⟩ (fun _ _ hx => hx.elim) (fun v w hq => ?_)
    obtain ⟨rfl, rfl⟩ := hq
    refine A_backN (LWb g ad eo p n len B s cnt nx sp sT T b P pr p3 T3 f (S.wth 1) E9 D9 d fu R sk re st dn) (N := 20) rfl [[moC (ad 5) (S.wth 1)]] [9, 0, 1, 2, 3, 4, 5, 6, 7, 8, 10, 11, 12, 13, 14, 15, 16, 17, 18, 19] (by decide +kernel) rfl rfl ?_
    refine A_iload okb dL_law_282 (gps (gps (gps (gps (gps gp0))))) ?_
    refine A_icmp_eq okb (tgt := 289) dL_law_284 (by decide) (fun _ => ?_) (fun c => absurd (ht.2.1) c)
    refine A_iload okb dL_law_289 (gps (gps (gps (gps (gps gp0))))) ?_
    refine A_if_ne okb (tgt := 306) dL_law_291 (by decide) (fun _ => ?_) (fun c => absurd c ht.2.2)
    refine A_goto okb (tgt := 1552) dL_law_306 (by decide) ?_
    refine A_lv (lv2 := lvL ad bS i) lv58 ?_
    refine A_widen okb (cn2 := cn + 40) (sn2 := sn + 900) (by omega) (by omega) ?_
    exact hk eo p n len B s cnt nx sp sT T b P pr p3 T3 f (S.wth 1) E9 D9 d fu R sk re st dn (inv)
