section AWR
variable {l : Launch} {g : Gl} {own nm : String} {cc : ByteArray} {nL : Nat} {ret : Option FieldType} {R : Room} {A : Nat → Prop} {H0 : Heap} {K : KT} {pc : Nat} {lv : List (Option Value)} {st : List Value} {ws : va_W} {cn sn : Nat}

theorem A_aldr (ok : OkB l g own nm cc nL ret R A H0 K) {q a n j : Nat} {f : Nat → Option Nat} {i : Int32} (gq : Gp q ws (a, .inl (g.2.1 5, n, .inr (.inr (.inr (.inr f)))))) (hi : Ix i n j) (d : decode cc pc = .ok (.aaload, 1))
    (k : AW g A H0 nL K (pc + 1) lv (va_rf (f j) :: st) ws cn sn) : AW g A H0 nL K pc lv (.int i :: .ref a :: st) ws cn sn := by
  obtain ⟨p, e, s, m, args, below, meth, c, Q, rfl, rfl, hx, hb, hml, hown, hts, hr, hlk, hKn, hG, hA, hnm⟩ := ok
  intro H locs ls hP hD hS hl
  obtain ⟨hin, rfl⟩ := hi
  have hlt : i.toNatClampNeg < n := Nat.not_le.mp fun q => hin (Or.inr q)
  exact W.aald (v := va_rf (f i.toNatClampNeg)) (ty := .array .int) hx hb (hP q _ gq) ((hKn.2 5 (g.2.1 5, .array .int) rfl).1 n (fun j => va_rf (f j))) rfl (fun q => by cases q) (by show ¬ (i < 0 ∨ (arrV _ _ _).slots.size ≤ _); rw [arrV_size]; exact hin) (by show (arrV _ _ _).slots[_]? = _; rw [arrV_read _ _ hlt]) rfl rfl d (k H locs ls hP hD hS hl)
end AWR
def rowC (g : Gl) (h : Nat → Nat) (R : Nat → Nat → Int32) (j : Nat) : Nat × va_E := (h j, .inl (g.2.1 0, 1476, .inl (R j)))
def rowsW (g : Gl) (h : Nat → Nat) (R : Nat → Nat → Int32) : va_W := [rowC g h R 0, rowC g h R 1, rowC g h R 2, rowC g h R 3, rowC g h R 4, rowC g h R 5, rowC g h R 6, rowC g h R 7]
/-- the reference's object, data and history -/
def hiW (g : Gl) (m h : Nat → Nat) (s : MS) (d : Nat → Int32) (R : Nat → Nat → Int32) : va_W := [moC m s, (m 2, .inl (g.2.1 0, 1476, .inl d)), (m 5, .inl (g.2.1 5, 8, .inr (.inr (.inr (.inr (fun j => some (h j)))))))] ++ rowsW g h R
def reS (s : MS) : MS := if s.ud = 8 then s else s.wud (s.ud + 1)
def reR (ud : Nat) (d : Nat → Int32) (R : Nat → Nat → Int32) : Nat → Nat → Int32 := if ud = 8 then (fun i => if i < 7 then R (i + 1) else d) else fun i => if i = ud then d else R i
set_option maxRecDepth 20000 in
set_option maxHeartbeats 2000000 in
theorem r_rem0 (l : Launch) (g : Gl) (m h : Nat → Nat) (s : MS) (d : Nat → Int32) (R : Nat → Nat → Int32) (hu : s.ud = 0) : Ct l g yX7_remember cX7_remember 2 none 1 40 0 0 [.ref (m 0)] (hiW g m h (s) (d) (R)) (fun v w => v = none ∧ w = (hiW g m h (reS s) (d) (reR s.ud d R))) noX := by
  refine Ct.intro [some (.ref (m 0)), none] (by decide +kernel) (fun _ h => h) (Nat.le_of_ble_eq_true rfl) (fun A H0 K ok => ?_)
  refine A_aload_n ok.b rfl dX7_remember_0 gp0 ?_
  refine A_getf ok.b cf7 12 (by decide) fl_X7_294 gp0 (gps (gps (gps (gps (gps (gps (gps (gps (gps (gps (gps (gps gp0)))))))))))) dX7_remember_1 ?_
  refine A_bipush ok.b (v := 8) dX7_remember_4 (by decide) ?_
  refine A_icmp_ne ok.b (tgt := 50) dX7_remember_6 (by decide) (fun c6 => ?_) (fun c6 => ((show False from absurd c6 (by rw [hu]; decide))).elim)
  refine A_aload_n ok.b rfl dX7_remember_50 gp0 ?_
  refine A_getf ok.b cf7 8 (by decide) fl_X7_17 gp0 (gps (gps (gps (gps (gps (gps (gps (gps gp0)))))))) dX7_remember_51 ?_
  refine A_aload_n ok.b rfl dX7_remember_54 gp0 ?_
  refine A_getf ok.b cf7 11 (by decide) fl_X7_28 gp0 (gps (gps (gps (gps (gps (gps (gps (gps (gps (gps (gps gp0))))))))))) dX7_remember_55 ?_
  refine A_aload_n ok.b rfl dX7_remember_58 gp0 ?_
  refine A_getf ok.b cf7 12 (by decide) fl_X7_294 gp0 (gps (gps (gps (gps (gps (gps (gps (gps (gps (gps (gps (gps gp0)))))))))))) dX7_remember_59 ?_
  rw [hu]
  refine A_aldr ok.b (gps (gps gp0)) (ix_n (j := 0) (by decide) (by decide)) dX7_remember_62 ?_
  change AW g A H0 2 K 63 _ (.ref (h 0) :: _) _ 0 0
  refine A_callSR ok [1, 3] [0, 2, 4, 5, 6, 7, 8, 9, 10] (As := [_, _]) (wr := ([moC m (s), (m 5, .inl (g.2.1 5, 8, .inr (.inr (.inr (.inr (fun j => some (h j))))))), rowC g h (R) 1, rowC g h (R) 2, rowC g h (R) 3, rowC g h (R) 4, rowC g h (R) 5, rowC g h (R) 6, rowC g h (R) 7] : va_W)) mf_X7_copy ml_X7_206 rfl sc_X7_copy  (r_copy l g (m 2) (h 0) (d) (R 0)) rfl rfl rfl dX7_remember_63 rfl rfl rfl (by decide) (Nat.le_of_ble_eq_true rfl) ⟨(Nat.le_of_ble_eq_true rfl), (Nat.le_of_ble_eq_true rfl)⟩ ⟨(Nat.le_of_ble_eq_true rfl), (Nat.le_of_ble_eq_true rfl)⟩ (fun _ _ hx => hx.elim) (fun v63 w63 q63 => ?_)
  obtain ⟨rfl, rfl⟩ := q63
  refine A_sub [0, 9, 1, 10, 2, 3, 4, 5, 6, 7, 8] (ws2 := (hiW g m h (s) (d) (fun i => if i = 0 then d else R i))) rfl rfl ?_
  refine A_aload_n ok.b rfl dX7_remember_66 gp0 ?_
  refine A_dup ok.b dX7_remember_67 rfl ?_
  refine A_getf ok.b cf7 12 (by decide) fl_X7_294 gp0 (gps (gps (gps (gps (gps (gps (gps (gps (gps (gps (gps (gps gp0)))))))))))) dX7_remember_68 ?_
  refine A_iconst ok.b (v := 1) dX7_remember_71 (by decide) ?_
  refine A_iadd ok.b dX7_remember_72 ?_
  rw [nI_1]
  refine A_putf ok.b cf7 12 (by decide) rfl fl_X7_294 gp0 rfl rfl (gp_lt (gps (gps (gps (gps (gps (gps (gps (gps (gps (gps (gps (gps gp0))))))))))))) (wps (wps (wps (wps (wps (wps (wps (wps (wps (wps (wps (wps wp0)))))))))))) wp0 dX7_remember_73 ?_
  refine A_vret ok dX7_remember_76 (Nat.le_of_ble_eq_true rfl) (Nat.le_of_ble_eq_true rfl) ?_
  exact ⟨rfl, by rw [reS, if_neg (by rw [hu]; decide), reR, if_neg (by rw [hu]; decide), hu]; rfl⟩
set_option maxRecDepth 20000 in
set_option maxHeartbeats 2000000 in
theorem r_rem1 (l : Launch) (g : Gl) (m h : Nat → Nat) (s : MS) (d : Nat → Int32) (R : Nat → Nat → Int32) (hu : s.ud = 1) : Ct l g yX7_remember cX7_remember 2 none 1 40 0 0 [.ref (m 0)] (hiW g m h (s) (d) (R)) (fun v w => v = none ∧ w = (hiW g m h (reS s) (d) (reR s.ud d R))) noX := by
  refine Ct.intro [some (.ref (m 0)), none] (by decide +kernel) (fun _ h => h) (Nat.le_of_ble_eq_true rfl) (fun A H0 K ok => ?_)
  refine A_aload_n ok.b rfl dX7_remember_0 gp0 ?_
  refine A_getf ok.b cf7 12 (by decide) fl_X7_294 gp0 (gps (gps (gps (gps (gps (gps (gps (gps (gps (gps (gps (gps gp0)))))))))))) dX7_remember_1 ?_
  refine A_bipush ok.b (v := 8) dX7_remember_4 (by decide) ?_
  refine A_icmp_ne ok.b (tgt := 50) dX7_remember_6 (by decide) (fun c6 => ?_) (fun c6 => ((show False from absurd c6 (by rw [hu]; decide))).elim)
  refine A_aload_n ok.b rfl dX7_remember_50 gp0 ?_
  refine A_getf ok.b cf7 8 (by decide) fl_X7_17 gp0 (gps (gps (gps (gps (gps (gps (gps (gps gp0)))))))) dX7_remember_51 ?_
  refine A_aload_n ok.b rfl dX7_remember_54 gp0 ?_
  refine A_getf ok.b cf7 11 (by decide) fl_X7_28 gp0 (gps (gps (gps (gps (gps (gps (gps (gps (gps (gps (gps gp0))))))))))) dX7_remember_55 ?_
  refine A_aload_n ok.b rfl dX7_remember_58 gp0 ?_
  refine A_getf ok.b cf7 12 (by decide) fl_X7_294 gp0 (gps (gps (gps (gps (gps (gps (gps (gps (gps (gps (gps (gps gp0)))))))))))) dX7_remember_59 ?_
  rw [hu]
  refine A_aldr ok.b (gps (gps gp0)) (ix_n (j := 1) (by decide) (by decide)) dX7_remember_62 ?_
  change AW g A H0 2 K 63 _ (.ref (h 1) :: _) _ 0 0
  refine A_callSR ok [1, 4] [0, 2, 3, 5, 6, 7, 8, 9, 10] (As := [_, _]) (wr := ([moC m (s), (m 5, .inl (g.2.1 5, 8, .inr (.inr (.inr (.inr (fun j => some (h j))))))), rowC g h (R) 0, rowC g h (R) 2, rowC g h (R) 3, rowC g h (R) 4, rowC g h (R) 5, rowC g h (R) 6, rowC g h (R) 7] : va_W)) mf_X7_copy ml_X7_206 rfl sc_X7_copy  (r_copy l g (m 2) (h 1) (d) (R 1)) rfl rfl rfl dX7_remember_63 rfl rfl rfl (by decide) (Nat.le_of_ble_eq_true rfl) ⟨(Nat.le_of_ble_eq_true rfl), (Nat.le_of_ble_eq_true rfl)⟩ ⟨(Nat.le_of_ble_eq_true rfl), (Nat.le_of_ble_eq_true rfl)⟩ (fun _ _ hx => hx.elim) (fun v63 w63 q63 => ?_)
  obtain ⟨rfl, rfl⟩ := q63
  refine A_sub [0, 9, 1, 2, 10, 3, 4, 5, 6, 7, 8] (ws2 := (hiW g m h (s) (d) (fun i => if i = 1 then d else R i))) rfl rfl ?_
  refine A_aload_n ok.b rfl dX7_remember_66 gp0 ?_
  refine A_dup ok.b dX7_remember_67 rfl ?_
  refine A_getf ok.b cf7 12 (by decide) fl_X7_294 gp0 (gps (gps (gps (gps (gps (gps (gps (gps (gps (gps (gps (gps gp0)))))))))))) dX7_remember_68 ?_
  refine A_iconst ok.b (v := 1) dX7_remember_71 (by decide) ?_
  refine A_iadd ok.b dX7_remember_72 ?_
  rw [nI_1]
  refine A_putf ok.b cf7 12 (by decide) rfl fl_X7_294 gp0 rfl rfl (gp_lt (gps (gps (gps (gps (gps (gps (gps (gps (gps (gps (gps (gps gp0))))))))))))) (wps (wps (wps (wps (wps (wps (wps (wps (wps (wps (wps (wps wp0)))))))))))) wp0 dX7_remember_73 ?_
  refine A_vret ok dX7_remember_76 (Nat.le_of_ble_eq_true rfl) (Nat.le_of_ble_eq_true rfl) ?_
  exact ⟨rfl, by rw [reS, if_neg (by rw [hu]; decide), reR, if_neg (by rw [hu]; decide), hu]; rfl⟩
set_option maxRecDepth 20000 in
set_option maxHeartbeats 2000000 in
theorem r_rem2 (l : Launch) (g : Gl) (m h : Nat → Nat) (s : MS) (d : Nat → Int32) (R : Nat → Nat → Int32) (hu : s.ud = 2) : Ct l g yX7_remember cX7_remember 2 none 1 40 0 0 [.ref (m 0)] (hiW g m h (s) (d) (R)) (fun v w => v = none ∧ w = (hiW g m h (reS s) (d) (reR s.ud d R))) noX := by
  refine Ct.intro [some (.ref (m 0)), none] (by decide +kernel) (fun _ h => h) (Nat.le_of_ble_eq_true rfl) (fun A H0 K ok => ?_)
  refine A_aload_n ok.b rfl dX7_remember_0 gp0 ?_
  refine A_getf ok.b cf7 12 (by decide) fl_X7_294 gp0 (gps (gps (gps (gps (gps (gps (gps (gps (gps (gps (gps (gps gp0)))))))))))) dX7_remember_1 ?_
  refine A_bipush ok.b (v := 8) dX7_remember_4 (by decide) ?_
  refine A_icmp_ne ok.b (tgt := 50) dX7_remember_6 (by decide) (fun c6 => ?_) (fun c6 => ((show False from absurd c6 (by rw [hu]; decide))).elim)
  refine A_aload_n ok.b rfl dX7_remember_50 gp0 ?_
  refine A_getf ok.b cf7 8 (by decide) fl_X7_17 gp0 (gps (gps (gps (gps (gps (gps (gps (gps gp0)))))))) dX7_remember_51 ?_
  refine A_aload_n ok.b rfl dX7_remember_54 gp0 ?_
  refine A_getf ok.b cf7 11 (by decide) fl_X7_28 gp0 (gps (gps (gps (gps (gps (gps (gps (gps (gps (gps (gps gp0))))))))))) dX7_remember_55 ?_
  refine A_aload_n ok.b rfl dX7_remember_58 gp0 ?_
  refine A_getf ok.b cf7 12 (by decide) fl_X7_294 gp0 (gps (gps (gps (gps (gps (gps (gps (gps (gps (gps (gps (gps gp0)))))))))))) dX7_remember_59 ?_
  rw [hu]
  refine A_aldr ok.b (gps (gps gp0)) (ix_n (j := 2) (by decide) (by decide)) dX7_remember_62 ?_
  change AW g A H0 2 K 63 _ (.ref (h 2) :: _) _ 0 0
  refine A_callSR ok [1, 5] [0, 2, 3, 4, 6, 7, 8, 9, 10] (As := [_, _]) (wr := ([moC m (s), (m 5, .inl (g.2.1 5, 8, .inr (.inr (.inr (.inr (fun j => some (h j))))))), rowC g h (R) 0, rowC g h (R) 1, rowC g h (R) 3, rowC g h (R) 4, rowC g h (R) 5, rowC g h (R) 6, rowC g h (R) 7] : va_W)) mf_X7_copy ml_X7_206 rfl sc_X7_copy  (r_copy l g (m 2) (h 2) (d) (R 2)) rfl rfl rfl dX7_remember_63 rfl rfl rfl (by decide) (Nat.le_of_ble_eq_true rfl) ⟨(Nat.le_of_ble_eq_true rfl), (Nat.le_of_ble_eq_true rfl)⟩ ⟨(Nat.le_of_ble_eq_true rfl), (Nat.le_of_ble_eq_true rfl)⟩ (fun _ _ hx => hx.elim) (fun v63 w63 q63 => ?_)
  obtain ⟨rfl, rfl⟩ := q63
  refine A_sub [0, 9, 1, 2, 3, 10, 4, 5, 6, 7, 8] (ws2 := (hiW g m h (s) (d) (fun i => if i = 2 then d else R i))) rfl rfl ?_
  refine A_aload_n ok.b rfl dX7_remember_66 gp0 ?_
  refine A_dup ok.b dX7_remember_67 rfl ?_
  refine A_getf ok.b cf7 12 (by decide) fl_X7_294 gp0 (gps (gps (gps (gps (gps (gps (gps (gps (gps (gps (gps (gps gp0)))))))))))) dX7_remember_68 ?_
  refine A_iconst ok.b (v := 1) dX7_remember_71 (by decide) ?_
  refine A_iadd ok.b dX7_remember_72 ?_
  rw [nI_1]
  refine A_putf ok.b cf7 12 (by decide) rfl fl_X7_294 gp0 rfl rfl (gp_lt (gps (gps (gps (gps (gps (gps (gps (gps (gps (gps (gps (gps gp0))))))))))))) (wps (wps (wps (wps (wps (wps (wps (wps (wps (wps (wps (wps wp0)))))))))))) wp0 dX7_remember_73 ?_
  refine A_vret ok dX7_remember_76 (Nat.le_of_ble_eq_true rfl) (Nat.le_of_ble_eq_true rfl) ?_
  exact ⟨rfl, by rw [reS, if_neg (by rw [hu]; decide), reR, if_neg (by rw [hu]; decide), hu]; rfl⟩
set_option maxRecDepth 20000 in
set_option maxHeartbeats 2000000 in
theorem r_rem3 (l : Launch) (g : Gl) (m h : Nat → Nat) (s : MS) (d : Nat → Int32) (R : Nat → Nat → Int32) (hu : s.ud = 3) : Ct l g yX7_remember cX7_remember 2 none 1 40 0 0 [.ref (m 0)] (hiW g m h (s) (d) (R)) (fun v w => v = none ∧ w = (hiW g m h (reS s) (d) (reR s.ud d R))) noX := by
  refine Ct.intro [some (.ref (m 0)), none] (by decide +kernel) (fun _ h => h) (Nat.le_of_ble_eq_true rfl) (fun A H0 K ok => ?_)
  refine A_aload_n ok.b rfl dX7_remember_0 gp0 ?_
  refine A_getf ok.b cf7 12 (by decide) fl_X7_294 gp0 (gps (gps (gps (gps (gps (gps (gps (gps (gps (gps (gps (gps gp0)))))))))))) dX7_remember_1 ?_
  refine A_bipush ok.b (v := 8) dX7_remember_4 (by decide) ?_
  refine A_icmp_ne ok.b (tgt := 50) dX7_remember_6 (by decide) (fun c6 => ?_) (fun c6 => ((show False from absurd c6 (by rw [hu]; decide))).elim)
  refine A_aload_n ok.b rfl dX7_remember_50 gp0 ?_
  refine A_getf ok.b cf7 8 (by decide) fl_X7_17 gp0 (gps (gps (gps (gps (gps (gps (gps (gps gp0)))))))) dX7_remember_51 ?_
  refine A_aload_n ok.b rfl dX7_remember_54 gp0 ?_
  refine A_getf ok.b cf7 11 (by decide) fl_X7_28 gp0 (gps (gps (gps (gps (gps (gps (gps (gps (gps (gps (gps gp0))))))))))) dX7_remember_55 ?_
  refine A_aload_n ok.b rfl dX7_remember_58 gp0 ?_
  refine A_getf ok.b cf7 12 (by decide) fl_X7_294 gp0 (gps (gps (gps (gps (gps (gps (gps (gps (gps (gps (gps (gps gp0)))))))))))) dX7_remember_59 ?_
  rw [hu]
  refine A_aldr ok.b (gps (gps gp0)) (ix_n (j := 3) (by decide) (by decide)) dX7_remember_62 ?_
  change AW g A H0 2 K 63 _ (.ref (h 3) :: _) _ 0 0
  refine A_callSR ok [1, 6] [0, 2, 3, 4, 5, 7, 8, 9, 10] (As := [_, _]) (wr := ([moC m (s), (m 5, .inl (g.2.1 5, 8, .inr (.inr (.inr (.inr (fun j => some (h j))))))), rowC g h (R) 0, rowC g h (R) 1, rowC g h (R) 2, rowC g h (R) 4, rowC g h (R) 5, rowC g h (R) 6, rowC g h (R) 7] : va_W)) mf_X7_copy ml_X7_206 rfl sc_X7_copy  (r_copy l g (m 2) (h 3) (d) (R 3)) rfl rfl rfl dX7_remember_63 rfl rfl rfl (by decide) (Nat.le_of_ble_eq_true rfl) ⟨(Nat.le_of_ble_eq_true rfl), (Nat.le_of_ble_eq_true rfl)⟩ ⟨(Nat.le_of_ble_eq_true rfl), (Nat.le_of_ble_eq_true rfl)⟩ (fun _ _ hx => hx.elim) (fun v63 w63 q63 => ?_)
  obtain ⟨rfl, rfl⟩ := q63
  refine A_sub [0, 9, 1, 2, 3, 4, 10, 5, 6, 7, 8] (ws2 := (hiW g m h (s) (d) (fun i => if i = 3 then d else R i))) rfl rfl ?_
  refine A_aload_n ok.b rfl dX7_remember_66 gp0 ?_
  refine A_dup ok.b dX7_remember_67 rfl ?_
  refine A_getf ok.b cf7 12 (by decide) fl_X7_294 gp0 (gps (gps (gps (gps (gps (gps (gps (gps (gps (gps (gps (gps gp0)))))))))))) dX7_remember_68 ?_
  refine A_iconst ok.b (v := 1) dX7_remember_71 (by decide) ?_
  refine A_iadd ok.b dX7_remember_72 ?_
  rw [nI_1]
  refine A_putf ok.b cf7 12 (by decide) rfl fl_X7_294 gp0 rfl rfl (gp_lt (gps (gps (gps (gps (gps (gps (gps (gps (gps (gps (gps (gps gp0))))))))))))) (wps (wps (wps (wps (wps (wps (wps (wps (wps (wps (wps (wps wp0)))))))))))) wp0 dX7_remember_73 ?_
  refine A_vret ok dX7_remember_76 (Nat.le_of_ble_eq_true rfl) (Nat.le_of_ble_eq_true rfl) ?_
  exact ⟨rfl, by rw [reS, if_neg (by rw [hu]; decide), reR, if_neg (by rw [hu]; decide), hu]; rfl⟩
set_option maxRecDepth 20000 in
set_option maxHeartbeats 2000000 in
theorem r_rem4 (l : Launch) (g : Gl) (m h : Nat → Nat) (s : MS) (d : Nat → Int32) (R : Nat → Nat → Int32) (hu : s.ud = 4) : Ct l g yX7_remember cX7_remember 2 none 1 40 0 0 [.ref (m 0)] (hiW g m h (s) (d) (R)) (fun v w => v = none ∧ w = (hiW g m h (reS s) (d) (reR s.ud d R))) noX := by
  refine Ct.intro [some (.ref (m 0)), none] (by decide +kernel) (fun _ h => h) (Nat.le_of_ble_eq_true rfl) (fun A H0 K ok => ?_)
  refine A_aload_n ok.b rfl dX7_remember_0 gp0 ?_
  refine A_getf ok.b cf7 12 (by decide) fl_X7_294 gp0 (gps (gps (gps (gps (gps (gps (gps (gps (gps (gps (gps (gps gp0)))))))))))) dX7_remember_1 ?_
  refine A_bipush ok.b (v := 8) dX7_remember_4 (by decide) ?_
  refine A_icmp_ne ok.b (tgt := 50) dX7_remember_6 (by decide) (fun c6 => ?_) (fun c6 => ((show False from absurd c6 (by rw [hu]; decide))).elim)
  refine A_aload_n ok.b rfl dX7_remember_50 gp0 ?_
  refine A_getf ok.b cf7 8 (by decide) fl_X7_17 gp0 (gps (gps (gps (gps (gps (gps (gps (gps gp0)))))))) dX7_remember_51 ?_
  refine A_aload_n ok.b rfl dX7_remember_54 gp0 ?_
  refine A_getf ok.b cf7 11 (by decide) fl_X7_28 gp0 (gps (gps (gps (gps (gps (gps (gps (gps (gps (gps (gps gp0))))))))))) dX7_remember_55 ?_
  refine A_aload_n ok.b rfl dX7_remember_58 gp0 ?_
  refine A_getf ok.b cf7 12 (by decide) fl_X7_294 gp0 (gps (gps (gps (gps (gps (gps (gps (gps (gps (gps (gps (gps gp0)))))))))))) dX7_remember_59 ?_
  rw [hu]
  refine A_aldr ok.b (gps (gps gp0)) (ix_n (j := 4) (by decide) (by decide)) dX7_remember_62 ?_
  change AW g A H0 2 K 63 _ (.ref (h 4) :: _) _ 0 0
  refine A_callSR ok [1, 7] [0, 2, 3, 4, 5, 6, 8, 9, 10] (As := [_, _]) (wr := ([moC m (s), (m 5, .inl (g.2.1 5, 8, .inr (.inr (.inr (.inr (fun j => some (h j))))))), rowC g h (R) 0, rowC g h (R) 1, rowC g h (R) 2, rowC g h (R) 3, rowC g h (R) 5, rowC g h (R) 6, rowC g h (R) 7] : va_W)) mf_X7_copy ml_X7_206 rfl sc_X7_copy  (r_copy l g (m 2) (h 4) (d) (R 4)) rfl rfl rfl dX7_remember_63 rfl rfl rfl (by decide) (Nat.le_of_ble_eq_true rfl) ⟨(Nat.le_of_ble_eq_true rfl), (Nat.le_of_ble_eq_true rfl)⟩ ⟨(Nat.le_of_ble_eq_true rfl), (Nat.le_of_ble_eq_true rfl)⟩ (fun _ _ hx => hx.elim) (fun v63 w63 q63 => ?_)
  obtain ⟨rfl, rfl⟩ := q63
  refine A_sub [0, 9, 1, 2, 3, 4, 5, 10, 6, 7, 8] (ws2 := (hiW g m h (s) (d) (fun i => if i = 4 then d else R i))) rfl rfl ?_
  refine A_aload_n ok.b rfl dX7_remember_66 gp0 ?_
  refine A_dup ok.b dX7_remember_67 rfl ?_
  refine A_getf ok.b cf7 12 (by decide) fl_X7_294 gp0 (gps (gps (gps (gps (gps (gps (gps (gps (gps (gps (gps (gps gp0)))))))))))) dX7_remember_68 ?_
  refine A_iconst ok.b (v := 1) dX7_remember_71 (by decide) ?_
  refine A_iadd ok.b dX7_remember_72 ?_
  rw [nI_1]
  refine A_putf ok.b cf7 12 (by decide) rfl fl_X7_294 gp0 rfl rfl (gp_lt (gps (gps (gps (gps (gps (gps (gps (gps (gps (gps (gps (gps gp0))))))))))))) (wps (wps (wps (wps (wps (wps (wps (wps (wps (wps (wps (wps wp0)))))))))))) wp0 dX7_remember_73 ?_
  refine A_vret ok dX7_remember_76 (Nat.le_of_ble_eq_true rfl) (Nat.le_of_ble_eq_true rfl) ?_
  exact ⟨rfl, by rw [reS, if_neg (by rw [hu]; decide), reR, if_neg (by rw [hu]; decide), hu]; rfl⟩
set_option maxRecDepth 20000 in
set_option maxHeartbeats 2000000 in
theorem r_rem5 (l : Launch) (g : Gl) (m h : Nat → Nat) (s : MS) (d : Nat → Int32) (R : Nat → Nat → Int32) (hu : s.ud = 5) : Ct l g yX7_remember cX7_remember 2 none 1 40 0 0 [.ref (m 0)] (hiW g m h (s) (d) (R)) (fun v w => v = none ∧ w = (hiW g m h (reS s) (d) (reR s.ud d R))) noX := by
  refine Ct.intro [some (.ref (m 0)), none] (by decide +kernel) (fun _ h => h) (Nat.le_of_ble_eq_true rfl) (fun A H0 K ok => ?_)
  refine A_aload_n ok.b rfl dX7_remember_0 gp0 ?_
  refine A_getf ok.b cf7 12 (by decide) fl_X7_294 gp0 (gps (gps (gps (gps (gps (gps (gps (gps (gps (gps (gps (gps gp0)))))))))))) dX7_remember_1 ?_
  refine A_bipush ok.b (v := 8) dX7_remember_4 (by decide) ?_
  refine A_icmp_ne ok.b (tgt := 50) dX7_remember_6 (by decide) (fun c6 => ?_) (fun c6 => ((show False from absurd c6 (by rw [hu]; decide))).elim)
  refine A_aload_n ok.b rfl dX7_remember_50 gp0 ?_
  refine A_getf ok.b cf7 8 (by decide) fl_X7_17 gp0 (gps (gps (gps (gps (gps (gps (gps (gps gp0)))))))) dX7_remember_51 ?_
  refine A_aload_n ok.b rfl dX7_remember_54 gp0 ?_
  refine A_getf ok.b cf7 11 (by decide) fl_X7_28 gp0 (gps (gps (gps (gps (gps (gps (gps (gps (gps (gps (gps gp0))))))))))) dX7_remember_55 ?_
  refine A_aload_n ok.b rfl dX7_remember_58 gp0 ?_
  refine A_getf ok.b cf7 12 (by decide) fl_X7_294 gp0 (gps (gps (gps (gps (gps (gps (gps (gps (gps (gps (gps (gps gp0)))))))))))) dX7_remember_59 ?_
  rw [hu]
  refine A_aldr ok.b (gps (gps gp0)) (ix_n (j := 5) (by decide) (by decide)) dX7_remember_62 ?_
  change AW g A H0 2 K 63 _ (.ref (h 5) :: _) _ 0 0
  refine A_callSR ok [1, 8] [0, 2, 3, 4, 5, 6, 7, 9, 10] (As := [_, _]) (wr := ([moC m (s), (m 5, .inl (g.2.1 5, 8, .inr (.inr (.inr (.inr (fun j => some (h j))))))), rowC g h (R) 0, rowC g h (R) 1, rowC g h (R) 2, rowC g h (R) 3, rowC g h (R) 4, rowC g h (R) 6, rowC g h (R) 7] : va_W)) mf_X7_copy ml_X7_206 rfl sc_X7_copy  (r_copy l g (m 2) (h 5) (d) (R 5)) rfl rfl rfl dX7_remember_63 rfl rfl rfl (by decide) (Nat.le_of_ble_eq_true rfl) ⟨(Nat.le_of_ble_eq_true rfl), (Nat.le_of_ble_eq_true rfl)⟩ ⟨(Nat.le_of_ble_eq_true rfl), (Nat.le_of_ble_eq_true rfl)⟩ (fun _ _ hx => hx.elim) (fun v63 w63 q63 => ?_)
  obtain ⟨rfl, rfl⟩ := q63
  refine A_sub [0, 9, 1, 2, 3, 4, 5, 6, 10, 7, 8] (ws2 := (hiW g m h (s) (d) (fun i => if i = 5 then d else R i))) rfl rfl ?_
  refine A_aload_n ok.b rfl dX7_remember_66 gp0 ?_
  refine A_dup ok.b dX7_remember_67 rfl ?_
  refine A_getf ok.b cf7 12 (by decide) fl_X7_294 gp0 (gps (gps (gps (gps (gps (gps (gps (gps (gps (gps (gps (gps gp0)))))))))))) dX7_remember_68 ?_
  refine A_iconst ok.b (v := 1) dX7_remember_71 (by decide) ?_
  refine A_iadd ok.b dX7_remember_72 ?_
  rw [nI_1]
  refine A_putf ok.b cf7 12 (by decide) rfl fl_X7_294 gp0 rfl rfl (gp_lt (gps (gps (gps (gps (gps (gps (gps (gps (gps (gps (gps (gps gp0))))))))))))) (wps (wps (wps (wps (wps (wps (wps (wps (wps (wps (wps (wps wp0)))))))))))) wp0 dX7_remember_73 ?_
  refine A_vret ok dX7_remember_76 (Nat.le_of_ble_eq_true rfl) (Nat.le_of_ble_eq_true rfl) ?_
  exact ⟨rfl, by rw [reS, if_neg (by rw [hu]; decide), reR, if_neg (by rw [hu]; decide), hu]; rfl⟩
set_option maxRecDepth 20000 in
set_option maxHeartbeats 2000000 in
theorem r_rem6 (l : Launch) (g : Gl) (m h : Nat → Nat) (s : MS) (d : Nat → Int32) (R : Nat → Nat → Int32) (hu : s.ud = 6) : Ct l g yX7_remember cX7_remember 2 none 1 40 0 0 [.ref (m 0)] (hiW g m h (s) (d) (R)) (fun v w => v = none ∧ w = (hiW g m h (reS s) (d) (reR s.ud d R))) noX := by
  refine Ct.intro [some (.ref (m 0)), none] (by decide +kernel) (fun _ h => h) (Nat.le_of_ble_eq_true rfl) (fun A H0 K ok => ?_)
  refine A_aload_n ok.b rfl dX7_remember_0 gp0 ?_
  refine A_getf ok.b cf7 12 (by decide) fl_X7_294 gp0 (gps (gps (gps (gps (gps (gps (gps (gps (gps (gps (gps (gps gp0)))))))))))) dX7_remember_1 ?_
  refine A_bipush ok.b (v := 8) dX7_remember_4 (by decide) ?_
  refine A_icmp_ne ok.b (tgt := 50) dX7_remember_6 (by decide) (fun c6 => ?_) (fun c6 => ((show False from absurd c6 (by rw [hu]; decide))).elim)
  refine A_aload_n ok.b rfl dX7_remember_50 gp0 ?_
  refine A_getf ok.b cf7 8 (by decide) fl_X7_17 gp0 (gps (gps (gps (gps (gps (gps (gps (gps gp0)))))))) dX7_remember_51 ?_
  refine A_aload_n ok.b rfl dX7_remember_54 gp0 ?_
  refine A_getf ok.b cf7 11 (by decide) fl_X7_28 gp0 (gps (gps (gps (gps (gps (gps (gps (gps (gps (gps (gps gp0))))))))))) dX7_remember_55 ?_
  refine A_aload_n ok.b rfl dX7_remember_58 gp0 ?_
  refine A_getf ok.b cf7 12 (by decide) fl_X7_294 gp0 (gps (gps (gps (gps (gps (gps (gps (gps (gps (gps (gps (gps gp0)))))))))))) dX7_remember_59 ?_
  rw [hu]
  refine A_aldr ok.b (gps (gps gp0)) (ix_n (j := 6) (by decide) (by decide)) dX7_remember_62 ?_
  change AW g A H0 2 K 63 _ (.ref (h 6) :: _) _ 0 0
  refine A_callSR ok [1, 9] [0, 2, 3, 4, 5, 6, 7, 8, 10] (As := [_, _]) (wr := ([moC m (s), (m 5, .inl (g.2.1 5, 8, .inr (.inr (.inr (.inr (fun j => some (h j))))))), rowC g h (R) 0, rowC g h (R) 1, rowC g h (R) 2, rowC g h (R) 3, rowC g h (R) 4, rowC g h (R) 5, rowC g h (R) 7] : va_W)) mf_X7_copy ml_X7_206 rfl sc_X7_copy  (r_copy l g (m 2) (h 6) (d) (R 6)) rfl rfl rfl dX7_remember_63 rfl rfl rfl (by decide) (Nat.le_of_ble_eq_true rfl) ⟨(Nat.le_of_ble_eq_true rfl), (Nat.le_of_ble_eq_true rfl)⟩ ⟨(Nat.le_of_ble_eq_true rfl), (Nat.le_of_ble_eq_true rfl)⟩ (fun _ _ hx => hx.elim) (fun v63 w63 q63 => ?_)
  obtain ⟨rfl, rfl⟩ := q63
  refine A_sub [0, 9, 1, 2, 3, 4, 5, 6, 7, 10, 8] (ws2 := (hiW g m h (s) (d) (fun i => if i = 6 then d else R i))) rfl rfl ?_
  refine A_aload_n ok.b rfl dX7_remember_66 gp0 ?_
  refine A_dup ok.b dX7_remember_67 rfl ?_
  refine A_getf ok.b cf7 12 (by decide) fl_X7_294 gp0 (gps (gps (gps (gps (gps (gps (gps (gps (gps (gps (gps (gps gp0)))))))))))) dX7_remember_68 ?_
  refine A_iconst ok.b (v := 1) dX7_remember_71 (by decide) ?_
  refine A_iadd ok.b dX7_remember_72 ?_
  rw [nI_1]
  refine A_putf ok.b cf7 12 (by decide) rfl fl_X7_294 gp0 rfl rfl (gp_lt (gps (gps (gps (gps (gps (gps (gps (gps (gps (gps (gps (gps gp0))))))))))))) (wps (wps (wps (wps (wps (wps (wps (wps (wps (wps (wps (wps wp0)))))))))))) wp0 dX7_remember_73 ?_
  refine A_vret ok dX7_remember_76 (Nat.le_of_ble_eq_true rfl) (Nat.le_of_ble_eq_true rfl) ?_
  exact ⟨rfl, by rw [reS, if_neg (by rw [hu]; decide), reR, if_neg (by rw [hu]; decide), hu]; rfl⟩
set_option maxRecDepth 20000 in
set_option maxHeartbeats 2000000 in
theorem r_rem7 (l : Launch) (g : Gl) (m h : Nat → Nat) (s : MS) (d : Nat → Int32) (R : Nat → Nat → Int32) (hu : s.ud = 7) : Ct l g yX7_remember cX7_remember 2 none 1 40 0 0 [.ref (m 0)] (hiW g m h (s) (d) (R)) (fun v w => v = none ∧ w = (hiW g m h (reS s) (d) (reR s.ud d R))) noX := by
  refine Ct.intro [some (.ref (m 0)), none] (by decide +kernel) (fun _ h => h) (Nat.le_of_ble_eq_true rfl) (fun A H0 K ok => ?_)
  refine A_aload_n ok.b rfl dX7_remember_0 gp0 ?_
  refine A_getf ok.b cf7 12 (by decide) fl_X7_294 gp0 (gps (gps (gps (gps (gps (gps (gps (gps (gps (gps (gps (gps gp0)))))))))))) dX7_remember_1 ?_
  refine A_bipush ok.b (v := 8) dX7_remember_4 (by decide) ?_
  refine A_icmp_ne ok.b (tgt := 50) dX7_remember_6 (by decide) (fun c6 => ?_) (fun c6 => ((show False from absurd c6 (by rw [hu]; decide))).elim)
  refine A_aload_n ok.b rfl dX7_remember_50 gp0 ?_
  refine A_getf ok.b cf7 8 (by decide) fl_X7_17 gp0 (gps (gps (gps (gps (gps (gps (gps (gps gp0)))))))) dX7_remember_51 ?_
  refine A_aload_n ok.b rfl dX7_remember_54 gp0 ?_
  refine A_getf ok.b cf7 11 (by decide) fl_X7_28 gp0 (gps (gps (gps (gps (gps (gps (gps (gps (gps (gps (gps gp0))))))))))) dX7_remember_55 ?_
  refine A_aload_n ok.b rfl dX7_remember_58 gp0 ?_
  refine A_getf ok.b cf7 12 (by decide) fl_X7_294 gp0 (gps (gps (gps (gps (gps (gps (gps (gps (gps (gps (gps (gps gp0)))))))))))) dX7_remember_59 ?_
  rw [hu]
  refine A_aldr ok.b (gps (gps gp0)) (ix_n (j := 7) (by decide) (by decide)) dX7_remember_62 ?_
  change AW g A H0 2 K 63 _ (.ref (h 7) :: _) _ 0 0
  refine A_callSR ok [1, 10] [0, 2, 3, 4, 5, 6, 7, 8, 9] (As := [_, _]) (wr := ([moC m (s), (m 5, .inl (g.2.1 5, 8, .inr (.inr (.inr (.inr (fun j => some (h j))))))), rowC g h (R) 0, rowC g h (R) 1, rowC g h (R) 2, rowC g h (R) 3, rowC g h (R) 4, rowC g h (R) 5, rowC g h (R) 6] : va_W)) mf_X7_copy ml_X7_206 rfl sc_X7_copy  (r_copy l g (m 2) (h 7) (d) (R 7)) rfl rfl rfl dX7_remember_63 rfl rfl rfl (by decide) (Nat.le_of_ble_eq_true rfl) ⟨(Nat.le_of_ble_eq_true rfl), (Nat.le_of_ble_eq_true rfl)⟩ ⟨(Nat.le_of_ble_eq_true rfl), (Nat.le_of_ble_eq_true rfl)⟩ (fun _ _ hx => hx.elim) (fun v63 w63 q63 => ?_)
  obtain ⟨rfl, rfl⟩ := q63
  refine A_sub [0, 9, 1, 2, 3, 4, 5, 6, 7, 8, 10] (ws2 := (hiW g m h (s) (d) (fun i => if i = 7 then d else R i))) rfl rfl ?_
  refine A_aload_n ok.b rfl dX7_remember_66 gp0 ?_
  refine A_dup ok.b dX7_remember_67 rfl ?_
  refine A_getf ok.b cf7 12 (by decide) fl_X7_294 gp0 (gps (gps (gps (gps (gps (gps (gps (gps (gps (gps (gps (gps gp0)))))))))))) dX7_remember_68 ?_
  refine A_iconst ok.b (v := 1) dX7_remember_71 (by decide) ?_
  refine A_iadd ok.b dX7_remember_72 ?_
  rw [nI_1]
  refine A_putf ok.b cf7 12 (by decide) rfl fl_X7_294 gp0 rfl rfl (gp_lt (gps (gps (gps (gps (gps (gps (gps (gps (gps (gps (gps (gps gp0))))))))))))) (wps (wps (wps (wps (wps (wps (wps (wps (wps (wps (wps (wps wp0)))))))))))) wp0 dX7_remember_73 ?_
  refine A_vret ok dX7_remember_76 (Nat.le_of_ble_eq_true rfl) (Nat.le_of_ble_eq_true rfl) ?_
  exact ⟨rfl, by rw [reS, if_neg (by rw [hu]; decide), reR, if_neg (by rw [hu]; decide), hu]; rfl⟩
set_option maxRecDepth 20000 in
set_option maxHeartbeats 2000000 in
theorem r_rem8 (l : Launch) (g : Gl) (m h : Nat → Nat) (s : MS) (d : Nat → Int32) (R : Nat → Nat → Int32) (hu : s.ud = 8) : Ct l g yX7_remember cX7_remember 2 none 1 40 0 0 [.ref (m 0)] (hiW g m h (s) (d) (R)) (fun v w => v = none ∧ w = (hiW g m h (reS s) (d) (reR s.ud d R))) noX := by
  refine Ct.intro [some (.ref (m 0)), none] (by decide +kernel) (fun _ h => h) (Nat.le_of_ble_eq_true rfl) (fun A H0 K ok => ?_)
  refine A_aload_n ok.b rfl dX7_remember_0 gp0 ?_
  refine A_getf ok.b cf7 12 (by decide) fl_X7_294 gp0 (gps (gps (gps (gps (gps (gps (gps (gps (gps (gps (gps (gps gp0)))))))))))) dX7_remember_1 ?_
  refine A_bipush ok.b (v := 8) dX7_remember_4 (by decide) ?_
  refine A_icmp_ne ok.b (tgt := 50) dX7_remember_6 (by decide) (fun c6 => ((show False from c6 (by rw [hu]; rfl))).elim) (fun c6 => ?_)
  refine A_iconst ok.b (v := 1) dX7_remember_9 (by decide) ?_
  refine A_istore_n ok.b rfl dX7_remember_10 (by decide) (sts1 rfl st0) ?_
  refine A_iload_n ok.b rfl dX7_remember_11 (gps gp0) ?_
  refine A_bipush ok.b (v := 8) dX7_remember_12 (by decide) ?_
  refine A_icmp_ge ok.b (tgt := 40) dX7_remember_14 (by decide) (fun c14 => ((show False from absurd c14 (by decide))).elim) (fun c14 => ?_)
  refine A_aload_n ok.b rfl dX7_remember_17 gp0 ?_
  refine A_getf ok.b cf7 11 (by decide) fl_X7_28 gp0 (gps (gps (gps (gps (gps (gps (gps (gps (gps (gps (gps gp0))))))))))) dX7_remember_18 ?_
  refine A_iload_n ok.b rfl dX7_remember_21 (gps gp0) ?_
  refine A_aldr ok.b (gps (gps gp0)) (show Ix (1) 8 1 from by rw [show (1 : Int32) = nI 1 from by decide]; exact ix_n (by decide) (by decide)) dX7_remember_22 ?_
  change AW g A H0 2 K 23 _ (.ref (h 1) :: _) _ 0 0
  refine A_aload_n ok.b rfl dX7_remember_23 gp0 ?_
  refine A_getf ok.b cf7 11 (by decide) fl_X7_28 gp0 (gps (gps (gps (gps (gps (gps (gps (gps (gps (gps (gps gp0))))))))))) dX7_remember_24 ?_
  refine A_iload_n ok.b rfl dX7_remember_27 (gps gp0) ?_
  refine A_iconst ok.b (v := 1) dX7_remember_28 (by decide) ?_
  refine A_isub ok.b dX7_remember_29 ?_
  refine A_aldr ok.b (gps (gps gp0)) (show Ix (1 - 1) 8 0 from by rw [show (1 - 1 : Int32) = nI 0 from by decide]; exact ix_n (by decide) (by decide)) dX7_remember_30 ?_
  change AW g A H0 2 K 31 _ (.ref (h 0) :: _) _ 0 0
  refine A_callSR ok [4, 3] [0, 1, 2, 5, 6, 7, 8, 9, 10] (As := [_, _]) (wr := ([moC m (s), (m 2, .inl (g.2.1 0, 1476, .inl (d))), (m 5, .inl (g.2.1 5, 8, .inr (.inr (.inr (.inr (fun j => some (h j))))))), rowC g h (R) 2, rowC g h (R) 3, rowC g h (R) 4, rowC g h (R) 5, rowC g h (R) 6, rowC g h (R) 7] : va_W)) mf_X7_copy ml_X7_206 rfl sc_X7_copy  (r_copy l g (h 1) (h 0) ((R) 1) ((R) 0)) rfl rfl rfl dX7_remember_31 rfl rfl rfl (by decide) (Nat.le_of_ble_eq_true rfl) ⟨(Nat.le_of_ble_eq_true rfl), (Nat.le_of_ble_eq_true rfl)⟩ ⟨(Nat.le_of_ble_eq_true rfl), (Nat.le_of_ble_eq_true rfl)⟩ (fun _ _ hx => hx.elim) (fun v31 w31 q31 => ?_)
  obtain ⟨rfl, rfl⟩ := q31
  refine A_sub [0, 1, 2, 10, 9, 3, 4, 5, 6, 7, 8] (ws2 := (hiW g m h (s) (d) (fun i => if i < 1 then R (i + 1) else R i))) rfl rfl ?_
  refine A_iinc ok.b (v := _ + 1) dX7_remember_34 (gps gp0) rfl (by decide) (sts1 rfl st0) ?_
  refine A_goto ok.b (tgt := 11) dX7_remember_37 (by decide) ?_
  refine A_iload_n ok.b rfl dX7_remember_11 (gps gp0) ?_
  refine A_bipush ok.b (v := 8) dX7_remember_12 (by decide) ?_
  refine A_icmp_ge ok.b (tgt := 40) dX7_remember_14 (by decide) (fun c14 => ((show False from absurd c14 (by decide))).elim) (fun c14 => ?_)
  refine A_aload_n ok.b rfl dX7_remember_17 gp0 ?_
  refine A_getf ok.b cf7 11 (by decide) fl_X7_28 gp0 (gps (gps (gps (gps (gps (gps (gps (gps (gps (gps (gps gp0))))))))))) dX7_remember_18 ?_
  refine A_iload_n ok.b rfl dX7_remember_21 (gps gp0) ?_
  refine A_aldr ok.b (gps (gps gp0)) (show Ix (1 + 1) 8 2 from by rw [show (1 + 1 : Int32) = nI 2 from by decide]; exact ix_n (by decide) (by decide)) dX7_remember_22 ?_
  change AW g A H0 2 K 23 _ (.ref (h 2) :: _) _ 0 0
  refine A_aload_n ok.b rfl dX7_remember_23 gp0 ?_
  refine A_getf ok.b cf7 11 (by decide) fl_X7_28 gp0 (gps (gps (gps (gps (gps (gps (gps (gps (gps (gps (gps gp0))))))))))) dX7_remember_24 ?_
  refine A_iload_n ok.b rfl dX7_remember_27 (gps gp0) ?_
  refine A_iconst ok.b (v := 1) dX7_remember_28 (by decide) ?_
  refine A_isub ok.b dX7_remember_29 ?_
  refine A_aldr ok.b (gps (gps gp0)) (show Ix (1 + 1 - 1) 8 1 from by rw [show (1 + 1 - 1 : Int32) = nI 1 from by decide]; exact ix_n (by decide) (by decide)) dX7_remember_30 ?_
  change AW g A H0 2 K 31 _ (.ref (h 1) :: _) _ 0 0
  refine A_callSR ok [5, 4] [0, 1, 2, 3, 6, 7, 8, 9, 10] (As := [_, _]) (wr := ([moC m (s), (m 2, .inl (g.2.1 0, 1476, .inl (d))), (m 5, .inl (g.2.1 5, 8, .inr (.inr (.inr (.inr (fun j => some (h j))))))), rowC g h (fun i => if i < 1 then R (i + 1) else R i) 0, rowC g h (fun i => if i < 1 then R (i + 1) else R i) 3, rowC g h (fun i => if i < 1 then R (i + 1) else R i) 4, rowC g h (fun i => if i < 1 then R (i + 1) else R i) 5, rowC g h (fun i => if i < 1 then R (i + 1) else R i) 6, rowC g h (fun i => if i < 1 then R (i + 1) else R i) 7] : va_W)) mf_X7_copy ml_X7_206 rfl sc_X7_copy  (r_copy l g (h 2) (h 1) ((fun i => if i < 1 then R (i + 1) else R i) 2) ((fun i => if i < 1 then R (i + 1) else R i) 1)) rfl rfl rfl dX7_remember_31 rfl rfl rfl (by decide) (Nat.le_of_ble_eq_true rfl) ⟨(Nat.le_of_ble_eq_true rfl), (Nat.le_of_ble_eq_true rfl)⟩ ⟨(Nat.le_of_ble_eq_true rfl), (Nat.le_of_ble_eq_true rfl)⟩ (fun _ _ hx => hx.elim) (fun v31 w31 q31 => ?_)
  obtain ⟨rfl, rfl⟩ := q31
  refine A_sub [0, 1, 2, 3, 10, 9, 4, 5, 6, 7, 8] (ws2 := (hiW g m h (s) (d) (fun i => if i < 2 then R (i + 1) else R i))) rfl rfl ?_
  refine A_iinc ok.b (v := _ + 1) dX7_remember_34 (gps gp0) rfl (by decide) (sts1 rfl st0) ?_
  refine A_goto ok.b (tgt := 11) dX7_remember_37 (by decide) ?_
  refine A_iload_n ok.b rfl dX7_remember_11 (gps gp0) ?_
  refine A_bipush ok.b (v := 8) dX7_remember_12 (by decide) ?_
  refine A_icmp_ge ok.b (tgt := 40) dX7_remember_14 (by decide) (fun c14 => ((show False from absurd c14 (by decide))).elim) (fun c14 => ?_)
  refine A_aload_n ok.b rfl dX7_remember_17 gp0 ?_
  refine A_getf ok.b cf7 11 (by decide) fl_X7_28 gp0 (gps (gps (gps (gps (gps (gps (gps (gps (gps (gps (gps gp0))))))))))) dX7_remember_18 ?_
  refine A_iload_n ok.b rfl dX7_remember_21 (gps gp0) ?_
  refine A_aldr ok.b (gps (gps gp0)) (show Ix (1 + 1 + 1) 8 3 from by rw [show (1 + 1 + 1 : Int32) = nI 3 from by decide]; exact ix_n (by decide) (by decide)) dX7_remember_22 ?_
  change AW g A H0 2 K 23 _ (.ref (h 3) :: _) _ 0 0
  refine A_aload_n ok.b rfl dX7_remember_23 gp0 ?_
  refine A_getf ok.b cf7 11 (by decide) fl_X7_28 gp0 (gps (gps (gps (gps (gps (gps (gps (gps (gps (gps (gps gp0))))))))))) dX7_remember_24 ?_
  refine A_iload_n ok.b rfl dX7_remember_27 (gps gp0) ?_
  refine A_iconst ok.b (v := 1) dX7_remember_28 (by decide) ?_
  refine A_isub ok.b dX7_remember_29 ?_
  refine A_aldr ok.b (gps (gps gp0)) (show Ix (1 + 1 + 1 - 1) 8 2 from by rw [show (1 + 1 + 1 - 1 : Int32) = nI 2 from by decide]; exact ix_n (by decide) (by decide)) dX7_remember_30 ?_
  change AW g A H0 2 K 31 _ (.ref (h 2) :: _) _ 0 0
  refine A_callSR ok [6, 5] [0, 1, 2, 3, 4, 7, 8, 9, 10] (As := [_, _]) (wr := ([moC m (s), (m 2, .inl (g.2.1 0, 1476, .inl (d))), (m 5, .inl (g.2.1 5, 8, .inr (.inr (.inr (.inr (fun j => some (h j))))))), rowC g h (fun i => if i < 2 then R (i + 1) else R i) 0, rowC g h (fun i => if i < 2 then R (i + 1) else R i) 1, rowC g h (fun i => if i < 2 then R (i + 1) else R i) 4, rowC g h (fun i => if i < 2 then R (i + 1) else R i) 5, rowC g h (fun i => if i < 2 then R (i + 1) else R i) 6, rowC g h (fun i => if i < 2 then R (i + 1) else R i) 7] : va_W)) mf_X7_copy ml_X7_206 rfl sc_X7_copy  (r_copy l g (h 3) (h 2) ((fun i => if i < 2 then R (i + 1) else R i) 3) ((fun i => if i < 2 then R (i + 1) else R i) 2)) rfl rfl rfl dX7_remember_31 rfl rfl rfl (by decide) (Nat.le_of_ble_eq_true rfl) ⟨(Nat.le_of_ble_eq_true rfl), (Nat.le_of_ble_eq_true rfl)⟩ ⟨(Nat.le_of_ble_eq_true rfl), (Nat.le_of_ble_eq_true rfl)⟩ (fun _ _ hx => hx.elim) (fun v31 w31 q31 => ?_)
  obtain ⟨rfl, rfl⟩ := q31
  refine A_sub [0, 1, 2, 3, 4, 10, 9, 5, 6, 7, 8] (ws2 := (hiW g m h (s) (d) (fun i => if i < 3 then R (i + 1) else R i))) rfl rfl ?_
  refine A_iinc ok.b (v := _ + 1) dX7_remember_34 (gps gp0) rfl (by decide) (sts1 rfl st0) ?_
  refine A_goto ok.b (tgt := 11) dX7_remember_37 (by decide) ?_
  refine A_iload_n ok.b rfl dX7_remember_11 (gps gp0) ?_
  refine A_bipush ok.b (v := 8) dX7_remember_12 (by decide) ?_
  refine A_icmp_ge ok.b (tgt := 40) dX7_remember_14 (by decide) (fun c14 => ((show False from absurd c14 (by decide))).elim) (fun c14 => ?_)
  refine A_aload_n ok.b rfl dX7_remember_17 gp0 ?_
  refine A_getf ok.b cf7 11 (by decide) fl_X7_28 gp0 (gps (gps (gps (gps (gps (gps (gps (gps (gps (gps (gps gp0))))))))))) dX7_remember_18 ?_
  refine A_iload_n ok.b rfl dX7_remember_21 (gps gp0) ?_
  refine A_aldr ok.b (gps (gps gp0)) (show Ix (1 + 1 + 1 + 1) 8 4 from by rw [show (1 + 1 + 1 + 1 : Int32) = nI 4 from by decide]; exact ix_n (by decide) (by decide)) dX7_remember_22 ?_
  change AW g A H0 2 K 23 _ (.ref (h 4) :: _) _ 0 0
  refine A_aload_n ok.b rfl dX7_remember_23 gp0 ?_
  refine A_getf ok.b cf7 11 (by decide) fl_X7_28 gp0 (gps (gps (gps (gps (gps (gps (gps (gps (gps (gps (gps gp0))))))))))) dX7_remember_24 ?_
  refine A_iload_n ok.b rfl dX7_remember_27 (gps gp0) ?_
  refine A_iconst ok.b (v := 1) dX7_remember_28 (by decide) ?_
  refine A_isub ok.b dX7_remember_29 ?_
  refine A_aldr ok.b (gps (gps gp0)) (show Ix (1 + 1 + 1 + 1 - 1) 8 3 from by rw [show (1 + 1 + 1 + 1 - 1 : Int32) = nI 3 from by decide]; exact ix_n (by decide) (by decide)) dX7_remember_30 ?_
  change AW g A H0 2 K 31 _ (.ref (h 3) :: _) _ 0 0
  refine A_callSR ok [7, 6] [0, 1, 2, 3, 4, 5, 8, 9, 10] (As := [_, _]) (wr := ([moC m (s), (m 2, .inl (g.2.1 0, 1476, .inl (d))), (m 5, .inl (g.2.1 5, 8, .inr (.inr (.inr (.inr (fun j => some (h j))))))), rowC g h (fun i => if i < 3 then R (i + 1) else R i) 0, rowC g h (fun i => if i < 3 then R (i + 1) else R i) 1, rowC g h (fun i => if i < 3 then R (i + 1) else R i) 2, rowC g h (fun i => if i < 3 then R (i + 1) else R i) 5, rowC g h (fun i => if i < 3 then R (i + 1) else R i) 6, rowC g h (fun i => if i < 3 then R (i + 1) else R i) 7] : va_W)) mf_X7_copy ml_X7_206 rfl sc_X7_copy  (r_copy l g (h 4) (h 3) ((fun i => if i < 3 then R (i + 1) else R i) 4) ((fun i => if i < 3 then R (i + 1) else R i) 3)) rfl rfl rfl dX7_remember_31 rfl rfl rfl (by decide) (Nat.le_of_ble_eq_true rfl) ⟨(Nat.le_of_ble_eq_true rfl), (Nat.le_of_ble_eq_true rfl)⟩ ⟨(Nat.le_of_ble_eq_true rfl), (Nat.le_of_ble_eq_true rfl)⟩ (fun _ _ hx => hx.elim) (fun v31 w31 q31 => ?_)
  obtain ⟨rfl, rfl⟩ := q31
  refine A_sub [0, 1, 2, 3, 4, 5, 10, 9, 6, 7, 8] (ws2 := (hiW g m h (s) (d) (fun i => if i < 4 then R (i + 1) else R i))) rfl rfl ?_
  refine A_iinc ok.b (v := _ + 1) dX7_remember_34 (gps gp0) rfl (by decide) (sts1 rfl st0) ?_
  refine A_goto ok.b (tgt := 11) dX7_remember_37 (by decide) ?_
  refine A_iload_n ok.b rfl dX7_remember_11 (gps gp0) ?_
  refine A_bipush ok.b (v := 8) dX7_remember_12 (by decide) ?_
  refine A_icmp_ge ok.b (tgt := 40) dX7_remember_14 (by decide) (fun c14 => ((show False from absurd c14 (by decide))).elim) (fun c14 => ?_)
  refine A_aload_n ok.b rfl dX7_remember_17 gp0 ?_
  refine A_getf ok.b cf7 11 (by decide) fl_X7_28 gp0 (gps (gps (gps (gps (gps (gps (gps (gps (gps (gps (gps gp0))))))))))) dX7_remember_18 ?_
  refine A_iload_n ok.b rfl dX7_remember_21 (gps gp0) ?_
  refine A_aldr ok.b (gps (gps gp0)) (show Ix (1 + 1 + 1 + 1 + 1) 8 5 from by rw [show (1 + 1 + 1 + 1 + 1 : Int32) = nI 5 from by decide]; exact ix_n (by decide) (by decide)) dX7_remember_22 ?_
  change AW g A H0 2 K 23 _ (.ref (h 5) :: _) _ 0 0
  refine A_aload_n ok.b rfl dX7_remember_23 gp0 ?_
  refine A_getf ok.b cf7 11 (by decide) fl_X7_28 gp0 (gps (gps (gps (gps (gps (gps (gps (gps (gps (gps (gps gp0))))))))))) dX7_remember_24 ?_
  refine A_iload_n ok.b rfl dX7_remember_27 (gps gp0) ?_
  refine A_iconst ok.b (v := 1) dX7_remember_28 (by decide) ?_
  refine A_isub ok.b dX7_remember_29 ?_
  refine A_aldr ok.b (gps (gps gp0)) (show Ix (1 + 1 + 1 + 1 + 1 - 1) 8 4 from by rw [show (1 + 1 + 1 + 1 + 1 - 1 : Int32) = nI 4 from by decide]; exact ix_n (by decide) (by decide)) dX7_remember_30 ?_
  change AW g A H0 2 K 31 _ (.ref (h 4) :: _) _ 0 0
  refine A_callSR ok [8, 7] [0, 1, 2, 3, 4, 5, 6, 9, 10] (As := [_, _]) (wr := ([moC m (s), (m 2, .inl (g.2.1 0, 1476, .inl (d))), (m 5, .inl (g.2.1 5, 8, .inr (.inr (.inr (.inr (fun j => some (h j))))))), rowC g h (fun i => if i < 4 then R (i + 1) else R i) 0, rowC g h (fun i => if i < 4 then R (i + 1) else R i) 1, rowC g h (fun i => if i < 4 then R (i + 1) else R i) 2, rowC g h (fun i => if i < 4 then R (i + 1) else R i) 3, rowC g h (fun i => if i < 4 then R (i + 1) else R i) 6, rowC g h (fun i => if i < 4 then R (i + 1) else R i) 7] : va_W)) mf_X7_copy ml_X7_206 rfl sc_X7_copy  (r_copy l g (h 5) (h 4) ((fun i => if i < 4 then R (i + 1) else R i) 5) ((fun i => if i < 4 then R (i + 1) else R i) 4)) rfl rfl rfl dX7_remember_31 rfl rfl rfl (by decide) (Nat.le_of_ble_eq_true rfl) ⟨(Nat.le_of_ble_eq_true rfl), (Nat.le_of_ble_eq_true rfl)⟩ ⟨(Nat.le_of_ble_eq_true rfl), (Nat.le_of_ble_eq_true rfl)⟩ (fun _ _ hx => hx.elim) (fun v31 w31 q31 => ?_)
  obtain ⟨rfl, rfl⟩ := q31
  refine A_sub [0, 1, 2, 3, 4, 5, 6, 10, 9, 7, 8] (ws2 := (hiW g m h (s) (d) (fun i => if i < 5 then R (i + 1) else R i))) rfl rfl ?_
  refine A_iinc ok.b (v := _ + 1) dX7_remember_34 (gps gp0) rfl (by decide) (sts1 rfl st0) ?_
  refine A_goto ok.b (tgt := 11) dX7_remember_37 (by decide) ?_
  refine A_iload_n ok.b rfl dX7_remember_11 (gps gp0) ?_
  refine A_bipush ok.b (v := 8) dX7_remember_12 (by decide) ?_
  refine A_icmp_ge ok.b (tgt := 40) dX7_remember_14 (by decide) (fun c14 => ((show False from absurd c14 (by decide))).elim) (fun c14 => ?_)
  refine A_aload_n ok.b rfl dX7_remember_17 gp0 ?_
  refine A_getf ok.b cf7 11 (by decide) fl_X7_28 gp0 (gps (gps (gps (gps (gps (gps (gps (gps (gps (gps (gps gp0))))))))))) dX7_remember_18 ?_
  refine A_iload_n ok.b rfl dX7_remember_21 (gps gp0) ?_
  refine A_aldr ok.b (gps (gps gp0)) (show Ix (1 + 1 + 1 + 1 + 1 + 1) 8 6 from by rw [show (1 + 1 + 1 + 1 + 1 + 1 : Int32) = nI 6 from by decide]; exact ix_n (by decide) (by decide)) dX7_remember_22 ?_
  change AW g A H0 2 K 23 _ (.ref (h 6) :: _) _ 0 0
  refine A_aload_n ok.b rfl dX7_remember_23 gp0 ?_
  refine A_getf ok.b cf7 11 (by decide) fl_X7_28 gp0 (gps (gps (gps (gps (gps (gps (gps (gps (gps (gps (gps gp0))))))))))) dX7_remember_24 ?_
  refine A_iload_n ok.b rfl dX7_remember_27 (gps gp0) ?_
  refine A_iconst ok.b (v := 1) dX7_remember_28 (by decide) ?_
  refine A_isub ok.b dX7_remember_29 ?_
  refine A_aldr ok.b (gps (gps gp0)) (show Ix (1 + 1 + 1 + 1 + 1 + 1 - 1) 8 5 from by rw [show (1 + 1 + 1 + 1 + 1 + 1 - 1 : Int32) = nI 5 from by decide]; exact ix_n (by decide) (by decide)) dX7_remember_30 ?_
  change AW g A H0 2 K 31 _ (.ref (h 5) :: _) _ 0 0
  refine A_callSR ok [9, 8] [0, 1, 2, 3, 4, 5, 6, 7, 10] (As := [_, _]) (wr := ([moC m (s), (m 2, .inl (g.2.1 0, 1476, .inl (d))), (m 5, .inl (g.2.1 5, 8, .inr (.inr (.inr (.inr (fun j => some (h j))))))), rowC g h (fun i => if i < 5 then R (i + 1) else R i) 0, rowC g h (fun i => if i < 5 then R (i + 1) else R i) 1, rowC g h (fun i => if i < 5 then R (i + 1) else R i) 2, rowC g h (fun i => if i < 5 then R (i + 1) else R i) 3, rowC g h (fun i => if i < 5 then R (i + 1) else R i) 4, rowC g h (fun i => if i < 5 then R (i + 1) else R i) 7] : va_W)) mf_X7_copy ml_X7_206 rfl sc_X7_copy  (r_copy l g (h 6) (h 5) ((fun i => if i < 5 then R (i + 1) else R i) 6) ((fun i => if i < 5 then R (i + 1) else R i) 5)) rfl rfl rfl dX7_remember_31 rfl rfl rfl (by decide) (Nat.le_of_ble_eq_true rfl) ⟨(Nat.le_of_ble_eq_true rfl), (Nat.le_of_ble_eq_true rfl)⟩ ⟨(Nat.le_of_ble_eq_true rfl), (Nat.le_of_ble_eq_true rfl)⟩ (fun _ _ hx => hx.elim) (fun v31 w31 q31 => ?_)
  obtain ⟨rfl, rfl⟩ := q31
  refine A_sub [0, 1, 2, 3, 4, 5, 6, 7, 10, 9, 8] (ws2 := (hiW g m h (s) (d) (fun i => if i < 6 then R (i + 1) else R i))) rfl rfl ?_
  refine A_iinc ok.b (v := _ + 1) dX7_remember_34 (gps gp0) rfl (by decide) (sts1 rfl st0) ?_
  refine A_goto ok.b (tgt := 11) dX7_remember_37 (by decide) ?_
  refine A_iload_n ok.b rfl dX7_remember_11 (gps gp0) ?_
  refine A_bipush ok.b (v := 8) dX7_remember_12 (by decide) ?_
  refine A_icmp_ge ok.b (tgt := 40) dX7_remember_14 (by decide) (fun c14 => ((show False from absurd c14 (by decide))).elim) (fun c14 => ?_)
  refine A_aload_n ok.b rfl dX7_remember_17 gp0 ?_
  refine A_getf ok.b cf7 11 (by decide) fl_X7_28 gp0 (gps (gps (gps (gps (gps (gps (gps (gps (gps (gps (gps gp0))))))))))) dX7_remember_18 ?_
  refine A_iload_n ok.b rfl dX7_remember_21 (gps gp0) ?_
  refine A_aldr ok.b (gps (gps gp0)) (show Ix (1 + 1 + 1 + 1 + 1 + 1 + 1) 8 7 from by rw [show (1 + 1 + 1 + 1 + 1 + 1 + 1 : Int32) = nI 7 from by decide]; exact ix_n (by decide) (by decide)) dX7_remember_22 ?_
  change AW g A H0 2 K 23 _ (.ref (h 7) :: _) _ 0 0
  refine A_aload_n ok.b rfl dX7_remember_23 gp0 ?_
  refine A_getf ok.b cf7 11 (by decide) fl_X7_28 gp0 (gps (gps (gps (gps (gps (gps (gps (gps (gps (gps (gps gp0))))))))))) dX7_remember_24 ?_
  refine A_iload_n ok.b rfl dX7_remember_27 (gps gp0) ?_
  refine A_iconst ok.b (v := 1) dX7_remember_28 (by decide) ?_
  refine A_isub ok.b dX7_remember_29 ?_
  refine A_aldr ok.b (gps (gps gp0)) (show Ix (1 + 1 + 1 + 1 + 1 + 1 + 1 - 1) 8 6 from by rw [show (1 + 1 + 1 + 1 + 1 + 1 + 1 - 1 : Int32) = nI 6 from by decide]; exact ix_n (by decide) (by decide)) dX7_remember_30 ?_
  change AW g A H0 2 K 31 _ (.ref (h 6) :: _) _ 0 0
  refine A_callSR ok [10, 9] [0, 1, 2, 3, 4, 5, 6, 7, 8] (As := [_, _]) (wr := ([moC m (s), (m 2, .inl (g.2.1 0, 1476, .inl (d))), (m 5, .inl (g.2.1 5, 8, .inr (.inr (.inr (.inr (fun j => some (h j))))))), rowC g h (fun i => if i < 6 then R (i + 1) else R i) 0, rowC g h (fun i => if i < 6 then R (i + 1) else R i) 1, rowC g h (fun i => if i < 6 then R (i + 1) else R i) 2, rowC g h (fun i => if i < 6 then R (i + 1) else R i) 3, rowC g h (fun i => if i < 6 then R (i + 1) else R i) 4, rowC g h (fun i => if i < 6 then R (i + 1) else R i) 5] : va_W)) mf_X7_copy ml_X7_206 rfl sc_X7_copy  (r_copy l g (h 7) (h 6) ((fun i => if i < 6 then R (i + 1) else R i) 7) ((fun i => if i < 6 then R (i + 1) else R i) 6)) rfl rfl rfl dX7_remember_31 rfl rfl rfl (by decide) (Nat.le_of_ble_eq_true rfl) ⟨(Nat.le_of_ble_eq_true rfl), (Nat.le_of_ble_eq_true rfl)⟩ ⟨(Nat.le_of_ble_eq_true rfl), (Nat.le_of_ble_eq_true rfl)⟩ (fun _ _ hx => hx.elim) (fun v31 w31 q31 => ?_)
  obtain ⟨rfl, rfl⟩ := q31
  refine A_sub [0, 1, 2, 3, 4, 5, 6, 7, 8, 10, 9] (ws2 := (hiW g m h (s) (d) (fun i => if i < 7 then R (i + 1) else R i))) rfl rfl ?_
  refine A_iinc ok.b (v := _ + 1) dX7_remember_34 (gps gp0) rfl (by decide) (sts1 rfl st0) ?_
  refine A_goto ok.b (tgt := 11) dX7_remember_37 (by decide) ?_
  refine A_iload_n ok.b rfl dX7_remember_11 (gps gp0) ?_
  refine A_bipush ok.b (v := 8) dX7_remember_12 (by decide) ?_
  refine A_icmp_ge ok.b (tgt := 40) dX7_remember_14 (by decide) (fun c14 => ?_) (fun c14 => ((show False from c14 (by decide))).elim)
  refine A_aload_n ok.b rfl dX7_remember_40 gp0 ?_
  refine A_dup ok.b dX7_remember_41 rfl ?_
  refine A_getf ok.b cf7 12 (by decide) fl_X7_294 gp0 (gps (gps (gps (gps (gps (gps (gps (gps (gps (gps (gps (gps gp0)))))))))))) dX7_remember_42 ?_
  refine A_iconst ok.b (v := 1) dX7_remember_45 (by decide) ?_
  refine A_isub ok.b dX7_remember_46 ?_
  rw [show nI s.ud - 1 = nI 7 from by rw [hu]; rfl]
  refine A_putf ok.b cf7 12 (by decide) rfl fl_X7_294 gp0 rfl rfl (gp_lt (gps (gps (gps (gps (gps (gps (gps (gps (gps (gps (gps (gps gp0))))))))))))) (wps (wps (wps (wps (wps (wps (wps (wps (wps (wps (wps (wps wp0)))))))))))) wp0 dX7_remember_47 ?_
  refine A_aload_n ok.b rfl dX7_remember_50 gp0 ?_
  refine A_getf ok.b cf7 8 (by decide) fl_X7_17 gp0 (gps (gps (gps (gps (gps (gps (gps (gps gp0)))))))) dX7_remember_51 ?_
  refine A_aload_n ok.b rfl dX7_remember_54 gp0 ?_
  refine A_getf ok.b cf7 11 (by decide) fl_X7_28 gp0 (gps (gps (gps (gps (gps (gps (gps (gps (gps (gps (gps gp0))))))))))) dX7_remember_55 ?_
  refine A_aload_n ok.b rfl dX7_remember_58 gp0 ?_
  refine A_getf ok.b cf7 12 (by decide) fl_X7_294 gp0 (gps (gps (gps (gps (gps (gps (gps (gps (gps (gps (gps (gps gp0)))))))))))) dX7_remember_59 ?_
  refine A_aldr ok.b (gps (gps gp0)) (ix_n (j := 7) (by decide) (by decide)) dX7_remember_62 ?_
  change AW g A H0 2 K 63 _ (.ref (h 7) :: _) _ 0 0
  refine A_callSR ok [1, 10] [0, 2, 3, 4, 5, 6, 7, 8, 9] (As := [_, _]) (wr := ([moC m (s.wud 7), (m 5, .inl (g.2.1 5, 8, .inr (.inr (.inr (.inr (fun j => some (h j))))))), rowC g h (fun i => if i < 7 then R (i + 1) else R i) 0, rowC g h (fun i => if i < 7 then R (i + 1) else R i) 1, rowC g h (fun i => if i < 7 then R (i + 1) else R i) 2, rowC g h (fun i => if i < 7 then R (i + 1) else R i) 3, rowC g h (fun i => if i < 7 then R (i + 1) else R i) 4, rowC g h (fun i => if i < 7 then R (i + 1) else R i) 5, rowC g h (fun i => if i < 7 then R (i + 1) else R i) 6] : va_W)) mf_X7_copy ml_X7_206 rfl sc_X7_copy  (r_copy l g (m 2) (h 7) (d) ((fun i => if i < 7 then R (i + 1) else R i) 7)) rfl rfl rfl dX7_remember_63 rfl rfl rfl (by decide) (Nat.le_of_ble_eq_true rfl) ⟨(Nat.le_of_ble_eq_true rfl), (Nat.le_of_ble_eq_true rfl)⟩ ⟨(Nat.le_of_ble_eq_true rfl), (Nat.le_of_ble_eq_true rfl)⟩ (fun _ _ hx => hx.elim) (fun v63 w63 q63 => ?_)
  obtain ⟨rfl, rfl⟩ := q63
  refine A_sub [0, 9, 1, 2, 3, 4, 5, 6, 7, 8, 10] (ws2 := (hiW g m h (s.wud 7) (d) (fun i => if i < 7 then R (i + 1) else d))) rfl rfl ?_
  refine A_aload_n ok.b rfl dX7_remember_66 gp0 ?_
  refine A_dup ok.b dX7_remember_67 rfl ?_
  refine A_getf ok.b cf7 12 (by decide) fl_X7_294 gp0 (gps (gps (gps (gps (gps (gps (gps (gps (gps (gps (gps (gps gp0)))))))))))) dX7_remember_68 ?_
  refine A_iconst ok.b (v := 1) dX7_remember_71 (by decide) ?_
  refine A_iadd ok.b dX7_remember_72 ?_
  rw [show nI (s.wud 7).ud + 1 = nI s.ud from by rw [hu]; rfl]
  refine A_putf ok.b cf7 12 (by decide) rfl fl_X7_294 gp0 rfl rfl (gp_lt (gps (gps (gps (gps (gps (gps (gps (gps (gps (gps (gps (gps gp0))))))))))))) (wps (wps (wps (wps (wps (wps (wps (wps (wps (wps (wps (wps wp0)))))))))))) wp0 dX7_remember_73 ?_
  refine A_vret ok dX7_remember_76 (Nat.le_of_ble_eq_true rfl) (Nat.le_of_ble_eq_true rfl) ?_
  exact ⟨rfl, by rw [reS, if_pos hu, reR, if_pos hu]; rfl⟩
theorem r_remember (l : Launch) (g : Gl) (m h : Nat → Nat) (s : MS) (d : Nat → Int32) (R : Nat → Nat → Int32) (hu : s.ud ≤ 8) : Ct l g yX7_remember cX7_remember 2 none 1 40 0 0 [.ref (m 0)] (hiW g m h (s) (d) (R)) (fun v w => v = none ∧ w = (hiW g m h (reS s) (d) (reR s.ud d R))) noX := by
  rcases (show s.ud = 0 ∨ s.ud = 1 ∨ s.ud = 2 ∨ s.ud = 3 ∨ s.ud = 4 ∨ s.ud = 5 ∨ s.ud = 6 ∨ s.ud = 7 ∨ s.ud = 8 by omega) with h9 | h9 | h9 | h9 | h9 | h9 | h9 | h9 | h9
  · exact r_rem0 l g m h s d R h9
  · exact r_rem1 l g m h s d R h9
  · exact r_rem2 l g m h s d R h9
  · exact r_rem3 l g m h s d R h9
  · exact r_rem4 l g m h s d R h9
  · exact r_rem5 l g m h s d R h9
  · exact r_rem6 l g m h s d R h9
  · exact r_rem7 l g m h s d R h9
  · exact r_rem8 l g m h s d R h9
set_option maxRecDepth 20000 in
set_option maxHeartbeats 2000000 in
theorem r_undo1 (l : Launch) (g : Gl) (m h : Nat → Nat) (s : MS) (d : Nat → Int32) (R : Nat → Nat → Int32) (hu : s.ud = 1) : Ct l g yX7_undo cX7_undo 1 (some .int) 1 40 0 0 [.ref (m 0)] (hiW g m h (s) (d) (R)) (fun v w => v = some (.int (nI 0)) ∧ w = (hiW g m h ((s.wth 0).wud 0) (R 0) (R))) noX := by
  refine Ct.intro [some (.ref (m 0))] (by decide +kernel) (fun _ h => h) (Nat.le_of_ble_eq_true rfl) (fun A H0 K ok => ?_)
  refine A_aload_n ok.b rfl dX7_undo_0 gp0 ?_
  refine A_iconst ok.b (v := 0) dX7_undo_1 (by decide) ?_
  refine A_putf ok.b cf7 0 (by decide) rfl fl_X7_45 gp0 rfl rfl (gp_lt gp0) wp0 wp0 dX7_undo_2 ?_
  refine A_aload_n ok.b rfl dX7_undo_5 gp0 ?_
  refine A_getf ok.b cf7 12 (by decide) fl_X7_294 gp0 (gps (gps (gps (gps (gps (gps (gps (gps (gps (gps (gps (gps gp0)))))))))))) dX7_undo_6 ?_
  refine A_if_ne ok.b (tgt := 14) dX7_undo_9 (by decide) (fun c9 => ?_) (fun c9 => ((show False from absurd c9 (by rw [hu]; decide))).elim)
  refine A_aload_n ok.b rfl dX7_undo_14 gp0 ?_
  refine A_dup ok.b dX7_undo_15 rfl ?_
  refine A_getf ok.b cf7 12 (by decide) fl_X7_294 gp0 (gps (gps (gps (gps (gps (gps (gps (gps (gps (gps (gps (gps gp0)))))))))))) dX7_undo_16 ?_
  refine A_iconst ok.b (v := 1) dX7_undo_19 (by decide) ?_
  refine A_isub ok.b dX7_undo_20 ?_
  rw [show nI s.ud - 1 = nI 0 from by rw [hu]; rfl]
  refine A_putf ok.b cf7 12 (by decide) rfl fl_X7_294 gp0 rfl rfl (gp_lt (gps (gps (gps (gps (gps (gps (gps (gps (gps (gps (gps (gps gp0))))))))))))) (wps (wps (wps (wps (wps (wps (wps (wps (wps (wps (wps (wps wp0)))))))))))) wp0 dX7_undo_21 ?_
  refine A_aload_n ok.b rfl dX7_undo_24 gp0 ?_
  refine A_getf ok.b cf7 11 (by decide) fl_X7_28 gp0 (gps (gps (gps (gps (gps (gps (gps (gps (gps (gps (gps gp0))))))))))) dX7_undo_25 ?_
  refine A_aload_n ok.b rfl dX7_undo_28 gp0 ?_
  refine A_getf ok.b cf7 12 (by decide) fl_X7_294 gp0 (gps (gps (gps (gps (gps (gps (gps (gps (gps (gps (gps (gps gp0)))))))))))) dX7_undo_29 ?_
  refine A_aldr ok.b (gps (gps gp0)) (ix_n (j := 0) (by decide) (by decide)) dX7_undo_32 ?_
  change AW g A H0 1 K 33 _ (.ref (h 0) :: _) _ 0 0
  refine A_aload_n ok.b rfl dX7_undo_33 gp0 ?_
  refine A_getf ok.b cf7 8 (by decide) fl_X7_17 gp0 (gps (gps (gps (gps (gps (gps (gps (gps gp0)))))))) dX7_undo_34 ?_
  refine A_callSR ok [3, 1] [0, 2, 4, 5, 6, 7, 8, 9, 10] (As := [_, _]) (wr := ([moC m ((s.wth 0).wud 0), (m 5, .inl (g.2.1 5, 8, .inr (.inr (.inr (.inr (fun j => some (h j))))))), rowC g h (R) 1, rowC g h (R) 2, rowC g h (R) 3, rowC g h (R) 4, rowC g h (R) 5, rowC g h (R) 6, rowC g h (R) 7] : va_W)) mf_X7_copy ml_X7_206 rfl sc_X7_copy  (r_copy l g (h 0) (m 2) (R 0) (d)) rfl rfl rfl dX7_undo_37 rfl rfl rfl (by decide) (Nat.le_of_ble_eq_true rfl) ⟨(Nat.le_of_ble_eq_true rfl), (Nat.le_of_ble_eq_true rfl)⟩ ⟨(Nat.le_of_ble_eq_true rfl), (Nat.le_of_ble_eq_true rfl)⟩ (fun _ _ hx => hx.elim) (fun v37 w37 q37 => ?_)
  obtain ⟨rfl, rfl⟩ := q37
  refine A_sub [0, 10, 1, 9, 2, 3, 4, 5, 6, 7, 8] (ws2 := (hiW g m h ((s.wth 0).wud 0) (R 0) (R))) rfl rfl ?_
  refine A_aload_n ok.b rfl dX7_undo_40 gp0 ?_
  refine A_getf ok.b cf7 12 (by decide) fl_X7_294 gp0 (gps (gps (gps (gps (gps (gps (gps (gps (gps (gps (gps (gps gp0)))))))))))) dX7_undo_41 ?_
  refine A_iret ok dX7_undo_44 (Nat.le_of_ble_eq_true rfl) (Nat.le_of_ble_eq_true rfl) ?_
  exact ⟨rfl, rfl⟩
set_option maxRecDepth 20000 in
set_option maxHeartbeats 2000000 in
theorem r_undo2 (l : Launch) (g : Gl) (m h : Nat → Nat) (s : MS) (d : Nat → Int32) (R : Nat → Nat → Int32) (hu : s.ud = 2) : Ct l g yX7_undo cX7_undo 1 (some .int) 1 40 0 0 [.ref (m 0)] (hiW g m h (s) (d) (R)) (fun v w => v = some (.int (nI 1)) ∧ w = (hiW g m h ((s.wth 0).wud 1) (R 1) (R))) noX := by
  refine Ct.intro [some (.ref (m 0))] (by decide +kernel) (fun _ h => h) (Nat.le_of_ble_eq_true rfl) (fun A H0 K ok => ?_)
  refine A_aload_n ok.b rfl dX7_undo_0 gp0 ?_
  refine A_iconst ok.b (v := 0) dX7_undo_1 (by decide) ?_
  refine A_putf ok.b cf7 0 (by decide) rfl fl_X7_45 gp0 rfl rfl (gp_lt gp0) wp0 wp0 dX7_undo_2 ?_
  refine A_aload_n ok.b rfl dX7_undo_5 gp0 ?_
  refine A_getf ok.b cf7 12 (by decide) fl_X7_294 gp0 (gps (gps (gps (gps (gps (gps (gps (gps (gps (gps (gps (gps gp0)))))))))))) dX7_undo_6 ?_
  refine A_if_ne ok.b (tgt := 14) dX7_undo_9 (by decide) (fun c9 => ?_) (fun c9 => ((show False from absurd c9 (by rw [hu]; decide))).elim)
  refine A_aload_n ok.b rfl dX7_undo_14 gp0 ?_
  refine A_dup ok.b dX7_undo_15 rfl ?_
  refine A_getf ok.b cf7 12 (by decide) fl_X7_294 gp0 (gps (gps (gps (gps (gps (gps (gps (gps (gps (gps (gps (gps gp0)))))))))))) dX7_undo_16 ?_
  refine A_iconst ok.b (v := 1) dX7_undo_19 (by decide) ?_
  refine A_isub ok.b dX7_undo_20 ?_
  rw [show nI s.ud - 1 = nI 1 from by rw [hu]; rfl]
  refine A_putf ok.b cf7 12 (by decide) rfl fl_X7_294 gp0 rfl rfl (gp_lt (gps (gps (gps (gps (gps (gps (gps (gps (gps (gps (gps (gps gp0))))))))))))) (wps (wps (wps (wps (wps (wps (wps (wps (wps (wps (wps (wps wp0)))))))))))) wp0 dX7_undo_21 ?_
  refine A_aload_n ok.b rfl dX7_undo_24 gp0 ?_
  refine A_getf ok.b cf7 11 (by decide) fl_X7_28 gp0 (gps (gps (gps (gps (gps (gps (gps (gps (gps (gps (gps gp0))))))))))) dX7_undo_25 ?_
  refine A_aload_n ok.b rfl dX7_undo_28 gp0 ?_
  refine A_getf ok.b cf7 12 (by decide) fl_X7_294 gp0 (gps (gps (gps (gps (gps (gps (gps (gps (gps (gps (gps (gps gp0)))))))))))) dX7_undo_29 ?_
  refine A_aldr ok.b (gps (gps gp0)) (ix_n (j := 1) (by decide) (by decide)) dX7_undo_32 ?_
  change AW g A H0 1 K 33 _ (.ref (h 1) :: _) _ 0 0
  refine A_aload_n ok.b rfl dX7_undo_33 gp0 ?_
  refine A_getf ok.b cf7 8 (by decide) fl_X7_17 gp0 (gps (gps (gps (gps (gps (gps (gps (gps gp0)))))))) dX7_undo_34 ?_
  refine A_callSR ok [4, 1] [0, 2, 3, 5, 6, 7, 8, 9, 10] (As := [_, _]) (wr := ([moC m ((s.wth 0).wud 1), (m 5, .inl (g.2.1 5, 8, .inr (.inr (.inr (.inr (fun j => some (h j))))))), rowC g h (R) 0, rowC g h (R) 2, rowC g h (R) 3, rowC g h (R) 4, rowC g h (R) 5, rowC g h (R) 6, rowC g h (R) 7] : va_W)) mf_X7_copy ml_X7_206 rfl sc_X7_copy  (r_copy l g (h 1) (m 2) (R 1) (d)) rfl rfl rfl dX7_undo_37 rfl rfl rfl (by decide) (Nat.le_of_ble_eq_true rfl) ⟨(Nat.le_of_ble_eq_true rfl), (Nat.le_of_ble_eq_true rfl)⟩ ⟨(Nat.le_of_ble_eq_true rfl), (Nat.le_of_ble_eq_true rfl)⟩ (fun _ _ hx => hx.elim) (fun v37 w37 q37 => ?_)
  obtain ⟨rfl, rfl⟩ := q37
  refine A_sub [0, 10, 1, 2, 9, 3, 4, 5, 6, 7, 8] (ws2 := (hiW g m h ((s.wth 0).wud 1) (R 1) (R))) rfl rfl ?_
  refine A_aload_n ok.b rfl dX7_undo_40 gp0 ?_
  refine A_getf ok.b cf7 12 (by decide) fl_X7_294 gp0 (gps (gps (gps (gps (gps (gps (gps (gps (gps (gps (gps (gps gp0)))))))))))) dX7_undo_41 ?_
  refine A_iret ok dX7_undo_44 (Nat.le_of_ble_eq_true rfl) (Nat.le_of_ble_eq_true rfl) ?_
  exact ⟨rfl, rfl⟩
set_option maxRecDepth 20000 in
set_option maxHeartbeats 2000000 in
theorem r_undo3 (l : Launch) (g : Gl) (m h : Nat → Nat) (s : MS) (d : Nat → Int32) (R : Nat → Nat → Int32) (hu : s.ud = 3) : Ct l g yX7_undo cX7_undo 1 (some .int) 1 40 0 0 [.ref (m 0)] (hiW g m h (s) (d) (R)) (fun v w => v = some (.int (nI 2)) ∧ w = (hiW g m h ((s.wth 0).wud 2) (R 2) (R))) noX := by
  refine Ct.intro [some (.ref (m 0))] (by decide +kernel) (fun _ h => h) (Nat.le_of_ble_eq_true rfl) (fun A H0 K ok => ?_)
  refine A_aload_n ok.b rfl dX7_undo_0 gp0 ?_
  refine A_iconst ok.b (v := 0) dX7_undo_1 (by decide) ?_
  refine A_putf ok.b cf7 0 (by decide) rfl fl_X7_45 gp0 rfl rfl (gp_lt gp0) wp0 wp0 dX7_undo_2 ?_
  refine A_aload_n ok.b rfl dX7_undo_5 gp0 ?_
  refine A_getf ok.b cf7 12 (by decide) fl_X7_294 gp0 (gps (gps (gps (gps (gps (gps (gps (gps (gps (gps (gps (gps gp0)))))))))))) dX7_undo_6 ?_
  refine A_if_ne ok.b (tgt := 14) dX7_undo_9 (by decide) (fun c9 => ?_) (fun c9 => ((show False from absurd c9 (by rw [hu]; decide))).elim)
  refine A_aload_n ok.b rfl dX7_undo_14 gp0 ?_
  refine A_dup ok.b dX7_undo_15 rfl ?_
  refine A_getf ok.b cf7 12 (by decide) fl_X7_294 gp0 (gps (gps (gps (gps (gps (gps (gps (gps (gps (gps (gps (gps gp0)))))))))))) dX7_undo_16 ?_
  refine A_iconst ok.b (v := 1) dX7_undo_19 (by decide) ?_
  refine A_isub ok.b dX7_undo_20 ?_
  rw [show nI s.ud - 1 = nI 2 from by rw [hu]; rfl]
  refine A_putf ok.b cf7 12 (by decide) rfl fl_X7_294 gp0 rfl rfl (gp_lt (gps (gps (gps (gps (gps (gps (gps (gps (gps (gps (gps (gps gp0))))))))))))) (wps (wps (wps (wps (wps (wps (wps (wps (wps (wps (wps (wps wp0)))))))))))) wp0 dX7_undo_21 ?_
  refine A_aload_n ok.b rfl dX7_undo_24 gp0 ?_
  refine A_getf ok.b cf7 11 (by decide) fl_X7_28 gp0 (gps (gps (gps (gps (gps (gps (gps (gps (gps (gps (gps gp0))))))))))) dX7_undo_25 ?_
  refine A_aload_n ok.b rfl dX7_undo_28 gp0 ?_
  refine A_getf ok.b cf7 12 (by decide) fl_X7_294 gp0 (gps (gps (gps (gps (gps (gps (gps (gps (gps (gps (gps (gps gp0)))))))))))) dX7_undo_29 ?_
  refine A_aldr ok.b (gps (gps gp0)) (ix_n (j := 2) (by decide) (by decide)) dX7_undo_32 ?_
  change AW g A H0 1 K 33 _ (.ref (h 2) :: _) _ 0 0
  refine A_aload_n ok.b rfl dX7_undo_33 gp0 ?_
  refine A_getf ok.b cf7 8 (by decide) fl_X7_17 gp0 (gps (gps (gps (gps (gps (gps (gps (gps gp0)))))))) dX7_undo_34 ?_
  refine A_callSR ok [5, 1] [0, 2, 3, 4, 6, 7, 8, 9, 10] (As := [_, _]) (wr := ([moC m ((s.wth 0).wud 2), (m 5, .inl (g.2.1 5, 8, .inr (.inr (.inr (.inr (fun j => some (h j))))))), rowC g h (R) 0, rowC g h (R) 1, rowC g h (R) 3, rowC g h (R) 4, rowC g h (R) 5, rowC g h (R) 6, rowC g h (R) 7] : va_W)) mf_X7_copy ml_X7_206 rfl sc_X7_copy  (r_copy l g (h 2) (m 2) (R 2) (d)) rfl rfl rfl dX7_undo_37 rfl rfl rfl (by decide) (Nat.le_of_ble_eq_true rfl) ⟨(Nat.le_of_ble_eq_true rfl), (Nat.le_of_ble_eq_true rfl)⟩ ⟨(Nat.le_of_ble_eq_true rfl), (Nat.le_of_ble_eq_true rfl)⟩ (fun _ _ hx => hx.elim) (fun v37 w37 q37 => ?_)
  obtain ⟨rfl, rfl⟩ := q37
  refine A_sub [0, 10, 1, 2, 3, 9, 4, 5, 6, 7, 8] (ws2 := (hiW g m h ((s.wth 0).wud 2) (R 2) (R))) rfl rfl ?_
  refine A_aload_n ok.b rfl dX7_undo_40 gp0 ?_
  refine A_getf ok.b cf7 12 (by decide) fl_X7_294 gp0 (gps (gps (gps (gps (gps (gps (gps (gps (gps (gps (gps (gps gp0)))))))))))) dX7_undo_41 ?_
  refine A_iret ok dX7_undo_44 (Nat.le_of_ble_eq_true rfl) (Nat.le_of_ble_eq_true rfl) ?_
  exact ⟨rfl, rfl⟩
set_option maxRecDepth 20000 in
set_option maxHeartbeats 2000000 in
theorem r_undo4 (l : Launch) (g : Gl) (m h : Nat → Nat) (s : MS) (d : Nat → Int32) (R : Nat → Nat → Int32) (hu : s.ud = 4) : Ct l g yX7_undo cX7_undo 1 (some .int) 1 40 0 0 [.ref (m 0)] (hiW g m h (s) (d) (R)) (fun v w => v = some (.int (nI 3)) ∧ w = (hiW g m h ((s.wth 0).wud 3) (R 3) (R))) noX := by
  refine Ct.intro [some (.ref (m 0))] (by decide +kernel) (fun _ h => h) (Nat.le_of_ble_eq_true rfl) (fun A H0 K ok => ?_)
  refine A_aload_n ok.b rfl dX7_undo_0 gp0 ?_
  refine A_iconst ok.b (v := 0) dX7_undo_1 (by decide) ?_
  refine A_putf ok.b cf7 0 (by decide) rfl fl_X7_45 gp0 rfl rfl (gp_lt gp0) wp0 wp0 dX7_undo_2 ?_
  refine A_aload_n ok.b rfl dX7_undo_5 gp0 ?_
  refine A_getf ok.b cf7 12 (by decide) fl_X7_294 gp0 (gps (gps (gps (gps (gps (gps (gps (gps (gps (gps (gps (gps gp0)))))))))))) dX7_undo_6 ?_
  refine A_if_ne ok.b (tgt := 14) dX7_undo_9 (by decide) (fun c9 => ?_) (fun c9 => ((show False from absurd c9 (by rw [hu]; decide))).elim)
  refine A_aload_n ok.b rfl dX7_undo_14 gp0 ?_
  refine A_dup ok.b dX7_undo_15 rfl ?_
  refine A_getf ok.b cf7 12 (by decide) fl_X7_294 gp0 (gps (gps (gps (gps (gps (gps (gps (gps (gps (gps (gps (gps gp0)))))))))))) dX7_undo_16 ?_
  refine A_iconst ok.b (v := 1) dX7_undo_19 (by decide) ?_
  refine A_isub ok.b dX7_undo_20 ?_
  rw [show nI s.ud - 1 = nI 3 from by rw [hu]; rfl]
  refine A_putf ok.b cf7 12 (by decide) rfl fl_X7_294 gp0 rfl rfl (gp_lt (gps (gps (gps (gps (gps (gps (gps (gps (gps (gps (gps (gps gp0))))))))))))) (wps (wps (wps (wps (wps (wps (wps (wps (wps (wps (wps (wps wp0)))))))))))) wp0 dX7_undo_21 ?_
  refine A_aload_n ok.b rfl dX7_undo_24 gp0 ?_
  refine A_getf ok.b cf7 11 (by decide) fl_X7_28 gp0 (gps (gps (gps (gps (gps (gps (gps (gps (gps (gps (gps gp0))))))))))) dX7_undo_25 ?_
  refine A_aload_n ok.b rfl dX7_undo_28 gp0 ?_
  refine A_getf ok.b cf7 12 (by decide) fl_X7_294 gp0 (gps (gps (gps (gps (gps (gps (gps (gps (gps (gps (gps (gps gp0)))))))))))) dX7_undo_29 ?_
  refine A_aldr ok.b (gps (gps gp0)) (ix_n (j := 3) (by decide) (by decide)) dX7_undo_32 ?_
  change AW g A H0 1 K 33 _ (.ref (h 3) :: _) _ 0 0
  refine A_aload_n ok.b rfl dX7_undo_33 gp0 ?_
  refine A_getf ok.b cf7 8 (by decide) fl_X7_17 gp0 (gps (gps (gps (gps (gps (gps (gps (gps gp0)))))))) dX7_undo_34 ?_
  refine A_callSR ok [6, 1] [0, 2, 3, 4, 5, 7, 8, 9, 10] (As := [_, _]) (wr := ([moC m ((s.wth 0).wud 3), (m 5, .inl (g.2.1 5, 8, .inr (.inr (.inr (.inr (fun j => some (h j))))))), rowC g h (R) 0, rowC g h (R) 1, rowC g h (R) 2, rowC g h (R) 4, rowC g h (R) 5, rowC g h (R) 6, rowC g h (R) 7] : va_W)) mf_X7_copy ml_X7_206 rfl sc_X7_copy  (r_copy l g (h 3) (m 2) (R 3) (d)) rfl rfl rfl dX7_undo_37 rfl rfl rfl (by decide) (Nat.le_of_ble_eq_true rfl) ⟨(Nat.le_of_ble_eq_true rfl), (Nat.le_of_ble_eq_true rfl)⟩ ⟨(Nat.le_of_ble_eq_true rfl), (Nat.le_of_ble_eq_true rfl)⟩ (fun _ _ hx => hx.elim) (fun v37 w37 q37 => ?_)
  obtain ⟨rfl, rfl⟩ := q37
  refine A_sub [0, 10, 1, 2, 3, 4, 9, 5, 6, 7, 8] (ws2 := (hiW g m h ((s.wth 0).wud 3) (R 3) (R))) rfl rfl ?_
  refine A_aload_n ok.b rfl dX7_undo_40 gp0 ?_
  refine A_getf ok.b cf7 12 (by decide) fl_X7_294 gp0 (gps (gps (gps (gps (gps (gps (gps (gps (gps (gps (gps (gps gp0)))))))))))) dX7_undo_41 ?_
  refine A_iret ok dX7_undo_44 (Nat.le_of_ble_eq_true rfl) (Nat.le_of_ble_eq_true rfl) ?_
  exact ⟨rfl, rfl⟩
set_option maxRecDepth 20000 in
set_option maxHeartbeats 2000000 in
theorem r_undo5 (l : Launch) (g : Gl) (m h : Nat → Nat) (s : MS) (d : Nat → Int32) (R : Nat → Nat → Int32) (hu : s.ud = 5) : Ct l g yX7_undo cX7_undo 1 (some .int) 1 40 0 0 [.ref (m 0)] (hiW g m h (s) (d) (R)) (fun v w => v = some (.int (nI 4)) ∧ w = (hiW g m h ((s.wth 0).wud 4) (R 4) (R))) noX := by
  refine Ct.intro [some (.ref (m 0))] (by decide +kernel) (fun _ h => h) (Nat.le_of_ble_eq_true rfl) (fun A H0 K ok => ?_)
  refine A_aload_n ok.b rfl dX7_undo_0 gp0 ?_
  refine A_iconst ok.b (v := 0) dX7_undo_1 (by decide) ?_
  refine A_putf ok.b cf7 0 (by decide) rfl fl_X7_45 gp0 rfl rfl (gp_lt gp0) wp0 wp0 dX7_undo_2 ?_
  refine A_aload_n ok.b rfl dX7_undo_5 gp0 ?_
  refine A_getf ok.b cf7 12 (by decide) fl_X7_294 gp0 (gps (gps (gps (gps (gps (gps (gps (gps (gps (gps (gps (gps gp0)))))))))))) dX7_undo_6 ?_
  refine A_if_ne ok.b (tgt := 14) dX7_undo_9 (by decide) (fun c9 => ?_) (fun c9 => ((show False from absurd c9 (by rw [hu]; decide))).elim)
  refine A_aload_n ok.b rfl dX7_undo_14 gp0 ?_
  refine A_dup ok.b dX7_undo_15 rfl ?_
  refine A_getf ok.b cf7 12 (by decide) fl_X7_294 gp0 (gps (gps (gps (gps (gps (gps (gps (gps (gps (gps (gps (gps gp0)))))))))))) dX7_undo_16 ?_
  refine A_iconst ok.b (v := 1) dX7_undo_19 (by decide) ?_
  refine A_isub ok.b dX7_undo_20 ?_
  rw [show nI s.ud - 1 = nI 4 from by rw [hu]; rfl]
  refine A_putf ok.b cf7 12 (by decide) rfl fl_X7_294 gp0 rfl rfl (gp_lt (gps (gps (gps (gps (gps (gps (gps (gps (gps (gps (gps (gps gp0))))))))))))) (wps (wps (wps (wps (wps (wps (wps (wps (wps (wps (wps (wps wp0)))))))))))) wp0 dX7_undo_21 ?_
  refine A_aload_n ok.b rfl dX7_undo_24 gp0 ?_
  refine A_getf ok.b cf7 11 (by decide) fl_X7_28 gp0 (gps (gps (gps (gps (gps (gps (gps (gps (gps (gps (gps gp0))))))))))) dX7_undo_25 ?_
  refine A_aload_n ok.b rfl dX7_undo_28 gp0 ?_
  refine A_getf ok.b cf7 12 (by decide) fl_X7_294 gp0 (gps (gps (gps (gps (gps (gps (gps (gps (gps (gps (gps (gps gp0)))))))))))) dX7_undo_29 ?_
  refine A_aldr ok.b (gps (gps gp0)) (ix_n (j := 4) (by decide) (by decide)) dX7_undo_32 ?_
  change AW g A H0 1 K 33 _ (.ref (h 4) :: _) _ 0 0
  refine A_aload_n ok.b rfl dX7_undo_33 gp0 ?_
  refine A_getf ok.b cf7 8 (by decide) fl_X7_17 gp0 (gps (gps (gps (gps (gps (gps (gps (gps gp0)))))))) dX7_undo_34 ?_
  refine A_callSR ok [7, 1] [0, 2, 3, 4, 5, 6, 8, 9, 10] (As := [_, _]) (wr := ([moC m ((s.wth 0).wud 4), (m 5, .inl (g.2.1 5, 8, .inr (.inr (.inr (.inr (fun j => some (h j))))))), rowC g h (R) 0, rowC g h (R) 1, rowC g h (R) 2, rowC g h (R) 3, rowC g h (R) 5, rowC g h (R) 6, rowC g h (R) 7] : va_W)) mf_X7_copy ml_X7_206 rfl sc_X7_copy  (r_copy l g (h 4) (m 2) (R 4) (d)) rfl rfl rfl dX7_undo_37 rfl rfl rfl (by decide) (Nat.le_of_ble_eq_true rfl) ⟨(Nat.le_of_ble_eq_true rfl), (Nat.le_of_ble_eq_true rfl)⟩ ⟨(Nat.le_of_ble_eq_true rfl), (Nat.le_of_ble_eq_true rfl)⟩ (fun _ _ hx => hx.elim) (fun v37 w37 q37 => ?_)
  obtain ⟨rfl, rfl⟩ := q37
  refine A_sub [0, 10, 1, 2, 3, 4, 5, 9, 6, 7, 8] (ws2 := (hiW g m h ((s.wth 0).wud 4) (R 4) (R))) rfl rfl ?_
  refine A_aload_n ok.b rfl dX7_undo_40 gp0 ?_
  refine A_getf ok.b cf7 12 (by decide) fl_X7_294 gp0 (gps (gps (gps (gps (gps (gps (gps (gps (gps (gps (gps (gps gp0)))))))))))) dX7_undo_41 ?_
  refine A_iret ok dX7_undo_44 (Nat.le_of_ble_eq_true rfl) (Nat.le_of_ble_eq_true rfl) ?_
  exact ⟨rfl, rfl⟩
set_option maxRecDepth 20000 in
set_option maxHeartbeats 2000000 in
theorem r_undo6 (l : Launch) (g : Gl) (m h : Nat → Nat) (s : MS) (d : Nat → Int32) (R : Nat → Nat → Int32) (hu : s.ud = 6) : Ct l g yX7_undo cX7_undo 1 (some .int) 1 40 0 0 [.ref (m 0)] (hiW g m h (s) (d) (R)) (fun v w => v = some (.int (nI 5)) ∧ w = (hiW g m h ((s.wth 0).wud 5) (R 5) (R))) noX := by
  refine Ct.intro [some (.ref (m 0))] (by decide +kernel) (fun _ h => h) (Nat.le_of_ble_eq_true rfl) (fun A H0 K ok => ?_)
  refine A_aload_n ok.b rfl dX7_undo_0 gp0 ?_
  refine A_iconst ok.b (v := 0) dX7_undo_1 (by decide) ?_
  refine A_putf ok.b cf7 0 (by decide) rfl fl_X7_45 gp0 rfl rfl (gp_lt gp0) wp0 wp0 dX7_undo_2 ?_
  refine A_aload_n ok.b rfl dX7_undo_5 gp0 ?_
  refine A_getf ok.b cf7 12 (by decide) fl_X7_294 gp0 (gps (gps (gps (gps (gps (gps (gps (gps (gps (gps (gps (gps gp0)))))))))))) dX7_undo_6 ?_
  refine A_if_ne ok.b (tgt := 14) dX7_undo_9 (by decide) (fun c9 => ?_) (fun c9 => ((show False from absurd c9 (by rw [hu]; decide))).elim)
  refine A_aload_n ok.b rfl dX7_undo_14 gp0 ?_
  refine A_dup ok.b dX7_undo_15 rfl ?_
  refine A_getf ok.b cf7 12 (by decide) fl_X7_294 gp0 (gps (gps (gps (gps (gps (gps (gps (gps (gps (gps (gps (gps gp0)))))))))))) dX7_undo_16 ?_
  refine A_iconst ok.b (v := 1) dX7_undo_19 (by decide) ?_
  refine A_isub ok.b dX7_undo_20 ?_
  rw [show nI s.ud - 1 = nI 5 from by rw [hu]; rfl]
  refine A_putf ok.b cf7 12 (by decide) rfl fl_X7_294 gp0 rfl rfl (gp_lt (gps (gps (gps (gps (gps (gps (gps (gps (gps (gps (gps (gps gp0))))))))))))) (wps (wps (wps (wps (wps (wps (wps (wps (wps (wps (wps (wps wp0)))))))))))) wp0 dX7_undo_21 ?_
  refine A_aload_n ok.b rfl dX7_undo_24 gp0 ?_
  refine A_getf ok.b cf7 11 (by decide) fl_X7_28 gp0 (gps (gps (gps (gps (gps (gps (gps (gps (gps (gps (gps gp0))))))))))) dX7_undo_25 ?_
  refine A_aload_n ok.b rfl dX7_undo_28 gp0 ?_
  refine A_getf ok.b cf7 12 (by decide) fl_X7_294 gp0 (gps (gps (gps (gps (gps (gps (gps (gps (gps (gps (gps (gps gp0)))))))))))) dX7_undo_29 ?_
  refine A_aldr ok.b (gps (gps gp0)) (ix_n (j := 5) (by decide) (by decide)) dX7_undo_32 ?_
  change AW g A H0 1 K 33 _ (.ref (h 5) :: _) _ 0 0
  refine A_aload_n ok.b rfl dX7_undo_33 gp0 ?_
  refine A_getf ok.b cf7 8 (by decide) fl_X7_17 gp0 (gps (gps (gps (gps (gps (gps (gps (gps gp0)))))))) dX7_undo_34 ?_
  refine A_callSR ok [8, 1] [0, 2, 3, 4, 5, 6, 7, 9, 10] (As := [_, _]) (wr := ([moC m ((s.wth 0).wud 5), (m 5, .inl (g.2.1 5, 8, .inr (.inr (.inr (.inr (fun j => some (h j))))))), rowC g h (R) 0, rowC g h (R) 1, rowC g h (R) 2, rowC g h (R) 3, rowC g h (R) 4, rowC g h (R) 6, rowC g h (R) 7] : va_W)) mf_X7_copy ml_X7_206 rfl sc_X7_copy  (r_copy l g (h 5) (m 2) (R 5) (d)) rfl rfl rfl dX7_undo_37 rfl rfl rfl (by decide) (Nat.le_of_ble_eq_true rfl) ⟨(Nat.le_of_ble_eq_true rfl), (Nat.le_of_ble_eq_true rfl)⟩ ⟨(Nat.le_of_ble_eq_true rfl), (Nat.le_of_ble_eq_true rfl)⟩ (fun _ _ hx => hx.elim) (fun v37 w37 q37 => ?_)
  obtain ⟨rfl, rfl⟩ := q37
  refine A_sub [0, 10, 1, 2, 3, 4, 5, 6, 9, 7, 8] (ws2 := (hiW g m h ((s.wth 0).wud 5) (R 5) (R))) rfl rfl ?_
  refine A_aload_n ok.b rfl dX7_undo_40 gp0 ?_
  refine A_getf ok.b cf7 12 (by decide) fl_X7_294 gp0 (gps (gps (gps (gps (gps (gps (gps (gps (gps (gps (gps (gps gp0)))))))))))) dX7_undo_41 ?_
  refine A_iret ok dX7_undo_44 (Nat.le_of_ble_eq_true rfl) (Nat.le_of_ble_eq_true rfl) ?_
  exact ⟨rfl, rfl⟩
set_option maxRecDepth 20000 in
set_option maxHeartbeats 2000000 in
theorem r_undo7 (l : Launch) (g : Gl) (m h : Nat → Nat) (s : MS) (d : Nat → Int32) (R : Nat → Nat → Int32) (hu : s.ud = 7) : Ct l g yX7_undo cX7_undo 1 (some .int) 1 40 0 0 [.ref (m 0)] (hiW g m h (s) (d) (R)) (fun v w => v = some (.int (nI 6)) ∧ w = (hiW g m h ((s.wth 0).wud 6) (R 6) (R))) noX := by
  refine Ct.intro [some (.ref (m 0))] (by decide +kernel) (fun _ h => h) (Nat.le_of_ble_eq_true rfl) (fun A H0 K ok => ?_)
  refine A_aload_n ok.b rfl dX7_undo_0 gp0 ?_
  refine A_iconst ok.b (v := 0) dX7_undo_1 (by decide) ?_
  refine A_putf ok.b cf7 0 (by decide) rfl fl_X7_45 gp0 rfl rfl (gp_lt gp0) wp0 wp0 dX7_undo_2 ?_
  refine A_aload_n ok.b rfl dX7_undo_5 gp0 ?_
  refine A_getf ok.b cf7 12 (by decide) fl_X7_294 gp0 (gps (gps (gps (gps (gps (gps (gps (gps (gps (gps (gps (gps gp0)))))))))))) dX7_undo_6 ?_
  refine A_if_ne ok.b (tgt := 14) dX7_undo_9 (by decide) (fun c9 => ?_) (fun c9 => ((show False from absurd c9 (by rw [hu]; decide))).elim)
  refine A_aload_n ok.b rfl dX7_undo_14 gp0 ?_
  refine A_dup ok.b dX7_undo_15 rfl ?_
  refine A_getf ok.b cf7 12 (by decide) fl_X7_294 gp0 (gps (gps (gps (gps (gps (gps (gps (gps (gps (gps (gps (gps gp0)))))))))))) dX7_undo_16 ?_
  refine A_iconst ok.b (v := 1) dX7_undo_19 (by decide) ?_
  refine A_isub ok.b dX7_undo_20 ?_
  rw [show nI s.ud - 1 = nI 6 from by rw [hu]; rfl]
  refine A_putf ok.b cf7 12 (by decide) rfl fl_X7_294 gp0 rfl rfl (gp_lt (gps (gps (gps (gps (gps (gps (gps (gps (gps (gps (gps (gps gp0))))))))))))) (wps (wps (wps (wps (wps (wps (wps (wps (wps (wps (wps (wps wp0)))))))))))) wp0 dX7_undo_21 ?_
  refine A_aload_n ok.b rfl dX7_undo_24 gp0 ?_
  refine A_getf ok.b cf7 11 (by decide) fl_X7_28 gp0 (gps (gps (gps (gps (gps (gps (gps (gps (gps (gps (gps gp0))))))))))) dX7_undo_25 ?_
  refine A_aload_n ok.b rfl dX7_undo_28 gp0 ?_
  refine A_getf ok.b cf7 12 (by decide) fl_X7_294 gp0 (gps (gps (gps (gps (gps (gps (gps (gps (gps (gps (gps (gps gp0)))))))))))) dX7_undo_29 ?_
  refine A_aldr ok.b (gps (gps gp0)) (ix_n (j := 6) (by decide) (by decide)) dX7_undo_32 ?_
  change AW g A H0 1 K 33 _ (.ref (h 6) :: _) _ 0 0
  refine A_aload_n ok.b rfl dX7_undo_33 gp0 ?_
  refine A_getf ok.b cf7 8 (by decide) fl_X7_17 gp0 (gps (gps (gps (gps (gps (gps (gps (gps gp0)))))))) dX7_undo_34 ?_
  refine A_callSR ok [9, 1] [0, 2, 3, 4, 5, 6, 7, 8, 10] (As := [_, _]) (wr := ([moC m ((s.wth 0).wud 6), (m 5, .inl (g.2.1 5, 8, .inr (.inr (.inr (.inr (fun j => some (h j))))))), rowC g h (R) 0, rowC g h (R) 1, rowC g h (R) 2, rowC g h (R) 3, rowC g h (R) 4, rowC g h (R) 5, rowC g h (R) 7] : va_W)) mf_X7_copy ml_X7_206 rfl sc_X7_copy  (r_copy l g (h 6) (m 2) (R 6) (d)) rfl rfl rfl dX7_undo_37 rfl rfl rfl (by decide) (Nat.le_of_ble_eq_true rfl) ⟨(Nat.le_of_ble_eq_true rfl), (Nat.le_of_ble_eq_true rfl)⟩ ⟨(Nat.le_of_ble_eq_true rfl), (Nat.le_of_ble_eq_true rfl)⟩ (fun _ _ hx => hx.elim) (fun v37 w37 q37 => ?_)
  obtain ⟨rfl, rfl⟩ := q37
  refine A_sub [0, 10, 1, 2, 3, 4, 5, 6, 7, 9, 8] (ws2 := (hiW g m h ((s.wth 0).wud 6) (R 6) (R))) rfl rfl ?_
  refine A_aload_n ok.b rfl dX7_undo_40 gp0 ?_
  refine A_getf ok.b cf7 12 (by decide) fl_X7_294 gp0 (gps (gps (gps (gps (gps (gps (gps (gps (gps (gps (gps (gps gp0)))))))))))) dX7_undo_41 ?_
  refine A_iret ok dX7_undo_44 (Nat.le_of_ble_eq_true rfl) (Nat.le_of_ble_eq_true rfl) ?_
  exact ⟨rfl, rfl⟩
set_option maxRecDepth 20000 in
set_option maxHeartbeats 2000000 in
theorem r_undo8 (l : Launch) (g : Gl) (m h : Nat → Nat) (s : MS) (d : Nat → Int32) (R : Nat → Nat → Int32) (hu : s.ud = 8) : Ct l g yX7_undo cX7_undo 1 (some .int) 1 40 0 0 [.ref (m 0)] (hiW g m h (s) (d) (R)) (fun v w => v = some (.int (nI 7)) ∧ w = (hiW g m h ((s.wth 0).wud 7) (R 7) (R))) noX := by
  refine Ct.intro [some (.ref (m 0))] (by decide +kernel) (fun _ h => h) (Nat.le_of_ble_eq_true rfl) (fun A H0 K ok => ?_)
  refine A_aload_n ok.b rfl dX7_undo_0 gp0 ?_
  refine A_iconst ok.b (v := 0) dX7_undo_1 (by decide) ?_
  refine A_putf ok.b cf7 0 (by decide) rfl fl_X7_45 gp0 rfl rfl (gp_lt gp0) wp0 wp0 dX7_undo_2 ?_
  refine A_aload_n ok.b rfl dX7_undo_5 gp0 ?_
  refine A_getf ok.b cf7 12 (by decide) fl_X7_294 gp0 (gps (gps (gps (gps (gps (gps (gps (gps (gps (gps (gps (gps gp0)))))))))))) dX7_undo_6 ?_
  refine A_if_ne ok.b (tgt := 14) dX7_undo_9 (by decide) (fun c9 => ?_) (fun c9 => ((show False from absurd c9 (by rw [hu]; decide))).elim)
  refine A_aload_n ok.b rfl dX7_undo_14 gp0 ?_
  refine A_dup ok.b dX7_undo_15 rfl ?_
  refine A_getf ok.b cf7 12 (by decide) fl_X7_294 gp0 (gps (gps (gps (gps (gps (gps (gps (gps (gps (gps (gps (gps gp0)))))))))))) dX7_undo_16 ?_
  refine A_iconst ok.b (v := 1) dX7_undo_19 (by decide) ?_
  refine A_isub ok.b dX7_undo_20 ?_
  rw [show nI s.ud - 1 = nI 7 from by rw [hu]; rfl]
  refine A_putf ok.b cf7 12 (by decide) rfl fl_X7_294 gp0 rfl rfl (gp_lt (gps (gps (gps (gps (gps (gps (gps (gps (gps (gps (gps (gps gp0))))))))))))) (wps (wps (wps (wps (wps (wps (wps (wps (wps (wps (wps (wps wp0)))))))))))) wp0 dX7_undo_21 ?_
  refine A_aload_n ok.b rfl dX7_undo_24 gp0 ?_
  refine A_getf ok.b cf7 11 (by decide) fl_X7_28 gp0 (gps (gps (gps (gps (gps (gps (gps (gps (gps (gps (gps gp0))))))))))) dX7_undo_25 ?_
  refine A_aload_n ok.b rfl dX7_undo_28 gp0 ?_
  refine A_getf ok.b cf7 12 (by decide) fl_X7_294 gp0 (gps (gps (gps (gps (gps (gps (gps (gps (gps (gps (gps (gps gp0)))))))))))) dX7_undo_29 ?_
  refine A_aldr ok.b (gps (gps gp0)) (ix_n (j := 7) (by decide) (by decide)) dX7_undo_32 ?_
  change AW g A H0 1 K 33 _ (.ref (h 7) :: _) _ 0 0
  refine A_aload_n ok.b rfl dX7_undo_33 gp0 ?_
  refine A_getf ok.b cf7 8 (by decide) fl_X7_17 gp0 (gps (gps (gps (gps (gps (gps (gps (gps gp0)))))))) dX7_undo_34 ?_
  refine A_callSR ok [10, 1] [0, 2, 3, 4, 5, 6, 7, 8, 9] (As := [_, _]) (wr := ([moC m ((s.wth 0).wud 7), (m 5, .inl (g.2.1 5, 8, .inr (.inr (.inr (.inr (fun j => some (h j))))))), rowC g h (R) 0, rowC g h (R) 1, rowC g h (R) 2, rowC g h (R) 3, rowC g h (R) 4, rowC g h (R) 5, rowC g h (R) 6] : va_W)) mf_X7_copy ml_X7_206 rfl sc_X7_copy  (r_copy l g (h 7) (m 2) (R 7) (d)) rfl rfl rfl dX7_undo_37 rfl rfl rfl (by decide) (Nat.le_of_ble_eq_true rfl) ⟨(Nat.le_of_ble_eq_true rfl), (Nat.le_of_ble_eq_true rfl)⟩ ⟨(Nat.le_of_ble_eq_true rfl), (Nat.le_of_ble_eq_true rfl)⟩ (fun _ _ hx => hx.elim) (fun v37 w37 q37 => ?_)
  obtain ⟨rfl, rfl⟩ := q37
  refine A_sub [0, 10, 1, 2, 3, 4, 5, 6, 7, 8, 9] (ws2 := (hiW g m h ((s.wth 0).wud 7) (R 7) (R))) rfl rfl ?_
  refine A_aload_n ok.b rfl dX7_undo_40 gp0 ?_
  refine A_getf ok.b cf7 12 (by decide) fl_X7_294 gp0 (gps (gps (gps (gps (gps (gps (gps (gps (gps (gps (gps (gps gp0)))))))))))) dX7_undo_41 ?_
  refine A_iret ok dX7_undo_44 (Nat.le_of_ble_eq_true rfl) (Nat.le_of_ble_eq_true rfl) ?_
  exact ⟨rfl, rfl⟩
set_option maxRecDepth 20000 in
set_option maxHeartbeats 2000000 in
theorem r_undo0 (l : Launch) (g : Gl) (m h : Nat → Nat) (s : MS) (d : Nat → Int32) (R : Nat → Nat → Int32) (hu : s.ud = 0) : Ct l g yX7_undo cX7_undo 1 (some .int) 1 40 0 0 [.ref (m 0)] (hiW g m h (s) (d) (R)) (fun v w => v = some (.int (-1)) ∧ w = (hiW g m h (s.wth 0) (d) (R))) noX := by
  refine Ct.intro [some (.ref (m 0))] (by decide +kernel) (fun _ h => h) (Nat.le_of_ble_eq_true rfl) (fun A H0 K ok => ?_)
  refine A_aload_n ok.b rfl dX7_undo_0 gp0 ?_
  refine A_iconst ok.b (v := 0) dX7_undo_1 (by decide) ?_
  refine A_putf ok.b cf7 0 (by decide) rfl fl_X7_45 gp0 rfl rfl (gp_lt gp0) wp0 wp0 dX7_undo_2 ?_
  refine A_aload_n ok.b rfl dX7_undo_5 gp0 ?_
  refine A_getf ok.b cf7 12 (by decide) fl_X7_294 gp0 (gps (gps (gps (gps (gps (gps (gps (gps (gps (gps (gps (gps gp0)))))))))))) dX7_undo_6 ?_
  refine A_if_ne ok.b (tgt := 14) dX7_undo_9 (by decide) (fun c9 => ((show False from c9 (by rw [hu]; rfl))).elim) (fun c9 => ?_)
  refine A_iconst ok.b (v := (-1)) dX7_undo_12 (by decide) ?_
  refine A_iret ok dX7_undo_13 (Nat.le_of_ble_eq_true rfl) (Nat.le_of_ble_eq_true rfl) ?_
  exact ⟨rfl, rfl⟩
