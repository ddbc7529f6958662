theorem gm_max : Cond.static Lib.Math.max.name ∈ GT ∧ Cond.initialized "java/lang/Math" ∈ GT ∧ Cond.code Lib.Math.max.name Lib.Math.max.code 2 (some .int) ∈ GT := ⟨gt_of (by decide +kernel) rfl, gt_of (by decide +kernel) rfl, gt_of (by decide +kernel) rfl⟩
theorem gm_min : Cond.static Lib.Math.min.name ∈ GT ∧ Cond.initialized "java/lang/Math" ∈ GT ∧ Cond.code Lib.Math.min.name Lib.Math.min.code 2 (some .int) ∈ GT := ⟨gt_of (by decide +kernel) rfl, gt_of (by decide +kernel) rfl, gt_of (by decide +kernel) rfl⟩
theorem gm_abs : Cond.static Lib.Math.abs.name ∈ GT ∧ Cond.initialized "java/lang/Math" ∈ GT ∧ Cond.code Lib.Math.abs.name Lib.Math.abs.code 1 (some .int) ∈ GT := ⟨gt_of (by decide +kernel) rfl, gt_of (by decide +kernel) rfl, gt_of (by decide +kernel) rfl⟩
theorem gm_maxl : Cond.static Lib.MathLoose.max_long.x ∈ GT ∧ Cond.initialized "java/lang/Math" ∈ GT ∧ Cond.code Lib.MathLoose.max_long.x Lib.MathLoose.max_long.code 4 (some .long) ∈ GT := ⟨gt_of (by decide +kernel) rfl, gt_of (by decide +kernel) rfl, gt_of (by decide +kernel) rfl⟩
theorem gm_minl : Cond.static Lib.MathLoose.min_long.x ∈ GT ∧ Cond.initialized "java/lang/Math" ∈ GT ∧ Cond.code Lib.MathLoose.min_long.x Lib.MathLoose.min_long.code 4 (some .long) ∈ GT := ⟨gt_of (by decide +kernel) rfl, gt_of (by decide +kernel) rfl, gt_of (by decide +kernel) rfl⟩
theorem gm_copy : Cond.native arraycopyName ∈ GT ∧ Cond.static arraycopyName ∈ GT ∧ Cond.initialized "java/lang/System" ∈ GT := ⟨gt_of (by decide +kernel) rfl, gt_of (by decide +kernel) rfl, gt_of (by decide +kernel) rfl⟩
theorem gm_obj : Cond.instanceMethod Lib.objectInit ∈ GT ∧ Cond.code Lib.objectInit ⟨#[0xb1]⟩ 1 none ∈ GT := ⟨gt_of (by decide +kernel) rfl, gt_of (by decide +kernel) rfl⟩
theorem gm_arr : Cond.arrayClass .int ∈ GT ∧ Cond.arrayClass .long ∈ GT ∧ Cond.arrayClass .byte ∈ GT ∧ Cond.arrayClass .boolean ∈ GT := ⟨gt_of (by decide +kernel) rfl, gt_of (by decide +kernel) rfl, gt_of (by decide +kernel) rfl, gt_of (by decide +kernel) rfl⟩

section AWR
variable {l : Launch} {g : Gl} {own nm : String} {cc : ByteArray} {nL : Nat} {ret : Option FieldType} {R : Room} {A : Nat → Prop} {H0 : Heap} {K : KT} {pc : Nat} {lv : List (Option Value)} {st : List Value} {ws : va_W} {cn sn : Nat}

theorem A_max (ok : OkB l g own nm cc nL ret R A H0 K) {ix : Nat} {x y : Int32} (hw : Cond.methodLink own ix Lib.Math.max.name ∈ GT) (d : decode cc pc = .ok (.invokestatic ix, 3)) (hf : 1 ≤ R.frames) (hl0 : (st.map fun v => v.category).sum + 13 ≤ R.locals) (hc : cn ≤ R.cells) (hs : sn ≤ R.slots)
    (k : AW g A H0 nL K (pc + 3) lv (.int (if x < y then y else x) :: st) ws cn sn) : AW g A H0 nL K pc lv (.int y :: .int x :: st) ws cn sn := by
  obtain ⟨p, e, s, m, args, below, meth, c, Q, rfl, rfl, hx, hb, hml, hown, hts, hr, hlk, hKn, hG, hA, hnm⟩ := ok
  intro H locs ls hP hD hS hl
  exact va_mmax hx hb (hml.trans hl.1.symm) hown (hts _ hw) (hts _ gm_max.1) (hts _ gm_max.2.1) (hts _ gm_max.2.2) hf hl0 hc hs d (k H locs ls hP hD hS hl)

theorem A_min (ok : OkB l g own nm cc nL ret R A H0 K) {ix : Nat} {x y : Int32} (hw : Cond.methodLink own ix Lib.Math.min.name ∈ GT) (d : decode cc pc = .ok (.invokestatic ix, 3)) (hf : 1 ≤ R.frames) (hl0 : (st.map fun v => v.category).sum + 13 ≤ R.locals) (hc : cn ≤ R.cells) (hs : sn ≤ R.slots)
    (k : AW g A H0 nL K (pc + 3) lv (.int (if y < x then y else x) :: st) ws cn sn) : AW g A H0 nL K pc lv (.int y :: .int x :: st) ws cn sn := by
  obtain ⟨p, e, s, m, args, below, meth, c, Q, rfl, rfl, hx, hb, hml, hown, hts, hr, hlk, hKn, hG, hA, hnm⟩ := ok
  intro H locs ls hP hD hS hl
  exact va_mmin hx hb (hml.trans hl.1.symm) hown (hts _ hw) (hts _ gm_min.1) (hts _ gm_min.2.1) (hts _ gm_min.2.2) hf hl0 hc hs d (k H locs ls hP hD hS hl)

theorem A_abs (ok : OkB l g own nm cc nL ret R A H0 K) {ix : Nat} {x : Int32} (hw : Cond.methodLink own ix Lib.Math.abs.name ∈ GT) (d : decode cc pc = .ok (.invokestatic ix, 3)) (hf : 1 ≤ R.frames) (hl0 : (st.map fun v => v.category).sum + 13 ≤ R.locals) (hc : cn ≤ R.cells) (hs : sn ≤ R.slots)
    (k : AW g A H0 nL K (pc + 3) lv (.int (if 0 ≤ x then x else 0 - x) :: st) ws cn sn) : AW g A H0 nL K pc lv (.int x :: st) ws cn sn := by
  obtain ⟨p, e, s, m, args, below, meth, c, Q, rfl, rfl, hx, hb, hml, hown, hts, hr, hlk, hKn, hG, hA, hnm⟩ := ok
  intro H locs ls hP hD hS hl
  exact va_mabs hx hb (hml.trans hl.1.symm) hown (hts _ hw) (hts _ gm_abs.1) (hts _ gm_abs.2.1) (hts _ gm_abs.2.2) hf hl0 hc hs d (k H locs ls hP hD hS hl)

theorem A_maxl (ok : OkB l g own nm cc nL ret R A H0 K) {ix : Nat} {x y : Int64} (hw : Cond.methodLink own ix Lib.MathLoose.max_long.x ∈ GT) (d : decode cc pc = .ok (.invokestatic ix, 3)) (hf : 1 ≤ R.frames) (hl0 : (st.map fun v => v.category).sum + 15 ≤ R.locals) (hc : cn ≤ R.cells) (hs : sn ≤ R.slots)
    (k : AW g A H0 nL K (pc + 3) lv (.long (if y < x then x else y) :: st) ws cn sn) : AW g A H0 nL K pc lv (.long y :: .long x :: st) ws cn sn := by
  obtain ⟨p, e, s, m, args, below, meth, c, Q, rfl, rfl, hx, hb, hml, hown, hts, hr, hlk, hKn, hG, hA, hnm⟩ := ok
  intro H locs ls hP hD hS hl
  exact va_mmax_long hx hb (hml.trans hl.1.symm) hown (hts _ hw) (hts _ gm_maxl.1) (hts _ gm_maxl.2.1) (hts _ gm_maxl.2.2) hf hl0 hc hs d (k H locs ls hP hD hS hl)

theorem A_minl (ok : OkB l g own nm cc nL ret R A H0 K) {ix : Nat} {x y : Int64} (hw : Cond.methodLink own ix Lib.MathLoose.min_long.x ∈ GT) (d : decode cc pc = .ok (.invokestatic ix, 3)) (hf : 1 ≤ R.frames) (hl0 : (st.map fun v => v.category).sum + 15 ≤ R.locals) (hc : cn ≤ R.cells) (hs : sn ≤ R.slots)
    (k : AW g A H0 nL K (pc + 3) lv (.long (if y < x then y else x) :: st) ws cn sn) : AW g A H0 nL K pc lv (.long y :: .long x :: st) ws cn sn := by
  obtain ⟨p, e, s, m, args, below, meth, c, Q, rfl, rfl, hx, hb, hml, hown, hts, hr, hlk, hKn, hG, hA, hnm⟩ := ok
  intro H locs ls hP hD hS hl
  exact va_mmin_long hx hb (hml.trans hl.1.symm) hown (hts _ hw) (hts _ gm_minl.1) (hts _ gm_minl.2.1) (hts _ gm_minl.2.2) hf hl0 hc hs d (k H locs ls hP hD hS hl)

theorem A_cpyi (ok : OkB l g own nm cc nL ret R A H0 K) {ix q0 q1 a0 a n0 n1 : Nat} {cA : ClassId} {ty : FieldType} {f g9 : Nat → Int32} {sp dp n : Int32} {ws2 : va_W} (t0 : Nat) (hw : Cond.methodLink own ix arraycopyName ∈ GT) (g0 : Gp q0 ws (a0, .inl (cA, n0, .inl f))) (g1 : Gp q1 ws (a, .inl (cA, n1, .inl g9))) (ht : (gtys g)[t0]? = some (cA, ty)) (hp : refKind ty = false)
    (h1 : ¬ sp < 0) (h2 : ¬ dp < 0) (h3 : ¬ n < 0) (h4 : sp.toNatClampNeg + n.toNatClampNeg ≤ n0) (h5 : dp.toNatClampNeg + n.toNatClampNeg ≤ n1) (hfit : ∀ i, i < n.toNatClampNeg → fits ty (.int (f (sp.toNatClampNeg + i))) = true) (hf : 1 ≤ R.frames) (hl0 : (st.map fun v => v.category).sum + (nativeFrameWords "java/lang/System" "arraycopy" 5 + 11) ≤ R.locals)
    (ww : Wp q1 ws (a, .inl (cA, n1, .inl (va_cpy f g9 sp.toNatClampNeg dp.toNatClampNeg n.toNatClampNeg))) ws2) (d : decode cc pc = .ok (.invokestatic ix, 3))
    (k : AW g A H0 nL K (pc + 3) lv st ws2 cn sn) : AW g A H0 nL K pc lv (.int n :: .int dp :: .ref a :: .int sp :: .ref a0 :: st) ws cn sn := by
  obtain ⟨p, e, s, m, args, below, meth, c, Q, rfl, rfl, hx, hb, hml, hown, hts, hr, hlk, hKn, hG, hA, hnm⟩ := ok
  intro H locs ls hP hD hS hl
  refine va_copyi hx hb (hml.trans hl.1.symm) hown (hts _ hw) (hts _ gm_copy.1) (hts _ gm_copy.2.1) (hts _ gm_copy.2.2) hKn hP hD hS q0 q1 t0 t0 g0 g1 ht ht hp h1 h2 h3 h4 h5 hfit hf hl0 d (fun H1 locs1 hP1 hD1 hS1 => ?_)
  rw [wp_of ww] at hP1 hD1
  exact k H1 locs1 ls hP1 hD1 hS1 hl

theorem A_cpyl (ok : OkB l g own nm cc nL ret R A H0 K) {ix q0 q1 a0 a n0 n1 : Nat} {cA : ClassId} {ty : FieldType} {f g9 : Nat → Int64} {sp dp n : Int32} {ws2 : va_W} (t0 : Nat) (hw : Cond.methodLink own ix arraycopyName ∈ GT) (g0 : Gp q0 ws (a0, .inl (cA, n0, .inr (.inl f)))) (g1 : Gp q1 ws (a, .inl (cA, n1, .inr (.inl g9)))) (ht : (gtys g)[t0]? = some (cA, ty)) (hp : refKind ty = false)
    (h1 : ¬ sp < 0) (h2 : ¬ dp < 0) (h3 : ¬ n < 0) (h4 : sp.toNatClampNeg + n.toNatClampNeg ≤ n0) (h5 : dp.toNatClampNeg + n.toNatClampNeg ≤ n1) (hfit : ∀ i, i < n.toNatClampNeg → fits ty (.long (f (sp.toNatClampNeg + i))) = true) (hf : 1 ≤ R.frames) (hl0 : (st.map fun v => v.category).sum + (nativeFrameWords "java/lang/System" "arraycopy" 5 + 11) ≤ R.locals)
    (ww : Wp q1 ws (a, .inl (cA, n1, .inr (.inl (va_cpy f g9 sp.toNatClampNeg dp.toNatClampNeg n.toNatClampNeg)))) ws2) (d : decode cc pc = .ok (.invokestatic ix, 3))
    (k : AW g A H0 nL K (pc + 3) lv st ws2 cn sn) : AW g A H0 nL K pc lv (.int n :: .int dp :: .ref a :: .int sp :: .ref a0 :: st) ws cn sn := by
  obtain ⟨p, e, s, m, args, below, meth, c, Q, rfl, rfl, hx, hb, hml, hown, hts, hr, hlk, hKn, hG, hA, hnm⟩ := ok
  intro H locs ls hP hD hS hl
  refine va_copyl hx hb (hml.trans hl.1.symm) hown (hts _ hw) (hts _ gm_copy.1) (hts _ gm_copy.2.1) (hts _ gm_copy.2.2) hKn hP hD hS q0 q1 t0 t0 g0 g1 ht ht hp h1 h2 h3 h4 h5 hfit hf hl0 d (fun H1 locs1 hP1 hD1 hS1 => ?_)
  rw [wp_of ww] at hP1 hD1
  exact k H1 locs1 ls hP1 hD1 hS1 hl

theorem A_objInit (ok : OkB l g own nm cc nL ret R A H0 K) {ix a : Nat} (hw : Cond.methodLink own ix Lib.objectInit ∈ GT) (d : decode cc pc = .ok (.invokespecial ix, 3)) (hf : 1 ≤ R.frames) (hl0 : (st.map fun v => v.category).sum + 12 ≤ R.locals)
    (k : AW g A H0 nL K (pc + 3) lv st ws cn sn) : AW g A H0 nL K pc lv (.ref a :: st) ws cn sn := by
  obtain ⟨p, e, s, m, args, below, meth, c, Q, rfl, rfl, hx, hb, hml, hown, hts, hr, hlk, hKn, hG, hA, hnm⟩ := ok
  intro H locs ls hP hD hS hl
  refine W.objInit hx hb hown (hts _ hw) (hts _ gm_obj.1) (hts _ gm_obj.2) rfl (hl.1.trans hml.symm) rfl d hf ?_ (k H locs ls hP hD hS hl)
  have e : (F0 m pc ls (.ref a :: st)).monitorRoom = 0 := rfl
  rw [e]
  omega
theorem A_new (ok : OkB l g own nm cc nL ret R A H0 K) {ci N : Nat} {C : String} {T : u_T} {ty : Nat → FieldType} (cf : CF ci C T N ty) {ix : Nat} {fs : List Value} (hcl : Cond.classLink own ix C ∈ GT) (hi : Cond.instantiable C N ∈ GT) (hii : Cond.initialized C ∈ GT) (hfs : ∀ j, j < N → defaultValue (ty j) = vp_V fs j) (hc : cn + 1 ≤ R.cells) (hs : sn + N ≤ R.slots) (d : decode cc pc = .ok (.new ix, 3))
    (k : ∀ q : Nat, AW g A H0 nL K (pc + 3) lv (.ref q :: st) (ws ++ [(q, .inr (ci, fs))]) (cn + 1) (sn + N)) : AW g A H0 nL K pc lv st ws cn sn := by
  obtain ⟨p, e, s, m, args, below, meth, c, Q, rfl, rfl, hx, hb, hml, hown, hts, hr, hlk, hKn, hG, hA, hnm⟩ := ok
  intro H locs ls hP hD hS hl
  exact va_new hx hb hts cf.2.1 ty cf.2.2.1 hown (hts _ hcl) (hts _ hi) (hts _ hii) hKn hP hD hS hA cf.1 hfs hc hs d (fun q H1 hP1 hD1 hS1 => k q H1 locs ls hP1 hD1 hS1 hl)

theorem A_newaI (ok : OkB l g own nm cc nL ret R A H0 K) {n : Int32} {N : Nat} (hn : ¬ n < 0) (hN : n.toNatClampNeg = N) (hb8 : N * 8 ≤ 536870912) (hc : cn + 1 ≤ R.cells) (hs : sn + N ≤ R.slots) (d : decode cc pc = .ok (.newarray .int, 2))
    (k : ∀ q : Nat, AW g A H0 nL K (pc + 2) lv (.ref q :: st) (ws ++ [(q, .inl (g.2.1 0, N, .inl (fun _ => 0)))]) (cn + 1) (sn + N)) : AW g A H0 nL K pc lv (.int n :: st) ws cn sn := by
  obtain ⟨p, e, s, m, args, below, meth, c, Q, rfl, rfl, hx, hb, hml, hown, hts, hr, hlk, hKn, hG, hA, hnm⟩ := ok
  intro H locs ls hP hD hS hl
  refine va_newa (atype := .int) (ty := .int) (a0 := (N, .inl (fun _ => 0))) hx hb (hts _ gm_arr.1) rfl hKn hP hD hS hA (fun _ => rfl) hn hN (by show N * _ ≤ _; simp only [componentBytes]; omega) hc hs d (fun q cA H1 hK2 hP1 hD1 hS1 => ?_)
  have e1 := (hK2.2 6 (cA, .int) rfl).2
  have e2 := (hKn.2 0 (g.2.1 0, .int) rfl).2
  have e : cA = g.2.1 0 := Option.some.inj (e1.symm.trans e2)
  subst e
  exact k q H1 locs ls hP1 hD1 hS1 hl

theorem A_newaJ (ok : OkB l g own nm cc nL ret R A H0 K) {n : Int32} {N : Nat} (hn : ¬ n < 0) (hN : n.toNatClampNeg = N) (hb8 : N * 8 ≤ 536870912) (hc : cn + 1 ≤ R.cells) (hs : sn + N ≤ R.slots) (d : decode cc pc = .ok (.newarray .long, 2))
    (k : ∀ q : Nat, AW g A H0 nL K (pc + 2) lv (.ref q :: st) (ws ++ [(q, .inl (g.2.1 1, N, .inr (.inl (fun _ => 0))))]) (cn + 1) (sn + N)) : AW g A H0 nL K pc lv (.int n :: st) ws cn sn := by
  obtain ⟨p, e, s, m, args, below, meth, c, Q, rfl, rfl, hx, hb, hml, hown, hts, hr, hlk, hKn, hG, hA, hnm⟩ := ok
  intro H locs ls hP hD hS hl
  refine va_newa (atype := .long) (ty := .long) (a0 := (N, .inr (.inl (fun _ => 0)))) hx hb (hts _ gm_arr.2.1) rfl hKn hP hD hS hA (fun _ => rfl) hn hN (by show N * _ ≤ _; simp only [componentBytes]; omega) hc hs d (fun q cA H1 hK2 hP1 hD1 hS1 => ?_)
  have e1 := (hK2.2 6 (cA, .long) rfl).2
  have e2 := (hKn.2 1 (g.2.1 1, .long) rfl).2
  have e : cA = g.2.1 1 := Option.some.inj (e1.symm.trans e2)
  subst e
  exact k q H1 locs ls hP1 hD1 hS1 hl

theorem A_newaB (ok : OkB l g own nm cc nL ret R A H0 K) {n : Int32} {N : Nat} (hn : ¬ n < 0) (hN : n.toNatClampNeg = N) (hb8 : N * 8 ≤ 536870912) (hc : cn + 1 ≤ R.cells) (hs : sn + N ≤ R.slots) (d : decode cc pc = .ok (.newarray .byte, 2))
    (k : ∀ q : Nat, AW g A H0 nL K (pc + 2) lv (.ref q :: st) (ws ++ [(q, .inl (g.2.1 2, N, .inl (fun _ => 0)))]) (cn + 1) (sn + N)) : AW g A H0 nL K pc lv (.int n :: st) ws cn sn := by
  obtain ⟨p, e, s, m, args, below, meth, c, Q, rfl, rfl, hx, hb, hml, hown, hts, hr, hlk, hKn, hG, hA, hnm⟩ := ok
  intro H locs ls hP hD hS hl
  refine va_newa (atype := .byte) (ty := .byte) (a0 := (N, .inl (fun _ => 0))) hx hb (hts _ gm_arr.2.2.1) rfl hKn hP hD hS hA (fun _ => rfl) hn hN (by show N * _ ≤ _; simp only [componentBytes]; omega) hc hs d (fun q cA H1 hK2 hP1 hD1 hS1 => ?_)
  have e1 := (hK2.2 6 (cA, .byte) rfl).2
  have e2 := (hKn.2 2 (g.2.1 2, .byte) rfl).2
  have e : cA = g.2.1 2 := Option.some.inj (e1.symm.trans e2)
  subst e
  exact k q H1 locs ls hP1 hD1 hS1 hl

theorem A_newaZ (ok : OkB l g own nm cc nL ret R A H0 K) {n : Int32} {N : Nat} (hn : ¬ n < 0) (hN : n.toNatClampNeg = N) (hb8 : N * 8 ≤ 536870912) (hc : cn + 1 ≤ R.cells) (hs : sn + N ≤ R.slots) (d : decode cc pc = .ok (.newarray .boolean, 2))
    (k : ∀ q : Nat, AW g A H0 nL K (pc + 2) lv (.ref q :: st) (ws ++ [(q, .inl (g.2.1 3, N, .inl (fun _ => 0)))]) (cn + 1) (sn + N)) : AW g A H0 nL K pc lv (.int n :: st) ws cn sn := by
  obtain ⟨p, e, s, m, args, below, meth, c, Q, rfl, rfl, hx, hb, hml, hown, hts, hr, hlk, hKn, hG, hA, hnm⟩ := ok
  intro H locs ls hP hD hS hl
  refine va_newa (atype := .boolean) (ty := .boolean) (a0 := (N, .inl (fun _ => 0))) hx hb (hts _ gm_arr.2.2.2) rfl hKn hP hD hS hA (fun _ => rfl) hn hN (by show N * _ ≤ _; simp only [componentBytes]; omega) hc hs d (fun q cA H1 hK2 hP1 hD1 hS1 => ?_)
  have e1 := (hK2.2 6 (cA, .boolean) rfl).2
  have e2 := (hKn.2 3 (g.2.1 3, .boolean) rfl).2
  have e : cA = g.2.1 3 := Option.some.inj (e1.symm.trans e2)
  subst e
  exact k q H1 locs ls hP1 hD1 hS1 hl

end AWR
theorem nd_of : ∀ (l : List Nat), l.Nodup → va_nd l = true
  | [], _ => rfl
  | a :: l, h => by
    rw [List.nodup_cons] at h
    simp [va_nd, h.1, nd_of l h.2]
theorem nd_range (n : Nat) : va_nd (List.range n) = true := nd_of _ List.nodup_range
theorem range_pick {α : Type} (l : List α) : (List.range l.length).map (fun i => l[i]?) = l.map some := by
  apply List.ext_getElem?
  intro i
  by_cases h : i < l.length
  · simp [h]
  · simp [h]

section AWC5
variable {l : Launch} {g : Gl} {own nm : String} {cc : ByteArray} {nL : Nat} {ret : Option FieldType} {R : Room} {ws0 : va_W} {Q0 : QT} {X0 : XT} {A : Nat → Prop} {H0 : Heap} {K : KT} {pc : Nat} {lv : List (Option Value)} {ws : va_W} {cn sn : Nat}

/-- a call that touches no cell and makes none -/
theorem A_pureS (ok : OkB l g own nm cc nL ret R A H0 K) {y : MethodName} {bytes : ByteArray} {maxL n ix fr lo : Nat} {rt : Option FieldType} {r : Value} {As rest : List Value} (mf : MF y bytes maxL rt n) (hlk9 : Cond.methodLink own ix y ∈ GT) (hsc : y.cls = own) (hin : Cond.static y ∈ GT) (hct : Ct l g y bytes maxL rt fr lo 0 0 As [] (fun v w => v = some r ∧ w = []) noX) (hn9 : As.length = n) {st0 : List Value} (hstk : st0 = As.reverse ++ rest) (d : decode cc pc = .ok (.invokestatic ix, 3)) (hst : (rest.map fun v => v.category).sum ≤ 8) (hfr : fr + 1 ≤ R.frames ∧ 8 + (maxL + 11) + lo ≤ R.locals) (hmk : cn ≤ R.cells ∧ sn ≤ R.slots)
    (k : AW g A H0 nL K (pc + 3) lv (r :: rest) ws cn sn) : AW g A H0 nL K pc lv st0 ws cn sn := by
  refine A_callSB ok [] (List.range ws.length) (wr := ws) mf hlk9 hsc hin hct hn9 rfl hstk d rfl (range_pick ws) (nd_range _) (fun _ _ h => by cases h) hst hfr hmk (fun _ _ hx => hx.elim) (fun v w hq => ?_)
  obtain ⟨rfl, rfl⟩ := hq
  rw [List.append_nil]
  exact k

/-- a call on the whole world -/
theorem A_sameSB (ok : OkB l g own nm cc nL ret R A H0 K) {y : MethodName} {bytes : ByteArray} {maxL n ix fr lo mc ms : Nat} {rt : Option FieldType} {Q : QT} {X : XT} {As rest : List Value} (mf : MF y bytes maxL rt n) (hlk9 : Cond.methodLink own ix y ∈ GT) (hsc : y.cls = own) (hin : Cond.static y ∈ GT)  (hct : Ct l g y bytes maxL rt fr lo mc ms As ws Q X) (hn9 : As.length = n) {st0 : List Value} (hstk : st0 = As.reverse ++ rest) (d : decode cc pc = .ok (.invokestatic ix, 3)) (hst : (rest.map fun v => v.category).sum ≤ 8) (hfr : fr + 1 ≤ R.frames ∧ 8 + (maxL + 11) + lo ≤ R.locals) (hmk : cn + mc ≤ R.cells ∧ sn + ms ≤ R.slots) (hX : ∀ (E : String) (w : va_W), ¬ X E w)
    (kk : ∀ (v : Option Value) (w : va_W), Q v w → AW g A H0 nL K (pc + 3) lv (v.toList ++ rest) w (cn + mc) (sn + ms)) : AW g A H0 nL K pc lv st0 ws cn sn :=
  A_callSB ok (List.range ws.length) [] (wr := []) mf hlk9 hsc hin  hct hn9 (nd_range _) hstk d (range_pick ws) rfl rfl (fun _ h => by cases h) hst hfr hmk hX (fun v w hq => kk v w hq)

/-- a call on the whole world -/
theorem A_sameSR (ok : OkR l g own nm cc nL ret R ws0 Q0 X0 A H0 K) {y : MethodName} {bytes : ByteArray} {maxL n ix fr lo mc ms : Nat} {rt : Option FieldType} {Q : QT} {X : XT} {As rest : List Value} (mf : MF y bytes maxL rt n) (hlk9 : Cond.methodLink own ix y ∈ GT) (hsc : y.cls = own) (hin : Cond.static y ∈ GT)  (hct : Ct l g y bytes maxL rt fr lo mc ms As ws Q X) (hn9 : As.length = n) {st0 : List Value} (hstk : st0 = As.reverse ++ rest) (d : decode cc pc = .ok (.invokestatic ix, 3)) (hst : (rest.map fun v => v.category).sum ≤ 8) (hfr : fr + 1 ≤ R.frames ∧ 8 + (maxL + 11) + lo ≤ R.locals) (hmk : cn + mc ≤ R.cells ∧ sn + ms ≤ R.slots) (hX : ∀ (E : String) (w : va_W), X E w → X0 E w)
    (kk : ∀ (v : Option Value) (w : va_W), Q v w → AW g A H0 nL K (pc + 3) lv (v.toList ++ rest) w (cn + mc) (sn + ms)) : AW g A H0 nL K pc lv st0 ws cn sn :=
  A_callSR ok (List.range ws.length) [] (wr := []) mf hlk9 hsc hin  hct hn9 (nd_range _) hstk d (range_pick ws) rfl rfl (fun _ h => by cases h) hst hfr hmk hX (fun v w hq => kk v w hq)

/-- a call that touches no cell and makes none -/
theorem A_pureSN (ok : OkB l g own nm cc nL ret R A H0 K) {y : MethodName} {bytes : ByteArray} {maxL n ix fr lo : Nat} {rt : Option FieldType} {r : Value} {host : String} {As rest : List Value} (mf : MF y bytes maxL rt n) (hlk9 : (own, ix, y, host) ∈ nTab) (hin : Cond.static y ∈ GT) (hct : Ct l g y bytes maxL rt fr lo 0 0 As [] (fun v w => v = some r ∧ w = []) noX) (hn9 : As.length = n) {st0 : List Value} (hstk : st0 = As.reverse ++ rest) (d : decode cc pc = .ok (.invokestatic ix, 3)) (hst : (rest.map fun v => v.category).sum ≤ 8) (hfr : fr + 1 ≤ R.frames ∧ 8 + (maxL + 11) + lo ≤ R.locals) (hmk : cn ≤ R.cells ∧ sn ≤ R.slots)
    (k : AW g A H0 nL K (pc + 3) lv (r :: rest) ws cn sn) : AW g A H0 nL K pc lv st0 ws cn sn := by
  refine A_callSNB ok [] (List.range ws.length) (wr := ws) mf hlk9 hin hct hn9 rfl hstk d rfl (range_pick ws) (nd_range _) (fun _ _ h => by cases h) hst hfr hmk (fun _ _ hx => hx.elim) (fun v w hq => ?_)
  obtain ⟨rfl, rfl⟩ := hq
  rw [List.append_nil]
  exact k

/-- a call on the whole world -/
theorem A_sameSNB (ok : OkB l g own nm cc nL ret R A H0 K) {y : MethodName} {bytes : ByteArray} {maxL n ix fr lo mc ms : Nat} {rt : Option FieldType} {Q : QT} {X : XT} {host : String} {As rest : List Value} (mf : MF y bytes maxL rt n) (hlk9 : (own, ix, y, host) ∈ nTab) (hin : Cond.static y ∈ GT)  (hct : Ct l g y bytes maxL rt fr lo mc ms As ws Q X) (hn9 : As.length = n) {st0 : List Value} (hstk : st0 = As.reverse ++ rest) (d : decode cc pc = .ok (.invokestatic ix, 3)) (hst : (rest.map fun v => v.category).sum ≤ 8) (hfr : fr + 1 ≤ R.frames ∧ 8 + (maxL + 11) + lo ≤ R.locals) (hmk : cn + mc ≤ R.cells ∧ sn + ms ≤ R.slots) (hX : ∀ (E : String) (w : va_W), ¬ X E w)
    (kk : ∀ (v : Option Value) (w : va_W), Q v w → AW g A H0 nL K (pc + 3) lv (v.toList ++ rest) w (cn + mc) (sn + ms)) : AW g A H0 nL K pc lv st0 ws cn sn :=
  A_callSNB ok (List.range ws.length) [] (wr := []) mf hlk9 hin  hct hn9 (nd_range _) hstk d (range_pick ws) rfl rfl (fun _ h => by cases h) hst hfr hmk hX (fun v w hq => kk v w hq)

/-- a call on the whole world -/
theorem A_sameSNR (ok : OkR l g own nm cc nL ret R ws0 Q0 X0 A H0 K) {y : MethodName} {bytes : ByteArray} {maxL n ix fr lo mc ms : Nat} {rt : Option FieldType} {Q : QT} {X : XT} {host : String} {As rest : List Value} (mf : MF y bytes maxL rt n) (hlk9 : (own, ix, y, host) ∈ nTab) (hin : Cond.static y ∈ GT)  (hct : Ct l g y bytes maxL rt fr lo mc ms As ws Q X) (hn9 : As.length = n) {st0 : List Value} (hstk : st0 = As.reverse ++ rest) (d : decode cc pc = .ok (.invokestatic ix, 3)) (hst : (rest.map fun v => v.category).sum ≤ 8) (hfr : fr + 1 ≤ R.frames ∧ 8 + (maxL + 11) + lo ≤ R.locals) (hmk : cn + mc ≤ R.cells ∧ sn + ms ≤ R.slots) (hX : ∀ (E : String) (w : va_W), X E w → X0 E w)
    (kk : ∀ (v : Option Value) (w : va_W), Q v w → AW g A H0 nL K (pc + 3) lv (v.toList ++ rest) w (cn + mc) (sn + ms)) : AW g A H0 nL K pc lv st0 ws cn sn :=
  A_callSNR ok (List.range ws.length) [] (wr := []) mf hlk9 hin  hct hn9 (nd_range _) hstk d (range_pick ws) rfl rfl (fun _ h => by cases h) hst hfr hmk hX (fun v w hq => kk v w hq)

/-- a call on the whole world -/
theorem A_sameVB (ok : OkB l g own nm cc nL ret R A H0 K) {y : MethodName} {bytes : ByteArray} {maxL n ix fr lo mc ms : Nat} {rt : Option FieldType} {Q : QT} {X : XT} {b : Nat} {As rest : List Value} (mf : MF y bytes maxL rt n) (hlk9 : Cond.methodLink own ix y ∈ GT) (hin : Cond.instanceMethod y ∈ GT) (hse : Cond.selects y.cls y y ∈ GT) {ci N9 q9 : Nat} {T9 : u_T} {ty9 : Nat → FieldType} {fs : List Value} (cf : CF ci y.cls T9 N9 ty9) (gq : Gp q9 ws (b, .inr (ci, fs))) (hct : Ct l g y bytes maxL rt fr lo mc ms (.ref b :: As) ws Q X) (hn9 : As.length = n) {st0 : List Value} (hstk : st0 = As.reverse ++ .ref b :: rest) (d : decode cc pc = .ok (.invokevirtual ix, 3)) (hst : (rest.map fun v => v.category).sum ≤ 8) (hfr : fr + 1 ≤ R.frames ∧ 8 + (maxL + 11) + lo ≤ R.locals) (hmk : cn + mc ≤ R.cells ∧ sn + ms ≤ R.slots) (hX : ∀ (E : String) (w : va_W), ¬ X E w)
    (kk : ∀ (v : Option Value) (w : va_W), Q v w → AW g A H0 nL K (pc + 3) lv (v.toList ++ rest) w (cn + mc) (sn + ms)) : AW g A H0 nL K pc lv st0 ws cn sn :=
  A_callVB ok (List.range ws.length) [] (wr := []) mf hlk9 hin hse cf gq hct hn9 (nd_range _) hstk d (range_pick ws) rfl rfl (fun _ h => by cases h) hst hfr hmk hX (fun v w hq => kk v w hq)

/-- a call on the whole world -/
theorem A_sameVR (ok : OkR l g own nm cc nL ret R ws0 Q0 X0 A H0 K) {y : MethodName} {bytes : ByteArray} {maxL n ix fr lo mc ms : Nat} {rt : Option FieldType} {Q : QT} {X : XT} {b : Nat} {As rest : List Value} (mf : MF y bytes maxL rt n) (hlk9 : Cond.methodLink own ix y ∈ GT) (hin : Cond.instanceMethod y ∈ GT) (hse : Cond.selects y.cls y y ∈ GT) {ci N9 q9 : Nat} {T9 : u_T} {ty9 : Nat → FieldType} {fs : List Value} (cf : CF ci y.cls T9 N9 ty9) (gq : Gp q9 ws (b, .inr (ci, fs))) (hct : Ct l g y bytes maxL rt fr lo mc ms (.ref b :: As) ws Q X) (hn9 : As.length = n) {st0 : List Value} (hstk : st0 = As.reverse ++ .ref b :: rest) (d : decode cc pc = .ok (.invokevirtual ix, 3)) (hst : (rest.map fun v => v.category).sum ≤ 8) (hfr : fr + 1 ≤ R.frames ∧ 8 + (maxL + 11) + lo ≤ R.locals) (hmk : cn + mc ≤ R.cells ∧ sn + ms ≤ R.slots) (hX : ∀ (E : String) (w : va_W), X E w → X0 E w)
    (kk : ∀ (v : Option Value) (w : va_W), Q v w → AW g A H0 nL K (pc + 3) lv (v.toList ++ rest) w (cn + mc) (sn + ms)) : AW g A H0 nL K pc lv st0 ws cn sn :=
  A_callVR ok (List.range ws.length) [] (wr := []) mf hlk9 hin hse cf gq hct hn9 (nd_range _) hstk d (range_pick ws) rfl rfl (fun _ h => by cases h) hst hfr hmk hX (fun v w hq => kk v w hq)

/-- a call on the whole world -/
theorem A_sameVNB (ok : OkB l g own nm cc nL ret R A H0 K) {y : MethodName} {bytes : ByteArray} {maxL n ix fr lo mc ms : Nat} {rt : Option FieldType} {Q : QT} {X : XT} {b : Nat} {host : String} {As rest : List Value} (mf : MF y bytes maxL rt n) (hlk9 : (own, ix, y, host) ∈ nTab) (hin : Cond.instanceMethod y ∈ GT) (hse : Cond.selects y.cls y y ∈ GT) {ci N9 q9 : Nat} {T9 : u_T} {ty9 : Nat → FieldType} {fs : List Value} (cf : CF ci y.cls T9 N9 ty9) (gq : Gp q9 ws (b, .inr (ci, fs))) (hct : Ct l g y bytes maxL rt fr lo mc ms (.ref b :: As) ws Q X) (hn9 : As.length = n) {st0 : List Value} (hstk : st0 = As.reverse ++ .ref b :: rest) (d : decode cc pc = .ok (.invokevirtual ix, 3)) (hst : (rest.map fun v => v.category).sum ≤ 8) (hfr : fr + 1 ≤ R.frames ∧ 8 + (maxL + 11) + lo ≤ R.locals) (hmk : cn + mc ≤ R.cells ∧ sn + ms ≤ R.slots) (hX : ∀ (E : String) (w : va_W), ¬ X E w)
    (kk : ∀ (v : Option Value) (w : va_W), Q v w → AW g A H0 nL K (pc + 3) lv (v.toList ++ rest) w (cn + mc) (sn + ms)) : AW g A H0 nL K pc lv st0 ws cn sn :=
  A_callVNB ok (List.range ws.length) [] (wr := []) mf hlk9 hin hse cf gq hct hn9 (nd_range _) hstk d (range_pick ws) rfl rfl (fun _ h => by cases h) hst hfr hmk hX (fun v w hq => kk v w hq)

/-- a call on the whole world -/
theorem A_sameVNR (ok : OkR l g own nm cc nL ret R ws0 Q0 X0 A H0 K) {y : MethodName} {bytes : ByteArray} {maxL n ix fr lo mc ms : Nat} {rt : Option FieldType} {Q : QT} {X : XT} {b : Nat} {host : String} {As rest : List Value} (mf : MF y bytes maxL rt n) (hlk9 : (own, ix, y, host) ∈ nTab) (hin : Cond.instanceMethod y ∈ GT) (hse : Cond.selects y.cls y y ∈ GT) {ci N9 q9 : Nat} {T9 : u_T} {ty9 : Nat → FieldType} {fs : List Value} (cf : CF ci y.cls T9 N9 ty9) (gq : Gp q9 ws (b, .inr (ci, fs))) (hct : Ct l g y bytes maxL rt fr lo mc ms (.ref b :: As) ws Q X) (hn9 : As.length = n) {st0 : List Value} (hstk : st0 = As.reverse ++ .ref b :: rest) (d : decode cc pc = .ok (.invokevirtual ix, 3)) (hst : (rest.map fun v => v.category).sum ≤ 8) (hfr : fr + 1 ≤ R.frames ∧ 8 + (maxL + 11) + lo ≤ R.locals) (hmk : cn + mc ≤ R.cells ∧ sn + ms ≤ R.slots) (hX : ∀ (E : String) (w : va_W), X E w → X0 E w)
    (kk : ∀ (v : Option Value) (w : va_W), Q v w → AW g A H0 nL K (pc + 3) lv (v.toList ++ rest) w (cn + mc) (sn + ms)) : AW g A H0 nL K pc lv st0 ws cn sn :=
  A_callVNR ok (List.range ws.length) [] (wr := []) mf hlk9 hin hse cf gq hct hn9 (nd_range _) hstk d (range_pick ws) rfl rfl (fun _ h => by cases h) hst hfr hmk hX (fun v w hq => kk v w hq)

end AWC5
