/-- alike cells: what stands beyond an array's end is nobody's -/
def Ceq (e1 e2 : va_E) : Prop := e1 = e2 ∨ ∃ (c : ClassId) (x y : vp_A), e1 = .inl (c, x) ∧ e2 = .inl (c, y) ∧ vp_cell c x = vp_cell c y
theorem arrV_ext {c : ClassId} {n : Nat} {f f' : Nat → Value} (h : ∀ j, j < n → f j = f' j) : arrV c n f = arrV c n f' := by
  unfold arrV
  congr 1
  congr 1
  funext j
  exact h j.val j.isLt
theorem ceq_r {e : va_E} : Ceq e e := Or.inl rfl
theorem ceq_i {c : ClassId} {n : Nat} {f f' : Nat → Int32} (h : ∀ j, j < n → f j = f' j) : Ceq (.inl (c, n, .inl f)) (.inl (c, n, .inl f')) :=
  Or.inr ⟨c, _, _, rfl, rfl, (show arrV c n (fun j => .int (f j)) = arrV c n (fun j => .int (f' j)) from arrV_ext (fun j hj => by rw [h j hj]))⟩
theorem ceq_l {c : ClassId} {n : Nat} {f f' : Nat → Int64} (h : ∀ j, j < n → f j = f' j) : Ceq (.inl (c, n, .inr (.inl f))) (.inl (c, n, .inr (.inl f'))) :=
  Or.inr ⟨c, _, _, rfl, rfl, (show arrV c n (fun j => .long (f j)) = arrV c n (fun j => .long (f' j)) from arrV_ext (fun j hj => by rw [h j hj]))⟩
theorem ceq_q {c : ClassId} {n : Nat} {f f' : Nat → Option Nat} (h : ∀ j, j < n → f j = f' j) : Ceq (.inl (c, n, .inr (.inr (.inr (.inr f))))) (.inl (c, n, .inr (.inr (.inr (.inr f'))))) :=
  Or.inr ⟨c, _, _, rfl, rfl, (show arrV c n (fun j => va_rf (f j)) = arrV c n (fun j => va_rf (f' j)) from arrV_ext (fun j hj => by rw [h j hj]))⟩
def Weq : va_W → va_W → Prop
  | [], [] => True
  | x :: t, y :: s => (x.1 = y.1 ∧ Ceq x.2 y.2) ∧ Weq t s
  | _, _ => False
theorem weq0 : Weq [] [] := trivial
theorem weqs {x : Nat × va_E} {t s : va_W} (h : Weq t s) : Weq (x :: t) (x :: s) := ⟨⟨rfl, ceq_r⟩, h⟩
theorem weqc {a : Nat} {e1 e2 : va_E} {t s : va_W} (hc : Ceq e1 e2) (h : Weq t s) : Weq ((a, e1) :: t) ((a, e2) :: s) := ⟨⟨rfl, hc⟩, h⟩
theorem weq_r : ∀ (l : va_W), Weq l l
  | [] => trivial
  | _ :: t => ⟨⟨rfl, ceq_r⟩, weq_r t⟩
theorem weq_app : ∀ {l1 l2 s1 s2 : va_W}, Weq l1 l2 → Weq s1 s2 → Weq (l1 ++ s1) (l2 ++ s2)
  | [], [], _, _, _, h => h
  | _ :: _, _ :: _, _, _, h1, h => ⟨h1.1, weq_app h1.2 h⟩
  | [], _ :: _, _, _, h1, _ => h1.elim
  | _ :: _, [], _, _, h1, _ => h1.elim
theorem weq_get : ∀ {w1 w2 : va_W}, Weq w1 w2 → ∀ (k : Nat) (q : Nat × va_E), w2[k]? = some q → ∃ q0, w1[k]? = some q0 ∧ q0.1 = q.1 ∧ Ceq q0.2 q.2
  | [], [], _, k, q, h => by simp at h
  | x :: t, y :: s, hw, k, q, h => by
    cases k with
    | zero =>
      simp at h
      subst h
      exact ⟨x, by simp, hw.1⟩
    | succ k =>
      obtain ⟨q0, h1, h2⟩ := weq_get hw.2 k q (by simpa using h)
      exact ⟨q0, by simpa using h1, h2⟩
  | [], _ :: _, h, _, _, _ => h.elim
  | _ :: _, [], h, _, _, _ => h.elim
theorem weq_at {D : va_G} {cl : List vw_C} {H : Heap} {a : Nat} {e1 e2 : va_E} (hc : Ceq e1 e2) (h : va_at D cl (a, e1) H) : va_at D cl (a, e2) H := by
  rcases hc with rfl | ⟨c, x, y, rfl, rfl, h3⟩
  · exact h
  · have h' : H[a]? = some (vp_cell c x) := h
    show H[a]? = some (vp_cell c y)
    rw [← h3]; exact h'
theorem weq_P {D : va_G} {cl : List vw_C} {H : Heap} {w1 w2 : va_W} (hw : Weq w1 w2) (h : va_P D cl w1 H) : va_P D cl w2 H := by
  intro k q hq
  obtain ⟨⟨a0, e0⟩, h1, h2, h3⟩ := weq_get hw k q hq
  obtain ⟨a, e⟩ := q
  have h2' : a0 = a := h2
  subst h2'
  exact weq_at h3 (h k _ h1)
theorem weq_D {A : Nat → Prop} {w1 w2 : va_W} (hw : Weq w1 w2) (h : va_D A w1) : va_D A w2 := by
  refine ⟨fun i j x y hi hj hxy => ?_, fun k q hq => ?_⟩
  · obtain ⟨x0, h1, h2, -⟩ := weq_get hw i x hi
    obtain ⟨y0, h3, h4, -⟩ := weq_get hw j y hj
    exact h.1 i j x0 y0 h1 h3 (h2.trans (hxy.trans h4.symm))
  · obtain ⟨q0, h1, h2, -⟩ := weq_get hw k q hq
    rw [← h2]; exact h.2 k q0 h1
theorem perm_P {D : va_G} {cl : List vw_C} {H : Heap} {w1 w2 : va_W} (hw : w1.Perm w2) (h : va_P D cl w1 H) : va_P D cl w2 H := by
  intro k q hq
  obtain ⟨i, hi⟩ := List.getElem?_of_mem (hw.mem_iff.mpr (List.mem_of_getElem? hq))
  exact h i q hi
theorem D_iff {A : Nat → Prop} {w1 : va_W} : va_D A w1 ↔ (w1.map (·.1)).Nodup ∧ ∀ q ∈ w1, A q.1 := by
  constructor
  · intro h
    refine ⟨?_, fun q hq => ?_⟩
    · rw [List.nodup_iff_pairwise_ne, List.pairwise_iff_getElem]
      intro i j hi hj hij he
      simp only [List.length_map] at hi hj
      simp only [List.getElem_map] at he
      have := h.1 i j _ _ (List.getElem?_eq_getElem hi) (List.getElem?_eq_getElem hj) he
      omega
    · obtain ⟨i, hi⟩ := List.getElem?_of_mem hq
      exact h.2 i q hi
  · intro ⟨h1, h2⟩
    rw [List.nodup_iff_pairwise_ne, List.pairwise_iff_getElem] at h1
    refine ⟨fun i j x y hi hj hxy => ?_, fun k q hq => h2 q (List.mem_of_getElem? hq)⟩
    obtain ⟨hi1, hi2⟩ := List.getElem?_eq_some_iff.mp hi
    obtain ⟨hj1, hj2⟩ := List.getElem?_eq_some_iff.mp hj
    rcases Nat.lt_trichotomy i j with h | h | h
    · exact (h1 i j (by simpa using hi1) (by simpa using hj1) h (by simp [hi2, hj2, hxy])).elim
    · exact h
    · exact (h1 j i (by simpa using hj1) (by simpa using hi1) h (by simp [hi2, hj2, hxy])).elim
theorem perm_D {A : Nat → Prop} {w1 w2 : va_W} (hw : w1.Perm w2) (h : va_D A w1) : va_D A w2 := by
  rw [D_iff] at h ⊢
  exact ⟨(hw.map (·.1)).nodup_iff.mp h.1, fun q hq => h.2 q (hw.mem_iff.mpr hq)⟩
theorem perm_flat {α : Type} {l1 l2 : List (List α)} (h : l1.Perm l2) : l1.flatten.Perm l2.flatten := by
  induction h with
  | nil => exact List.Perm.refl _
  | cons x _ ih => simpa using ih.append_left x
  | swap x y l =>
    simp only [List.flatten_cons, ← List.append_assoc]
    exact (List.perm_append_comm).append_right _
  | trans _ _ ih1 ih2 => exact ih1.trans ih2
theorem perm_pick {α : Type} {l l2 : List α} (is : List Nat) (hp : is.isPerm (List.range l.length) = true) (hm : is.map (fun i => l[i]?) = l2.map some) : l.Perm l2 := by
  have h1 : (is.map (fun i => l[i]?)).Perm ((List.range l.length).map (fun i => l[i]?)) := (List.isPerm_iff.mp hp).map _
  rw [hm, range_pick] at h1
  have h2 := h1.filterMap id
  simpa [List.filterMap_map] using h2.symm
theorem sub_P {D : va_G} {cl : List vw_C} {H : Heap} {w1 w2 : va_W} (h : va_P D cl (w1 ++ w2) H) : va_P D cl w1 H := fun k q hq => h k q (by rw [List.getElem?_append_left (List.getElem?_eq_some_iff.mp hq).1]; exact hq)
theorem sub_D {A : Nat → Prop} {w1 w2 : va_W} (h : va_D A (w1 ++ w2)) : va_D A w1 := by
  rw [D_iff] at h ⊢
  rw [List.map_append, List.nodup_append] at h
  exact ⟨h.1.1, fun q hq => h.2 q (List.mem_append_left _ hq)⟩

section AWR
variable {l : Launch} {g : Gl} {own nm : String} {cc : ByteArray} {nL : Nat} {ret : Option FieldType} {R : Room} {A : Nat → Prop} {H0 : Heap} {K : KT} {pc : Nat} {lv : List (Option Value)} {st : List Value} {ws : va_W} {cn sn : Nat}

theorem A_ext {ws2 : va_W} (hw : Weq ws ws2) (k : AW g A H0 nL K pc lv st ws2 cn sn) : AW g A H0 nL K pc lv st ws cn sn :=
  fun H locs ls hP hD hS hl => k H locs ls (weq_P hw hP) (weq_D hw hD) hS hl
theorem A_perm {ws2 : va_W} (hw : ws.Perm ws2) (k : AW g A H0 nL K pc lv st ws2 cn sn) : AW g A H0 nL K pc lv st ws cn sn :=
  fun H locs ls hP hD hS hl => k H locs ls (perm_P hw hP) (perm_D hw hD) hS hl
/-- blocks in another order -/
theorem A_blk {bs bs2 : List va_W} (is : List Nat) (hp : is.isPerm (List.range bs.length) = true) (hm : is.map (fun i => bs[i]?) = bs2.map some) (k : AW g A H0 nL K pc lv st bs2.flatten cn sn) : AW g A H0 nL K pc lv st bs.flatten cn sn :=
  A_perm (perm_flat (perm_pick is hp hm)) k
/-- what stands behind is forgotten -/
theorem A_drop {w2 : va_W} (k : AW g A H0 nL K pc lv st ws cn sn) : AW g A H0 nL K pc lv st (ws ++ w2) cn sn :=
  fun H locs ls hP hD hS hl => k H locs ls (sub_P hP) (sub_D hD) hS hl
end AWR

section AWC6
variable {l : Launch} {g : Gl} {own nm : String} {cc : ByteArray} {nL : Nat} {ret : Option FieldType} {R : Room} {ws0 : va_W} {Q0 : QT} {X0 : XT} {A : Nat → Prop} {H0 : Heap} {K : KT} {pc : Nat} {lv : List (Option Value)} {ws : va_W} {cn sn : Nat}
theorem pre_C (wc wr : va_W) : (List.range wc.length).map (fun i => (wc ++ wr)[i]?) = wc.map some := by
  rw [← range_pick wc]
  apply List.map_congr_left
  intro i hi
  rw [List.getElem?_append_left (List.mem_range.mp hi)]
theorem pre_R (wc wr : va_W) : ((List.range wr.length).map (· + wc.length)).map (fun i => (wc ++ wr)[i]?) = wr.map some := by
  rw [← range_pick wr, List.map_map]
  apply List.map_congr_left
  intro i hi
  show (wc ++ wr)[i + wc.length]? = wr[i]?
  rw [List.getElem?_append_right (by omega)]
  congr 1
  omega
theorem pre_nd (n m : Nat) : va_nd ((List.range n).map (· + m)) = true := by
  refine nd_of _ ?_
  rw [List.nodup_iff_pairwise_ne, List.pairwise_map]
  exact (List.nodup_iff_pairwise_ne.mp List.nodup_range).imp (fun h => by omega)
theorem pre_dis (n m : Nat) : ∀ i ∈ (List.range n).map (· + m), i ∉ List.range m := by
  intro i hi h
  obtain ⟨j, -, rfl⟩ := List.mem_map.mp hi
  have := List.mem_range.mp h
  omega

/-- a call on the world's first part -/
theorem A_preSB (ok : OkB l g own nm cc nL ret R A H0 K) {y : MethodName} {bytes : ByteArray} {maxL n ix fr lo mc ms : Nat} {rt : Option FieldType} {Q : QT} {X : XT} {As rest : List Value} (wc wr : va_W) (mf : MF y bytes maxL rt n) (hlk9 : Cond.methodLink own ix y ∈ GT) (hsc : y.cls = own) (hin : Cond.static y ∈ GT)  (hct : Ct l g y bytes maxL rt fr lo mc ms As wc Q X) (hn9 : As.length = n) {st0 : List Value} (hstk : st0 = As.reverse ++ rest) (d : decode cc pc = .ok (.invokestatic ix, 3)) (hst : (rest.map fun v => v.category).sum ≤ 8) (hfr : fr + 1 ≤ R.frames ∧ 8 + (maxL + 11) + lo ≤ R.locals) (hmk : cn + mc ≤ R.cells ∧ sn + ms ≤ R.slots) (hX : ∀ (E : String) (w : va_W), ¬ X E w)
    (kk : ∀ (v : Option Value) (w : va_W), Q v w → AW g A H0 nL K (pc + 3) lv (v.toList ++ rest) (wr ++ w) (cn + mc) (sn + ms)) : AW g A H0 nL K pc lv st0 (wc ++ wr) cn sn :=
  A_callSB ok (List.range wc.length) ((List.range wr.length).map (· + wc.length)) (wr := wr) mf hlk9 hsc hin  hct hn9 (nd_range _) hstk d (pre_C wc wr) (pre_R wc wr) (pre_nd _ _) (pre_dis _ _) hst hfr hmk hX kk

/-- a call on the world's first part -/
theorem A_preSR (ok : OkR l g own nm cc nL ret R ws0 Q0 X0 A H0 K) {y : MethodName} {bytes : ByteArray} {maxL n ix fr lo mc ms : Nat} {rt : Option FieldType} {Q : QT} {X : XT} {As rest : List Value} (wc wr : va_W) (mf : MF y bytes maxL rt n) (hlk9 : Cond.methodLink own ix y ∈ GT) (hsc : y.cls = own) (hin : Cond.static y ∈ GT)  (hct : Ct l g y bytes maxL rt fr lo mc ms As wc Q X) (hn9 : As.length = n) {st0 : List Value} (hstk : st0 = As.reverse ++ rest) (d : decode cc pc = .ok (.invokestatic ix, 3)) (hst : (rest.map fun v => v.category).sum ≤ 8) (hfr : fr + 1 ≤ R.frames ∧ 8 + (maxL + 11) + lo ≤ R.locals) (hmk : cn + mc ≤ R.cells ∧ sn + ms ≤ R.slots) (hX : ∀ (E : String) (w : va_W), X E w → X0 E (wr ++ w))
    (kk : ∀ (v : Option Value) (w : va_W), Q v w → AW g A H0 nL K (pc + 3) lv (v.toList ++ rest) (wr ++ w) (cn + mc) (sn + ms)) : AW g A H0 nL K pc lv st0 (wc ++ wr) cn sn :=
  A_callSR ok (List.range wc.length) ((List.range wr.length).map (· + wc.length)) (wr := wr) mf hlk9 hsc hin  hct hn9 (nd_range _) hstk d (pre_C wc wr) (pre_R wc wr) (pre_nd _ _) (pre_dis _ _) hst hfr hmk hX kk

/-- a call on the world's first part -/
theorem A_preVB (ok : OkB l g own nm cc nL ret R A H0 K) {y : MethodName} {bytes : ByteArray} {maxL n ix fr lo mc ms : Nat} {rt : Option FieldType} {Q : QT} {X : XT} {b : Nat} {As rest : List Value} (wc wr : va_W) (mf : MF y bytes maxL rt n) (hlk9 : Cond.methodLink own ix y ∈ GT) (hin : Cond.instanceMethod y ∈ GT) (hse : Cond.selects y.cls y y ∈ GT) {ci N9 q9 : Nat} {T9 : u_T} {ty9 : Nat → FieldType} {fs : List Value} (cf : CF ci y.cls T9 N9 ty9) (gq : Gp q9 (wc ++ wr) (b, .inr (ci, fs))) (hct : Ct l g y bytes maxL rt fr lo mc ms (.ref b :: As) wc Q X) (hn9 : As.length = n) {st0 : List Value} (hstk : st0 = As.reverse ++ .ref b :: rest) (d : decode cc pc = .ok (.invokevirtual ix, 3)) (hst : (rest.map fun v => v.category).sum ≤ 8) (hfr : fr + 1 ≤ R.frames ∧ 8 + (maxL + 11) + lo ≤ R.locals) (hmk : cn + mc ≤ R.cells ∧ sn + ms ≤ R.slots) (hX : ∀ (E : String) (w : va_W), ¬ X E w)
    (kk : ∀ (v : Option Value) (w : va_W), Q v w → AW g A H0 nL K (pc + 3) lv (v.toList ++ rest) (wr ++ w) (cn + mc) (sn + ms)) : AW g A H0 nL K pc lv st0 (wc ++ wr) cn sn :=
  A_callVB ok (List.range wc.length) ((List.range wr.length).map (· + wc.length)) (wr := wr) mf hlk9 hin hse cf gq hct hn9 (nd_range _) hstk d (pre_C wc wr) (pre_R wc wr) (pre_nd _ _) (pre_dis _ _) hst hfr hmk hX kk

/-- a call on the world's first part -/
theorem A_preVR (ok : OkR l g own nm cc nL ret R ws0 Q0 X0 A H0 K) {y : MethodName} {bytes : ByteArray} {maxL n ix fr lo mc ms : Nat} {rt : Option FieldType} {Q : QT} {X : XT} {b : Nat} {As rest : List Value} (wc wr : va_W) (mf : MF y bytes maxL rt n) (hlk9 : Cond.methodLink own ix y ∈ GT) (hin : Cond.instanceMethod y ∈ GT) (hse : Cond.selects y.cls y y ∈ GT) {ci N9 q9 : Nat} {T9 : u_T} {ty9 : Nat → FieldType} {fs : List Value} (cf : CF ci y.cls T9 N9 ty9) (gq : Gp q9 (wc ++ wr) (b, .inr (ci, fs))) (hct : Ct l g y bytes maxL rt fr lo mc ms (.ref b :: As) wc Q X) (hn9 : As.length = n) {st0 : List Value} (hstk : st0 = As.reverse ++ .ref b :: rest) (d : decode cc pc = .ok (.invokevirtual ix, 3)) (hst : (rest.map fun v => v.category).sum ≤ 8) (hfr : fr + 1 ≤ R.frames ∧ 8 + (maxL + 11) + lo ≤ R.locals) (hmk : cn + mc ≤ R.cells ∧ sn + ms ≤ R.slots) (hX : ∀ (E : String) (w : va_W), X E w → X0 E (wr ++ w))
    (kk : ∀ (v : Option Value) (w : va_W), Q v w → AW g A H0 nL K (pc + 3) lv (v.toList ++ rest) (wr ++ w) (cn + mc) (sn + ms)) : AW g A H0 nL K pc lv st0 (wc ++ wr) cn sn :=
  A_callVR ok (List.range wc.length) ((List.range wr.length).map (· + wc.length)) (wr := wr) mf hlk9 hin hse cf gq hct hn9 (nd_range _) hstk d (pre_C wc wr) (pre_R wc wr) (pre_nd _ _) (pre_dis _ _) hst hfr hmk hX kk

/-- a call on the world's first part -/
theorem A_preIB (ok : OkB l g own nm cc nL ret R A H0 K) {y : MethodName} {bytes : ByteArray} {maxL n ix fr lo mc ms : Nat} {Q : QT} {X : XT} {b : Nat} {As rest : List Value} (wc wr : va_W) (mf : MF y bytes maxL none n) (hlk9 : Cond.methodLink own ix y ∈ GT) (hin : Cond.instanceMethod y ∈ GT) (hy1 : y.name = "<init>")  (hct : Ct l g y bytes maxL none fr lo mc ms (.ref b :: As) wc Q X) (hn9 : As.length = n) {st0 : List Value} (hstk : st0 = As.reverse ++ .ref b :: rest) (d : decode cc pc = .ok (.invokespecial ix, 3)) (hst : (rest.map fun v => v.category).sum ≤ 8) (hfr : fr + 1 ≤ R.frames ∧ 8 + (maxL + 11) + lo ≤ R.locals) (hmk : cn + mc ≤ R.cells ∧ sn + ms ≤ R.slots) (hX : ∀ (E : String) (w : va_W), ¬ X E w)
    (kk : ∀ (v : Option Value) (w : va_W), Q v w → AW g A H0 nL K (pc + 3) lv (v.toList ++ rest) (wr ++ w) (cn + mc) (sn + ms)) : AW g A H0 nL K pc lv st0 (wc ++ wr) cn sn :=
  A_callIB ok (List.range wc.length) ((List.range wr.length).map (· + wc.length)) (wr := wr) mf hlk9 hin hy1  hct hn9 (nd_range _) hstk d (pre_C wc wr) (pre_R wc wr) (pre_nd _ _) (pre_dis _ _) hst hfr hmk hX kk

/-- a call on the world's first part -/
theorem A_preIR (ok : OkR l g own nm cc nL ret R ws0 Q0 X0 A H0 K) {y : MethodName} {bytes : ByteArray} {maxL n ix fr lo mc ms : Nat} {Q : QT} {X : XT} {b : Nat} {As rest : List Value} (wc wr : va_W) (mf : MF y bytes maxL none n) (hlk9 : Cond.methodLink own ix y ∈ GT) (hin : Cond.instanceMethod y ∈ GT) (hy1 : y.name = "<init>")  (hct : Ct l g y bytes maxL none fr lo mc ms (.ref b :: As) wc Q X) (hn9 : As.length = n) {st0 : List Value} (hstk : st0 = As.reverse ++ .ref b :: rest) (d : decode cc pc = .ok (.invokespecial ix, 3)) (hst : (rest.map fun v => v.category).sum ≤ 8) (hfr : fr + 1 ≤ R.frames ∧ 8 + (maxL + 11) + lo ≤ R.locals) (hmk : cn + mc ≤ R.cells ∧ sn + ms ≤ R.slots) (hX : ∀ (E : String) (w : va_W), X E w → X0 E (wr ++ w))
    (kk : ∀ (v : Option Value) (w : va_W), Q v w → AW g A H0 nL K (pc + 3) lv (v.toList ++ rest) (wr ++ w) (cn + mc) (sn + ms)) : AW g A H0 nL K pc lv st0 (wc ++ wr) cn sn :=
  A_callIR ok (List.range wc.length) ((List.range wr.length).map (· + wc.length)) (wr := wr) mf hlk9 hin hy1  hct hn9 (nd_range _) hstk d (pre_C wc wr) (pre_R wc wr) (pre_nd _ _) (pre_dis _ _) hst hfr hmk hX kk

/-- a call on the world's first part -/
theorem A_preINB (ok : OkB l g own nm cc nL ret R A H0 K) {y : MethodName} {bytes : ByteArray} {maxL n ix fr lo mc ms : Nat} {Q : QT} {X : XT} {b : Nat} {host : String} {As rest : List Value} (wc wr : va_W) (mf : MF y bytes maxL none n) (hlk9 : (own, ix, y, host) ∈ nTab) (hin : Cond.instanceMethod y ∈ GT) (hy1 : y.name = "<init>")  (hct : Ct l g y bytes maxL none fr lo mc ms (.ref b :: As) wc Q X) (hn9 : As.length = n) {st0 : List Value} (hstk : st0 = As.reverse ++ .ref b :: rest) (d : decode cc pc = .ok (.invokespecial ix, 3)) (hst : (rest.map fun v => v.category).sum ≤ 8) (hfr : fr + 1 ≤ R.frames ∧ 8 + (maxL + 11) + lo ≤ R.locals) (hmk : cn + mc ≤ R.cells ∧ sn + ms ≤ R.slots) (hX : ∀ (E : String) (w : va_W), ¬ X E w)
    (kk : ∀ (v : Option Value) (w : va_W), Q v w → AW g A H0 nL K (pc + 3) lv (v.toList ++ rest) (wr ++ w) (cn + mc) (sn + ms)) : AW g A H0 nL K pc lv st0 (wc ++ wr) cn sn :=
  A_callINB ok (List.range wc.length) ((List.range wr.length).map (· + wc.length)) (wr := wr) mf hlk9 hin hy1  hct hn9 (nd_range _) hstk d (pre_C wc wr) (pre_R wc wr) (pre_nd _ _) (pre_dis _ _) hst hfr hmk hX kk

/-- a call on the world's first part -/
theorem A_preINR (ok : OkR l g own nm cc nL ret R ws0 Q0 X0 A H0 K) {y : MethodName} {bytes : ByteArray} {maxL n ix fr lo mc ms : Nat} {Q : QT} {X : XT} {b : Nat} {host : String} {As rest : List Value} (wc wr : va_W) (mf : MF y bytes maxL none n) (hlk9 : (own, ix, y, host) ∈ nTab) (hin : Cond.instanceMethod y ∈ GT) (hy1 : y.name = "<init>")  (hct : Ct l g y bytes maxL none fr lo mc ms (.ref b :: As) wc Q X) (hn9 : As.length = n) {st0 : List Value} (hstk : st0 = As.reverse ++ .ref b :: rest) (d : decode cc pc = .ok (.invokespecial ix, 3)) (hst : (rest.map fun v => v.category).sum ≤ 8) (hfr : fr + 1 ≤ R.frames ∧ 8 + (maxL + 11) + lo ≤ R.locals) (hmk : cn + mc ≤ R.cells ∧ sn + ms ≤ R.slots) (hX : ∀ (E : String) (w : va_W), X E w → X0 E (wr ++ w))
    (kk : ∀ (v : Option Value) (w : va_W), Q v w → AW g A H0 nL K (pc + 3) lv (v.toList ++ rest) (wr ++ w) (cn + mc) (sn + ms)) : AW g A H0 nL K pc lv st0 (wc ++ wr) cn sn :=
  A_callINR ok (List.range wc.length) ((List.range wr.length).map (· + wc.length)) (wr := wr) mf hlk9 hin hy1  hct hn9 (nd_range _) hstk d (pre_C wc wr) (pre_R wc wr) (pre_nd _ _) (pre_dis _ _) hst hfr hmk hX kk

end AWC6
