/-- a class of the world: its place among vwCl, its table -/
def CF (ci : Nat) (C : String) (T : u_T) (N : Nat) (ty : Nat → FieldType) : Prop := vwCl[ci]? = some (C, T, N) ∧ (∀ w ∈ u_ws C T N, w ∈ GT) ∧ (∀ k, k < N → parseFieldDescriptor (T k).2.2.1 = some (ty k)) ∧ (∀ a, a < N → ∀ b, b < N → a ≠ b → (T a).2.1 ≠ (T b).2.1)
/-- an index i within n places is j -/
def Ix (i : Int32) (n j : Nat) : Prop := vp_in i n ∧ i.toNatClampNeg = j
theorem ix_n {j n : Nat} (h : j < n) (hn : n < 2 ^ 31) : Ix (nI j) n j := ⟨vp_in_nI h hn, nI_clamp (by omega)⟩
theorem gp_of {α : Type} {k : Nat} {l : List α} {x : α} (h : Gp k l x) : l[k]? = some x := h
theorem wp_of {α : Type} {k : Nat} {l l2 : List α} {x : α} (h : Wp k l x l2) : l.set k x = l2 := h
theorem gp_lt {α : Type} {k : Nat} {l : List α} {x : α} (h : Gp k l x) : k < l.length := (List.getElem?_eq_some_iff.mp h).1
theorem ty_of {ci : Nat} {C : String} {T : u_T} {N : Nat} {ty : Nat → FieldType} (cf : CF ci C T N ty) {k : Nat} (hk : k < N) : parseFieldDescriptor (T k).2.2.1 = some (ty k) := cf.2.2.1 k hk

section AWR
variable {l : Launch} {g : Gl} {own nm : String} {cc : ByteArray} {nL : Nat} {ret : Option FieldType} {R : Room} {A : Nat → Prop} {H0 : Heap} {K : KT} {pc : Nat} {lv : List (Option Value)} {st : List Value} {ws : va_W} {cn sn : Nat}

theorem A_getf (ok : OkB l g own nm cc nL ret R A H0 K) {ci N : Nat} {C : String} {T : u_T} {ty : Nat → FieldType} (cf : CF ci C T N ty) (k0 : Nat) (hk : k0 < N) {ix q a : Nat} {fs : List Value} {v : Value} (hl0 : Cond.fieldLink own ix (T k0).1 (T k0).2.1 (T k0).2.2.1 ∈ GT) (gq : Gp q ws (a, .inr (ci, fs))) (gv : Gp k0 fs v) (d : decode cc pc = .ok (.getfield ix, 3))
    (k : AW g A H0 nL K (pc + 3) lv (v :: st) ws cn sn) : AW g A H0 nL K pc lv (.ref a :: st) ws cn sn := by
  obtain ⟨p, e, s, m, args, below, meth, c, Q, rfl, rfl, hx, hb, hml, hown, hts, hr, hlk, hKn, hG, hA, hnm⟩ := ok
  intro H locs ls hP hD hS hl
  exact va_get hx hb hts cf.2.1 hown hKn hP q gq cf.1 k0 hk (hts _ hl0) (fun _ h => h) gv d (k H locs ls hP hD hS hl)
theorem A_putf (ok : OkB l g own nm cc nL ret R A H0 K) {ci N : Nat} {C : String} {T : u_T} {ty : Nat → FieldType} (cf : CF ci C T N ty) (k0 : Nat) (hk : k0 < N) (hfin : (T k0).2.2.2 = false) {ix q a : Nat} {fs fs2 : List Value} {v : Value} {ws2 : va_W} (hl0 : Cond.fieldLink own ix (T k0).1 (T k0).2.1 (T k0).2.2.1 ∈ GT) (gq : Gp q ws (a, .inr (ci, fs))) (hn : narrow (ty k0) v = v) (hfit : fits (ty k0) v = true) (hlen : k0 < fs.length) (wf : Wp k0 fs v fs2) (ww : Wp q ws (a, .inr (ci, fs2)) ws2) (d : decode cc pc = .ok (.putfield ix, 3))
    (k : AW g A H0 nL K (pc + 3) lv st ws2 cn sn) : AW g A H0 nL K pc lv (v :: .ref a :: st) ws cn sn := by
  obtain ⟨p, e, s, m, args, below, meth, c, Q, rfl, rfl, hx, hb, hml, hown, hts, hr, hlk, hKn, hG, hA, hnm⟩ := ok
  intro H locs ls hP hD hS hl
  refine va_put hx hb hts cf.2.1 ty cf.2.2.1 cf.2.2.2 hown hKn hP hD hS q gq cf.1 k0 hk (hts _ hl0) (fun _ h => h) hfin (ty_of cf hk) hn hfit hlen d (fun H1 locs1 hP1 hD1 hS1 => ?_)
  rw [wp_of wf, wp_of ww] at hP1 hD1
  exact k H1 locs1 ls hP1 hD1 hS1 hl
theorem A_putF (ok : OkB l g own "<init>" cc nL ret R A H0 K) {ci N : Nat} {C : String} {T : u_T} {ty : Nat → FieldType} (cf : CF ci C T N ty) (k0 : Nat) (hk : k0 < N) (hfin : (T k0).2.2.2 = true) (hdecl : (T k0).1 = own) {ix q a : Nat} {fs fs2 : List Value} {v : Value} {ws2 : va_W} (hl0 : Cond.fieldLink own ix (T k0).1 (T k0).2.1 (T k0).2.2.1 ∈ GT) (gq : Gp q ws (a, .inr (ci, fs))) (hn : narrow (ty k0) v = v) (hfit : fits (ty k0) v = true) (hlen : k0 < fs.length) (wf : Wp k0 fs v fs2) (ww : Wp q ws (a, .inr (ci, fs2)) ws2) (d : decode cc pc = .ok (.putfield ix, 3))
    (k : AW g A H0 nL K (pc + 3) lv st ws2 cn sn) : AW g A H0 nL K pc lv (v :: .ref a :: st) ws cn sn := by
  obtain ⟨p, e, s, m, args, below, meth, c, Q, rfl, rfl, hx, hb, hml, hown, hts, hr, hlk, hKn, hG, hA, hnm⟩ := ok
  intro H locs ls hP hD hS hl
  refine va_putF hx hb hts cf.2.1 ty cf.2.2.1 cf.2.2.2 hown hKn hP hD hS q gq cf.1 k0 hk (hts _ hl0) (fun _ h => h) hfin hnm hdecl (ty_of cf hk) hn hfit hlen d (fun H1 locs1 hP1 hD1 hS1 => ?_)
  rw [wp_of wf, wp_of ww] at hP1 hD1
  exact k H1 locs1 ls hP1 hD1 hS1 hl

theorem A_iald (ok : OkB l g own nm cc nL ret R A H0 K) {q a n j : Nat} {f : Nat → Int32} {i : Int32} (gq : Gp q ws (a, .inl (g.2.1 0, n, .inl f))) (hi : Ix i n j) (d : decode cc pc = .ok (.iaload, 1))
    (k : AW g A H0 nL K (pc + 1) lv (.int (f j) :: st) ws cn sn) : AW g A H0 nL K pc lv (.int i :: .ref a :: st) ws cn sn := by
  obtain ⟨p, e, s, m, args, below, meth, c, Q, rfl, rfl, hx, hb, hml, hown, hts, hr, hlk, hKn, hG, hA, hnm⟩ := ok
  intro H locs ls hP hD hS hl
  obtain ⟨hin, rfl⟩ := hi
  exact va_iald hx hb hKn hP q 0 gq rfl hin d (k H locs ls hP hD hS hl)

theorem A_bald (ok : OkB l g own nm cc nL ret R A H0 K) {q a n j : Nat} {f : Nat → Int32} {i : Int32} (gq : Gp q ws (a, .inl (g.2.1 2, n, .inl f))) (hi : Ix i n j) (d : decode cc pc = .ok (.baload, 1))
    (k : AW g A H0 nL K (pc + 1) lv (.int (f j) :: st) ws cn sn) : AW g A H0 nL K pc lv (.int i :: .ref a :: st) ws cn sn := by
  obtain ⟨p, e, s, m, args, below, meth, c, Q, rfl, rfl, hx, hb, hml, hown, hts, hr, hlk, hKn, hG, hA, hnm⟩ := ok
  intro H locs ls hP hD hS hl
  obtain ⟨hin, rfl⟩ := hi
  exact va_bald hx hb hKn hP q 2 gq rfl hin d (k H locs ls hP hD hS hl)

theorem A_zald (ok : OkB l g own nm cc nL ret R A H0 K) {q a n j : Nat} {f : Nat → Int32} {i : Int32} (gq : Gp q ws (a, .inl (g.2.1 3, n, .inl f))) (hi : Ix i n j) (d : decode cc pc = .ok (.baload, 1))
    (k : AW g A H0 nL K (pc + 1) lv (.int (f j) :: st) ws cn sn) : AW g A H0 nL K pc lv (.int i :: .ref a :: st) ws cn sn := by
  obtain ⟨p, e, s, m, args, below, meth, c, Q, rfl, rfl, hx, hb, hml, hown, hts, hr, hlk, hKn, hG, hA, hnm⟩ := ok
  intro H locs ls hP hD hS hl
  obtain ⟨hin, rfl⟩ := hi
  exact va_zald hx hb hKn hP q 3 gq rfl hin d (k H locs ls hP hD hS hl)

theorem A_lald (ok : OkB l g own nm cc nL ret R A H0 K) {q a n j : Nat} {f : Nat → Int64} {i : Int32} (gq : Gp q ws (a, .inl (g.2.1 1, n, .inr (.inl f)))) (hi : Ix i n j) (d : decode cc pc = .ok (.laload, 1))
    (k : AW g A H0 nL K (pc + 1) lv (.long (f j) :: st) ws cn sn) : AW g A H0 nL K pc lv (.int i :: .ref a :: st) ws cn sn := by
  obtain ⟨p, e, s, m, args, below, meth, c, Q, rfl, rfl, hx, hb, hml, hown, hts, hr, hlk, hKn, hG, hA, hnm⟩ := ok
  intro H locs ls hP hD hS hl
  obtain ⟨hin, rfl⟩ := hi
  exact va_lald hx hb hKn hP q 1 gq rfl hin d (k H locs ls hP hD hS hl)

theorem A_aldq (ok : OkB l g own nm cc nL ret R A H0 K) {q a n j : Nat} {f : Nat → Option Nat} {i : Int32} (gq : Gp q ws (a, .inl (g.2.1 4, n, .inr (.inr (.inr (.inr f)))))) (hi : Ix i n j) (d : decode cc pc = .ok (.aaload, 1))
    (k : AW g A H0 nL K (pc + 1) lv (va_rf (f j) :: st) ws cn sn) : AW g A H0 nL K pc lv (.int i :: .ref a :: st) ws cn sn := by
  obtain ⟨p, e, s, m, args, below, meth, c, Q, rfl, rfl, hx, hb, hml, hown, hts, hr, hlk, hKn, hG, hA, hnm⟩ := ok
  intro H locs ls hP hD hS hl
  obtain ⟨hin, rfl⟩ := hi
  exact va_aldq hx hb hKn hP q 4 gq rfl hin d (k H locs ls hP hD hS hl)

theorem A_iast (ok : OkB l g own nm cc nL ret R A H0 K) {q a n j : Nat} {f : Nat → Int32} {i : Int32} {x : Int32} {ws2 : va_W} (gq : Gp q ws (a, .inl (g.2.1 0, n, .inl f))) (hi : Ix i n j) (ww : Wp q ws (a, .inl (g.2.1 0, n, .inl (upd f j x))) ws2) (d : decode cc pc = .ok (.iastore, 1))
    (k : AW g A H0 nL K (pc + 1) lv st ws2 cn sn) : AW g A H0 nL K pc lv (.int x :: .int i :: .ref a :: st) ws cn sn := by
  obtain ⟨p, e, s, m, args, below, meth, c, Q, rfl, rfl, hx, hb, hml, hown, hts, hr, hlk, hKn, hG, hA, hnm⟩ := ok
  intro H locs ls hP hD hS hl
  obtain ⟨hin, rfl⟩ := hi
  refine va_iast hx hb hKn hP hD hS q 0 gq rfl hin d (fun H1 locs1 hP1 hD1 hS1 => ?_)
  rw [wp_of ww] at hP1 hD1
  exact k H1 locs1 ls hP1 hD1 hS1 hl

theorem A_bast (ok : OkB l g own nm cc nL ret R A H0 K) {q a n j : Nat} {f : Nat → Int32} {i : Int32} {x : Int32} {ws2 : va_W} (gq : Gp q ws (a, .inl (g.2.1 2, n, .inl f))) (hi : Ix i n j) (ww : Wp q ws (a, .inl (g.2.1 2, n, .inl (upd f j (vp_nar .byte x)))) ws2) (d : decode cc pc = .ok (.bastore, 1))
    (k : AW g A H0 nL K (pc + 1) lv st ws2 cn sn) : AW g A H0 nL K pc lv (.int x :: .int i :: .ref a :: st) ws cn sn := by
  obtain ⟨p, e, s, m, args, below, meth, c, Q, rfl, rfl, hx, hb, hml, hown, hts, hr, hlk, hKn, hG, hA, hnm⟩ := ok
  intro H locs ls hP hD hS hl
  obtain ⟨hin, rfl⟩ := hi
  refine va_bast hx hb hKn hP hD hS q 2 gq rfl hin d (fun H1 locs1 hP1 hD1 hS1 => ?_)
  rw [wp_of ww] at hP1 hD1
  exact k H1 locs1 ls hP1 hD1 hS1 hl

theorem A_zast (ok : OkB l g own nm cc nL ret R A H0 K) {q a n j : Nat} {f : Nat → Int32} {i : Int32} {x : Int32} {ws2 : va_W} (gq : Gp q ws (a, .inl (g.2.1 3, n, .inl f))) (hi : Ix i n j) (ww : Wp q ws (a, .inl (g.2.1 3, n, .inl (upd f j (vp_nar .boolean x)))) ws2) (d : decode cc pc = .ok (.bastore, 1))
    (k : AW g A H0 nL K (pc + 1) lv st ws2 cn sn) : AW g A H0 nL K pc lv (.int x :: .int i :: .ref a :: st) ws cn sn := by
  obtain ⟨p, e, s, m, args, below, meth, c, Q, rfl, rfl, hx, hb, hml, hown, hts, hr, hlk, hKn, hG, hA, hnm⟩ := ok
  intro H locs ls hP hD hS hl
  obtain ⟨hin, rfl⟩ := hi
  refine va_zast hx hb hKn hP hD hS q 3 gq rfl hin d (fun H1 locs1 hP1 hD1 hS1 => ?_)
  rw [wp_of ww] at hP1 hD1
  exact k H1 locs1 ls hP1 hD1 hS1 hl

theorem A_last (ok : OkB l g own nm cc nL ret R A H0 K) {q a n j : Nat} {f : Nat → Int64} {i : Int32} {x : Int64} {ws2 : va_W} (gq : Gp q ws (a, .inl (g.2.1 1, n, .inr (.inl f)))) (hi : Ix i n j) (ww : Wp q ws (a, .inl (g.2.1 1, n, .inr (.inl (vp_updL f j x)))) ws2) (d : decode cc pc = .ok (.lastore, 1))
    (k : AW g A H0 nL K (pc + 1) lv st ws2 cn sn) : AW g A H0 nL K pc lv (.long x :: .int i :: .ref a :: st) ws cn sn := by
  obtain ⟨p, e, s, m, args, below, meth, c, Q, rfl, rfl, hx, hb, hml, hown, hts, hr, hlk, hKn, hG, hA, hnm⟩ := ok
  intro H locs ls hP hD hS hl
  obtain ⟨hin, rfl⟩ := hi
  refine va_last hx hb hKn hP hD hS q 1 gq rfl hin d (fun H1 locs1 hP1 hD1 hS1 => ?_)
  rw [wp_of ww] at hP1 hD1
  exact k H1 locs1 ls hP1 hD1 hS1 hl

theorem A_alen (ok : OkB l g own nm cc nL ret R A H0 K) {q a : Nat} {cA : ClassId} {ty : FieldType} {x : vp_A} {v : Int32} (t0 : Nat) (gq : Gp q ws (a, .inl (cA, x))) (ht : (gtys g)[t0]? = some (cA, ty)) (hv : Int32.ofNat x.1 = v) (d : decode cc pc = .ok (.arraylength, 1))
    (k : AW g A H0 nL K (pc + 1) lv (.int v :: st) ws cn sn) : AW g A H0 nL K pc lv (.ref a :: st) ws cn sn := by
  obtain ⟨p, e, s, m, args, below, meth, c, Q, rfl, rfl, hx, hb, hml, hown, hts, hr, hlk, hKn, hG, hA, hnm⟩ := ok
  intro H locs ls hP hD hS hl
  exact va_alen hx hb hKn hP q t0 gq ht hv d (k H locs ls hP hD hS hl)
theorem va_P.pick {D : va_G} {cl : List vw_C} {ws ws2 : va_W} {H : Heap} (h : va_P D cl ws H) (js : List Nat) (hj : js.map (fun i => ws[i]?) = ws2.map some) : va_P D cl ws2 H := by
  refine h.sub js ?_
  have e : js.filterMap (fun i => ws[i]?) = (js.map (fun i => ws[i]?)).filterMap id := by rw [List.filterMap_map]; rfl
  rw [e, hj, List.filterMap_map]
  simp
/-- leaving a point: the world cut down or laid anew by its places -/
theorem A_sub (js : List Nat) {ws2 : va_W} (hj : js.map (fun i => ws[i]?) = ws2.map some) (hn : va_nd js = true) (k : AW g A H0 nL K pc lv st ws2 cn sn) : AW g A H0 nL K pc lv st ws cn sn :=
  fun H locs ls hP hD hS hl => k H locs ls (hP.pick js hj) (hD.sub js hn hj) hS hl
/-- fewer places known of the locals -/
theorem A_lv {lv2 : List (Option Value)} (h : ∀ (j : Nat) (v : Value), lv2[j]? = some (some v) → lv[j]? = some (some v)) (k : AW g A H0 nL K pc lv2 st ws cn sn) : AW g A H0 nL K pc lv st ws cn sn :=
  fun H locs ls hP hD hS hl => k H locs ls hP hD hS ⟨hl.1, hl.2.1, fun q hq => hl.2.2 q (lvl_mem.mpr (h _ _ (lvl_mem.mp hq)))⟩
end AWR
section AWE
variable {l : Launch} {g : Gl} {own nm : String} {cc : ByteArray} {nL : Nat} {R : Room} {ws0 : va_W} {Q : QT} {X : XT} {A : Nat → Prop} {H0 : Heap} {K : KT} {pc : Nat} {lv : List (Option Value)} {st : List Value} {ws : va_W} {cn sn : Nat}

theorem A_iret (ok : OkR l g own nm cc nL (some .int) R ws0 Q X A H0 K) {v : Int32} (d : decode cc pc = .ok (.ireturn, 1)) (hc : cn ≤ R.cells) (hs : sn ≤ R.slots) (hq : Q (some (.int v)) ws) : AW g A H0 nL K pc lv ([.int v]) ws cn sn := by
  obtain ⟨p, e, s, m, args, below, meth, c, rfl, rfl, hx, hb, hml, hown, hts, hr, hlk, hKn, hG, hA, hnm, hAe, hex⟩ := ok
  intro H locs ls hP hD hS hl
  subst hAe
  refine W.widen hc hs (vx_ret ?_)
  exact W.iret hx hb hr (fun t ht hW => ⟨⟨_, ws, rfl, hq, by rw [ht]; exact hP, hD⟩, hS.F ht⟩) hS.2.2 d

theorem A_lret (ok : OkR l g own nm cc nL (some .long) R ws0 Q X A H0 K) {v : Int64} (d : decode cc pc = .ok (.lreturn, 1)) (hc : cn ≤ R.cells) (hs : sn ≤ R.slots) (hq : Q (some (.long v)) ws) : AW g A H0 nL K pc lv ([.long v]) ws cn sn := by
  obtain ⟨p, e, s, m, args, below, meth, c, rfl, rfl, hx, hb, hml, hown, hts, hr, hlk, hKn, hG, hA, hnm, hAe, hex⟩ := ok
  intro H locs ls hP hD hS hl
  subst hAe
  refine W.widen hc hs (vx_ret ?_)
  exact W.lret hx hb hr (fun t ht hW => ⟨⟨_, ws, rfl, hq, by rw [ht]; exact hP, hD⟩, hS.F ht⟩) hS.2.2 d

theorem A_vret (ok : OkR l g own nm cc nL (none) R ws0 Q X A H0 K)  (d : decode cc pc = .ok (.return_, 1)) (hc : cn ≤ R.cells) (hs : sn ≤ R.slots) (hq : Q (none) ws) : AW g A H0 nL K pc lv ([]) ws cn sn := by
  obtain ⟨p, e, s, m, args, below, meth, c, rfl, rfl, hx, hb, hml, hown, hts, hr, hlk, hKn, hG, hA, hnm, hAe, hex⟩ := ok
  intro H locs ls hP hD hS hl
  subst hAe
  refine W.widen hc hs (vx_ret ?_)
  exact W.vret hx hb hr (fun t ht hW => ⟨⟨_, ws, rfl, hq, by rw [ht]; exact hP, hD⟩, hS.F ht⟩) hS.2.2 d

theorem A_zret (ok : OkR l g own nm cc nL (some .boolean) R ws0 Q X A H0 K) {v : Int32} (d : decode cc pc = .ok (.ireturn, 1)) (hv : v = 0 ∨ v = 1) (hc : cn ≤ R.cells) (hs : sn ≤ R.slots) (hq : Q (some (.int v)) ws) : AW g A H0 nL K pc lv ([.int v]) ws cn sn := by
  obtain ⟨p, e, s, m, args, below, meth, c, rfl, rfl, hx, hb, hml, hown, hts, hr, hlk, hKn, hG, hA, hnm, hAe, hex⟩ := ok
  intro H locs ls hP hD hS hl
  subst hAe
  refine W.widen hc hs (vx_ret ?_)
  exact W.zret hx hb hr (by rcases hv with rfl | rfl <;> rfl) (fun t ht hW => ⟨⟨_, ws, rfl, hq, by rw [ht]; exact hP, hD⟩, hS.F ht⟩) hS.2.2 d

/-- 'throw new E("text")' -/
theorem A_throw {ret : Option FieldType} (ok : OkR l g "TunnelControlDesk" nm cc nL ret R ws0 Q X A H0 K) (hl0 : l.stackTraces = false) {cls text : String} {names : List String} {ik is ic : Nat} (hcls : Bundle.fit cls = true) (hnames : ∀ n ∈ names, Bundle.fit n = true) (hk : Cond.classLink "TunnelControlDesk" ik cls ∈ GT) (hini : Cond.initialized cls ∈ GT) (hstr : (is, text) ∈ xTab) (hat : ∀ w ∈ vx_atS "TunnelControlDesk" ic cls names, w ∈ GT)
    (d0 : decode cc pc = .ok (.new ik, 3)) (d3 : decode cc (pc + 3) = .ok (.dup, 1)) (d4 : decode cc (pc + 4) = .ok (.ldc is, 2)) (d6 : decode cc (pc + 6) = .ok (.invokespecial ic, 3)) (d9 : decode cc (pc + 9) = .ok (.athrow, 1))
    (hRf : names.length + 3 < R.frames) (hRl : (st.map fun v => v.category).sum + (13 * (names.length + 1) + 43) ≤ R.locals) (hRc : cn + 1 ≤ R.cells) (hRs : sn + 6 ≤ R.slots) (hX : X cls ws) : AW g A H0 nL K pc lv st ws cn sn := by
  obtain ⟨p, e, s, m, args, below, meth, c, rfl, rfl, hx, hb, hml, hown, hts, hr, hlk, hKn, hG, hA, hnm, hAe, hex⟩ := ok
  intro H locs ls hP hD hS hl
  obtain ⟨sa, hsa⟩ := hG.gv.2.1 _ hstr
  have hgood : ∀ w ∈ Cond.classLink "TunnelControlDesk" ik cls :: Cond.initialized cls :: vx_atS "TunnelControlDesk" ic cls names, vx_ot w = true := by
    intro w hw
    have h9 : w ∈ GT := by
      rcases List.mem_cons.mp hw with h | hw
      · rw [h]; exact hk
      · rcases List.mem_cons.mp hw with h | hw
        · rw [h]; exact hini
        · exact hat w hw
    simp [vx_ot, gt_good h9]
  subst hAe
  exact vx_throwS hx hb hl0 hown hcls hnames (hts _ hk) (hts _ hini) hsa (fun w hw => hts w (hat w hw)) hgood hG.1 hG.2.1 hS (hl.1.trans hml.symm) d0 d3 d4 d6 d9 (fun x hx9 => (hex x hx9).elim) hRf hRl hRc hRs hlk
    (fun t hv hz hk9 => ⟨⟨ws, hX, va_P.kept hP (fun k q hq => hk9 q.1 (hP k q hq).lt), hD⟩, Nat.le_trans hS.1 hz, fun q h1 h2 => (hk9 q (Nat.lt_of_lt_of_le h1 hS.1)).trans (hS.2.1 q h1 h2)⟩) hS.2.2 hRc hRs
end AWE
theorem Ct.intro {l : Launch} {g : Gl} {y : MethodName} {cc : ByteArray} {nL : Nat} {ret : Option FieldType} {fr lo mc ms : Nat} {args : List Value} {ws : va_W} {Q : QT} {X : XT} (lv : List (Option Value)) (hy : plainName y.cls = true) (hlv : ∀ q ∈ lvl lv, q ∈ lv_args 0 args) (hnl : (lg_sl args).length ≤ nL)
    (body : ∀ (A : Nat → Prop) (H0 : Heap) (K : KT), OkR l g y.cls y.name cc nL ret { frames := fr, cells := mc, slots := ms, locals := lo } ws Q X A H0 K → AW g A H0 nL K 0 lv [] ws 0 0) : Ct l g y cc nL ret fr lo mc ms args ws Q X := by
  intro sz
  refine vx_ofW (cc := cc) (maxL := nL) (ret := ret) hy rfl ?_
  intro p e s m args9 below meth c s₁ B hml hex hv
  obtain ⟨rfl, hsz, hP, hK, hD0, hG⟩ := hv
  subst hsz
  have hts0 := atoms_spec (ws := wsM y cc nL ret) B.pre
  have hts : ∀ w ∈ GT, w.before args.toArray s = true := fun w hw => hts0 w (List.mem_cons_of_mem _ hw)
  have hown : s.vm.findClass y.cls = some m.cls := findClass_of_methodNamed B.named
  have hl := lv_entry args (n := nL) hnl
  rw [lg_entry_eq]
  have hl2 : lv_has _ nL (lvl lv) := ⟨hl.1, hl.2.1, fun q hq => hl.2.2 q (hlv q hq)⟩
  exact body (va_A ws s.heap.size) s.heap _ ⟨p, e, s, m, args.toArray, below, meth, c, rfl, rfl, B.exec, B.bytes, hml, hown, hts, B.returns, B.notSynchronized, hK, hG, fun q h => Or.inr h, (name_of_methodNamed B.named B.method).1, rfl, hex⟩ s.heap [] _ hP hD0.self va_S.rf hl2
