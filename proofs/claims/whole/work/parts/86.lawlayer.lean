/-! ===== what follows up to the row of stars began as the kit's skeleton ===== -/
def R_law : String := "TunnelControlDeskLaw"
def lw_P (b : Addr) (xs : List Int32) (args : Array Value) (s : State) : Prop := args = #[.ref b] ∧ s.IntsAt b xs ∧ xs.length ≤ 3072 ∧ (Jvm.Cond.and given_1 narrow_1).before args s = true
def lw_Q (_ : Array Value) (s : State) (o : Outcome) (t : State) : Prop := o = .returned (some (.int 1)) ∧ Framed s o t [] 601024 7293034
def lw_Z (below : List Frame) (a : Array Value) (s : State) : State → Prop := fun t => ∃ o, t.status = .running ∧ Ended t below o ∧ lw_Q a s o t
/-- the law's own end, with 1 on the stack, nothing written that was there before, its room as the claim has it -/
theorem lw_ret {p : Program} {l : Launch} {e : Env} {s : State} {m : MethodId} {below : List Frame} {meth : Method} {c : Code} {b : Nat} (hx : p.tables.exec = Jvm.exec) (hb : c.code = code) (hr : meth.sig.returnType = ret) (hlocks : meth.locks = false) {pc : Nat} {H : Heap} {ls : Array Slot} (hdg : decode code pc = .ok (.ireturn, 1)) : W p l e room_1 s m #[Value.ref b] below meth c H [] 601024 7293034 (lw_Z below #[Value.ref b] s) (F0 m pc ls [.int 1]) := by
  intro T hT X
  obtain ⟨fs, hret, hrun, hended, hW, hframe⟩ := X.leave (v := some (.int 1)) (hlocks := hlocks) (fun h => by rw [hr] at h; cases h)
  have hmeth' : T.vm.method? m = some meth := X.method'
  refine ⟨T.setFrames fs, ?_, .returned (some (.int 1)), hrun, hended, rfl, ⟨_, rfl⟩, hW, hframe⟩
  jvm_step X.here [X.here.top, hx, hb, hdg, hmeth', hr, ret, narrow_b1]
  (try refine ⟨rfl, ?_⟩); (try refine ⟨rfl, ?_⟩)
  first | (intro acts; rw [hret _ acts rfl rfl rfl]) | rw [hret _ _ rfl rfl rfl]
  exact Steps.refl _
/-- what holds at the law's entry: the machine, the code, the tables' words (any of lw_tbl by 'hts w (by decide +kernel)'), the script of L ints xs at the cell b, what the Statement gives of the start (any of its parts by flat_of_before) -/
def lw_At (p : Program) (s : State) (m : MethodId) (meth : Method) (c : Code) (b L : Nat) (xs : Nat → Int32) : Prop :=
  p.tables.exec = Jvm.exec ∧ c.code = code ∧ meth.sig.returnType = ret ∧ c.maxLocals = 8 ∧ s.vm.findClass R_law = some m.cls ∧ (∀ w ∈ lw_tbl, w.before #[Value.ref b] s = true) ∧ va_X b L xs s s.heap ∧ b < s.heap.size ∧ meth.locks = false ∧ (Jvm.Cond.and given_1 narrow_1).before #[Value.ref b] s = true

/-! ***** -/
/-- a contract of a method with a table of its own -/
def CtH (l : Launch) (g : Gl) (y : MethodName) (cc : ByteArray) (nL : Nat) (ret : Option FieldType) (hh : List (Nat × Nat × Nat × Nat)) (fr lo mc ms : Nat) (args : List Value) (ws : va_W) (Q : QT) (X : XT) : Prop :=
  ∀ sz : Nat, vx_Met l y (Cond.codeWith y cc nL ret hh :: GT) { frames := fr, cells := mc, slots := ms, locals := lo } (cP g sz ws args) (cQ g sz ws Q) (cX g sz ws X) mc ms (va_A ws sz)
def OkH (l : Launch) (g : Gl) (own : String) (nm : String) (cc : ByteArray) (nL : Nat) (ret : Option FieldType) (hh : List (Nat × Nat × Nat × Nat)) (R : Room) (ws0 : va_W) (Q : QT) (X : XT) (A : Nat → Prop) (H0 : Heap) (K : KT) : Prop :=
  ∃ (p : Program) (e : Env) (s : State) (m : MethodId) (args : Array Value) (below : List Frame) (meth : Method) (c : Code),
    K = (fun H locs cn sn pc ls st => W p l e R s m args below meth c H locs cn sn (vx_MQ below (cQ g s.heap.size ws0 Q) (cX g s.heap.size ws0 X) args s R.cells R.slots A) (F0 m pc ls st)) ∧ H0 = s.heap ∧ p.tables.exec = Jvm.exec ∧ c.code = cc ∧ c.maxLocals = nL ∧ s.vm.findClass own = some m.cls ∧
    (∀ w ∈ GT, w.before args s = true) ∧ meth.sig.returnType = ret ∧ meth.locks = false ∧ va_K g.1 vwCl (gtys g) s ∧ GH g A s s.heap ∧ (∀ q : Nat, s.heap.size ≤ q → A q) ∧ meth.name = nm ∧ A = va_A ws0 s.heap.size ∧ c.exceptionTable.toList = tableOf hh
theorem OkH.b {l : Launch} {g : Gl} {own nm : String} {cc : ByteArray} {nL : Nat} {ret : Option FieldType} {hh : List (Nat × Nat × Nat × Nat)} {R : Room} {ws0 : va_W} {Q : QT} {X : XT} {A : Nat → Prop} {H0 : Heap} {K : KT} (h : OkH l g own nm cc nL ret hh R ws0 Q X A H0 K) : OkB l g own nm cc nL ret R A H0 K := by
  obtain ⟨p, e, s, m, args, below, meth, c, hK, h0, hx, hb, hml, hown, hts, hr, hlk, hKn, hG, hA, hnm, -, -⟩ := h
  exact ⟨p, e, s, m, args, below, meth, c, _, hK, h0, hx, hb, hml, hown, hts, hr, hlk, hKn, hG, hA, hnm⟩
theorem CtH.intro {l : Launch} {g : Gl} {y : MethodName} {cc : ByteArray} {nL : Nat} {ret : Option FieldType} {hh : List (Nat × Nat × Nat × Nat)} {fr lo mc ms : Nat} {args : List Value} {ws : va_W} {Q : QT} {X : XT} (lv : List (Option Value)) (hy : plainName y.cls = true) (hlv : ∀ q ∈ lvl lv, q ∈ lv_args 0 args) (hnl : (lg_sl args).length ≤ nL)
    (body : ∀ (A : Nat → Prop) (H0 : Heap) (K : KT), OkH l g y.cls y.name cc nL ret hh { frames := fr, cells := mc, slots := ms, locals := lo } ws Q X A H0 K → AW g A H0 nL K 0 lv [] ws 0 0) : CtH l g y cc nL ret hh fr lo mc ms args ws Q X := by
  intro sz
  refine vx_ofWH (cc := cc) (maxL := nL) (ret := ret) (hh := hh) hy rfl ?_
  intro p e s m args9 below meth c s₁ B hml hv
  obtain ⟨rfl, hsz, hP, hK, hD0, hG⟩ := hv
  subst hsz
  have hts0 := atoms_spec (ws := Cond.codeWith y cc nL ret hh :: GT) B.pre
  have hex := vx_table (x := y) B (hts0 _ List.mem_cons_self)
  have hts : ∀ w ∈ GT, w.before args.toArray s = true := fun w hw => hts0 w (List.mem_cons_of_mem _ hw)
  have hown : s.vm.findClass y.cls = some m.cls := findClass_of_methodNamed B.named
  have hl := lv_entry args (n := nL) hnl
  rw [lg_entry_eq]
  have hl2 : lv_has _ nL (lvl lv) := ⟨hl.1, hl.2.1, fun q hq => hl.2.2 q (hlv q hq)⟩
  exact body (va_A ws s.heap.size) s.heap _ ⟨p, e, s, m, args.toArray, below, meth, c, rfl, rfl, B.exec, B.bytes, hml, hown, hts, B.returns, B.notSynchronized, hK, hG, fun q h => Or.inr h, (name_of_methodNamed B.named B.method).1, rfl, hex⟩ s.heap [] _ hP hD0.self va_S.rf hl2
section AWH
variable {l : Launch} {g : Gl} {own nm : String} {cc : ByteArray} {nL : Nat} {ret : Option FieldType} {hh : List (Nat × Nat × Nat × Nat)} {R : Room} {ws0 : va_W} {Q0 : QT} {X0 : XT} {A : Nat → Prop} {H0 : Heap} {K : KT} {pc : Nat} {lv : List (Option Value)} {ws : va_W} {cn sn : Nat}
theorem A_iretH (ok : OkH l g own nm cc nL (some .int) hh R ws0 Q0 X0 A H0 K) {v : Int32} (d : decode cc pc = .ok (.ireturn, 1)) (hc : cn ≤ R.cells) (hs : sn ≤ R.slots) (hq : Q0 (some (.int v)) ws) : AW g A H0 nL K pc lv ([.int v]) ws cn sn := by
  obtain ⟨p, e, s, m, args, below, meth, c, rfl, rfl, hx, hb, hml, hown, hts, hr, hlk, hKn, hG, hA, hnm, hAe, hex⟩ := ok
  intro H locs ls hP hD hS hl
  subst hAe
  refine W.widen hc hs (vx_ret ?_)
  exact W.iret hx hb hr (fun t ht hW => ⟨⟨_, ws, rfl, hq, by rw [ht]; exact hP, hD⟩, hS.F ht⟩) hS.2.2 d
/-- a call within 'try' -/
theorem A_tryV (ok : OkH l g own nm cc nL ret hh R ws0 Q0 X0 A H0 K) (wc wr : va_W) {y : MethodName} {bytes : ByteArray} {maxL n ix fr lo mc ms : Nat} {rt : Option FieldType} {Q : QT} {X : XT} {b : Nat} {As rest : List Value} (mf : MF y bytes maxL rt n) (hlk9 : Cond.methodLink own ix y ∈ GT) (hin : Cond.instanceMethod y ∈ GT) (hse : Cond.selects y.cls y y ∈ GT)
    {ci N9 q9 : Nat} {T9 : u_T} {ty9 : Nat → FieldType} {fs : List Value} (cf : CF ci y.cls T9 N9 ty9) (gq : Gp q9 (wc ++ wr) (b, .inr (ci, fs))) (hct : Ct l g y bytes maxL rt fr lo mc ms (.ref b :: As) wc Q X) (hn9 : As.length = n) {st0 : List Value} (hstk : st0 = As.reverse ++ .ref b :: rest) (d : decode cc pc = .ok (.invokevirtual ix, 3))
    (hst : (rest.map fun v => v.category).sum ≤ 8) (hfr : fr + 1 ≤ R.frames ∧ 8 + (maxL + 11) + lo ≤ R.locals) (hmk : cn + mc ≤ R.cells ∧ sn + ms ≤ R.slots)
    (hX : ∀ (E : String) (w : va_W), X E w → ∃ (pre : List ExceptionTableEntry) (x : ExceptionTableEntry) (suf : List ExceptionTableEntry), tableOf hh = pre ++ x :: suf ∧ (∀ z ∈ pre, covers z pc = false ∨ (z.catchType ≠ 0 ∧ ∃ nm9 : String, Cond.classLink own z.catchType nm9 ∈ GT ∧ (E, nm9) ∈ ncTab)) ∧ covers x pc = true ∧ x.catchType ≠ 0 ∧ (∃ nm9 : String, Cond.classLink own x.catchType nm9 ∈ GT ∧ (E, nm9) ∈ cTab) ∧
      ∀ q9 : Nat, AW g A H0 nL K x.handlerPc lv [.ref q9] (wr ++ w) (cn + mc) (sn + ms))
    (kk : ∀ (v : Option Value) (w : va_W), Q v w → AW g A H0 nL K (pc + 3) lv (v.toList ++ rest) (wr ++ w) (cn + mc) (sn + ms)) : AW g A H0 nL K pc lv st0 (wc ++ wr) cn sn := by
  obtain ⟨p, e, s, m, args, below, meth, c, rfl, rfl, hx, hb, hml, hown, hts, hr, hlk, hKn, hG, hA, hnm, hAe, hex⟩ := ok
  intro H locs ls hP hD hS hl
  have hFc := va_free (wc := wc) hD hS hA (List.range wc.length) (pre_C wc wr)
  have hPc : va_P g.1 vwCl wc H := hP.pick (List.range wc.length) (pre_C wc wr)
  exact run_W (List.range wc.length) ((List.range wr.length).map (· + wc.length)) (vx_runV (As := As) (rest := rest) ⟨hx, hb, hml, hown, hts⟩ (hct H.size) (cwV n hts (wsV_good mf hlk9 hin hse) rfl rfl rfl ⟨rfl, mf.2.2⟩ hfr) ⟨cP_blind, va_recv hKn hP cf.1 gq, fun U hU hW => cP_at hU hW hPc hKn (hD.sub (List.range wc.length) (nd_range _) (pre_C wc wr)) hS hG hFc⟩ rfl hn9 hl.1 hstk (lv_room hst) d hmk) hP hD hS hA (pre_C wc wr) (pre_R wc wr) (pre_nd _ _) (pre_dis _ _)
    (fun E ce q9 w H1 locs1 hxw hP2 hD2 hS2 h1 h2 h3 => by
      obtain ⟨pre, x, suf, t1, t2, t3, t4, ⟨nm9, t5, t6⟩, t7⟩ := hX E w hxw
      refine vx_catch hown pre x suf (hex.trans t1) (fun z hz => ?_) t3 t4 (hts _ t5) (va_tabs rfl rfl (hG.gv.2.2.2.2.2.1 _ t6)) h1 h2 h3 (t7 q9 H1 locs1 ls hP2 hD2 hS2 hl)
      rcases t2 z hz with z1 | ⟨z1, nm8, z2, z3⟩
      · exact Or.inl z1
      · exact Or.inr ⟨z1, nm8, hts _ z2, hG.gv.2.2.2.2.1 _ z3⟩)
    (fun v w H1 locs1 hq hP2 hD2 hS2 => kk v w hq H1 locs1 ls hP2 hD2 hS2 hl)
end AWH
/-- what a call of a method with a table needs of the tables -/
def MFH (y : MethodName) (cc : ByteArray) (nL : Nat) (ret : Option FieldType) (hh : List (Nat × Nat × Nat × Nat)) (n : Nat) : Prop := Cond.codeWith y cc nL ret hh ∈ GT ∧ Cond.initialized y.cls ∈ GT ∧ (y.cls ≠ "java/lang/invoke/MethodHandle" ∧ y.cls ≠ "java/lang/invoke/VarHandle" ∧ (parseMethodDescriptor y.desc).map (fun d => d.parameters.length) = some n)
theorem wsSH_good {own : String} {ix : Nat} {y : MethodName} {cc : ByteArray} {nL n : Nat} {ret : Option FieldType} {hh : List (Nat × Nat × Nat × Nat)} (mf : MFH y cc nL ret hh n) (h1 : Cond.methodLink own ix y ∈ GT) (h2 : Cond.static y ∈ GT) : GoodIn GT (va_wsS own ix y (Cond.codeWith y cc nL ret hh :: GT)) := by
  intro w hw
  unfold va_wsS at hw
  have h9 : w ∈ GT := by
    simp only [List.mem_append, List.mem_cons, List.not_mem_nil, or_false] at hw
    rcases hw with (h | h | h) | h | h
    · rw [h]; exact h1
    · rw [h]; exact h2
    · rw [h]; exact mf.2.1
    · rw [h]; exact mf.1
    · exact h
  exact ⟨h9, good_of_word (gt_good h9)⟩
/-- the law's own frame -/
def OkL (l : Launch) (g : Gl) (A : Nat → Prop) (H0 : Heap) (K : KT) (b L : Nat) (xs : Nat → Int32) : Prop :=
  ∃ (p : Program) (e : Env) (s : State) (m : MethodId) (below : List Frame) (meth : Method) (c : Code),
    K = (fun H locs cn sn pc ls st => W p l e room_1 s m #[Value.ref b] below meth c H locs cn sn (lw_Z below #[Value.ref b] s) (F0 m pc ls st)) ∧ H0 = s.heap ∧ A = (fun q : Nat => s.heap.size ≤ q) ∧ lw_At p s m meth c b L xs ∧ va_K g.1 vwCl (gtys g) s ∧ GH g A s s.heap
theorem OkL.b {l : Launch} {g : Gl} {A : Nat → Prop} {H0 : Heap} {K : KT} {b L : Nat} {xs : Nat → Int32} (ok : OkL l g A H0 K b L xs) : ∃ nm, OkB l g RL nm code 8 ret room_1 A H0 K := by
  obtain ⟨p, e, s, m, below, meth, c, rfl, rfl, rfl, ⟨hx, hb, hr, hml, hown, hts, hX, hbl, hlk, hgv⟩, hKn, hG⟩ := ok
  exact ⟨meth.name, p, e, s, m, #[Value.ref b], below, meth, c, _, rfl, rfl, hx, hb, hml, hown, fun w hw => hts w (gt_lw hw), hr, hlk, hKn, hG, fun _ h => h, rfl⟩
section AWL
variable {l : Launch} {g : Gl} {nm : String} {A : Nat → Prop} {H0 : Heap} {K : KT} {bS L : Nat} {xs : Nat → Int32} {pc nL : Nat} {lv : List (Option Value)} {st : List Value} {ws : va_W} {cn sn : Nat}
theorem A_scLen (ok : OkL l g A H0 K bS L xs) (d : decode code pc = .ok (.arraylength, 1)) (k : AW g A H0 8 K (pc + 1) lv (.int (Int32.ofNat L) :: st) ws cn sn) : AW g A H0 8 K pc lv (.ref bS :: st) ws cn sn := by
  obtain ⟨p, e, s, m, below, meth, c, rfl, rfl, rfl, ⟨hx, hb, hr, hml, hown, hts, hX, hbl, hlk, hgv⟩, hKn, hG⟩ := ok
  intro H locs ls hP hD hS hl
  exact va_slen hx hb hX hbl (Nat.not_le.mpr hbl) hS d (k H locs ls hP hD hS hl)
theorem A_sld (ok : OkL l g A H0 K bS L xs) {i : Int32} (hin : vp_in i L) (d : decode code pc = .ok (.iaload, 1)) (k : AW g A H0 8 K (pc + 1) lv (.int (xs i.toNatClampNeg) :: st) ws cn sn) : AW g A H0 8 K pc lv (.int i :: .ref bS :: st) ws cn sn := by
  obtain ⟨p, e, s, m, below, meth, c, rfl, rfl, rfl, ⟨hx, hb, hr, hml, hown, hts, hX, hbl, hlk, hgv⟩, hKn, hG⟩ := ok
  intro H locs ls hP hD hS hl
  exact va_sld hx hb hX hbl (Nat.not_le.mpr hbl) hS hin d (k H locs ls hP hD hS hl)
/-- script[i + j] -/
theorem A_arg (ok : OkL l g A H0 K bS L xs) {i j : Nat} {jj : Int} (hj : j ≤ 5) (hjj : Int32.ofInt jj = nI j) (hi : i + 6 ≤ L) (hL : L ≤ 3072) (g0 : Gp 0 lv (some (.ref bS))) (g4 : Gp 4 lv (some (.int (nI i)))) (d0 : decode code pc = .ok (.aload_n 0, 1)) (d1 : decode code (pc + 1) = .ok (.iload 4, 2)) (d3 : decode code (pc + 3) = .ok (.iconst jj, 1)) (d4 : decode code (pc + 4) = .ok (.iadd, 1)) (d5 : decode code (pc + 5) = .ok (.iaload, 1))
    (k : AW g A H0 8 K (pc + 6) lv (.int (xs (i + j)) :: st) ws cn sn) : AW g A H0 8 K pc lv st ws cn sn := by
  obtain ⟨nm, okb⟩ := ok.b
  refine A_aload_n okb rfl d0 g0 ?_
  refine A_iload okb d1 g4 ?_
  refine A_iconst okb d3 hjj ?_
  refine A_iadd okb d4 ?_
  have e : nI i + nI j = nI (i + j) := nI_add i j
  rw [e]
  refine A_sld ok (vp_in_nI (by omega) (by omega)) d5 ?_
  rw [nI_clamp (by omega)]
  exact k
/-- the law's end -/
theorem A_lawEnd (ok : OkL l g A H0 K bS L xs) (d : decode code pc = .ok (.ireturn, 1)) (hc : cn ≤ 601024) (hs : sn ≤ 7293034) : AW g A H0 8 K pc lv [.int 1] ws cn sn := by
  obtain ⟨p, e, s, m, below, meth, c, rfl, rfl, rfl, ⟨hx, hb, hr, hml, hown, hts, hX, hbl, hlk, hgv⟩, hKn, hG⟩ := ok
  intro H locs ls hP hD hS hl
  refine va_forget (fun q hq => hS.2.2 q hq) ?_
  refine W.widen hc hs ?_
  exact lw_ret hx hb hr hlk d
end AWL
section AWM
variable {l : Launch} {g : Gl} {own nm : String} {cc : ByteArray} {nL : Nat} {ret : Option FieldType} {R : Room} {A : Nat → Prop} {H0 : Heap} {K : KT} {pc : Nat} {lv : List (Option Value)} {st : List Value} {ws : va_W} {cn sn : Nat}
theorem A_widen (ok : OkB l g own nm cc nL ret R A H0 K) {cn2 sn2 : Nat} (h1 : cn ≤ cn2) (h2 : sn ≤ sn2) (k : AW g A H0 nL K pc lv st ws cn2 sn2) : AW g A H0 nL K pc lv st ws cn sn := by
  obtain ⟨p, e, s, m, args, below, meth, c, Q, rfl, rfl, hx, hb, hml, hown, hts, hr, hlk, hKn, hG, hA, hnm⟩ := ok
  intro H locs ls hP hD hS hl
  exact W.widen h1 h2 (k H locs ls hP hD hS hl)
/-- a static call of a method with a table that doesn't throw, on the world's first part -/
theorem A_preSH (ok : OkB l g own nm cc nL ret R A H0 K) (wc wr : va_W) {y : MethodName} {bytes : ByteArray} {maxL n ix fr lo mc ms : Nat} {rt : Option FieldType} {hh : List (Nat × Nat × Nat × Nat)} {Q : QT} {As rest : List Value} (mf : MFH y bytes maxL rt hh n) (hlk9 : Cond.methodLink own ix y ∈ GT) (hin : Cond.static y ∈ GT) (hct : CtH l g y bytes maxL rt hh fr lo mc ms As wc Q noX) (hn9 : As.length = n) {st0 : List Value} (hstk : st0 = As.reverse ++ rest) (d : decode cc pc = .ok (.invokestatic ix, 3))
    (hst : (rest.map fun v => v.category).sum ≤ 8) (hfr : fr + 1 ≤ R.frames ∧ 8 + (maxL + 11) + lo ≤ R.locals) (hmk : cn + mc ≤ R.cells ∧ sn + ms ≤ R.slots)
    (kk : ∀ (v : Option Value) (w : va_W), Q v w → AW g A H0 nL K (pc + 3) lv (v.toList ++ rest) (wr ++ w) (cn + mc) (sn + ms)) : AW g A H0 nL K pc lv st0 (wc ++ wr) cn sn := by
  obtain ⟨p, e, s, m, args, below, meth, c, Q9, rfl, rfl, hx, hb, hml, hown, hts, hr, hlk, hKn, hG, hA, hnm⟩ := ok
  intro H locs ls hP hD hS hl
  have hFc := va_free (wc := wc) hD hS hA (List.range wc.length) (pre_C wc wr)
  have hPc : va_P g.1 vwCl wc H := hP.pick (List.range wc.length) (pre_C wc wr)
  exact run_W (List.range wc.length) ((List.range wr.length).map (· + wc.length)) (vx_runSX (As := As) (rest := rest) ⟨hx, hb, hml, hown, hts⟩ (hct H.size) (vx_cwSW n hts (wsSH_good mf hlk9 hin) rfl rfl rfl mf.2.2 hfr) ⟨cP_blind, fun U hU hW => cP_at hU hW hPc hKn (hD.sub (List.range wc.length) (nd_range _) (pre_C wc wr)) hS hG hFc⟩ rfl hn9 hl.1 hstk (lv_room hst) d hmk) hP hD hS hA (pre_C wc wr) (pre_R wc wr) (pre_nd _ _) (pre_dis _ _)
    (fun E ce q9 w H1 locs1 hxw hP2 hD2 hS2 h1 h2 h3 => hxw.elim)
    (fun v w H1 locs1 hq hP2 hD2 hS2 => kk v w hq H1 locs1 ls hP2 hD2 hS2 hl)
/-- the blocks that a call needs to the front -/
theorem A_cut {bs : List va_W} (bw br : List va_W) (is : List Nat) {wc : va_W} (hp : is.isPerm (List.range bs.length) = true) (hm : is.map (fun i => bs[i]?) = (bw ++ br).map some) (hw : bw.flatten = wc) (k : AW g A H0 nL K pc lv st (wc ++ br.flatten) cn sn) : AW g A H0 nL K pc lv st bs.flatten cn sn := by
  refine A_blk is hp hm ?_
  rw [List.flatten_append, hw]
  exact k
/-- and back to their places -/
theorem A_back {br : List va_W} {wc : va_W} (bs bw : List va_W) (is : List Nat) (hp : is.isPerm (List.range bs.length) = true) (hm : is.map (fun i => bs[i]?) = (bw ++ br).map some) (hw : bw.flatten = wc) (k : AW g A H0 nL K pc lv st bs.flatten cn sn) : AW g A H0 nL K pc lv st (br.flatten ++ wc) cn sn := by
  refine A_perm (ws2 := bs.flatten) ?_ k
  have h := perm_flat (perm_pick is hp hm)
  rw [List.flatten_append, hw] at h
  exact (h.trans List.perm_append_comm).symm
end AWM
theorem xl_13 : Cond.classLink RL 13 "java/lang/IllegalArgumentException" ∈ GT := gt_at 497 (by decide +kernel) rfl
theorem xl_18 : Cond.classLink RL 18 "java/lang/IndexOutOfBoundsException" ∈ GT := gt_at 756 (by decide +kernel) rfl
theorem xl_27 : Cond.classLink RL 27 "java/lang/IllegalStateException" ∈ GT := gt_at 796 (by decide +kernel) rfl
abbrev hhL_load : List (Nat × Nat × Nat × Nat) := [(0, 9, 12, 13)]
theorem mf_L_load : MFH yL_load cL_load 4 (some .int) hhL_load 3 := ⟨gt_at 496 (by decide +kernel) rfl, gt_at 67 (by decide +kernel) rfl, by decide +kernel, by decide +kernel, by decide +kernel⟩
abbrev hhL_smoke : List (Nat × Nat × Nat × Nat) := [(0, 9, 12, 18)]
theorem mf_L_smoke : MFH yL_smoke cL_smoke 4 (some .int) hhL_smoke 3 := ⟨gt_at 755 (by decide +kernel) rfl, gt_at 67 (by decide +kernel) rfl, by decide +kernel, by decide +kernel, by decide +kernel⟩
abbrev hhL_total : List (Nat × Nat × Nat × Nat) := [(0, 8, 11, 13)]
theorem mf_L_total : MFH yL_total cL_total 4 (some .int) hhL_total 3 := ⟨gt_at 783 (by decide +kernel) rfl, gt_at 67 (by decide +kernel) rfl, by decide +kernel, by decide +kernel, by decide +kernel⟩
abbrev hhL_fan : List (Nat × Nat × Nat × Nat) := [(0, 9, 12, 18), (0, 9, 15, 27)]
theorem mf_L_fan : MFH yL_fan cL_fan 4 (some .int) hhL_fan 3 := ⟨gt_at 795 (by decide +kernel) rfl, gt_at 67 (by decide +kernel) rfl, by decide +kernel, by decide +kernel, by decide +kernel⟩
abbrev hhL_bay : List (Nat × Nat × Nat × Nat) := [(0, 9, 12, 18)]
theorem mf_L_bay : MFH yL_bay cL_bay 4 (some .int) hhL_bay 3 := ⟨gt_at 823 (by decide +kernel) rfl, gt_at 67 (by decide +kernel) rfl, by decide +kernel, by decide +kernel, by decide +kernel⟩
abbrev hhL_isRed : List (Nat × Nat × Nat × Nat) := [(0, 17, 20, 18), (0, 17, 24, 13)]
theorem mf_L_isRed : MFH yL_isRed cL_isRed 5 (some .int) hhL_isRed 4 := ⟨gt_at 830 (by decide +kernel) rfl, gt_at 67 (by decide +kernel) rfl, by decide +kernel, by decide +kernel, by decide +kernel⟩
abbrev hhL_carSection : List (Nat × Nat × Nat × Nat) := [(0, 9, 12, 18)]
theorem mf_L_carSection : MFH yL_carSection cL_carSection 4 (some .int) hhL_carSection 3 := ⟨gt_at 842 (by decide +kernel) rfl, gt_at 67 (by decide +kernel) rfl, by decide +kernel, by decide +kernel, by decide +kernel⟩
abbrev hhL_carDirection : List (Nat × Nat × Nat × Nat) := [(0, 9, 12, 18)]
theorem mf_L_carDirection : MFH yL_carDirection cL_carDirection 4 (some .int) hhL_carDirection 3 := ⟨gt_at 854 (by decide +kernel) rfl, gt_at 67 (by decide +kernel) rfl, by decide +kernel, by decide +kernel, by decide +kernel⟩
abbrev hhL_exposure : List (Nat × Nat × Nat × Nat) := [(0, 8, 11, 18)]
theorem mf_L_exposure : MFH yL_exposure cL_exposure 4 (some .int) hhL_exposure 3 := ⟨gt_at 861 (by decide +kernel) rfl, gt_at 67 (by decide +kernel) rfl, by decide +kernel, by decide +kernel, by decide +kernel⟩
abbrev hhL_carsIn : List (Nat × Nat × Nat × Nat) := [(0, 10, 13, 18), (0, 10, 17, 13)]
theorem mf_L_carsIn : MFH yL_carsIn cL_carsIn 5 (some .int) hhL_carsIn 4 := ⟨gt_at 868 (by decide +kernel) rfl, gt_at 67 (by decide +kernel) rfl, by decide +kernel, by decide +kernel, by decide +kernel⟩
abbrev hhL_clearingTime : List (Nat × Nat × Nat × Nat) := [(0, 9, 12, 13)]
theorem mf_L_clearingTime : MFH yL_clearingTime cL_clearingTime 4 (some .int) hhL_clearingTime 3 := ⟨gt_at 875 (by decide +kernel) rfl, gt_at 67 (by decide +kernel) rfl, by decide +kernel, by decide +kernel, by decide +kernel⟩
abbrev hhL_exposureWith : List (Nat × Nat × Nat × Nat) := [(0, 9, 12, 13)]
theorem mf_L_exposureWith : MFH yL_exposureWith cL_exposureWith 5 (some .int) hhL_exposureWith 4 := ⟨gt_at 883 (by decide +kernel) rfl, gt_at 67 (by decide +kernel) rfl, by decide +kernel, by decide +kernel, by decide +kernel⟩
abbrev hhL_bestSetting : List (Nat × Nat × Nat × Nat) := [(0, 9, 12, 13)]
theorem mf_L_bestSetting : MFH yL_bestSetting cL_bestSetting 4 (some .int) hhL_bestSetting 3 := ⟨gt_at 921 (by decide +kernel) rfl, gt_at 67 (by decide +kernel) rfl, by decide +kernel, by decide +kernel, by decide +kernel⟩
abbrev hhL_run : List (Nat × Nat × Nat × Nat) := [(0, 9, 12, 13), (0, 9, 15, 27)]
theorem mf_L_run : MFH yL_run cL_run 4 (some .int) hhL_run 3 := ⟨gt_at 929 (by decide +kernel) rfl, gt_at 67 (by decide +kernel) rfl, by decide +kernel, by decide +kernel, by decide +kernel⟩
abbrev hhL_setFan : List (Nat × Nat × Nat × Nat) := [(0, 10, 13, 18), (0, 10, 17, 13), (0, 10, 21, 27)]
theorem mf_L_setFan : MFH yL_setFan cL_setFan 5 (some .int) hhL_setFan 4 := ⟨gt_at 940 (by decide +kernel) rfl, gt_at 67 (by decide +kernel) rfl, by decide +kernel, by decide +kernel, by decide +kernel⟩
abbrev hhL_setFire : List (Nat × Nat × Nat × Nat) := [(0, 9, 12, 18)]
theorem mf_L_setFire : MFH yL_setFire cL_setFire 4 (some .int) hhL_setFire 3 := ⟨gt_at 947 (by decide +kernel) rfl, gt_at 67 (by decide +kernel) rfl, by decide +kernel, by decide +kernel, by decide +kernel⟩
abbrev hhL_setSignal : List (Nat × Nat × Nat × Nat) := [(0, 19, 22, 18), (0, 19, 26, 13)]
theorem mf_L_setSignal : MFH yL_setSignal cL_setSignal 6 (some .int) hhL_setSignal 5 := ⟨gt_at 954 (by decide +kernel) rfl, gt_at 67 (by decide +kernel) rfl, by decide +kernel, by decide +kernel, by decide +kernel⟩
abbrev hhL_setBay : List (Nat × Nat × Nat × Nat) := [(0, 17, 20, 18), (0, 17, 24, 27)]
theorem mf_L_setBay : MFH yL_setBay cL_setBay 5 (some .int) hhL_setBay 4 := ⟨gt_at 961 (by decide +kernel) rfl, gt_at 67 (by decide +kernel) rfl, by decide +kernel, by decide +kernel, by decide +kernel⟩
