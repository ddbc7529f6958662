/-! ===== BEGIN a constructor that throws (launches without stack traces) ===== -/
section VXIA
variable {p : Program} {l : Launch} {e : Env} {R : Room} {s : State} {m : MethodId} {args : Array Value} {below : List Frame} {meth : Method} {c : Code} {T : State} {locs : List Loc} {cells slots : Nat}
theorem vx_callI (X : Stand p l e R s m args below meth c T locs cells slots) (hexec : p.tables.exec = Jvm.exec) {own : String} {index : Nat} {y : MethodName} {bytes : ByteArray} {maxL : Nat}
    (hown : s.vm.findClass own = some m.cls) (hy1 : y.name = "<init>") (hlink : (Cond.methodLink own index y).before args s = true) (hinst : (Cond.instanceMethod y).before args s = true)
    (hcode : (Cond.code y bytes maxL none).before args s = true) (hy : y.cls ≠ "java/lang/invoke/MethodHandle" ∧ y.cls ≠ "java/lang/invoke/VarHandle")
    {W9 : Nat} {Pre : Pt → Array Value → Prop} {Post : Pt → Array Value → Option Value → Pt → Prop} {PostX : Pt → Array Value → Addr → Pt → Prop} (hK : vx_Back l R p e below s args y 3 W9 Pre Post PostX)
    {g : JFrame} (hg : g.method = m) (hsize : g.locals.size = c.maxLocals) {a : Addr} {argsL rest : List Value} (hlen : ∀ sig, parseMethodDescriptor y.desc = some sig → argsL.length = sig.parameters.length)
    (hstack : g.stack = argsL.reverse ++ .ref a :: rest) (hW : 2 * g.monitorRoom + (rest.map fun v => v.category).sum ≤ W9) (hdg : decode c.code g.pc = .ok (.invokespecial index, 3))
    (hpre : ∀ vm₁, s.WarmedH vm₁ → Pre ⟨T.setVm vm₁, locs, cells, slots⟩ (Value.ref a :: argsL).toArray) :
    (∃ (v : Option Value) (vm₁ : Vm) (B : Pt), s.WarmedH vm₁ ∧ Stand p l e R s m args below meth c B.U B.locs B.cells B.slots ∧ Post ⟨T.setVm vm₁, locs, cells, slots⟩ (Value.ref a :: argsL).toArray v B ∧
      ∀ target, Steps p.tables e below (B.U.setTop { g with pc := g.pc + 3, stack := v.toList ++ rest }) target → Steps p.tables e below (T.setTop g) target) ∨
    (∃ (q : Addr) (vm₁ : Vm) (B : Pt), s.WarmedH vm₁ ∧ Stand p l e R s m args below meth c B.U B.locs B.cells B.slots ∧ PostX ⟨T.setVm vm₁, locs, cells, slots⟩ (Value.ref a :: argsL).toArray q B ∧
      Steps p.tables e below (T.setTop g) ((B.U.setTop { g with stack := rest }).pushFrame (.throwing q))) := by
  subst hg
  have hpl : e.platform.magicAccessors = ({} : Platform).magicAccessors := by rw [X.admits.platform]
  obtain ⟨mk, methM, cM, kP, vm₁, hnamed, hmethM, hcodeM, -, hlocalsM, -, hkP, -, hW₁, hstep₁⟩ := Steps.initColdArgs (e := e) X.here hexec X.warmed hpl hown hy1 hy hlink hinst hcode (f := g) rfl hlen hstack hdg
  have X₁ := X.noted hW₁
  rcases hK g.method meth c ⟨T.setVm vm₁, locs, cells, slots⟩ { g with stack := rest } (.invokespecial index) mk (Value.ref a :: argsL).toArray X₁ rfl hsize hdg hW (X₁.named hnamed) (hpre vm₁ X₁.warmed) with ⟨v, B, X', hpost, hsteps⟩ | ⟨q, B, X', hpost, hsteps⟩
  · exact Or.inl ⟨v, vm₁, B, X₁.warmed, X', hpost, fun target h => hstep₁ _ fun acts => by rw [doInvoke_state]; exact hsteps.trans h⟩
  · exact Or.inr ⟨q, vm₁, B, X₁.warmed, X', hpost, hstep₁ _ fun acts => by rw [doInvoke_state]; exact hsteps⟩
end VXIA
section VXIB
variable {p : Program} {l : Launch} {e : Env} {R : Room} {s : State} {m : MethodId} {args : Array Value} {below : List Frame} {meth : Method} {c : Code} {H : Heap} {locs : List Loc} {cells slots : Nat}
variable {y : MethodName} {bytes cc : ByteArray} {maxL nL mc ms n index : Nat} {ret : Option FieldType} {ws : List Cond} {rm : Room} {Pc : Array Value → State → Prop} {Qc : Array Value → State → Outcome → State → Prop} {XC : String → State → State → Prop} {free : Addr → Prop} {Ts : List Cond} {own C : String} {b : Addr} {As rest : List Value} {g : JFrame}
theorem vx_runI (S : CallFix p m c cc nL s args Ts own) (hM : vx_Met l y ws rm Pc Qc XC mc ms free) (cw : CallB R s args own index y bytes maxL none ws rm mc ms n ∧ y.name = "<init>" ∧ (Cond.instanceMethod y).before args s = true) (hp : PreS s H Pc (.ref b :: As))
    (hg : g.method = m) (hn : As.length = n) (hsize : g.locals.size = nL) (hstack : g.stack = As.reverse ++ .ref b :: rest) (hW : 2 * g.monitorRoom + (rest.map fun v => v.category).sum ≤ 8) (hdg : decode cc g.pc = .ok (.invokespecial index, 3)) (hf : cells + mc ≤ R.cells ∧ slots + ms ≤ R.slots) :
    vx_Run p l e R s m args below meth c H locs cells slots mc ms g rest (Qc (Value.ref b :: As).toArray) XC free := by
  have hK : vx_Back l R p e below s args y 3 8 (PreOf R mc ms Pc) (PostOf Qc mc ms free) (vx_Post XC mc ms free) := vx_callBack cw.1 hM hp.1
  obtain ⟨⟨-, -, -, -, -, -, hcode, -, hy, hlen, hl⟩, hy1, hin⟩ := cw
  obtain ⟨hx, hb, hml, ho, -⟩ := S
  have hPc := hp.2
  intro T hT X
  rcases vx_callI X hx (bytes := bytes) (maxL := maxL) ho hy1 hl hin hcode hy hK hg (hsize.trans hml.symm) (a := b) (argsL := As) (rest := rest) (fun sig h => hn.trans (hlen sig h)) hstack hW (by rw [hb]; exact hdg)
    (fun vm₁ hW₁ => ⟨hf.1, hf.2, hPc (T.setVm vm₁) hT hW₁⟩) with ⟨v, vm₁, ⟨U', l2, c2, s2⟩, hW₁, X', ⟨g', mk, t, L, e1, e2, hq, h1, hL, h2, h3⟩, st⟩ | ⟨q, vm₁, ⟨U', l2, c2, s2⟩, hW₁, X', ⟨g', mk, t, L, E, ce, e1, e2, hq, hce, hcv, hcl, h1, hL, h2, h3⟩, st⟩
  · dsimp only [Pt.U, Pt.locs, Pt.cells, Pt.slots] at X' e1 e2 h1 h2 h3 st
    subst h1; subst h2; subst h3
    exact Or.inl ⟨v, (T.setVm vm₁).calling g' mk (Value.ref b :: As).toArray, t, U', L, hT, X', hL, e1, e2, hq, st⟩
  · dsimp only [Pt.U, Pt.locs, Pt.cells, Pt.slots] at X' e1 e2 h1 h2 h3 st hcl
    subst h1; subst h2; subst h3
    exact Or.inr ⟨q, (T.setVm vm₁).calling g' mk (Value.ref b :: As).toArray, t, U', L, E, ce, hT, X', hL, e1, e2, hq, hce, hcv, vx_cls hW₁ hcl, st⟩
end VXIB
/-! ===== END ===== -/
/-! ===== BEGIN a private constructor of a nest mate that throws ===== -/
section VXIC
variable {p : Program} {l : Launch} {e : Env} {R : Room} {s : State} {m : MethodId} {args : Array Value} {below : List Frame} {meth : Method} {c : Code} {T : State} {locs : List Loc} {cells slots : Nat}
theorem vx_callIN (X : Stand p l e R s m args below meth c T locs cells slots) (hexec : p.tables.exec = Jvm.exec) {own : String} {index : Nat} {host : String} {y : MethodName} {bytes : ByteArray} {maxL : Nat}
    (hown : s.vm.findClass own = some m.cls) (hy1 : y.name = "<init>") (hlink : (Cond.methodLinkNest own index y host).before args s = true) (hinst : (Cond.instanceMethod y).before args s = true)
    (hcode : (Cond.code y bytes maxL none).before args s = true) (hy : y.cls ≠ "java/lang/invoke/MethodHandle" ∧ y.cls ≠ "java/lang/invoke/VarHandle")
    {W9 : Nat} {Pre : Pt → Array Value → Prop} {Post : Pt → Array Value → Option Value → Pt → Prop} {PostX : Pt → Array Value → Addr → Pt → Prop} (hK : vx_Back l R p e below s args y 3 W9 Pre Post PostX)
    {g : JFrame} (hg : g.method = m) (hsize : g.locals.size = c.maxLocals) {a : Addr} {argsL rest : List Value} (hlen : ∀ sig, parseMethodDescriptor y.desc = some sig → argsL.length = sig.parameters.length)
    (hstack : g.stack = argsL.reverse ++ .ref a :: rest) (hW : 2 * g.monitorRoom + (rest.map fun v => v.category).sum ≤ W9) (hdg : decode c.code g.pc = .ok (.invokespecial index, 3))
    (hpre : ∀ vm₁, s.WarmedH vm₁ → Pre ⟨T.setVm vm₁, locs, cells, slots⟩ (Value.ref a :: argsL).toArray) :
    (∃ (v : Option Value) (vm₁ : Vm) (B : Pt), s.WarmedH vm₁ ∧ Stand p l e R s m args below meth c B.U B.locs B.cells B.slots ∧ Post ⟨T.setVm vm₁, locs, cells, slots⟩ (Value.ref a :: argsL).toArray v B ∧
      ∀ target, Steps p.tables e below (B.U.setTop { g with pc := g.pc + 3, stack := v.toList ++ rest }) target → Steps p.tables e below (T.setTop g) target) ∨
    (∃ (q : Addr) (vm₁ : Vm) (B : Pt), s.WarmedH vm₁ ∧ Stand p l e R s m args below meth c B.U B.locs B.cells B.slots ∧ PostX ⟨T.setVm vm₁, locs, cells, slots⟩ (Value.ref a :: argsL).toArray q B ∧
      Steps p.tables e below (T.setTop g) ((B.U.setTop { g with stack := rest }).pushFrame (.throwing q))) := by
  subst hg
  have hpl : e.platform.magicAccessors = ({} : Platform).magicAccessors := by rw [X.admits.platform]
  obtain ⟨mk, methM, cM, kP, vm₁, hnamed, hmethM, hcodeM, -, hlocalsM, -, hkP, -, hW₁, hstep₁⟩ := Steps.initColdArgsNest (e := e) X.here hexec X.warmed hpl hown hy1 hy hlink hinst hcode (f := g) rfl hlen hstack hdg
  have X₁ := X.noted hW₁
  rcases hK g.method meth c ⟨T.setVm vm₁, locs, cells, slots⟩ { g with stack := rest } (.invokespecial index) mk (Value.ref a :: argsL).toArray X₁ rfl hsize hdg hW (X₁.named hnamed) (hpre vm₁ X₁.warmed) with ⟨v, B, X', hpost, hsteps⟩ | ⟨q, B, X', hpost, hsteps⟩
  · exact Or.inl ⟨v, vm₁, B, X₁.warmed, X', hpost, fun target h => hstep₁ _ fun acts => by rw [doInvoke_state]; exact hsteps.trans h⟩
  · exact Or.inr ⟨q, vm₁, B, X₁.warmed, X', hpost, hstep₁ _ fun acts => by rw [doInvoke_state]; exact hsteps⟩
end VXIC
section VXID
variable {p : Program} {l : Launch} {e : Env} {R : Room} {s : State} {m : MethodId} {args : Array Value} {below : List Frame} {meth : Method} {c : Code} {H : Heap} {locs : List Loc} {cells slots : Nat}
theorem vx_runIN {y : MethodName} {bytes cc : ByteArray} {maxL nL mc ms n index : Nat} {ws : List Cond} {rm : Room} {Pc : Array Value → State → Prop} {Qc : Array Value → State → Outcome → State → Prop} {XC : String → State → State → Prop} {free : Addr → Prop} {Ts : List Cond} {own host : String} {b : Addr} {As rest : List Value} {g : JFrame}
    (S : CallFix p m c cc nL s args Ts own) (hM : vx_Met l y ws rm Pc Qc XC mc ms free) (cw : va_CN R s args own index y host bytes maxL none ws rm mc ms n ∧ y.name = "<init>" ∧ (Cond.instanceMethod y).before args s = true) (hp : PreS s H Pc (.ref b :: As))
    (hg : g.method = m) (hn : As.length = n) (hsize : g.locals.size = nL) (hstack : g.stack = As.reverse ++ .ref b :: rest) (hW : 2 * g.monitorRoom + (rest.map fun v => v.category).sum ≤ 8) (hdg : decode cc g.pc = .ok (.invokespecial index, 3)) (hf : cells + mc ≤ R.cells ∧ slots + ms ≤ R.slots) :
    vx_Run p l e R s m args below meth c H locs cells slots mc ms g rest (Qc (Value.ref b :: As).toArray) XC free := by
  obtain ⟨⟨⟨hrc, hrs, hfr, hlo, hws, hcw⟩, hcode, hini, hy, hlen, hl⟩, hx1, hx2⟩ := cw
  have hK : vx_Back l R p e below s args y 3 8 (PreOf R mc ms Pc) (PostOf Qc mc ms free) (vx_Post XC mc ms free) := vx_back (bytes := bytes) (maxL := maxL) (ret := none) hM hp.1 hrc hrs hfr hlo hws hcw (fun a' U hW => word_at hW (Or.inl (by first | rfl | simp [Cond.onTables, Cond.keeps, Cond.steady])) hini)
  obtain ⟨hx, hb, hml, ho, -⟩ := S
  have hPc := hp.2
  intro T hT X
  rcases vx_callIN X hx (bytes := bytes) (maxL := maxL) ho hx1 hl hx2 hcode hy hK hg (hsize.trans hml.symm) (a := b) (argsL := As) (rest := rest) (fun sig h => hn.trans (hlen sig h)) hstack hW (by rw [hb]; exact hdg)
    (fun vm₁ hW₁ => ⟨hf.1, hf.2, hPc (T.setVm vm₁) hT hW₁⟩) with ⟨v, vm₁, ⟨U', l2, c2, s2⟩, hW₁, X', ⟨g', mk, t, L, e1, e2, hq, h1, hL, h2, h3⟩, st⟩ | ⟨q, vm₁, ⟨U', l2, c2, s2⟩, hW₁, X', ⟨g', mk, t, L, E, ce, e1, e2, hq, hce, hcv, hcl, h1, hL, h2, h3⟩, st⟩
  · dsimp only [Pt.U, Pt.locs, Pt.cells, Pt.slots] at X' e1 e2 h1 h2 h3 st
    subst h1; subst h2; subst h3
    exact Or.inl ⟨v, (T.setVm vm₁).calling g' mk (Value.ref b :: As).toArray, t, U', L, hT, X', hL, e1, e2, hq, st⟩
  · dsimp only [Pt.U, Pt.locs, Pt.cells, Pt.slots] at X' e1 e2 h1 h2 h3 st hcl
    subst h1; subst h2; subst h3
    exact Or.inr ⟨q, (T.setVm vm₁).calling g' mk (Value.ref b :: As).toArray, t, U', L, E, ce, hT, X', hL, e1, e2, hq, hce, hcv, vx_cls hW₁ hcl, st⟩
end VXID
/-! ===== END ===== -/
/-! ===== BEGIN a private method of a nest mate that may throw (follows va_callVN, va_callSN, va_runVN, va_runSN) ===== -/
section
variable {p : Program} {l : Launch} {e : Env} {R : Room} {s : State} {m : MethodId} {args : Array Value} {below : List Frame} {meth : Method} {c : Code} {H : Heap} {locs : List Loc} {cells slots : Nat}
variable {T : State}
theorem vx_callVN (X : Stand p l e R s m args below meth c T locs cells slots) (hexec : p.tables.exec = Jvm.exec) {own C : String} {index : Nat} {host : String} {y : MethodName} {bytes : ByteArray} {maxL : Nat} {ret : Option FieldType}
    (hown : s.vm.findClass own = some m.cls) (hlink : (Cond.methodLinkNest own index y host).before args s = true) (hinst : (Cond.instanceMethod y).before args s = true) (hsel : (Cond.selects C y y).before args s = true)
    (hcode : (Cond.code y bytes maxL ret).before args s = true) (hy : y.cls ≠ "java/lang/invoke/MethodHandle" ∧ y.cls ≠ "java/lang/invoke/VarHandle")
    {W : Nat} {Pre : Pt → Array Value → Prop} {Post : Pt → Array Value → Option Value → Pt → Prop} {PostX : Pt → Array Value → Addr → Pt → Prop} (hK : vx_Back l R p e below s args y 3 W Pre Post PostX)
    {b : Addr} {cellB : Cell} (hcell : T.heap[b]? = some cellB) (hobj : cellB.vm.isStatics = false) (hcls : s.vm.findClass C = some cellB.cls)
    {g : JFrame} (hg : g.method = m) (hsize : g.locals.size = c.maxLocals) {argsL rest : List Value} (hlen : ∀ sig, parseMethodDescriptor y.desc = some sig → argsL.length = sig.parameters.length)
    (hstack : g.stack = argsL.reverse ++ .ref b :: rest) (hW : 2 * g.monitorRoom + (rest.map fun v => v.category).sum ≤ W) (hdg : decode c.code g.pc = .ok (.invokevirtual index, 3))
    (hpre : ∀ vm₁, s.WarmedH vm₁ → Pre ⟨T.setVm vm₁, locs, cells, slots⟩ (Value.ref b :: argsL).toArray) :
    (∃ (v : Option Value) (vm₁ : Vm) (B : Pt), s.WarmedH vm₁ ∧ Stand p l e R s m args below meth c B.U B.locs B.cells B.slots ∧ Post ⟨T.setVm vm₁, locs, cells, slots⟩ (Value.ref b :: argsL).toArray v B ∧
      ∀ target, Steps p.tables e below (B.U.setTop { g with pc := g.pc + 3, stack := v.toList ++ rest }) target → Steps p.tables e below (T.setTop g) target) ∨
    (∃ (q : Addr) (vm₁ : Vm) (B : Pt), s.WarmedH vm₁ ∧ Stand p l e R s m args below meth c B.U B.locs B.cells B.slots ∧ PostX ⟨T.setVm vm₁, locs, cells, slots⟩ (Value.ref b :: argsL).toArray q B ∧
      Steps p.tables e below (T.setTop g) ((B.U.setTop { g with stack := rest }).pushFrame (.throwing q))) := by
  obtain ⟨mk, methM, hnamed, hmethM, hstM, habM⟩ := Cond.instanceMethod_spec hinst
  obtain ⟨methM', cM, hmethM', -, -, -, -, -, -, hsigM⟩ := Cond.code_spec hnamed hcode
  cases hmethM.symm.trans hmethM'
  obtain ⟨c2, r2, m2, q1, q2, q3, q4, kP, hkP, hkPi⟩ := Cond.selects_spec hsel
  cases hcls.symm.trans q1
  cases (State.methodFound?_of_named hnamed hy).symm.trans q2
  cases hnamed.symm.trans q3
  have hselP : selectMethod e.platform s.vm cellB.cls mk = .method mk := by rw [Launch.admits_selectMethod X.admits]; exact q4
  obtain ⟨vm₁, X₁, hstep₁⟩ := X.invokevirtualNest hexec hown hlink hnamed hmethM hstM hkP hkPi hy (a := b) (cell := cellB) hcell
    (fun z h => by rw [h] at hobj; cases hobj) hselP hmethM habM hkP hkPi (g := g) hg (argsL := argsL) (rest := rest) (hlen _ hsigM) hstack hdg
  rcases hK m meth c ⟨T.setVm vm₁, locs, cells, slots⟩ { g with stack := rest } (.invokevirtual index) mk (Value.ref b :: argsL).toArray X₁ hg hsize hdg hW (X₁.named hnamed) (hpre vm₁ X₁.warmed) with ⟨v, B, X', hpost, hsteps⟩ | ⟨q, B, X', hpost, hsteps⟩
  · exact Or.inl ⟨v, vm₁, B, X₁.warmed, X', hpost, fun target h => hstep₁ _ fun acts => by rw [doInvoke_state]; exact hsteps.trans h⟩
  · exact Or.inr ⟨q, vm₁, B, X₁.warmed, X', hpost, hstep₁ _ fun acts => by rw [doInvoke_state]; exact hsteps⟩
theorem vx_callSN (X : Stand p l e R s m args below meth c T locs cells slots) (hexec : p.tables.exec = Jvm.exec) {own : String} {index : Nat} {host : String} {y : MethodName} {bytes : ByteArray} {maxL : Nat} {ret : Option FieldType}
    (hown : s.vm.findClass own = some m.cls) (hlink : (Cond.methodLinkNest own index y host).before args s = true) (hstat : (Cond.static y).before args s = true) (hinit : (Cond.initialized y.cls).before args s = true)
    (hcode : (Cond.code y bytes maxL ret).before args s = true) (hy : y.cls ≠ "java/lang/invoke/MethodHandle" ∧ y.cls ≠ "java/lang/invoke/VarHandle")
    {W : Nat} {Pre : Pt → Array Value → Prop} {Post : Pt → Array Value → Option Value → Pt → Prop} {PostX : Pt → Array Value → Addr → Pt → Prop} (hK : vx_Back l R p e below s args y 3 W Pre Post PostX)
    {g : JFrame} (hg : g.method = m) (hsize : g.locals.size = c.maxLocals) {argsL rest : List Value} (hlen : ∀ sig, parseMethodDescriptor y.desc = some sig → argsL.length = sig.parameters.length)
    (hstack : g.stack = argsL.reverse ++ rest) (hW : 2 * g.monitorRoom + (rest.map fun v => v.category).sum ≤ W) (hdg : decode c.code g.pc = .ok (.invokestatic index, 3))
    (hpre : ∀ vm₁, s.WarmedH vm₁ → Pre ⟨T.setVm vm₁, locs, cells, slots⟩ argsL.toArray) :
    (∃ (v : Option Value) (vm₁ : Vm) (B : Pt), s.WarmedH vm₁ ∧ Stand p l e R s m args below meth c B.U B.locs B.cells B.slots ∧ Post ⟨T.setVm vm₁, locs, cells, slots⟩ argsL.toArray v B ∧
      ∀ target, Steps p.tables e below (B.U.setTop { g with pc := g.pc + 3, stack := v.toList ++ rest }) target → Steps p.tables e below (T.setTop g) target) ∨
    (∃ (q : Addr) (vm₁ : Vm) (B : Pt), s.WarmedH vm₁ ∧ Stand p l e R s m args below meth c B.U B.locs B.cells B.slots ∧ PostX ⟨T.setVm vm₁, locs, cells, slots⟩ argsL.toArray q B ∧
      Steps p.tables e below (T.setTop g) ((B.U.setTop { g with stack := rest }).pushFrame (.throwing q))) := by
  obtain ⟨mk, hnamed⟩ := Cond.code_named hcode
  obtain ⟨methM, cM, hmethM, -, -, -, -, -, -, hsigM⟩ := Cond.code_spec hnamed hcode
  have hstatic : methM.isStatic = true := Cond.static_spec hnamed hmethM hstat
  obtain ⟨kP, hkP, -⟩ := className_of_methodNamed hnamed
  have hinitP : kP.init = .initialized := Cond.initialized_spec (findClass_of_methodNamed hnamed) hkP hinit
  obtain ⟨vm₁, X₁, hstep₁⟩ := X.invokestaticNest hexec hown hlink hnamed hmethM hstatic hkP hinitP hy (g := g) hg (argsL := argsL) (rest := rest) (hlen _ hsigM) hstack hdg
  rcases hK m meth c ⟨T.setVm vm₁, locs, cells, slots⟩ { g with stack := rest } (.invokestatic index) mk argsL.toArray X₁ hg hsize hdg hW (X₁.named hnamed) (hpre vm₁ X₁.warmed) with ⟨v, B, X', hpost, hsteps⟩ | ⟨q, B, X', hpost, hsteps⟩
  · exact Or.inl ⟨v, vm₁, B, X₁.warmed, X', hpost, fun target h => hstep₁ _ fun acts => by rw [doInvoke_state]; exact hsteps.trans h⟩
  · exact Or.inr ⟨q, vm₁, B, X₁.warmed, X', hpost, hstep₁ _ fun acts => by rw [doInvoke_state]; exact hsteps⟩
theorem vx_runVN {y : MethodName} {bytes cc : ByteArray} {maxL nL mc ms n index : Nat} {ret : Option FieldType} {ws : List Cond} {rm : Room} {Pc : Array Value → State → Prop} {Qc : Array Value → State → Outcome → State → Prop} {XC : String → State → State → Prop} {free : Addr → Prop} {Ts : List Cond} {own C host : String} {b : Addr} {As rest : List Value} {g : JFrame}
    (S : CallFix p m c cc nL s args Ts own) (hM : vx_Met l y ws rm Pc Qc XC mc ms free) (cw : va_CN R s args own index y host bytes maxL ret ws rm mc ms n ∧ (Cond.instanceMethod y).before args s = true ∧ (Cond.selects C y y).before args s = true) (hp : PreV s H C b Pc As)
    (hg : g.method = m) (hn : As.length = n) (hsize : g.locals.size = nL) (hstack : g.stack = As.reverse ++ .ref b :: rest) (hW : 2 * g.monitorRoom + (rest.map fun v => v.category).sum ≤ 8) (hdg : decode cc g.pc = .ok (.invokevirtual index, 3)) (hf : cells + mc ≤ R.cells ∧ slots + ms ≤ R.slots) :
    vx_Run p l e R s m args below meth c H locs cells slots mc ms g rest (Qc (Value.ref b :: As).toArray) XC free := by
  obtain ⟨⟨⟨hrc, hrs, hfr, hlo, hws, hcw⟩, hcode, hini, hy, hlen, hl⟩, hx1, hx2⟩ := cw
  have hK : vx_Back l R p e below s args y 3 8 (PreOf R mc ms Pc) (PostOf Qc mc ms free) (vx_Post XC mc ms free) := vx_back (bytes := bytes) (maxL := maxL) (ret := ret) hM hp.1 hrc hrs hfr hlo hws hcw (fun a' U hW => word_at hW (Or.inl (by first | rfl | simp [Cond.onTables, Cond.keeps, Cond.steady])) hini)
  obtain ⟨hx, hb, hml, ho, -⟩ := S
  obtain ⟨-, ⟨cellB, hcB, hoB, hclB⟩, hPc⟩ := hp
  intro T hT X
  rcases vx_callVN X hx (C := C) (bytes := bytes) (maxL := maxL) (ret := ret) ho hl hx1 hx2 hcode hy hK (by rw [hT]; exact hcB) hoB hclB hg (hsize.trans hml.symm) (argsL := As) (rest := rest) (fun sig h => hn.trans (hlen sig h)) hstack hW (by rw [hb]; exact hdg)
    (fun vm₁ hW₁ => ⟨hf.1, hf.2, hPc (T.setVm vm₁) hT hW₁⟩) with ⟨v, vm₁, ⟨U', l2, c2, s2⟩, hW₁, X', ⟨g', mk, t, L, e1, e2, hq, h1, hL, h2, h3⟩, st⟩ | ⟨q, vm₁, ⟨U', l2, c2, s2⟩, hW₁, X', ⟨g', mk, t, L, E, ce, e1, e2, hq, hce, hcv, hcl, h1, hL, h2, h3⟩, st⟩
  · dsimp only [Pt.U, Pt.locs, Pt.cells, Pt.slots] at X' e1 e2 h1 h2 h3 st
    subst h1; subst h2; subst h3
    exact Or.inl ⟨v, (T.setVm vm₁).calling g' mk (Value.ref b :: As).toArray, t, U', L, hT, X', hL, e1, e2, hq, st⟩
  · dsimp only [Pt.U, Pt.locs, Pt.cells, Pt.slots] at X' e1 e2 h1 h2 h3 st hcl
    subst h1; subst h2; subst h3
    exact Or.inr ⟨q, (T.setVm vm₁).calling g' mk (Value.ref b :: As).toArray, t, U', L, E, ce, hT, X', hL, e1, e2, hq, hce, hcv, vx_cls hW₁ hcl, st⟩
theorem vx_runSN {y : MethodName} {bytes cc : ByteArray} {maxL nL mc ms n index : Nat} {ret : Option FieldType} {ws : List Cond} {rm : Room} {Pc : Array Value → State → Prop} {Qc : Array Value → State → Outcome → State → Prop} {XC : String → State → State → Prop} {free : Addr → Prop} {Ts : List Cond} {own host : String} {As rest : List Value} {g : JFrame}
    (S : CallFix p m c cc nL s args Ts own) (hM : vx_Met l y ws rm Pc Qc XC mc ms free) (cw : va_CN R s args own index y host bytes maxL ret ws rm mc ms n ∧ (Cond.static y).before args s = true ∧ True) (hp : PreS s H Pc As)
    (hg : g.method = m) (hn : As.length = n) (hsize : g.locals.size = nL) (hstack : g.stack = As.reverse ++ rest) (hW : 2 * g.monitorRoom + (rest.map fun v => v.category).sum ≤ 8) (hdg : decode cc g.pc = .ok (.invokestatic index, 3)) (hf : cells + mc ≤ R.cells ∧ slots + ms ≤ R.slots) :
    vx_Run p l e R s m args below meth c H locs cells slots mc ms g rest (Qc As.toArray) XC free := by
  obtain ⟨⟨⟨hrc, hrs, hfr, hlo, hws, hcw⟩, hcode, hini, hy, hlen, hl⟩, hx1, hx2⟩ := cw
  have hK : vx_Back l R p e below s args y 3 8 (PreOf R mc ms Pc) (PostOf Qc mc ms free) (vx_Post XC mc ms free) := vx_back (bytes := bytes) (maxL := maxL) (ret := ret) hM hp.1 hrc hrs hfr hlo hws hcw (fun a' U hW => word_at hW (Or.inl (by first | rfl | simp [Cond.onTables, Cond.keeps, Cond.steady])) hini)
  obtain ⟨hx, hb, hml, ho, -⟩ := S
  have hPc := hp.2
  intro T hT X
  rcases vx_callSN X hx (bytes := bytes) (maxL := maxL) (ret := ret) ho hl hx1 hini hcode hy hK hg (hsize.trans hml.symm) (argsL := As) (rest := rest) (fun sig h => hn.trans (hlen sig h)) hstack hW (by rw [hb]; exact hdg)
    (fun vm₁ hW₁ => ⟨hf.1, hf.2, hPc (T.setVm vm₁) hT hW₁⟩) with ⟨v, vm₁, ⟨U', l2, c2, s2⟩, hW₁, X', ⟨g', mk, t, L, e1, e2, hq, h1, hL, h2, h3⟩, st⟩ | ⟨q, vm₁, ⟨U', l2, c2, s2⟩, hW₁, X', ⟨g', mk, t, L, E, ce, e1, e2, hq, hce, hcv, hcl, h1, hL, h2, h3⟩, st⟩
  · dsimp only [Pt.U, Pt.locs, Pt.cells, Pt.slots] at X' e1 e2 h1 h2 h3 st
    subst h1; subst h2; subst h3
    exact Or.inl ⟨v, (T.setVm vm₁).calling g' mk As.toArray, t, U', L, hT, X', hL, e1, e2, hq, st⟩
  · dsimp only [Pt.U, Pt.locs, Pt.cells, Pt.slots] at X' e1 e2 h1 h2 h3 st hcl
    subst h1; subst h2; subst h3
    exact Or.inr ⟨q, (T.setVm vm₁).calling g' mk As.toArray, t, U', L, E, ce, hT, X', hL, e1, e2, hq, hce, hcv, vx_cls hW₁ hcl, st⟩
end
/-! ===== END ===== -/
theorem cP_blind {g : Gl} {sz : Nat} {ws : va_W} {args : List Value} : FrameBlind (cP g sz ws args) := fun a U f mk h => by
  obtain ⟨rfl, h1, h2, h3, h4, h5⟩ := h
  exact ⟨rfl, h1, h2, va_K.moved (u := U) (U := U.calling f mk _) (Vm.Alike.refl U.vm) h3, h4, GH.same (u := U) (U := U.calling f mk _) rfl h5⟩
theorem cP_at {g : Gl} {A : Nat → Prop} {s U : State} {H : Heap} {locs : List Loc} {wc : va_W} {args : List Value} (hU : U.heap = H) (hW : s.WarmedH U.vm) (hP : va_P g.1 vwCl wc H) (hK : va_K g.1 vwCl (gtys g) s) (hD : va_D A wc) (hS : va_S A s.heap H locs) (hG : GH g A s s.heap) (hF : ∀ q, va_A wc H.size q → A q) : cP g H.size wc args args.toArray U := by
  refine ⟨rfl, by rw [hU], by rw [hU]; exact hP, va_K.moved hW.alike hK, hD.weaken (fun _ _ _ _ => trivial), ?_⟩
  rw [hU]
  exact GH.moved hW ((hG.kept hS.2.1).narrow hF)
section RUNW
variable {p : Program} {l : Launch} {e : Env} {R : Room} {s : State} {m : MethodId} {args : Array Value} {below : List Frame} {meth : Method} {c : Code} {H : Heap} {locs : List Loc} {cells slots : Nat} {Q9 : State → Prop}
theorem run_W {g : Gl} {A : Nat → Prop} {ws wc wr : va_W} {Q : QT} {X : XT} {a : Array Value} {mc ms pc : Nat} {ls : Array Slot} {st0 rest : List Value} (isC isR : List Nat)
    (hr : vx_Run p l e R s m args below meth c H locs cells slots mc ms (F0 m pc ls st0) rest (cQ g H.size wc Q a) (cX g H.size wc X) (va_A wc H.size))
    (hP : va_P g.1 vwCl ws H) (hD : va_D A ws) (hS : va_S A s.heap H locs) (hA : ∀ q : Nat, s.heap.size ≤ q → A q) (hC : isC.map (fun i => ws[i]?) = wc.map some) (hR : isR.map (fun i => ws[i]?) = wr.map some) (hn : va_nd isR = true) (hdis : ∀ i ∈ isR, i ∉ isC)
    (kx : ∀ (E : String) (ce : Cell) (q9 : Addr) (w : va_W) (H1 : Heap) (locs1 : List Loc), X E w → va_P g.1 vwCl (wr ++ w) H1 → va_D A (wr ++ w) → va_S A s.heap H1 locs1 → H1[q9]? = some ce → ce.vm = .none → s.vm.findClass E = some ce.cls → vx_W p l e R s m args below meth c H1 locs1 (cells + mc) (slots + ms) Q9 (F0 m pc ls rest) q9)
    (kk : ∀ (v : Option Value) (w : va_W) (H1 : Heap) (locs1 : List Loc), Q v w → va_P g.1 vwCl (wr ++ w) H1 → va_D A (wr ++ w) → va_S A s.heap H1 locs1 → W p l e R s m args below meth c H1 locs1 (cells + mc) (slots + ms) Q9 (F0 m (pc + 3) ls (v.toList ++ rest))) :
    W p l e R s m args below meth c H locs cells slots Q9 (F0 m pc ls st0) := by
  have hFc := va_free (wc := wc) hD hS hA isC hC
  intro T hT X0
  rcases hr T hT X0 with ⟨v, st₀, t, T', L, h0, X', hL, e1, e2, ⟨⟨v2, w, hv, hq, hPw, hDw⟩, hF⟩, st⟩ | ⟨q, st₀, t, T', L, E, ce, h0, X', hL, e1, e2, ⟨⟨w, hxw, hPw, hDw⟩, hF⟩, hce, hcv, hcl, st⟩
  · cases hv
    obtain ⟨k1, k2, k3⟩ := vx_keep (A0 := A) h0 e1 hS (fun q _ h => hFc q h) hFc hL hF
    rw [← e1] at hPw
    obtain ⟨hP2, hD2⟩ := va_join hP hD isC isR hC hR hn hdis k2 hFc hPw hDw
    obtain ⟨t2, a1, b1⟩ := kk _ w T'.heap (locs ++ L) hq hP2 hD2 k3 T' rfl X'
    exact ⟨t2, st t2 a1, b1⟩
  · obtain ⟨k1, k2, k3⟩ := vx_keep (A0 := A) h0 e1 hS (fun q _ h => hFc q h) hFc hL hF
    rw [← e1] at hPw
    obtain ⟨hP2, hD2⟩ := va_join hP hD isC isR hC hR hn hdis k2 hFc hPw hDw
    obtain ⟨t2, a1, b1⟩ := kx E ce q w T'.heap (locs ++ L) hxw hP2 hD2 k3 (by rw [e1]; exact hce) hcv hcl T' rfl X'
    exact ⟨t2, st.trans a1, b1⟩
end RUNW
/-- what a call needs of its callee's tables -/
def MF (y : MethodName) (cc : ByteArray) (nL : Nat) (ret : Option FieldType) (n : Nat) : Prop := Cond.code y cc nL ret ∈ GT ∧ Cond.initialized y.cls ∈ GT ∧ (y.cls ≠ "java/lang/invoke/MethodHandle" ∧ y.cls ≠ "java/lang/invoke/VarHandle" ∧ (parseMethodDescriptor y.desc).map (fun d => d.parameters.length) = some n)
theorem wsV_good {own : String} {ix : Nat} {y : MethodName} {cc : ByteArray} {nL n : Nat} {ret : Option FieldType} (mf : MF y cc nL ret n) (h1 : Cond.methodLink own ix y ∈ GT) (h2 : Cond.instanceMethod y ∈ GT) (h3 : Cond.selects y.cls y y ∈ GT) : GoodIn GT (wsV own ix y.cls y (wsM y cc nL ret)) := by
  intro w hw
  unfold wsV at hw
  rcases List.mem_append.mp hw with h | h
  · have h9 : w ∈ GT := by
      simp only [List.mem_cons, List.not_mem_nil, or_false] at h
      rcases h with h | h | h | h
      · rw [h]; exact h1
      · rw [h]; exact h2
      · rw [h]; exact h3
      · rw [h]; exact mf.2.1
    exact ⟨h9, good_of_word (gt_good h9)⟩
  · exact wsM_good mf.1 w h
theorem wsS_good {own : String} {ix : Nat} {y : MethodName} {cc : ByteArray} {nL n : Nat} {ret : Option FieldType} (mf : MF y cc nL ret n) (hy : y.cls = own) (h1 : Cond.methodLink own ix y ∈ GT) (h2 : Cond.static y ∈ GT) : GoodIn GT (wsS own ix y (wsM y cc nL ret)) := by
  intro w hw
  unfold wsS at hw
  rcases List.mem_append.mp hw with h | h
  · have h9 : w ∈ GT := by
      simp only [List.mem_cons, List.not_mem_nil, or_false] at h
      rcases h with h | h | h
      · rw [h]; exact h1
      · rw [h]; exact h2
      · rw [h, ← hy]; exact mf.2.1
    exact ⟨h9, good_of_word (gt_good h9)⟩
  · exact wsM_good mf.1 w h


section AWCR
variable {l : Launch} {g : Gl} {own nm : String} {cc : ByteArray} {nL : Nat} {ret : Option FieldType} {R : Room} {ws0 : va_W} {Q0 : QT} {X0 : XT} {A : Nat → Prop} {H0 : Heap} {K : KT} {pc : Nat} {lv : List (Option Value)} {ws : va_W} {cn sn : Nat}

theorem A_callVB (ok : OkB l g own nm cc nL ret R A H0 K) (isC isR : List Nat) {y : MethodName} {bytes : ByteArray} {maxL n ix fr lo mc ms : Nat} {rt : Option FieldType} {wc wr : va_W} {Q : QT} {X : XT} {b : Nat} {As rest : List Value} (mf : MF y bytes maxL rt n) (hlk9 : Cond.methodLink own ix y ∈ GT) (hin : Cond.instanceMethod y ∈ GT) (hse : Cond.selects y.cls y y ∈ GT) {ci N9 q9 : Nat} {T9 : u_T} {ty9 : Nat → FieldType} {fs : List Value} (cf : CF ci y.cls T9 N9 ty9) (gq : Gp q9 ws (b, .inr (ci, fs))) (hct : Ct l g y bytes maxL rt fr lo mc ms (.ref b :: As) wc Q X) (hn9 : As.length = n) (hndC : va_nd isC = true) {st0 : List Value} (hstk : st0 = As.reverse ++ .ref b :: rest) (d : decode cc pc = .ok (.invokevirtual ix, 3))
     (hC : isC.map (fun i => ws[i]?) = wc.map some) (hRr : isR.map (fun i => ws[i]?) = wr.map some) (hnd : va_nd isR = true) (hdis : ∀ i ∈ isR, i ∉ isC) (hst : (rest.map fun v => v.category).sum ≤ 8) (hfr : fr + 1 ≤ R.frames ∧ 8 + (maxL + 11) + lo ≤ R.locals) (hmk : cn + mc ≤ R.cells ∧ sn + ms ≤ R.slots)
    (hX : ∀ (E : String) (w : va_W), ¬ X E w)
    (kk : ∀ (v : Option Value) (w : va_W), Q v w → AW g A H0 nL K (pc + 3) lv (v.toList ++ rest) (wr ++ w) (cn + mc) (sn + ms)) : AW g A H0 nL K pc lv st0 ws cn sn := by
  obtain ⟨p, e, s, m, args, below, meth, c, Q, rfl, rfl, hx, hb, hml, hown, hts, hr, hlk, hKn, hG, hA, hnm⟩ := ok
  intro H locs ls hP hD hS hl
  have hFc := va_free (wc := wc) hD hS hA isC hC
  have hPc : va_P g.1 vwCl wc H := hP.pick isC hC
  exact run_W isC isR (vx_runV (As := As) (rest := rest) ⟨hx, hb, hml, hown, hts⟩ (hct H.size) (cwV n hts (wsV_good mf hlk9 hin hse) rfl rfl rfl ⟨rfl, mf.2.2⟩ hfr) ⟨cP_blind, va_recv hKn hP cf.1 gq, fun U hU hW => cP_at hU hW hPc hKn (hD.sub isC hndC hC) hS hG hFc⟩ rfl hn9 hl.1 hstk (lv_room hst) d hmk) hP hD hS hA hC hRr hnd hdis
    (fun E ce q9 w H1 locs1 hxw hP2 hD2 hS2 h1 h2 h3 => (hX E w hxw).elim)
    (fun v w H1 locs1 hq hP2 hD2 hS2 => kk v w hq H1 locs1 ls hP2 hD2 hS2 hl)

theorem A_callVR (ok : OkR l g own nm cc nL ret R ws0 Q0 X0 A H0 K) (isC isR : List Nat) {y : MethodName} {bytes : ByteArray} {maxL n ix fr lo mc ms : Nat} {rt : Option FieldType} {wc wr : va_W} {Q : QT} {X : XT} {b : Nat} {As rest : List Value} (mf : MF y bytes maxL rt n) (hlk9 : Cond.methodLink own ix y ∈ GT) (hin : Cond.instanceMethod y ∈ GT) (hse : Cond.selects y.cls y y ∈ GT) {ci N9 q9 : Nat} {T9 : u_T} {ty9 : Nat → FieldType} {fs : List Value} (cf : CF ci y.cls T9 N9 ty9) (gq : Gp q9 ws (b, .inr (ci, fs))) (hct : Ct l g y bytes maxL rt fr lo mc ms (.ref b :: As) wc Q X) (hn9 : As.length = n) (hndC : va_nd isC = true) {st0 : List Value} (hstk : st0 = As.reverse ++ .ref b :: rest) (d : decode cc pc = .ok (.invokevirtual ix, 3))
     (hC : isC.map (fun i => ws[i]?) = wc.map some) (hRr : isR.map (fun i => ws[i]?) = wr.map some) (hnd : va_nd isR = true) (hdis : ∀ i ∈ isR, i ∉ isC) (hst : (rest.map fun v => v.category).sum ≤ 8) (hfr : fr + 1 ≤ R.frames ∧ 8 + (maxL + 11) + lo ≤ R.locals) (hmk : cn + mc ≤ R.cells ∧ sn + ms ≤ R.slots)
    (hX : ∀ (E : String) (w : va_W), X E w → X0 E (wr ++ w))
    (kk : ∀ (v : Option Value) (w : va_W), Q v w → AW g A H0 nL K (pc + 3) lv (v.toList ++ rest) (wr ++ w) (cn + mc) (sn + ms)) : AW g A H0 nL K pc lv st0 ws cn sn := by
  obtain ⟨p, e, s, m, args, below, meth, c, rfl, rfl, hx, hb, hml, hown, hts, hr, hlk, hKn, hG, hA, hnm, hAe, hex⟩ := ok
  intro H locs ls hP hD hS hl
  have hFc := va_free (wc := wc) hD hS hA isC hC
  have hPc : va_P g.1 vwCl wc H := hP.pick isC hC
  subst hAe
  exact run_W isC isR (vx_runV (As := As) (rest := rest) ⟨hx, hb, hml, hown, hts⟩ (hct H.size) (cwV n hts (wsV_good mf hlk9 hin hse) rfl rfl rfl ⟨rfl, mf.2.2⟩ hfr) ⟨cP_blind, va_recv hKn hP cf.1 gq, fun U hU hW => cP_at hU hW hPc hKn (hD.sub isC hndC hC) hS hG hFc⟩ rfl hn9 hl.1 hstk (lv_room hst) d hmk) hP hD hS hA hC hRr hnd hdis
    (fun E ce q9 w H1 locs1 hxw hP2 hD2 hS2 h1 h2 h3 => vx_out (fun x hx9 => (hex x hx9).elim) hlk h1 h2 h3 (fun t ht hv => ⟨⟨_, hX E w hxw, by rw [ht]; exact hP2, hD2⟩, hS2.F ht⟩) hS2.2.2 hmk.1 hmk.2)
    (fun v w H1 locs1 hq hP2 hD2 hS2 => kk v w hq H1 locs1 ls hP2 hD2 hS2 hl)

theorem A_callSB (ok : OkB l g own nm cc nL ret R A H0 K) (isC isR : List Nat) {y : MethodName} {bytes : ByteArray} {maxL n ix fr lo mc ms : Nat} {rt : Option FieldType} {wc wr : va_W} {Q : QT} {X : XT} {As rest : List Value} (mf : MF y bytes maxL rt n) (hlk9 : Cond.methodLink own ix y ∈ GT) (hsc : y.cls = own) (hin : Cond.static y ∈ GT)  (hct : Ct l g y bytes maxL rt fr lo mc ms As wc Q X) (hn9 : As.length = n) (hndC : va_nd isC = true) {st0 : List Value} (hstk : st0 = As.reverse ++ rest) (d : decode cc pc = .ok (.invokestatic ix, 3))
     (hC : isC.map (fun i => ws[i]?) = wc.map some) (hRr : isR.map (fun i => ws[i]?) = wr.map some) (hnd : va_nd isR = true) (hdis : ∀ i ∈ isR, i ∉ isC) (hst : (rest.map fun v => v.category).sum ≤ 8) (hfr : fr + 1 ≤ R.frames ∧ 8 + (maxL + 11) + lo ≤ R.locals) (hmk : cn + mc ≤ R.cells ∧ sn + ms ≤ R.slots)
    (hX : ∀ (E : String) (w : va_W), ¬ X E w)
    (kk : ∀ (v : Option Value) (w : va_W), Q v w → AW g A H0 nL K (pc + 3) lv (v.toList ++ rest) (wr ++ w) (cn + mc) (sn + ms)) : AW g A H0 nL K pc lv st0 ws cn sn := by
  obtain ⟨p, e, s, m, args, below, meth, c, Q, rfl, rfl, hx, hb, hml, hown, hts, hr, hlk, hKn, hG, hA, hnm⟩ := ok
  intro H locs ls hP hD hS hl
  have hFc := va_free (wc := wc) hD hS hA isC hC
  have hPc : va_P g.1 vwCl wc H := hP.pick isC hC
  exact run_W isC isR (vx_runS (As := As) (rest := rest) ⟨hx, hb, hml, hown, hts⟩ (hct H.size) (cwS n hts (wsS_good mf hsc hlk9 hin) rfl rfl rfl ⟨hsc, mf.2.2⟩ hfr) ⟨cP_blind, fun U hU hW => cP_at hU hW hPc hKn (hD.sub isC hndC hC) hS hG hFc⟩ rfl hn9 hl.1 hstk (lv_room hst) d hmk) hP hD hS hA hC hRr hnd hdis
    (fun E ce q9 w H1 locs1 hxw hP2 hD2 hS2 h1 h2 h3 => (hX E w hxw).elim)
    (fun v w H1 locs1 hq hP2 hD2 hS2 => kk v w hq H1 locs1 ls hP2 hD2 hS2 hl)

theorem A_callSR (ok : OkR l g own nm cc nL ret R ws0 Q0 X0 A H0 K) (isC isR : List Nat) {y : MethodName} {bytes : ByteArray} {maxL n ix fr lo mc ms : Nat} {rt : Option FieldType} {wc wr : va_W} {Q : QT} {X : XT} {As rest : List Value} (mf : MF y bytes maxL rt n) (hlk9 : Cond.methodLink own ix y ∈ GT) (hsc : y.cls = own) (hin : Cond.static y ∈ GT)  (hct : Ct l g y bytes maxL rt fr lo mc ms As wc Q X) (hn9 : As.length = n) (hndC : va_nd isC = true) {st0 : List Value} (hstk : st0 = As.reverse ++ rest) (d : decode cc pc = .ok (.invokestatic ix, 3))
     (hC : isC.map (fun i => ws[i]?) = wc.map some) (hRr : isR.map (fun i => ws[i]?) = wr.map some) (hnd : va_nd isR = true) (hdis : ∀ i ∈ isR, i ∉ isC) (hst : (rest.map fun v => v.category).sum ≤ 8) (hfr : fr + 1 ≤ R.frames ∧ 8 + (maxL + 11) + lo ≤ R.locals) (hmk : cn + mc ≤ R.cells ∧ sn + ms ≤ R.slots)
    (hX : ∀ (E : String) (w : va_W), X E w → X0 E (wr ++ w))
    (kk : ∀ (v : Option Value) (w : va_W), Q v w → AW g A H0 nL K (pc + 3) lv (v.toList ++ rest) (wr ++ w) (cn + mc) (sn + ms)) : AW g A H0 nL K pc lv st0 ws cn sn := by
  obtain ⟨p, e, s, m, args, below, meth, c, rfl, rfl, hx, hb, hml, hown, hts, hr, hlk, hKn, hG, hA, hnm, hAe, hex⟩ := ok
  intro H locs ls hP hD hS hl
  have hFc := va_free (wc := wc) hD hS hA isC hC
  have hPc : va_P g.1 vwCl wc H := hP.pick isC hC
  subst hAe
  exact run_W isC isR (vx_runS (As := As) (rest := rest) ⟨hx, hb, hml, hown, hts⟩ (hct H.size) (cwS n hts (wsS_good mf hsc hlk9 hin) rfl rfl rfl ⟨hsc, mf.2.2⟩ hfr) ⟨cP_blind, fun U hU hW => cP_at hU hW hPc hKn (hD.sub isC hndC hC) hS hG hFc⟩ rfl hn9 hl.1 hstk (lv_room hst) d hmk) hP hD hS hA hC hRr hnd hdis
    (fun E ce q9 w H1 locs1 hxw hP2 hD2 hS2 h1 h2 h3 => vx_out (fun x hx9 => (hex x hx9).elim) hlk h1 h2 h3 (fun t ht hv => ⟨⟨_, hX E w hxw, by rw [ht]; exact hP2, hD2⟩, hS2.F ht⟩) hS2.2.2 hmk.1 hmk.2)
    (fun v w H1 locs1 hq hP2 hD2 hS2 => kk v w hq H1 locs1 ls hP2 hD2 hS2 hl)

theorem A_callIB (ok : OkB l g own nm cc nL ret R A H0 K) (isC isR : List Nat) {y : MethodName} {bytes : ByteArray} {maxL n ix fr lo mc ms : Nat} {wc wr : va_W} {Q : QT} {X : XT} {b : Nat} {As rest : List Value} (mf : MF y bytes maxL none n) (hlk9 : Cond.methodLink own ix y ∈ GT) (hin : Cond.instanceMethod y ∈ GT) (hy1 : y.name = "<init>")  (hct : Ct l g y bytes maxL none fr lo mc ms (.ref b :: As) wc Q X) (hn9 : As.length = n) (hndC : va_nd isC = true) {st0 : List Value} (hstk : st0 = As.reverse ++ .ref b :: rest) (d : decode cc pc = .ok (.invokespecial ix, 3))
     (hC : isC.map (fun i => ws[i]?) = wc.map some) (hRr : isR.map (fun i => ws[i]?) = wr.map some) (hnd : va_nd isR = true) (hdis : ∀ i ∈ isR, i ∉ isC) (hst : (rest.map fun v => v.category).sum ≤ 8) (hfr : fr + 1 ≤ R.frames ∧ 8 + (maxL + 11) + lo ≤ R.locals) (hmk : cn + mc ≤ R.cells ∧ sn + ms ≤ R.slots)
    (hX : ∀ (E : String) (w : va_W), ¬ X E w)
    (kk : ∀ (v : Option Value) (w : va_W), Q v w → AW g A H0 nL K (pc + 3) lv (v.toList ++ rest) (wr ++ w) (cn + mc) (sn + ms)) : AW g A H0 nL K pc lv st0 ws cn sn := by
  obtain ⟨p, e, s, m, args, below, meth, c, Q, rfl, rfl, hx, hb, hml, hown, hts, hr, hlk, hKn, hG, hA, hnm⟩ := ok
  intro H locs ls hP hD hS hl
  have hFc := va_free (wc := wc) hD hS hA isC hC
  have hPc : va_P g.1 vwCl wc H := hP.pick isC hC
  exact run_W isC isR (vx_runI (As := As) (rest := rest) ⟨hx, hb, hml, hown, hts⟩ (hct H.size) (cwI n hts (wsM_good mf.1) rfl rfl rfl (hts _ mf.2.1) (hts _ hlk9) (hts _ hin) hy1 mf.2.2 hfr) ⟨cP_blind, fun U hU hW => cP_at hU hW hPc hKn (hD.sub isC hndC hC) hS hG hFc⟩ rfl hn9 hl.1 hstk (lv_room hst) d hmk) hP hD hS hA hC hRr hnd hdis
    (fun E ce q9 w H1 locs1 hxw hP2 hD2 hS2 h1 h2 h3 => (hX E w hxw).elim)
    (fun v w H1 locs1 hq hP2 hD2 hS2 => kk v w hq H1 locs1 ls hP2 hD2 hS2 hl)

theorem A_callIR (ok : OkR l g own nm cc nL ret R ws0 Q0 X0 A H0 K) (isC isR : List Nat) {y : MethodName} {bytes : ByteArray} {maxL n ix fr lo mc ms : Nat} {wc wr : va_W} {Q : QT} {X : XT} {b : Nat} {As rest : List Value} (mf : MF y bytes maxL none n) (hlk9 : Cond.methodLink own ix y ∈ GT) (hin : Cond.instanceMethod y ∈ GT) (hy1 : y.name = "<init>")  (hct : Ct l g y bytes maxL none fr lo mc ms (.ref b :: As) wc Q X) (hn9 : As.length = n) (hndC : va_nd isC = true) {st0 : List Value} (hstk : st0 = As.reverse ++ .ref b :: rest) (d : decode cc pc = .ok (.invokespecial ix, 3))
     (hC : isC.map (fun i => ws[i]?) = wc.map some) (hRr : isR.map (fun i => ws[i]?) = wr.map some) (hnd : va_nd isR = true) (hdis : ∀ i ∈ isR, i ∉ isC) (hst : (rest.map fun v => v.category).sum ≤ 8) (hfr : fr + 1 ≤ R.frames ∧ 8 + (maxL + 11) + lo ≤ R.locals) (hmk : cn + mc ≤ R.cells ∧ sn + ms ≤ R.slots)
    (hX : ∀ (E : String) (w : va_W), X E w → X0 E (wr ++ w))
    (kk : ∀ (v : Option Value) (w : va_W), Q v w → AW g A H0 nL K (pc + 3) lv (v.toList ++ rest) (wr ++ w) (cn + mc) (sn + ms)) : AW g A H0 nL K pc lv st0 ws cn sn := by
  obtain ⟨p, e, s, m, args, below, meth, c, rfl, rfl, hx, hb, hml, hown, hts, hr, hlk, hKn, hG, hA, hnm, hAe, hex⟩ := ok
  intro H locs ls hP hD hS hl
  have hFc := va_free (wc := wc) hD hS hA isC hC
  have hPc : va_P g.1 vwCl wc H := hP.pick isC hC
  subst hAe
  exact run_W isC isR (vx_runI (As := As) (rest := rest) ⟨hx, hb, hml, hown, hts⟩ (hct H.size) (cwI n hts (wsM_good mf.1) rfl rfl rfl (hts _ mf.2.1) (hts _ hlk9) (hts _ hin) hy1 mf.2.2 hfr) ⟨cP_blind, fun U hU hW => cP_at hU hW hPc hKn (hD.sub isC hndC hC) hS hG hFc⟩ rfl hn9 hl.1 hstk (lv_room hst) d hmk) hP hD hS hA hC hRr hnd hdis
    (fun E ce q9 w H1 locs1 hxw hP2 hD2 hS2 h1 h2 h3 => vx_out (fun x hx9 => (hex x hx9).elim) hlk h1 h2 h3 (fun t ht hv => ⟨⟨_, hX E w hxw, by rw [ht]; exact hP2, hD2⟩, hS2.F ht⟩) hS2.2.2 hmk.1 hmk.2)
    (fun v w H1 locs1 hq hP2 hD2 hS2 => kk v w hq H1 locs1 ls hP2 hD2 hS2 hl)

theorem A_callVNB (ok : OkB l g own nm cc nL ret R A H0 K) (isC isR : List Nat) {y : MethodName} {bytes : ByteArray} {maxL n ix fr lo mc ms : Nat} {rt : Option FieldType} {wc wr : va_W} {Q : QT} {X : XT} {b : Nat} {host : String} {As rest : List Value} (mf : MF y bytes maxL rt n) (hlk9 : (own, ix, y, host) ∈ nTab) (hin : Cond.instanceMethod y ∈ GT) (hse : Cond.selects y.cls y y ∈ GT) {ci N9 q9 : Nat} {T9 : u_T} {ty9 : Nat → FieldType} {fs : List Value} (cf : CF ci y.cls T9 N9 ty9) (gq : Gp q9 ws (b, .inr (ci, fs))) (hct : Ct l g y bytes maxL rt fr lo mc ms (.ref b :: As) wc Q X) (hn9 : As.length = n) (hndC : va_nd isC = true) {st0 : List Value} (hstk : st0 = As.reverse ++ .ref b :: rest) (d : decode cc pc = .ok (.invokevirtual ix, 3))
     (hC : isC.map (fun i => ws[i]?) = wc.map some) (hRr : isR.map (fun i => ws[i]?) = wr.map some) (hnd : va_nd isR = true) (hdis : ∀ i ∈ isR, i ∉ isC) (hst : (rest.map fun v => v.category).sum ≤ 8) (hfr : fr + 1 ≤ R.frames ∧ 8 + (maxL + 11) + lo ≤ R.locals) (hmk : cn + mc ≤ R.cells ∧ sn + ms ≤ R.slots)
    (hX : ∀ (E : String) (w : va_W), ¬ X E w)
    (kk : ∀ (v : Option Value) (w : va_W), Q v w → AW g A H0 nL K (pc + 3) lv (v.toList ++ rest) (wr ++ w) (cn + mc) (sn + ms)) : AW g A H0 nL K pc lv st0 ws cn sn := by
  obtain ⟨p, e, s, m, args, below, meth, c, Q, rfl, rfl, hx, hb, hml, hown, hts, hr, hlk, hKn, hG, hA, hnm⟩ := ok
  intro H locs ls hP hD hS hl
  have hFc := va_free (wc := wc) hD hS hA isC hC
  have hPc : va_P g.1 vwCl wc H := hP.pick isC hC
  exact run_W isC isR (vx_runVN (As := As) (rest := rest) ⟨hx, hb, hml, hown, hts⟩ (hct H.size) ⟨va_cnB n hts (wsM_good mf.1) rfl rfl rfl (hG.gv.2.2.1 _ hlk9) (hts _ mf.2.1) mf.2.2 hfr, hts _ hin, hts _ hse⟩ ⟨cP_blind, va_recv hKn hP cf.1 gq, fun U hU hW => cP_at hU hW hPc hKn (hD.sub isC hndC hC) hS hG hFc⟩ rfl hn9 hl.1 hstk (lv_room hst) d hmk) hP hD hS hA hC hRr hnd hdis
    (fun E ce q9 w H1 locs1 hxw hP2 hD2 hS2 h1 h2 h3 => (hX E w hxw).elim)
    (fun v w H1 locs1 hq hP2 hD2 hS2 => kk v w hq H1 locs1 ls hP2 hD2 hS2 hl)

theorem A_callVNR (ok : OkR l g own nm cc nL ret R ws0 Q0 X0 A H0 K) (isC isR : List Nat) {y : MethodName} {bytes : ByteArray} {maxL n ix fr lo mc ms : Nat} {rt : Option FieldType} {wc wr : va_W} {Q : QT} {X : XT} {b : Nat} {host : String} {As rest : List Value} (mf : MF y bytes maxL rt n) (hlk9 : (own, ix, y, host) ∈ nTab) (hin : Cond.instanceMethod y ∈ GT) (hse : Cond.selects y.cls y y ∈ GT) {ci N9 q9 : Nat} {T9 : u_T} {ty9 : Nat → FieldType} {fs : List Value} (cf : CF ci y.cls T9 N9 ty9) (gq : Gp q9 ws (b, .inr (ci, fs))) (hct : Ct l g y bytes maxL rt fr lo mc ms (.ref b :: As) wc Q X) (hn9 : As.length = n) (hndC : va_nd isC = true) {st0 : List Value} (hstk : st0 = As.reverse ++ .ref b :: rest) (d : decode cc pc = .ok (.invokevirtual ix, 3))
     (hC : isC.map (fun i => ws[i]?) = wc.map some) (hRr : isR.map (fun i => ws[i]?) = wr.map some) (hnd : va_nd isR = true) (hdis : ∀ i ∈ isR, i ∉ isC) (hst : (rest.map fun v => v.category).sum ≤ 8) (hfr : fr + 1 ≤ R.frames ∧ 8 + (maxL + 11) + lo ≤ R.locals) (hmk : cn + mc ≤ R.cells ∧ sn + ms ≤ R.slots)
    (hX : ∀ (E : String) (w : va_W), X E w → X0 E (wr ++ w))
    (kk : ∀ (v : Option Value) (w : va_W), Q v w → AW g A H0 nL K (pc + 3) lv (v.toList ++ rest) (wr ++ w) (cn + mc) (sn + ms)) : AW g A H0 nL K pc lv st0 ws cn sn := by
  obtain ⟨p, e, s, m, args, below, meth, c, rfl, rfl, hx, hb, hml, hown, hts, hr, hlk, hKn, hG, hA, hnm, hAe, hex⟩ := ok
  intro H locs ls hP hD hS hl
  have hFc := va_free (wc := wc) hD hS hA isC hC
  have hPc : va_P g.1 vwCl wc H := hP.pick isC hC
  subst hAe
  exact run_W isC isR (vx_runVN (As := As) (rest := rest) ⟨hx, hb, hml, hown, hts⟩ (hct H.size) ⟨va_cnB n hts (wsM_good mf.1) rfl rfl rfl (hG.gv.2.2.1 _ hlk9) (hts _ mf.2.1) mf.2.2 hfr, hts _ hin, hts _ hse⟩ ⟨cP_blind, va_recv hKn hP cf.1 gq, fun U hU hW => cP_at hU hW hPc hKn (hD.sub isC hndC hC) hS hG hFc⟩ rfl hn9 hl.1 hstk (lv_room hst) d hmk) hP hD hS hA hC hRr hnd hdis
    (fun E ce q9 w H1 locs1 hxw hP2 hD2 hS2 h1 h2 h3 => vx_out (fun x hx9 => (hex x hx9).elim) hlk h1 h2 h3 (fun t ht hv => ⟨⟨_, hX E w hxw, by rw [ht]; exact hP2, hD2⟩, hS2.F ht⟩) hS2.2.2 hmk.1 hmk.2)
    (fun v w H1 locs1 hq hP2 hD2 hS2 => kk v w hq H1 locs1 ls hP2 hD2 hS2 hl)

theorem A_callSNB (ok : OkB l g own nm cc nL ret R A H0 K) (isC isR : List Nat) {y : MethodName} {bytes : ByteArray} {maxL n ix fr lo mc ms : Nat} {rt : Option FieldType} {wc wr : va_W} {Q : QT} {X : XT} {host : String} {As rest : List Value} (mf : MF y bytes maxL rt n) (hlk9 : (own, ix, y, host) ∈ nTab) (hin : Cond.static y ∈ GT)  (hct : Ct l g y bytes maxL rt fr lo mc ms As wc Q X) (hn9 : As.length = n) (hndC : va_nd isC = true) {st0 : List Value} (hstk : st0 = As.reverse ++ rest) (d : decode cc pc = .ok (.invokestatic ix, 3))
     (hC : isC.map (fun i => ws[i]?) = wc.map some) (hRr : isR.map (fun i => ws[i]?) = wr.map some) (hnd : va_nd isR = true) (hdis : ∀ i ∈ isR, i ∉ isC) (hst : (rest.map fun v => v.category).sum ≤ 8) (hfr : fr + 1 ≤ R.frames ∧ 8 + (maxL + 11) + lo ≤ R.locals) (hmk : cn + mc ≤ R.cells ∧ sn + ms ≤ R.slots)
    (hX : ∀ (E : String) (w : va_W), ¬ X E w)
    (kk : ∀ (v : Option Value) (w : va_W), Q v w → AW g A H0 nL K (pc + 3) lv (v.toList ++ rest) (wr ++ w) (cn + mc) (sn + ms)) : AW g A H0 nL K pc lv st0 ws cn sn := by
  obtain ⟨p, e, s, m, args, below, meth, c, Q, rfl, rfl, hx, hb, hml, hown, hts, hr, hlk, hKn, hG, hA, hnm⟩ := ok
  intro H locs ls hP hD hS hl
  have hFc := va_free (wc := wc) hD hS hA isC hC
  have hPc : va_P g.1 vwCl wc H := hP.pick isC hC
  exact run_W isC isR (vx_runSN (As := As) (rest := rest) ⟨hx, hb, hml, hown, hts⟩ (hct H.size) ⟨va_cnB n hts (wsM_good mf.1) rfl rfl rfl (hG.gv.2.2.1 _ hlk9) (hts _ mf.2.1) mf.2.2 hfr, hts _ hin, trivial⟩ ⟨cP_blind, fun U hU hW => cP_at hU hW hPc hKn (hD.sub isC hndC hC) hS hG hFc⟩ rfl hn9 hl.1 hstk (lv_room hst) d hmk) hP hD hS hA hC hRr hnd hdis
    (fun E ce q9 w H1 locs1 hxw hP2 hD2 hS2 h1 h2 h3 => (hX E w hxw).elim)
    (fun v w H1 locs1 hq hP2 hD2 hS2 => kk v w hq H1 locs1 ls hP2 hD2 hS2 hl)

theorem A_callSNR (ok : OkR l g own nm cc nL ret R ws0 Q0 X0 A H0 K) (isC isR : List Nat) {y : MethodName} {bytes : ByteArray} {maxL n ix fr lo mc ms : Nat} {rt : Option FieldType} {wc wr : va_W} {Q : QT} {X : XT} {host : String} {As rest : List Value} (mf : MF y bytes maxL rt n) (hlk9 : (own, ix, y, host) ∈ nTab) (hin : Cond.static y ∈ GT)  (hct : Ct l g y bytes maxL rt fr lo mc ms As wc Q X) (hn9 : As.length = n) (hndC : va_nd isC = true) {st0 : List Value} (hstk : st0 = As.reverse ++ rest) (d : decode cc pc = .ok (.invokestatic ix, 3))
     (hC : isC.map (fun i => ws[i]?) = wc.map some) (hRr : isR.map (fun i => ws[i]?) = wr.map some) (hnd : va_nd isR = true) (hdis : ∀ i ∈ isR, i ∉ isC) (hst : (rest.map fun v => v.category).sum ≤ 8) (hfr : fr + 1 ≤ R.frames ∧ 8 + (maxL + 11) + lo ≤ R.locals) (hmk : cn + mc ≤ R.cells ∧ sn + ms ≤ R.slots)
    (hX : ∀ (E : String) (w : va_W), X E w → X0 E (wr ++ w))
    (kk : ∀ (v : Option Value) (w : va_W), Q v w → AW g A H0 nL K (pc + 3) lv (v.toList ++ rest) (wr ++ w) (cn + mc) (sn + ms)) : AW g A H0 nL K pc lv st0 ws cn sn := by
  obtain ⟨p, e, s, m, args, below, meth, c, rfl, rfl, hx, hb, hml, hown, hts, hr, hlk, hKn, hG, hA, hnm, hAe, hex⟩ := ok
  intro H locs ls hP hD hS hl
  have hFc := va_free (wc := wc) hD hS hA isC hC
  have hPc : va_P g.1 vwCl wc H := hP.pick isC hC
  subst hAe
  exact run_W isC isR (vx_runSN (As := As) (rest := rest) ⟨hx, hb, hml, hown, hts⟩ (hct H.size) ⟨va_cnB n hts (wsM_good mf.1) rfl rfl rfl (hG.gv.2.2.1 _ hlk9) (hts _ mf.2.1) mf.2.2 hfr, hts _ hin, trivial⟩ ⟨cP_blind, fun U hU hW => cP_at hU hW hPc hKn (hD.sub isC hndC hC) hS hG hFc⟩ rfl hn9 hl.1 hstk (lv_room hst) d hmk) hP hD hS hA hC hRr hnd hdis
    (fun E ce q9 w H1 locs1 hxw hP2 hD2 hS2 h1 h2 h3 => vx_out (fun x hx9 => (hex x hx9).elim) hlk h1 h2 h3 (fun t ht hv => ⟨⟨_, hX E w hxw, by rw [ht]; exact hP2, hD2⟩, hS2.F ht⟩) hS2.2.2 hmk.1 hmk.2)
    (fun v w H1 locs1 hq hP2 hD2 hS2 => kk v w hq H1 locs1 ls hP2 hD2 hS2 hl)

theorem A_callINB (ok : OkB l g own nm cc nL ret R A H0 K) (isC isR : List Nat) {y : MethodName} {bytes : ByteArray} {maxL n ix fr lo mc ms : Nat} {wc wr : va_W} {Q : QT} {X : XT} {b : Nat} {host : String} {As rest : List Value} (mf : MF y bytes maxL none n) (hlk9 : (own, ix, y, host) ∈ nTab) (hin : Cond.instanceMethod y ∈ GT) (hy1 : y.name = "<init>")  (hct : Ct l g y bytes maxL none fr lo mc ms (.ref b :: As) wc Q X) (hn9 : As.length = n) (hndC : va_nd isC = true) {st0 : List Value} (hstk : st0 = As.reverse ++ .ref b :: rest) (d : decode cc pc = .ok (.invokespecial ix, 3))
     (hC : isC.map (fun i => ws[i]?) = wc.map some) (hRr : isR.map (fun i => ws[i]?) = wr.map some) (hnd : va_nd isR = true) (hdis : ∀ i ∈ isR, i ∉ isC) (hst : (rest.map fun v => v.category).sum ≤ 8) (hfr : fr + 1 ≤ R.frames ∧ 8 + (maxL + 11) + lo ≤ R.locals) (hmk : cn + mc ≤ R.cells ∧ sn + ms ≤ R.slots)
    (hX : ∀ (E : String) (w : va_W), ¬ X E w)
    (kk : ∀ (v : Option Value) (w : va_W), Q v w → AW g A H0 nL K (pc + 3) lv (v.toList ++ rest) (wr ++ w) (cn + mc) (sn + ms)) : AW g A H0 nL K pc lv st0 ws cn sn := by
  obtain ⟨p, e, s, m, args, below, meth, c, Q, rfl, rfl, hx, hb, hml, hown, hts, hr, hlk, hKn, hG, hA, hnm⟩ := ok
  intro H locs ls hP hD hS hl
  have hFc := va_free (wc := wc) hD hS hA isC hC
  have hPc : va_P g.1 vwCl wc H := hP.pick isC hC
  exact run_W isC isR (vx_runIN (As := As) (rest := rest) ⟨hx, hb, hml, hown, hts⟩ (hct H.size) ⟨va_cnB n hts (wsM_good mf.1) rfl rfl rfl (hG.gv.2.2.1 _ hlk9) (hts _ mf.2.1) mf.2.2 hfr, hy1, hts _ hin⟩ ⟨cP_blind, fun U hU hW => cP_at hU hW hPc hKn (hD.sub isC hndC hC) hS hG hFc⟩ rfl hn9 hl.1 hstk (lv_room hst) d hmk) hP hD hS hA hC hRr hnd hdis
    (fun E ce q9 w H1 locs1 hxw hP2 hD2 hS2 h1 h2 h3 => (hX E w hxw).elim)
    (fun v w H1 locs1 hq hP2 hD2 hS2 => kk v w hq H1 locs1 ls hP2 hD2 hS2 hl)

theorem A_callINR (ok : OkR l g own nm cc nL ret R ws0 Q0 X0 A H0 K) (isC isR : List Nat) {y : MethodName} {bytes : ByteArray} {maxL n ix fr lo mc ms : Nat} {wc wr : va_W} {Q : QT} {X : XT} {b : Nat} {host : String} {As rest : List Value} (mf : MF y bytes maxL none n) (hlk9 : (own, ix, y, host) ∈ nTab) (hin : Cond.instanceMethod y ∈ GT) (hy1 : y.name = "<init>")  (hct : Ct l g y bytes maxL none fr lo mc ms (.ref b :: As) wc Q X) (hn9 : As.length = n) (hndC : va_nd isC = true) {st0 : List Value} (hstk : st0 = As.reverse ++ .ref b :: rest) (d : decode cc pc = .ok (.invokespecial ix, 3))
     (hC : isC.map (fun i => ws[i]?) = wc.map some) (hRr : isR.map (fun i => ws[i]?) = wr.map some) (hnd : va_nd isR = true) (hdis : ∀ i ∈ isR, i ∉ isC) (hst : (rest.map fun v => v.category).sum ≤ 8) (hfr : fr + 1 ≤ R.frames ∧ 8 + (maxL + 11) + lo ≤ R.locals) (hmk : cn + mc ≤ R.cells ∧ sn + ms ≤ R.slots)
    (hX : ∀ (E : String) (w : va_W), X E w → X0 E (wr ++ w))
    (kk : ∀ (v : Option Value) (w : va_W), Q v w → AW g A H0 nL K (pc + 3) lv (v.toList ++ rest) (wr ++ w) (cn + mc) (sn + ms)) : AW g A H0 nL K pc lv st0 ws cn sn := by
  obtain ⟨p, e, s, m, args, below, meth, c, rfl, rfl, hx, hb, hml, hown, hts, hr, hlk, hKn, hG, hA, hnm, hAe, hex⟩ := ok
  intro H locs ls hP hD hS hl
  have hFc := va_free (wc := wc) hD hS hA isC hC
  have hPc : va_P g.1 vwCl wc H := hP.pick isC hC
  subst hAe
  exact run_W isC isR (vx_runIN (As := As) (rest := rest) ⟨hx, hb, hml, hown, hts⟩ (hct H.size) ⟨va_cnB n hts (wsM_good mf.1) rfl rfl rfl (hG.gv.2.2.1 _ hlk9) (hts _ mf.2.1) mf.2.2 hfr, hy1, hts _ hin⟩ ⟨cP_blind, fun U hU hW => cP_at hU hW hPc hKn (hD.sub isC hndC hC) hS hG hFc⟩ rfl hn9 hl.1 hstk (lv_room hst) d hmk) hP hD hS hA hC hRr hnd hdis
    (fun E ce q9 w H1 locs1 hxw hP2 hD2 hS2 h1 h2 h3 => vx_out (fun x hx9 => (hex x hx9).elim) hlk h1 h2 h3 (fun t ht hv => ⟨⟨_, hX E w hxw, by rw [ht]; exact hP2, hD2⟩, hS2.F ht⟩) hS2.2.2 hmk.1 hmk.2)
    (fun v w H1 locs1 hq hP2 hD2 hS2 => kk v w hq H1 locs1 ls hP2 hD2 hS2 hl)

end AWCR