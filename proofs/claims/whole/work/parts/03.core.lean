abbrev Gl : Type := va_G × (Nat → ClassId) × (Nat → Nat) × (Nat → Nat)
def gtys (g : Gl) : List (ClassId × FieldType) := [(g.2.1 0, .int), (g.2.1 1, .long), (g.2.1 2, .byte), (g.2.1 3, .boolean), (g.2.1 4, .object "TunnelControlDesk$Tunnel"), (g.2.1 5, .array .int)]
def GT : List Cond := lw_tbl.filter goodWord
theorem gt_of {w : Cond} (h : w ∈ lw_tbl) (g : goodWord w = true) : w ∈ GT := List.mem_filter.mpr ⟨h, g⟩
theorem gt_lw {w : Cond} (h : w ∈ GT) : w ∈ lw_tbl := (List.mem_filter.mp h).1
theorem gt_good {w : Cond} (h : w ∈ GT) : goodWord w = true := (List.mem_filter.mp h).2
def wsM (y : MethodName) (cc : ByteArray) (nL : Nat) (ret : Option FieldType) : List Cond := .code y cc nL ret :: GT
theorem wsM_good {y : MethodName} {cc : ByteArray} {nL : Nat} {ret : Option FieldType} (h : Cond.code y cc nL ret ∈ GT) : GoodIn GT (wsM y cc nL ret) := fun w hw => by
  rcases List.mem_cons.mp hw with e | hw
  · subst e
    exact ⟨h, good_of_word (gt_good h)⟩
  · exact ⟨hw, good_of_word (gt_good hw)⟩
/-- what stays as the start gave it: statics of Throwable, the text constants -/
def sTab : List (String × Nat × String × Nat) := [("TunnelControlDesk$SetupReader", 69, "tunnel", 0), ("TunnelControlDesk$SetupReader", 100, "bay", 1), ("TunnelControlDesk$SetupReader", 105, "vent", 2), ("TunnelControlDesk$SetupReader", 110, "fan", 3), ("TunnelControlDesk$SetupReader", 115, "car", 4), ("TunnelControlDesk$SetupReader", 120, "fire", 5), ("TunnelControlDesk$SetupReader", 125, "draft", 6), ("TunnelControlDesk$SetupReader", 130, "red", 7), ("TunnelControlDesk$SetupReader", 135, "rate", 8), ("TunnelControlDesk$SetupReader", 221, "clock", 9), ("TunnelControlDesk$SetupReader", 223, "cars", 10), ("TunnelControlDesk$SetupReader", 224, "flow", 11), ("TunnelControlDesk$SetupReader", 226, "east", 12), ("TunnelControlDesk$SetupReader", 228, "west", 13), ("TunnelControlDeskModel", 198, "tunnel", 0), ("TunnelControlDeskModel", 168, "bay", 1), ("TunnelControlDeskModel", 173, "vent", 2), ("TunnelControlDeskModel", 175, "fan", 3), ("TunnelControlDeskModel", 180, "car", 4), ("TunnelControlDeskModel", 184, "fire", 5), ("TunnelControlDeskModel", 189, "draft", 6), ("TunnelControlDeskModel", 190, "red", 7), ("TunnelControlDeskModel", 192, "rate", 8), ("TunnelControlDeskModel", 125, "clock", 9), ("TunnelControlDeskModel", 127, "cars", 10), ("TunnelControlDeskModel", 129, "flow", 11), ("TunnelControlDeskModel", 107, "east", 12), ("TunnelControlDeskModel", 113, "west", 13)]
def xTab : List (Nat × String) := [(57, "length is not within the input buffer"), (123, "what is not 0 to 3"), (164, "limit is not 0 to 200"), (184, "setting is not -10 to 10"), (186, "ticks is not 0 to 60"), (199, "ticks is not 1 to 100"), (203, "there is no tunnel"), (206, "the clock would exceed 10000"), (211, "the section has no bay"), (223, "there is no such section"), (226, "there is no such car"), (231, "the section has no fan"), (233, "direction is not 1 or -1")]
def lenS : List Nat := [6, 3, 4, 3, 3, 4, 5, 3, 4, 5, 4, 4, 4, 4]
def bytS : List (List Int32) := [[116, 117, 110, 110, 101, 108], [98, 97, 121], [118, 101, 110, 116], [102, 97, 110], [99, 97, 114], [102, 105, 114, 101], [100, 114, 97, 102, 116], [114, 101, 100], [114, 97, 116, 101], [99, 108, 111, 99, 107], [99, 97, 114, 115], [102, 108, 111, 119], [101, 97, 115, 116], [119, 101, 115, 116]]
def nTab : List (String × Nat × MethodName × String) := [("TunnelControlDesk", 9, yX2_init, "TunnelControlDesk"), ("TunnelControlDesk$SetupReader", 11, yX1_init, "TunnelControlDesk"), ("TunnelControlDesk$SetupReader", 187, yX6_laneIndex, "TunnelControlDesk"), ("TunnelControlDesk$SetupReader", 33, yX2_init, "TunnelControlDesk"), ("TunnelControlDesk$Tunnel", 65, yX6_laneIndex, "TunnelControlDesk")]
def cTab : List (String × String) := [("java/lang/IndexOutOfBoundsException", "java/lang/IndexOutOfBoundsException"), ("java/lang/IllegalArgumentException", "java/lang/IllegalArgumentException"), ("java/lang/IllegalStateException", "java/lang/IllegalStateException")]
def ncTab : List (String × String) := [("java/lang/IllegalStateException", "java/lang/IndexOutOfBoundsException"), ("java/lang/IllegalArgumentException", "java/lang/IndexOutOfBoundsException"), ("java/lang/IllegalStateException", "java/lang/IllegalArgumentException")]
def dTab : List MethodName := [⟨"java/lang/RuntimeException", "<init>", "(Ljava/lang/String;)V"⟩, ⟨"java/lang/Exception", "<init>", "(Ljava/lang/String;)V"⟩, ⟨"java/lang/Throwable", "<init>", "(Ljava/lang/String;)V"⟩]
/-- what the tables alone say -/
def GV (g : Gl) (U : State) : Prop := (∀ q ∈ sTab, vk_R q.1 q.2.1 q.2.2.1 (g.2.2.1 q.2.2.2) U) ∧ (∀ q ∈ xTab, ∃ a : Nat, vk_R "TunnelControlDesk" q.1 q.2 a U) ∧ (∀ q ∈ nTab, va_Nw (.methodLinkNest q.1 q.2.1 q.2.2.1 q.2.2.2) U) ∧ va_AO "TunnelControlDesk$Tunnel" U ∧ (∀ q ∈ ncTab, va_Nc q.1 q.2 U) ∧ (∀ q ∈ cTab, (Cond.castable q.1 q.2).before #[] U = true) ∧ (∀ x ∈ dTab, va_Nw (.declares x) U) ∧ (Cond.arrayOver (.array .int)).before #[] U = true
theorem castable_moved {a b : String} {u U : State} (hvm : u.vm.Alike U.vm) (h : (Cond.castable a b).before #[] u = true) : (Cond.castable a b).before #[] U = true := by
  obtain ⟨c3, c4, hc3, hc4, hasg⟩ := Cond.castable_spec h
  simp [Cond.before, Cond.holds, Cond.value, hvm.findClass, hvm.assignable, hc3, hc4, hasg]
theorem GV.moved {g : Gl} {u U : State} (hW : u.WarmedH U.vm) (h : GV g u) : GV g U := by
  obtain ⟨h1, h2, h3, h4, h5, h6, h7, h8⟩ := h
  refine ⟨fun q hq => (h1 q hq).warm hW, fun q hq => ?_, fun q hq => (h3 q hq).warmM hW, h4.moved hW.alike, fun q hq => (h5 q hq).moved hW.alike, fun q hq => castable_moved hW.alike (h6 q hq), fun x hx => (h7 x hx).warmD hW, over_moved hW.alike h8⟩
  obtain ⟨a, ha⟩ := h2 q hq
  exact ⟨a, ha.warm hW⟩
theorem GV.same {g : Gl} {u U : State} (hv : U.vm = u.vm) (h : GV g u) : GV g U := by
  have e : u.vm.Alike U.vm := by rw [hv]; exact Vm.Alike.refl _
  obtain ⟨h1, h2, h3, h4, h5, h6, h7, h8⟩ := h
  refine ⟨fun q hq => (h1 q hq).same hv, fun q hq => ?_, fun q hq => va_Nw.same rfl hv.symm (h3 q hq), h4.moved e, fun q hq => (h5 q hq).moved e, fun q hq => castable_moved e (h6 q hq), fun x hx => va_Nw.same rfl hv.symm (h7 x hx), over_moved e h8⟩
  obtain ⟨a, ha⟩ := h2 q hq
  exact ⟨a, ha.same hv⟩
/-- what stays as the start gave it: statics of Throwable, the text constants -/
def GH (g : Gl) (A : Nat → Prop) (U : State) (H : Heap) : Prop := vx_Zq Bundle.tN "UNASSIGNED_STACK" Bundle.steD A U H ∧ vx_Zq Bundle.tN "SUPPRESSED_SENTINEL" Bundle.listD A U H ∧ va_Z "java/lang/String" "COMPACT_STRINGS" "Z" (.int 1) A U H ∧ va_Zq "jdk/internal/util/Preconditions" "SIOOBE_FORMATTER" "Ljava/util/function/BiFunction;" A U H ∧
  vk_S 14 lenS bytS g.2.2.1 g.2.2.2 A U H ∧ GV g U
theorem GH.moved {g : Gl} {A : Nat → Prop} {u U : State} {H : Heap} (hW : u.WarmedH U.vm) (h : GH g A u H) : GH g A U H := by
  obtain ⟨h1, h2, h3, h4, h5, h6⟩ := h
  exact ⟨h1.moved hW.alike, h2.moved hW.alike, h3.moved hW.alike, h4.moved hW.alike, h5.moved hW.alike, h6.moved hW⟩
theorem GH.same {g : Gl} {A : Nat → Prop} {u U : State} {H : Heap} (hv : U.vm = u.vm) (h : GH g A u H) : GH g A U H := by
  have e : u.vm.Alike U.vm := by rw [hv]; exact Vm.Alike.refl _
  obtain ⟨h1, h2, h3, h4, h5, h6⟩ := h
  exact ⟨h1.moved e, h2.moved e, h3.moved e, h4.moved e, h5.moved e, h6.same hv⟩
theorem GH.kept {g : Gl} {A : Nat → Prop} {U : State} {H H1 : Heap} (h : GH g A U H) (hq : ∀ a : Nat, a < H.size → ¬ A a → H1[a]? = H[a]?) : GH g A U H1 := by
  obtain ⟨h1, h2, h3, h4, h5, h6⟩ := h
  exact ⟨h1.kept hq, h2.kept hq, h3.kept hq, h4.kept hq, h5.kept hq, h6⟩
theorem GH.narrow {g : Gl} {A B : Nat → Prop} {U : State} {H : Heap} (h : GH g A U H) (hAB : ∀ q, B q → A q) : GH g B U H := by
  obtain ⟨h1, h2, h3, h4, h5, h6⟩ := h
  exact ⟨h1.narrow hAB, h2.narrow hAB, h3.narrow hAB, h4.narrow hAB, h5.narrow hAB, h6⟩
theorem GH.gv {g : Gl} {A : Nat → Prop} {U : State} {H : Heap} (h : GH g A U H) : GV g U := h.2.2.2.2.2
abbrev QT : Type := Option Value → va_W → Prop
abbrev XT : Type := String → va_W → Prop
abbrev KT : Type := Heap → List Loc → Nat → Nat → Nat → Array Slot → List Value → Prop
def noX : XT := fun _ _ => False
def cQ (g : Gl) (sz : Nat) (ws : va_W) (Q : QT) : Array Value → State → Outcome → State → Prop := fun _ st oc t =>
  (∃ (v : Option Value) (w : va_W), oc = .returned v ∧ Q v w ∧ va_P g.1 vwCl w t.heap ∧ va_D (va_A ws sz) w) ∧ va_F (va_A ws sz) st t
def cX (g : Gl) (sz : Nat) (ws : va_W) (X : XT) : String → State → State → Prop := fun E st t =>
  (∃ w : va_W, X E w ∧ va_P g.1 vwCl w t.heap ∧ va_D (va_A ws sz) w) ∧ va_F (va_A ws sz) st t
def cP (g : Gl) (sz : Nat) (ws : va_W) (args : List Value) : Array Value → State → Prop :=
  va_Pc args (fun U => U.heap.size = sz ∧ va_P g.1 vwCl ws U.heap ∧ va_K g.1 vwCl (gtys g) U ∧ va_D (fun _ => True) ws ∧ GH g (va_A ws sz) U U.heap)
/-- a method's contract: at most mc cells of ms slots are made, at most fr frames and lo words -/
def Ct (l : Launch) (g : Gl) (y : MethodName) (cc : ByteArray) (nL : Nat) (ret : Option FieldType) (fr lo mc ms : Nat) (args : List Value) (ws : va_W) (Q : QT) (X : XT) : Prop :=
  ∀ sz : Nat, vx_Met l y (wsM y cc nL ret) { frames := fr, cells := mc, slots := ms, locals := lo } (cP g sz ws args) (cQ g sz ws Q) (cX g sz ws X) mc ms (va_A ws sz)
/-! the locals as a list of places -/
def lvlF : Nat → List (Option Value) → List (Nat × Value)
  | _, [] => []
  | i, some v :: t => (i, v) :: lvlF (i + 1) t
  | i, none :: t => lvlF (i + 1) t
def lvl (lv : List (Option Value)) : List (Nat × Value) := lvlF 0 lv
theorem lvlF_mem : ∀ (lv : List (Option Value)) (b j : Nat) (v : Value), (j, v) ∈ lvlF b lv ↔ ∃ k, j = b + k ∧ lv[k]? = some (some v)
  | [], b, j, v => by simp [lvlF]
  | none :: t, b, j, v => by
    rw [lvlF, lvlF_mem t (b + 1) j v]
    constructor
    · rintro ⟨k, e, h⟩
      exact ⟨k + 1, by omega, by simpa using h⟩
    · rintro ⟨k, e, h⟩
      cases k with
      | zero => simp at h
      | succ k => exact ⟨k, by omega, by simpa using h⟩
  | some w :: t, b, j, v => by
    rw [lvlF, List.mem_cons, lvlF_mem t (b + 1) j v]
    constructor
    · rintro (h | ⟨k, e, h⟩)
      · cases h
        exact ⟨0, by omega, by simp⟩
      · exact ⟨k + 1, by omega, by simpa using h⟩
    · rintro ⟨k, e, h⟩
      cases k with
      | zero =>
        left
        simp at h
        rw [h, e]; rfl
      | succ k => exact Or.inr ⟨k, by omega, by simpa using h⟩
theorem lvl_mem {lv : List (Option Value)} {j : Nat} {v : Value} : (j, v) ∈ lvl lv ↔ lv[j]? = some (some v) := by
  unfold lvl
  rw [lvlF_mem]
  constructor
  · rintro ⟨k, e, h⟩
    have : j = k := by omega
    rw [this]; exact h
  · intro h
    exact ⟨j, by omega, h⟩
/-- the k-th of a list -/
def Gp {α : Type} (k : Nat) (l : List α) (x : α) : Prop := l[k]? = some x
theorem gp0 {α : Type} {x : α} {t : List α} : Gp 0 (x :: t) x := rfl
theorem gps {α : Type} {k : Nat} {x a : α} {t : List α} (h : Gp k t x) : Gp (k + 1) (a :: t) x := h
/-- the list with x at k -/
def Wp {α : Type} (k : Nat) (l : List α) (x : α) (l' : List α) : Prop := l.set k x = l'
theorem wp0 {α : Type} {x a : α} {t : List α} : Wp 0 (a :: t) x (x :: t) := rfl
theorem wps {α : Type} {k : Nat} {x a : α} {t t' : List α} (h : Wp k t x t') : Wp (k + 1) (a :: t) x (a :: t') := by
  show a :: t.set k x = a :: t'
  rw [show t.set k x = t' from h]
/-- storing v (wide or not) in place i -/
def St (b : Bool) (i : Nat) (v : Value) (lv lv' : List (Option Value)) : Prop := ∀ (j : Nat) (w : Value), lv'[j]? = some (some w) → (j = i ∧ w = v) ∨ (lv[j]? = some (some w) ∧ j ≠ i ∧ (b = true → j ≠ i + 1) ∧ ¬ (j + 1 = i ∧ w.category = 2))
theorem st0 {v : Value} {o : Option Value} {t : List (Option Value)} : St false 0 v (o :: t) (some v :: t) := by
  intro j w h
  cases j with
  | zero => simp at h; exact Or.inl ⟨rfl, h.symm⟩
  | succ j => exact Or.inr ⟨by simpa using h, by omega, by simp, by omega⟩
theorem st0w {v : Value} {o o2 : Option Value} {t : List (Option Value)} : St true 0 v (o :: o2 :: t) (some v :: none :: t) := by
  intro j w h
  match j, h with
  | 0, h => simp at h; exact Or.inl ⟨rfl, h.symm⟩
  | 1, h => simp at h
  | j + 2, h => exact Or.inr ⟨by simpa using h, by omega, by omega, by omega⟩
theorem sts1 {b : Bool} {v w0 : Value} {t t' : List (Option Value)} (hw : w0.category = 1) (h : St b 0 v t t') : St b 1 v (some w0 :: t) (some w0 :: t') := by
  intro j w hj
  cases j with
  | zero =>
    simp at hj
    exact Or.inr ⟨by simp [hj], by omega, by omega, by rw [← hj]; omega⟩
  | succ j =>
    rcases h j w (by simpa using hj) with ⟨a, e⟩ | ⟨a, b1, c, d⟩
    · exact Or.inl ⟨by omega, e⟩
    · exact Or.inr ⟨by simpa using a, by omega, fun z => by have := c z; omega, fun z => d ⟨by omega, z.2⟩⟩
theorem sts1n {b : Bool} {v : Value} {o : Option Value} {t t' : List (Option Value)} (h : St b 0 v t t') : St b 1 v (o :: t) (none :: t') := by
  intro j w hj
  cases j with
  | zero => simp at hj
  | succ j =>
    rcases h j w (by simpa using hj) with ⟨a, e⟩ | ⟨a, b1, c, d⟩
    · exact Or.inl ⟨by omega, e⟩
    · exact Or.inr ⟨by simpa using a, by omega, fun z => by have := c z; omega, fun z => d ⟨by omega, z.2⟩⟩
theorem sts {b : Bool} {i : Nat} {v : Value} {a0 : Option Value} {t t' : List (Option Value)} (h : St b (i + 1) v t t') : St b (i + 2) v (a0 :: t) (a0 :: t') := by
  intro j w hj
  cases j with
  | zero => exact Or.inr ⟨by simpa using hj, by omega, by omega, by omega⟩
  | succ j =>
    rcases h j w (by simpa using hj) with ⟨a, e⟩ | ⟨a, b1, c, d⟩
    · exact Or.inl ⟨by omega, e⟩
    · exact Or.inr ⟨by simpa using a, by omega, fun z => by have := c z; omega, fun z => d ⟨by omega, z.2⟩⟩
theorem st_1 {ls : Array Slot} {nL i : Nat} {v : Value} {lv lv' : List (Option Value)} (hs : St false i v lv lv') (h : lv_has ls nL ((i, v) :: (lvl lv).filter (fun q => !(q.1 == i) && !(q.1 + 1 == i && q.2.category == 2)))) : lv_has ls nL (lvl lv') := by
  refine ⟨h.1, h.2.1, fun q hq => h.2.2 q ?_⟩
  obtain ⟨j, w⟩ := q
  rcases hs j w (lvl_mem.mp hq) with ⟨rfl, rfl⟩ | ⟨a, b, -, d⟩
  · exact List.mem_cons_self
  · refine List.mem_cons_of_mem _ (List.mem_filter.mpr ⟨lvl_mem.mpr a, ?_⟩)
    simp only [Bool.and_eq_true, Bool.not_eq_true', beq_eq_false_iff_ne, ne_eq, Bool.and_eq_false_iff]
    refine ⟨b, ?_⟩
    by_cases e : j + 1 = i
    · exact Or.inr (fun z => d ⟨e, z⟩)
    · exact Or.inl e
theorem st_2 {ls : Array Slot} {nL i : Nat} {v : Value} {lv lv' : List (Option Value)} (hs : St true i v lv lv') (h : lv_has ls nL ((i, v) :: (lvl lv).filter (fun q => !(q.1 == i) && (!(q.1 == i + 1) && !(q.1 + 1 == i && q.2.category == 2))))) : lv_has ls nL (lvl lv') := by
  refine ⟨h.1, h.2.1, fun q hq => h.2.2 q ?_⟩
  obtain ⟨j, w⟩ := q
  rcases hs j w (lvl_mem.mp hq) with ⟨rfl, rfl⟩ | ⟨a, b, c, d⟩
  · exact List.mem_cons_self
  · refine List.mem_cons_of_mem _ (List.mem_filter.mpr ⟨lvl_mem.mpr a, ?_⟩)
    simp only [Bool.and_eq_true, Bool.not_eq_true', beq_eq_false_iff_ne, ne_eq, Bool.and_eq_false_iff]
    refine ⟨b, c rfl, ?_⟩
    by_cases e : j + 1 = i
    · exact Or.inr (fun z => d ⟨e, z⟩)
    · exact Or.inl e
theorem lv_gp {ls : Array Slot} {nL k : Nat} {v : Value} {lv : List (Option Value)} (h : lv_has ls nL (lvl lv)) (hk : Gp k lv (some v)) : ls[k]? = some (.val v) := h.2.2 (k, v) (lvl_mem.mpr hk)
/-- from a point of a method on: places, stack, world, what is made so far -/
def AW (g : Gl) (A : Nat → Prop) (H0 : Heap) (nL : Nat) (K : KT) (pc : Nat) (lv : List (Option Value)) (st : List Value) (ws : va_W) (cn sn : Nat) : Prop :=
  ∀ (H : Heap) (locs : List Loc) (ls : Array Slot), va_P g.1 vwCl ws H → va_D A ws → va_S A H0 H locs → lv_has ls nL (lvl lv) → K H locs cn sn pc ls st
def OkB (l : Launch) (g : Gl) (own : String) (nm : String) (cc : ByteArray) (nL : Nat) (ret : Option FieldType) (R : Room) (A : Nat → Prop) (H0 : Heap) (K : KT) : Prop :=
  ∃ (p : Program) (e : Env) (s : State) (m : MethodId) (args : Array Value) (below : List Frame) (meth : Method) (c : Code) (Q : State → Prop),
    K = (fun H locs cn sn pc ls st => W p l e R s m args below meth c H locs cn sn Q (F0 m pc ls st)) ∧ H0 = s.heap ∧ p.tables.exec = Jvm.exec ∧ c.code = cc ∧ c.maxLocals = nL ∧ s.vm.findClass own = some m.cls ∧
    (∀ w ∈ GT, w.before args s = true) ∧ meth.sig.returnType = ret ∧ meth.locks = false ∧ va_K g.1 vwCl (gtys g) s ∧ GH g A s s.heap ∧ (∀ q : Nat, s.heap.size ≤ q → A q) ∧ meth.name = nm
def OkR (l : Launch) (g : Gl) (own : String) (nm : String) (cc : ByteArray) (nL : Nat) (ret : Option FieldType) (R : Room) (ws0 : va_W) (Q : QT) (X : XT) (A : Nat → Prop) (H0 : Heap) (K : KT) : Prop :=
  ∃ (p : Program) (e : Env) (s : State) (m : MethodId) (args : Array Value) (below : List Frame) (meth : Method) (c : Code),
    K = (fun H locs cn sn pc ls st => W p l e R s m args below meth c H locs cn sn (vx_MQ below (cQ g s.heap.size ws0 Q) (cX g s.heap.size ws0 X) args s R.cells R.slots A) (F0 m pc ls st)) ∧ H0 = s.heap ∧ p.tables.exec = Jvm.exec ∧ c.code = cc ∧ c.maxLocals = nL ∧ s.vm.findClass own = some m.cls ∧
    (∀ w ∈ GT, w.before args s = true) ∧ meth.sig.returnType = ret ∧ meth.locks = false ∧ va_K g.1 vwCl (gtys g) s ∧ GH g A s s.heap ∧ (∀ q : Nat, s.heap.size ≤ q → A q) ∧ meth.name = nm ∧ A = va_A ws0 s.heap.size ∧ (∀ x ∈ c.exceptionTable.toList, False)
theorem OkR.b {l : Launch} {g : Gl} {own nm : String} {cc : ByteArray} {nL : Nat} {ret : Option FieldType} {R : Room} {ws0 : va_W} {Q : QT} {X : XT} {A : Nat → Prop} {H0 : Heap} {K : KT} (h : OkR l g own nm cc nL ret R ws0 Q X A H0 K) : OkB l g own nm cc nL ret R A H0 K := by
  obtain ⟨p, e, s, m, args, below, meth, c, hK, h0, hx, hb, hml, hown, hts, hr, hlk, hKn, hG, hA, hnm, -, -⟩ := h
  exact ⟨p, e, s, m, args, below, meth, c, _, hK, h0, hx, hb, hml, hown, hts, hr, hlk, hKn, hG, hA, hnm⟩

section AWR
variable {l : Launch} {g : Gl} {own nm : String} {cc : ByteArray} {nL : Nat} {ret : Option FieldType} {R : Room} {A : Nat → Prop} {H0 : Heap} {K : KT} {pc : Nat} {lv : List (Option Value)} {st : List Value} {ws : va_W} {cn sn : Nat}

theorem A_iload_n (ok : OkB l g own nm cc nL ret R A H0 K) {j : Fin 4} {i : Nat} {x : Int32} (hj : (j : Nat) = i) (d : decode cc pc = .ok (.iload_n j, 1)) (h : Gp i lv (some (.int x)))
    (k : AW g A H0 nL K (pc + 1) (lv) (.int x :: st) (ws) cn sn) : AW g A H0 nL K pc lv (st) ws cn sn := by
  obtain ⟨p, e, s, m, args, below, meth, c, Q, rfl, rfl, hx, hb, hml, hown, hts, hr, hlk, hKn, hG, hA, hnm⟩ := ok
  intro H locs ls hP hD hS hl
  exact lv_iload_n hx hb d hj (lv_gp hl h) (k H locs ls hP hD hS hl)

theorem A_iload (ok : OkB l g own nm cc nL ret R A H0 K) {i : Nat} {x : Int32} (d : decode cc pc = .ok (.iload i, 2)) (h : Gp i lv (some (.int x)))
    (k : AW g A H0 nL K (pc + 2) (lv) (.int x :: st) (ws) cn sn) : AW g A H0 nL K pc lv (st) ws cn sn := by
  obtain ⟨p, e, s, m, args, below, meth, c, Q, rfl, rfl, hx, hb, hml, hown, hts, hr, hlk, hKn, hG, hA, hnm⟩ := ok
  intro H locs ls hP hD hS hl
  exact lv_iload hx hb d (lv_gp hl h) (k H locs ls hP hD hS hl)

theorem A_istore_n (ok : OkB l g own nm cc nL ret R A H0 K) {j : Fin 4} {i : Nat} {x : Int32} {lv2 : List (Option Value)} (hj : (j : Nat) = i) (d : decode cc pc = .ok (.istore_n j, 1)) (hn : i < nL) (h : St false i (.int x) lv lv2)
    (k : AW g A H0 nL K (pc + 1) (lv2) (st) (ws) cn sn) : AW g A H0 nL K pc lv (.int x :: st) ws cn sn := by
  obtain ⟨p, e, s, m, args, below, meth, c, Q, rfl, rfl, hx, hb, hml, hown, hts, hr, hlk, hKn, hG, hA, hnm⟩ := ok
  intro H locs ls hP hD hS hl
  exact lv_istore_n hx hb d hj hl hn rfl (fun ls2 hl2 => k H locs ls2 hP hD hS (st_1 h hl2))

theorem A_istore (ok : OkB l g own nm cc nL ret R A H0 K) {i : Nat} {x : Int32} {lv2 : List (Option Value)} (d : decode cc pc = .ok (.istore i, 2)) (hn : i < nL) (h : St false i (.int x) lv lv2)
    (k : AW g A H0 nL K (pc + 2) (lv2) (st) (ws) cn sn) : AW g A H0 nL K pc lv (.int x :: st) ws cn sn := by
  obtain ⟨p, e, s, m, args, below, meth, c, Q, rfl, rfl, hx, hb, hml, hown, hts, hr, hlk, hKn, hG, hA, hnm⟩ := ok
  intro H locs ls hP hD hS hl
  exact lv_istore hx hb d hl hn rfl (fun ls2 hl2 => k H locs ls2 hP hD hS (st_1 h hl2))

theorem A_lload_n (ok : OkB l g own nm cc nL ret R A H0 K) {j : Fin 4} {i : Nat} {x : Int64} (hj : (j : Nat) = i) (d : decode cc pc = .ok (.lload_n j, 1)) (h : Gp i lv (some (.long x)))
    (k : AW g A H0 nL K (pc + 1) (lv) (.long x :: st) (ws) cn sn) : AW g A H0 nL K pc lv (st) ws cn sn := by
  obtain ⟨p, e, s, m, args, below, meth, c, Q, rfl, rfl, hx, hb, hml, hown, hts, hr, hlk, hKn, hG, hA, hnm⟩ := ok
  intro H locs ls hP hD hS hl
  exact lv_lload_n hx hb d hj (lv_gp hl h) (k H locs ls hP hD hS hl)

theorem A_lload (ok : OkB l g own nm cc nL ret R A H0 K) {i : Nat} {x : Int64} (d : decode cc pc = .ok (.lload i, 2)) (h : Gp i lv (some (.long x)))
    (k : AW g A H0 nL K (pc + 2) (lv) (.long x :: st) (ws) cn sn) : AW g A H0 nL K pc lv (st) ws cn sn := by
  obtain ⟨p, e, s, m, args, below, meth, c, Q, rfl, rfl, hx, hb, hml, hown, hts, hr, hlk, hKn, hG, hA, hnm⟩ := ok
  intro H locs ls hP hD hS hl
  exact lv_lload hx hb d (lv_gp hl h) (k H locs ls hP hD hS hl)

theorem A_lstore_n (ok : OkB l g own nm cc nL ret R A H0 K) {j : Fin 4} {i : Nat} {x : Int64} {lv2 : List (Option Value)} (hj : (j : Nat) = i) (d : decode cc pc = .ok (.lstore_n j, 1)) (hn : i + 1 < nL) (h : St true i (.long x) lv lv2)
    (k : AW g A H0 nL K (pc + 1) (lv2) (st) (ws) cn sn) : AW g A H0 nL K pc lv (.long x :: st) ws cn sn := by
  obtain ⟨p, e, s, m, args, below, meth, c, Q, rfl, rfl, hx, hb, hml, hown, hts, hr, hlk, hKn, hG, hA, hnm⟩ := ok
  intro H locs ls hP hD hS hl
  exact lv_lstore_n hx hb d hj hl hn rfl (fun ls2 hl2 => k H locs ls2 hP hD hS (st_2 h hl2))

theorem A_lstore (ok : OkB l g own nm cc nL ret R A H0 K) {i : Nat} {x : Int64} {lv2 : List (Option Value)} (d : decode cc pc = .ok (.lstore i, 2)) (hn : i + 1 < nL) (h : St true i (.long x) lv lv2)
    (k : AW g A H0 nL K (pc + 2) (lv2) (st) (ws) cn sn) : AW g A H0 nL K pc lv (.long x :: st) ws cn sn := by
  obtain ⟨p, e, s, m, args, below, meth, c, Q, rfl, rfl, hx, hb, hml, hown, hts, hr, hlk, hKn, hG, hA, hnm⟩ := ok
  intro H locs ls hP hD hS hl
  exact lv_lstore hx hb d hl hn rfl (fun ls2 hl2 => k H locs ls2 hP hD hS (st_2 h hl2))

theorem A_aload_n (ok : OkB l g own nm cc nL ret R A H0 K) {j : Fin 4} {i : Nat} {x : Nat} (hj : (j : Nat) = i) (d : decode cc pc = .ok (.aload_n j, 1)) (h : Gp i lv (some (.ref x)))
    (k : AW g A H0 nL K (pc + 1) (lv) (.ref x :: st) (ws) cn sn) : AW g A H0 nL K pc lv (st) ws cn sn := by
  obtain ⟨p, e, s, m, args, below, meth, c, Q, rfl, rfl, hx, hb, hml, hown, hts, hr, hlk, hKn, hG, hA, hnm⟩ := ok
  intro H locs ls hP hD hS hl
  exact lv_aload_n hx hb d hj (lv_gp hl h) (k H locs ls hP hD hS hl)

theorem A_aload (ok : OkB l g own nm cc nL ret R A H0 K) {i : Nat} {x : Nat} (d : decode cc pc = .ok (.aload i, 2)) (h : Gp i lv (some (.ref x)))
    (k : AW g A H0 nL K (pc + 2) (lv) (.ref x :: st) (ws) cn sn) : AW g A H0 nL K pc lv (st) ws cn sn := by
  obtain ⟨p, e, s, m, args, below, meth, c, Q, rfl, rfl, hx, hb, hml, hown, hts, hr, hlk, hKn, hG, hA, hnm⟩ := ok
  intro H locs ls hP hD hS hl
  exact lv_aload hx hb d (lv_gp hl h) (k H locs ls hP hD hS hl)

theorem A_astore_n (ok : OkB l g own nm cc nL ret R A H0 K) {j : Fin 4} {i : Nat} {x : Nat} {lv2 : List (Option Value)} (hj : (j : Nat) = i) (d : decode cc pc = .ok (.astore_n j, 1)) (hn : i < nL) (h : St false i (.ref x) lv lv2)
    (k : AW g A H0 nL K (pc + 1) (lv2) (st) (ws) cn sn) : AW g A H0 nL K pc lv (.ref x :: st) ws cn sn := by
  obtain ⟨p, e, s, m, args, below, meth, c, Q, rfl, rfl, hx, hb, hml, hown, hts, hr, hlk, hKn, hG, hA, hnm⟩ := ok
  intro H locs ls hP hD hS hl
  exact lv_astore_n hx hb d hj hl hn rfl (fun ls2 hl2 => k H locs ls2 hP hD hS (st_1 h hl2))

theorem A_astore (ok : OkB l g own nm cc nL ret R A H0 K) {i : Nat} {x : Nat} {lv2 : List (Option Value)} (d : decode cc pc = .ok (.astore i, 2)) (hn : i < nL) (h : St false i (.ref x) lv lv2)
    (k : AW g A H0 nL K (pc + 2) (lv2) (st) (ws) cn sn) : AW g A H0 nL K pc lv (.ref x :: st) ws cn sn := by
  obtain ⟨p, e, s, m, args, below, meth, c, Q, rfl, rfl, hx, hb, hml, hown, hts, hr, hlk, hKn, hG, hA, hnm⟩ := ok
  intro H locs ls hP hD hS hl
  exact lv_astore hx hb d hl hn rfl (fun ls2 hl2 => k H locs ls2 hP hD hS (st_1 h hl2))

theorem A_iinc (ok : OkB l g own nm cc nL ret R A H0 K) {i : Nat} {n : Int} {x v : Int32} {lv2 : List (Option Value)} (d : decode cc pc = .ok (.iinc i n, 3)) (h0 : Gp i lv (some (.int x))) (hv : x + Int32.ofInt n = v) (hn : i < nL) (h : St false i (.int v) lv lv2)
    (k : AW g A H0 nL K (pc + 3) lv2 st ws cn sn) : AW g A H0 nL K pc lv st ws cn sn := by
  obtain ⟨p, e, s, m, args, below, meth, c, Q, rfl, rfl, hx, hb, hml, hown, hts, hr, hlk, hKn, hG, hA, hnm⟩ := ok
  intro H locs ls hP hD hS hl
  obtain ⟨k0, hk0⟩ := List.getElem?_of_mem (lvl_mem.mpr h0)
  exact lv_iinc hx hb d hl hk0 hv hn rfl (fun ls2 hl2 => k H locs ls2 hP hD hS (st_1 h hl2))

theorem A_iconst (ok : OkB l g own nm cc nL ret R A H0 K) {n : Int} {v : Int32} (d : decode cc pc = .ok (.iconst n, 1)) (hv : Int32.ofInt n = v)
    (k : AW g A H0 nL K (pc + 1) (lv) (.int v :: st) (ws) cn sn) : AW g A H0 nL K pc lv (st) ws cn sn := by
  obtain ⟨p, e, s, m, args, below, meth, c, Q, rfl, rfl, hx, hb, hml, hown, hts, hr, hlk, hKn, hG, hA, hnm⟩ := ok
  intro H locs ls hP hD hS hl
  exact lv_iconst hx hb d hv (k H locs ls hP hD hS hl)

theorem A_bipush (ok : OkB l g own nm cc nL ret R A H0 K) {n : Int} {v : Int32} (d : decode cc pc = .ok (.bipush n, 2)) (hv : (Int8.ofInt n).toInt32 = v)
    (k : AW g A H0 nL K (pc + 2) (lv) (.int v :: st) (ws) cn sn) : AW g A H0 nL K pc lv (st) ws cn sn := by
  obtain ⟨p, e, s, m, args, below, meth, c, Q, rfl, rfl, hx, hb, hml, hown, hts, hr, hlk, hKn, hG, hA, hnm⟩ := ok
  intro H locs ls hP hD hS hl
  exact lv_bipush hx hb d hv (k H locs ls hP hD hS hl)

theorem A_sipush (ok : OkB l g own nm cc nL ret R A H0 K) {n : Int} {v : Int32} (d : decode cc pc = .ok (.sipush n, 3)) (hv : (Int16.ofInt n).toInt32 = v)
    (k : AW g A H0 nL K (pc + 3) (lv) (.int v :: st) (ws) cn sn) : AW g A H0 nL K pc lv (st) ws cn sn := by
  obtain ⟨p, e, s, m, args, below, meth, c, Q, rfl, rfl, hx, hb, hml, hown, hts, hr, hlk, hKn, hG, hA, hnm⟩ := ok
  intro H locs ls hP hD hS hl
  exact lv_sipush hx hb d hv (k H locs ls hP hD hS hl)

theorem A_lconst (ok : OkB l g own nm cc nL ret R A H0 K) {n : Fin 2} {v : Int64} (d : decode cc pc = .ok (.lconst n, 1)) (hv : Int64.ofNat (n : Nat) = v)
    (k : AW g A H0 nL K (pc + 1) (lv) (.long v :: st) (ws) cn sn) : AW g A H0 nL K pc lv (st) ws cn sn := by
  obtain ⟨p, e, s, m, args, below, meth, c, Q, rfl, rfl, hx, hb, hml, hown, hts, hr, hlk, hKn, hG, hA, hnm⟩ := ok
  intro H locs ls hP hD hS hl
  exact lv_lconst hx hb d hv (k H locs ls hP hD hS hl)

theorem A_ldc (ok : OkB l g own nm cc nL ret R A H0 K) {ix : Nat} {v : Int32} (d : decode cc pc = .ok (.ldc ix, 2)) (hw : Cond.constant own ix v ∈ GT)
    (k : AW g A H0 nL K (pc + 2) (lv) (.int v :: st) (ws) cn sn) : AW g A H0 nL K pc lv (st) ws cn sn := by
  obtain ⟨p, e, s, m, args, below, meth, c, Q, rfl, rfl, hx, hb, hml, hown, hts, hr, hlk, hKn, hG, hA, hnm⟩ := ok
  intro H locs ls hP hD hS hl
  exact W.ldc hx hb hown (hts _ hw) rfl d (k H locs ls hP hD hS hl)

theorem A_ldc2 (ok : OkB l g own nm cc nL ret R A H0 K) {ix : Nat} {v : Int64} (d : decode cc pc = .ok (.ldc2_w ix, 3)) (hw : Cond.constantLong own ix v ∈ GT)
    (k : AW g A H0 nL K (pc + 3) (lv) (.long v :: st) (ws) cn sn) : AW g A H0 nL K pc lv (st) ws cn sn := by
  obtain ⟨p, e, s, m, args, below, meth, c, Q, rfl, rfl, hx, hb, hml, hown, hts, hr, hlk, hKn, hG, hA, hnm⟩ := ok
  intro H locs ls hP hD hS hl
  exact W.ldc2 hx hb hown (hts _ hw) rfl d (k H locs ls hP hD hS hl)

theorem A_iadd (ok : OkB l g own nm cc nL ret R A H0 K) {x y : Int32} (d : decode cc pc = .ok (.iadd, 1))
    (k : AW g A H0 nL K (pc + 1) (lv) (.int (x + y) :: st) (ws) cn sn) : AW g A H0 nL K pc lv (.int y :: .int x :: st) ws cn sn := by
  obtain ⟨p, e, s, m, args, below, meth, c, Q, rfl, rfl, hx, hb, hml, hown, hts, hr, hlk, hKn, hG, hA, hnm⟩ := ok
  intro H locs ls hP hD hS hl
  exact lv_iadd hx hb d (k H locs ls hP hD hS hl)

theorem A_isub (ok : OkB l g own nm cc nL ret R A H0 K) {x y : Int32} (d : decode cc pc = .ok (.isub, 1))
    (k : AW g A H0 nL K (pc + 1) (lv) (.int (x - y) :: st) (ws) cn sn) : AW g A H0 nL K pc lv (.int y :: .int x :: st) ws cn sn := by
  obtain ⟨p, e, s, m, args, below, meth, c, Q, rfl, rfl, hx, hb, hml, hown, hts, hr, hlk, hKn, hG, hA, hnm⟩ := ok
  intro H locs ls hP hD hS hl
  exact lv_isub hx hb d (k H locs ls hP hD hS hl)

theorem A_imul (ok : OkB l g own nm cc nL ret R A H0 K) {x y : Int32} (d : decode cc pc = .ok (.imul, 1))
    (k : AW g A H0 nL K (pc + 1) (lv) (.int (x * y) :: st) (ws) cn sn) : AW g A H0 nL K pc lv (.int y :: .int x :: st) ws cn sn := by
  obtain ⟨p, e, s, m, args, below, meth, c, Q, rfl, rfl, hx, hb, hml, hown, hts, hr, hlk, hKn, hG, hA, hnm⟩ := ok
  intro H locs ls hP hD hS hl
  exact lv_imul hx hb d (k H locs ls hP hD hS hl)

theorem A_iand (ok : OkB l g own nm cc nL ret R A H0 K) {x y : Int32} (d : decode cc pc = .ok (.iand, 1))
    (k : AW g A H0 nL K (pc + 1) (lv) (.int (x &&& y) :: st) (ws) cn sn) : AW g A H0 nL K pc lv (.int y :: .int x :: st) ws cn sn := by
  obtain ⟨p, e, s, m, args, below, meth, c, Q, rfl, rfl, hx, hb, hml, hown, hts, hr, hlk, hKn, hG, hA, hnm⟩ := ok
  intro H locs ls hP hD hS hl
  exact lv_iand hx hb d (k H locs ls hP hD hS hl)

theorem A_ior (ok : OkB l g own nm cc nL ret R A H0 K) {x y : Int32} (d : decode cc pc = .ok (.ior, 1))
    (k : AW g A H0 nL K (pc + 1) (lv) (.int (x ||| y) :: st) (ws) cn sn) : AW g A H0 nL K pc lv (.int y :: .int x :: st) ws cn sn := by
  obtain ⟨p, e, s, m, args, below, meth, c, Q, rfl, rfl, hx, hb, hml, hown, hts, hr, hlk, hKn, hG, hA, hnm⟩ := ok
  intro H locs ls hP hD hS hl
  exact lv_ior hx hb d (k H locs ls hP hD hS hl)

theorem A_ixor (ok : OkB l g own nm cc nL ret R A H0 K) {x y : Int32} (d : decode cc pc = .ok (.ixor, 1))
    (k : AW g A H0 nL K (pc + 1) (lv) (.int (x ^^^ y) :: st) (ws) cn sn) : AW g A H0 nL K pc lv (.int y :: .int x :: st) ws cn sn := by
  obtain ⟨p, e, s, m, args, below, meth, c, Q, rfl, rfl, hx, hb, hml, hown, hts, hr, hlk, hKn, hG, hA, hnm⟩ := ok
  intro H locs ls hP hD hS hl
  exact lv_ixor hx hb d (k H locs ls hP hD hS hl)

theorem A_ishl (ok : OkB l g own nm cc nL ret R A H0 K) {x y : Int32} (d : decode cc pc = .ok (.ishl, 1))
    (k : AW g A H0 nL K (pc + 1) (lv) (.int (x <<< (y &&& 31)) :: st) (ws) cn sn) : AW g A H0 nL K pc lv (.int y :: .int x :: st) ws cn sn := by
  obtain ⟨p, e, s, m, args, below, meth, c, Q, rfl, rfl, hx, hb, hml, hown, hts, hr, hlk, hKn, hG, hA, hnm⟩ := ok
  intro H locs ls hP hD hS hl
  exact lv_ishl hx hb d (k H locs ls hP hD hS hl)

theorem A_ishr (ok : OkB l g own nm cc nL ret R A H0 K) {x y : Int32} (d : decode cc pc = .ok (.ishr, 1))
    (k : AW g A H0 nL K (pc + 1) (lv) (.int (x >>> (y &&& 31)) :: st) (ws) cn sn) : AW g A H0 nL K pc lv (.int y :: .int x :: st) ws cn sn := by
  obtain ⟨p, e, s, m, args, below, meth, c, Q, rfl, rfl, hx, hb, hml, hown, hts, hr, hlk, hKn, hG, hA, hnm⟩ := ok
  intro H locs ls hP hD hS hl
  exact lv_ishr hx hb d (k H locs ls hP hD hS hl)

theorem A_idiv (ok : OkB l g own nm cc nL ret R A H0 K) {x y : Int32} (d : decode cc pc = .ok (.idiv, 1)) (hne : ¬ y = 0)
    (k : AW g A H0 nL K (pc + 1) (lv) (.int (x / y) :: st) (ws) cn sn) : AW g A H0 nL K pc lv (.int y :: .int x :: st) ws cn sn := by
  obtain ⟨p, e, s, m, args, below, meth, c, Q, rfl, rfl, hx, hb, hml, hown, hts, hr, hlk, hKn, hG, hA, hnm⟩ := ok
  intro H locs ls hP hD hS hl
  exact lv_idiv hx hb d hne (k H locs ls hP hD hS hl)

theorem A_irem (ok : OkB l g own nm cc nL ret R A H0 K) {x y : Int32} (d : decode cc pc = .ok (.irem, 1)) (hne : ¬ y = 0)
    (k : AW g A H0 nL K (pc + 1) (lv) (.int (x - x / y * y) :: st) (ws) cn sn) : AW g A H0 nL K pc lv (.int y :: .int x :: st) ws cn sn := by
  obtain ⟨p, e, s, m, args, below, meth, c, Q, rfl, rfl, hx, hb, hml, hown, hts, hr, hlk, hKn, hG, hA, hnm⟩ := ok
  intro H locs ls hP hD hS hl
  exact lv_irem hx hb d hne (k H locs ls hP hD hS hl)

theorem A_ldiv (ok : OkB l g own nm cc nL ret R A H0 K) {x y : Int64} (d : decode cc pc = .ok (.ldiv, 1)) (hne : ¬ y = 0)
    (k : AW g A H0 nL K (pc + 1) (lv) (.long (x / y) :: st) (ws) cn sn) : AW g A H0 nL K pc lv (.long y :: .long x :: st) ws cn sn := by
  obtain ⟨p, e, s, m, args, below, meth, c, Q, rfl, rfl, hx, hb, hml, hown, hts, hr, hlk, hKn, hG, hA, hnm⟩ := ok
  intro H locs ls hP hD hS hl
  exact lv_ldiv hx hb d hne (k H locs ls hP hD hS hl)

theorem A_ladd (ok : OkB l g own nm cc nL ret R A H0 K) {x y : Int64} (d : decode cc pc = .ok (.ladd, 1))
    (k : AW g A H0 nL K (pc + 1) (lv) (.long (x + y) :: st) (ws) cn sn) : AW g A H0 nL K pc lv (.long y :: .long x :: st) ws cn sn := by
  obtain ⟨p, e, s, m, args, below, meth, c, Q, rfl, rfl, hx, hb, hml, hown, hts, hr, hlk, hKn, hG, hA, hnm⟩ := ok
  intro H locs ls hP hD hS hl
  exact lv_ladd hx hb d (k H locs ls hP hD hS hl)

theorem A_lsub (ok : OkB l g own nm cc nL ret R A H0 K) {x y : Int64} (d : decode cc pc = .ok (.lsub, 1))
    (k : AW g A H0 nL K (pc + 1) (lv) (.long (x - y) :: st) (ws) cn sn) : AW g A H0 nL K pc lv (.long y :: .long x :: st) ws cn sn := by
  obtain ⟨p, e, s, m, args, below, meth, c, Q, rfl, rfl, hx, hb, hml, hown, hts, hr, hlk, hKn, hG, hA, hnm⟩ := ok
  intro H locs ls hP hD hS hl
  exact lv_lsub hx hb d (k H locs ls hP hD hS hl)

theorem A_lmul (ok : OkB l g own nm cc nL ret R A H0 K) {x y : Int64} (d : decode cc pc = .ok (.lmul, 1))
    (k : AW g A H0 nL K (pc + 1) (lv) (.long (x * y) :: st) (ws) cn sn) : AW g A H0 nL K pc lv (.long y :: .long x :: st) ws cn sn := by
  obtain ⟨p, e, s, m, args, below, meth, c, Q, rfl, rfl, hx, hb, hml, hown, hts, hr, hlk, hKn, hG, hA, hnm⟩ := ok
  intro H locs ls hP hD hS hl
  exact lv_lmul hx hb d (k H locs ls hP hD hS hl)

theorem A_land (ok : OkB l g own nm cc nL ret R A H0 K) {x y : Int64} (d : decode cc pc = .ok (.land, 1))
    (k : AW g A H0 nL K (pc + 1) (lv) (.long (x &&& y) :: st) (ws) cn sn) : AW g A H0 nL K pc lv (.long y :: .long x :: st) ws cn sn := by
  obtain ⟨p, e, s, m, args, below, meth, c, Q, rfl, rfl, hx, hb, hml, hown, hts, hr, hlk, hKn, hG, hA, hnm⟩ := ok
  intro H locs ls hP hD hS hl
  exact lv_land hx hb d (k H locs ls hP hD hS hl)

theorem A_lor (ok : OkB l g own nm cc nL ret R A H0 K) {x y : Int64} (d : decode cc pc = .ok (.lor, 1))
    (k : AW g A H0 nL K (pc + 1) (lv) (.long (x ||| y) :: st) (ws) cn sn) : AW g A H0 nL K pc lv (.long y :: .long x :: st) ws cn sn := by
  obtain ⟨p, e, s, m, args, below, meth, c, Q, rfl, rfl, hx, hb, hml, hown, hts, hr, hlk, hKn, hG, hA, hnm⟩ := ok
  intro H locs ls hP hD hS hl
  exact lv_lor hx hb d (k H locs ls hP hD hS hl)

theorem A_lshl (ok : OkB l g own nm cc nL ret R A H0 K) {x : Int64} {y : Int32} (d : decode cc pc = .ok (.lshl, 1))
    (k : AW g A H0 nL K (pc + 1) (lv) (.long (x <<< (y.toInt64 &&& 63)) :: st) (ws) cn sn) : AW g A H0 nL K pc lv (.int y :: .long x :: st) ws cn sn := by
  obtain ⟨p, e, s, m, args, below, meth, c, Q, rfl, rfl, hx, hb, hml, hown, hts, hr, hlk, hKn, hG, hA, hnm⟩ := ok
  intro H locs ls hP hD hS hl
  exact lv_lshl hx hb d rfl (k H locs ls hP hD hS hl)

theorem A_lshr (ok : OkB l g own nm cc nL ret R A H0 K) {x : Int64} {y : Int32} (d : decode cc pc = .ok (.lshr, 1))
    (k : AW g A H0 nL K (pc + 1) (lv) (.long (x >>> (y.toInt64 &&& 63)) :: st) (ws) cn sn) : AW g A H0 nL K pc lv (.int y :: .long x :: st) ws cn sn := by
  obtain ⟨p, e, s, m, args, below, meth, c, Q, rfl, rfl, hx, hb, hml, hown, hts, hr, hlk, hKn, hG, hA, hnm⟩ := ok
  intro H locs ls hP hD hS hl
  exact lv_lshr hx hb d rfl (k H locs ls hP hD hS hl)

theorem A_iushr (ok : OkB l g own nm cc nL ret R A H0 K) {x y : Int32} (d : decode cc pc = .ok (.iushr, 1))
    (k : AW g A H0 nL K (pc + 1) (lv) (.int ((x.toUInt32 >>> (y.toUInt32 &&& Int32.toUInt32 31)).toInt32) :: st) (ws) cn sn) : AW g A H0 nL K pc lv (.int y :: .int x :: st) ws cn sn := by
  obtain ⟨p, e, s, m, args, below, meth, c, Q, rfl, rfl, hx, hb, hml, hown, hts, hr, hlk, hKn, hG, hA, hnm⟩ := ok
  intro H locs ls hP hD hS hl
  exact lv_iushr hx hb d rfl (k H locs ls hP hD hS hl)

theorem A_ineg (ok : OkB l g own nm cc nL ret R A H0 K) {x : Int32} (d : decode cc pc = .ok (.ineg, 1))
    (k : AW g A H0 nL K (pc + 1) (lv) (.int (-x) :: st) (ws) cn sn) : AW g A H0 nL K pc lv (.int x :: st) ws cn sn := by
  obtain ⟨p, e, s, m, args, below, meth, c, Q, rfl, rfl, hx, hb, hml, hown, hts, hr, hlk, hKn, hG, hA, hnm⟩ := ok
  intro H locs ls hP hD hS hl
  exact lv_ineg hx hb d (k H locs ls hP hD hS hl)

theorem A_i2l (ok : OkB l g own nm cc nL ret R A H0 K) {x : Int32} (d : decode cc pc = .ok (.i2l, 1))
    (k : AW g A H0 nL K (pc + 1) (lv) (.long x.toInt64 :: st) (ws) cn sn) : AW g A H0 nL K pc lv (.int x :: st) ws cn sn := by
  obtain ⟨p, e, s, m, args, below, meth, c, Q, rfl, rfl, hx, hb, hml, hown, hts, hr, hlk, hKn, hG, hA, hnm⟩ := ok
  intro H locs ls hP hD hS hl
  exact lv_i2l hx hb d rfl (k H locs ls hP hD hS hl)

theorem A_l2i (ok : OkB l g own nm cc nL ret R A H0 K) {x : Int64} (d : decode cc pc = .ok (.l2i, 1))
    (k : AW g A H0 nL K (pc + 1) (lv) (.int x.toInt32 :: st) (ws) cn sn) : AW g A H0 nL K pc lv (.long x :: st) ws cn sn := by
  obtain ⟨p, e, s, m, args, below, meth, c, Q, rfl, rfl, hx, hb, hml, hown, hts, hr, hlk, hKn, hG, hA, hnm⟩ := ok
  intro H locs ls hP hD hS hl
  exact lv_l2i hx hb d rfl (k H locs ls hP hD hS hl)

theorem A_i2b (ok : OkB l g own nm cc nL ret R A H0 K) {x : Int32} (d : decode cc pc = .ok (.i2b, 1))
    (k : AW g A H0 nL K (pc + 1) (lv) (.int x.toInt8.toInt32 :: st) (ws) cn sn) : AW g A H0 nL K pc lv (.int x :: st) ws cn sn := by
  obtain ⟨p, e, s, m, args, below, meth, c, Q, rfl, rfl, hx, hb, hml, hown, hts, hr, hlk, hKn, hG, hA, hnm⟩ := ok
  intro H locs ls hP hD hS hl
  exact lv_i2b hx hb d rfl (k H locs ls hP hD hS hl)

theorem A_lcmp (ok : OkB l g own nm cc nL ret R A H0 K) {x y : Int64} (d : decode cc pc = .ok (.lcmp, 1))
    (k : AW g A H0 nL K (pc + 1) (lv) (.int (lg_cmp x y) :: st) (ws) cn sn) : AW g A H0 nL K pc lv (.long y :: .long x :: st) ws cn sn := by
  obtain ⟨p, e, s, m, args, below, meth, c, Q, rfl, rfl, hx, hb, hml, hown, hts, hr, hlk, hKn, hG, hA, hnm⟩ := ok
  intro H locs ls hP hD hS hl
  exact W.lcmp hx hb d (k H locs ls hP hD hS hl)

theorem A_dup (ok : OkB l g own nm cc nL ret R A H0 K) {va : Value} (d : decode cc pc = .ok (.dup, 1)) (hc : va.category = 1)
    (k : AW g A H0 nL K (pc + 1) (lv) (va :: va :: st) (ws) cn sn) : AW g A H0 nL K pc lv (va :: st) ws cn sn := by
  obtain ⟨p, e, s, m, args, below, meth, c, Q, rfl, rfl, hx, hb, hml, hown, hts, hr, hlk, hKn, hG, hA, hnm⟩ := ok
  intro H locs ls hP hD hS hl
  exact lv_dup hx hb d hc (k H locs ls hP hD hS hl)

theorem A_pop (ok : OkB l g own nm cc nL ret R A H0 K) {va : Value} (d : decode cc pc = .ok (.pop, 1)) (hc : va.category = 1)
    (k : AW g A H0 nL K (pc + 1) (lv) (st) (ws) cn sn) : AW g A H0 nL K pc lv (va :: st) ws cn sn := by
  obtain ⟨p, e, s, m, args, below, meth, c, Q, rfl, rfl, hx, hb, hml, hown, hts, hr, hlk, hKn, hG, hA, hnm⟩ := ok
  intro H locs ls hP hD hS hl
  exact lv_pop hx hb d hc (k H locs ls hP hD hS hl)

theorem A_dup2 (ok : OkB l g own nm cc nL ret R A H0 K) {va : Value} (d : decode cc pc = .ok (.dup2, 1)) (hc : va.category = 2)
    (k : AW g A H0 nL K (pc + 1) (lv) (va :: va :: st) (ws) cn sn) : AW g A H0 nL K pc lv (va :: st) ws cn sn := by
  obtain ⟨p, e, s, m, args, below, meth, c, Q, rfl, rfl, hx, hb, hml, hown, hts, hr, hlk, hKn, hG, hA, hnm⟩ := ok
  intro H locs ls hP hD hS hl
  exact lv_dup2_2 hx hb d hc (k H locs ls hP hD hS hl)

theorem A_dup2_11 (ok : OkB l g own nm cc nL ret R A H0 K) {va vb : Value} (d : decode cc pc = .ok (.dup2, 1)) (hc : va.category = 1) (hc2 : vb.category = 1)
    (k : AW g A H0 nL K (pc + 1) (lv) (va :: vb :: va :: vb :: st) (ws) cn sn) : AW g A H0 nL K pc lv (va :: vb :: st) ws cn sn := by
  obtain ⟨p, e, s, m, args, below, meth, c, Q, rfl, rfl, hx, hb, hml, hown, hts, hr, hlk, hKn, hG, hA, hnm⟩ := ok
  intro H locs ls hP hD hS hl
  exact lv_dup2_11 hx hb d hc hc2 (k H locs ls hP hD hS hl)

theorem A_goto (ok : OkB l g own nm cc nL ret R A H0 K) {off : Int} {tgt : Nat} (d : decode cc pc = .ok (.goto off, 3)) (ht : (pc : Int) + off = (tgt : Int))
    (k : AW g A H0 nL K (tgt) (lv) (st) (ws) cn sn) : AW g A H0 nL K pc lv (st) ws cn sn := by
  obtain ⟨p, e, s, m, args, below, meth, c, Q, rfl, rfl, hx, hb, hml, hown, hts, hr, hlk, hKn, hG, hA, hnm⟩ := ok
  intro H locs ls hP hD hS hl
  exact lv_goto hx hb d ht (k H locs ls hP hD hS hl)

theorem A_icmp_eq (ok : OkB l g own nm cc nL ret R A H0 K) {x y : Int32} {off : Int} {tgt : Nat} (d : decode cc pc = .ok (.if_icmp .eq off, 3)) (ht : (pc : Int) + off = (tgt : Int))
    (kt : x = y → AW g A H0 nL K tgt lv st ws cn sn) (kf : ¬ x = y → AW g A H0 nL K (pc + 3) lv st ws cn sn) : AW g A H0 nL K pc lv (.int y :: .int x :: st) ws cn sn := by
  obtain ⟨p, e, s, m, args, below, meth, c, Q, rfl, rfl, hx, hb, hml, hown, hts, hr, hlk, hKn, hG, hA, hnm⟩ := ok
  intro H locs ls hP hD hS hl
  exact lv_icmp_eq hx hb d ht (fun q => kt q H locs ls hP hD hS hl) (fun q => kf q H locs ls hP hD hS hl)

theorem A_if_eq (ok : OkB l g own nm cc nL ret R A H0 K) {x : Int32} {off : Int} {tgt : Nat} (d : decode cc pc = .ok (.ifCond .eq off, 3)) (ht : (pc : Int) + off = (tgt : Int))
    (kt : x = 0 → AW g A H0 nL K tgt lv st ws cn sn) (kf : ¬ x = 0 → AW g A H0 nL K (pc + 3) lv st ws cn sn) : AW g A H0 nL K pc lv (.int x :: st) ws cn sn := by
  obtain ⟨p, e, s, m, args, below, meth, c, Q, rfl, rfl, hx, hb, hml, hown, hts, hr, hlk, hKn, hG, hA, hnm⟩ := ok
  intro H locs ls hP hD hS hl
  exact lv_if_eq hx hb d ht (fun q => kt q H locs ls hP hD hS hl) (fun q => kf q H locs ls hP hD hS hl)

theorem A_icmp_ne (ok : OkB l g own nm cc nL ret R A H0 K) {x y : Int32} {off : Int} {tgt : Nat} (d : decode cc pc = .ok (.if_icmp .ne off, 3)) (ht : (pc : Int) + off = (tgt : Int))
    (kt : ¬ x = y → AW g A H0 nL K tgt lv st ws cn sn) (kf : x = y → AW g A H0 nL K (pc + 3) lv st ws cn sn) : AW g A H0 nL K pc lv (.int y :: .int x :: st) ws cn sn := by
  obtain ⟨p, e, s, m, args, below, meth, c, Q, rfl, rfl, hx, hb, hml, hown, hts, hr, hlk, hKn, hG, hA, hnm⟩ := ok
  intro H locs ls hP hD hS hl
  exact lv_icmp_ne hx hb d ht (fun q => kt q H locs ls hP hD hS hl) (fun q => kf q H locs ls hP hD hS hl)

theorem A_if_ne (ok : OkB l g own nm cc nL ret R A H0 K) {x : Int32} {off : Int} {tgt : Nat} (d : decode cc pc = .ok (.ifCond .ne off, 3)) (ht : (pc : Int) + off = (tgt : Int))
    (kt : ¬ x = 0 → AW g A H0 nL K tgt lv st ws cn sn) (kf : x = 0 → AW g A H0 nL K (pc + 3) lv st ws cn sn) : AW g A H0 nL K pc lv (.int x :: st) ws cn sn := by
  obtain ⟨p, e, s, m, args, below, meth, c, Q, rfl, rfl, hx, hb, hml, hown, hts, hr, hlk, hKn, hG, hA, hnm⟩ := ok
  intro H locs ls hP hD hS hl
  exact lv_if_ne hx hb d ht (fun q => kt q H locs ls hP hD hS hl) (fun q => kf q H locs ls hP hD hS hl)

theorem A_icmp_lt (ok : OkB l g own nm cc nL ret R A H0 K) {x y : Int32} {off : Int} {tgt : Nat} (d : decode cc pc = .ok (.if_icmp .lt off, 3)) (ht : (pc : Int) + off = (tgt : Int))
    (kt : x < y → AW g A H0 nL K tgt lv st ws cn sn) (kf : ¬ x < y → AW g A H0 nL K (pc + 3) lv st ws cn sn) : AW g A H0 nL K pc lv (.int y :: .int x :: st) ws cn sn := by
  obtain ⟨p, e, s, m, args, below, meth, c, Q, rfl, rfl, hx, hb, hml, hown, hts, hr, hlk, hKn, hG, hA, hnm⟩ := ok
  intro H locs ls hP hD hS hl
  exact lv_icmp_lt hx hb d ht (fun q => kt q H locs ls hP hD hS hl) (fun q => kf q H locs ls hP hD hS hl)

theorem A_if_lt (ok : OkB l g own nm cc nL ret R A H0 K) {x : Int32} {off : Int} {tgt : Nat} (d : decode cc pc = .ok (.ifCond .lt off, 3)) (ht : (pc : Int) + off = (tgt : Int))
    (kt : x < 0 → AW g A H0 nL K tgt lv st ws cn sn) (kf : ¬ x < 0 → AW g A H0 nL K (pc + 3) lv st ws cn sn) : AW g A H0 nL K pc lv (.int x :: st) ws cn sn := by
  obtain ⟨p, e, s, m, args, below, meth, c, Q, rfl, rfl, hx, hb, hml, hown, hts, hr, hlk, hKn, hG, hA, hnm⟩ := ok
  intro H locs ls hP hD hS hl
  exact lv_if_lt hx hb d ht (fun q => kt q H locs ls hP hD hS hl) (fun q => kf q H locs ls hP hD hS hl)

theorem A_icmp_ge (ok : OkB l g own nm cc nL ret R A H0 K) {x y : Int32} {off : Int} {tgt : Nat} (d : decode cc pc = .ok (.if_icmp .ge off, 3)) (ht : (pc : Int) + off = (tgt : Int))
    (kt : y ≤ x → AW g A H0 nL K tgt lv st ws cn sn) (kf : ¬ y ≤ x → AW g A H0 nL K (pc + 3) lv st ws cn sn) : AW g A H0 nL K pc lv (.int y :: .int x :: st) ws cn sn := by
  obtain ⟨p, e, s, m, args, below, meth, c, Q, rfl, rfl, hx, hb, hml, hown, hts, hr, hlk, hKn, hG, hA, hnm⟩ := ok
  intro H locs ls hP hD hS hl
  exact lv_icmp_ge hx hb d ht (fun q => kt q H locs ls hP hD hS hl) (fun q => kf q H locs ls hP hD hS hl)

theorem A_if_ge (ok : OkB l g own nm cc nL ret R A H0 K) {x : Int32} {off : Int} {tgt : Nat} (d : decode cc pc = .ok (.ifCond .ge off, 3)) (ht : (pc : Int) + off = (tgt : Int))
    (kt : 0 ≤ x → AW g A H0 nL K tgt lv st ws cn sn) (kf : ¬ 0 ≤ x → AW g A H0 nL K (pc + 3) lv st ws cn sn) : AW g A H0 nL K pc lv (.int x :: st) ws cn sn := by
  obtain ⟨p, e, s, m, args, below, meth, c, Q, rfl, rfl, hx, hb, hml, hown, hts, hr, hlk, hKn, hG, hA, hnm⟩ := ok
  intro H locs ls hP hD hS hl
  exact lv_if_ge hx hb d ht (fun q => kt q H locs ls hP hD hS hl) (fun q => kf q H locs ls hP hD hS hl)

theorem A_icmp_gt (ok : OkB l g own nm cc nL ret R A H0 K) {x y : Int32} {off : Int} {tgt : Nat} (d : decode cc pc = .ok (.if_icmp .gt off, 3)) (ht : (pc : Int) + off = (tgt : Int))
    (kt : y < x → AW g A H0 nL K tgt lv st ws cn sn) (kf : ¬ y < x → AW g A H0 nL K (pc + 3) lv st ws cn sn) : AW g A H0 nL K pc lv (.int y :: .int x :: st) ws cn sn := by
  obtain ⟨p, e, s, m, args, below, meth, c, Q, rfl, rfl, hx, hb, hml, hown, hts, hr, hlk, hKn, hG, hA, hnm⟩ := ok
  intro H locs ls hP hD hS hl
  exact lv_icmp_gt hx hb d ht (fun q => kt q H locs ls hP hD hS hl) (fun q => kf q H locs ls hP hD hS hl)

theorem A_if_gt (ok : OkB l g own nm cc nL ret R A H0 K) {x : Int32} {off : Int} {tgt : Nat} (d : decode cc pc = .ok (.ifCond .gt off, 3)) (ht : (pc : Int) + off = (tgt : Int))
    (kt : 0 < x → AW g A H0 nL K tgt lv st ws cn sn) (kf : ¬ 0 < x → AW g A H0 nL K (pc + 3) lv st ws cn sn) : AW g A H0 nL K pc lv (.int x :: st) ws cn sn := by
  obtain ⟨p, e, s, m, args, below, meth, c, Q, rfl, rfl, hx, hb, hml, hown, hts, hr, hlk, hKn, hG, hA, hnm⟩ := ok
  intro H locs ls hP hD hS hl
  exact lv_if_gt hx hb d ht (fun q => kt q H locs ls hP hD hS hl) (fun q => kf q H locs ls hP hD hS hl)

theorem A_icmp_le (ok : OkB l g own nm cc nL ret R A H0 K) {x y : Int32} {off : Int} {tgt : Nat} (d : decode cc pc = .ok (.if_icmp .le off, 3)) (ht : (pc : Int) + off = (tgt : Int))
    (kt : x ≤ y → AW g A H0 nL K tgt lv st ws cn sn) (kf : ¬ x ≤ y → AW g A H0 nL K (pc + 3) lv st ws cn sn) : AW g A H0 nL K pc lv (.int y :: .int x :: st) ws cn sn := by
  obtain ⟨p, e, s, m, args, below, meth, c, Q, rfl, rfl, hx, hb, hml, hown, hts, hr, hlk, hKn, hG, hA, hnm⟩ := ok
  intro H locs ls hP hD hS hl
  exact lv_icmp_le hx hb d ht (fun q => kt q H locs ls hP hD hS hl) (fun q => kf q H locs ls hP hD hS hl)

theorem A_if_le (ok : OkB l g own nm cc nL ret R A H0 K) {x : Int32} {off : Int} {tgt : Nat} (d : decode cc pc = .ok (.ifCond .le off, 3)) (ht : (pc : Int) + off = (tgt : Int))
    (kt : x ≤ 0 → AW g A H0 nL K tgt lv st ws cn sn) (kf : ¬ x ≤ 0 → AW g A H0 nL K (pc + 3) lv st ws cn sn) : AW g A H0 nL K pc lv (.int x :: st) ws cn sn := by
  obtain ⟨p, e, s, m, args, below, meth, c, Q, rfl, rfl, hx, hb, hml, hown, hts, hr, hlk, hKn, hG, hA, hnm⟩ := ok
  intro H locs ls hP hD hS hl
  exact lv_if_le hx hb d ht (fun q => kt q H locs ls hP hD hS hl) (fun q => kf q H locs ls hP hD hS hl)

end AWR
