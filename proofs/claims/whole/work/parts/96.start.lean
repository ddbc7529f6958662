def ixS : List Nat := [69, 100, 105, 110, 115, 120, 125, 130, 135, 221, 223, 224, 226, 228]
def tmS (i : Nat) : Term := .string "TunnelControlDesk$SetupReader" (ixS.getD i 0)
theorem nw_ex : ∀ i, i < 14 → Cond.exactly (tmS i) "java/lang/String" ∈ flatC (Jvm.Cond.and given_1 narrow_1) := by decide +kernel
theorem nw_co : ∀ i, i < 14 → Cond.eq (.field (tmS i) "java/lang/String" "coder" "B") (.int 0) ∈ flatC (Jvm.Cond.and given_1 narrow_1) := by decide +kernel
theorem nw_ar : ∀ i, i < 14 → Cond.arrayOf (.field (tmS i) "java/lang/String" "value" "[B") .byte ∈ flatC (Jvm.Cond.and given_1 narrow_1) := by decide +kernel
theorem nw_le : ∀ i, i < 14 → Cond.eq (.length (.field (tmS i) "java/lang/String" "value" "[B")) (.int (Int32.ofNat (lenS.getD i 0))) ∈ flatC (Jvm.Cond.and given_1 narrow_1) := by decide +kernel
theorem nw_el : ∀ i, i < 14 → ∀ j, j < lenS.getD i 0 → Cond.eq (.elem (.field (tmS i) "java/lang/String" "value" "[B") (.int (Int32.ofNat j))) (.int ((bytS.getD i []).getD j 0)) ∈ flatC (Jvm.Cond.and given_1 narrow_1) := by decide +kernel
theorem len_ok : ∀ i, i < 14 → lenS.getD i 0 < 2 ^ 31 := by decide +kernel
theorem txt_ne : ∀ i, i < 14 → ∀ j, j < 14 → lenS.getD i 0 = lenS.getD j 0 → (∀ k, k < lenS.getD i 0 → (bytS.getD i []).getD k 0 = (bytS.getD j []).getD k 0) → i = j := by decide +kernel
theorem nw_st : ∀ q ∈ sTab, Cond.stringRef q.1 q.2.1 q.2.2.1 ∈ lw_tbl := by decide +kernel
theorem nw_sq : ∀ q ∈ sTab, q.2.2.2 < 14 ∧ (Term.string q.1 q.2.1 = tmS q.2.2.2 ∨ Cond.eq (tmS q.2.2.2) (.string q.1 q.2.1) ∈ flatC (Jvm.Cond.and given_1 narrow_1)) := by decide +kernel
theorem nw_xt : ∀ q ∈ xTab, Cond.stringRef "TunnelControlDesk" q.1 q.2 ∈ lw_tbl ∧ Cond.exactly (.string "TunnelControlDesk" q.1) "java/lang/String" ∈ flatC (Jvm.Cond.and given_1 narrow_1) := by decide +kernel
theorem nw_nt : ∀ q ∈ nTab, Cond.methodLinkNest q.1 q.2.1 q.2.2.1 q.2.2.2 ∈ lw_tbl := by decide +kernel
theorem nw_nc : ∀ q ∈ ncTab, Cond.not (.castable q.1 q.2) ∈ flatC (Jvm.Cond.and given_1 narrow_1) := by decide +kernel
theorem nw_ct : ∀ q ∈ cTab, Cond.castable q.1 q.2 ∈ lw_tbl := by decide +kernel
theorem nw_dt : ∀ x ∈ dTab, Cond.declares x ∈ lw_tbl := by decide +kernel
theorem nw_ao : Cond.arrayOver (.object "TunnelControlDesk$Tunnel") ∈ lw_tbl ∧ Cond.arrayOver (.array .int) ∈ lw_tbl := by decide +kernel
theorem nw_z1 : Cond.laysStatic Bundle.tN "UNASSIGNED_STACK" Bundle.steD ∈ lw_tbl ∧ Cond.laysStatic Bundle.tN "SUPPRESSED_SENTINEL" Bundle.listD ∈ lw_tbl ∧ Cond.laysStatic "java/lang/String" "COMPACT_STRINGS" "Z" ∈ lw_tbl ∧ Cond.laysStatic "jdk/internal/util/Preconditions" "SIOOBE_FORMATTER" "Ljava/util/function/BiFunction;" ∈ lw_tbl := by decide +kernel
theorem nw_z2 : Cond.initialized Bundle.tN ∈ lw_tbl ∧ Cond.initialized "java/lang/String" ∈ lw_tbl ∧ Cond.initialized "jdk/internal/util/Preconditions" ∈ lw_tbl := by decide +kernel
theorem nw_z3 : Cond.isRef (.static Bundle.tN "UNASSIGNED_STACK" Bundle.steD) ∈ flatC (Jvm.Cond.and given_1 narrow_1) ∧ Cond.isRef (.static Bundle.tN "SUPPRESSED_SENTINEL" Bundle.listD) ∈ flatC (Jvm.Cond.and given_1 narrow_1) ∧ Cond.eq (.static "java/lang/String" "COMPACT_STRINGS" "Z") (.int 1) ∈ flatC (Jvm.Cond.and given_1 narrow_1) ∧ Cond.isRef (.static "jdk/internal/util/Preconditions" "SIOOBE_FORMATTER" "Ljava/util/function/BiFunction;") ∈ flatC (Jvm.Cond.and given_1 narrow_1) := by decide +kernel
/-- the texts' cells: each by the kit's law for one, apart for their bytes -/
theorem strs_start {args : Array Value} {s : State} {A : Nat → Prop} (hs : ∀ w ∈ flatC (Jvm.Cond.and given_1 narrow_1), w.before args s = true) (hA : ∀ a : Nat, a < s.heap.size → ¬ A a) : ∃ adK adV : Nat → Nat, vk_S 14 lenS bytS adK adV A s s.heap ∧ ∀ i, i < 14 → (tmS i).eval args s none [] s = some (.ref (adK i)) := by
  have h0 : ∀ i : Nat, ∃ q : Nat × Nat, i < 14 → (tmS i).eval args s none [] s = some (.ref q.1) ∧ va_O "java/lang/String" q.1 A s s.heap ∧ va_OF "java/lang/String" "coder" "B" (.int 0) q.1 A s s.heap ∧ va_OF "java/lang/String" "value" "[B" (.ref q.2) q.1 A s s.heap ∧ va_T .byte q.2 (lenS.getD i 0) (fun j => .int ((bytS.getD i []).getD j 0)) A s s.heap := by
    intro i
    by_cases hi : i < 14
    · obtain ⟨aK, aV, hS, hev⟩ := vk_Sof (args := args) (s := s) (N := 1) (tm := fun _ => tmS i) (len := [lenS.getD i 0]) (byt := [bytS.getD i []]) (A := A)
        (fun k hk => by obtain rfl : k = 0 := by omega
                        exact len_ok i hi)
        (fun k hk => hs _ (nw_ex i hi)) (fun k hk => hs _ (nw_co i hi)) (fun k hk => hs _ (nw_ar i hi))
        (fun k hk => by obtain rfl : k = 0 := by omega
                        exact hs _ (nw_le i hi))
        (fun k hk j hj => by obtain rfl : k = 0 := by omega
                             exact hs _ (nw_el i hi j hj))
        (fun k j hk hj hne => absurd (show k = j by omega) hne) hA
      exact ⟨(aK 0, aV 0), fun _ => ⟨hev 0 (by decide), hS.1 0 (by decide)⟩⟩
    · exact ⟨(0, 0), fun h => absurd h hi⟩
  obtain ⟨ad, had⟩ := Classical.axiomOfChoice h0
  refine ⟨fun i => (ad i).1, fun i => (ad i).2, ⟨fun i hi => (had i hi).2, fun i j hi hj e => ?_⟩, fun i hi => (had i hi).1⟩
  have e1 : (ad i).1 = (ad j).1 := e
  obtain ⟨-, -, -, v1, t1⟩ := had i hi
  obtain ⟨-, -, -, v2, t2⟩ := had j hj
  rw [e1] at v1
  obtain ⟨cf, k, fi, f, cell, a1, -, a3, -, a5, -⟩ := v1
  obtain ⟨cf2, k2, fi2, f2, cell2, b1, -, b3, -, b5, -⟩ := v2
  cases a1.symm.trans b1
  cases a3.symm.trans b3
  have e2 : (ad i).2 = (ad j).2 := Value.ref.inj (Option.some.inj (a5.symm.trans b5))
  rw [e2] at t1
  obtain ⟨c1, q1, -, -, q4, q5, q6, -⟩ := t1
  obtain ⟨c2, r1, -, -, r4, r5, r6, -⟩ := t2
  cases q1.symm.trans r1
  have e3 : lenS.getD i 0 = lenS.getD j 0 := by
    have h9 := q5.symm.trans r5
    have l1 := len_ok i hi
    have l2 := len_ok j hj
    exact (nI_eq l1 l2).mp h9
  refine txt_ne i hi j hj e3 (fun k hk => ?_)
  have h1 := q6 k hk
  have h2 := r6 k (by omega)
  have h3 := h1.symm.trans h2
  simpa using h3
theorem gv_start {args : Array Value} {s : State} {g : Gl} (hts : ∀ w ∈ lw_tbl, w.before args s = true) (hs : ∀ w ∈ flatC (Jvm.Cond.and given_1 narrow_1), w.before args s = true) (hev : ∀ i, i < 14 → (tmS i).eval args s none [] s = some (.ref (g.2.2.1 i))) : GV g s := by
  refine ⟨fun q hq => ?_, fun q hq => ?_, fun q hq => va_Nw.of rfl (hts _ (nw_nt q hq)), va_AO.of (hts _ nw_ao.1), fun q hq => va_Nc.of (hs _ (nw_nc q hq)), fun q hq => va_tabs rfl rfl (hts _ (nw_ct q hq)), fun x hx => va_Nw.of rfl (hts _ (nw_dt x hx)), hts _ nw_ao.2⟩
  · obtain ⟨h1, h2⟩ := nw_sq q hq
    refine vk_R.of (A := args) (hts _ (nw_st q hq)) ?_
    rcases h2 with h2 | h2
    · rw [h2]; exact hev _ h1
    · exact va_eqR (hs _ h2) (hev _ h1)
  · obtain ⟨h1, h2⟩ := nw_xt q hq
    obtain ⟨a, c, cA, kA, q1, -⟩ := Cond.exactly_spec (args := args) (first := s) (o := none) (s := s) (idx := []) (t := .string "TunnelControlDesk" q.1) (cls := "java/lang/String") (hs _ h2)
    exact ⟨a, vk_R.of (A := args) (hts _ h1) q1⟩
theorem gh_start {args : Array Value} {s : State} {A : Nat → Prop} {g : Gl} (hts : ∀ w ∈ lw_tbl, w.before args s = true) (hs : ∀ w ∈ flatC (Jvm.Cond.and given_1 narrow_1), w.before args s = true) (hA : ∀ a : Nat, a < s.heap.size → ¬ A a) (hS : vk_S 14 lenS bytS g.2.2.1 g.2.2.2 A s s.heap) (hev : ∀ i, i < 14 → (tmS i).eval args s none [] s = some (.ref (g.2.2.1 i))) : GH g A s s.heap :=
  ⟨vx_Zqof (hts _ nw_z1.1) (hts _ nw_z2.1) (hs _ nw_z3.1) hA, vx_Zqof (hts _ nw_z1.2.1) (hts _ nw_z2.1) (hs _ nw_z3.2.1) hA, va_Zof (hts _ nw_z1.2.2.1) (hts _ nw_z2.2.1) (va_eqi (hs _ nw_z3.2.2.1)) hA, va_Zqof (hts _ nw_z1.2.2.2) (hts _ nw_z2.2.2) (hs _ nw_z3.2.2.2) hA, hS, gv_start hts hs hev⟩
theorem arr_start {args : Array Value} {s : State} (hts : ∀ w ∈ lw_tbl, w.before args s = true) : ∃ cA : Nat → ClassId, ∀ (k : Nat) (q : ClassId × FieldType), ([(cA 0, .int), (cA 1, .long), (cA 2, .byte), (cA 3, .boolean), (cA 4, .object "TunnelControlDesk$Tunnel"), (cA 5, .array .int)] : List (ClassId × FieldType))[k]? = some q → ArrOfT s q.1 q.2 ∧ va_RA s q.1 q.2 := by
  obtain ⟨a0, k0, m0, f0, g0, h0⟩ := Cond.arrayClass_spec (hts _ (gt_lw gm_arr.1))
  obtain ⟨a1, k1, m1, f1, g1, h1⟩ := Cond.arrayClass_spec (hts _ (gt_lw gm_arr.2.1))
  obtain ⟨a2, k2, m2, f2, g2, h2⟩ := Cond.arrayClass_spec (hts _ (gt_lw gm_arr.2.2.1))
  obtain ⟨a3, k3, m3, f3, g3, h3⟩ := Cond.arrayClass_spec (hts _ (gt_lw gm_arr.2.2.2))
  obtain ⟨m4, a4, k4, e4, -, g4, h4, f4⟩ := Cond.arrayOver_spec (hts _ nw_ao.1)
  obtain ⟨m5, a5, k5, e5, g5, h5, f5⟩ := Cond.arrayOver_specA (hts _ nw_ao.2)
  refine ⟨fun k => if k = 0 then a0 else if k = 1 then a1 else if k = 2 then a2 else if k = 3 then a3 else if k = 4 then a4 else a5, fun k q hq => ?_⟩
  match k, hq with
  | 0, hq => cases hq; exact ⟨fun n z => ⟨fun k h => (by cases h), k0, g0, m0, h0⟩, f0⟩
  | 1, hq => cases hq; exact ⟨fun n z => ⟨fun k h => (by cases h), k1, g1, m1, h1⟩, f1⟩
  | 2, hq => cases hq; exact ⟨fun n z => ⟨fun k h => (by cases h), k2, g2, m2, h2⟩, f2⟩
  | 3, hq => cases hq; exact ⟨fun n z => ⟨fun k h => (by cases h), k3, g3, m3, h3⟩, f3⟩
  | 4, hq => cases hq; exact ⟨fun n z => ⟨fun k h => (by cases h), k4, g4, m4, h4⟩, ⟨k4, m4, g4, h4, e4, f4⟩⟩
  | 5, hq => cases hq; exact ⟨fun n z => ⟨fun k h => (by cases h), k5, g5, m5, h5⟩, f5⟩
  | k + 6, hq => simp at hq
theorem cls_start {args : Array Value} {s : State} (hts : ∀ w ∈ lw_tbl, w.before args s = true) : ∃ (dC : Nat → ClassId) (dI : Nat → Nat → Nat), ∀ (k : Nat) (q : vw_C), vwCl[k]? = some q → u_Kn s q.1 q.2.1 q.2.2 (dC k) (dI k) := by
  obtain ⟨c0, i0, k0⟩ := u_known (C := RX0) (T := TX0) (N := 3) (n := 3) hts (fun w hw => gt_lw (cf0.2.1 w hw)) (hts _ (gt_lw it_X0))
  obtain ⟨c1, i1, k1⟩ := u_known (C := RX1) (T := TX1) (N := 7) (n := 7) hts (fun w hw => gt_lw (cf1.2.1 w hw)) (hts _ (gt_lw it_X1))
  obtain ⟨c2, i2, k2⟩ := u_known (C := RX2) (T := TX2) (N := 7) (n := 7) hts (fun w hw => gt_lw (cf2.2.1 w hw)) (hts _ (gt_lw it_X2))
  obtain ⟨c3, i3, k3⟩ := u_known (C := RX3) (T := TX3) (N := 2) (n := 2) hts (fun w hw => gt_lw (cf3.2.1 w hw)) (hts _ (gt_lw it_X3))
  obtain ⟨c4, i4, k4⟩ := u_known (C := RX4) (T := TX4) (N := 13) (n := 13) hts (fun w hw => gt_lw (cf4.2.1 w hw)) (hts _ (gt_lw it_X4))
  obtain ⟨c5, i5, k5⟩ := u_known (C := RX5) (T := TX5) (N := 14) (n := 14) hts (fun w hw => gt_lw (cf5.2.1 w hw)) (hts _ (gt_lw it_X5))
  obtain ⟨c6, i6, k6⟩ := u_known (C := RX6) (T := TX6) (N := 5) (n := 5) hts (fun w hw => gt_lw (cf6.2.1 w hw)) (hts _ (gt_lw it_X6))
  obtain ⟨c7, i7, k7⟩ := u_known (C := RX7) (T := TX7) (N := 23) (n := 23) hts (fun w hw => gt_lw (cf7.2.1 w hw)) (hts _ (gt_lw it_X7))
  refine ⟨fun k => if k = 0 then c0 else if k = 1 then c1 else if k = 2 then c2 else if k = 3 then c3 else if k = 4 then c4 else if k = 5 then c5 else if k = 6 then c6 else c7, fun k => if k = 0 then i0 else if k = 1 then i1 else if k = 2 then i2 else if k = 3 then i3 else if k = 4 then i4 else if k = 5 then i5 else if k = 6 then i6 else i7, fun k q hq => ?_⟩
  match k, hq with
  | 0, hq => cases hq; exact k0
  | 1, hq => cases hq; exact k1
  | 2, hq => cases hq; exact k2
  | 3, hq => cases hq; exact k3
  | 4, hq => cases hq; exact k4
  | 5, hq => cases hq; exact k5
  | 6, hq => cases hq; exact k6
  | 7, hq => cases hq; exact k7
  | k + 8, hq => simp at hq
