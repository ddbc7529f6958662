def nmsX : List String := ["java/lang/RuntimeException", "java/lang/Exception"]
abbrev IAE : String := "java/lang/IllegalArgumentException"
theorem xi_IAE : Cond.initialized IAE ∈ GT := gt_at 79 (by decide +kernel) rfl
abbrev IOE : String := "java/lang/IndexOutOfBoundsException"
theorem xi_IOE : Cond.initialized IOE ∈ GT := gt_at 86 (by decide +kernel) rfl
abbrev ISE : String := "java/lang/IllegalStateException"
theorem xi_ISE : Cond.initialized ISE ∈ GT := gt_at 87 (by decide +kernel) rfl
theorem xk_55 : Cond.classLink "TunnelControlDesk" 55 IAE ∈ GT := gt_at 502 (by decide +kernel) rfl
theorem xk_201 : Cond.classLink "TunnelControlDesk" 201 ISE ∈ GT := gt_at 805 (by decide +kernel) rfl
theorem xk_221 : Cond.classLink "TunnelControlDesk" 221 IOE ∈ GT := gt_at 765 (by decide +kernel) rfl
section AWT
variable {l : Launch} {g : Gl} {nm : String} {cc : ByteArray} {nL : Nat} {R : Room} {ws0 : va_W} {Q : QT} {X : XT} {A : Nat → Prop} {H0 : Heap} {K : KT} {pc : Nat} {lv : List (Option Value)} {st : List Value} {ws : va_W} {cn sn : Nat}
/-- 'throw new E("text")' -/
theorem A_throw2 {ret : Option FieldType} (ok : OkR l g "TunnelControlDesk" nm cc nL ret R ws0 Q X A H0 K) (hl0 : l.stackTraces = false) {cls text : String} {names : List String} {ik is ic : Nat} (hcls : Bundle.fit cls = true) (hnames : ∀ n ∈ names, Bundle.fit n = true) (hk : Cond.classLink "TunnelControlDesk" ik cls ∈ GT) (hini : Cond.initialized cls ∈ GT) (hstr : (is, text) ∈ xTab) (hat : ∀ w ∈ vx_atS "TunnelControlDesk" ic cls names, w ∈ GT ∨ w = .castable cls cls ∨ ∃ x, x ∈ dTab ∧ w = .declares x) (hcc : (cls, cls) ∈ cTab)
    (d0 : decode cc pc = .ok (.new ik, 3)) (d3 : decode cc (pc + 3) = .ok (.dup, 1)) (d4 : decode cc (pc + 4) = .ok (.ldc is, 2)) (d6 : decode cc (pc + 6) = .ok (.invokespecial ic, 3)) (d9 : decode cc (pc + 9) = .ok (.athrow, 1))
    (hRf : names.length + 3 < R.frames) (hRl : (st.map fun v => v.category).sum + (13 * (names.length + 1) + 43) ≤ R.locals) (hRc : cn + 1 ≤ R.cells) (hRs : sn + 6 ≤ R.slots) (hX : X cls ws) : AW g A H0 nL K pc lv st ws cn sn := by
  obtain ⟨p, e, s, m, args, below, meth, c, rfl, rfl, hx, hb, hml, hown, hts, hr, hlk, hKn, hG, hA, hnm, hAe, hex⟩ := ok
  intro H locs ls hP hD hS hl
  obtain ⟨sa, hsa⟩ := hG.gv.2.1 _ hstr
  have hcast : (Cond.castable cls cls).before args s = true := va_tabs rfl rfl (hG.gv.2.2.2.2.2.1 _ hcc)
  have hdec : ∀ x ∈ dTab, (Cond.declares x).before args s = true := fun x hx9 => va_tabs rfl rfl (hG.gv.2.2.2.2.2.2.1 x hx9)
  have hgood : ∀ w ∈ Cond.classLink "TunnelControlDesk" ik cls :: Cond.initialized cls :: vx_atS "TunnelControlDesk" ic cls names, vx_ot w = true := by
    intro w hw
    have h9 : w ∈ GT ∨ w = .castable cls cls ∨ ∃ x, x ∈ dTab ∧ w = .declares x := by
      rcases List.mem_cons.mp hw with h | hw
      · rw [h]; exact Or.inl hk
      · rcases List.mem_cons.mp hw with h | hw
        · rw [h]; exact Or.inl hini
        · exact hat w hw
    rcases h9 with h9 | h9 | ⟨x, -, h9⟩
    · simp [vx_ot, gt_good h9]
    · rw [h9]; rfl
    · rw [h9]; rfl
  subst hAe
  exact vx_throwS hx hb hl0 hown hcls hnames (hts _ hk) (hts _ hini) hsa (fun w hw => (hat w hw).elim (hts w) (fun h => h.elim (fun h => by rw [h]; exact hcast) (fun ⟨x, h1, h2⟩ => by rw [h2]; exact hdec x h1))) hgood hG.1 hG.2.1 hS (hl.1.trans hml.symm) d0 d3 d4 d6 d9 (fun x hx9 => (hex x hx9).elim) hRf hRl hRc hRs hlk
    (fun t hv hz hk9 => ⟨⟨ws, hX, va_P.kept hP (fun k q hq => hk9 q.1 (hP k q hq).lt), hD⟩, Nat.le_trans hS.1 hz, fun q h1 h2 => (hk9 q (Nat.lt_of_lt_of_le h1 hS.1)).trans (hS.2.1 q h1 h2)⟩) hS.2.2 hRc hRs
end AWT
theorem xa_59 : ∀ w ∈ vx_atS "TunnelControlDesk" 59 IAE nmsX, w ∈ GT ∨ w = .castable IAE IAE ∨ ∃ x, x ∈ dTab ∧ w = .declares x := by
  have h : (vx_atS "TunnelControlDesk" 59 IAE nmsX).all (fun w => (decide (w ∈ lw_tbl) && goodWord w) || (decide (w = .castable IAE IAE) || dTab.any (fun x => decide (w = .declares x)))) = true := by decide +kernel
  intro w hw
  have h2 := List.all_eq_true.mp h w hw
  rw [Bool.or_eq_true, Bool.and_eq_true, Bool.or_eq_true] at h2
  rcases h2 with h2 | h2 | h2
  · exact Or.inl (gt_of (of_decide_eq_true h2.1) h2.2)
  · exact Or.inr (Or.inl (of_decide_eq_true h2))
  · obtain ⟨x, h3, h4⟩ := List.any_eq_true.mp h2
    exact Or.inr (Or.inr ⟨x, h3, of_decide_eq_true h4⟩)
theorem cc_IAE : (IAE, IAE) ∈ cTab := by decide +kernel
theorem xa_225 : ∀ w ∈ vx_atS "TunnelControlDesk" 225 IOE nmsX, w ∈ GT ∨ w = .castable IOE IOE ∨ ∃ x, x ∈ dTab ∧ w = .declares x := by
  have h : (vx_atS "TunnelControlDesk" 225 IOE nmsX).all (fun w => (decide (w ∈ lw_tbl) && goodWord w) || (decide (w = .castable IOE IOE) || dTab.any (fun x => decide (w = .declares x)))) = true := by decide +kernel
  intro w hw
  have h2 := List.all_eq_true.mp h w hw
  rw [Bool.or_eq_true, Bool.and_eq_true, Bool.or_eq_true] at h2
  rcases h2 with h2 | h2 | h2
  · exact Or.inl (gt_of (of_decide_eq_true h2.1) h2.2)
  · exact Or.inr (Or.inl (of_decide_eq_true h2))
  · obtain ⟨x, h3, h4⟩ := List.any_eq_true.mp h2
    exact Or.inr (Or.inr ⟨x, h3, of_decide_eq_true h4⟩)
theorem cc_IOE : (IOE, IOE) ∈ cTab := by decide +kernel
theorem xa_205 : ∀ w ∈ vx_atS "TunnelControlDesk" 205 ISE nmsX, w ∈ GT ∨ w = .castable ISE ISE ∨ ∃ x, x ∈ dTab ∧ w = .declares x := by
  have h : (vx_atS "TunnelControlDesk" 205 ISE nmsX).all (fun w => (decide (w ∈ lw_tbl) && goodWord w) || (decide (w = .castable ISE ISE) || dTab.any (fun x => decide (w = .declares x)))) = true := by decide +kernel
  intro w hw
  have h2 := List.all_eq_true.mp h w hw
  rw [Bool.or_eq_true, Bool.and_eq_true, Bool.or_eq_true] at h2
  rcases h2 with h2 | h2 | h2
  · exact Or.inl (gt_of (of_decide_eq_true h2.1) h2.2)
  · exact Or.inr (Or.inl (of_decide_eq_true h2))
  · obtain ⟨x, h3, h4⟩ := List.any_eq_true.mp h2
    exact Or.inr (Or.inr ⟨x, h3, of_decide_eq_true h4⟩)
theorem cc_ISE : (ISE, ISE) ∈ cTab := by decide +kernel
/-- an exception: which one, and that nothing has changed -/
def XX (W : va_W) (o : Option String) : XT := fun E w => o = some E ∧ w.Perm W
def orX (a b : Option String) : Option String := if a = none then b else a
theorem orX_n {a b : Option String} (h : a = none) : orX a b = b := by rw [orX, if_pos h]
theorem orX_s {a b : Option String} {E : String} (h : a = some E) : orX a b = some E := by rw [orX, if_neg (by rw [h]; exact nofun), h]
theorem XX_app {W wr : va_W} {o o2 : Option String} (h : ∀ E, o = some E → o2 = some E) : ∀ (E : String) (w : va_W), XX W o E w → XX (W ++ wr) o2 E (wr ++ w) := fun E _ hx => ⟨h E hx.1, (List.Perm.append_left _ hx.2).trans List.perm_append_comm⟩
theorem XX_same {W : va_W} {o o2 : Option String} (h : ∀ E, o = some E → o2 = some E) : ∀ (E : String) (w : va_W), XX W o E w → XX W o2 E w := fun E _ hx => ⟨h E hx.1, hx.2⟩
def dkW (g : Gl) (k rd hs tr : Nat) (eo : Int32) (a b : Nat → Nat) (T : TD) (P : PD) : va_W := [
  (k, .inr (6, [.ref rd, .ref hs, .ref (a 0), .ref tr, .int eo])),
  (a 0, .inr (5, [.ref (b 0), .int (tClock T), .int (tFire T), .int (tIns T), .long (tLeft T), .long (tRem T), .ref (a 1), .ref (a 2), .ref (a 3), .ref (a 4), .ref (a 5), .ref (a 6), .ref (a 7), .ref (a 8)])),
  (a 1, .inl (g.2.1 1, 12, .inr (.inl (tSmoke T)))), (a 2, .inl (g.2.1 0, 12, .inl (tFan T))), (a 3, .inl (g.2.1 0, 12, .inl (tBay T))), (a 4, .inl (g.2.1 3, 24, .inl (tRed T))), (a 5, .inl (g.2.1 0, 24, .inl (tLane T))), (a 6, .inl (g.2.1 0, 20, .inl (tCs T))), (a 7, .inl (g.2.1 0, 20, .inl (tCd T))), (a 8, .inl (g.2.1 1, 20, .inr (.inl (tEx T)))),
  (b 0, .inr (2, [.int (nI (pN P)), .int (pCap P), .int (pDraft P), .int (nI (pCar P)), .ref (b 1), .ref (b 2), .ref (b 3)])), (b 1, .inl (g.2.1 0, 12, .inl (pVent P))), (b 2, .inl (g.2.1 3, 12, .inl (pHf P))), (b 3, .inr (3, [.ref (b 4), .ref (b 5)])), (b 4, .inl (g.2.1 0, pNc P, .inl (pCodes P))), (b 5, .inl (g.2.1 1, 11, .inr (.inl (pStk P))))]
theorem dkW_eq (g : Gl) (k rd hs tr : Nat) (eo : Int32) (a b : Nat → Nat) (T : TD) (P : PD) : dkW g k rd hs tr eo a b T P = ([(k, .inr (6, [.ref rd, .ref hs, .ref (a 0), .ref tr, .int eo]))] : va_W) ++ tpW g a b T P := rfl
def secX (P : PD) (s : Int32) : Option String := if s < 0 ∨ nI (pN P) ≤ s then some IOE else none
def carX (P : PD) (c : Int32) : Option String := if c < 0 ∨ nI (pCar P) ≤ c then some IOE else none
def fanX (P : PD) (s : Int32) : Option String := if pHf P s.toNatClampNeg = 0 then some ISE else none
def dirX (d : Int32) : Option String := if d = 1 ∨ d = -1 then none else some IAE
theorem secX_inn {P : PD} {s : Int32} (hn : pN P ≤ 12) (h : secX P s = none) : Inn s (pN P) := by
  unfold secX at h
  split at h
  · exact absurd h nofun
  · rename_i h2
    exact inn_of (by omega) (fun h => h2 (Or.inl h)) (fun h => h2 (Or.inr h))
theorem carX_inn {P : PD} {s : Int32} (hn : pCar P ≤ 20) (h : carX P s = none) : Inn s (pCar P) := by
  unfold carX at h
  split at h
  · exact absurd h nofun
  · rename_i h2
    exact inn_of (by omega) (fun h => h2 (Or.inl h)) (fun h => h2 (Or.inr h))

set_option maxRecDepth 20000 in
set_option maxHeartbeats 2000000 in
theorem c_requireSection (l : Launch) (g : Gl) (k rd hs tr : Nat) (eo : Int32) (a b : Nat → Nat) (T : TD) (P : PD) (hn : pN P ≤ 12) (hc : pCar P ≤ 20) (hl0 : l.stackTraces = false) (s0 : Int32) : Ct l g yX6_requireSection cX6_requireSection 2 none 6 160 1 6 [.ref k, .int s0] (dkW g k rd hs tr eo a b T P) (fun v w => secX P s0 = none ∧ v = none ∧ w = (dkW g k rd hs tr eo a b T P)) (XX (dkW g k rd hs tr eo a b T P) (secX P s0)) := by
  refine Ct.intro [some (.ref k), some (.int s0)] (by decide +kernel) (fun _ h => h) (Nat.le_of_ble_eq_true rfl) (fun A H0 K ok => ?_)
  refine A_iload_n ok.b rfl dX6_requireSection_0 (gps gp0) ?_
  refine A_if_lt ok.b (tgt := 18) dX6_requireSection_1 (by decide) (fun c1 => ?_) (fun c1 => ?_)
  · skip
    refine A_throw2 ok hl0 (names := nmsX) (ik := 221) (is := 223) (ic := 225) (by decide +kernel) (by decide +kernel) xk_221 xi_IOE (List.mem_of_getElem? (i := 9) rfl) xa_225 cc_IOE dX6_requireSection_18 dX6_requireSection_21 dX6_requireSection_22 dX6_requireSection_24 dX6_requireSection_27 (Nat.le_of_ble_eq_true rfl) (Nat.le_of_ble_eq_true rfl) (Nat.le_of_ble_eq_true rfl) (Nat.le_of_ble_eq_true rfl) ?_
    exact ⟨by rw [secX, if_pos (Or.inl c1)], List.Perm.refl _⟩
  · skip
    refine A_iload_n ok.b rfl dX6_requireSection_4 (gps gp0) ?_
    refine A_aload_n ok.b rfl dX6_requireSection_5 gp0 ?_
    refine A_getf ok.b cf6 2 (by decide) fl_X6_31 gp0 (gps (gps gp0)) dX6_requireSection_6 ?_
    refine A_getf ok.b cf5 0 (by decide) fl_X6_82 (gps gp0) gp0 dX6_requireSection_9 ?_
    refine A_getf ok.b cf2 0 (by decide) fl_X6_89 (gps (gps (gps (gps (gps (gps (gps (gps (gps (gps gp0)))))))))) gp0 dX6_requireSection_12 ?_
    refine A_icmp_lt ok.b (tgt := 28) dX6_requireSection_15 (by decide) (fun c15 => ?_) (fun c15 => ?_)
    · skip
      refine A_vret ok dX6_requireSection_28 (Nat.le_of_ble_eq_true rfl) (Nat.le_of_ble_eq_true rfl) ?_
      exact ⟨by rw [secX, if_neg (fun h => h.elim c1 (fun h => Int32.not_le.mpr c15 h))], rfl, rfl⟩
    · skip
      refine A_throw2 ok hl0 (names := nmsX) (ik := 221) (is := 223) (ic := 225) (by decide +kernel) (by decide +kernel) xk_221 xi_IOE (List.mem_of_getElem? (i := 9) rfl) xa_225 cc_IOE dX6_requireSection_18 dX6_requireSection_21 dX6_requireSection_22 dX6_requireSection_24 dX6_requireSection_27 (Nat.le_of_ble_eq_true rfl) (Nat.le_of_ble_eq_true rfl) (Nat.le_of_ble_eq_true rfl) (Nat.le_of_ble_eq_true rfl) ?_
      exact ⟨by rw [secX, if_pos (Or.inr (Int32.not_lt.mp c15))], List.Perm.refl _⟩
set_option maxRecDepth 20000 in
set_option maxHeartbeats 2000000 in
theorem c_requireCar (l : Launch) (g : Gl) (k rd hs tr : Nat) (eo : Int32) (a b : Nat → Nat) (T : TD) (P : PD) (hn : pN P ≤ 12) (hc : pCar P ≤ 20) (hl0 : l.stackTraces = false) (s0 : Int32) : Ct l g yX6_requireCar cX6_requireCar 2 none 6 160 1 6 [.ref k, .int s0] (dkW g k rd hs tr eo a b T P) (fun v w => carX P s0 = none ∧ v = none ∧ w = (dkW g k rd hs tr eo a b T P)) (XX (dkW g k rd hs tr eo a b T P) (carX P s0)) := by
  refine Ct.intro [some (.ref k), some (.int s0)] (by decide +kernel) (fun _ h => h) (Nat.le_of_ble_eq_true rfl) (fun A H0 K ok => ?_)
  refine A_iload_n ok.b rfl dX6_requireCar_0 (gps gp0) ?_
  refine A_if_lt ok.b (tgt := 18) dX6_requireCar_1 (by decide) (fun c1 => ?_) (fun c1 => ?_)
  · skip
    refine A_throw2 ok hl0 (names := nmsX) (ik := 221) (is := 226) (ic := 225) (by decide +kernel) (by decide +kernel) xk_221 xi_IOE (List.mem_of_getElem? (i := 10) rfl) xa_225 cc_IOE dX6_requireCar_18 dX6_requireCar_21 dX6_requireCar_22 dX6_requireCar_24 dX6_requireCar_27 (Nat.le_of_ble_eq_true rfl) (Nat.le_of_ble_eq_true rfl) (Nat.le_of_ble_eq_true rfl) (Nat.le_of_ble_eq_true rfl) ?_
    exact ⟨by rw [carX, if_pos (Or.inl c1)], List.Perm.refl _⟩
  · skip
    refine A_iload_n ok.b rfl dX6_requireCar_4 (gps gp0) ?_
    refine A_aload_n ok.b rfl dX6_requireCar_5 gp0 ?_
    refine A_getf ok.b cf6 2 (by decide) fl_X6_31 gp0 (gps (gps gp0)) dX6_requireCar_6 ?_
    refine A_getf ok.b cf5 0 (by decide) fl_X6_82 (gps gp0) gp0 dX6_requireCar_9 ?_
    refine A_getf ok.b cf2 3 (by decide) fl_X6_86 (gps (gps (gps (gps (gps (gps (gps (gps (gps (gps gp0)))))))))) (gps (gps (gps gp0))) dX6_requireCar_12 ?_
    refine A_icmp_lt ok.b (tgt := 28) dX6_requireCar_15 (by decide) (fun c15 => ?_) (fun c15 => ?_)
    · skip
      refine A_vret ok dX6_requireCar_28 (Nat.le_of_ble_eq_true rfl) (Nat.le_of_ble_eq_true rfl) ?_
      exact ⟨by rw [carX, if_neg (fun h => h.elim c1 (fun h => Int32.not_le.mpr c15 h))], rfl, rfl⟩
    · skip
      refine A_throw2 ok hl0 (names := nmsX) (ik := 221) (is := 226) (ic := 225) (by decide +kernel) (by decide +kernel) xk_221 xi_IOE (List.mem_of_getElem? (i := 10) rfl) xa_225 cc_IOE dX6_requireCar_18 dX6_requireCar_21 dX6_requireCar_22 dX6_requireCar_24 dX6_requireCar_27 (Nat.le_of_ble_eq_true rfl) (Nat.le_of_ble_eq_true rfl) (Nat.le_of_ble_eq_true rfl) (Nat.le_of_ble_eq_true rfl) ?_
      exact ⟨by rw [carX, if_pos (Or.inr (Int32.not_lt.mp c15))], List.Perm.refl _⟩
set_option maxRecDepth 20000 in
set_option maxHeartbeats 2000000 in
theorem c_requireFan (l : Launch) (g : Gl) (k rd hs tr : Nat) (eo : Int32) (a b : Nat → Nat) (T : TD) (P : PD) (hn : pN P ≤ 12) (hc : pCar P ≤ 20) (hl0 : l.stackTraces = false) (s0 : Int32) (hin : Inn s0 (pN P)) : Ct l g yX6_requireFan cX6_requireFan 2 none 6 160 1 6 [.ref k, .int s0] (dkW g k rd hs tr eo a b T P) (fun v w => fanX P s0 = none ∧ v = none ∧ w = (dkW g k rd hs tr eo a b T P)) (XX (dkW g k rd hs tr eo a b T P) (fanX P s0)) := by
  refine Ct.intro [some (.ref k), some (.int s0)] (by decide +kernel) (fun _ h => h) (Nat.le_of_ble_eq_true rfl) (fun A H0 K ok => ?_)
  have hix : Ix s0 12 s0.toNatClampNeg := inn_ix hn (by decide) hin
  refine A_aload_n ok.b rfl dX6_requireFan_0 gp0 ?_
  refine A_getf ok.b cf6 2 (by decide) fl_X6_31 gp0 (gps (gps gp0)) dX6_requireFan_1 ?_
  refine A_getf ok.b cf5 0 (by decide) fl_X6_82 (gps gp0) gp0 dX6_requireFan_4 ?_
  refine A_getf ok.b cf2 5 (by decide) fl_X6_228 (gps (gps (gps (gps (gps (gps (gps (gps (gps (gps gp0)))))))))) (gps (gps (gps (gps (gps gp0))))) dX6_requireFan_7 ?_
  refine A_iload_n ok.b rfl dX6_requireFan_10 (gps gp0) ?_
  refine A_zald ok.b (gps (gps (gps (gps (gps (gps (gps (gps (gps (gps (gps (gps gp0)))))))))))) hix dX6_requireFan_11 ?_
  refine A_if_ne ok.b (tgt := 25) dX6_requireFan_12 (by decide) (fun c12 => ?_) (fun c12 => ?_)
  · skip
    refine A_vret ok dX6_requireFan_25 (Nat.le_of_ble_eq_true rfl) (Nat.le_of_ble_eq_true rfl) ?_
    exact ⟨by rw [fanX, if_neg c12], rfl, rfl⟩
  · skip
    refine A_throw2 ok hl0 (names := nmsX) (ik := 201) (is := 231) (ic := 205) (by decide +kernel) (by decide +kernel) xk_201 xi_ISE (List.mem_of_getElem? (i := 11) rfl) xa_205 cc_ISE dX6_requireFan_15 dX6_requireFan_18 dX6_requireFan_19 dX6_requireFan_21 dX6_requireFan_24 (Nat.le_of_ble_eq_true rfl) (Nat.le_of_ble_eq_true rfl) (Nat.le_of_ble_eq_true rfl) (Nat.le_of_ble_eq_true rfl) ?_
    exact ⟨by rw [fanX, if_pos c12], List.Perm.refl _⟩
set_option maxRecDepth 20000 in
set_option maxHeartbeats 2000000 in
theorem c_requireDirection (l : Launch) (g : Gl) (d0 : Int32) (hl0 : l.stackTraces = false) : Ct l g yX6_requireDirection cX6_requireDirection 1 none 6 160 1 6 [.int d0] [] (fun v w => dirX d0 = none ∧ v = none ∧ w = []) (XX [] (dirX d0)) := by
  refine Ct.intro [some (.int d0)] (by decide +kernel) (fun _ h => h) (Nat.le_of_ble_eq_true rfl) (fun A H0 K ok => ?_)
  refine A_iload_n ok.b rfl dX6_requireDirection_0 gp0 ?_
  refine A_iconst ok.b (v := 1) dX6_requireDirection_1 (by decide) ?_
  refine A_icmp_eq ok.b (tgt := 20) dX6_requireDirection_2 (by decide) (fun c2 => ?_) (fun c2 => ?_)
  · skip
    refine A_vret ok dX6_requireDirection_20 (Nat.le_of_ble_eq_true rfl) (Nat.le_of_ble_eq_true rfl) ?_
    exact ⟨by rw [dirX, if_pos (Or.inl c2)], rfl, rfl⟩
  · skip
    refine A_iload_n ok.b rfl dX6_requireDirection_5 gp0 ?_
    refine A_iconst ok.b (v := (-1)) dX6_requireDirection_6 (by decide) ?_
    refine A_icmp_eq ok.b (tgt := 20) dX6_requireDirection_7 (by decide) (fun c7 => ?_) (fun c7 => ?_)
    · skip
      refine A_vret ok dX6_requireDirection_20 (Nat.le_of_ble_eq_true rfl) (Nat.le_of_ble_eq_true rfl) ?_
      exact ⟨by rw [dirX, if_pos (Or.inr c7)], rfl, rfl⟩
    · skip
      refine A_throw2 ok hl0 (names := nmsX) (ik := 55) (is := 233) (ic := 59) (by decide +kernel) (by decide +kernel) xk_55 xi_IAE (List.mem_of_getElem? (i := 12) rfl) xa_59 cc_IAE dX6_requireDirection_10 dX6_requireDirection_13 dX6_requireDirection_14 dX6_requireDirection_16 dX6_requireDirection_19 (Nat.le_of_ble_eq_true rfl) (Nat.le_of_ble_eq_true rfl) (Nat.le_of_ble_eq_true rfl) (Nat.le_of_ble_eq_true rfl) ?_
      exact ⟨by rw [dirX, if_neg (not_or.mpr ⟨c2, c7⟩)], List.Perm.refl _⟩
set_option maxRecDepth 20000 in
set_option maxHeartbeats 2000000 in
theorem c_errorOffset (l : Launch) (g : Gl) (k rd hs tr : Nat) (eo : Int32) (a b : Nat → Nat) (T : TD) (P : PD) (hn : pN P ≤ 12) (hc : pCar P ≤ 20) (hl0 : l.stackTraces = false)  : Ct l g yX6_errorOffset cX6_errorOffset 1 (some .int) 0 120 0 0 [.ref k] (dkW g k rd hs tr eo a b T P) (fun v w => v = some (.int eo) ∧ w = (dkW g k rd hs tr eo a b T P)) noX := by
  refine Ct.intro [some (.ref k)] (by decide +kernel) (fun _ h => h) (Nat.le_of_ble_eq_true rfl) (fun A H0 K ok => ?_)
  refine A_aload_n ok.b rfl dX6_errorOffset_0 gp0 ?_
  refine A_getf ok.b cf6 4 (by decide) fl_X6_38 gp0 (gps (gps (gps (gps gp0)))) dX6_errorOffset_1 ?_
  refine A_iret ok dX6_errorOffset_4 (Nat.le_of_ble_eq_true rfl) (Nat.le_of_ble_eq_true rfl) ?_
  exact ⟨rfl, rfl⟩
set_option maxRecDepth 20000 in
set_option maxHeartbeats 2000000 in
theorem c_sectionCount (l : Launch) (g : Gl) (k rd hs tr : Nat) (eo : Int32) (a b : Nat → Nat) (T : TD) (P : PD) (hn : pN P ≤ 12) (hc : pCar P ≤ 20) (hl0 : l.stackTraces = false)  : Ct l g yX6_sectionCount cX6_sectionCount 1 (some .int) 0 120 0 0 [.ref k] (dkW g k rd hs tr eo a b T P) (fun v w => v = some (.int (nI (pN P))) ∧ w = (dkW g k rd hs tr eo a b T P)) noX := by
  refine Ct.intro [some (.ref k)] (by decide +kernel) (fun _ h => h) (Nat.le_of_ble_eq_true rfl) (fun A H0 K ok => ?_)
  refine A_aload_n ok.b rfl dX6_sectionCount_0 gp0 ?_
  refine A_getf ok.b cf6 2 (by decide) fl_X6_31 gp0 (gps (gps gp0)) dX6_sectionCount_1 ?_
  refine A_getf ok.b cf5 0 (by decide) fl_X6_82 (gps gp0) gp0 dX6_sectionCount_4 ?_
  refine A_getf ok.b cf2 0 (by decide) fl_X6_89 (gps (gps (gps (gps (gps (gps (gps (gps (gps (gps gp0)))))))))) gp0 dX6_sectionCount_7 ?_
  refine A_iret ok dX6_sectionCount_10 (Nat.le_of_ble_eq_true rfl) (Nat.le_of_ble_eq_true rfl) ?_
  exact ⟨rfl, rfl⟩
set_option maxRecDepth 20000 in
set_option maxHeartbeats 2000000 in
theorem c_carCount (l : Launch) (g : Gl) (k rd hs tr : Nat) (eo : Int32) (a b : Nat → Nat) (T : TD) (P : PD) (hn : pN P ≤ 12) (hc : pCar P ≤ 20) (hl0 : l.stackTraces = false)  : Ct l g yX6_carCount cX6_carCount 1 (some .int) 0 120 0 0 [.ref k] (dkW g k rd hs tr eo a b T P) (fun v w => v = some (.int (nI (pCar P))) ∧ w = (dkW g k rd hs tr eo a b T P)) noX := by
  refine Ct.intro [some (.ref k)] (by decide +kernel) (fun _ h => h) (Nat.le_of_ble_eq_true rfl) (fun A H0 K ok => ?_)
  refine A_aload_n ok.b rfl dX6_carCount_0 gp0 ?_
  refine A_getf ok.b cf6 2 (by decide) fl_X6_31 gp0 (gps (gps gp0)) dX6_carCount_1 ?_
  refine A_getf ok.b cf5 0 (by decide) fl_X6_82 (gps gp0) gp0 dX6_carCount_4 ?_
  refine A_getf ok.b cf2 3 (by decide) fl_X6_86 (gps (gps (gps (gps (gps (gps (gps (gps (gps (gps gp0)))))))))) (gps (gps (gps gp0))) dX6_carCount_7 ?_
  refine A_iret ok dX6_carCount_10 (Nat.le_of_ble_eq_true rfl) (Nat.le_of_ble_eq_true rfl) ?_
  exact ⟨rfl, rfl⟩
set_option maxRecDepth 20000 in
set_option maxHeartbeats 2000000 in
theorem c_clock (l : Launch) (g : Gl) (k rd hs tr : Nat) (eo : Int32) (a b : Nat → Nat) (T : TD) (P : PD) (hn : pN P ≤ 12) (hc : pCar P ≤ 20) (hl0 : l.stackTraces = false)  : Ct l g yX6_clock cX6_clock 1 (some .int) 0 120 0 0 [.ref k] (dkW g k rd hs tr eo a b T P) (fun v w => v = some (.int (tClock T)) ∧ w = (dkW g k rd hs tr eo a b T P)) noX := by
  refine Ct.intro [some (.ref k)] (by decide +kernel) (fun _ h => h) (Nat.le_of_ble_eq_true rfl) (fun A H0 K ok => ?_)
  refine A_aload_n ok.b rfl dX6_clock_0 gp0 ?_
  refine A_getf ok.b cf6 2 (by decide) fl_X6_31 gp0 (gps (gps gp0)) dX6_clock_1 ?_
  refine A_getf ok.b cf5 1 (by decide) fl_X6_92 (gps gp0) (gps gp0) dX6_clock_4 ?_
  refine A_iret ok dX6_clock_7 (Nat.le_of_ble_eq_true rfl) (Nat.le_of_ble_eq_true rfl) ?_
  exact ⟨rfl, rfl⟩
set_option maxRecDepth 20000 in
set_option maxHeartbeats 2000000 in
theorem c_fireSection (l : Launch) (g : Gl) (k rd hs tr : Nat) (eo : Int32) (a b : Nat → Nat) (T : TD) (P : PD) (hn : pN P ≤ 12) (hc : pCar P ≤ 20) (hl0 : l.stackTraces = false)  : Ct l g yX6_fireSection cX6_fireSection 1 (some .int) 0 120 0 0 [.ref k] (dkW g k rd hs tr eo a b T P) (fun v w => v = some (.int (tFire T)) ∧ w = (dkW g k rd hs tr eo a b T P)) noX := by
  refine Ct.intro [some (.ref k)] (by decide +kernel) (fun _ h => h) (Nat.le_of_ble_eq_true rfl) (fun A H0 K ok => ?_)
  refine A_aload_n ok.b rfl dX6_fireSection_0 gp0 ?_
  refine A_getf ok.b cf6 2 (by decide) fl_X6_31 gp0 (gps (gps gp0)) dX6_fireSection_1 ?_
  refine A_getf ok.b cf5 2 (by decide) fl_X6_102 (gps gp0) (gps (gps gp0)) dX6_fireSection_4 ?_
  refine A_iret ok dX6_fireSection_7 (Nat.le_of_ble_eq_true rfl) (Nat.le_of_ble_eq_true rfl) ?_
  exact ⟨rfl, rfl⟩
set_option maxRecDepth 20000 in
set_option maxHeartbeats 2000000 in
theorem c_inside (l : Launch) (g : Gl) (k rd hs tr : Nat) (eo : Int32) (a b : Nat → Nat) (T : TD) (P : PD) (hn : pN P ≤ 12) (hc : pCar P ≤ 20) (hl0 : l.stackTraces = false)  : Ct l g yX6_inside cX6_inside 1 (some .int) 0 120 0 0 [.ref k] (dkW g k rd hs tr eo a b T P) (fun v w => v = some (.int (tIns T)) ∧ w = (dkW g k rd hs tr eo a b T P)) noX := by
  refine Ct.intro [some (.ref k)] (by decide +kernel) (fun _ h => h) (Nat.le_of_ble_eq_true rfl) (fun A H0 K ok => ?_)
  refine A_aload_n ok.b rfl dX6_inside_0 gp0 ?_
  refine A_getf ok.b cf6 2 (by decide) fl_X6_31 gp0 (gps (gps gp0)) dX6_inside_1 ?_
  refine A_getf ok.b cf5 3 (by decide) fl_X6_161 (gps gp0) (gps (gps (gps gp0))) dX6_inside_4 ?_
  refine A_iret ok dX6_inside_7 (Nat.le_of_ble_eq_true rfl) (Nat.le_of_ble_eq_true rfl) ?_
  exact ⟨rfl, rfl⟩
set_option maxRecDepth 20000 in
set_option maxHeartbeats 2000000 in
theorem c_flow (l : Launch) (g : Gl) (k rd hs tr : Nat) (eo : Int32) (a b : Nat → Nat) (T : TD) (P : PD) (hn : pN P ≤ 12) (hc : pCar P ≤ 20) (hl0 : l.stackTraces = false)  : Ct l g yX6_flow cX6_flow 1 (some .int) 2 200 0 0 [.ref k] (dkW g k rd hs tr eo a b T P) (fun v w => v = some (.int (flowF T P)) ∧ w = (dkW g k rd hs tr eo a b T P)) noX := by
  refine Ct.intro [some (.ref k)] (by decide +kernel) (fun _ h => h) (Nat.le_of_ble_eq_true rfl) (fun A H0 K ok => ?_)
  refine A_aload_n ok.b rfl dX6_flow_0 gp0 ?_
  refine A_getf ok.b cf6 2 (by decide) fl_X6_31 gp0 (gps (gps gp0)) dX6_flow_1 ?_
  refine A_callVR ok [1, 2, 3, 4, 5, 6, 7, 8, 9, 10, 11, 12, 13, 14, 15] [0] (As := []) (wr := [(k, .inr (6, [.ref rd, .ref hs, .ref (a 0), .ref tr, .int eo]))]) mf_X5_airFlow ml_X6_95 in_X5_airFlow se_X5_airFlow cf5 (gps gp0) (c_airFlow l g a b T P hn) rfl rfl rfl dX6_flow_4 rfl rfl rfl (by decide) (Nat.le_of_ble_eq_true rfl) ⟨(Nat.le_of_ble_eq_true rfl), (Nat.le_of_ble_eq_true rfl)⟩ ⟨(Nat.le_of_ble_eq_true rfl), (Nat.le_of_ble_eq_true rfl)⟩ (fun _ _ hx => hx.elim) (fun v4 w4 q4 => ?_)
  obtain ⟨rfl, rfl⟩ := q4
  refine A_sub [0, 1, 2, 3, 4, 5, 6, 7, 8, 9, 10, 11, 12, 13, 14, 15] (ws2 := dkW g k rd hs tr eo a b (T) (P)) rfl rfl ?_
  refine A_iret ok dX6_flow_7 (Nat.le_of_ble_eq_true rfl) (Nat.le_of_ble_eq_true rfl) ?_
  exact ⟨rfl, rfl⟩
set_option maxRecDepth 20000 in
set_option maxHeartbeats 2000000 in
theorem c_rate (l : Launch) (g : Gl) (k rd hs tr : Nat) (eo : Int32) (a b : Nat → Nat) (T : TD) (P : PD) (hn : pN P ≤ 12) (hc : pCar P ≤ 20) (hl0 : l.stackTraces = false) (hnc : pNc P < 1000) : Ct l g yX6_rate cX6_rate 1 (some .int) 4 280 0 0 [.ref k] (dkW g k rd hs tr eo a b T P) (fun v w => v = some (.int (rateF T P)) ∧ w = (dkW g k rd hs tr eo a b T (rateP T P))) noX := by
  refine Ct.intro [some (.ref k)] (by decide +kernel) (fun _ h => h) (Nat.le_of_ble_eq_true rfl) (fun A H0 K ok => ?_)
  refine A_aload_n ok.b rfl dX6_rate_0 gp0 ?_
  refine A_getf ok.b cf6 2 (by decide) fl_X6_31 gp0 (gps (gps gp0)) dX6_rate_1 ?_
  refine A_callVR ok [1, 2, 3, 4, 5, 6, 7, 8, 9, 10, 11, 12, 13, 14, 15] [0] (As := []) (wr := [(k, .inr (6, [.ref rd, .ref hs, .ref (a 0), .ref tr, .int eo]))]) mf_X5_fireRate ml_X6_99 in_X5_fireRate se_X5_fireRate cf5 (gps gp0) (c_fireRate l g a b T P hn hc hnc) rfl rfl rfl dX6_rate_4 rfl rfl rfl (by decide) (Nat.le_of_ble_eq_true rfl) ⟨(Nat.le_of_ble_eq_true rfl), (Nat.le_of_ble_eq_true rfl)⟩ ⟨(Nat.le_of_ble_eq_true rfl), (Nat.le_of_ble_eq_true rfl)⟩ (fun _ _ hx => hx.elim) (fun v4 w4 q4 => ?_)
  obtain ⟨rfl, rfl⟩ := q4
  refine A_sub [0, 1, 2, 3, 4, 5, 6, 7, 8, 9, 10, 11, 12, 13, 14, 15] (ws2 := dkW g k rd hs tr eo a b (T) (rateP T P)) rfl rfl ?_
  refine A_iret ok dX6_rate_7 (Nat.le_of_ble_eq_true rfl) (Nat.le_of_ble_eq_true rfl) ?_
  exact ⟨rfl, rfl⟩
set_option maxRecDepth 20000 in
set_option maxHeartbeats 2000000 in
theorem c_smoke (l : Launch) (g : Gl) (k rd hs tr : Nat) (eo : Int32) (a b : Nat → Nat) (T : TD) (P : PD) (hn : pN P ≤ 12) (hc : pCar P ≤ 20) (hl0 : l.stackTraces = false) (s0 : Int32) : Ct l g yX6_smoke cX6_smoke 2 (some .int) 7 400 1 6 [.ref k, .int s0] (dkW g k rd hs tr eo a b T P) (fun v w => secX P s0 = none ∧ v = some (.int (tSmoke T s0.toNatClampNeg).toInt32) ∧ w = (dkW g k rd hs tr eo a b T P)) (XX (dkW g k rd hs tr eo a b T P) (secX P s0)) := by
  refine Ct.intro [some (.ref k), some (.int s0)] (by decide +kernel) (fun _ h => h) (Nat.le_of_ble_eq_true rfl) (fun A H0 K ok => ?_)
  refine A_aload_n ok.b rfl dX6_smoke_0 gp0 ?_
  refine A_iload_n ok.b rfl dX6_smoke_1 (gps gp0) ?_
  refine A_sameVR ok (As := [_]) mf_X6_requireSection ml_X6_105 in_X6_requireSection se_X6_requireSection cf6 gp0 (c_requireSection l g k rd hs tr eo a b T P hn hc hl0 s0) rfl rfl dX6_smoke_2 (Nat.le_of_ble_eq_true rfl) ⟨(Nat.le_of_ble_eq_true rfl), (Nat.le_of_ble_eq_true rfl)⟩ ⟨(Nat.le_of_ble_eq_true rfl), (Nat.le_of_ble_eq_true rfl)⟩ (XX_same (fun E h => h)) (fun v2 w2 q2 => ?_)
  obtain ⟨o1, rfl, rfl⟩ := q2
  refine A_aload_n ok.b rfl dX6_smoke_5 gp0 ?_
  refine A_getf ok.b cf6 2 (by decide) fl_X6_31 gp0 (gps (gps gp0)) dX6_smoke_6 ?_
  refine A_getf ok.b cf5 6 (by decide) fl_X6_108 (gps gp0) (gps (gps (gps (gps (gps (gps gp0)))))) dX6_smoke_9 ?_
  refine A_iload_n ok.b rfl dX6_smoke_12 (gps gp0) ?_
  refine A_lald ok.b (gps (gps gp0)) (inn_ix hn (by decide) (secX_inn hn o1)) dX6_smoke_13 ?_
  refine A_l2i ok.b dX6_smoke_14 ?_
  refine A_iret ok dX6_smoke_15 (Nat.le_of_ble_eq_true rfl) (Nat.le_of_ble_eq_true rfl) ?_
  exact ⟨o1, rfl, rfl⟩
set_option maxRecDepth 20000 in
set_option maxHeartbeats 2000000 in
theorem c_bay (l : Launch) (g : Gl) (k rd hs tr : Nat) (eo : Int32) (a b : Nat → Nat) (T : TD) (P : PD) (hn : pN P ≤ 12) (hc : pCar P ≤ 20) (hl0 : l.stackTraces = false) (s0 : Int32) : Ct l g yX6_bay cX6_bay 2 (some .int) 7 400 1 6 [.ref k, .int s0] (dkW g k rd hs tr eo a b T P) (fun v w => secX P s0 = none ∧ v = some (.int (tBay T s0.toNatClampNeg)) ∧ w = (dkW g k rd hs tr eo a b T P)) (XX (dkW g k rd hs tr eo a b T P) (secX P s0)) := by
  refine Ct.intro [some (.ref k), some (.int s0)] (by decide +kernel) (fun _ h => h) (Nat.le_of_ble_eq_true rfl) (fun A H0 K ok => ?_)
  refine A_aload_n ok.b rfl dX6_bay_0 gp0 ?_
  refine A_iload_n ok.b rfl dX6_bay_1 (gps gp0) ?_
  refine A_sameVR ok (As := [_]) mf_X6_requireSection ml_X6_105 in_X6_requireSection se_X6_requireSection cf6 gp0 (c_requireSection l g k rd hs tr eo a b T P hn hc hl0 s0) rfl rfl dX6_bay_2 (Nat.le_of_ble_eq_true rfl) ⟨(Nat.le_of_ble_eq_true rfl), (Nat.le_of_ble_eq_true rfl)⟩ ⟨(Nat.le_of_ble_eq_true rfl), (Nat.le_of_ble_eq_true rfl)⟩ (XX_same (fun E h => h)) (fun v2 w2 q2 => ?_)
  obtain ⟨o1, rfl, rfl⟩ := q2
  refine A_aload_n ok.b rfl dX6_bay_5 gp0 ?_
  refine A_getf ok.b cf6 2 (by decide) fl_X6_31 gp0 (gps (gps gp0)) dX6_bay_6 ?_
  refine A_getf ok.b cf5 8 (by decide) fl_X6_132 (gps gp0) (gps (gps (gps (gps (gps (gps (gps (gps gp0)))))))) dX6_bay_9 ?_
  refine A_iload_n ok.b rfl dX6_bay_12 (gps gp0) ?_
  refine A_iald ok.b (gps (gps (gps (gps gp0)))) (inn_ix hn (by decide) (secX_inn hn o1)) dX6_bay_13 ?_
  refine A_iret ok dX6_bay_14 (Nat.le_of_ble_eq_true rfl) (Nat.le_of_ble_eq_true rfl) ?_
  exact ⟨o1, rfl, rfl⟩
