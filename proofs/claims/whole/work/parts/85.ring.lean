def RelC (P : PD) (T : TD) (d : Nat → Int32) : Prop := Rel P T d ∧ (d 3).toInt ≤ 10000
abbrev PL : Type := List ((Nat → Nat) × PD)
/-- the pool's plans but for their stacks -/
def PLe (pl pl2 : PL) : Prop := ∀ b P, (b, P) ∈ pl → ∃ P2, (b, P2) ∈ pl2 ∧ PE P P2
theorem PLe.r (pl : PL) : PLe pl pl := fun b P h => ⟨P, h, PE.r P⟩
theorem PLe.perm {pl pl2 : PL} (h : pl.Perm pl2) : PLe pl pl2 := fun b P hm => ⟨P, h.mem_iff.mp hm, PE.r P⟩
theorem PLe.head {b : Nat → Nat} {P P2 : PD} {pr : PL} (h : PE P P2) : PLe ((b, P) :: pr) ((b, P2) :: pr) := fun b1 P1 hm => by
  rcases List.mem_cons.mp hm with e | hm
  · cases e; exact ⟨P2, List.mem_cons_self, h⟩
  · exact ⟨P1, List.mem_cons_of_mem _ hm, PE.r P1⟩
theorem PLe.cons {q : (Nat → Nat) × PD} {pl pl2 : PL} (h : PLe pl pl2) : PLe pl (q :: pl2) := fun b P hm => by
  obtain ⟨P2, h1, h2⟩ := h b P hm
  exact ⟨P2, List.mem_cons_of_mem _ h1, h2⟩
theorem PLe.t {pl pl2 pl3 : PL} (h : PLe pl pl2) (h2 : PLe pl2 pl3) : PLe pl pl3 := fun b P hm => by
  obtain ⟨P2, h3, h4⟩ := h b P hm
  obtain ⟨P3, h5, h6⟩ := h2 b P2 h3
  exact ⟨P3, h5, h4.t h6⟩
def SlotR (sp : Nat → Nat) (sT : Nat → TD) (pl : PL) (q : Nat) (d : Nat → Int32) : Prop := ∃ b P, (b, P) ∈ pl ∧ sp q = b 0 ∧ RelC P (sT q) d
theorem SlotR.le {sp : Nat → Nat} {sT : Nat → TD} {pl pl2 : PL} {q : Nat} {d : Nat → Int32} (h : SlotR sp sT pl q d) (hl : PLe pl pl2) : SlotR sp sT pl2 q d := by
  obtain ⟨b, P, h1, h2, h3⟩ := h
  obtain ⟨P2, h4, h5⟩ := hl b P h1
  exact ⟨b, P2, h4, h2, h5.rel.mpr h3.1, h3.2⟩
theorem RelC.pe {P P2 : PD} {T : TD} {d : Nat → Int32} (h : RelC P T d) (hp : PE P P2) : RelC P2 T d := ⟨hp.rel.mpr h.1, h.2⟩
/-- the last cnt saved ones are the reference's rows 0 to cnt - 1 -/
def RingR (cnt nx : Nat) (sp : Nat → Nat) (sT : Nat → TD) (pl : PL) (R : Nat → Nat → Int32) : Prop := cnt ≤ 8 ∧ nx < 8 ∧ ∀ j, j < cnt → SlotR sp sT pl ((nx + 8 - cnt + j) % 8) (R j)
theorem RingR.le {cnt nx : Nat} {sp : Nat → Nat} {sT : Nat → TD} {pl pl2 : PL} {R : Nat → Nat → Int32} (h : RingR cnt nx sp sT pl R) (hl : PLe pl pl2) : RingR cnt nx sp sT pl2 R := ⟨h.1, h.2.1, fun j hj => (h.2.2 j hj).le hl⟩
def uS {α : Type} (f : Nat → α) (k : Nat) (x : α) : Nat → α := fun i => if i = k then x else f i
theorem uS_eq {α : Type} {f : Nat → α} {k : Nat} {x : α} : uS f k x k = x := if_pos rfl
theorem uS_ne {α : Type} {f : Nat → α} {k j : Nat} {x : α} (h : j ≠ k) : uS f k x j = f j := if_neg h
theorem RingR.save {cnt nx : Nat} {sp : Nat → Nat} {sT : Nat → TD} {pl : PL} {R : Nat → Nat → Int32} (h : RingR cnt nx sp sT pl R) {b : Nat → Nat} {P : PD} {T : TD} {d : Nat → Int32} (hm : (b, P) ∈ pl) (hr : RelC P T d) : RingR (cntS cnt) ((nx + 1) % 8) (uS sp nx (b 0)) (uS sT nx T) pl (reR cnt d R) := by
  obtain ⟨h1, h2, h3⟩ := h
  have keep : ∀ q d9, q ≠ nx → SlotR sp sT pl q d9 → SlotR (uS sp nx (b 0)) (uS sT nx T) pl q d9 := fun q d9 hq h9 => by
    obtain ⟨b1, P1, k1, k2, k3⟩ := h9
    exact ⟨b1, P1, k1, by rw [uS_ne hq]; exact k2, by rw [uS_ne hq]; exact k3⟩
  have new : SlotR (uS sp nx (b 0)) (uS sT nx T) pl nx d := ⟨b, P, hm, uS_eq, by rw [uS_eq]; exact hr⟩
  have hc : cntS cnt ≤ 8 := by unfold cntS; split <;> omega
  refine ⟨hc, Nat.mod_lt _ (by decide), fun j hj => ?_⟩
  by_cases h8 : cnt = 8
  · subst h8
    have e8 : cntS 8 = 8 := rfl
    rw [e8] at hj ⊢
    rw [reR, if_pos rfl]
    by_cases e : j < 7
    · rw [if_pos e]
      have h9 := h3 (j + 1) (by omega)
      rw [show ((nx + 1) % 8 + 8 - 8 + j) % 8 = (nx + 8 - 8 + (j + 1)) % 8 by omega]
      exact keep _ _ (by omega) h9
    · rw [if_neg e, show ((nx + 1) % 8 + 8 - 8 + j) % 8 = nx by omega]
      exact new
  · have e8 : cntS cnt = cnt + 1 := by unfold cntS; rw [if_pos (by omega)]
    rw [e8] at hj ⊢
    rw [reR, if_neg h8]
    by_cases e : j = cnt
    · rw [if_pos e, show ((nx + 1) % 8 + 8 - (cnt + 1) + j) % 8 = nx by omega]
      exact new
    · rw [if_neg e, show ((nx + 1) % 8 + 8 - (cnt + 1) + j) % 8 = (nx + 8 - cnt + j) % 8 by omega]
      exact keep _ _ (by omega) (h3 j (by omega))
theorem RingR.last {cnt nx : Nat} {sp : Nat → Nat} {sT : Nat → TD} {pl : PL} {R : Nat → Nat → Int32} (h : RingR cnt nx sp sT pl R) (hc : ¬ cnt = 0) : SlotR sp sT pl ((nx + 7) % 8) (R (cnt - 1)) ∧ RingR (cnt - 1) ((nx + 7) % 8) sp sT pl R := by
  obtain ⟨h1, h2, h3⟩ := h
  refine ⟨?_, by omega, Nat.mod_lt _ (by decide), fun j hj => ?_⟩
  · have h9 := h3 (cnt - 1) (by omega)
    rw [show (nx + 8 - cnt + (cnt - 1)) % 8 = (nx + 7) % 8 by omega] at h9
    exact h9
  · rw [show ((nx + 7) % 8 + 8 - (cnt - 1) + j) % 8 = (nx + 8 - cnt + j) % 8 by omega]
    exact h3 j (by omega)
theorem RingR.none {sp : Nat → Nat} {sT : Nat → TD} {pl : PL} {R : Nat → Nat → Int32} : RingR 0 0 sp sT pl R := ⟨by decide, by decide, fun j hj => absurd hj (Nat.not_lt_zero j)⟩
theorem pool_pick {pl : PL} {b : Nat → Nat} {P : PD} (h : (b, P) ∈ pl) : ∃ pr : PL, pl.Perm ((b, P) :: pr) := by
  obtain ⟨s, t, e⟩ := List.append_of_mem h
  exact ⟨s ++ t, by rw [e]; exact List.perm_middle⟩
theorem cntS_reS {S : MS} : (reS S).ud = cntS S.ud ∨ 8 < S.ud := by
  unfold reS cntS
  by_cases h : S.ud = 8
  · rw [if_pos h, if_neg (by omega)]; exact Or.inl h
  · rw [if_neg h]
    by_cases h2 : S.ud < 8
    · rw [if_pos h2]; exact Or.inl rfl
    · exact Or.inr (by omega)
/-- the saved tunnels, and all but one of them -/
def svW (g : Gl) (ad : Nat → Nat → Nat) (sp : Nat → Nat) (sT : Nat → TD) (j : Nat) : va_W := tunW g (ad (8 + j)) (sp j) (sT j)
def svs (g : Gl) (ad : Nat → Nat → Nat) (sp : Nat → Nat) (sT : Nat → TD) : va_W := ((List.range 8).map (svW g ad sp sT)).flatten
def svr (g : Gl) (ad : Nat → Nat → Nat) (sp : Nat → Nat) (sT : Nat → TD) (j : Nat) : va_W := (((List.range 8).filter (fun i => !(i == j))).map (svW g ad sp sT)).flatten
theorem rng_pick : ∀ j, j < 8 → (List.range 8).Perm (j :: (List.range 8).filter (fun i => !(i == j))) := by decide
theorem svs_pick {g : Gl} {ad : Nat → Nat → Nat} {sp : Nat → Nat} {sT : Nat → TD} {j : Nat} (hj : j < 8) : (svs g ad sp sT).Perm (svW g ad sp sT j ++ svr g ad sp sT j) := by
  have h := perm_flat ((rng_pick j hj).map (svW g ad sp sT))
  rw [List.map_cons, List.flatten_cons] at h
  exact h
theorem svr_upd {g : Gl} {ad : Nat → Nat → Nat} {sp : Nat → Nat} {sT : Nat → TD} {j p : Nat} {T : TD} : svr g ad (uS sp j p) (uS sT j T) j = svr g ad sp sT j := by
  unfold svr
  congr 1
  apply List.map_congr_left
  intro i hi
  have h2 := (List.mem_filter.mp hi).2
  have hne : i ≠ j := fun e => by rw [e] at h2; simp at h2
  unfold svW
  rw [uS_ne hne, uS_ne hne]
theorem svW_upd {g : Gl} {ad : Nat → Nat → Nat} {sp : Nat → Nat} {sT : Nat → TD} {j p : Nat} {T : TD} : svW g ad (uS sp j p) (uS sT j T) j = tunW g (ad (8 + j)) p T := by
  unfold svW
  rw [uS_eq, uS_eq]
def plsW (g : Gl) (pl : PL) : va_W := (pl.map (fun q => planW g q.1 q.2)).flatten
theorem pls_perm {g : Gl} {pl pl2 : PL} (h : pl.Perm pl2) : (plsW g pl).Perm (plsW g pl2) := perm_flat (h.map _)
theorem pls_cons {g : Gl} {b : Nat → Nat} {P : PD} {pl : PL} : plsW g ((b, P) :: pl) = planW g b P ++ plsW g pl := rfl
