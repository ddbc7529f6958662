theorem SM_ext {P P2 : PD} {T T2 : TD} {d d2 : Nat → Int32} (h : SM P T d) (hn : pN P2 = pN P) (hT : tSmoke T2 = tSmoke T ∧ tLeft T2 = tLeft T ∧ tRem T2 = tRem T) (h8 : d2 8 = d 8 ∧ d2 9 = d 9 ∧ d2 10 = d 10) (hs : ∀ s, s < pN P → d2 (12 + 7 * s) = d (12 + 7 * s)) : SM P2 T2 d2 := by
  refine ⟨fun s h9 => ?_, ?_, ?_, ?_⟩
  · rw [hn] at h9
    rw [hT.1, hs s h9]; exact h.1 s h9
  · rw [hT.2.1, h8.2.1]; exact h.2.1
  · rw [hT.2.2, h8.2.2]; exact h.2.2.1
  · rw [hn, h8.1, h8.2.1, h8.2.2, sumZ_ext (pN P) (fun s h9 => by show (d2 (12 + 7 * s)).toInt = (d (12 + 7 * s)).toInt; rw [hs s h9])]
    exact h.2.2.2
theorem RV_ext {P P2 : PD} {d d2 : Nat → Int32} (h : RV P d) (hP : pNc P2 = pNc P ∧ pCodes P2 = pCodes P) (h6 : d2 6 = d 6 ∧ d2 7 = d 7) (hK : ∀ j, 176 ≤ j → d2 j = d j) : RV P2 d2 := by
  refine ⟨by rw [hP.1]; exact h.1, ?_⟩
  rcases h.2 with h9 | h9
  · exact Or.inl ⟨by rw [h6.1]; exact h9.1, by rw [hP.1]; exact h9.2.1, by rw [hP.2]; exact h9.2.2⟩
  · refine Or.inr ⟨by rw [h6.1]; exact h9.1, ?_, by rw [hP.1]; exact h9.2.2.1, by rw [hP.1, hP.2]; exact h9.2.2.2⟩
    rw [hP.1, hP.2]
    exact RTd_of h9.2.1 h6.2 hK
theorem CKr_ext {T T2 : TD} {d d2 : Nat → Int32} (h : CKr T d) (hT : tClock T2 = tClock T) (h3 : d2 3 = d 3 ∧ d2 8 = d 8) : CKr T2 d2 := by
  unfold CKr
  rw [hT, h3.1, h3.2]; exact h
theorem u_ne {d : Nat → Int32} {p : Nat} {x : Int32} {j : Nat} (h : j ≠ p) : upd d p x j = d j := by rw [upd_at, if_neg h]
theorem u_eq {d : Nat → Int32} {p : Nat} {x : Int32} : upd d p x p = x := by rw [upd_at, if_pos rfl]
theorem CR_u {P : PD} {T T2 : TD} {d : Nat → Int32} {p : Nat} {x : Int32} (h : CR P T d) (hp : p = 5 ∨ ∃ t, p = 12 + 7 * t + 1 ∨ p = 12 + 7 * t + 3) (hp2 : p < 96) (h1 : tFire T2 = tFire T ∧ tIns T2 = tIns T ∧ tBay T2 = tBay T ∧ tRed T2 = tRed T ∧ tLane T2 = tLane T ∧ tCs T2 = tCs T ∧ tCd T2 = tCd T) : CR P T2 (upd d p x) := by
  refine CR_ext h h1 (fun j hj _ => u_ne ?_) (fun s _ => ⟨u_ne ?_, u_ne ?_, u_ne ?_⟩) (fun c _ => ⟨u_ne (by omega), u_ne (by omega)⟩)
  all_goals (rcases hp with e | ⟨t, e | e⟩ <;> omega)
theorem rel_vent {P : PD} {T : TD} {d : Nat → Int32} (h : Rel P T d) {t : Nat} (ht : t < pN P) {x : Int32} (hx : 0 ≤ x.toInt ∧ x.toInt ≤ 100) : Rel (sVent P (upd (pVent P) t x)) T (upd d (12 + 7 * t + 3) x) := by
  have hn := h.n
  obtain ⟨hC, hS, hV, hF, hE, hR, hK⟩ := h
  refine ⟨CR_u hC (Or.inr ⟨t, Or.inr rfl⟩) (by omega) ⟨rfl, rfl, rfl, rfl, rfl, rfl, rfl⟩, SM_ext hS rfl ⟨rfl, rfl, rfl⟩ ⟨u_ne (by omega), u_ne (by omega), u_ne (by omega)⟩ (fun s _ => u_ne (by omega)), ⟨hV.1, (u_ne (by omega)).trans hV.2.1, fun s hs => ?_⟩, ⟨(u_ne (by omega)).trans hF.1, fun s hs => ?_, hF.2.2⟩, fun c hc => ?_, RV_ext hR ⟨rfl, rfl⟩ ⟨u_ne (by omega), u_ne (by omega)⟩ (fun j hj => u_ne (by omega)), CKr_ext hK rfl ⟨u_ne (by omega), u_ne (by omega)⟩⟩
  · show upd d (12 + 7 * t + 3) x (12 + 7 * s + 3) = upd (pVent P) t x s ∧ 0 ≤ (upd (pVent P) t x s).toInt ∧ (upd (pVent P) t x s).toInt ≤ 100
    by_cases e : s = t
    · rw [e, u_eq, u_eq]; exact ⟨rfl, hx⟩
    · rw [u_ne (by omega), u_ne e]; exact hV.2.2 s hs
  · rw [u_ne (by omega), u_ne (by omega)]; exact hF.2.1 s hs
  · rw [exR, u_ne (by omega), u_ne (by omega)]; exact hE c hc
theorem rel_hf {P : PD} {T : TD} {d : Nat → Int32} (h : Rel P T d) {t : Nat} (ht : t < pN P) : Rel (sHf P (upd (pHf P) t 1)) T (upd d (12 + 7 * t + 1) 1) := by
  have hn := h.n
  obtain ⟨hC, hS, hV, hF, hE, hR, hK⟩ := h
  refine ⟨CR_u hC (Or.inr ⟨t, Or.inl rfl⟩) (by omega) ⟨rfl, rfl, rfl, rfl, rfl, rfl, rfl⟩, SM_ext hS rfl ⟨rfl, rfl, rfl⟩ ⟨u_ne (by omega), u_ne (by omega), u_ne (by omega)⟩ (fun s _ => u_ne (by omega)), ⟨hV.1, (u_ne (by omega)).trans hV.2.1, fun s hs => ?_⟩, ⟨(u_ne (by omega)).trans hF.1, fun s hs => ?_, hF.2.2⟩, fun c hc => ?_, RV_ext hR ⟨rfl, rfl⟩ ⟨u_ne (by omega), u_ne (by omega)⟩ (fun j hj => u_ne (by omega)), CKr_ext hK rfl ⟨u_ne (by omega), u_ne (by omega)⟩⟩
  · rw [u_ne (by omega)]; exact hV.2.2 s hs
  · have q := hF.2.1 s hs
    rw [u_ne (by omega)]
    refine ⟨q.1, ?_, ?_, q.2.2.2⟩
    · show upd d (12 + 7 * t + 1) 1 (12 + 7 * s + 1) = upd (pHf P) t 1 s
      by_cases e : s = t
      · rw [e, u_eq, u_eq]
      · rw [u_ne (by omega), u_ne e]; exact q.2.1
    · show upd (pHf P) t 1 s = 0 ∨ upd (pHf P) t 1 s = 1
      by_cases e : s = t
      · rw [e, u_eq]; exact Or.inr rfl
      · rw [u_ne e]; exact q.2.2.1
  · rw [exR, u_ne (by omega), u_ne (by omega)]; exact hE c hc
theorem rel_draft {P : PD} {T : TD} {d : Nat → Int32} (h : Rel P T d) {x : Int32} : Rel (sDraft P x) T (upd d 5 x) := by
  obtain ⟨hC, hS, hV, hF, hE, hR, hK⟩ := h
  refine ⟨CR_u hC (Or.inl rfl) (by omega) ⟨rfl, rfl, rfl, rfl, rfl, rfl, rfl⟩, SM_ext hS rfl ⟨rfl, rfl, rfl⟩ ⟨u_ne (by omega), u_ne (by omega), u_ne (by omega)⟩ (fun s _ => u_ne (by omega)), ⟨hV.1, (u_ne (by omega)).trans hV.2.1, fun s hs => ?_⟩, ⟨u_eq, fun s hs => ?_, hF.2.2⟩, fun c hc => ?_, RV_ext hR ⟨rfl, rfl⟩ ⟨u_ne (by omega), u_ne (by omega)⟩ (fun j hj => u_ne (by omega)), CKr_ext hK rfl ⟨u_ne (by omega), u_ne (by omega)⟩⟩
  · rw [u_ne (by omega)]; exact hV.2.2 s hs
  · rw [u_ne (by omega), u_ne (by omega)]; exact hF.2.1 s hs
  · rw [exR, u_ne (by omega), u_ne (by omega)]; exact hE c hc
/-- what stands while a text is read -/
def LD (P : PD) (T : TD) (D : Nat → Int32) : Prop := (∀ c, c < 20 → tEx T c = 0 ∧ D (96 + 4 * c + 2) = 0 ∧ D (96 + 4 * c + 3) = 0) ∧ (∀ s, s < pN P → ∀ w, (w = 1 ∨ w = -1) → (tLane T (lx (nI s) w)).toInt ≤ (pCap P).toInt ∧ 0 ≤ (tLane T (lx (nI s) w)).toInt) ∧ (pCap P).toInt ≤ 4
theorem LD.u {P P2 : PD} {T T2 : TD} {d d2 : Nat → Int32} (h : LD P T d) (hP : pN P2 = pN P ∧ pCap P2 = pCap P) (hT : tEx T2 = tEx T ∧ tLane T2 = tLane T) (hd : ∀ c, c < 20 → d2 (96 + 4 * c + 2) = d (96 + 4 * c + 2) ∧ d2 (96 + 4 * c + 3) = d (96 + 4 * c + 3)) : LD P2 T2 d2 := by
  refine ⟨fun c hc => ?_, fun s hs w hw => ?_, by rw [hP.2]; exact h.2.2⟩
  · rw [hT.1, (hd c hc).1, (hd c hc).2]; exact h.1 c hc
  · rw [hP.1] at hs
    rw [hT.2, hP.2]; exact h.2.1 s hs w hw
theorem ex_0 {d : Nat → Int32} {p : Nat} (h1 : d p = 0) (h2 : d (p + 1) = 0) : exR d p = 0 := by
  rw [exR, h1, h2]; decide
theorem nI_suc2 (k : Nat) : nI (k + 1) = nI k + 1 := (nI_add k 1).symm
/-- one more car -/
theorem rel_car {P : PD} {T : TD} {d : Nat → Int32} (h : Rel P T d) (hL : LD P T d) (hc20 : pCar P < 20) {x w : Int32} (hx : Inn x (pN P)) (hw : w = 1 ∨ w = -1) (hroom : ¬ pCap P ≤ tLane T (lx x w)) :
    Rel (sCar P (pCar P + 1)) (addF P x w T) (rcD x w d) ∧ LD (sCar P (pCar P + 1)) (addF P x w T) (rcD x w d) := by
  have hn := h.n
  obtain ⟨hC, hS, hV, hF, hE, hR, hK⟩ := h
  have e2 : (d 2).toNatClampNeg = pCar P := by rw [hC.1.2.2.1]; exact nI_clamp (by omega)
  generalize hnc : pCar P = c at e2 hc20 ⊢
  have ed : rcD x w d = upd (upd (upd d (96 + 4 * c) x) (96 + 4 * c + 1) w) 2 (d 2 + 1) := by rw [rcD, e2]
  rw [ed]
  have g : ∀ j, j ≠ 2 → j ≠ 96 + 4 * c → j ≠ 96 + 4 * c + 1 → upd (upd (upd d (96 + 4 * c) x) (96 + 4 * c + 1) w) 2 (d 2 + 1) j = d j := fun j h1 h2 h3 => by rw [u_ne h1, u_ne h3, u_ne h2]
  have g2 : upd (upd (upd d (96 + 4 * c) x) (96 + 4 * c + 1) w) 2 (d 2 + 1) 2 = nI (c + 1) := by rw [u_eq, hC.1.2.2.1, hnc]; exact (nI_suc2 c).symm
  have gx : upd (upd (upd d (96 + 4 * c) x) (96 + 4 * c + 1) w) 2 (d 2 + 1) (96 + 4 * c) = x := by rw [u_ne (by omega), u_ne (by omega), u_eq]
  have gw : upd (upd (upd d (96 + 4 * c) x) (96 + 4 * c + 1) w) 2 (d 2 + 1) (96 + 4 * c + 1) = w := by rw [u_ne (by omega), u_eq]
  generalize upd (upd (upd d (96 + 4 * c) x) (96 + 4 * c + 1) w) 2 (d 2 + 1) = d2 at g g2 gx gw ⊢
  obtain ⟨kx, hkx, ekx⟩ := hx
  have hlx : ∀ s, s < pN P → ∀ v, (v = 1 ∨ v = -1) → (lx (nI s) v = lx x w ↔ (x = nI s ∧ w = v)) := fun s hs v hv => by
    rw [ekx, lx_inj (by omega) (by omega) hv hw]
    exact ⟨fun h => ⟨h.1.symm, h.2.symm⟩, fun h => ⟨h.1.symm, h.2.symm⟩⟩
  have eL : tLane (addF P x w T) = upd (tLane T) (lx x w) (tLane T (lx x w) + 1) := rfl
  have eI : tIns (addF P x w T) = tIns T + 1 := rfl
  have eS : tCs (addF P x w T) = upd (tCs T) c x := by rw [← hnc]; rfl
  have eD : tCd (addF P x w T) = upd (tCd T) c w := by rw [← hnc]; rfl
  have eK : tFire (addF P x w T) = tFire T ∧ tBay (addF P x w T) = tBay T ∧ tRed (addF P x w T) = tRed T ∧ tFan (addF P x w T) = tFan T ∧ tEx (addF P x w T) = tEx T ∧ tClock (addF P x w T) = tClock T ∧ tSmoke (addF P x w T) = tSmoke T ∧ tLeft (addF P x w T) = tLeft T ∧ tRem (addF P x w T) = tRem T := ⟨rfl, rfl, rfl, rfl, rfl, rfl, rfl, rfl, rfl⟩
  generalize addF P x w T = T2 at eL eI eS eD eK ⊢
  obtain ⟨k1, k2, k3, k4, k5, k6, k7, k8, k9⟩ := eK
  refine ⟨⟨?_, SM_ext hS rfl ⟨k7, k8, k9⟩ ⟨g 8 (by omega) (by omega) (by omega), g 9 (by omega) (by omega) (by omega), g 10 (by omega) (by omega) (by omega)⟩ (fun s hs => g _ (by omega) (by omega) (by omega)), ⟨hV.1, (g 0 (by omega) (by omega) (by omega)).trans hV.2.1, fun s hs => ?_⟩, ⟨(g 5 (by omega) (by omega) (by omega)).trans hF.1, fun s hs => ?_, by rw [k3]; exact hF.2.2⟩, fun c2 hc2 => ?_, RV_ext hR ⟨rfl, rfl⟩ ⟨g 6 (by omega) (by omega) (by omega), g 7 (by omega) (by omega) (by omega)⟩ (fun j hj => g j (by omega) (by omega) (by omega)), CKr_ext hK k6 ⟨g 3 (by omega) (by omega) (by omega), g 8 (by omega) (by omega) (by omega)⟩⟩, ⟨fun c2 hc2 => ?_, fun s hs v hv => ?_, hL.2.2⟩⟩
  · obtain ⟨⟨a0, a1, a2, a4, b1, b2, hf⟩, b, c0, l0, i0⟩ := hC
    show CRc (pN P) (c + 1) (pCap P) (tFire T2) (tIns T2) (tBay T2) (tRed T2) (tLane T2) (tCs T2) (tCd T2) d2
    rw [hnc] at c0 l0 i0
    refine ⟨⟨(g 0 (by omega) (by omega) (by omega)).trans a0, (g 1 (by omega) (by omega) (by omega)).trans a1, g2, (g 4 (by omega) (by omega) (by omega)).trans (a4.trans k1.symm), b1, by omega, by rw [k1]; exact hf⟩, fun s hs => ?_, fun c2 hc2 => ?_, fun s hs v hv => ?_, ?_⟩
    · rw [g _ (by omega) (by omega) (by omega), g _ (by omega) (by omega) (by omega), g _ (by omega) (by omega) (by omega), k2, k3]; exact b s hs
    · rw [eS, eD]
      by_cases e : c2 = c
      · rw [e, gx, gw, u_eq, u_eq]
        exact ⟨rfl, rfl, Or.inr ⟨kx, hkx, ekx⟩, hw⟩
      · rw [g _ (by omega) (by omega) (by omega), g _ (by omega) (by omega) (by omega), u_ne e, u_ne e]
        exact c0 c2 (by omega)
    · rw [eL, laneR, lane_ext (d := d) c (fun c2 h9 => ⟨g _ (by omega) (by omega) (by omega), g _ (by omega) (by omega) (by omega)⟩), gx, gw, upd_at]
      by_cases e : x = nI s ∧ w = v
      · rw [if_pos e, if_pos ((hlx s hs v hv).mpr e), ← (hlx s hs v hv).mpr e, l0 s hs v hv]
      · rw [if_neg e, if_neg (fun h9 => e ((hlx s hs v hv).mp h9)), l0 s hs v hv, Int32.add_zero]
    · rw [eI, insR, ins_ext (d := d) c (fun c2 h9 => g _ (by omega) (by omega) (by omega)), gx, if_neg (by rw [ekx]; exact nI_pos (by omega)), i0]
  · replace hs : s < pN P := hs
    rw [g _ (by omega) (by omega) (by omega)]; exact hV.2.2 s hs
  · replace hs : s < pN P := hs
    rw [g _ (by omega) (by omega) (by omega), g _ (by omega) (by omega) (by omega), k4, k2]; exact hF.2.1 s hs
  · have hc3 : c2 < c + 1 := hc2
    rw [k5]
    by_cases e : c2 = c
    · have q := hL.1 c2 (by omega)
      rw [ex_0 (by rw [g _ (by omega) (by omega) (by omega)]; exact q.2.1) (by rw [g _ (by omega) (by omega) (by omega)]; exact q.2.2)]
      exact q.1
    · rw [exR, g _ (by omega) (by omega) (by omega), g _ (by omega) (by omega) (by omega)]
      exact hE c2 (by omega)
  · rw [k5, g _ (by omega) (by omega) (by omega), g _ (by omega) (by omega) (by omega)]; exact hL.1 c2 hc2
  · replace hs : s < pN P := hs
    have q := hL.2.1 s hs v hv
    rw [eL, upd_at]
    show (if lx (nI s) v = lx x w then tLane T (lx x w) + 1 else tLane T (lx (nI s) v)).toInt ≤ (pCap P).toInt ∧ _
    by_cases e : lx (nI s) v = lx x w
    · rw [if_pos e, ← e]
      rw [← e] at hroom
      have h1 : (tLane T (lx (nI s) v)).toInt < (pCap P).toInt := by
        have h5 : ¬ (pCap P).toInt ≤ (tLane T (lx (nI s) v)).toInt := fun h9 => hroom (Int32.le_iff_toInt_le.mpr h9)
        omega
      have c1 : (1 : Int32).toInt = 1 := by decide
      have := hL.2.2
      rw [i32_add (by rw [c1]; omega) (by rw [c1]; omega), c1]
      omega
    · rw [if_neg e]; exact q
