theorem xi_1 : nI (([IOE] : List String).idxOf IOE + 1) = 1 := by decide +kernel
theorem xi_2 : nI (([IAE] : List String).idxOf IAE + 1) = 1 := by decide +kernel
theorem xi_3 : nI (([IOE, IAE] : List String).idxOf IOE + 1) = 1 ∧ nI (([IOE, IAE] : List String).idxOf IAE + 1) = 2 := by decide +kernel
theorem xi_4 : nI (([IOE, ISE] : List String).idxOf IOE + 1) = 1 ∧ nI (([IOE, ISE] : List String).idxOf ISE + 1) = 2 := by decide +kernel
theorem xi_5 : nI (([IAE, ISE] : List String).idxOf IAE + 1) = 1 ∧ nI (([IAE, ISE] : List String).idxOf ISE + 1) = 2 := by decide +kernel
theorem xi_6 : nI (([IOE, IAE, ISE] : List String).idxOf IOE + 1) = 1 ∧ nI (([IOE, IAE, ISE] : List String).idxOf IAE + 1) = 2 ∧ nI (([IOE, IAE, ISE] : List String).idxOf ISE + 1) = 3 := by decide +kernel
/-- an exception told alike -/
def Thr (Ls : List String) (o : Option String) (th : Int32) : Prop := ∀ E, o = some E → E ∈ Ls ∧ th = nI (Ls.idxOf E + 1) ∧ ¬ nI (Ls.idxOf E + 1) = 0
theorem thr_n {Ls : List String} {th : Int32} : Thr Ls none th := fun _ h => absurd h nofun
theorem thr_s {Ls : List String} {E : String} {k th : Int32} (hm : E ∈ Ls) (hk : nI (Ls.idxOf E + 1) = k) (ht : th = k) (h0 : ¬ k = 0) : Thr Ls (some E) th := fun E2 h => by
  cases h
  exact ⟨hm, ht.trans hk.symm, by rw [hk]; exact h0⟩
theorem inB_X {x lo hi : Int32} {E : String} : (if x < lo ∨ hi < x then some E else none) = if (!inB x lo hi) = true then some E else none := by
  by_cases h1 : x < lo
  · rw [if_pos (Or.inl h1), inB_f1 h1]; rfl
  · by_cases h2 : hi < x
    · rw [if_pos (Or.inr h2), inB_f2 h2]; rfl
    · rw [if_neg (not_or.mpr ⟨h1, h2⟩), inB_t h1 h2]; rfl
theorem lim_iff {x : Int32} : limX x = if limE x = true then some IAE else none := inB_X
theorem set_iff {x : Int32} : setX x = if setE x = true then some IAE else none := inB_X
theorem fore_iff {x : Int32} : foreX x = if tikE x = true then some IAE else none := inB_X
theorem load_iff {n x : Int32} : loadX n x = if (!inB x 0 n) = true then some IAE else none := inB_X
theorem fan_iff {P : PD} {T : TD} {d : Nat → Int32} (h : Rel P T d) {t : Nat} (ht : t < pN P) : fanX P (nI t) = if d (12 + 7 * t + 1) = 0 then some ISE else none := by
  have hn := h.n
  rw [fanX, nI_clamp (by omega), (h.2.2.2.1.2.1 t ht).2.1]
theorem bay_iff {P : PD} {T : TD} {d : Nat → Int32} (h : Rel P T d) {t : Nat} (ht : t < pN P) : bayX T (nI t) = if d (12 + 7 * t + 4) < 0 then some ISE else none := by
  have hn := h.n
  rw [bayX, nI_clamp (by omega), (h.1.2.1 t ht).1]
  rcases (h.2.2.2.1.2.1 t ht).2.2.2 with e | e | e
  · rw [e, if_pos rfl, if_pos (by decide)]
  · rw [e, if_neg (by decide), if_neg (by decide)]
  · rw [e, if_neg (by decide), if_neg (by decide)]
theorem orX_of {a b : Option String} : orX a b = match a with
    | none => b
    | some E => some E := by
  cases a with
  | none => rfl
  | some E => exact orX_s rfl

theorem an_smoke {P : PD} {T : TD} {d : Nat → Int32} (h : Rel P T d) (s0 : Int32) : (secX P s0 = none → (if seE d s0 = true then (1 : Int32) else 0) = 0 ∧ (tSmoke T s0.toNatClampNeg).toInt32 = (if seE d s0 = true then 0 else d (12 + 7 * s0.toNatClampNeg))) ∧ Thr [IOE] (secX P s0) (if seE d s0 = true then (1 : Int32) else 0) := by
  have e := se_iff h (s := s0)
  by_cases c : seE d s0 = true
  · rw [if_pos c] at e
    refine ⟨fun h9 => absurd (e.symm.trans h9) nofun, ?_⟩
    rw [e, if_pos c]
    exact thr_s List.mem_cons_self xi_1 rfl (by decide)
  · rw [if_neg c] at e
    refine ⟨fun _ => ?_, by rw [e]; exact thr_n⟩
    rw [if_neg c, if_neg c]
    obtain ⟨t, ht, rfl⟩ := secX_inn h.n e
    have hn := h.n
    rw [nI_clamp (by omega)]
    exact ⟨rfl, (v_smoke h ht).1⟩

theorem an_bay {P : PD} {T : TD} {d : Nat → Int32} (h : Rel P T d) (s0 : Int32) : (secX P s0 = none → (if seE d s0 = true then (1 : Int32) else 0) = 0 ∧ tBay T s0.toNatClampNeg = (if seE d s0 = true then 0 else d (12 + 7 * s0.toNatClampNeg + 4))) ∧ Thr [IOE] (secX P s0) (if seE d s0 = true then (1 : Int32) else 0) := by
  have e := se_iff h (s := s0)
  by_cases c : seE d s0 = true
  · rw [if_pos c] at e
    refine ⟨fun h9 => absurd (e.symm.trans h9) nofun, ?_⟩
    rw [e, if_pos c]
    exact thr_s List.mem_cons_self xi_1 rfl (by decide)
  · rw [if_neg c] at e
    refine ⟨fun _ => ?_, by rw [e]; exact thr_n⟩
    rw [if_neg c, if_neg c]
    obtain ⟨t, ht, rfl⟩ := secX_inn h.n e
    have hn := h.n
    rw [nI_clamp (by omega)]
    exact ⟨rfl, (h.1.2.1 t ht).1.symm⟩

theorem an_carSection {P : PD} {T : TD} {d : Nat → Int32} (h : Rel P T d) (s0 : Int32) : (carX P s0 = none → (if caE d s0 = true then (1 : Int32) else 0) = 0 ∧ tCs T s0.toNatClampNeg = (if caE d s0 = true then 0 else d (96 + 4 * s0.toNatClampNeg))) ∧ Thr [IOE] (carX P s0) (if caE d s0 = true then (1 : Int32) else 0) := by
  have e := ca_iff h (s := s0)
  by_cases c : caE d s0 = true
  · rw [if_pos c] at e
    refine ⟨fun h9 => absurd (e.symm.trans h9) nofun, ?_⟩
    rw [e, if_pos c]
    exact thr_s List.mem_cons_self xi_1 rfl (by decide)
  · rw [if_neg c] at e
    refine ⟨fun _ => ?_, by rw [e]; exact thr_n⟩
    rw [if_neg c, if_neg c]
    obtain ⟨t, ht, rfl⟩ := carX_inn h.nc e
    have hn := h.nc
    rw [nI_clamp (by omega)]
    exact ⟨rfl, (h.1.2.2.1 t ht).1.symm⟩

theorem an_carDirection {P : PD} {T : TD} {d : Nat → Int32} (h : Rel P T d) (s0 : Int32) : (carX P s0 = none → (if caE d s0 = true then (1 : Int32) else 0) = 0 ∧ tCd T s0.toNatClampNeg = (if caE d s0 = true then 0 else d (96 + 4 * s0.toNatClampNeg + 1))) ∧ Thr [IOE] (carX P s0) (if caE d s0 = true then (1 : Int32) else 0) := by
  have e := ca_iff h (s := s0)
  by_cases c : caE d s0 = true
  · rw [if_pos c] at e
    refine ⟨fun h9 => absurd (e.symm.trans h9) nofun, ?_⟩
    rw [e, if_pos c]
    exact thr_s List.mem_cons_self xi_1 rfl (by decide)
  · rw [if_neg c] at e
    refine ⟨fun _ => ?_, by rw [e]; exact thr_n⟩
    rw [if_neg c, if_neg c]
    obtain ⟨t, ht, rfl⟩ := carX_inn h.nc e
    have hn := h.nc
    rw [nI_clamp (by omega)]
    exact ⟨rfl, (h.1.2.2.1 t ht).2.1.symm⟩

theorem an_exposure {P : PD} {T : TD} {d : Nat → Int32} (h : Rel P T d) (s0 : Int32) : (carX P s0 = none → (if caE d s0 = true then (1 : Int32) else 0) = 0 ∧ tEx T s0.toNatClampNeg = (if caE d s0 = true then 0 else exR d (96 + 4 * s0.toNatClampNeg + 2))) ∧ Thr [IOE] (carX P s0) (if caE d s0 = true then (1 : Int32) else 0) := by
  have e := ca_iff h (s := s0)
  by_cases c : caE d s0 = true
  · rw [if_pos c] at e
    refine ⟨fun h9 => absurd (e.symm.trans h9) nofun, ?_⟩
    rw [e, if_pos c]
    exact thr_s List.mem_cons_self xi_1 rfl (by decide)
  · rw [if_neg c] at e
    refine ⟨fun _ => ?_, by rw [e]; exact thr_n⟩
    rw [if_neg c, if_neg c]
    obtain ⟨t, ht, rfl⟩ := carX_inn h.nc e
    have hn := h.nc
    rw [nI_clamp (by omega)]
    exact ⟨rfl, h.2.2.2.2.1 t ht⟩

theorem an_total {P : PD} {T : TD} {d : Nat → Int32} (h : Rel P T d) (s0 : Int32) : (totX s0 = none → (if totE s0 = true then (1 : Int32) else 0) = 0 ∧ totF T P s0 = (if totE s0 = true then 0 else totR d (pN P) s0)) ∧ Thr [IAE] (totX s0) (if totE s0 = true then (1 : Int32) else 0) := by
  have e := tot_iff (x := s0)
  by_cases c : totE s0 = true
  · rw [if_pos c] at e
    refine ⟨fun h9 => absurd (e.symm.trans h9) nofun, ?_⟩
    rw [e, if_pos c]
    exact thr_s List.mem_cons_self xi_2 rfl (by decide)
  · rw [if_neg c] at e
    refine ⟨fun _ => ?_, by rw [e]; exact thr_n⟩
    rw [if_neg c, if_neg c]
    skip
    refine ⟨rfl, v_total h ?_⟩
    by_cases c9 : s0 = 0 ∨ s0 = 1 ∨ s0 = 2 ∨ s0 = 3
    · exact c9
    · rw [totX, if_neg c9] at e; exact absurd e nofun

theorem an_clearingTime {P : PD} {T : TD} {d : Nat → Int32} (h : Rel P T d) (X : TS) (s0 : Int32) : (limX s0 = none → (if limE s0 = true then (1 : Int32) else 0) = 0 ∧ (clearR P (s0.toNatClampNeg + 1) 0 T).1 = (if limE s0 = true then 0 else (clF (pN P) (pCar P) (pCodes P) (pNc P) (s0.toNatClampNeg + 1) 0 (X.wd d)).1)) ∧ Thr [IAE] (limX s0) (if limE s0 = true then (1 : Int32) else 0) := by
  have e := lim_iff (x := s0)
  by_cases c : limE s0 = true
  · rw [if_pos c] at e
    refine ⟨fun h9 => absurd (e.symm.trans h9) nofun, ?_⟩
    rw [e, if_pos c]
    exact thr_s List.mem_cons_self xi_2 rfl (by decide)
  · rw [if_neg c] at e
    refine ⟨fun _ => ?_, by rw [e]; exact thr_n⟩
    rw [if_neg c, if_neg c]
    skip
    exact ⟨rfl, clear_rel _ 0 T (X.wd d) h.1⟩

theorem an_bestSetting {P : PD} {T : TD} {d : Nat → Int32} (h : Rel P T d) (hck : (d 3).toInt ≤ 10000) (X : TS) (s0 : Int32) : (foreX s0 = none → (if tikE s0 = true then (1 : Int32) else 0) = 0 ∧ (bsF s0.toNatClampNeg T P 10).1 = (if tikE s0 = true then 0 else (bsR (pN P) (pCar P) (pCodes P) (pNc P) s0.toNatClampNeg d X 10).1)) ∧ Thr [IAE] (foreX s0) (if tikE s0 = true then (1 : Int32) else 0) := by
  have e := fore_iff (x := s0)
  by_cases c : tikE s0 = true
  · rw [if_pos c] at e
    refine ⟨fun h9 => absurd (e.symm.trans h9) nofun, ?_⟩
    rw [e, if_pos c]
    exact thr_s List.mem_cons_self xi_2 rfl (by decide)
  · rw [if_neg c] at e
    refine ⟨fun _ => ?_, by rw [e]; exact thr_n⟩
    rw [if_neg c, if_neg c]
    skip
    refine ⟨rfl, (bs_rel h hck (n := s0.toNatClampNeg) ?_ X 10 (Nat.le_refl _)).1⟩
    have c2 : inB s0 0 60 = true := by
      cases hb : inB s0 0 60
      · exact absurd (show tikE s0 = true by rw [tikE, hb]; rfl) c
      · rfl
    obtain ⟨t, ht, rfl⟩ := inB_n (n := 60) (by decide) c2
    rw [nI_clamp (by omega)]; omega

theorem an_exposureWith {P : PD} {T : TD} {d : Nat → Int32} (h : Rel P T d) (hck : (d 3).toInt ≤ 10000) (X : TS) (x0 t0 : Int32) : (orX (setX x0) (foreX t0) = none → (if ewE x0 t0 = true then (1 : Int32) else 0) = 0 ∧ ewF x0 t0.toNatClampNeg T P = (if ewE x0 t0 = true then 0 else (exF (pN P) (pCar P) (pCodes P) (pNc P) x0 t0.toNatClampNeg X d).1)) ∧ Thr [IAE] (orX (setX x0) (foreX t0)) (if ewE x0 t0 = true then (1 : Int32) else 0) := by
  rw [set_iff, fore_iff]
  have e : ewE x0 t0 = (setE x0 || tikE t0) := rfl
  rw [e]
  by_cases c1 : setE x0 = true
  · rw [c1, Bool.true_or, if_pos rfl, if_pos rfl, orX_of]
    exact ⟨fun h9 => absurd h9 nofun, thr_s List.mem_cons_self xi_2 rfl (by decide)⟩
  · have c1f := Bool.eq_false_iff.mpr c1
    rw [c1f, Bool.false_or, if_neg Bool.false_ne_true, orX_of]
    by_cases c : tikE t0 = true
    · rw [if_pos c, if_pos c]
      exact ⟨fun h9 => absurd h9 nofun, thr_s List.mem_cons_self xi_2 rfl (by decide)⟩
    · rw [if_neg c, if_neg c, if_neg c]
      refine ⟨fun _ => ⟨rfl, (ew_rel (PE.r P) h hck x0 (n := t0.toNatClampNeg) ?_ X).1⟩, thr_n⟩
      have c2 : inB t0 0 60 = true := by
        cases hb : inB t0 0 60
        · exact absurd (show tikE t0 = true by rw [tikE, hb]; rfl) c
        · rfl
      obtain ⟨t, ht, rfl⟩ := inB_n (n := 60) (by decide) c2
      rw [nI_clamp (by omega)]; omega
theorem an_fan {P : PD} {T : TD} {d : Nat → Int32} (h : Rel P T d) (s0 : Int32) : (orX (secX P s0) (fanX P s0) = none → (if seE d s0 = true then (1 : Int32) else if d (12 + 7 * s0.toNatClampNeg + 1) = 0 then 2 else 0) = 0 ∧ tFan T s0.toNatClampNeg = (if seE d s0 = true then 0 else if d (12 + 7 * s0.toNatClampNeg + 1) = 0 then 0 else d (12 + 7 * s0.toNatClampNeg + 2))) ∧ Thr [IOE, ISE] (orX (secX P s0) (fanX P s0)) (if seE d s0 = true then (1 : Int32) else if d (12 + 7 * s0.toNatClampNeg + 1) = 0 then 2 else 0) := by
  have e := se_iff h (s := s0)
  by_cases c : seE d s0 = true
  · rw [if_pos c] at e
    rw [e, orX_of, if_pos c]
    exact ⟨fun h9 => absurd h9 nofun, thr_s List.mem_cons_self xi_4.1 rfl (by decide)⟩
  · rw [if_neg c] at e
    rw [e, orX_of, if_neg c, if_neg c]
    obtain ⟨t, ht, rfl⟩ := secX_inn h.n e
    have hn := h.n
    show (fanX P (nI t) = none → _) ∧ Thr _ (fanX P (nI t)) _
    rw [fan_iff h ht, nI_clamp (by omega)]
    by_cases c2 : d (12 + 7 * t + 1) = 0
    · rw [if_pos c2, if_pos c2]
      exact ⟨fun h9 => absurd h9 nofun, thr_s (List.mem_cons_of_mem _ List.mem_cons_self) xi_4.2 rfl (by decide)⟩
    · rw [if_neg c2, if_neg c2, if_neg c2]
      exact ⟨fun _ => ⟨rfl, (h.2.2.2.1.2.1 t ht).1.symm⟩, thr_n⟩

theorem an_isRed {P : PD} {T : TD} {d : Nat → Int32} (h : Rel P T d) (s0 w0 : Int32) : (orX (secX P s0) (dirX w0) = none → (if seE d s0 = true then (1 : Int32) else if wyE w0 = true then 2 else 0) = 0 ∧ tRed T (lx s0 w0) = (if seE d s0 = true then 0 else if wyE w0 = true then 0 else if d (12 + 7 * s0.toNatClampNeg + (if w0 = 1 then 5 else 6)) = 1 then 1 else 0)) ∧ Thr [IOE, IAE] (orX (secX P s0) (dirX w0)) (if seE d s0 = true then (1 : Int32) else if wyE w0 = true then 2 else 0) := by
  have e := se_iff h (s := s0)
  by_cases c : seE d s0 = true
  · rw [if_pos c] at e
    rw [e, orX_of, if_pos c]
    exact ⟨fun h9 => absurd h9 nofun, thr_s List.mem_cons_self xi_3.1 rfl (by decide)⟩
  · rw [if_neg c] at e
    rw [e, orX_of, if_neg c, if_neg c]
    obtain ⟨t, ht, rfl⟩ := secX_inn h.n e
    have hn := h.n
    show (dirX w0 = none → _) ∧ Thr _ (dirX w0) _
    rw [wy_iff, nI_clamp (by omega)]
    by_cases c2 : wyE w0 = true
    · rw [if_pos c2, if_pos c2]
      exact ⟨fun h9 => absurd h9 nofun, thr_s (List.mem_cons_of_mem _ List.mem_cons_self) xi_3.2 rfl (by decide)⟩
    · rw [if_neg c2, if_neg c2, if_neg c2]
      have hw := wy_w (Bool.eq_false_iff.mpr c2)
      exact ⟨fun _ => ⟨rfl, (v_red h ht hw).2.symm⟩, thr_n⟩

theorem an_carsIn {P : PD} {T : TD} {d : Nat → Int32} (h : Rel P T d) (s0 w0 : Int32) : (orX (secX P s0) (dirX w0) = none → (if seE d s0 = true then (1 : Int32) else if wyE w0 = true then 2 else 0) = 0 ∧ tLane T (lx s0 w0) = (if seE d s0 = true then 0 else if wyE w0 = true then 0 else laneR d s0 w0 (pCar P))) ∧ Thr [IOE, IAE] (orX (secX P s0) (dirX w0)) (if seE d s0 = true then (1 : Int32) else if wyE w0 = true then 2 else 0) := by
  have e := se_iff h (s := s0)
  by_cases c : seE d s0 = true
  · rw [if_pos c] at e
    rw [e, orX_of, if_pos c]
    exact ⟨fun h9 => absurd h9 nofun, thr_s List.mem_cons_self xi_3.1 rfl (by decide)⟩
  · rw [if_neg c] at e
    rw [e, orX_of, if_neg c, if_neg c]
    obtain ⟨t, ht, rfl⟩ := secX_inn h.n e
    have hn := h.n
    show (dirX w0 = none → _) ∧ Thr _ (dirX w0) _
    rw [wy_iff]
    by_cases c2 : wyE w0 = true
    · rw [if_pos c2, if_pos c2]
      exact ⟨fun h9 => absurd h9 nofun, thr_s (List.mem_cons_of_mem _ List.mem_cons_self) xi_3.2 rfl (by decide)⟩
    · rw [if_neg c2, if_neg c2, if_neg c2]
      have hw := wy_w (Bool.eq_false_iff.mpr c2)
      exact ⟨fun _ => ⟨rfl, h.1.2.2.2.1 t ht w0 hw⟩, thr_n⟩

theorem Rel.tok {P : PD} {T : TD} {d : Nat → Int32} (h : Rel P T d) : TOK (T, P) := ⟨h.n, h.nc, h.2.2.2.2.2.1.1, h.cok, h.fok⟩
theorem Rel.red {P : PD} {T : TD} {d : Nat → Int32} (h : Rel P T d) : ∀ j, j < 24 → tRed T j = 0 ∨ tRed T j = 1 := h.2.2.2.1.2.2
theorem RelC.upd {P : PD} {T T2 : TD} {d : Nat → Int32} {p : Nat} {x : Int32} (h : RelC P T d) (hp : ¬ p = 3) (h2 : Rel P T2 (upd d p x)) : RelC P T2 (upd d p x) := ⟨h2, by rw [upd_at, if_neg (fun e => hp e.symm)]; exact h.2⟩
theorem flow_rel {P : PD} {T : TD} {d : Nat → Int32} (h : Rel P T d) : flowF T P = flowR d (pN P) := flow_eq h.2.2.2.1.1 (fun s hs => (h.2.2.2.1.2.1 s hs).1)
abbrev thFan (d : Nat → Int32) (s0 x0 : Int32) : Int32 := if seE d s0 = true then 1 else if setE x0 = true then 2 else if d (12 + 7 * s0.toNatClampNeg + 1) = 0 then 3 else 0
theorem an_setFan {P : PD} {T : TD} {d : Nat → Int32} (h : RelC P T d) (s0 x0 : Int32) : (orX (secX P s0) (orX (setX x0) (fanX P s0)) = none → thFan d s0 x0 = 0 ∧ flowF (sFan T (upd (tFan T) s0.toNatClampNeg x0)) P = flowR (upd d (12 + 7 * s0.toNatClampNeg + 2) x0) (pN P) ∧ RelC P (sFan T (upd (tFan T) s0.toNatClampNeg x0)) (upd d (12 + 7 * s0.toNatClampNeg + 2) x0)) ∧ Thr [IOE, IAE, ISE] (orX (secX P s0) (orX (setX x0) (fanX P s0))) (thFan d s0 x0) := by
  have e := se_iff h.1 (s := s0)
  rw [thFan]
  by_cases c : seE d s0 = true
  · rw [if_pos c] at e
    rw [e, orX_of, if_pos c]
    exact ⟨fun h9 => absurd h9 nofun, thr_s List.mem_cons_self xi_6.1 rfl (by decide)⟩
  · rw [if_neg c] at e
    rw [e, orX_of, if_neg c]
    obtain ⟨t, ht, rfl⟩ := secX_inn h.1.n e
    have hn := h.1.n
    show (orX (setX x0) (fanX P (nI t)) = none → _) ∧ Thr _ (orX (setX x0) (fanX P (nI t))) _
    rw [set_iff, fan_iff h.1 ht, nI_clamp (by omega)]
    by_cases c1 : setE x0 = true
    · rw [if_pos c1, if_pos c1, orX_of]
      exact ⟨fun h9 => absurd h9 nofun, thr_s (List.mem_cons_of_mem _ List.mem_cons_self) xi_6.2.1 rfl (by decide)⟩
    · rw [if_neg c1, if_neg c1, orX_of]
      show ((if d (12 + 7 * t + 1) = 0 then some ISE else none) = none → _) ∧ Thr _ (if d (12 + 7 * t + 1) = 0 then some ISE else none) _
      by_cases c2 : d (12 + 7 * t + 1) = 0
      · rw [if_pos c2, if_pos c2]
        exact ⟨fun h9 => absurd h9 nofun, thr_s (List.mem_cons_of_mem _ (List.mem_cons_of_mem _ List.mem_cons_self)) xi_6.2.2 rfl (by decide)⟩
      · rw [if_neg c2, if_neg c2]
        have h2 := rel_fan h.1 ht x0
        exact ⟨fun _ => ⟨rfl, flow_rel h2, h.upd (by omega) h2⟩, thr_n⟩
abbrev thFire (d : Nat → Int32) (s0 : Int32) : Int32 := if ¬ s0 = -1 ∧ seE d s0 = true then 1 else 0
theorem an_setFire {P : PD} {T : TD} {d : Nat → Int32} (h : RelC P T d) (s0 : Int32) : (fireX P s0 = none → thFire d s0 = 0 ∧ tFire T = (if ¬ s0 = -1 ∧ seE d s0 = true then 0 else d 4) ∧ RelC P (sFire T s0) (upd d 4 s0)) ∧ Thr [IOE] (fireX P s0) (thFire d s0) := by
  have e := se_iff h.1 (s := s0)
  have e4 : d 4 = tFire T := h.1.1.1.2.2.2.1
  rw [thFire, fireX]
  by_cases c0 : s0 = -1
  · rw [if_pos c0, if_neg (fun h9 => h9.1 c0), if_neg (fun h9 => h9.1 c0)]
    exact ⟨fun _ => ⟨rfl, e4.symm, h.upd (by decide) (rel_fire h.1 (Or.inl c0))⟩, thr_n⟩
  · rw [if_neg c0]
    by_cases c : seE d s0 = true
    · rw [if_pos c] at e
      rw [e, if_pos ⟨c0, c⟩]
      exact ⟨fun h9 => absurd h9 nofun, thr_s List.mem_cons_self xi_1 rfl (by decide)⟩
    · rw [if_neg c] at e
      rw [e, if_neg (fun h9 => c h9.2), if_neg (fun h9 => c h9.2)]
      exact ⟨fun _ => ⟨rfl, e4.symm, h.upd (by decide) (rel_fire h.1 (Or.inr (secX_inn h.1.n e)))⟩, thr_n⟩
abbrev thSig (d : Nat → Int32) (s0 w0 : Int32) : Int32 := if seE d s0 = true then 1 else if wyE w0 = true then 2 else 0
theorem an_setSignal {P : PD} {T : TD} {d : Nat → Int32} (h : RelC P T d) (s0 w0 x0 : Int32) (hx : x0 = 0 ∨ x0 = 1) : (orX (secX P s0) (dirX w0) = none → thSig d s0 w0 = 0 ∧ tRed T (lx s0 w0) = (if d (12 + 7 * s0.toNatClampNeg + (if w0 = 1 then 5 else 6)) = 1 then 1 else 0) ∧ RelC P (sRed T (upd (tRed T) (lx s0 w0) x0)) (upd d (12 + 7 * s0.toNatClampNeg + (if w0 = 1 then 5 else 6)) (if x0 = 0 then 0 else 1))) ∧ Thr [IOE, IAE] (orX (secX P s0) (dirX w0)) (thSig d s0 w0) := by
  have e := se_iff h.1 (s := s0)
  have ex : (if x0 = 0 then (0 : Int32) else 1) = x0 := by rcases hx with rfl | rfl <;> rfl
  rw [thSig, ex]
  by_cases c : seE d s0 = true
  · rw [if_pos c] at e
    rw [e, orX_of, if_pos c]
    exact ⟨fun h9 => absurd h9 nofun, thr_s List.mem_cons_self xi_3.1 rfl (by decide)⟩
  · rw [if_neg c] at e
    rw [e, orX_of, if_neg c]
    obtain ⟨t, ht, rfl⟩ := secX_inn h.1.n e
    have hn := h.1.n
    show (dirX w0 = none → _) ∧ Thr _ (dirX w0) _
    rw [wy_iff, nI_clamp (by omega)]
    by_cases c2 : wyE w0 = true
    · rw [if_pos c2, if_pos c2]
      exact ⟨fun h9 => absurd h9 nofun, thr_s (List.mem_cons_of_mem _ List.mem_cons_self) xi_3.2 rfl (by decide)⟩
    · rw [if_neg c2, if_neg c2]
      have hw := wy_w (Bool.eq_false_iff.mpr c2)
      exact ⟨fun _ => ⟨rfl, (v_red h.1 ht hw).2.symm, h.upd (by split <;> omega) (rel_red h.1 ht hw hx)⟩, thr_n⟩
abbrev thBay (d : Nat → Int32) (s0 : Int32) : Int32 := if seE d s0 = true then 1 else if d (12 + 7 * s0.toNatClampNeg + 4) < 0 then 2 else 0
theorem an_setBay {P : PD} {T : TD} {d : Nat → Int32} (h : RelC P T d) (s0 x0 : Int32) : (orX (secX P s0) (bayX T s0) = none → thBay d s0 = 0 ∧ (if tBay T s0.toNatClampNeg = 1 then (1 : Int32) else 0) = (if d (12 + 7 * s0.toNatClampNeg + 4) = 1 then 1 else 0) ∧ RelC P (sBay T (upd (tBay T) s0.toNatClampNeg (if x0 = 0 then 0 else 1))) (upd d (12 + 7 * s0.toNatClampNeg + 4) (if x0 = 0 then 0 else 1))) ∧ Thr [IOE, ISE] (orX (secX P s0) (bayX T s0)) (thBay d s0) := by
  have e := se_iff h.1 (s := s0)
  rw [thBay]
  by_cases c : seE d s0 = true
  · rw [if_pos c] at e
    rw [e, orX_of, if_pos c]
    exact ⟨fun h9 => absurd h9 nofun, thr_s List.mem_cons_self xi_4.1 rfl (by decide)⟩
  · rw [if_neg c] at e
    rw [e, orX_of, if_neg c]
    obtain ⟨t, ht, rfl⟩ := secX_inn h.1.n e
    have hn := h.1.n
    show (bayX T (nI t) = none → _) ∧ Thr _ (bayX T (nI t)) _
    rw [bay_iff h.1 ht, nI_clamp (by omega)]
    by_cases c2 : d (12 + 7 * t + 4) < 0
    · rw [if_pos c2, if_pos c2]
      exact ⟨fun h9 => absurd h9 nofun, thr_s (List.mem_cons_of_mem _ List.mem_cons_self) xi_4.2 rfl (by decide)⟩
    · rw [if_neg c2, if_neg c2]
      refine ⟨fun _ => ⟨rfl, by rw [(h.1.1.2.1 t ht).1], h.upd (by omega) (rel_bay h.1 ht ?_)⟩, thr_n⟩
      split
      · exact Or.inl rfl
      · exact Or.inr rfl
theorem an_run {P : PD} {T : TD} {X : TS} (h : RelC P T X.d) (x0 : Int32) : (runX T P x0 = none → rnE X.d x0 = 0 ∧ tIns T - tIns (ticksF T P x0.toNatClampNeg).1 = insR X.d (pCar P) - insR (tksF (pN P) (pCar P) (pCodes P) (pNc P) X x0.toNatClampNeg).d (pCar P) ∧ RelC P (ticksF T P x0.toNatClampNeg).1 (tksF (pN P) (pCar P) (pCodes P) (pNc P) X x0.toNatClampNeg).d ∧ PE P (ticksF T P x0.toNatClampNeg).2) ∧ Thr [IAE, ISE] (runX T P x0) (rnE X.d x0) := by
  have e0 : X.d 0 = nI (pN P) := h.1.1.1.1
  have e3 : X.d 3 = tClock T := h.1.2.2.2.2.2.2.1
  rw [runX, rnE, e0, ← e3]
  by_cases c : x0 < 1 ∨ 100 < x0
  · have hb : ¬ inB x0 1 100 = true := fun h9 => by
      rcases c with c | c
      · rw [inB_f1 c] at h9; exact absurd h9 Bool.false_ne_true
      · rw [inB_f2 c] at h9; exact absurd h9 Bool.false_ne_true
    rw [if_pos c, if_neg hb]
    exact ⟨fun h9 => absurd h9 nofun, thr_s List.mem_cons_self xi_5.1 rfl (by decide)⟩
  · have hb : inB x0 1 100 = true := inB_t (fun h9 => c (Or.inl h9)) (fun h9 => c (Or.inr h9))
    rw [if_neg c, if_pos hb]
    by_cases c1 : nI (pN P) = 0
    · rw [if_pos c1, if_pos c1]
      exact ⟨fun h9 => absurd h9 nofun, thr_s (List.mem_cons_of_mem _ List.mem_cons_self) xi_5.2 rfl (by decide)⟩
    · rw [if_neg c1, if_neg c1]
      by_cases c2 : 10000 < X.d 3 + x0
      · rw [if_pos c2, if_pos c2]
        exact ⟨fun h9 => absurd h9 nofun, thr_s (List.mem_cons_of_mem _ List.mem_cons_self) xi_5.2 rfl (by decide)⟩
      · rw [if_neg c2, if_neg c2]
        refine ⟨fun _ => ?_, thr_n⟩
        obtain ⟨k, hk, rfl⟩ := nI_of2 (M := 100) (n := 100) (by decide) (fun h9 => c (Or.inl (Int32.lt_trans h9 (by decide)))) (Int32.not_lt.mp (fun h9 => c (Or.inr h9)))
        rw [nI_clamp (by omega)]
        have hc0 : 0 ≤ (X.d 3).toInt := h.1.2.2.2.2.2.2.2.1
        have hk2 : (nI k).toInt = (k : Int) := nI_toInt (by omega)
        have hle : (X.d 3).toInt + (k : Int) ≤ 10000 := by
          have h8 := Int32.le_iff_toInt_le.mp (Int32.not_lt.mp c2)
          rw [i32_add (by rw [hk2]; have := h.2; omega) (by rw [hk2]; have := h.2; omega), hk2] at h8
          have e10 : (10000 : Int32).toInt = 10000 := by decide
          omega
        obtain ⟨r1, r2, r3⟩ := ticks_rel h.1 k (by omega)
        exact ⟨rfl, by rw [h.1.1.2.2.2.2, r1.1.2.2.2.2], ⟨r1, by rw [r3]; exact hle⟩, r2⟩

