def ouW (g : Gl) (o : Nat) (f : Nat → Int64) : va_W := [(o, .inl (g.2.1 1, 1, .inr (.inl f)))]
def vI (v : Value) : Int64 := match v with
  | .int x => x.toInt64
  | .long x => x
  | _ => 0
def vZ (v : Value) : Int64 := match v with
  | .int x => if x = 0 then 0 else 1
  | _ => 0
/-- a helper's end: the answer laid in the array, or the exception's number -/
def HQ (g : Gl) (o : Nat) (f : Nat → Int64) (u : Value → Int64) (Ls : List String) (Q : QT) (X : XT) : QT := fun v w =>
  (∃ (y : Value) (w1 : va_W), Q (some y) w1 ∧ v = some (.int 0) ∧ w = ouW g o (vp_updL f 0 (u y)) ++ w1) ∨ (∃ (E : String) (w1 : va_W), X E w1 ∧ v = some (.int (nI (Ls.idxOf E + 1))) ∧ w = ouW g o f ++ w1)
theorem gp_app {α : Type} {k : Nat} {l r : List α} {x : α} (h : Gp k l x) : Gp k (l ++ r) x := by
  have h9 : l[k]? = some x := h
  show (l ++ r)[k]? = some x
  rw [List.getElem?_append_left (List.getElem?_eq_some_iff.mp h9).1]; exact h9
theorem ix0 : Ix 0 1 0 := by
  have h := ix_n (j := 0) (n := 1) (by decide) (by decide)
  exact h
set_option maxRecDepth 20000 in
set_option maxHeartbeats 2000000 in
theorem h_load (l : Launch) (g : Gl) (k o : Nat) (f : Nat → Int64) (p0 : Int32) {ws : va_W} {Q : QT} {X : XT} {fs : List Value} {fr lo mc ms : Nat} (gk : Gp 0 ws (k, .inr (6, fs))) (hct : Ct l g yX6_load cX6_load 3 (some .int) fr lo mc ms [.ref k, .int p0] ws Q X) (hQ : ∀ v w, Q v w → ∃ x : Int32, v = some (.int x)) (hE : ∀ E w, X E w → E = IAE) : CtH l g yL_load cL_load 4 (some .int) hhL_load (fr + 1) (lo + 60) mc ms [.ref k, .int p0, .ref o] (ws ++ ouW g o f) (HQ g o f vI [IAE] Q X) noX := by
  refine CtH.intro [some (.ref k), some (.int p0), some (.ref o), none] (by decide +kernel) (fun _ h => h) (Nat.le_of_ble_eq_true rfl) (fun A H0 K ok => ?_)
  refine A_aload_n ok.b rfl dL_load_0 (gps (gps gp0)) ?_
  refine A_iconst ok.b (v := 0) dL_load_1 (by decide) ?_
  refine A_aload_n ok.b rfl dL_load_2 gp0 ?_
  refine A_iload_n ok.b rfl dL_load_3 (gps gp0) ?_
  refine A_tryV ok (As := [_]) ws (ouW g o f) mf_X6_load ml_L_7 in_X6_load se_X6_load cf6 (gp_app gk) hct rfl rfl dL_load_4 (Nat.le_of_ble_eq_true rfl) ⟨Nat.le_refl _, (by show 8 + (3 + 11) + lo ≤ lo + 60; omega)⟩ ⟨(by show 0 + mc ≤ mc; omega), (by show 0 + ms ≤ ms; omega)⟩ (fun E w hx => ?_) (fun v w hq => ?_)
  · obtain rfl := hE E w hx
    refine ⟨[], ⟨0, 9, 12, 13⟩, [], rfl, fun z hz => absurd hz List.not_mem_nil, by decide, by decide, ⟨IAE, xl_13, List.mem_of_getElem? (i := 1) rfl⟩, fun q9 => ?_⟩
    refine A_astore_n ok.b rfl dL_load_12 (by decide) (sts (sts (sts1 rfl st0))) ?_
    refine A_iconst ok.b (v := 1) dL_load_13 (by decide) ?_
    refine A_iretH ok dL_load_14 (by show 0 + mc ≤ mc; omega) (by show 0 + ms ≤ ms; omega) ?_
    exact Or.inr ⟨IAE, w, hx, by rfl, rfl⟩
  · obtain ⟨x, rfl⟩ := hQ v w hq
    refine A_i2l ok.b dL_load_7 ?_
    refine A_last ok.b gp0 ix0 wp0 dL_load_8 ?_
    refine A_goto ok.b (tgt := 15) dL_load_9 (by decide) ?_
    refine A_iconst ok.b (v := 0) dL_load_15 (by decide) ?_
    refine A_iretH ok dL_load_16 (by show 0 + mc ≤ mc; omega) (by show 0 + ms ≤ ms; omega) ?_
    exact Or.inl ⟨_, w, hq, rfl, rfl⟩
set_option maxRecDepth 20000 in
set_option maxHeartbeats 2000000 in
theorem h_smoke (l : Launch) (g : Gl) (k o : Nat) (f : Nat → Int64) (p0 : Int32) {ws : va_W} {Q : QT} {X : XT} {fs : List Value} {fr lo mc ms : Nat} (gk : Gp 0 ws (k, .inr (6, fs))) (hct : Ct l g yX6_smoke cX6_smoke 2 (some .int) fr lo mc ms [.ref k, .int p0] ws Q X) (hQ : ∀ v w, Q v w → ∃ x : Int32, v = some (.int x)) (hE : ∀ E w, X E w → E = IOE) : CtH l g yL_smoke cL_smoke 4 (some .int) hhL_smoke (fr + 1) (lo + 60) mc ms [.ref k, .int p0, .ref o] (ws ++ ouW g o f) (HQ g o f vI [IOE] Q X) noX := by
  refine CtH.intro [some (.ref k), some (.int p0), some (.ref o), none] (by decide +kernel) (fun _ h => h) (Nat.le_of_ble_eq_true rfl) (fun A H0 K ok => ?_)
  refine A_aload_n ok.b rfl dL_smoke_0 (gps (gps gp0)) ?_
  refine A_iconst ok.b (v := 0) dL_smoke_1 (by decide) ?_
  refine A_aload_n ok.b rfl dL_smoke_2 gp0 ?_
  refine A_iload_n ok.b rfl dL_smoke_3 (gps gp0) ?_
  refine A_tryV ok (As := [_]) ws (ouW g o f) mf_X6_smoke ml_L_15 in_X6_smoke se_X6_smoke cf6 (gp_app gk) hct rfl rfl dL_smoke_4 (Nat.le_of_ble_eq_true rfl) ⟨Nat.le_refl _, (by show 8 + (2 + 11) + lo ≤ lo + 60; omega)⟩ ⟨(by show 0 + mc ≤ mc; omega), (by show 0 + ms ≤ ms; omega)⟩ (fun E w hx => ?_) (fun v w hq => ?_)
  · obtain rfl := hE E w hx
    refine ⟨[], ⟨0, 9, 12, 18⟩, [], rfl, fun z hz => absurd hz List.not_mem_nil, by decide, by decide, ⟨IOE, xl_18, List.mem_of_getElem? (i := 0) rfl⟩, fun q9 => ?_⟩
    refine A_astore_n ok.b rfl dL_smoke_12 (by decide) (sts (sts (sts1 rfl st0))) ?_
    refine A_iconst ok.b (v := 1) dL_smoke_13 (by decide) ?_
    refine A_iretH ok dL_smoke_14 (by show 0 + mc ≤ mc; omega) (by show 0 + ms ≤ ms; omega) ?_
    exact Or.inr ⟨IOE, w, hx, by rfl, rfl⟩
  · obtain ⟨x, rfl⟩ := hQ v w hq
    refine A_i2l ok.b dL_smoke_7 ?_
    refine A_last ok.b gp0 ix0 wp0 dL_smoke_8 ?_
    refine A_goto ok.b (tgt := 15) dL_smoke_9 (by decide) ?_
    refine A_iconst ok.b (v := 0) dL_smoke_15 (by decide) ?_
    refine A_iretH ok dL_smoke_16 (by show 0 + mc ≤ mc; omega) (by show 0 + ms ≤ ms; omega) ?_
    exact Or.inl ⟨_, w, hq, rfl, rfl⟩
set_option maxRecDepth 20000 in
set_option maxHeartbeats 2000000 in
theorem h_total (l : Launch) (g : Gl) (k o : Nat) (f : Nat → Int64) (p0 : Int32) {ws : va_W} {Q : QT} {X : XT} {fs : List Value} {fr lo mc ms : Nat} (gk : Gp 0 ws (k, .inr (6, fs))) (hct : Ct l g yX6_total cX6_total 2 (some .long) fr lo mc ms [.ref k, .int p0] ws Q X) (hQ : ∀ v w, Q v w → ∃ x : Int64, v = some (.long x)) (hE : ∀ E w, X E w → E = IAE) : CtH l g yL_total cL_total 4 (some .int) hhL_total (fr + 1) (lo + 60) mc ms [.ref k, .int p0, .ref o] (ws ++ ouW g o f) (HQ g o f vI [IAE] Q X) noX := by
  refine CtH.intro [some (.ref k), some (.int p0), some (.ref o), none] (by decide +kernel) (fun _ h => h) (Nat.le_of_ble_eq_true rfl) (fun A H0 K ok => ?_)
  refine A_aload_n ok.b rfl dL_total_0 (gps (gps gp0)) ?_
  refine A_iconst ok.b (v := 0) dL_total_1 (by decide) ?_
  refine A_aload_n ok.b rfl dL_total_2 gp0 ?_
  refine A_iload_n ok.b rfl dL_total_3 (gps gp0) ?_
  refine A_tryV ok (As := [_]) ws (ouW g o f) mf_X6_total ml_L_20 in_X6_total se_X6_total cf6 (gp_app gk) hct rfl rfl dL_total_4 (Nat.le_of_ble_eq_true rfl) ⟨Nat.le_refl _, (by show 8 + (2 + 11) + lo ≤ lo + 60; omega)⟩ ⟨(by show 0 + mc ≤ mc; omega), (by show 0 + ms ≤ ms; omega)⟩ (fun E w hx => ?_) (fun v w hq => ?_)
  · obtain rfl := hE E w hx
    refine ⟨[], ⟨0, 8, 11, 13⟩, [], rfl, fun z hz => absurd hz List.not_mem_nil, by decide, by decide, ⟨IAE, xl_13, List.mem_of_getElem? (i := 1) rfl⟩, fun q9 => ?_⟩
    refine A_astore_n ok.b rfl dL_total_11 (by decide) (sts (sts (sts1 rfl st0))) ?_
    refine A_iconst ok.b (v := 1) dL_total_12 (by decide) ?_
    refine A_iretH ok dL_total_13 (by show 0 + mc ≤ mc; omega) (by show 0 + ms ≤ ms; omega) ?_
    exact Or.inr ⟨IAE, w, hx, by rfl, rfl⟩
  · obtain ⟨x, rfl⟩ := hQ v w hq
    refine A_last ok.b gp0 ix0 wp0 dL_total_7 ?_
    refine A_goto ok.b (tgt := 14) dL_total_8 (by decide) ?_
    refine A_iconst ok.b (v := 0) dL_total_14 (by decide) ?_
    refine A_iretH ok dL_total_15 (by show 0 + mc ≤ mc; omega) (by show 0 + ms ≤ ms; omega) ?_
    exact Or.inl ⟨_, w, hq, rfl, rfl⟩
set_option maxRecDepth 20000 in
set_option maxHeartbeats 2000000 in
theorem h_fan (l : Launch) (g : Gl) (k o : Nat) (f : Nat → Int64) (p0 : Int32) {ws : va_W} {Q : QT} {X : XT} {fs : List Value} {fr lo mc ms : Nat} (gk : Gp 0 ws (k, .inr (6, fs))) (hct : Ct l g yX6_fan cX6_fan 2 (some .int) fr lo mc ms [.ref k, .int p0] ws Q X) (hQ : ∀ v w, Q v w → ∃ x : Int32, v = some (.int x)) (hE : ∀ E w, X E w → E = IOE ∨ E = ISE) : CtH l g yL_fan cL_fan 4 (some .int) hhL_fan (fr + 1) (lo + 60) mc ms [.ref k, .int p0, .ref o] (ws ++ ouW g o f) (HQ g o f vI [IOE, ISE] Q X) noX := by
  refine CtH.intro [some (.ref k), some (.int p0), some (.ref o), none] (by decide +kernel) (fun _ h => h) (Nat.le_of_ble_eq_true rfl) (fun A H0 K ok => ?_)
  refine A_aload_n ok.b rfl dL_fan_0 (gps (gps gp0)) ?_
  refine A_iconst ok.b (v := 0) dL_fan_1 (by decide) ?_
  refine A_aload_n ok.b rfl dL_fan_2 gp0 ?_
  refine A_iload_n ok.b rfl dL_fan_3 (gps gp0) ?_
  refine A_tryV ok (As := [_]) ws (ouW g o f) mf_X6_fan ml_L_24 in_X6_fan se_X6_fan cf6 (gp_app gk) hct rfl rfl dL_fan_4 (Nat.le_of_ble_eq_true rfl) ⟨Nat.le_refl _, (by show 8 + (2 + 11) + lo ≤ lo + 60; omega)⟩ ⟨(by show 0 + mc ≤ mc; omega), (by show 0 + ms ≤ ms; omega)⟩ (fun E w hx => ?_) (fun v w hq => ?_)
  · rcases hE E w hx with rfl | rfl
    · refine ⟨[], ⟨0, 9, 12, 18⟩, [⟨0, 9, 15, 27⟩], rfl, fun z hz => absurd hz List.not_mem_nil, by decide, by decide, ⟨IOE, xl_18, List.mem_of_getElem? (i := 0) rfl⟩, fun q9 => ?_⟩
      refine A_astore_n ok.b rfl dL_fan_12 (by decide) (sts (sts (sts1 rfl st0))) ?_
      refine A_iconst ok.b (v := 1) dL_fan_13 (by decide) ?_
      refine A_iretH ok dL_fan_14 (by show 0 + mc ≤ mc; omega) (by show 0 + ms ≤ ms; omega) ?_
      exact Or.inr ⟨IOE, w, hx, by rfl, rfl⟩
    · refine ⟨[⟨0, 9, 12, 18⟩], ⟨0, 9, 15, 27⟩, [], rfl, fun z hz => ?_, by decide, by decide, ⟨ISE, xl_27, List.mem_of_getElem? (i := 2) rfl⟩, fun q9 => ?_⟩
      · rcases List.mem_cons.mp hz with rfl | hz
        · exact Or.inr ⟨by decide, IOE, xl_18, List.mem_of_getElem? (i := 0) rfl⟩
        · exact absurd hz List.not_mem_nil
      · refine A_astore_n ok.b rfl dL_fan_15 (by decide) (sts (sts (sts1 rfl st0))) ?_
        refine A_iconst ok.b (v := 2) dL_fan_16 (by decide) ?_
        refine A_iretH ok dL_fan_17 (by show 0 + mc ≤ mc; omega) (by show 0 + ms ≤ ms; omega) ?_
        exact Or.inr ⟨ISE, w, hx, by rfl, rfl⟩
  · obtain ⟨x, rfl⟩ := hQ v w hq
    refine A_i2l ok.b dL_fan_7 ?_
    refine A_last ok.b gp0 ix0 wp0 dL_fan_8 ?_
    refine A_goto ok.b (tgt := 18) dL_fan_9 (by decide) ?_
    refine A_iconst ok.b (v := 0) dL_fan_18 (by decide) ?_
    refine A_iretH ok dL_fan_19 (by show 0 + mc ≤ mc; omega) (by show 0 + ms ≤ ms; omega) ?_
    exact Or.inl ⟨_, w, hq, rfl, rfl⟩
set_option maxRecDepth 20000 in
set_option maxHeartbeats 2000000 in
theorem h_bay (l : Launch) (g : Gl) (k o : Nat) (f : Nat → Int64) (p0 : Int32) {ws : va_W} {Q : QT} {X : XT} {fs : List Value} {fr lo mc ms : Nat} (gk : Gp 0 ws (k, .inr (6, fs))) (hct : Ct l g yX6_bay cX6_bay 2 (some .int) fr lo mc ms [.ref k, .int p0] ws Q X) (hQ : ∀ v w, Q v w → ∃ x : Int32, v = some (.int x)) (hE : ∀ E w, X E w → E = IOE) : CtH l g yL_bay cL_bay 4 (some .int) hhL_bay (fr + 1) (lo + 60) mc ms [.ref k, .int p0, .ref o] (ws ++ ouW g o f) (HQ g o f vI [IOE] Q X) noX := by
  refine CtH.intro [some (.ref k), some (.int p0), some (.ref o), none] (by decide +kernel) (fun _ h => h) (Nat.le_of_ble_eq_true rfl) (fun A H0 K ok => ?_)
  refine A_aload_n ok.b rfl dL_bay_0 (gps (gps gp0)) ?_
  refine A_iconst ok.b (v := 0) dL_bay_1 (by decide) ?_
  refine A_aload_n ok.b rfl dL_bay_2 gp0 ?_
  refine A_iload_n ok.b rfl dL_bay_3 (gps gp0) ?_
  refine A_tryV ok (As := [_]) ws (ouW g o f) mf_X6_bay ml_L_29 in_X6_bay se_X6_bay cf6 (gp_app gk) hct rfl rfl dL_bay_4 (Nat.le_of_ble_eq_true rfl) ⟨Nat.le_refl _, (by show 8 + (2 + 11) + lo ≤ lo + 60; omega)⟩ ⟨(by show 0 + mc ≤ mc; omega), (by show 0 + ms ≤ ms; omega)⟩ (fun E w hx => ?_) (fun v w hq => ?_)
  · obtain rfl := hE E w hx
    refine ⟨[], ⟨0, 9, 12, 18⟩, [], rfl, fun z hz => absurd hz List.not_mem_nil, by decide, by decide, ⟨IOE, xl_18, List.mem_of_getElem? (i := 0) rfl⟩, fun q9 => ?_⟩
    refine A_astore_n ok.b rfl dL_bay_12 (by decide) (sts (sts (sts1 rfl st0))) ?_
    refine A_iconst ok.b (v := 1) dL_bay_13 (by decide) ?_
    refine A_iretH ok dL_bay_14 (by show 0 + mc ≤ mc; omega) (by show 0 + ms ≤ ms; omega) ?_
    exact Or.inr ⟨IOE, w, hx, by rfl, rfl⟩
  · obtain ⟨x, rfl⟩ := hQ v w hq
    refine A_i2l ok.b dL_bay_7 ?_
    refine A_last ok.b gp0 ix0 wp0 dL_bay_8 ?_
    refine A_goto ok.b (tgt := 15) dL_bay_9 (by decide) ?_
    refine A_iconst ok.b (v := 0) dL_bay_15 (by decide) ?_
    refine A_iretH ok dL_bay_16 (by show 0 + mc ≤ mc; omega) (by show 0 + ms ≤ ms; omega) ?_
    exact Or.inl ⟨_, w, hq, rfl, rfl⟩
set_option maxRecDepth 20000 in
set_option maxHeartbeats 2000000 in
theorem h_isRed (l : Launch) (g : Gl) (k o : Nat) (f : Nat → Int64) (p0 p1 : Int32) {ws : va_W} {Q : QT} {X : XT} {fs : List Value} {fr lo mc ms : Nat} (gk : Gp 0 ws (k, .inr (6, fs))) (hct : Ct l g yX6_isRed cX6_isRed 3 (some .boolean) fr lo mc ms [.ref k, .int p0, .int p1] ws Q X) (hQ : ∀ v w, Q v w → ∃ x : Int32, v = some (.int x)) (hE : ∀ E w, X E w → E = IOE ∨ E = IAE) : CtH l g yL_isRed cL_isRed 5 (some .int) hhL_isRed (fr + 1) (lo + 60) mc ms [.ref k, .int p0, .int p1, .ref o] (ws ++ ouW g o f) (HQ g o f vZ [IOE, IAE] Q X) noX := by
  refine CtH.intro [some (.ref k), some (.int p0), some (.int p1), some (.ref o), none] (by decide +kernel) (fun _ h => h) (Nat.le_of_ble_eq_true rfl) (fun A H0 K ok => ?_)
  refine A_aload_n ok.b rfl dL_isRed_0 (gps (gps (gps gp0))) ?_
  refine A_iconst ok.b (v := 0) dL_isRed_1 (by decide) ?_
  refine A_aload_n ok.b rfl dL_isRed_2 gp0 ?_
  refine A_iload_n ok.b rfl dL_isRed_3 (gps gp0) ?_
  refine A_iload_n ok.b rfl dL_isRed_4 (gps (gps gp0)) ?_
  refine A_tryV ok (As := [_, _]) ws (ouW g o f) mf_X6_isRed ml_L_32 in_X6_isRed se_X6_isRed cf6 (gp_app gk) hct rfl rfl dL_isRed_5 (Nat.le_of_ble_eq_true rfl) ⟨Nat.le_refl _, (by show 8 + (3 + 11) + lo ≤ lo + 60; omega)⟩ ⟨(by show 0 + mc ≤ mc; omega), (by show 0 + ms ≤ ms; omega)⟩ (fun E w hx => ?_) (fun v w hq => ?_)
  · rcases hE E w hx with rfl | rfl
    · refine ⟨[], ⟨0, 17, 20, 18⟩, [⟨0, 17, 24, 13⟩], rfl, fun z hz => absurd hz List.not_mem_nil, by decide, by decide, ⟨IOE, xl_18, List.mem_of_getElem? (i := 0) rfl⟩, fun q9 => ?_⟩
      refine A_astore ok.b dL_isRed_20 (by decide) (sts (sts (sts (sts1 rfl st0)))) ?_
      refine A_iconst ok.b (v := 1) dL_isRed_22 (by decide) ?_
      refine A_iretH ok dL_isRed_23 (by show 0 + mc ≤ mc; omega) (by show 0 + ms ≤ ms; omega) ?_
      exact Or.inr ⟨IOE, w, hx, by rfl, rfl⟩
    · refine ⟨[⟨0, 17, 20, 18⟩], ⟨0, 17, 24, 13⟩, [], rfl, fun z hz => ?_, by decide, by decide, ⟨IAE, xl_13, List.mem_of_getElem? (i := 1) rfl⟩, fun q9 => ?_⟩
      · rcases List.mem_cons.mp hz with rfl | hz
        · exact Or.inr ⟨by decide, IOE, xl_18, List.mem_of_getElem? (i := 1) rfl⟩
        · exact absurd hz List.not_mem_nil
      · refine A_astore ok.b dL_isRed_24 (by decide) (sts (sts (sts (sts1 rfl st0)))) ?_
        refine A_iconst ok.b (v := 2) dL_isRed_26 (by decide) ?_
        refine A_iretH ok dL_isRed_27 (by show 0 + mc ≤ mc; omega) (by show 0 + ms ≤ ms; omega) ?_
        exact Or.inr ⟨IAE, w, hx, by rfl, rfl⟩
  · obtain ⟨x, rfl⟩ := hQ v w hq
    refine A_if_eq ok.b (tgt := 15) dL_isRed_8 (by decide) (fun c => ?_) (fun c => ?_)
    · refine A_lconst ok.b (v := 0) dL_isRed_15 (by decide) ?_
      refine A_last ok.b gp0 ix0 wp0 dL_isRed_16 ?_
      refine A_goto ok.b (tgt := 28) dL_isRed_17 (by decide) ?_
      refine A_iconst ok.b (v := 0) dL_isRed_28 (by decide) ?_
      refine A_iretH ok dL_isRed_29 (by show 0 + mc ≤ mc; omega) (by show 0 + ms ≤ ms; omega) ?_
      exact Or.inl ⟨_, w, hq, rfl, by rw [vZ, if_pos c]; rfl⟩
    · refine A_lconst ok.b (v := 1) dL_isRed_11 (by decide) ?_
      refine A_goto ok.b (tgt := 16) dL_isRed_12 (by decide) ?_
      refine A_last ok.b gp0 ix0 wp0 dL_isRed_16 ?_
      refine A_goto ok.b (tgt := 28) dL_isRed_17 (by decide) ?_
      refine A_iconst ok.b (v := 0) dL_isRed_28 (by decide) ?_
      refine A_iretH ok dL_isRed_29 (by show 0 + mc ≤ mc; omega) (by show 0 + ms ≤ ms; omega) ?_
      exact Or.inl ⟨_, w, hq, rfl, by rw [vZ, if_neg c]; rfl⟩
set_option maxRecDepth 20000 in
set_option maxHeartbeats 2000000 in
theorem h_carSection (l : Launch) (g : Gl) (k o : Nat) (f : Nat → Int64) (p0 : Int32) {ws : va_W} {Q : QT} {X : XT} {fs : List Value} {fr lo mc ms : Nat} (gk : Gp 0 ws (k, .inr (6, fs))) (hct : Ct l g yX6_carSection cX6_carSection 2 (some .int) fr lo mc ms [.ref k, .int p0] ws Q X) (hQ : ∀ v w, Q v w → ∃ x : Int32, v = some (.int x)) (hE : ∀ E w, X E w → E = IOE) : CtH l g yL_carSection cL_carSection 4 (some .int) hhL_carSection (fr + 1) (lo + 60) mc ms [.ref k, .int p0, .ref o] (ws ++ ouW g o f) (HQ g o f vI [IOE] Q X) noX := by
  refine CtH.intro [some (.ref k), some (.int p0), some (.ref o), none] (by decide +kernel) (fun _ h => h) (Nat.le_of_ble_eq_true rfl) (fun A H0 K ok => ?_)
  refine A_aload_n ok.b rfl dL_carSection_0 (gps (gps gp0)) ?_
  refine A_iconst ok.b (v := 0) dL_carSection_1 (by decide) ?_
  refine A_aload_n ok.b rfl dL_carSection_2 gp0 ?_
  refine A_iload_n ok.b rfl dL_carSection_3 (gps gp0) ?_
  refine A_tryV ok (As := [_]) ws (ouW g o f) mf_X6_carSection ml_L_36 in_X6_carSection se_X6_carSection cf6 (gp_app gk) hct rfl rfl dL_carSection_4 (Nat.le_of_ble_eq_true rfl) ⟨Nat.le_refl _, (by show 8 + (2 + 11) + lo ≤ lo + 60; omega)⟩ ⟨(by show 0 + mc ≤ mc; omega), (by show 0 + ms ≤ ms; omega)⟩ (fun E w hx => ?_) (fun v w hq => ?_)
  · obtain rfl := hE E w hx
    refine ⟨[], ⟨0, 9, 12, 18⟩, [], rfl, fun z hz => absurd hz List.not_mem_nil, by decide, by decide, ⟨IOE, xl_18, List.mem_of_getElem? (i := 0) rfl⟩, fun q9 => ?_⟩
    refine A_astore_n ok.b rfl dL_carSection_12 (by decide) (sts (sts (sts1 rfl st0))) ?_
    refine A_iconst ok.b (v := 1) dL_carSection_13 (by decide) ?_
    refine A_iretH ok dL_carSection_14 (by show 0 + mc ≤ mc; omega) (by show 0 + ms ≤ ms; omega) ?_
    exact Or.inr ⟨IOE, w, hx, by rfl, rfl⟩
  · obtain ⟨x, rfl⟩ := hQ v w hq
    refine A_i2l ok.b dL_carSection_7 ?_
    refine A_last ok.b gp0 ix0 wp0 dL_carSection_8 ?_
    refine A_goto ok.b (tgt := 15) dL_carSection_9 (by decide) ?_
    refine A_iconst ok.b (v := 0) dL_carSection_15 (by decide) ?_
    refine A_iretH ok dL_carSection_16 (by show 0 + mc ≤ mc; omega) (by show 0 + ms ≤ ms; omega) ?_
    exact Or.inl ⟨_, w, hq, rfl, rfl⟩
set_option maxRecDepth 20000 in
set_option maxHeartbeats 2000000 in
theorem h_carDirection (l : Launch) (g : Gl) (k o : Nat) (f : Nat → Int64) (p0 : Int32) {ws : va_W} {Q : QT} {X : XT} {fs : List Value} {fr lo mc ms : Nat} (gk : Gp 0 ws (k, .inr (6, fs))) (hct : Ct l g yX6_carDirection cX6_carDirection 2 (some .int) fr lo mc ms [.ref k, .int p0] ws Q X) (hQ : ∀ v w, Q v w → ∃ x : Int32, v = some (.int x)) (hE : ∀ E w, X E w → E = IOE) : CtH l g yL_carDirection cL_carDirection 4 (some .int) hhL_carDirection (fr + 1) (lo + 60) mc ms [.ref k, .int p0, .ref o] (ws ++ ouW g o f) (HQ g o f vI [IOE] Q X) noX := by
  refine CtH.intro [some (.ref k), some (.int p0), some (.ref o), none] (by decide +kernel) (fun _ h => h) (Nat.le_of_ble_eq_true rfl) (fun A H0 K ok => ?_)
  refine A_aload_n ok.b rfl dL_carDirection_0 (gps (gps gp0)) ?_
  refine A_iconst ok.b (v := 0) dL_carDirection_1 (by decide) ?_
  refine A_aload_n ok.b rfl dL_carDirection_2 gp0 ?_
  refine A_iload_n ok.b rfl dL_carDirection_3 (gps gp0) ?_
  refine A_tryV ok (As := [_]) ws (ouW g o f) mf_X6_carDirection ml_L_39 in_X6_carDirection se_X6_carDirection cf6 (gp_app gk) hct rfl rfl dL_carDirection_4 (Nat.le_of_ble_eq_true rfl) ⟨Nat.le_refl _, (by show 8 + (2 + 11) + lo ≤ lo + 60; omega)⟩ ⟨(by show 0 + mc ≤ mc; omega), (by show 0 + ms ≤ ms; omega)⟩ (fun E w hx => ?_) (fun v w hq => ?_)
  · obtain rfl := hE E w hx
    refine ⟨[], ⟨0, 9, 12, 18⟩, [], rfl, fun z hz => absurd hz List.not_mem_nil, by decide, by decide, ⟨IOE, xl_18, List.mem_of_getElem? (i := 0) rfl⟩, fun q9 => ?_⟩
    refine A_astore_n ok.b rfl dL_carDirection_12 (by decide) (sts (sts (sts1 rfl st0))) ?_
    refine A_iconst ok.b (v := 1) dL_carDirection_13 (by decide) ?_
    refine A_iretH ok dL_carDirection_14 (by show 0 + mc ≤ mc; omega) (by show 0 + ms ≤ ms; omega) ?_
    exact Or.inr ⟨IOE, w, hx, by rfl, rfl⟩
  · obtain ⟨x, rfl⟩ := hQ v w hq
    refine A_i2l ok.b dL_carDirection_7 ?_
    refine A_last ok.b gp0 ix0 wp0 dL_carDirection_8 ?_
    refine A_goto ok.b (tgt := 15) dL_carDirection_9 (by decide) ?_
    refine A_iconst ok.b (v := 0) dL_carDirection_15 (by decide) ?_
    refine A_iretH ok dL_carDirection_16 (by show 0 + mc ≤ mc; omega) (by show 0 + ms ≤ ms; omega) ?_
    exact Or.inl ⟨_, w, hq, rfl, rfl⟩
set_option maxRecDepth 20000 in
set_option maxHeartbeats 2000000 in
theorem h_exposure (l : Launch) (g : Gl) (k o : Nat) (f : Nat → Int64) (p0 : Int32) {ws : va_W} {Q : QT} {X : XT} {fs : List Value} {fr lo mc ms : Nat} (gk : Gp 0 ws (k, .inr (6, fs))) (hct : Ct l g yX6_exposure cX6_exposure 2 (some .long) fr lo mc ms [.ref k, .int p0] ws Q X) (hQ : ∀ v w, Q v w → ∃ x : Int64, v = some (.long x)) (hE : ∀ E w, X E w → E = IOE) : CtH l g yL_exposure cL_exposure 4 (some .int) hhL_exposure (fr + 1) (lo + 60) mc ms [.ref k, .int p0, .ref o] (ws ++ ouW g o f) (HQ g o f vI [IOE] Q X) noX := by
  refine CtH.intro [some (.ref k), some (.int p0), some (.ref o), none] (by decide +kernel) (fun _ h => h) (Nat.le_of_ble_eq_true rfl) (fun A H0 K ok => ?_)
  refine A_aload_n ok.b rfl dL_exposure_0 (gps (gps gp0)) ?_
  refine A_iconst ok.b (v := 0) dL_exposure_1 (by decide) ?_
  refine A_aload_n ok.b rfl dL_exposure_2 gp0 ?_
  refine A_iload_n ok.b rfl dL_exposure_3 (gps gp0) ?_
  refine A_tryV ok (As := [_]) ws (ouW g o f) mf_X6_exposure ml_L_42 in_X6_exposure se_X6_exposure cf6 (gp_app gk) hct rfl rfl dL_exposure_4 (Nat.le_of_ble_eq_true rfl) ⟨Nat.le_refl _, (by show 8 + (2 + 11) + lo ≤ lo + 60; omega)⟩ ⟨(by show 0 + mc ≤ mc; omega), (by show 0 + ms ≤ ms; omega)⟩ (fun E w hx => ?_) (fun v w hq => ?_)
  · obtain rfl := hE E w hx
    refine ⟨[], ⟨0, 8, 11, 18⟩, [], rfl, fun z hz => absurd hz List.not_mem_nil, by decide, by decide, ⟨IOE, xl_18, List.mem_of_getElem? (i := 0) rfl⟩, fun q9 => ?_⟩
    refine A_astore_n ok.b rfl dL_exposure_11 (by decide) (sts (sts (sts1 rfl st0))) ?_
    refine A_iconst ok.b (v := 1) dL_exposure_12 (by decide) ?_
    refine A_iretH ok dL_exposure_13 (by show 0 + mc ≤ mc; omega) (by show 0 + ms ≤ ms; omega) ?_
    exact Or.inr ⟨IOE, w, hx, by rfl, rfl⟩
  · obtain ⟨x, rfl⟩ := hQ v w hq
    refine A_last ok.b gp0 ix0 wp0 dL_exposure_7 ?_
    refine A_goto ok.b (tgt := 14) dL_exposure_8 (by decide) ?_
    refine A_iconst ok.b (v := 0) dL_exposure_14 (by decide) ?_
    refine A_iretH ok dL_exposure_15 (by show 0 + mc ≤ mc; omega) (by show 0 + ms ≤ ms; omega) ?_
    exact Or.inl ⟨_, w, hq, rfl, rfl⟩
set_option maxRecDepth 20000 in
set_option maxHeartbeats 2000000 in
theorem h_carsIn (l : Launch) (g : Gl) (k o : Nat) (f : Nat → Int64) (p0 p1 : Int32) {ws : va_W} {Q : QT} {X : XT} {fs : List Value} {fr lo mc ms : Nat} (gk : Gp 0 ws (k, .inr (6, fs))) (hct : Ct l g yX6_carsIn cX6_carsIn 3 (some .int) fr lo mc ms [.ref k, .int p0, .int p1] ws Q X) (hQ : ∀ v w, Q v w → ∃ x : Int32, v = some (.int x)) (hE : ∀ E w, X E w → E = IOE ∨ E = IAE) : CtH l g yL_carsIn cL_carsIn 5 (some .int) hhL_carsIn (fr + 1) (lo + 60) mc ms [.ref k, .int p0, .int p1, .ref o] (ws ++ ouW g o f) (HQ g o f vI [IOE, IAE] Q X) noX := by
  refine CtH.intro [some (.ref k), some (.int p0), some (.int p1), some (.ref o), none] (by decide +kernel) (fun _ h => h) (Nat.le_of_ble_eq_true rfl) (fun A H0 K ok => ?_)
  refine A_aload_n ok.b rfl dL_carsIn_0 (gps (gps (gps gp0))) ?_
  refine A_iconst ok.b (v := 0) dL_carsIn_1 (by decide) ?_
  refine A_aload_n ok.b rfl dL_carsIn_2 gp0 ?_
  refine A_iload_n ok.b rfl dL_carsIn_3 (gps gp0) ?_
  refine A_iload_n ok.b rfl dL_carsIn_4 (gps (gps gp0)) ?_
  refine A_tryV ok (As := [_, _]) ws (ouW g o f) mf_X6_carsIn ml_L_45 in_X6_carsIn se_X6_carsIn cf6 (gp_app gk) hct rfl rfl dL_carsIn_5 (Nat.le_of_ble_eq_true rfl) ⟨Nat.le_refl _, (by show 8 + (3 + 11) + lo ≤ lo + 60; omega)⟩ ⟨(by show 0 + mc ≤ mc; omega), (by show 0 + ms ≤ ms; omega)⟩ (fun E w hx => ?_) (fun v w hq => ?_)
  · rcases hE E w hx with rfl | rfl
    · refine ⟨[], ⟨0, 10, 13, 18⟩, [⟨0, 10, 17, 13⟩], rfl, fun z hz => absurd hz List.not_mem_nil, by decide, by decide, ⟨IOE, xl_18, List.mem_of_getElem? (i := 0) rfl⟩, fun q9 => ?_⟩
      refine A_astore ok.b dL_carsIn_13 (by decide) (sts (sts (sts (sts1 rfl st0)))) ?_
      refine A_iconst ok.b (v := 1) dL_carsIn_15 (by decide) ?_
      refine A_iretH ok dL_carsIn_16 (by show 0 + mc ≤ mc; omega) (by show 0 + ms ≤ ms; omega) ?_
      exact Or.inr ⟨IOE, w, hx, by rfl, rfl⟩
    · refine ⟨[⟨0, 10, 13, 18⟩], ⟨0, 10, 17, 13⟩, [], rfl, fun z hz => ?_, by decide, by decide, ⟨IAE, xl_13, List.mem_of_getElem? (i := 1) rfl⟩, fun q9 => ?_⟩
      · rcases List.mem_cons.mp hz with rfl | hz
        · exact Or.inr ⟨by decide, IOE, xl_18, List.mem_of_getElem? (i := 1) rfl⟩
        · exact absurd hz List.not_mem_nil
      · refine A_astore ok.b dL_carsIn_17 (by decide) (sts (sts (sts (sts1 rfl st0)))) ?_
        refine A_iconst ok.b (v := 2) dL_carsIn_19 (by decide) ?_
        refine A_iretH ok dL_carsIn_20 (by show 0 + mc ≤ mc; omega) (by show 0 + ms ≤ ms; omega) ?_
        exact Or.inr ⟨IAE, w, hx, by rfl, rfl⟩
  · obtain ⟨x, rfl⟩ := hQ v w hq
    refine A_i2l ok.b dL_carsIn_8 ?_
    refine A_last ok.b gp0 ix0 wp0 dL_carsIn_9 ?_
    refine A_goto ok.b (tgt := 21) dL_carsIn_10 (by decide) ?_
    refine A_iconst ok.b (v := 0) dL_carsIn_21 (by decide) ?_
    refine A_iretH ok dL_carsIn_22 (by show 0 + mc ≤ mc; omega) (by show 0 + ms ≤ ms; omega) ?_
    exact Or.inl ⟨_, w, hq, rfl, rfl⟩
set_option maxRecDepth 20000 in
set_option maxHeartbeats 2000000 in
theorem h_clearingTime (l : Launch) (g : Gl) (k o : Nat) (f : Nat → Int64) (p0 : Int32) {ws : va_W} {Q : QT} {X : XT} {fs : List Value} {fr lo mc ms : Nat} (gk : Gp 0 ws (k, .inr (6, fs))) (hct : Ct l g yX6_clearingTime cX6_clearingTime 2 (some .int) fr lo mc ms [.ref k, .int p0] ws Q X) (hQ : ∀ v w, Q v w → ∃ x : Int32, v = some (.int x)) (hE : ∀ E w, X E w → E = IAE) : CtH l g yL_clearingTime cL_clearingTime 4 (some .int) hhL_clearingTime (fr + 1) (lo + 60) mc ms [.ref k, .int p0, .ref o] (ws ++ ouW g o f) (HQ g o f vI [IAE] Q X) noX := by
  refine CtH.intro [some (.ref k), some (.int p0), some (.ref o), none] (by decide +kernel) (fun _ h => h) (Nat.le_of_ble_eq_true rfl) (fun A H0 K ok => ?_)
  refine A_aload_n ok.b rfl dL_clearingTime_0 (gps (gps gp0)) ?_
  refine A_iconst ok.b (v := 0) dL_clearingTime_1 (by decide) ?_
  refine A_aload_n ok.b rfl dL_clearingTime_2 gp0 ?_
  refine A_iload_n ok.b rfl dL_clearingTime_3 (gps gp0) ?_
  refine A_tryV ok (As := [_]) ws (ouW g o f) mf_X6_clearingTime ml_L_49 in_X6_clearingTime se_X6_clearingTime cf6 (gp_app gk) hct rfl rfl dL_clearingTime_4 (Nat.le_of_ble_eq_true rfl) ⟨Nat.le_refl _, (by show 8 + (2 + 11) + lo ≤ lo + 60; omega)⟩ ⟨(by show 0 + mc ≤ mc; omega), (by show 0 + ms ≤ ms; omega)⟩ (fun E w hx => ?_) (fun v w hq => ?_)
  · obtain rfl := hE E w hx
    refine ⟨[], ⟨0, 9, 12, 13⟩, [], rfl, fun z hz => absurd hz List.not_mem_nil, by decide, by decide, ⟨IAE, xl_13, List.mem_of_getElem? (i := 1) rfl⟩, fun q9 => ?_⟩
    refine A_astore_n ok.b rfl dL_clearingTime_12 (by decide) (sts (sts (sts1 rfl st0))) ?_
    refine A_iconst ok.b (v := 1) dL_clearingTime_13 (by decide) ?_
    refine A_iretH ok dL_clearingTime_14 (by show 0 + mc ≤ mc; omega) (by show 0 + ms ≤ ms; omega) ?_
    exact Or.inr ⟨IAE, w, hx, by rfl, rfl⟩
  · obtain ⟨x, rfl⟩ := hQ v w hq
    refine A_i2l ok.b dL_clearingTime_7 ?_
    refine A_last ok.b gp0 ix0 wp0 dL_clearingTime_8 ?_
    refine A_goto ok.b (tgt := 15) dL_clearingTime_9 (by decide) ?_
    refine A_iconst ok.b (v := 0) dL_clearingTime_15 (by decide) ?_
    refine A_iretH ok dL_clearingTime_16 (by show 0 + mc ≤ mc; omega) (by show 0 + ms ≤ ms; omega) ?_
    exact Or.inl ⟨_, w, hq, rfl, rfl⟩
set_option maxRecDepth 20000 in
set_option maxHeartbeats 2000000 in
theorem h_exposureWith (l : Launch) (g : Gl) (k o : Nat) (f : Nat → Int64) (p0 p1 : Int32) {ws : va_W} {Q : QT} {X : XT} {fs : List Value} {fr lo mc ms : Nat} (gk : Gp 0 ws (k, .inr (6, fs))) (hct : Ct l g yX6_exposureWith cX6_exposureWith 3 (some .long) fr lo mc ms [.ref k, .int p0, .int p1] ws Q X) (hQ : ∀ v w, Q v w → ∃ x : Int64, v = some (.long x)) (hE : ∀ E w, X E w → E = IAE) : CtH l g yL_exposureWith cL_exposureWith 5 (some .int) hhL_exposureWith (fr + 1) (lo + 60) mc ms [.ref k, .int p0, .int p1, .ref o] (ws ++ ouW g o f) (HQ g o f vI [IAE] Q X) noX := by
  refine CtH.intro [some (.ref k), some (.int p0), some (.int p1), some (.ref o), none] (by decide +kernel) (fun _ h => h) (Nat.le_of_ble_eq_true rfl) (fun A H0 K ok => ?_)
  refine A_aload_n ok.b rfl dL_exposureWith_0 (gps (gps (gps gp0))) ?_
  refine A_iconst ok.b (v := 0) dL_exposureWith_1 (by decide) ?_
  refine A_aload_n ok.b rfl dL_exposureWith_2 gp0 ?_
  refine A_iload_n ok.b rfl dL_exposureWith_3 (gps gp0) ?_
  refine A_iload_n ok.b rfl dL_exposureWith_4 (gps (gps gp0)) ?_
  refine A_tryV ok (As := [_, _]) ws (ouW g o f) mf_X6_exposureWith ml_L_52 in_X6_exposureWith se_X6_exposureWith cf6 (gp_app gk) hct rfl rfl dL_exposureWith_5 (Nat.le_of_ble_eq_true rfl) ⟨Nat.le_refl _, (by show 8 + (3 + 11) + lo ≤ lo + 60; omega)⟩ ⟨(by show 0 + mc ≤ mc; omega), (by show 0 + ms ≤ ms; omega)⟩ (fun E w hx => ?_) (fun v w hq => ?_)
  · obtain rfl := hE E w hx
    refine ⟨[], ⟨0, 9, 12, 13⟩, [], rfl, fun z hz => absurd hz List.not_mem_nil, by decide, by decide, ⟨IAE, xl_13, List.mem_of_getElem? (i := 1) rfl⟩, fun q9 => ?_⟩
    refine A_astore ok.b dL_exposureWith_12 (by decide) (sts (sts (sts (sts1 rfl st0)))) ?_
    refine A_iconst ok.b (v := 1) dL_exposureWith_14 (by decide) ?_
    refine A_iretH ok dL_exposureWith_15 (by show 0 + mc ≤ mc; omega) (by show 0 + ms ≤ ms; omega) ?_
    exact Or.inr ⟨IAE, w, hx, by rfl, rfl⟩
  · obtain ⟨x, rfl⟩ := hQ v w hq
    refine A_last ok.b gp0 ix0 wp0 dL_exposureWith_8 ?_
    refine A_goto ok.b (tgt := 16) dL_exposureWith_9 (by decide) ?_
    refine A_iconst ok.b (v := 0) dL_exposureWith_16 (by decide) ?_
    refine A_iretH ok dL_exposureWith_17 (by show 0 + mc ≤ mc; omega) (by show 0 + ms ≤ ms; omega) ?_
    exact Or.inl ⟨_, w, hq, rfl, rfl⟩
set_option maxRecDepth 20000 in
set_option maxHeartbeats 2000000 in
theorem h_bestSetting (l : Launch) (g : Gl) (k o : Nat) (f : Nat → Int64) (p0 : Int32) {ws : va_W} {Q : QT} {X : XT} {fs : List Value} {fr lo mc ms : Nat} (gk : Gp 0 ws (k, .inr (6, fs))) (hct : Ct l g yX6_bestSetting cX6_bestSetting 10 (some .int) fr lo mc ms [.ref k, .int p0] ws Q X) (hQ : ∀ v w, Q v w → ∃ x : Int32, v = some (.int x)) (hE : ∀ E w, X E w → E = IAE) : CtH l g yL_bestSetting cL_bestSetting 4 (some .int) hhL_bestSetting (fr + 1) (lo + 60) mc ms [.ref k, .int p0, .ref o] (ws ++ ouW g o f) (HQ g o f vI [IAE] Q X) noX := by
  refine CtH.intro [some (.ref k), some (.int p0), some (.ref o), none] (by decide +kernel) (fun _ h => h) (Nat.le_of_ble_eq_true rfl) (fun A H0 K ok => ?_)
  refine A_aload_n ok.b rfl dL_bestSetting_0 (gps (gps gp0)) ?_
  refine A_iconst ok.b (v := 0) dL_bestSetting_1 (by decide) ?_
  refine A_aload_n ok.b rfl dL_bestSetting_2 gp0 ?_
  refine A_iload_n ok.b rfl dL_bestSetting_3 (gps gp0) ?_
  refine A_tryV ok (As := [_]) ws (ouW g o f) mf_X6_bestSetting ml_L_56 in_X6_bestSetting se_X6_bestSetting cf6 (gp_app gk) hct rfl rfl dL_bestSetting_4 (Nat.le_of_ble_eq_true rfl) ⟨Nat.le_refl _, (by show 8 + (10 + 11) + lo ≤ lo + 60; omega)⟩ ⟨(by show 0 + mc ≤ mc; omega), (by show 0 + ms ≤ ms; omega)⟩ (fun E w hx => ?_) (fun v w hq => ?_)
  · obtain rfl := hE E w hx
    refine ⟨[], ⟨0, 9, 12, 13⟩, [], rfl, fun z hz => absurd hz List.not_mem_nil, by decide, by decide, ⟨IAE, xl_13, List.mem_of_getElem? (i := 1) rfl⟩, fun q9 => ?_⟩
    refine A_astore_n ok.b rfl dL_bestSetting_12 (by decide) (sts (sts (sts1 rfl st0))) ?_
    refine A_iconst ok.b (v := 1) dL_bestSetting_13 (by decide) ?_
    refine A_iretH ok dL_bestSetting_14 (by show 0 + mc ≤ mc; omega) (by show 0 + ms ≤ ms; omega) ?_
    exact Or.inr ⟨IAE, w, hx, by rfl, rfl⟩
  · obtain ⟨x, rfl⟩ := hQ v w hq
    refine A_i2l ok.b dL_bestSetting_7 ?_
    refine A_last ok.b gp0 ix0 wp0 dL_bestSetting_8 ?_
    refine A_goto ok.b (tgt := 15) dL_bestSetting_9 (by decide) ?_
    refine A_iconst ok.b (v := 0) dL_bestSetting_15 (by decide) ?_
    refine A_iretH ok dL_bestSetting_16 (by show 0 + mc ≤ mc; omega) (by show 0 + ms ≤ ms; omega) ?_
    exact Or.inl ⟨_, w, hq, rfl, rfl⟩
set_option maxRecDepth 20000 in
set_option maxHeartbeats 2000000 in
theorem h_run (l : Launch) (g : Gl) (k o : Nat) (f : Nat → Int64) (p0 : Int32) {ws : va_W} {Q : QT} {X : XT} {fs : List Value} {fr lo mc ms : Nat} (gk : Gp 0 ws (k, .inr (6, fs))) (hct : Ct l g yX6_run cX6_run 4 (some .int) fr lo mc ms [.ref k, .int p0] ws Q X) (hQ : ∀ v w, Q v w → ∃ x : Int32, v = some (.int x)) (hE : ∀ E w, X E w → E = IAE ∨ E = ISE) : CtH l g yL_run cL_run 4 (some .int) hhL_run (fr + 1) (lo + 60) mc ms [.ref k, .int p0, .ref o] (ws ++ ouW g o f) (HQ g o f vI [IAE, ISE] Q X) noX := by
  refine CtH.intro [some (.ref k), some (.int p0), some (.ref o), none] (by decide +kernel) (fun _ h => h) (Nat.le_of_ble_eq_true rfl) (fun A H0 K ok => ?_)
  refine A_aload_n ok.b rfl dL_run_0 (gps (gps gp0)) ?_
  refine A_iconst ok.b (v := 0) dL_run_1 (by decide) ?_
  refine A_aload_n ok.b rfl dL_run_2 gp0 ?_
  refine A_iload_n ok.b rfl dL_run_3 (gps gp0) ?_
  refine A_tryV ok (As := [_]) ws (ouW g o f) mf_X6_run ml_L_59 in_X6_run se_X6_run cf6 (gp_app gk) hct rfl rfl dL_run_4 (Nat.le_of_ble_eq_true rfl) ⟨Nat.le_refl _, (by show 8 + (4 + 11) + lo ≤ lo + 60; omega)⟩ ⟨(by show 0 + mc ≤ mc; omega), (by show 0 + ms ≤ ms; omega)⟩ (fun E w hx => ?_) (fun v w hq => ?_)
  · rcases hE E w hx with rfl | rfl
    · refine ⟨[], ⟨0, 9, 12, 13⟩, [⟨0, 9, 15, 27⟩], rfl, fun z hz => absurd hz List.not_mem_nil, by decide, by decide, ⟨IAE, xl_13, List.mem_of_getElem? (i := 1) rfl⟩, fun q9 => ?_⟩
      refine A_astore_n ok.b rfl dL_run_12 (by decide) (sts (sts (sts1 rfl st0))) ?_
      refine A_iconst ok.b (v := 1) dL_run_13 (by decide) ?_
      refine A_iretH ok dL_run_14 (by show 0 + mc ≤ mc; omega) (by show 0 + ms ≤ ms; omega) ?_
      exact Or.inr ⟨IAE, w, hx, by rfl, rfl⟩
    · refine ⟨[⟨0, 9, 12, 13⟩], ⟨0, 9, 15, 27⟩, [], rfl, fun z hz => ?_, by decide, by decide, ⟨ISE, xl_27, List.mem_of_getElem? (i := 2) rfl⟩, fun q9 => ?_⟩
      · rcases List.mem_cons.mp hz with rfl | hz
        · exact Or.inr ⟨by decide, IAE, xl_13, List.mem_of_getElem? (i := 2) rfl⟩
        · exact absurd hz List.not_mem_nil
      · refine A_astore_n ok.b rfl dL_run_15 (by decide) (sts (sts (sts1 rfl st0))) ?_
        refine A_iconst ok.b (v := 2) dL_run_16 (by decide) ?_
        refine A_iretH ok dL_run_17 (by show 0 + mc ≤ mc; omega) (by show 0 + ms ≤ ms; omega) ?_
        exact Or.inr ⟨ISE, w, hx, by rfl, rfl⟩
  · obtain ⟨x, rfl⟩ := hQ v w hq
    refine A_i2l ok.b dL_run_7 ?_
    refine A_last ok.b gp0 ix0 wp0 dL_run_8 ?_
    refine A_goto ok.b (tgt := 18) dL_run_9 (by decide) ?_
    refine A_iconst ok.b (v := 0) dL_run_18 (by decide) ?_
    refine A_iretH ok dL_run_19 (by show 0 + mc ≤ mc; omega) (by show 0 + ms ≤ ms; omega) ?_
    exact Or.inl ⟨_, w, hq, rfl, rfl⟩
set_option maxRecDepth 20000 in
set_option maxHeartbeats 2000000 in
theorem h_setFan (l : Launch) (g : Gl) (k o : Nat) (f : Nat → Int64) (p0 p1 : Int32) {ws : va_W} {Q : QT} {X : XT} {fs : List Value} {fr lo mc ms : Nat} (gk : Gp 0 ws (k, .inr (6, fs))) (hct : Ct l g yX6_setFan cX6_setFan 3 (some .int) fr lo mc ms [.ref k, .int p0, .int p1] ws Q X) (hQ : ∀ v w, Q v w → ∃ x : Int32, v = some (.int x)) (hE : ∀ E w, X E w → E = IOE ∨ E = IAE ∨ E = ISE) : CtH l g yL_setFan cL_setFan 5 (some .int) hhL_setFan (fr + 1) (lo + 60) mc ms [.ref k, .int p0, .int p1, .ref o] (ws ++ ouW g o f) (HQ g o f vI [IOE, IAE, ISE] Q X) noX := by
  refine CtH.intro [some (.ref k), some (.int p0), some (.int p1), some (.ref o), none] (by decide +kernel) (fun _ h => h) (Nat.le_of_ble_eq_true rfl) (fun A H0 K ok => ?_)
  refine A_aload_n ok.b rfl dL_setFan_0 (gps (gps (gps gp0))) ?_
  refine A_iconst ok.b (v := 0) dL_setFan_1 (by decide) ?_
  refine A_aload_n ok.b rfl dL_setFan_2 gp0 ?_
  refine A_iload_n ok.b rfl dL_setFan_3 (gps gp0) ?_
  refine A_iload_n ok.b rfl dL_setFan_4 (gps (gps gp0)) ?_
  refine A_tryV ok (As := [_, _]) ws (ouW g o f) mf_X6_setFan ml_L_62 in_X6_setFan se_X6_setFan cf6 (gp_app gk) hct rfl rfl dL_setFan_5 (Nat.le_of_ble_eq_true rfl) ⟨Nat.le_refl _, (by show 8 + (3 + 11) + lo ≤ lo + 60; omega)⟩ ⟨(by show 0 + mc ≤ mc; omega), (by show 0 + ms ≤ ms; omega)⟩ (fun E w hx => ?_) (fun v w hq => ?_)
  · rcases hE E w hx with rfl | rfl | rfl
    · refine ⟨[], ⟨0, 10, 13, 18⟩, [⟨0, 10, 17, 13⟩, ⟨0, 10, 21, 27⟩], rfl, fun z hz => absurd hz List.not_mem_nil, by decide, by decide, ⟨IOE, xl_18, List.mem_of_getElem? (i := 0) rfl⟩, fun q9 => ?_⟩
      refine A_astore ok.b dL_setFan_13 (by decide) (sts (sts (sts (sts1 rfl st0)))) ?_
      refine A_iconst ok.b (v := 1) dL_setFan_15 (by decide) ?_
      refine A_iretH ok dL_setFan_16 (by show 0 + mc ≤ mc; omega) (by show 0 + ms ≤ ms; omega) ?_
      exact Or.inr ⟨IOE, w, hx, by rfl, rfl⟩
    · refine ⟨[⟨0, 10, 13, 18⟩], ⟨0, 10, 17, 13⟩, [⟨0, 10, 21, 27⟩], rfl, fun z hz => ?_, by decide, by decide, ⟨IAE, xl_13, List.mem_of_getElem? (i := 1) rfl⟩, fun q9 => ?_⟩
      · rcases List.mem_cons.mp hz with rfl | hz
        · exact Or.inr ⟨by decide, IOE, xl_18, List.mem_of_getElem? (i := 1) rfl⟩
        · exact absurd hz List.not_mem_nil
      · refine A_astore ok.b dL_setFan_17 (by decide) (sts (sts (sts (sts1 rfl st0)))) ?_
        refine A_iconst ok.b (v := 2) dL_setFan_19 (by decide) ?_
        refine A_iretH ok dL_setFan_20 (by show 0 + mc ≤ mc; omega) (by show 0 + ms ≤ ms; omega) ?_
        exact Or.inr ⟨IAE, w, hx, by rfl, rfl⟩
    · refine ⟨[⟨0, 10, 13, 18⟩, ⟨0, 10, 17, 13⟩], ⟨0, 10, 21, 27⟩, [], rfl, fun z hz => ?_, by decide, by decide, ⟨ISE, xl_27, List.mem_of_getElem? (i := 2) rfl⟩, fun q9 => ?_⟩
      · rcases List.mem_cons.mp hz with rfl | hz
        · exact Or.inr ⟨by decide, IOE, xl_18, List.mem_of_getElem? (i := 0) rfl⟩
        · rcases List.mem_cons.mp hz with rfl | hz
          · exact Or.inr ⟨by decide, IAE, xl_13, List.mem_of_getElem? (i := 2) rfl⟩
          · exact absurd hz List.not_mem_nil
      · refine A_astore ok.b dL_setFan_21 (by decide) (sts (sts (sts (sts1 rfl st0)))) ?_
        refine A_iconst ok.b (v := 3) dL_setFan_23 (by decide) ?_
        refine A_iretH ok dL_setFan_24 (by show 0 + mc ≤ mc; omega) (by show 0 + ms ≤ ms; omega) ?_
        exact Or.inr ⟨ISE, w, hx, by rfl, rfl⟩
  · obtain ⟨x, rfl⟩ := hQ v w hq
    refine A_i2l ok.b dL_setFan_8 ?_
    refine A_last ok.b gp0 ix0 wp0 dL_setFan_9 ?_
    refine A_goto ok.b (tgt := 25) dL_setFan_10 (by decide) ?_
    refine A_iconst ok.b (v := 0) dL_setFan_25 (by decide) ?_
    refine A_iretH ok dL_setFan_26 (by show 0 + mc ≤ mc; omega) (by show 0 + ms ≤ ms; omega) ?_
    exact Or.inl ⟨_, w, hq, rfl, rfl⟩
set_option maxRecDepth 20000 in
set_option maxHeartbeats 2000000 in
theorem h_setFire (l : Launch) (g : Gl) (k o : Nat) (f : Nat → Int64) (p0 : Int32) {ws : va_W} {Q : QT} {X : XT} {fs : List Value} {fr lo mc ms : Nat} (gk : Gp 0 ws (k, .inr (6, fs))) (hct : Ct l g yX6_setFire cX6_setFire 3 (some .int) fr lo mc ms [.ref k, .int p0] ws Q X) (hQ : ∀ v w, Q v w → ∃ x : Int32, v = some (.int x)) (hE : ∀ E w, X E w → E = IOE) : CtH l g yL_setFire cL_setFire 4 (some .int) hhL_setFire (fr + 1) (lo + 60) mc ms [.ref k, .int p0, .ref o] (ws ++ ouW g o f) (HQ g o f vI [IOE] Q X) noX := by
  refine CtH.intro [some (.ref k), some (.int p0), some (.ref o), none] (by decide +kernel) (fun _ h => h) (Nat.le_of_ble_eq_true rfl) (fun A H0 K ok => ?_)
  refine A_aload_n ok.b rfl dL_setFire_0 (gps (gps gp0)) ?_
  refine A_iconst ok.b (v := 0) dL_setFire_1 (by decide) ?_
  refine A_aload_n ok.b rfl dL_setFire_2 gp0 ?_
  refine A_iload_n ok.b rfl dL_setFire_3 (gps gp0) ?_
  refine A_tryV ok (As := [_]) ws (ouW g o f) mf_X6_setFire ml_L_65 in_X6_setFire se_X6_setFire cf6 (gp_app gk) hct rfl rfl dL_setFire_4 (Nat.le_of_ble_eq_true rfl) ⟨Nat.le_refl _, (by show 8 + (3 + 11) + lo ≤ lo + 60; omega)⟩ ⟨(by show 0 + mc ≤ mc; omega), (by show 0 + ms ≤ ms; omega)⟩ (fun E w hx => ?_) (fun v w hq => ?_)
  · obtain rfl := hE E w hx
    refine ⟨[], ⟨0, 9, 12, 18⟩, [], rfl, fun z hz => absurd hz List.not_mem_nil, by decide, by decide, ⟨IOE, xl_18, List.mem_of_getElem? (i := 0) rfl⟩, fun q9 => ?_⟩
    refine A_astore_n ok.b rfl dL_setFire_12 (by decide) (sts (sts (sts1 rfl st0))) ?_
    refine A_iconst ok.b (v := 1) dL_setFire_13 (by decide) ?_
    refine A_iretH ok dL_setFire_14 (by show 0 + mc ≤ mc; omega) (by show 0 + ms ≤ ms; omega) ?_
    exact Or.inr ⟨IOE, w, hx, by rfl, rfl⟩
  · obtain ⟨x, rfl⟩ := hQ v w hq
    refine A_i2l ok.b dL_setFire_7 ?_
    refine A_last ok.b gp0 ix0 wp0 dL_setFire_8 ?_
    refine A_goto ok.b (tgt := 15) dL_setFire_9 (by decide) ?_
    refine A_iconst ok.b (v := 0) dL_setFire_15 (by decide) ?_
    refine A_iretH ok dL_setFire_16 (by show 0 + mc ≤ mc; omega) (by show 0 + ms ≤ ms; omega) ?_
    exact Or.inl ⟨_, w, hq, rfl, rfl⟩
set_option maxRecDepth 20000 in
set_option maxHeartbeats 2000000 in
theorem h_setSignal (l : Launch) (g : Gl) (k o : Nat) (f : Nat → Int64) (p0 p1 p2 : Int32) {ws : va_W} {Q : QT} {X : XT} {fs : List Value} {fr lo mc ms : Nat} (gk : Gp 0 ws (k, .inr (6, fs))) (hct : Ct l g yX6_setSignal cX6_setSignal 6 (some .boolean) fr lo mc ms [.ref k, .int p0, .int p1, .int p2] ws Q X) (hQ : ∀ v w, Q v w → ∃ x : Int32, v = some (.int x)) (hE : ∀ E w, X E w → E = IOE ∨ E = IAE) : CtH l g yL_setSignal cL_setSignal 6 (some .int) hhL_setSignal (fr + 1) (lo + 60) mc ms [.ref k, .int p0, .int p1, .int p2, .ref o] (ws ++ ouW g o f) (HQ g o f vZ [IOE, IAE] Q X) noX := by
  refine CtH.intro [some (.ref k), some (.int p0), some (.int p1), some (.int p2), some (.ref o), none] (by decide +kernel) (fun _ h => h) (Nat.le_of_ble_eq_true rfl) (fun A H0 K ok => ?_)
  refine A_aload ok.b dL_setSignal_0 (gps (gps (gps (gps gp0)))) ?_
  refine A_iconst ok.b (v := 0) dL_setSignal_2 (by decide) ?_
  refine A_aload_n ok.b rfl dL_setSignal_3 gp0 ?_
  refine A_iload_n ok.b rfl dL_setSignal_4 (gps gp0) ?_
  refine A_iload_n ok.b rfl dL_setSignal_5 (gps (gps gp0)) ?_
  refine A_iload_n ok.b rfl dL_setSignal_6 (gps (gps (gps gp0))) ?_
  refine A_tryV ok (As := [_, _, _]) ws (ouW g o f) mf_X6_setSignal ml_L_68 in_X6_setSignal se_X6_setSignal cf6 (gp_app gk) hct rfl rfl dL_setSignal_7 (Nat.le_of_ble_eq_true rfl) ⟨Nat.le_refl _, (by show 8 + (6 + 11) + lo ≤ lo + 60; omega)⟩ ⟨(by show 0 + mc ≤ mc; omega), (by show 0 + ms ≤ ms; omega)⟩ (fun E w hx => ?_) (fun v w hq => ?_)
  · rcases hE E w hx with rfl | rfl
    · refine ⟨[], ⟨0, 19, 22, 18⟩, [⟨0, 19, 26, 13⟩], rfl, fun z hz => absurd hz List.not_mem_nil, by decide, by decide, ⟨IOE, xl_18, List.mem_of_getElem? (i := 0) rfl⟩, fun q9 => ?_⟩
      refine A_astore ok.b dL_setSignal_22 (by decide) (sts (sts (sts (sts (sts1 rfl st0))))) ?_
      refine A_iconst ok.b (v := 1) dL_setSignal_24 (by decide) ?_
      refine A_iretH ok dL_setSignal_25 (by show 0 + mc ≤ mc; omega) (by show 0 + ms ≤ ms; omega) ?_
      exact Or.inr ⟨IOE, w, hx, by rfl, rfl⟩
    · refine ⟨[⟨0, 19, 22, 18⟩], ⟨0, 19, 26, 13⟩, [], rfl, fun z hz => ?_, by decide, by decide, ⟨IAE, xl_13, List.mem_of_getElem? (i := 1) rfl⟩, fun q9 => ?_⟩
      · rcases List.mem_cons.mp hz with rfl | hz
        · exact Or.inr ⟨by decide, IOE, xl_18, List.mem_of_getElem? (i := 1) rfl⟩
        · exact absurd hz List.not_mem_nil
      · refine A_astore ok.b dL_setSignal_26 (by decide) (sts (sts (sts (sts (sts1 rfl st0))))) ?_
        refine A_iconst ok.b (v := 2) dL_setSignal_28 (by decide) ?_
        refine A_iretH ok dL_setSignal_29 (by show 0 + mc ≤ mc; omega) (by show 0 + ms ≤ ms; omega) ?_
        exact Or.inr ⟨IAE, w, hx, by rfl, rfl⟩
  · obtain ⟨x, rfl⟩ := hQ v w hq
    refine A_if_eq ok.b (tgt := 17) dL_setSignal_10 (by decide) (fun c => ?_) (fun c => ?_)
    · refine A_lconst ok.b (v := 0) dL_setSignal_17 (by decide) ?_
      refine A_last ok.b gp0 ix0 wp0 dL_setSignal_18 ?_
      refine A_goto ok.b (tgt := 30) dL_setSignal_19 (by decide) ?_
      refine A_iconst ok.b (v := 0) dL_setSignal_30 (by decide) ?_
      refine A_iretH ok dL_setSignal_31 (by show 0 + mc ≤ mc; omega) (by show 0 + ms ≤ ms; omega) ?_
      exact Or.inl ⟨_, w, hq, rfl, by rw [vZ, if_pos c]; rfl⟩
    · refine A_lconst ok.b (v := 1) dL_setSignal_13 (by decide) ?_
      refine A_goto ok.b (tgt := 18) dL_setSignal_14 (by decide) ?_
      refine A_last ok.b gp0 ix0 wp0 dL_setSignal_18 ?_
      refine A_goto ok.b (tgt := 30) dL_setSignal_19 (by decide) ?_
      refine A_iconst ok.b (v := 0) dL_setSignal_30 (by decide) ?_
      refine A_iretH ok dL_setSignal_31 (by show 0 + mc ≤ mc; omega) (by show 0 + ms ≤ ms; omega) ?_
      exact Or.inl ⟨_, w, hq, rfl, by rw [vZ, if_neg c]; rfl⟩
set_option maxRecDepth 20000 in
set_option maxHeartbeats 2000000 in
theorem h_setBay (l : Launch) (g : Gl) (k o : Nat) (f : Nat → Int64) (p0 p1 : Int32) {ws : va_W} {Q : QT} {X : XT} {fs : List Value} {fr lo mc ms : Nat} (gk : Gp 0 ws (k, .inr (6, fs))) (hct : Ct l g yX6_setBay cX6_setBay 4 (some .boolean) fr lo mc ms [.ref k, .int p0, .int p1] ws Q X) (hQ : ∀ v w, Q v w → ∃ x : Int32, v = some (.int x)) (hE : ∀ E w, X E w → E = IOE ∨ E = ISE) : CtH l g yL_setBay cL_setBay 5 (some .int) hhL_setBay (fr + 1) (lo + 60) mc ms [.ref k, .int p0, .int p1, .ref o] (ws ++ ouW g o f) (HQ g o f vZ [IOE, ISE] Q X) noX := by
  refine CtH.intro [some (.ref k), some (.int p0), some (.int p1), some (.ref o), none] (by decide +kernel) (fun _ h => h) (Nat.le_of_ble_eq_true rfl) (fun A H0 K ok => ?_)
  refine A_aload_n ok.b rfl dL_setBay_0 (gps (gps (gps gp0))) ?_
  refine A_iconst ok.b (v := 0) dL_setBay_1 (by decide) ?_
  refine A_aload_n ok.b rfl dL_setBay_2 gp0 ?_
  refine A_iload_n ok.b rfl dL_setBay_3 (gps gp0) ?_
  refine A_iload_n ok.b rfl dL_setBay_4 (gps (gps gp0)) ?_
  refine A_tryV ok (As := [_, _]) ws (ouW g o f) mf_X6_setBay ml_L_72 in_X6_setBay se_X6_setBay cf6 (gp_app gk) hct rfl rfl dL_setBay_5 (Nat.le_of_ble_eq_true rfl) ⟨Nat.le_refl _, (by show 8 + (4 + 11) + lo ≤ lo + 60; omega)⟩ ⟨(by show 0 + mc ≤ mc; omega), (by show 0 + ms ≤ ms; omega)⟩ (fun E w hx => ?_) (fun v w hq => ?_)
  · rcases hE E w hx with rfl | rfl
    · refine ⟨[], ⟨0, 17, 20, 18⟩, [⟨0, 17, 24, 27⟩], rfl, fun z hz => absurd hz List.not_mem_nil, by decide, by decide, ⟨IOE, xl_18, List.mem_of_getElem? (i := 0) rfl⟩, fun q9 => ?_⟩
      refine A_astore ok.b dL_setBay_20 (by decide) (sts (sts (sts (sts1 rfl st0)))) ?_
      refine A_iconst ok.b (v := 1) dL_setBay_22 (by decide) ?_
      refine A_iretH ok dL_setBay_23 (by show 0 + mc ≤ mc; omega) (by show 0 + ms ≤ ms; omega) ?_
      exact Or.inr ⟨IOE, w, hx, by rfl, rfl⟩
    · refine ⟨[⟨0, 17, 20, 18⟩], ⟨0, 17, 24, 27⟩, [], rfl, fun z hz => ?_, by decide, by decide, ⟨ISE, xl_27, List.mem_of_getElem? (i := 2) rfl⟩, fun q9 => ?_⟩
      · rcases List.mem_cons.mp hz with rfl | hz
        · exact Or.inr ⟨by decide, IOE, xl_18, List.mem_of_getElem? (i := 0) rfl⟩
        · exact absurd hz List.not_mem_nil
      · refine A_astore ok.b dL_setBay_24 (by decide) (sts (sts (sts (sts1 rfl st0)))) ?_
        refine A_iconst ok.b (v := 2) dL_setBay_26 (by decide) ?_
        refine A_iretH ok dL_setBay_27 (by show 0 + mc ≤ mc; omega) (by show 0 + ms ≤ ms; omega) ?_
        exact Or.inr ⟨ISE, w, hx, by rfl, rfl⟩
  · obtain ⟨x, rfl⟩ := hQ v w hq
    refine A_if_eq ok.b (tgt := 15) dL_setBay_8 (by decide) (fun c => ?_) (fun c => ?_)
    · refine A_lconst ok.b (v := 0) dL_setBay_15 (by decide) ?_
      refine A_last ok.b gp0 ix0 wp0 dL_setBay_16 ?_
      refine A_goto ok.b (tgt := 28) dL_setBay_17 (by decide) ?_
      refine A_iconst ok.b (v := 0) dL_setBay_28 (by decide) ?_
      refine A_iretH ok dL_setBay_29 (by show 0 + mc ≤ mc; omega) (by show 0 + ms ≤ ms; omega) ?_
      exact Or.inl ⟨_, w, hq, rfl, by rw [vZ, if_pos c]; rfl⟩
    · refine A_lconst ok.b (v := 1) dL_setBay_11 (by decide) ?_
      refine A_goto ok.b (tgt := 16) dL_setBay_12 (by decide) ?_
      refine A_last ok.b gp0 ix0 wp0 dL_setBay_16 ?_
      refine A_goto ok.b (tgt := 28) dL_setBay_17 (by decide) ?_
      refine A_iconst ok.b (v := 0) dL_setBay_28 (by decide) ?_
      refine A_iretH ok dL_setBay_29 (by show 0 + mc ≤ mc; omega) (by show 0 + ms ≤ ms; omega) ?_
      exact Or.inl ⟨_, w, hq, rfl, by rw [vZ, if_neg c]; rfl⟩
