def RT (T : TD) : Prop := (∀ j, j < 24 → tRed T j = 0 ∨ tRed T j = 1) ∧ tClock T = 0
def RDK (f : RM) : Prop := ∀ s, RT s.T → RT (f s).2.T
theorem rt_of {s t : RS} (e : t.T = s.T) (h : RT s.T) : RT t.T := by rw [e]; exact h
theorem RDK_and {f k : RM} (hf : RDK f) (hk : RDK k) : RDK (andM f k) := by
  intro s hs
  by_cases h : (f s).1 = true
  · rw [andM_t h]; exact hk _ (hf s hs)
  · rw [andM_f h]; exact hf s hs
theorem T_adv {len : Nat} {B : Nat → Int32} {s : RS} : (advR len B s).T = s.T := rfl
theorem T_put {c : Int32} {s : RS} : (putC c s).T = s.T := by
  unfold putC
  split
  · rfl
  · rfl
theorem RT_adv {len : Nat} {B : Nat → Int32} {s : RS} (h : RT s.T) : RT (advR len B s).T := rt_of T_adv h
theorem RT_put {c : Int32} {s : RS} (h : RT s.T) : RT (putC c s).T := rt_of T_put h
theorem RT_fail {c : Int32} {s : RS} (h : RT s.T) : RT (failR c s).T := rt_of (s := s) rfl h
theorem RT_failN {c : Int32} {s : RS} (h : RT s.T) : RT (failN c s).T := rt_of (s := s) rfl h
theorem RDK_num {len : Nat} {B : Nat → Int32} (lo hi : Int32) : RDK (numR len B lo hi) := by
  intro s h
  unfold numR
  split
  · split
    · exact RT_fail h
    · exact RT_adv (s := (s.wnum s.tk.2.2.1).wnof (nI s.tk.2.1)) (rt_of (s := s) rfl h)
  · exact RT_fail h
theorem RDK_sgn {len : Nat} {B : Nat → Int32} (c : Int32) : RDK (sgnR len B c) := by
  intro s h
  unfold sgnR
  split
  · exact RT_adv h
  · exact RT_fail h
theorem RDK_sec {len : Nat} {B : Nat → Int32} : RDK (secR len B) := fun s h => RDK_num _ _ s h
theorem RDK_way {len : Nat} {B : Nat → Int32} : RDK (wayR len B) := by
  intro s h
  unfold wayR
  split
  · exact RT_adv (s := s.wway 1) (rt_of (s := s) rfl h)
  · split
    · exact RT_adv (s := s.wway (-1)) (rt_of (s := s) rfl h)
    · exact RT_fail h
theorem RDK_neg : RDK (fun s => (true, negR s)) := fun s h => rt_of (s := s) rfl h
theorem RDK_set {len : Nat} {B : Nat → Int32} (lm : Int32) : RDK (setR len B lm) := by
  intro s h
  unfold setR
  split
  · exact RDK_and (RDK_num 0 lm) RDK_neg (advR len B s) (RT_adv h)
  · exact RDK_num 0 lm s h
theorem RDK_bayK : RDK bayK := by
  intro s h
  unfold bayK
  split
  · exact ⟨fun j hj => h.1 j hj, h.2⟩
  · exact RT_failN h
theorem RDK_bay {len : Nat} {B : Nat → Int32} : RDK (bayR len B) := by
  intro s h
  unfold bayR
  split
  · exact RDK_and RDK_sec RDK_bayK (advR len B s) (RT_adv h)
  · exact RT_fail h
theorem RDK_ventK2 (n : Nat) : RDK (ventK2 n) := fun s h => rt_of (s := s) rfl h
theorem RDK_ventK {len : Nat} {B : Nat → Int32} : RDK (ventK len B) := by
  intro s h
  unfold ventK
  split
  · exact RDK_and (RDK_num 1 100) (RDK_ventK2 _) s h
  · exact RT_failN h
theorem RDK_vent {len : Nat} {B : Nat → Int32} : RDK (ventR len B) := fun s h => RDK_and RDK_sec RDK_ventK (advR len B s) (RT_adv h)
theorem RDK_fanK2 (n : Nat) : RDK (fanK2 n) := fun s h => ⟨fun j hj => h.1 j hj, h.2⟩
theorem RDK_fanK {len : Nat} {B : Nat → Int32} : RDK (fanK len B) := by
  intro s h
  unfold fanK
  split
  · exact RDK_and (RDK_set 10) (RDK_fanK2 _) s h
  · exact RT_failN h
theorem RDK_fan {len : Nat} {B : Nat → Int32} : RDK (fanR len B) := fun s h => RDK_and RDK_sec RDK_fanK (advR len B s) (RT_adv h)
theorem RDK_carK : RDK carK := by
  intro s h
  unfold carK
  split
  · exact RT_failN h
  · exact ⟨fun j hj => h.1 j hj, h.2⟩
theorem RDK_car {len : Nat} {B : Nat → Int32} : RDK (carR len B) := by
  intro s h
  unfold carR
  split
  · exact RDK_and RDK_sec (RDK_and RDK_way RDK_carK) (advR len B s) (RT_adv h)
  · exact RT_fail h
theorem RDK_fireK : RDK fireK := fun s h => ⟨fun j hj => h.1 j hj, h.2⟩
theorem RDK_fire {len : Nat} {B : Nat → Int32} : RDK (fireR len B) := by
  intro s h
  unfold fireR
  split
  · exact RDK_and RDK_sec RDK_fireK (advR len B (s.wfr 1)) (RT_adv (s := s.wfr 1) (rt_of (s := s) rfl h))
  · exact RT_fail h
theorem RDK_draftK : RDK draftK := fun s h => rt_of (s := s) rfl h
theorem RDK_draft {len : Nat} {B : Nat → Int32} : RDK (draftR len B) := by
  intro s h
  unfold draftR
  split
  · exact RDK_and (RDK_set 100) RDK_draftK (advR len B (s.wdr 1)) (RT_adv (s := s.wdr 1) (rt_of (s := s) rfl h))
  · exact RT_fail h
theorem RDK_redK2 : RDK redK2 := fun s h => by
  refine ⟨fun j hj => ?_, h.2⟩
  show upd (tRed s.T) (lx s.num s.way) 1 j = 0 ∨ upd (tRed s.T) (lx s.num s.way) 1 j = 1
  rw [upd_at]
  split
  · exact Or.inr rfl
  · exact h.1 j hj
theorem RDK_red {len : Nat} {B : Nat → Int32} : RDK (redR len B) := fun s h => RDK_and RDK_sec (RDK_and RDK_way RDK_redK2) (advR len B s) (RT_adv h)
theorem RDK_facT {len : Nat} {B : Nat → Int32} : RDK (facT len B) := by
  intro s h
  unfold facT
  split
  · split
    · exact RT_fail h
    · exact RT_adv (RT_put h)
  · split
    · exact RT_adv (RT_put h)
    · split
      · exact RT_adv (RT_put h)
      · split
        · exact RT_adv (RT_put h)
        · exact RT_fail h
theorem RDK_fac0 {len : Nat} {B : Nat → Int32} : RDK (fac0 len B) := by
  intro s h
  unfold fac0
  split
  · exact RT_fail h
  · exact RDK_facT s h
theorem RDK_facS {len : Nat} {B : Nat → Int32} {f : RM} (hf : RDK f) : RDK (facS len B f) := by
  intro s h
  unfold facS
  split
  · exact RDK_and hf (RDK_sgn 41) (advR len B s) (RT_adv h)
  · exact RDK_facT s h
theorem RDK_true : RDK (fun s => (true, s)) := fun _ h => h
theorem RDK_loop {len : Nat} {B : Nat → Int32} {c1 c2 o1 o2 : Int32} {f : RM} (hf : RDK f) (k : Nat) : RDK (loopR len B c1 c2 o1 o2 f k) := by
  induction k with
  | zero => exact RDK_true
  | succ k ih =>
    intro s h
    rw [loopR_s]
    split
    · refine RDK_and hf ?_ (advR len B s) (RT_adv h)
      intro s2 h2
      exact ih _ (RT_put h2)
    · exact h
theorem RDK_term {len : Nat} {B : Nat → Int32} {f : RM} (hf : RDK f) : RDK (termR len B f) := by
  unfold termR
  generalize 800 = k
  exact RDK_and hf (RDK_loop hf k)
theorem RDK_sum1 {len : Nat} {B : Nat → Int32} {f : RM} (hf : RDK f) : RDK (sum1R len B f) := by
  unfold sum1R
  generalize 800 = k
  exact RDK_and hf (RDK_loop hf k)
theorem RDK_sum {len : Nat} {B : Nat → Int32} (r : Nat) : RDK (sumR len B r) := by
  induction r with
  | zero =>
    unfold sumR
    exact RDK_sum1 (RDK_term RDK_fac0)
  | succ r ih =>
    unfold sumR
    exact RDK_sum1 (RDK_term (RDK_facS ih))
theorem RDK_beg {len : Nat} {B : Nat → Int32} : RDK (begR len B) := by
  intro s h
  unfold begR
  split
  · exact rt_of (s := advR len B (s.wrr 1)) rfl (RT_adv (s := s.wrr 1) (rt_of (s := s) rfl h))
  · exact RT_fail h
theorem RDK_end : RDK (fun s => (true, endR s)) := fun s h => rt_of (s := s) rfl h
theorem RDK_rate {len : Nat} {B : Nat → Int32} : RDK (rateR len B) := by
  unfold rateR
  generalize 4 = k
  exact RDK_and RDK_beg (RDK_and (RDK_sum k) RDK_end)
theorem RDK_stmt {len : Nat} {B : Nat → Int32} : RDK (stmtR len B) := by
  intro s h
  unfold stmtR
  split
  · exact RDK_bay s h
  split
  · exact RDK_vent s h
  split
  · exact RDK_fan s h
  split
  · exact RDK_car s h
  split
  · exact RDK_fire s h
  split
  · exact RDK_draft s h
  split
  · exact RDK_red s h
  split
  · exact RDK_rate s h
  exact RT_fail h
theorem RDK_stmts {len : Nat} {B : Nat → Int32} (k : Nat) : RDK (stmtsR len B k) := by
  induction k with
  | zero => exact RDK_true
  | succ k ih =>
    intro s h
    rw [stmtsR_s]
    split
    · exact h
    · exact RDK_and RDK_stmt (RDK_and (RDK_sgn 59) ih) s h
theorem RDK_tunK2 : RDK tunK2 := fun s h => rt_of (s := s) rfl h
theorem RDK_tunK {len : Nat} {B : Nat → Int32} : RDK (tunK len B) := fun s h => RDK_and (RDK_num 1 4) RDK_tunK2 (s.wP (sN s.P s.ix)) (rt_of (s := s) rfl h)
theorem RDK_tun {len : Nat} {B : Nat → Int32} : RDK (tunR len B) := by
  intro s h
  unfold tunR
  split
  · exact RDK_and (RDK_num 2 12) RDK_tunK (advR len B s) (RT_adv h)
  · exact RT_fail h
theorem RT_init {len : Nat} {B : Nat → Int32} {s : RS} : RT (initR len B s).T := by
  have e : (initR len B s).T = clr s.T := rfl
  rw [e]
  exact ⟨fun j _ => Or.inl rfl, rfl⟩
theorem text_red {len : Nat} {B : Nat → Int32} (s : RS) : RT (setupR len B s).2.T := by
  unfold setupR
  generalize 800 = k
  exact RDK_and RDK_tun (RDK_and (RDK_sgn 59) (RDK_stmts k)) _ RT_init
