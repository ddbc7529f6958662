/-- what the reader's methods change -/
abbrev RS : Type := Int32 × Int32 × Int32 × Int32 × Int32 × Int32 × Int32 × Int32 × Int32 × Nat × (Nat → Int32) × (Int32 × Nat × Int32 × Nat) × TD × PD
abbrev RS.ec (s : RS) : Int32 := s.1
abbrev RS.eo (s : RS) : Int32 := s.2.1
abbrev RS.num (s : RS) : Int32 := s.2.2.1
abbrev RS.nof (s : RS) : Int32 := s.2.2.2.1
abbrev RS.way (s : RS) : Int32 := s.2.2.2.2.1
abbrev RS.bays (s : RS) : Int32 := s.2.2.2.2.2.1
abbrev RS.fr (s : RS) : Int32 := s.2.2.2.2.2.2.1
abbrev RS.dr (s : RS) : Int32 := s.2.2.2.2.2.2.2.1
abbrev RS.rr (s : RS) : Int32 := s.2.2.2.2.2.2.2.2.1
abbrev RS.cc (s : RS) : Nat := s.2.2.2.2.2.2.2.2.2.1
abbrev RS.co (s : RS) : (Nat → Int32) := s.2.2.2.2.2.2.2.2.2.2.1
abbrev RS.tk (s : RS) : (Int32 × Nat × Int32 × Nat) := s.2.2.2.2.2.2.2.2.2.2.2.1
abbrev RS.T (s : RS) : TD := s.2.2.2.2.2.2.2.2.2.2.2.2.1
abbrev RS.P (s : RS) : PD := s.2.2.2.2.2.2.2.2.2.2.2.2.2
def RS.wec (s : RS) (x : Int32) : RS := (x, s.2)
def RS.weo (s : RS) (x : Int32) : RS := (s.ec, x, s.2.2)
def RS.wnum (s : RS) (x : Int32) : RS := (s.ec, s.eo, x, s.2.2.2)
def RS.wnof (s : RS) (x : Int32) : RS := (s.ec, s.eo, s.num, x, s.2.2.2.2)
def RS.wway (s : RS) (x : Int32) : RS := (s.ec, s.eo, s.num, s.nof, x, s.2.2.2.2.2)
def RS.wbays (s : RS) (x : Int32) : RS := (s.ec, s.eo, s.num, s.nof, s.way, x, s.2.2.2.2.2.2)
def RS.wfr (s : RS) (x : Int32) : RS := (s.ec, s.eo, s.num, s.nof, s.way, s.bays, x, s.2.2.2.2.2.2.2)
def RS.wdr (s : RS) (x : Int32) : RS := (s.ec, s.eo, s.num, s.nof, s.way, s.bays, s.fr, x, s.2.2.2.2.2.2.2.2)
def RS.wrr (s : RS) (x : Int32) : RS := (s.ec, s.eo, s.num, s.nof, s.way, s.bays, s.fr, s.dr, x, s.2.2.2.2.2.2.2.2.2)
def RS.wcc (s : RS) (x : Nat) : RS := (s.ec, s.eo, s.num, s.nof, s.way, s.bays, s.fr, s.dr, s.rr, x, s.2.2.2.2.2.2.2.2.2.2)
def RS.wco (s : RS) (x : (Nat → Int32)) : RS := (s.ec, s.eo, s.num, s.nof, s.way, s.bays, s.fr, s.dr, s.rr, s.cc, x, s.2.2.2.2.2.2.2.2.2.2.2)
def RS.wtk (s : RS) (x : (Int32 × Nat × Int32 × Nat)) : RS := (s.ec, s.eo, s.num, s.nof, s.way, s.bays, s.fr, s.dr, s.rr, s.cc, s.co, x, s.2.2.2.2.2.2.2.2.2.2.2.2)
def RS.wT (s : RS) (x : TD) : RS := (s.ec, s.eo, s.num, s.nof, s.way, s.bays, s.fr, s.dr, s.rr, s.cc, s.co, s.tk, x, s.2.2.2.2.2.2.2.2.2.2.2.2.2)
def RS.wP (s : RS) (x : PD) : RS := (s.ec, s.eo, s.num, s.nof, s.way, s.bays, s.fr, s.dr, s.rr, s.cc, s.co, s.tk, s.T, x)
def rdW (g : Gl) (r i a b : Nat → Nat) (size : Int32) (len : Nat) (B : Nat → Int32) (s : RS) : va_W := [
  (r 0, .inr (4, [.ref (i 0), .ref (a 0), .int s.ec, .int s.eo, .int s.num, .int s.nof, .int s.way, .int s.bays, .int s.fr, .int s.dr, .int s.rr, .int (nI s.cc), .ref (r 1)])),
  (i 0, .inr (1, [.int size, .int s.tk.1, .int (nI s.tk.2.1), .int s.tk.2.2.1, .int (nI s.tk.2.2.2), .int (nI len), .ref (i 1)])), (i 1, .inl (g.2.1 2, 800, .inl B)), (r 1, .inl (g.2.1 0, 800, .inl s.co)),
  (a 0, .inr (5, [.ref (b 0), .int (tClock s.T), .int (tFire s.T), .int (tIns s.T), .long (tLeft s.T), .long (tRem s.T), .ref (a 1), .ref (a 2), .ref (a 3), .ref (a 4), .ref (a 5), .ref (a 6), .ref (a 7), .ref (a 8)])),
  (a 1, .inl (g.2.1 1, 12, .inr (.inl (tSmoke s.T)))), (a 2, .inl (g.2.1 0, 12, .inl (tFan s.T))), (a 3, .inl (g.2.1 0, 12, .inl (tBay s.T))), (a 4, .inl (g.2.1 3, 24, .inl (tRed s.T))), (a 5, .inl (g.2.1 0, 24, .inl (tLane s.T))), (a 6, .inl (g.2.1 0, 20, .inl (tCs s.T))), (a 7, .inl (g.2.1 0, 20, .inl (tCd s.T))), (a 8, .inl (g.2.1 1, 20, .inr (.inl (tEx s.T)))),
  (b 0, .inr (2, [.int (nI (pN s.P)), .int (pCap s.P), .int (pDraft s.P), .int (nI (pCar s.P)), .ref (b 1), .ref (b 2), .ref (b 3)])), (b 1, .inl (g.2.1 0, 12, .inl (pVent s.P))), (b 2, .inl (g.2.1 3, 12, .inl (pHf s.P))), (b 3, .inr (3, [.ref (b 4), .ref (b 5)])), (b 4, .inl (g.2.1 0, pNc s.P, .inl (pCodes s.P))), (b 5, .inl (g.2.1 1, 11, .inr (.inl (pStk s.P))))]
/-- the reader's own cells -/
def rdR (g : Gl) (r i a : Nat → Nat) (s : RS) : va_W := [
  (r 0, .inr (4, [.ref (i 0), .ref (a 0), .int s.ec, .int s.eo, .int s.num, .int s.nof, .int s.way, .int s.bays, .int s.fr, .int s.dr, .int s.rr, .int (nI s.cc), .ref (r 1)])), (r 1, .inl (g.2.1 0, 800, .inl s.co))]
theorem rdW_perm (g : Gl) (r i a b : Nat → Nat) (size : Int32) (len : Nat) (B : Nat → Int32) (s : RS) : rdW g r i a b size len B s = ([(r 0, .inr (4, [.ref (i 0), .ref (a 0), .int s.ec, .int s.eo, .int s.num, .int s.nof, .int s.way, .int s.bays, .int s.fr, .int s.dr, .int s.rr, .int (nI s.cc), .ref (r 1)]))] : va_W) ++ tkW g (i 0) (i 1) size len B s.tk ++ [(r 1, .inl (g.2.1 0, 800, .inl s.co))] ++ tpW g a b s.T s.P := rfl
/-- the token's ends, and what the counts may be -/
abbrev RI (s : RS) : Prop := s.tk.2.1 ≤ s.tk.2.2.2 ∧ s.tk.2.2.2 ≤ 800 ∧ pN s.P ≤ 12 ∧ pCar s.P ≤ 20 ∧ s.cc ≤ 800
theorem RI.t1 {s : RS} (h : RI s) : s.tk.2.1 ≤ s.tk.2.2.2 := h.1
theorem RI.t2 {s : RS} (h : RI s) : s.tk.2.2.2 ≤ 800 := h.2.1
theorem RI.n {s : RS} (h : RI s) : pN s.P ≤ 12 := h.2.2.1
theorem RI.c {s : RS} (h : RI s) : pCar s.P ≤ 20 := h.2.2.2.1
theorem RI.k {s : RS} (h : RI s) : s.cc ≤ 800 := h.2.2.2.2
theorem tok_ok {B : Nat → Int32} {len p : Nat} {v : Int32} (hlen : len ≤ 800) (hp : p ≤ 800) : (tokF B len p v).2.1 ≤ (tokF B len p v).2.2.2 ∧ (tokF B len p v).2.2.2 ≤ 800 := by
  have hS8 : scanE fSp B len p ≤ 800 := by
    rcases Nat.le_total p len with h | h
    · have := scanE_le (f := fSp) (B := B) p h; omega
    · rw [scanE_f (fun h9 => absurd h9.1 (by omega))]; exact hp
  unfold tokF
  split
  · exact ⟨Nat.le_refl _, hS8⟩
  · rename_i h
    split
    · exact ⟨scanE_ge _, by have := scanE_le (f := fDig) (B := B) (len := len) (scanE fSp B len p) (by omega); show scanE fDig B len _ ≤ 800; omega⟩
    · split
      · exact ⟨scanE_ge _, by have := scanE_le (f := fLet) (B := B) (len := len) (scanE fSp B len p) (by omega); show scanE fLet B len _ ≤ 800; omega⟩
      · exact ⟨Nat.le_succ _, by show scanE fSp B len p + 1 ≤ 800; omega⟩
def advR (len : Nat) (B : Nat → Int32) (s : RS) : RS := (s.wtk (tokF B len s.tk.2.2.2 s.tk.2.2.1))
theorem RI_adv {len : Nat} {B : Nat → Int32} {s : RS} (hlen : len ≤ 800) (h : RI s) : RI (advR len B s) := ⟨(tok_ok hlen h.t2).1, (tok_ok hlen h.t2).2, h.n, h.c, h.k⟩
def failR (c : Int32) (s : RS) : RS := ((s.wec c).weo (nI s.tk.2.1))
def failN (c : Int32) (s : RS) : RS := ((s.wec c).weo s.nof)
def wdR (B : Nat → Int32) (s : RS) (j : Nat) : Bool := isW s.tk.1 s.tk.2.1 s.tk.2.2.2 B j
abbrev RM : Type := RS → Bool × RS
def andM (f k : RM) : RM := fun s => if (f s).1 = true then k (f s).2 else (false, (f s).2)
theorem andM_t {f k : RM} {s : RS} (h : (f s).1 = true) : andM f k s = k (f s).2 := by rw [andM, if_pos h]
theorem andM_f {f k : RM} {s : RS} (h : ¬ (f s).1 = true) : andM f k s = (false, (f s).2) := by rw [andM, if_neg h]
theorem bI_z01 (b : Bool) : bI b = 0 ∨ bI b = 1 := by cases b; exact Or.inl rfl; exact Or.inr rfl
theorem bI_n {b : Bool} (h : ¬ bI b = 0) : b = true := by cases b; exact absurd rfl h; rfl
theorem bI_z {b : Bool} (h : bI b = 0) : ¬ b = true := by cases b; exact Bool.false_ne_true; exact absurd h (by decide)
def RK (f : RM) : Prop := ∀ s, RI s → RI (f s).2
theorem RK_and {f k : RM} (hf : RK f) (hk : RK k) : RK (andM f k) := by
  intro s hs
  by_cases h : (f s).1 = true
  · rw [andM_t h]; exact hk _ (hf s hs)
  · rw [andM_f h]; exact hf s hs
def numR (len : Nat) (B : Nat → Int32) (lo hi : Int32) : RM := fun s => if s.tk.1 = 256 then (if s.tk.2.2.1 < lo ∨ hi < s.tk.2.2.1 then (false, failR (-3) s) else (true, advR len B ((s.wnum s.tk.2.2.1).wnof (nI s.tk.2.1)))) else (false, failR (-2) s)
theorem RI_fail {s : RS} (c : Int32) (h : RI s) : RI (failR c s) := ⟨h.t1, h.t2, h.n, h.c, h.k⟩
theorem RI_failN {s : RS} (c : Int32) (h : RI s) : RI (failN c s) := ⟨h.t1, h.t2, h.n, h.c, h.k⟩
theorem RK_num {len : Nat} {B : Nat → Int32} (hlen : len ≤ 800) (lo hi : Int32) : RK (numR len B lo hi) := by
  intro s h
  unfold numR
  split
  · split
    · exact RI_fail _ h
    · exact RI_adv hlen ⟨h.t1, h.t2, h.n, h.c, h.k⟩
  · exact RI_fail _ h
def sgnR (len : Nat) (B : Nat → Int32) (c : Int32) : RM := fun s => if s.tk.1 = c then (true, advR len B s) else (false, failR (-2) s)
theorem RK_sgn {len : Nat} {B : Nat → Int32} (hlen : len ≤ 800) (c : Int32) : RK (sgnR len B c) := by
  intro s h
  unfold sgnR
  split
  · exact RI_adv hlen h
  · exact RI_fail _ h
def secR (len : Nat) (B : Nat → Int32) : RM := fun s => numR len B 0 (nI (pN s.P) - 1) s
theorem RK_sec {len : Nat} {B : Nat → Int32} (hlen : len ≤ 800) : RK (secR len B) := fun s h => RK_num hlen _ _ s h
/-- a section that was read stands within the tunnel -/
theorem sec_inn {len : Nat} {B : Nat → Int32} {s : RS} (hn : pN s.P ≤ 12) (h : (secR len B s).1 = true) : Inn (secR len B s).2.num (pN (secR len B s).2.P) := by
  revert h
  unfold secR numR
  split
  · split
    · exact fun h => absurd h Bool.false_ne_true
    · rename_i h2
      intro _
      rw [not_or] at h2
      refine inn_of (by show pN s.P < _; omega) h2.1 ?_
      intro h3
      refine h2.2 (Int32.lt_iff_toInt_lt.mpr ?_)
      have h4 := Int32.le_iff_toInt_le.mp h3
      have e1 : (nI (pN s.P)).toInt = (pN s.P : Int) := nI_toInt (by omega)
      have e2 : (nI (pN s.P) - 1).toInt = (pN s.P : Int) - 1 := by
        rw [Int32.toInt_sub, e1]
        show ((pN s.P : Int) - 1).bmod _ = _
        rw [Int.bmod_eq_of_le (by omega) (by omega)]
      show (nI (pN s.P) - 1).toInt < s.tk.2.2.1.toInt
      have h5 : (nI (pN s.P)).toInt ≤ s.tk.2.2.1.toInt := h4
      omega
  · exact fun h => absurd h Bool.false_ne_true
def wayR (len : Nat) (B : Nat → Int32) : RM := fun s => if wdR B s 12 = true then (true, advR len B (s.wway 1)) else if wdR B s 13 = true then (true, advR len B (s.wway (-1))) else (false, failR (-2) s)
theorem RK_way {len : Nat} {B : Nat → Int32} (hlen : len ≤ 800) : RK (wayR len B) := by
  intro s h
  unfold wayR
  split
  · exact RI_adv hlen ⟨h.t1, h.t2, h.n, h.c, h.k⟩
  · split
    · exact RI_adv hlen ⟨h.t1, h.t2, h.n, h.c, h.k⟩
    · exact RI_fail _ h
theorem way_keep {len : Nat} {B : Nat → Int32} {s : RS} : (wayR len B s).2.num = s.num ∧ (wayR len B s).2.P = s.P := by
  unfold wayR
  split
  · exact ⟨rfl, rfl⟩
  · split
    · exact ⟨rfl, rfl⟩
    · exact ⟨rfl, rfl⟩
def negR (s : RS) : RS := (s.wnum (-s.num))
def setR (len : Nat) (B : Nat → Int32) (lm : Int32) : RM := fun s => if s.tk.1 = 45 then andM (numR len B 0 lm) (fun s => (true, negR s)) (advR len B s) else numR len B 0 lm s
theorem RK_neg : RK (fun s => (true, negR s)) := fun s h => (⟨h.t1, h.t2, h.n, h.c, h.k⟩ : RI (negR s))
theorem RK_set {len : Nat} {B : Nat → Int32} (hlen : len ≤ 800) (lm : Int32) : RK (setR len B lm) := by
  intro s h
  unfold setR
  split
  · exact RK_and (RK_num hlen 0 lm) RK_neg _ (RI_adv hlen h)
  · exact RK_num hlen 0 lm s h
def putC (c : Int32) (s : RS) : RS := if s.cc < 800 then ((s.wco (upd s.co s.cc c)).wcc (s.cc + 1)) else s
theorem RI_put {s : RS} (c : Int32) (h : RI s) : RI (putC c s) := by
  unfold putC
  split
  · exact ⟨h.t1, h.t2, h.n, h.c, by show s.cc + 1 ≤ 800; omega⟩
  · exact h

section AWRD
variable {l : Launch} {g : Gl} {nm : String} {cc : ByteArray} {nL : Nat} {ret : Option FieldType} {R : Room} {A : Nat → Prop} {H0 : Heap} {K : KT} {pc : Nat} {lv : List (Option Value)} {st : List Value} {cn sn : Nat}
theorem A_adv (ok : OkB l g RX4 nm cc nL ret R A H0 K) {r i a b : Nat → Nat} {size : Int32} {len : Nat} {B : Nat → Int32} (s : RS) (hlen : len ≤ 800) (hI : RI s) (d : decode cc pc = .ok (.invokevirtual 81, 3)) (hst : (st.map fun v => v.category).sum ≤ 8) (hfr : 1 ≤ R.frames ∧ 8 + (1 + 11) + 0 ≤ R.locals) (hmk : cn ≤ R.cells ∧ sn ≤ R.slots)
    (k : AW g A H0 nL K (pc + 3) lv st (rdW g r i a b size len B (advR len B s)) cn sn) : AW g A H0 nL K pc lv (.ref (i 0) :: st) (rdW g r i a b size len B s) cn sn := by
  refine A_callVB ok [1, 2] [0, 3, 4, 5, 6, 7, 8, 9, 10, 11, 12, 13, 14, 15, 16, 17, 18] (As := []) (wr := rdR g r i a s ++ tpW g a b s.T s.P) mf_X1_advance ml_X4_81 in_X1_advance se_X1_advance cf1 (q9 := 1) (gps gp0) (c_advance l g (i 0) (i 1) size s.tk.1 (nI s.tk.2.1) s.tk.2.2.1 B len s.tk.2.2.2 hlen hI.t2) rfl rfl rfl d rfl rfl rfl (by decide) hst hfr hmk (fun _ _ hx => hx.elim) (fun v w q => ?_)
  obtain ⟨rfl, rfl⟩ := q
  exact A_sub [0, 17, 18, 1, 2, 3, 4, 5, 6, 7, 8, 9, 10, 11, 12, 13, 14, 15, 16] (ws2 := rdW g r i a b size len B (advR len B s)) rfl rfl k
theorem A_word (ok : OkB l g RX4 nm cc nL ret R A H0 K) {r i a b : Nat → Nat} {size : Int32} {len : Nat} {B : Nat → Int32} (s : RS) {j : Nat} (hj : j < 14) (hI : RI s) (d : decode cc pc = .ok (.invokevirtual 70, 3)) (hst : (st.map fun v => v.category).sum ≤ 8) (hfr : 5 ≤ R.frames ∧ 8 + (3 + 11) + 160 ≤ R.locals) (hmk : cn ≤ R.cells ∧ sn ≤ R.slots)
    (k : AW g A H0 nL K (pc + 3) lv (.int (bI (wdR B s j)) :: st) (rdW g r i a b size len B s) cn sn) : AW g A H0 nL K pc lv (.ref (g.2.2.1 j) :: .ref (i 0) :: st) (rdW g r i a b size len B s) cn sn := by
  refine A_callVB ok [1, 2] [0, 3, 4, 5, 6, 7, 8, 9, 10, 11, 12, 13, 14, 15, 16, 17, 18] (As := [_]) (wr := rdR g r i a s ++ tpW g a b s.T s.P) mf_X1_isWord ml_X4_70 in_X1_isWord se_X1_isWord cf1 (q9 := 1) (gps gp0) (c_isWord l g (i 0) (i 1) size s.tk.1 s.tk.2.2.1 (nI len) s.tk.2.1 s.tk.2.2.2 hI.t1 hI.t2 B j hj) rfl rfl rfl d rfl rfl rfl (by decide) hst hfr hmk (fun _ _ hx => hx.elim) (fun v w q => ?_)
  obtain ⟨rfl, rfl⟩ := q
  exact A_sub [0, 17, 18, 1, 2, 3, 4, 5, 6, 7, 8, 9, 10, 11, 12, 13, 14, 15, 16] (ws2 := rdW g r i a b size len B s) rfl rfl k
end AWRD

set_option maxRecDepth 20000 in
set_option maxHeartbeats 2000000 in
theorem c_fail (l : Launch) (g : Gl) (r i a b : Nat → Nat) (size : Int32) (len : Nat) (B : Nat → Int32) (hlen : len ≤ 800) (s : RS) (hI : RI s) (c o : Int32) : Ct l g yX4_fail cX4_fail 3 (some .boolean) 0 0 0 0 [.ref (r 0), .int c, .int o] (rdW g r i a b size len B s) (fun v w => v = some (.int 0) ∧ w = rdW g r i a b size len B ((s.wec c).weo o)) noX := by
  refine Ct.intro [some (.ref (r 0)), some (.int c), some (.int o)] (by decide +kernel) (fun _ h => h) (Nat.le_of_ble_eq_true rfl) (fun A H0 K ok => ?_)
  refine A_aload_n ok.b rfl dX4_fail_0 gp0 ?_
  refine A_iload_n ok.b rfl dX4_fail_1 (gps gp0) ?_
  refine A_putf ok.b cf4 2 (by decide) rfl fl_X4_230 gp0 rfl rfl (gp_lt (gps (gps gp0))) (wps (wps wp0)) wp0 dX4_fail_2 ?_
  refine A_aload_n ok.b rfl dX4_fail_5 gp0 ?_
  refine A_iload_n ok.b rfl dX4_fail_6 (gps (gps gp0)) ?_
  refine A_putf ok.b cf4 3 (by decide) rfl fl_X4_233 gp0 rfl rfl (gp_lt (gps (gps (gps gp0)))) (wps (wps (wps wp0))) wp0 dX4_fail_7 ?_
  refine A_iconst ok.b (v := 0) dX4_fail_10 (by decide) ?_
  refine A_zret ok dX4_fail_11 (by decide) (Nat.le_of_ble_eq_true rfl) (Nat.le_of_ble_eq_true rfl) ?_
  exact ⟨rfl, rfl⟩
set_option maxRecDepth 20000 in
set_option maxHeartbeats 2000000 in
theorem c_readNumber (l : Launch) (g : Gl) (r i a b : Nat → Nat) (size : Int32) (len : Nat) (B : Nat → Int32) (hlen : len ≤ 800) (s : RS) (hI : RI s) (lo hi : Int32) : Ct l g yX4_readNumber cX4_readNumber 3 (some .boolean) 1 40 0 0 [.ref (r 0), .int lo, .int hi] (rdW g r i a b size len B s) (fun v w => v = some (.int (bI (numR len B lo hi s).1)) ∧ w = rdW g r i a b size len B (numR len B lo hi s).2) noX := by
  refine Ct.intro [some (.ref (r 0)), some (.int lo), some (.int hi)] (by decide +kernel) (fun _ h => h) (Nat.le_of_ble_eq_true rfl) (fun A H0 K ok => ?_)
  refine A_aload_n ok.b rfl dX4_readNumber_0 gp0 ?_
  refine A_getf ok.b cf4 0 (by decide) fl_X4_12 gp0 gp0 dX4_readNumber_1 ?_
  refine A_getf ok.b cf1 1 (by decide) fl_X4_63 (gps gp0) (gps gp0) dX4_readNumber_4 ?_
  refine A_sipush ok.b (v := 256) dX4_readNumber_7 (by decide) ?_
  refine A_icmp_eq ok.b (tgt := 27) dX4_readNumber_10 (by decide) (fun c10 => ?_) (fun c10 => ?_)
  · skip
    refine A_aload_n ok.b rfl dX4_readNumber_27 gp0 ?_
    refine A_getf ok.b cf4 0 (by decide) fl_X4_12 gp0 gp0 dX4_readNumber_28 ?_
    refine A_getf ok.b cf1 3 (by decide) fl_X4_218 (gps gp0) (gps (gps (gps gp0))) dX4_readNumber_31 ?_
    refine A_iload_n ok.b rfl dX4_readNumber_34 (gps gp0) ?_
    refine A_icmp_lt ok.b (tgt := 49) dX4_readNumber_35 (by decide) (fun c35 => ?_) (fun c35 => ?_)
    · skip
      refine A_aload_n ok.b rfl dX4_readNumber_49 gp0 ?_
      refine A_bipush ok.b (v := (-3)) dX4_readNumber_50 (by decide) ?_
      refine A_aload_n ok.b rfl dX4_readNumber_52 gp0 ?_
      refine A_getf ok.b cf4 0 (by decide) fl_X4_12 gp0 gp0 dX4_readNumber_53 ?_
      refine A_getf ok.b cf1 2 (by decide) fl_X4_74 (gps gp0) (gps (gps gp0)) dX4_readNumber_56 ?_
      refine A_sameVR ok (As := [_, _]) mf_X4_fail ml_X4_77 in_X4_fail se_X4_fail cf4 gp0 (c_fail l g r i a b size len B hlen (s) (hI) _ _) rfl rfl dX4_readNumber_59 (Nat.le_of_ble_eq_true rfl) ⟨(Nat.le_of_ble_eq_true rfl), (Nat.le_of_ble_eq_true rfl)⟩ ⟨(Nat.le_of_ble_eq_true rfl), (Nat.le_of_ble_eq_true rfl)⟩ (fun _ _ hx => hx.elim) (fun v59 w59 q59 => ?_)
      obtain ⟨rfl, rfl⟩ := q59
      refine A_zret ok dX4_readNumber_62 (by decide) (Nat.le_of_ble_eq_true rfl) (Nat.le_of_ble_eq_true rfl) ?_
      exact ⟨by rw [numR, if_pos c10, if_pos (Or.inl c35)]; rfl, by rw [numR, if_pos c10, if_pos (Or.inl c35)]; rfl⟩
    · skip
      refine A_aload_n ok.b rfl dX4_readNumber_38 gp0 ?_
      refine A_getf ok.b cf4 0 (by decide) fl_X4_12 gp0 gp0 dX4_readNumber_39 ?_
      refine A_getf ok.b cf1 3 (by decide) fl_X4_218 (gps gp0) (gps (gps (gps gp0))) dX4_readNumber_42 ?_
      refine A_iload_n ok.b rfl dX4_readNumber_45 (gps (gps gp0)) ?_
      refine A_icmp_le ok.b (tgt := 63) dX4_readNumber_46 (by decide) (fun c46 => ?_) (fun c46 => ?_)
      · skip
        refine A_aload_n ok.b rfl dX4_readNumber_63 gp0 ?_
        refine A_aload_n ok.b rfl dX4_readNumber_64 gp0 ?_
        refine A_getf ok.b cf4 0 (by decide) fl_X4_12 gp0 gp0 dX4_readNumber_65 ?_
        refine A_getf ok.b cf1 3 (by decide) fl_X4_218 (gps gp0) (gps (gps (gps gp0))) dX4_readNumber_68 ?_
        refine A_putf ok.b cf4 4 (by decide) rfl fl_X4_91 gp0 rfl rfl (gp_lt (gps (gps (gps (gps gp0))))) (wps (wps (wps (wps wp0)))) wp0 dX4_readNumber_71 ?_
        refine A_aload_n ok.b rfl dX4_readNumber_74 gp0 ?_
        refine A_aload_n ok.b rfl dX4_readNumber_75 gp0 ?_
        refine A_getf ok.b cf4 0 (by decide) fl_X4_12 gp0 gp0 dX4_readNumber_76 ?_
        refine A_getf ok.b cf1 2 (by decide) fl_X4_74 (gps gp0) (gps (gps gp0)) dX4_readNumber_79 ?_
        refine A_putf ok.b cf4 5 (by decide) rfl fl_X4_151 gp0 rfl rfl (gp_lt (gps (gps (gps (gps (gps gp0)))))) (wps (wps (wps (wps (wps wp0))))) wp0 dX4_readNumber_82 ?_
        refine A_aload_n ok.b rfl dX4_readNumber_85 gp0 ?_
        refine A_getf ok.b cf4 0 (by decide) fl_X4_12 gp0 gp0 dX4_readNumber_86 ?_
        refine A_adv ok.b (((s.wnum s.tk.2.2.1).wnof (nI s.tk.2.1))) hlen (⟨hI.t1, hI.t2, hI.n, hI.c, hI.k⟩) dX4_readNumber_89 (Nat.le_of_ble_eq_true rfl) ⟨(Nat.le_of_ble_eq_true rfl), (Nat.le_of_ble_eq_true rfl)⟩ ⟨(Nat.le_of_ble_eq_true rfl), (Nat.le_of_ble_eq_true rfl)⟩ ?_
        refine A_iconst ok.b (v := 1) dX4_readNumber_92 (by decide) ?_
        refine A_zret ok dX4_readNumber_93 (by decide) (Nat.le_of_ble_eq_true rfl) (Nat.le_of_ble_eq_true rfl) ?_
        have e9 : numR len B lo hi s = (true, advR len B ((s.wnum s.tk.2.2.1).wnof (nI s.tk.2.1))) := by rw [numR, if_pos c10, if_neg (fun h => h.elim c35 (fun h => Int32.not_lt.mpr c46 h))]
        exact ⟨by rw [e9]; rfl, by rw [e9]⟩
      · skip
        refine A_aload_n ok.b rfl dX4_readNumber_49 gp0 ?_
        refine A_bipush ok.b (v := (-3)) dX4_readNumber_50 (by decide) ?_
        refine A_aload_n ok.b rfl dX4_readNumber_52 gp0 ?_
        refine A_getf ok.b cf4 0 (by decide) fl_X4_12 gp0 gp0 dX4_readNumber_53 ?_
        refine A_getf ok.b cf1 2 (by decide) fl_X4_74 (gps gp0) (gps (gps gp0)) dX4_readNumber_56 ?_
        refine A_sameVR ok (As := [_, _]) mf_X4_fail ml_X4_77 in_X4_fail se_X4_fail cf4 gp0 (c_fail l g r i a b size len B hlen (s) (hI) _ _) rfl rfl dX4_readNumber_59 (Nat.le_of_ble_eq_true rfl) ⟨(Nat.le_of_ble_eq_true rfl), (Nat.le_of_ble_eq_true rfl)⟩ ⟨(Nat.le_of_ble_eq_true rfl), (Nat.le_of_ble_eq_true rfl)⟩ (fun _ _ hx => hx.elim) (fun v59 w59 q59 => ?_)
        obtain ⟨rfl, rfl⟩ := q59
        refine A_zret ok dX4_readNumber_62 (by decide) (Nat.le_of_ble_eq_true rfl) (Nat.le_of_ble_eq_true rfl) ?_
        exact ⟨by rw [numR, if_pos c10, if_pos (Or.inr (Int32.not_le.mp c46))]; rfl, by rw [numR, if_pos c10, if_pos (Or.inr (Int32.not_le.mp c46))]; rfl⟩
  · skip
    refine A_aload_n ok.b rfl dX4_readNumber_13 gp0 ?_
    refine A_bipush ok.b (v := (-2)) dX4_readNumber_14 (by decide) ?_
    refine A_aload_n ok.b rfl dX4_readNumber_16 gp0 ?_
    refine A_getf ok.b cf4 0 (by decide) fl_X4_12 gp0 gp0 dX4_readNumber_17 ?_
    refine A_getf ok.b cf1 2 (by decide) fl_X4_74 (gps gp0) (gps (gps gp0)) dX4_readNumber_20 ?_
    refine A_sameVR ok (As := [_, _]) mf_X4_fail ml_X4_77 in_X4_fail se_X4_fail cf4 gp0 (c_fail l g r i a b size len B hlen (s) (hI) _ _) rfl rfl dX4_readNumber_23 (Nat.le_of_ble_eq_true rfl) ⟨(Nat.le_of_ble_eq_true rfl), (Nat.le_of_ble_eq_true rfl)⟩ ⟨(Nat.le_of_ble_eq_true rfl), (Nat.le_of_ble_eq_true rfl)⟩ (fun _ _ hx => hx.elim) (fun v23 w23 q23 => ?_)
    obtain ⟨rfl, rfl⟩ := q23
    refine A_zret ok dX4_readNumber_26 (by decide) (Nat.le_of_ble_eq_true rfl) (Nat.le_of_ble_eq_true rfl) ?_
    exact ⟨by rw [numR, if_neg c10]; rfl, by rw [numR, if_neg c10]; rfl⟩
set_option maxRecDepth 20000 in
set_option maxHeartbeats 2000000 in
theorem c_readSection (l : Launch) (g : Gl) (r i a b : Nat → Nat) (size : Int32) (len : Nat) (B : Nat → Int32) (hlen : len ≤ 800) (s : RS) (hI : RI s)  : Ct l g yX4_readSection cX4_readSection 1 (some .boolean) 2 80 0 0 [.ref (r 0)] (rdW g r i a b size len B s) (fun v w => v = some (.int (bI (secR len B s).1)) ∧ w = rdW g r i a b size len B (secR len B s).2) noX := by
  refine Ct.intro [some (.ref (r 0))] (by decide +kernel) (fun _ h => h) (Nat.le_of_ble_eq_true rfl) (fun A H0 K ok => ?_)
  refine A_aload_n ok.b rfl dX4_readSection_0 gp0 ?_
  refine A_iconst ok.b (v := 0) dX4_readSection_1 (by decide) ?_
  refine A_aload_n ok.b rfl dX4_readSection_2 gp0 ?_
  refine A_getf ok.b cf4 1 (by decide) fl_X4_27 gp0 (gps gp0) dX4_readSection_3 ?_
  refine A_getf ok.b cf5 0 (by decide) fl_X4_87 (gps (gps (gps (gps gp0)))) gp0 dX4_readSection_6 ?_
  refine A_getf ok.b cf2 0 (by decide) fl_X4_94 (gps (gps (gps (gps (gps (gps (gps (gps (gps (gps (gps (gps (gps gp0))))))))))))) gp0 dX4_readSection_9 ?_
  refine A_iconst ok.b (v := 1) dX4_readSection_12 (by decide) ?_
  refine A_isub ok.b dX4_readSection_13 ?_
  refine A_sameVR ok (As := [_, _]) mf_X4_readNumber ml_X4_84 in_X4_readNumber se_X4_readNumber cf4 gp0 (c_readNumber l g r i a b size len B hlen s hI 0 _) rfl rfl dX4_readSection_14 (Nat.le_of_ble_eq_true rfl) ⟨(Nat.le_of_ble_eq_true rfl), (Nat.le_of_ble_eq_true rfl)⟩ ⟨(Nat.le_of_ble_eq_true rfl), (Nat.le_of_ble_eq_true rfl)⟩ (fun _ _ hx => hx.elim) (fun v14 w14 q14 => ?_)
  obtain ⟨rfl, rfl⟩ := q14
  refine A_zret ok dX4_readSection_17 (bI_z01 _) (Nat.le_of_ble_eq_true rfl) (Nat.le_of_ble_eq_true rfl) ?_
  exact ⟨rfl, rfl⟩
set_option maxRecDepth 20000 in
set_option maxHeartbeats 2000000 in
theorem c_readSign (l : Launch) (g : Gl) (r i a b : Nat → Nat) (size : Int32) (len : Nat) (B : Nat → Int32) (hlen : len ≤ 800) (s : RS) (hI : RI s) (c : Int32) : Ct l g yX4_readSign cX4_readSign 2 (some .boolean) 1 40 0 0 [.ref (r 0), .int c] (rdW g r i a b size len B s) (fun v w => v = some (.int (bI (sgnR len B c s).1)) ∧ w = rdW g r i a b size len B (sgnR len B c s).2) noX := by
  refine Ct.intro [some (.ref (r 0)), some (.int c)] (by decide +kernel) (fun _ h => h) (Nat.le_of_ble_eq_true rfl) (fun A H0 K ok => ?_)
  refine A_aload_n ok.b rfl dX4_readSign_0 gp0 ?_
  refine A_getf ok.b cf4 0 (by decide) fl_X4_12 gp0 gp0 dX4_readSign_1 ?_
  refine A_getf ok.b cf1 1 (by decide) fl_X4_63 (gps gp0) (gps gp0) dX4_readSign_4 ?_
  refine A_iload_n ok.b rfl dX4_readSign_7 (gps gp0) ?_
  refine A_icmp_eq ok.b (tgt := 25) dX4_readSign_8 (by decide) (fun c8 => ?_) (fun c8 => ?_)
  · skip
    refine A_aload_n ok.b rfl dX4_readSign_25 gp0 ?_
    refine A_getf ok.b cf4 0 (by decide) fl_X4_12 gp0 gp0 dX4_readSign_26 ?_
    refine A_adv ok.b (s) hlen (hI) dX4_readSign_29 (Nat.le_of_ble_eq_true rfl) ⟨(Nat.le_of_ble_eq_true rfl), (Nat.le_of_ble_eq_true rfl)⟩ ⟨(Nat.le_of_ble_eq_true rfl), (Nat.le_of_ble_eq_true rfl)⟩ ?_
    refine A_iconst ok.b (v := 1) dX4_readSign_32 (by decide) ?_
    refine A_zret ok dX4_readSign_33 (by decide) (Nat.le_of_ble_eq_true rfl) (Nat.le_of_ble_eq_true rfl) ?_
    exact ⟨by rw [sgnR, if_pos c8]; rfl, by rw [sgnR, if_pos c8]⟩
  · skip
    refine A_aload_n ok.b rfl dX4_readSign_11 gp0 ?_
    refine A_bipush ok.b (v := (-2)) dX4_readSign_12 (by decide) ?_
    refine A_aload_n ok.b rfl dX4_readSign_14 gp0 ?_
    refine A_getf ok.b cf4 0 (by decide) fl_X4_12 gp0 gp0 dX4_readSign_15 ?_
    refine A_getf ok.b cf1 2 (by decide) fl_X4_74 (gps gp0) (gps (gps gp0)) dX4_readSign_18 ?_
    refine A_sameVR ok (As := [_, _]) mf_X4_fail ml_X4_77 in_X4_fail se_X4_fail cf4 gp0 (c_fail l g r i a b size len B hlen (s) (hI) _ _) rfl rfl dX4_readSign_21 (Nat.le_of_ble_eq_true rfl) ⟨(Nat.le_of_ble_eq_true rfl), (Nat.le_of_ble_eq_true rfl)⟩ ⟨(Nat.le_of_ble_eq_true rfl), (Nat.le_of_ble_eq_true rfl)⟩ (fun _ _ hx => hx.elim) (fun v21 w21 q21 => ?_)
    obtain ⟨rfl, rfl⟩ := q21
    refine A_zret ok dX4_readSign_24 (by decide) (Nat.le_of_ble_eq_true rfl) (Nat.le_of_ble_eq_true rfl) ?_
    exact ⟨by rw [sgnR, if_neg c8]; rfl, by rw [sgnR, if_neg c8]; rfl⟩
set_option maxRecDepth 20000 in
set_option maxHeartbeats 2000000 in
theorem c_readWay (l : Launch) (g : Gl) (r i a b : Nat → Nat) (size : Int32) (len : Nat) (B : Nat → Int32) (hlen : len ≤ 800) (s : RS) (hI : RI s)  : Ct l g yX4_readWay cX4_readWay 1 (some .boolean) 5 200 0 0 [.ref (r 0)] (rdW g r i a b size len B s) (fun v w => v = some (.int (bI (wayR len B s).1)) ∧ w = rdW g r i a b size len B (wayR len B s).2) noX := by
  refine Ct.intro [some (.ref (r 0))] (by decide +kernel) (fun _ h => h) (Nat.le_of_ble_eq_true rfl) (fun A H0 K ok => ?_)
  refine A_aload_n ok.b rfl dX4_readWay_0 gp0 ?_
  refine A_getf ok.b cf4 0 (by decide) fl_X4_12 gp0 gp0 dX4_readWay_1 ?_
  refine A_ldcS ok.b (List.mem_of_getElem? (l := sTab) (i := 12) rfl) dX4_readWay_4 ?_
  refine A_word ok.b (s) (by decide) (hI) dX4_readWay_6 (Nat.le_of_ble_eq_true rfl) ⟨(Nat.le_of_ble_eq_true rfl), (Nat.le_of_ble_eq_true rfl)⟩ ⟨(Nat.le_of_ble_eq_true rfl), (Nat.le_of_ble_eq_true rfl)⟩ ?_
  refine A_if_eq ok.b (tgt := 20) dX4_readWay_9 (by decide) (fun c9 => ?_) (fun c9 => ?_)
  · skip
    refine A_aload_n ok.b rfl dX4_readWay_20 gp0 ?_
    refine A_getf ok.b cf4 0 (by decide) fl_X4_12 gp0 gp0 dX4_readWay_21 ?_
    refine A_ldcS ok.b (List.mem_of_getElem? (l := sTab) (i := 13) rfl) dX4_readWay_24 ?_
    refine A_word ok.b (s) (by decide) (hI) dX4_readWay_26 (Nat.le_of_ble_eq_true rfl) ⟨(Nat.le_of_ble_eq_true rfl), (Nat.le_of_ble_eq_true rfl)⟩ ⟨(Nat.le_of_ble_eq_true rfl), (Nat.le_of_ble_eq_true rfl)⟩ ?_
    refine A_if_eq ok.b (tgt := 40) dX4_readWay_29 (by decide) (fun c29 => ?_) (fun c29 => ?_)
    · skip
      refine A_aload_n ok.b rfl dX4_readWay_40 gp0 ?_
      refine A_bipush ok.b (v := (-2)) dX4_readWay_41 (by decide) ?_
      refine A_aload_n ok.b rfl dX4_readWay_43 gp0 ?_
      refine A_getf ok.b cf4 0 (by decide) fl_X4_12 gp0 gp0 dX4_readWay_44 ?_
      refine A_getf ok.b cf1 2 (by decide) fl_X4_74 (gps gp0) (gps (gps gp0)) dX4_readWay_47 ?_
      refine A_sameVR ok (As := [_, _]) mf_X4_fail ml_X4_77 in_X4_fail se_X4_fail cf4 gp0 (c_fail l g r i a b size len B hlen (s) (hI) _ _) rfl rfl dX4_readWay_50 (Nat.le_of_ble_eq_true rfl) ⟨(Nat.le_of_ble_eq_true rfl), (Nat.le_of_ble_eq_true rfl)⟩ ⟨(Nat.le_of_ble_eq_true rfl), (Nat.le_of_ble_eq_true rfl)⟩ (fun _ _ hx => hx.elim) (fun v50 w50 q50 => ?_)
      obtain ⟨rfl, rfl⟩ := q50
      refine A_zret ok dX4_readWay_53 (by decide) (Nat.le_of_ble_eq_true rfl) (Nat.le_of_ble_eq_true rfl) ?_
      exact ⟨by rw [wayR, if_neg (bI_z c9), if_neg (bI_z c29)]; rfl, by rw [wayR, if_neg (bI_z c9), if_neg (bI_z c29)]; rfl⟩
    · skip
      refine A_aload_n ok.b rfl dX4_readWay_32 gp0 ?_
      refine A_iconst ok.b (v := (-1)) dX4_readWay_33 (by decide) ?_
      refine A_putf ok.b cf4 6 (by decide) rfl fl_X4_171 gp0 rfl rfl (gp_lt (gps (gps (gps (gps (gps (gps gp0))))))) (wps (wps (wps (wps (wps (wps wp0)))))) wp0 dX4_readWay_34 ?_
      refine A_goto ok.b (tgt := 54) dX4_readWay_37 (by decide) ?_
      refine A_aload_n ok.b rfl dX4_readWay_54 gp0 ?_
      refine A_getf ok.b cf4 0 (by decide) fl_X4_12 gp0 gp0 dX4_readWay_55 ?_
      refine A_adv ok.b ((s.wway (-1))) hlen (⟨hI.t1, hI.t2, hI.n, hI.c, hI.k⟩) dX4_readWay_58 (Nat.le_of_ble_eq_true rfl) ⟨(Nat.le_of_ble_eq_true rfl), (Nat.le_of_ble_eq_true rfl)⟩ ⟨(Nat.le_of_ble_eq_true rfl), (Nat.le_of_ble_eq_true rfl)⟩ ?_
      refine A_iconst ok.b (v := 1) dX4_readWay_61 (by decide) ?_
      refine A_zret ok dX4_readWay_62 (by decide) (Nat.le_of_ble_eq_true rfl) (Nat.le_of_ble_eq_true rfl) ?_
      exact ⟨by rw [wayR, if_neg (bI_z c9), if_pos (bI_n c29)]; rfl, by rw [wayR, if_neg (bI_z c9), if_pos (bI_n c29)]⟩
  · skip
    refine A_aload_n ok.b rfl dX4_readWay_12 gp0 ?_
    refine A_iconst ok.b (v := 1) dX4_readWay_13 (by decide) ?_
    refine A_putf ok.b cf4 6 (by decide) rfl fl_X4_171 gp0 rfl rfl (gp_lt (gps (gps (gps (gps (gps (gps gp0))))))) (wps (wps (wps (wps (wps (wps wp0)))))) wp0 dX4_readWay_14 ?_
    refine A_goto ok.b (tgt := 54) dX4_readWay_17 (by decide) ?_
    refine A_aload_n ok.b rfl dX4_readWay_54 gp0 ?_
    refine A_getf ok.b cf4 0 (by decide) fl_X4_12 gp0 gp0 dX4_readWay_55 ?_
    refine A_adv ok.b ((s.wway 1)) hlen (⟨hI.t1, hI.t2, hI.n, hI.c, hI.k⟩) dX4_readWay_58 (Nat.le_of_ble_eq_true rfl) ⟨(Nat.le_of_ble_eq_true rfl), (Nat.le_of_ble_eq_true rfl)⟩ ⟨(Nat.le_of_ble_eq_true rfl), (Nat.le_of_ble_eq_true rfl)⟩ ?_
    refine A_iconst ok.b (v := 1) dX4_readWay_61 (by decide) ?_
    refine A_zret ok dX4_readWay_62 (by decide) (Nat.le_of_ble_eq_true rfl) (Nat.le_of_ble_eq_true rfl) ?_
    exact ⟨by rw [wayR, if_pos (bI_n c9)]; rfl, by rw [wayR, if_pos (bI_n c9)]⟩
set_option maxRecDepth 20000 in
set_option maxHeartbeats 2000000 in
theorem c_readSetting (l : Launch) (g : Gl) (r i a b : Nat → Nat) (size : Int32) (len : Nat) (B : Nat → Int32) (hlen : len ≤ 800) (s : RS) (hI : RI s) (lm : Int32) : Ct l g yX4_readSetting cX4_readSetting 3 (some .boolean) 2 80 0 0 [.ref (r 0), .int lm] (rdW g r i a b size len B s) (fun v w => v = some (.int (bI (setR len B lm s).1)) ∧ w = rdW g r i a b size len B (setR len B lm s).2) noX := by
  refine Ct.intro [some (.ref (r 0)), some (.int lm), none] (by decide +kernel) (fun _ h => h) (Nat.le_of_ble_eq_true rfl) (fun A H0 K ok => ?_)
  refine A_aload_n ok.b rfl dX4_readSetting_0 gp0 ?_
  refine A_getf ok.b cf4 0 (by decide) fl_X4_12 gp0 gp0 dX4_readSetting_1 ?_
  refine A_getf ok.b cf1 1 (by decide) fl_X4_63 (gps gp0) (gps gp0) dX4_readSetting_4 ?_
  refine A_bipush ok.b (v := 45) dX4_readSetting_7 (by decide) ?_
  refine A_icmp_ne ok.b (tgt := 16) dX4_readSetting_9 (by decide) (fun c9 => ?_) (fun c9 => ?_)
  · skip
    refine A_iconst ok.b (v := 0) dX4_readSetting_16 (by decide) ?_
    refine A_istore_n ok.b rfl dX4_readSetting_17 (by decide) (sts (sts1 rfl st0)) ?_
    refine A_iload_n ok.b rfl dX4_readSetting_18 (gps (gps gp0)) ?_
    refine A_if_eq ok.b (tgt := 29) dX4_readSetting_19 (by decide) (fun c19 => ?_) (fun c19 => ((show False from absurd rfl c19)).elim)
    refine A_aload_n ok.b rfl dX4_readSetting_29 gp0 ?_
    refine A_iconst ok.b (v := 0) dX4_readSetting_30 (by decide) ?_
    refine A_iload_n ok.b rfl dX4_readSetting_31 (gps gp0) ?_
    refine A_sameVR ok (As := [_, _]) mf_X4_readNumber ml_X4_84 in_X4_readNumber se_X4_readNumber cf4 gp0 (c_readNumber l g r i a b size len B hlen s hI 0 lm) rfl rfl dX4_readSetting_32 (Nat.le_of_ble_eq_true rfl) ⟨(Nat.le_of_ble_eq_true rfl), (Nat.le_of_ble_eq_true rfl)⟩ ⟨(Nat.le_of_ble_eq_true rfl), (Nat.le_of_ble_eq_true rfl)⟩ (fun _ _ hx => hx.elim) (fun v32 w32 q32 => ?_)
    obtain ⟨rfl, rfl⟩ := q32
    refine A_if_ne ok.b (tgt := 40) dX4_readSetting_35 (by decide) (fun c35 => ?_) (fun c35 => ?_)
    · skip
      refine A_aload_n ok.b rfl dX4_readSetting_40 gp0 ?_
      refine A_iload_n ok.b rfl dX4_readSetting_41 (gps (gps gp0)) ?_
      refine A_if_eq ok.b (tgt := 53) dX4_readSetting_42 (by decide) (fun c42 => ?_) (fun c42 => ((show False from absurd rfl c42)).elim)
      refine A_aload_n ok.b rfl dX4_readSetting_53 gp0 ?_
      refine A_getf ok.b cf4 4 (by decide) fl_X4_91 gp0 (gps (gps (gps (gps gp0)))) dX4_readSetting_54 ?_
      refine A_putf ok.b cf4 4 (by decide) rfl fl_X4_91 gp0 rfl rfl (gp_lt (gps (gps (gps (gps gp0))))) (wps (wps (wps (wps wp0)))) wp0 dX4_readSetting_57 ?_
      refine A_iconst ok.b (v := 1) dX4_readSetting_60 (by decide) ?_
      refine A_zret ok dX4_readSetting_61 (by decide) (Nat.le_of_ble_eq_true rfl) (Nat.le_of_ble_eq_true rfl) ?_
      have e9 : setR len B lm s = numR len B 0 lm s := by rw [setR, if_neg c9]
      exact ⟨by rw [e9, bI_t (bI_n c35)], by rw [e9]; rfl⟩
    · skip
      refine A_iconst ok.b (v := 0) dX4_readSetting_38 (by decide) ?_
      refine A_zret ok dX4_readSetting_39 (by decide) (Nat.le_of_ble_eq_true rfl) (Nat.le_of_ble_eq_true rfl) ?_
      have e9 : setR len B lm s = numR len B 0 lm s := by rw [setR, if_neg c9]
      exact ⟨by rw [e9, bI_f (bI_z c35)], by rw [e9]⟩
  · skip
    refine A_iconst ok.b (v := 1) dX4_readSetting_12 (by decide) ?_
    refine A_goto ok.b (tgt := 17) dX4_readSetting_13 (by decide) ?_
    refine A_istore_n ok.b rfl dX4_readSetting_17 (by decide) (sts (sts1 rfl st0)) ?_
    refine A_iload_n ok.b rfl dX4_readSetting_18 (gps (gps gp0)) ?_
    refine A_if_eq ok.b (tgt := 29) dX4_readSetting_19 (by decide) (fun c19 => ((show False from absurd c19 (by decide))).elim) (fun c19 => ?_)
    refine A_aload_n ok.b rfl dX4_readSetting_22 gp0 ?_
    refine A_getf ok.b cf4 0 (by decide) fl_X4_12 gp0 gp0 dX4_readSetting_23 ?_
    refine A_adv ok.b (s) hlen (hI) dX4_readSetting_26 (Nat.le_of_ble_eq_true rfl) ⟨(Nat.le_of_ble_eq_true rfl), (Nat.le_of_ble_eq_true rfl)⟩ ⟨(Nat.le_of_ble_eq_true rfl), (Nat.le_of_ble_eq_true rfl)⟩ ?_
    refine A_aload_n ok.b rfl dX4_readSetting_29 gp0 ?_
    refine A_iconst ok.b (v := 0) dX4_readSetting_30 (by decide) ?_
    refine A_iload_n ok.b rfl dX4_readSetting_31 (gps gp0) ?_
    refine A_sameVR ok (As := [_, _]) mf_X4_readNumber ml_X4_84 in_X4_readNumber se_X4_readNumber cf4 gp0 (c_readNumber l g r i a b size len B hlen (advR len B s) (RI_adv hlen hI) 0 lm) rfl rfl dX4_readSetting_32 (Nat.le_of_ble_eq_true rfl) ⟨(Nat.le_of_ble_eq_true rfl), (Nat.le_of_ble_eq_true rfl)⟩ ⟨(Nat.le_of_ble_eq_true rfl), (Nat.le_of_ble_eq_true rfl)⟩ (fun _ _ hx => hx.elim) (fun v32 w32 q32 => ?_)
    obtain ⟨rfl, rfl⟩ := q32
    refine A_if_ne ok.b (tgt := 40) dX4_readSetting_35 (by decide) (fun c35 => ?_) (fun c35 => ?_)
    · skip
      refine A_aload_n ok.b rfl dX4_readSetting_40 gp0 ?_
      refine A_iload_n ok.b rfl dX4_readSetting_41 (gps (gps gp0)) ?_
      refine A_if_eq ok.b (tgt := 53) dX4_readSetting_42 (by decide) (fun c42 => ((show False from absurd c42 (by decide))).elim) (fun c42 => ?_)
      refine A_aload_n ok.b rfl dX4_readSetting_45 gp0 ?_
      refine A_getf ok.b cf4 4 (by decide) fl_X4_91 gp0 (gps (gps (gps (gps gp0)))) dX4_readSetting_46 ?_
      refine A_ineg ok.b dX4_readSetting_49 ?_
      refine A_goto ok.b (tgt := 57) dX4_readSetting_50 (by decide) ?_
      refine A_putf ok.b cf4 4 (by decide) rfl fl_X4_91 gp0 rfl rfl (gp_lt (gps (gps (gps (gps gp0))))) (wps (wps (wps (wps wp0)))) wp0 dX4_readSetting_57 ?_
      refine A_iconst ok.b (v := 1) dX4_readSetting_60 (by decide) ?_
      refine A_zret ok dX4_readSetting_61 (by decide) (Nat.le_of_ble_eq_true rfl) (Nat.le_of_ble_eq_true rfl) ?_
      have e9 : setR len B lm s = (true, negR (numR len B 0 lm (advR len B s)).2) := by rw [setR, if_pos c9, andM_t (bI_n c35)]
      exact ⟨by rw [e9]; rfl, by rw [e9]; rfl⟩
    · skip
      refine A_iconst ok.b (v := 0) dX4_readSetting_38 (by decide) ?_
      refine A_zret ok dX4_readSetting_39 (by decide) (Nat.le_of_ble_eq_true rfl) (Nat.le_of_ble_eq_true rfl) ?_
      have e9 : setR len B lm s = (false, (numR len B 0 lm (advR len B s)).2) := by rw [setR, if_pos c9, andM_f (bI_z c35)]
      exact ⟨by rw [e9]; rfl, by rw [e9]⟩
set_option maxRecDepth 20000 in
set_option maxHeartbeats 2000000 in
theorem c_putCode (l : Launch) (g : Gl) (r i a b : Nat → Nat) (size : Int32) (len : Nat) (B : Nat → Int32) (hlen : len ≤ 800) (s : RS) (hI : RI s) (c : Int32) : Ct l g yX4_putCode cX4_putCode 2 none 0 0 0 0 [.ref (r 0), .int c] (rdW g r i a b size len B s) (fun v w => v = none ∧ w = rdW g r i a b size len B (putC c s)) noX := by
  refine Ct.intro [some (.ref (r 0)), some (.int c)] (by decide +kernel) (fun _ h => h) (Nat.le_of_ble_eq_true rfl) (fun A H0 K ok => ?_)
  have hk := hI.k
  refine A_aload_n ok.b rfl dX4_putCode_0 gp0 ?_
  refine A_getf ok.b cf4 11 (by decide) fl_X4_191 gp0 (gps (gps (gps (gps (gps (gps (gps (gps (gps (gps (gps gp0))))))))))) dX4_putCode_1 ?_
  refine A_sipush ok.b (v := 800) dX4_putCode_4 (by decide) ?_
  refine A_icmp_ge ok.b (tgt := 30) dX4_putCode_7 (by decide) (fun c7 => ?_) (fun c7 => ?_)
  · skip
    refine A_vret ok dX4_putCode_30 (Nat.le_of_ble_eq_true rfl) (Nat.le_of_ble_eq_true rfl) ?_
    exact ⟨rfl, by rw [putC, if_neg (fun h => nI_ge (a := s.cc) (b := 800) h (by decide) c7)]⟩
  · skip
    have hc8 : s.cc < 800 := by
      rcases Nat.lt_or_ge s.cc 800 with h | h
      · exact h
      · exact absurd (nI_le (a := 800) (b := s.cc) h (by omega)) c7
    refine A_aload_n ok.b rfl dX4_putCode_10 gp0 ?_
    refine A_getf ok.b cf4 12 (by decide) fl_X4_18 gp0 (gps (gps (gps (gps (gps (gps (gps (gps (gps (gps (gps (gps gp0)))))))))))) dX4_putCode_11 ?_
    refine A_aload_n ok.b rfl dX4_putCode_14 gp0 ?_
    refine A_getf ok.b cf4 11 (by decide) fl_X4_191 gp0 (gps (gps (gps (gps (gps (gps (gps (gps (gps (gps (gps gp0))))))))))) dX4_putCode_15 ?_
    refine A_iload_n ok.b rfl dX4_putCode_18 (gps gp0) ?_
    refine A_iast ok.b (gps (gps (gps gp0))) (ix_n hc8 (by decide)) (wps (wps (wps wp0))) dX4_putCode_19 ?_
    refine A_aload_n ok.b rfl dX4_putCode_20 gp0 ?_
    refine A_dup ok.b dX4_putCode_21 rfl ?_
    refine A_getf ok.b cf4 11 (by decide) fl_X4_191 gp0 (gps (gps (gps (gps (gps (gps (gps (gps (gps (gps (gps gp0))))))))))) dX4_putCode_22 ?_
    refine A_iconst ok.b (v := 1) dX4_putCode_25 (by decide) ?_
    refine A_iadd ok.b dX4_putCode_26 ?_
    rw [nI_1]
    refine A_putf ok.b cf4 11 (by decide) rfl fl_X4_191 gp0 rfl rfl (gp_lt (gps (gps (gps (gps (gps (gps (gps (gps (gps (gps (gps gp0)))))))))))) (wps (wps (wps (wps (wps (wps (wps (wps (wps (wps (wps wp0))))))))))) wp0 dX4_putCode_27 ?_
    refine A_vret ok dX4_putCode_30 (Nat.le_of_ble_eq_true rfl) (Nat.le_of_ble_eq_true rfl) ?_
    exact ⟨rfl, by rw [putC, if_pos hc8]; rfl⟩
