def putAll (x1 x2 x3 x4 x5 : Int32) (n : Nat) (B : Nat → Int32) : Nat → Int32 := putW x5 (n + 4 + 4 + 4 + 4) (putW x4 (n + 4 + 4 + 4) (putW x3 (n + 4 + 4) (putW x2 (n + 4) (putW x1 (n) (B)))))
set_option maxRecDepth 20000 in
set_option maxHeartbeats 2000000 in
theorem c_append (l : Launch) (g : Gl) (k h0 tr : Nat) (eo : Int32) (r i a c : Nat → Nat) (p n len : Nat) (B : Nat → Int32) (s : RS) (hn : n ≤ 800) (x1 x2 x3 x4 x5 : Int32) : Ct l g yX6_append cX6_append 7 (some .int) 2 120 0 0 [.ref k, .int x1, .int x2, .int x3, .int x4, .int x5] (([(k, .inr (6, [.ref (r 0), .ref h0, .ref (c 0), .ref tr, .int (eo)]))] : va_W) ++ rdT g r i a p (nI (n)) len (B) s) (fun v w => v = some (.int (if 780 < n then -1 else nI (n + 20))) ∧ w = if 780 < n then (([(k, .inr (6, [.ref (r 0), .ref h0, .ref (c 0), .ref tr, .int (eo)]))] : va_W) ++ rdT g r i a p (nI (n)) len (B) s) else (([(k, .inr (6, [.ref (r 0), .ref h0, .ref (c 0), .ref tr, .int (eo)]))] : va_W) ++ rdT g r i a p (nI (n + 20)) len (putAll x1 x2 x3 x4 x5 n B) s)) noX := by
  refine Ct.intro [some (.ref k), some (.int x1), some (.int x2), some (.int x3), some (.int x4), some (.int x5), none] (by decide +kernel) (fun _ h => h) (Nat.le_of_ble_eq_true rfl) (fun A H0 K ok => ?_)
  refine A_aload_n ok.b rfl dX6_append_0 gp0 ?_
  refine A_getf ok.b cf6 0 (by decide) fl_X6_15 gp0 gp0 dX6_append_1 ?_
  refine A_getf ok.b cf4 0 (by decide) fl_X6_42 (gps gp0) gp0 dX6_append_4 ?_
  refine A_astore ok.b dX6_append_7 (by decide) (sts (sts (sts (sts (sts (sts1 rfl st0)))))) ?_
  refine A_aload ok.b dX6_append_9 (gps (gps (gps (gps (gps (gps gp0)))))) ?_
  refine A_getf ok.b cf1 0 (by decide) fl_X6_46 (gps (gps gp0)) gp0 dX6_append_11 ?_
  refine A_sipush ok.b (v := 780) dX6_append_14 (by decide) ?_
  refine A_icmp_le ok.b (tgt := 22) dX6_append_17 (by decide) (fun c17 => ?_) (fun c17 => ?_)
  · skip
    have hn8 : n ≤ 780 := by
      rcases Nat.lt_or_ge 780 n with h | h
      · exact absurd c17 (nI_ge (a := 780) (b := n) h (by omega))
      · exact h
    refine A_aload ok.b dX6_append_22 (gps (gps (gps (gps (gps (gps gp0)))))) ?_
    refine A_iload_n ok.b rfl dX6_append_24 (gps gp0) ?_
    refine A_callVR ok [2, 3] [0, 1, 4, 5, 6, 7, 8, 9, 10, 11, 12, 13] (As := [_]) (wr := ([(k, .inr (6, [.ref (r 0), .ref h0, .ref (c 0), .ref tr, .int (eo)]))] : va_W) ++ ([(r 0, .inr (4, [.ref (i 0), .ref (a 0), .int s.ec, .int s.eo, .int s.num, .int s.nof, .int s.way, .int s.bays, .int s.fr, .int s.dr, .int s.rr, .int (nI s.cc), .ref (r 1)]))] ++ ([(r 1, .inl (g.2.1 0, 800, .inl s.co))] ++ tunW g a p s.T) : va_W)) mf_X1_putWord ml_X6_51 in_X1_putWord se_X1_putWord cf1 (gps (gps gp0)) (c_putWord l g (i 0) (i 1) s.tk.1 (nI s.tk.2.1) s.tk.2.2.1 (nI s.tk.2.2.2) (nI len) x1 (n) (by omega) (B)) rfl rfl rfl dX6_append_25 rfl rfl rfl (by decide) (Nat.le_of_ble_eq_true rfl) ⟨(Nat.le_of_ble_eq_true rfl), (Nat.le_of_ble_eq_true rfl)⟩ ⟨(Nat.le_of_ble_eq_true rfl), (Nat.le_of_ble_eq_true rfl)⟩ (fun _ _ hx => hx.elim) (fun v25 w25 q25 => ?_)
    obtain ⟨rfl, rfl⟩ := q25
    refine A_sub [0, 1, 12, 13, 2, 3, 4, 5, 6, 7, 8, 9, 10, 11] (ws2 := (([(k, .inr (6, [.ref (r 0), .ref h0, .ref (c 0), .ref tr, .int (eo)]))] : va_W) ++ rdT g r i a p (nI (n + 4)) len (putW x1 (n) (B)) s)) rfl rfl ?_
    refine A_aload ok.b dX6_append_28 (gps (gps (gps (gps (gps (gps gp0)))))) ?_
    refine A_iload_n ok.b rfl dX6_append_30 (gps (gps gp0)) ?_
    refine A_callVR ok [2, 3] [0, 1, 4, 5, 6, 7, 8, 9, 10, 11, 12, 13] (As := [_]) (wr := ([(k, .inr (6, [.ref (r 0), .ref h0, .ref (c 0), .ref tr, .int (eo)]))] : va_W) ++ ([(r 0, .inr (4, [.ref (i 0), .ref (a 0), .int s.ec, .int s.eo, .int s.num, .int s.nof, .int s.way, .int s.bays, .int s.fr, .int s.dr, .int s.rr, .int (nI s.cc), .ref (r 1)]))] ++ ([(r 1, .inl (g.2.1 0, 800, .inl s.co))] ++ tunW g a p s.T) : va_W)) mf_X1_putWord ml_X6_51 in_X1_putWord se_X1_putWord cf1 (gps (gps gp0)) (c_putWord l g (i 0) (i 1) s.tk.1 (nI s.tk.2.1) s.tk.2.2.1 (nI s.tk.2.2.2) (nI len) x2 (n + 4) (by omega) (putW x1 (n) (B))) rfl rfl rfl dX6_append_31 rfl rfl rfl (by decide) (Nat.le_of_ble_eq_true rfl) ⟨(Nat.le_of_ble_eq_true rfl), (Nat.le_of_ble_eq_true rfl)⟩ ⟨(Nat.le_of_ble_eq_true rfl), (Nat.le_of_ble_eq_true rfl)⟩ (fun _ _ hx => hx.elim) (fun v31 w31 q31 => ?_)
    obtain ⟨rfl, rfl⟩ := q31
    refine A_sub [0, 1, 12, 13, 2, 3, 4, 5, 6, 7, 8, 9, 10, 11] (ws2 := (([(k, .inr (6, [.ref (r 0), .ref h0, .ref (c 0), .ref tr, .int (eo)]))] : va_W) ++ rdT g r i a p (nI (n + 4 + 4)) len (putW x2 (n + 4) (putW x1 (n) (B))) s)) rfl rfl ?_
    refine A_aload ok.b dX6_append_34 (gps (gps (gps (gps (gps (gps gp0)))))) ?_
    refine A_iload_n ok.b rfl dX6_append_36 (gps (gps (gps gp0))) ?_
    refine A_callVR ok [2, 3] [0, 1, 4, 5, 6, 7, 8, 9, 10, 11, 12, 13] (As := [_]) (wr := ([(k, .inr (6, [.ref (r 0), .ref h0, .ref (c 0), .ref tr, .int (eo)]))] : va_W) ++ ([(r 0, .inr (4, [.ref (i 0), .ref (a 0), .int s.ec, .int s.eo, .int s.num, .int s.nof, .int s.way, .int s.bays, .int s.fr, .int s.dr, .int s.rr, .int (nI s.cc), .ref (r 1)]))] ++ ([(r 1, .inl (g.2.1 0, 800, .inl s.co))] ++ tunW g a p s.T) : va_W)) mf_X1_putWord ml_X6_51 in_X1_putWord se_X1_putWord cf1 (gps (gps gp0)) (c_putWord l g (i 0) (i 1) s.tk.1 (nI s.tk.2.1) s.tk.2.2.1 (nI s.tk.2.2.2) (nI len) x3 (n + 4 + 4) (by omega) (putW x2 (n + 4) (putW x1 (n) (B)))) rfl rfl rfl dX6_append_37 rfl rfl rfl (by decide) (Nat.le_of_ble_eq_true rfl) ⟨(Nat.le_of_ble_eq_true rfl), (Nat.le_of_ble_eq_true rfl)⟩ ⟨(Nat.le_of_ble_eq_true rfl), (Nat.le_of_ble_eq_true rfl)⟩ (fun _ _ hx => hx.elim) (fun v37 w37 q37 => ?_)
    obtain ⟨rfl, rfl⟩ := q37
    refine A_sub [0, 1, 12, 13, 2, 3, 4, 5, 6, 7, 8, 9, 10, 11] (ws2 := (([(k, .inr (6, [.ref (r 0), .ref h0, .ref (c 0), .ref tr, .int (eo)]))] : va_W) ++ rdT g r i a p (nI (n + 4 + 4 + 4)) len (putW x3 (n + 4 + 4) (putW x2 (n + 4) (putW x1 (n) (B)))) s)) rfl rfl ?_
    refine A_aload ok.b dX6_append_40 (gps (gps (gps (gps (gps (gps gp0)))))) ?_
    refine A_iload ok.b dX6_append_42 (gps (gps (gps (gps gp0)))) ?_
    refine A_callVR ok [2, 3] [0, 1, 4, 5, 6, 7, 8, 9, 10, 11, 12, 13] (As := [_]) (wr := ([(k, .inr (6, [.ref (r 0), .ref h0, .ref (c 0), .ref tr, .int (eo)]))] : va_W) ++ ([(r 0, .inr (4, [.ref (i 0), .ref (a 0), .int s.ec, .int s.eo, .int s.num, .int s.nof, .int s.way, .int s.bays, .int s.fr, .int s.dr, .int s.rr, .int (nI s.cc), .ref (r 1)]))] ++ ([(r 1, .inl (g.2.1 0, 800, .inl s.co))] ++ tunW g a p s.T) : va_W)) mf_X1_putWord ml_X6_51 in_X1_putWord se_X1_putWord cf1 (gps (gps gp0)) (c_putWord l g (i 0) (i 1) s.tk.1 (nI s.tk.2.1) s.tk.2.2.1 (nI s.tk.2.2.2) (nI len) x4 (n + 4 + 4 + 4) (by omega) (putW x3 (n + 4 + 4) (putW x2 (n + 4) (putW x1 (n) (B))))) rfl rfl rfl dX6_append_44 rfl rfl rfl (by decide) (Nat.le_of_ble_eq_true rfl) ⟨(Nat.le_of_ble_eq_true rfl), (Nat.le_of_ble_eq_true rfl)⟩ ⟨(Nat.le_of_ble_eq_true rfl), (Nat.le_of_ble_eq_true rfl)⟩ (fun _ _ hx => hx.elim) (fun v44 w44 q44 => ?_)
    obtain ⟨rfl, rfl⟩ := q44
    refine A_sub [0, 1, 12, 13, 2, 3, 4, 5, 6, 7, 8, 9, 10, 11] (ws2 := (([(k, .inr (6, [.ref (r 0), .ref h0, .ref (c 0), .ref tr, .int (eo)]))] : va_W) ++ rdT g r i a p (nI (n + 4 + 4 + 4 + 4)) len (putW x4 (n + 4 + 4 + 4) (putW x3 (n + 4 + 4) (putW x2 (n + 4) (putW x1 (n) (B))))) s)) rfl rfl ?_
    refine A_aload ok.b dX6_append_47 (gps (gps (gps (gps (gps (gps gp0)))))) ?_
    refine A_iload ok.b dX6_append_49 (gps (gps (gps (gps (gps gp0))))) ?_
    refine A_callVR ok [2, 3] [0, 1, 4, 5, 6, 7, 8, 9, 10, 11, 12, 13] (As := [_]) (wr := ([(k, .inr (6, [.ref (r 0), .ref h0, .ref (c 0), .ref tr, .int (eo)]))] : va_W) ++ ([(r 0, .inr (4, [.ref (i 0), .ref (a 0), .int s.ec, .int s.eo, .int s.num, .int s.nof, .int s.way, .int s.bays, .int s.fr, .int s.dr, .int s.rr, .int (nI s.cc), .ref (r 1)]))] ++ ([(r 1, .inl (g.2.1 0, 800, .inl s.co))] ++ tunW g a p s.T) : va_W)) mf_X1_putWord ml_X6_51 in_X1_putWord se_X1_putWord cf1 (gps (gps gp0)) (c_putWord l g (i 0) (i 1) s.tk.1 (nI s.tk.2.1) s.tk.2.2.1 (nI s.tk.2.2.2) (nI len) x5 (n + 4 + 4 + 4 + 4) (by omega) (putW x4 (n + 4 + 4 + 4) (putW x3 (n + 4 + 4) (putW x2 (n + 4) (putW x1 (n) (B)))))) rfl rfl rfl dX6_append_51 rfl rfl rfl (by decide) (Nat.le_of_ble_eq_true rfl) ⟨(Nat.le_of_ble_eq_true rfl), (Nat.le_of_ble_eq_true rfl)⟩ ⟨(Nat.le_of_ble_eq_true rfl), (Nat.le_of_ble_eq_true rfl)⟩ (fun _ _ hx => hx.elim) (fun v51 w51 q51 => ?_)
    obtain ⟨rfl, rfl⟩ := q51
    refine A_sub [0, 1, 12, 13, 2, 3, 4, 5, 6, 7, 8, 9, 10, 11] (ws2 := (([(k, .inr (6, [.ref (r 0), .ref h0, .ref (c 0), .ref tr, .int (eo)]))] : va_W) ++ rdT g r i a p (nI (n + 4 + 4 + 4 + 4 + 4)) len (putW x5 (n + 4 + 4 + 4 + 4) (putW x4 (n + 4 + 4 + 4) (putW x3 (n + 4 + 4) (putW x2 (n + 4) (putW x1 (n) (B)))))) s)) rfl rfl ?_
    refine A_aload ok.b dX6_append_54 (gps (gps (gps (gps (gps (gps gp0)))))) ?_
    refine A_getf ok.b cf1 0 (by decide) fl_X6_46 (gps (gps gp0)) gp0 dX6_append_56 ?_
    refine A_iret ok dX6_append_59 (Nat.le_of_ble_eq_true rfl) (Nat.le_of_ble_eq_true rfl) ?_
    exact ⟨by rw [if_neg (by omega)], by rw [if_neg (by omega)]; rfl⟩
  · skip
    refine A_iconst ok.b (v := (-1)) dX6_append_20 (by decide) ?_
    refine A_iret ok dX6_append_21 (Nat.le_of_ble_eq_true rfl) (Nat.le_of_ble_eq_true rfl) ?_
    exact ⟨by rw [if_pos (by rcases Nat.lt_or_ge 780 n with h | h; exact h; exact absurd (nI_le (a := n) (b := 780) h (by decide)) c17)], by rw [if_pos (by rcases Nat.lt_or_ge 780 n with h | h; exact h; exact absurd (nI_le (a := n) (b := 780) h (by decide)) c17)]⟩
def loadX (size x : Int32) : Option String := if x < 0 ∨ size < x then some IAE else none
set_option maxRecDepth 20000 in
set_option maxHeartbeats 2000000 in
theorem c_load (l : Launch) (g : Gl) (k h0 tr : Nat) (eo : Int32) (r i a c : Nat → Nat) (p n len : Nat) (B : Nat → Int32) (s : RS) (hn : n ≤ 800) (hk : s.cc ≤ 800) (hl0 : l.stackTraces = false) (h1 : Nat) (cnt nx : Nat) (sa : Nat → Nat) (a2 : Nat → Nat) (p2 pc : Nat) (T2 Tc : TD) (hcnt : cnt ≤ 8) (hnx : nx < 8) (hsa : sa nx = a2 0) (hrd : ∀ j, j < 24 → tRed Tc j = 0 ∨ tRed Tc j = 1) (hrdF : ∀ m j, j < 24 → tRed (setupR m B s).2.T j = 0 ∨ tRed (setupR m B s).2.T j = 1) (x0 : Int32) : Ct l g yX6_load cX6_load 3 (some .int) 22 900 9 858 [.ref k, .int x0] (([(k, .inr (6, [.ref (r 0), .ref h0, .ref (c 0), .ref tr, .int (eo)]))] : va_W) ++ (rdT g r i a (p) (nI n) (len) B (s) ++ (hsW g h0 h1 (cnt) (nx) sa ++ (tunW g a2 (p2) (T2) ++ (tunW g c (pc) (Tc)))))) (fun v w => loadX (nI n) x0 = none ∧ ∃ b : Nat → Nat, if (setupR (x0.toNatClampNeg) B s).1 = true then v = some (.int (nI (pCar (setupR (x0.toNatClampNeg) B s).2.P))) ∧ w = (([(k, .inr (6, [.ref (r 0), .ref h0, .ref (c 0), .ref tr, .int (-1)]))] : va_W) ++ (rdT g r i a (b 0) 0 ((x0.toNatClampNeg)) B ((setupR (x0.toNatClampNeg) B s).2) ++ (hsW g h0 h1 (cntS cnt) ((nx + 1) % 8) sa ++ (tunW g a2 (pc) (Tc) ++ (tunW g c (b 0) ((setupR (x0.toNatClampNeg) B s).2.T) ++ planW g b (setupR (x0.toNatClampNeg) B s).2.P))))) else v = some (.int (setupR (x0.toNatClampNeg) B s).2.ec) ∧ w = (([(k, .inr (6, [.ref (r 0), .ref h0, .ref (c 0), .ref tr, .int ((setupR (x0.toNatClampNeg) B s).2.eo)]))] : va_W) ++ (rdT g r i a (b 0) 0 ((x0.toNatClampNeg)) B ((setupR (x0.toNatClampNeg) B s).2) ++ (hsW g h0 h1 (cnt) (nx) sa ++ (tunW g a2 (p2) (T2) ++ (tunW g c (pc) (Tc) ++ planW g b (setupR (x0.toNatClampNeg) B s).2.P)))))) (XX (([(k, .inr (6, [.ref (r 0), .ref h0, .ref (c 0), .ref tr, .int (eo)]))] : va_W) ++ (rdT g r i a (p) (nI n) (len) B (s) ++ (hsW g h0 h1 (cnt) (nx) sa ++ (tunW g a2 (p2) (T2) ++ (tunW g c (pc) (Tc)))))) (loadX (nI n) x0)) := by
  refine Ct.intro [some (.ref k), some (.int x0), none] (by decide +kernel) (fun _ h => h) (Nat.le_of_ble_eq_true rfl) (fun A H0 K ok => ?_)
  refine A_iload_n ok.b rfl dX6_load_0 (gps gp0) ?_
  refine A_if_lt ok.b (tgt := 18) dX6_load_1 (by decide) (fun c1 => ?_) (fun c1 => ?_)
  · skip
    refine A_throw2 ok hl0 (names := nmsX) (ik := 55) (is := 57) (ic := 59) (by decide +kernel) (by decide +kernel) xk_55 xi_IAE (List.mem_of_getElem? (i := 0) rfl) xa_59 cc_IAE dX6_load_18 dX6_load_21 dX6_load_22 dX6_load_24 dX6_load_27 (Nat.le_of_ble_eq_true rfl) (Nat.le_of_ble_eq_true rfl) (Nat.le_of_ble_eq_true rfl) (Nat.le_of_ble_eq_true rfl) ?_
    exact ⟨by rw [loadX, if_pos (Or.inl c1)], List.Perm.refl _⟩
  · skip
    refine A_iload_n ok.b rfl dX6_load_4 (gps gp0) ?_
    refine A_aload_n ok.b rfl dX6_load_5 gp0 ?_
    refine A_getf ok.b cf6 0 (by decide) fl_X6_15 gp0 gp0 dX6_load_6 ?_
    refine A_getf ok.b cf4 0 (by decide) fl_X6_42 (gps gp0) gp0 dX6_load_9 ?_
    refine A_getf ok.b cf1 0 (by decide) fl_X6_46 (gps (gps gp0)) gp0 dX6_load_12 ?_
    refine A_icmp_le ok.b (tgt := 28) dX6_load_15 (by decide) (fun c15 => ?_) (fun c15 => ?_)
    · skip
      have o1 : loadX (nI n) x0 = none := by rw [loadX, if_neg (fun h => h.elim c1 (fun h => Int32.not_lt.mpr c15 h))]
      obtain ⟨m, hm, rfl⟩ : ∃ m, m ≤ n ∧ x0 = nI m := by
        obtain ⟨t, h2, h3⟩ := inn_of (x := x0) (n := n + 1) (by omega) c1 (fun h => by
          have h4 := Int32.le_iff_toInt_le.mp h
          have h5 := Int32.le_iff_toInt_le.mp c15
          rw [nI_toInt (by omega)] at h4 h5
          omega)
        exact ⟨t, by omega, h3⟩
      have hrm := hrdF m
      refine A_aload_n ok.b rfl dX6_load_28 gp0 ?_
      refine A_getf ok.b cf6 0 (by decide) fl_X6_15 gp0 gp0 dX6_load_29 ?_
      refine A_iload_n ok.b rfl dX6_load_32 (gps gp0) ?_
      refine A_callVR ok [1, 2, 3, 4, 5, 6, 7, 8, 9, 10, 11, 12, 13] [0, 14, 15, 16, 17, 18, 19, 20, 21, 22, 23, 24, 25, 26, 27, 28, 29, 30, 31, 32, 33] (As := [_]) (wr := ([(k, .inr (6, [.ref (r 0), .ref h0, .ref (c 0), .ref tr, .int (eo)]))] : va_W) ++ (hsW g h0 h1 cnt nx sa ++ (tunW g a2 p2 T2 ++ tunW g c pc Tc))) mf_X4_readSetup ml_X6_62 in_X4_readSetup se_X4_readSetup cf4 (gps gp0) (c_readSetup l g r i a p (nI n) len m B (by omega) s hk) rfl rfl rfl dX6_load_33 rfl rfl rfl (by decide) (Nat.le_of_ble_eq_true rfl) ⟨(Nat.le_of_ble_eq_true rfl), (Nat.le_of_ble_eq_true rfl)⟩ ⟨(Nat.le_of_ble_eq_true rfl), (Nat.le_of_ble_eq_true rfl)⟩ (fun _ _ hx => hx.elim) (fun v33 w33 q33 => ?_)
      obtain ⟨b, rfl, rfl⟩ := q33
      generalize hF : setupR m B s = F at hrm ⊢
      refine A_sub [0, 21, 22, 23, 24, 25, 26, 27, 28, 29, 30, 31, 32, 33, 1, 2, 3, 4, 5, 6, 7, 8, 9, 10, 11, 12, 13, 14, 15, 16, 17, 18, 19, 20, 34, 35, 36, 37, 38, 39] (ws2 := (([(k, .inr (6, [.ref (r 0), .ref h0, .ref (c 0), .ref tr, .int (eo)]))] : va_W) ++ (rdT g r i a (b 0) (nI n) (m) B (F.2) ++ (hsW g h0 h1 (cnt) (nx) sa ++ (tunW g a2 (p2) (T2) ++ (tunW g c (pc) (Tc) ++ planW g b F.2.P)))))) rfl rfl ?_
      refine A_istore_n ok.b rfl dX6_load_36 (by decide) (sts (sts1 rfl st0)) ?_
      refine A_aload_n ok.b rfl dX6_load_37 gp0 ?_
      refine A_getf ok.b cf6 0 (by decide) fl_X6_15 gp0 gp0 dX6_load_38 ?_
      refine A_getf ok.b cf4 0 (by decide) fl_X6_42 (gps gp0) gp0 dX6_load_41 ?_
      refine A_iconst ok.b (v := 0) dX6_load_44 (by decide) ?_
      refine A_putf ok.b cf1 0 (by decide) rfl fl_X6_46 (gps (gps gp0)) rfl rfl (gp_lt gp0) wp0 (wps (wps wp0)) dX6_load_45 ?_
      refine A_iload_n ok.b rfl dX6_load_48 (gps (gps gp0)) ?_
      refine A_if_ne ok.b (tgt := 71) dX6_load_49 (by decide) (fun c49 => ?_) (fun c49 => ?_)
      · skip
        refine A_aload_n ok.b rfl dX6_load_71 gp0 ?_
        refine A_iconst ok.b (v := (-1)) dX6_load_72 (by decide) ?_
        refine A_putf ok.b cf6 4 (by decide) rfl fl_X6_38 gp0 rfl rfl (gp_lt (gps (gps (gps (gps gp0))))) (wps (wps (wps (wps wp0)))) wp0 dX6_load_73 ?_
        refine A_aload_n ok.b rfl dX6_load_76 gp0 ?_
        refine A_getf ok.b cf6 1 (by decide) fl_X6_24 gp0 (gps gp0) dX6_load_77 ?_
        refine A_aload_n ok.b rfl dX6_load_80 gp0 ?_
        refine A_getf ok.b cf6 2 (by decide) fl_X6_31 gp0 (gps (gps gp0)) dX6_load_81 ?_
        refine A_callVR ok [14, 15, 16, 17, 18, 19, 20, 21, 22, 23, 24, 25, 26, 27, 28, 29, 30, 31, 32, 33] [0, 1, 2, 3, 4, 5, 6, 7, 8, 9, 10, 11, 12, 13, 34, 35, 36, 37, 38, 39] (As := [_]) (wr := ([(k, .inr (6, [.ref (r 0), .ref h0, .ref (c 0), .ref tr, .int (-1)]))] : va_W) ++ (rdT g r i a (b 0) 0 m B F.2 ++ planW g b F.2.P)) mf_X0_save ml_X6_72 in_X0_save se_X0_save cf0 (gps (gps (gps (gps (gps (gps (gps (gps (gps (gps (gps (gps (gps (gps gp0)))))))))))))) (c_save l g h0 h1 cnt nx sa a2 p2 T2 hcnt hnx hsa c pc Tc hrd) rfl rfl rfl dX6_load_84 rfl rfl rfl (by decide) (Nat.le_of_ble_eq_true rfl) ⟨(Nat.le_of_ble_eq_true rfl), (Nat.le_of_ble_eq_true rfl)⟩ ⟨(Nat.le_of_ble_eq_true rfl), (Nat.le_of_ble_eq_true rfl)⟩ (fun _ _ hx => hx.elim) (fun v84 w84 q84 => ?_)
        obtain ⟨rfl, rfl⟩ := q84
        refine A_sub [0, 1, 2, 3, 4, 5, 6, 7, 8, 9, 10, 11, 12, 13, 20, 21, 22, 23, 24, 25, 26, 27, 28, 29, 30, 31, 32, 33, 34, 35, 36, 37, 38, 39, 14, 15, 16, 17, 18, 19] (ws2 := (([(k, .inr (6, [.ref (r 0), .ref h0, .ref (c 0), .ref tr, .int (-1)]))] : va_W) ++ (rdT g r i a (b 0) 0 (m) B (F.2) ++ (hsW g h0 h1 (cntS cnt) ((nx + 1) % 8) sa ++ (tunW g a2 (pc) (Tc) ++ (tunW g c (pc) (Tc) ++ planW g b F.2.P)))))) rfl rfl ?_
        refine A_aload_n ok.b rfl dX6_load_87 gp0 ?_
        refine A_getf ok.b cf6 2 (by decide) fl_X6_31 gp0 (gps (gps gp0)) dX6_load_88 ?_
        refine A_aload_n ok.b rfl dX6_load_91 gp0 ?_
        refine A_getf ok.b cf6 0 (by decide) fl_X6_15 gp0 gp0 dX6_load_92 ?_
        refine A_getf ok.b cf4 1 (by decide) fl_X6_76 (gps gp0) (gps gp0) dX6_load_95 ?_
        refine A_callVR ok [25, 26, 27, 28, 29, 30, 31, 32, 33, 5, 6, 7, 8, 9, 10, 11, 12, 13] [0, 1, 2, 3, 4, 14, 15, 16, 17, 18, 19, 20, 21, 22, 23, 24, 34, 35, 36, 37, 38, 39] (As := [_]) (wr := ([(k, .inr (6, [.ref (r 0), .ref h0, .ref (c 0), .ref tr, .int (-1)]))] : va_W) ++ ([(r 0, .inr (4, [.ref (i 0), .ref (a 0), .int F.2.ec, .int F.2.eo, .int F.2.num, .int F.2.nof, .int F.2.way, .int F.2.bays, .int F.2.fr, .int F.2.dr, .int F.2.rr, .int (nI F.2.cc), .ref (r 1)])), (i 0, .inr (1, [.int 0, .int F.2.tk.1, .int (nI F.2.tk.2.1), .int F.2.tk.2.2.1, .int (nI F.2.tk.2.2.2), .int (nI m), .ref (i 1)])), (i 1, .inl (g.2.1 2, 800, .inl B)), (r 1, .inl (g.2.1 0, 800, .inl F.2.co))] ++ (hsW g h0 h1 (cntS cnt) ((nx + 1) % 8) sa ++ (tunW g a2 pc Tc ++ planW g b F.2.P)))) mf_X5_copyFrom ml_X6_79 in_X5_copyFrom se_X5_copyFrom cf5 (gps (gps (gps (gps (gps (gps (gps (gps (gps (gps (gps (gps (gps (gps (gps (gps (gps (gps (gps (gps (gps (gps (gps (gps (gps gp0))))))))))))))))))))))))) (c_copyFrom l g c a pc (b 0) Tc F.2.T hrm) rfl rfl rfl dX6_load_98 rfl rfl rfl (by decide) (Nat.le_of_ble_eq_true rfl) ⟨(Nat.le_of_ble_eq_true rfl), (Nat.le_of_ble_eq_true rfl)⟩ ⟨(Nat.le_of_ble_eq_true rfl), (Nat.le_of_ble_eq_true rfl)⟩ (fun _ _ hx => hx.elim) (fun v98 w98 q98 => ?_)
        obtain ⟨rfl, rfl⟩ := q98
        refine A_sub [0, 1, 2, 3, 4, 31, 32, 33, 34, 35, 36, 37, 38, 39, 5, 6, 7, 8, 9, 10, 11, 12, 13, 14, 15, 22, 23, 24, 25, 26, 27, 28, 29, 30, 16, 17, 18, 19, 20, 21] (ws2 := (([(k, .inr (6, [.ref (r 0), .ref h0, .ref (c 0), .ref tr, .int (-1)]))] : va_W) ++ (rdT g r i a (b 0) 0 (m) B (F.2) ++ (hsW g h0 h1 (cntS cnt) ((nx + 1) % 8) sa ++ (tunW g a2 (pc) (Tc) ++ (tunW g c (b 0) (F.2.T) ++ planW g b F.2.P)))))) rfl rfl ?_
        refine A_aload_n ok.b rfl dX6_load_101 gp0 ?_
        refine A_getf ok.b cf6 2 (by decide) fl_X6_31 gp0 (gps (gps gp0)) dX6_load_102 ?_
        refine A_getf ok.b cf5 0 (by decide) fl_X6_82 (gps (gps (gps (gps (gps (gps (gps (gps (gps (gps (gps (gps (gps (gps (gps (gps (gps (gps (gps (gps (gps (gps (gps (gps (gps gp0))))))))))))))))))))))))) gp0 dX6_load_105 ?_
        refine A_getf ok.b cf2 3 (by decide) fl_X6_86 (gps (gps (gps (gps (gps (gps (gps (gps (gps (gps (gps (gps (gps (gps (gps (gps (gps (gps (gps (gps (gps (gps (gps (gps (gps (gps (gps (gps (gps (gps (gps (gps (gps (gps gp0)))))))))))))))))))))))))))))))))) (gps (gps (gps gp0))) dX6_load_108 ?_
        refine A_iret ok dX6_load_111 (Nat.le_of_ble_eq_true rfl) (Nat.le_of_ble_eq_true rfl) ?_
        refine ⟨o1, b, ?_⟩
        rw [nI_clamp (by omega), hF, if_pos (bI_n c49)]
        exact ⟨rfl, rfl⟩
      · skip
        refine A_aload_n ok.b rfl dX6_load_52 gp0 ?_
        refine A_aload_n ok.b rfl dX6_load_53 gp0 ?_
        refine A_getf ok.b cf6 0 (by decide) fl_X6_15 gp0 gp0 dX6_load_54 ?_
        refine A_getf ok.b cf4 3 (by decide) fl_X6_66 (gps gp0) (gps (gps (gps gp0))) dX6_load_57 ?_
        refine A_putf ok.b cf6 4 (by decide) rfl fl_X6_38 gp0 rfl rfl (gp_lt (gps (gps (gps (gps gp0))))) (wps (wps (wps (wps wp0)))) wp0 dX6_load_60 ?_
        refine A_aload_n ok.b rfl dX6_load_63 gp0 ?_
        refine A_getf ok.b cf6 0 (by decide) fl_X6_15 gp0 gp0 dX6_load_64 ?_
        refine A_getf ok.b cf4 2 (by decide) fl_X6_69 (gps gp0) (gps (gps gp0)) dX6_load_67 ?_
        refine A_iret ok dX6_load_70 (Nat.le_of_ble_eq_true rfl) (Nat.le_of_ble_eq_true rfl) ?_
        refine ⟨o1, b, ?_⟩
        rw [nI_clamp (by omega), hF, if_neg (bI_z c49)]
        exact ⟨rfl, rfl⟩
    · skip
      refine A_throw2 ok hl0 (names := nmsX) (ik := 55) (is := 57) (ic := 59) (by decide +kernel) (by decide +kernel) xk_55 xi_IAE (List.mem_of_getElem? (i := 0) rfl) xa_59 cc_IAE dX6_load_18 dX6_load_21 dX6_load_22 dX6_load_24 dX6_load_27 (Nat.le_of_ble_eq_true rfl) (Nat.le_of_ble_eq_true rfl) (Nat.le_of_ble_eq_true rfl) (Nat.le_of_ble_eq_true rfl) ?_
      exact ⟨by rw [loadX, if_pos (Or.inr (Int32.not_le.mp c15))], List.Perm.refl _⟩
