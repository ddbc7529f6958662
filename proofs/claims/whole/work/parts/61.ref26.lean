set_option maxRecDepth 20000 in
set_option maxHeartbeats 20000000 in
theorem r_load (l : Launch) (g : Gl) (m h : Nat → Nat) (s : MS) (B D d : Nat → Int32) (R : Nat → Nat → Int32) (hu : s.ud ≤ 8) (hbl : s.bl ≤ 800) (len : Nat) (hlen : len ≤ s.bl) (F : LQ) (hF : ldF B (ldS s len) = F) : Ct l g yX7_load cX7_load 3 (some .int) 21 840 0 0 [.ref (m 0), .int (nI len)] (loW g m h (s) B (D) (d) (R)) (fun v w => v = some (.int (if F.1.er = 0 then F.2 2 else F.1.er)) ∧ w = if F.1.er = 0 then (loW g m h (reS (F.1.weo F.1.ea)) B (F.2) (F.2) (reR s.ud d R)) else (loW g m h (F.1.weo F.1.ea) B (F.2) (d) (R))) noX := by
  refine Ct.intro [some (.ref (m 0)), some (.int (nI len)), none] (by decide +kernel) (fun _ h => h) (Nat.le_of_ble_eq_true rfl) (fun A H0 K ok => ?_)
  have hin : inB (nI len) 0 (nI s.bl) = true := inB_t (nI_pos (by omega)) (nI_nlt hlen (by omega))
  have hJ : MJ (ldS s len) := ⟨Nat.zero_le _, by show len ≤ 800; omega⟩
  have hUD : F.1.ud = s.ud := by
    have h1 := ((Kp_ldH (B := B) hJ).o hJ).t (Ko_li (B := B) 801 (ldH B (ldS s len)) ((Kp_ldH (B := B) hJ).mj hJ))
    have h2 : Ko (ldS s len) F.1 := by rw [← hF]; exact h1
    have h4 := h2.2.2.2.2.2
    simp only [Prod.mk.injEq] at h4
    exact h4.2.2.2.1
  have LX : MJ F.1 → AW g A H0 3 K 199 [some (.ref (m 0)), some (.int (nI len)), none] [] (loW g m h (F.1) B (F.2) (d) (R)) 0 0 := by
    intro hYJ
    have hYu : (F.1.weo F.1.ea).ud ≤ 8 := by show F.1.ud ≤ 8; rw [hUD]; exact hu
    have hYM : MI (F.1.weo F.1.ea) := hYJ.mi
    have hYe : (F.1.weo F.1.ea).er = F.1.er := rfl
    have hYud : (F.1.weo F.1.ea).ud = s.ud := hUD
    refine A_aload_n ok.b rfl dX7_load_199 gp0 ?_
    refine A_aload_n ok.b rfl dX7_load_200 gp0 ?_
    refine A_getf ok.b cf7 6 (by decide) fl_X7_64 gp0 (gps (gps (gps (gps (gps (gps gp0)))))) dX7_load_201 ?_
    refine A_putf ok.b cf7 7 (by decide) rfl fl_X7_13 gp0 rfl rfl (gp_lt (gps (gps (gps (gps (gps (gps (gps gp0)))))))) (wps (wps (wps (wps (wps (wps (wps wp0))))))) wp0 dX7_load_204 ?_
    refine A_aload_n ok.b rfl dX7_load_207 gp0 ?_
    refine A_callVR ok [0, 1] [2, 3, 4, 5, 6, 7, 8, 9, 10, 11, 12] (As := []) (wr := ([(m 3, .inl (g.2.1 0, 1476, .inl (F.2))), (m 2, .inl (g.2.1 0, 1476, .inl (d))), (m 5, .inl (g.2.1 5, 8, .inr (.inr (.inr (.inr (fun j => some (h j))))))), rowC g h (R) 0, rowC g h (R) 1, rowC g h (R) 2, rowC g h (R) 3, rowC g h (R) 4, rowC g h (R) 5, rowC g h (R) 6, rowC g h (R) 7] : va_W)) mf_X7_isGood ml_X7_71 in_X7_isGood se_X7_isGood cf7 gp0 (r_isGood l g m (F.1.weo F.1.ea) B hYM.1) rfl rfl rfl dX7_load_208 rfl rfl rfl (by decide) (Nat.le_of_ble_eq_true rfl) ⟨(Nat.le_of_ble_eq_true rfl), (Nat.le_of_ble_eq_true rfl)⟩ ⟨(Nat.le_of_ble_eq_true rfl), (Nat.le_of_ble_eq_true rfl)⟩ (fun _ _ hx => hx.elim) (fun v208 w208 q208 => ?_)
    obtain ⟨rfl, rfl⟩ := q208
    rw [hYe]
    refine A_sub [11, 12, 0, 1, 2, 3, 4, 5, 6, 7, 8, 9, 10] (ws2 := (loW g m h (F.1.weo F.1.ea) B (F.2) (d) (R))) rfl rfl ?_
    refine A_if_ne ok.b (tgt := 219) dX7_load_211 (by decide) (fun c211 => ?_) (fun c211 => ?_)
    · skip
      have h9 : (F.1).er = 0 := by
        by_cases h : (F.1).er = 0
        · exact h
        · rw [if_neg h] at c211; exact absurd rfl c211
      refine A_aload_n ok.b rfl dX7_load_219 gp0 ?_
      refine A_callVR ok [0, 3, 4, 5, 6, 7, 8, 9, 10, 11, 12] [1, 2] (As := []) (wr := ([(m 1, .inl (g.2.1 0, 800, .inl B)), (m 3, .inl (g.2.1 0, 1476, .inl (F.2)))] : va_W)) mf_X7_remember ml_X7_203 in_X7_remember se_X7_remember cf7 gp0 (r_remember l g m h (F.1.weo F.1.ea) d R hYu) rfl rfl rfl dX7_load_220 rfl rfl rfl (by decide) (Nat.le_of_ble_eq_true rfl) ⟨(Nat.le_of_ble_eq_true rfl), (Nat.le_of_ble_eq_true rfl)⟩ ⟨(Nat.le_of_ble_eq_true rfl), (Nat.le_of_ble_eq_true rfl)⟩ (fun _ _ hx => hx.elim) (fun v220 w220 q220 => ?_)
      obtain ⟨rfl, rfl⟩ := q220
      rw [hYud]
      refine A_sub [2, 0, 1, 3, 4, 5, 6, 7, 8, 9, 10, 11, 12] (ws2 := (loW g m h (reS (F.1.weo F.1.ea)) B (F.2) (d) (reR s.ud d R))) rfl rfl ?_
      refine A_aload_n ok.b rfl dX7_load_223 gp0 ?_
      refine A_getf ok.b cf7 9 (by decide) fl_X7_20 gp0 (gps (gps (gps (gps (gps (gps (gps (gps (gps gp0))))))))) dX7_load_224 ?_
      refine A_aload_n ok.b rfl dX7_load_227 gp0 ?_
      refine A_getf ok.b cf7 8 (by decide) fl_X7_17 gp0 (gps (gps (gps (gps (gps (gps (gps (gps gp0)))))))) dX7_load_228 ?_
      refine A_callSR ok [2, 3] [0, 1, 4, 5, 6, 7, 8, 9, 10, 11, 12] (As := [_, _]) (wr := ([moC m (reS (F.1.weo F.1.ea)), (m 1, .inl (g.2.1 0, 800, .inl B)), (m 5, .inl (g.2.1 5, 8, .inr (.inr (.inr (.inr (fun j => some (h j))))))), rowC g h (reR s.ud d R) 0, rowC g h (reR s.ud d R) 1, rowC g h (reR s.ud d R) 2, rowC g h (reR s.ud d R) 3, rowC g h (reR s.ud d R) 4, rowC g h (reR s.ud d R) 5, rowC g h (reR s.ud d R) 6, rowC g h (reR s.ud d R) 7] : va_W)) mf_X7_copy ml_X7_206 rfl sc_X7_copy  (r_copy l g (m 3) (m 2) F.2 d) rfl rfl rfl dX7_load_231 rfl rfl rfl (by decide) (Nat.le_of_ble_eq_true rfl) ⟨(Nat.le_of_ble_eq_true rfl), (Nat.le_of_ble_eq_true rfl)⟩ ⟨(Nat.le_of_ble_eq_true rfl), (Nat.le_of_ble_eq_true rfl)⟩ (fun _ _ hx => hx.elim) (fun v231 w231 q231 => ?_)
      obtain ⟨rfl, rfl⟩ := q231
      refine A_sub [0, 1, 11, 12, 2, 3, 4, 5, 6, 7, 8, 9, 10] (ws2 := (loW g m h (reS (F.1.weo F.1.ea)) B (F.2) (F.2) (reR s.ud d R))) rfl rfl ?_
      refine A_aload_n ok.b rfl dX7_load_234 gp0 ?_
      refine A_getf ok.b cf7 8 (by decide) fl_X7_17 gp0 (gps (gps (gps (gps (gps (gps (gps (gps gp0)))))))) dX7_load_235 ?_
      refine A_iconst ok.b (v := 2) dX7_load_238 (by decide) ?_
      refine A_iald ok.b (gps (gps (gps gp0))) (ix_n (j := 2) (by decide) (by decide)) dX7_load_239 ?_
      refine A_iret ok dX7_load_240 (Nat.le_of_ble_eq_true rfl) (Nat.le_of_ble_eq_true rfl) ?_
      exact ⟨by rw [if_pos h9], by rw [if_pos h9]⟩
    · skip
      refine A_aload_n ok.b rfl dX7_load_214 gp0 ?_
      refine A_getf ok.b cf7 5 (by decide) fl_X7_61 gp0 (gps (gps (gps (gps (gps gp0))))) dX7_load_215 ?_
      refine A_iret ok dX7_load_218 (Nat.le_of_ble_eq_true rfl) (Nat.le_of_ble_eq_true rfl) ?_
      have h9 : ¬ (F.1).er = 0 := fun h => by rw [if_pos h] at c211; exact absurd c211 (by decide)
      exact ⟨by rw [if_neg h9] <;> rfl, by rw [if_neg h9]⟩
  have LW : ∀ (mm : Nat) (Y : LQ), SB Y.2 Y.1 → (Y.1.er = 0 → Y.1.tl + 1 ≤ Y.1.po + mm) → liL B mm Y = F → AW g A H0 3 K 177 [some (.ref (m 0)), some (.int (nI len)), none] [] (loW g m h (Y.1) B (Y.2) (d) (R)) 0 0 := by
    intro mm
    induction mm with
    | zero =>
      intro Y hY hm e
      have e : Y = F := e
      refine A_aload_n ok.b rfl dX7_load_177 gp0 ?_
      refine A_callVR ok [0, 1] [2, 3, 4, 5, 6, 7, 8, 9, 10, 11, 12] (As := []) (wr := ([(m 3, .inl (g.2.1 0, 1476, .inl (Y.2))), (m 2, .inl (g.2.1 0, 1476, .inl (d))), (m 5, .inl (g.2.1 5, 8, .inr (.inr (.inr (.inr (fun j => some (h j))))))), rowC g h (R) 0, rowC g h (R) 1, rowC g h (R) 2, rowC g h (R) 3, rowC g h (R) 4, rowC g h (R) 5, rowC g h (R) 6, rowC g h (R) 7] : va_W)) mf_X7_isGood ml_X7_71 in_X7_isGood se_X7_isGood cf7 gp0 (r_isGood l g m Y.1 B hY.1.mi.1) rfl rfl rfl dX7_load_178 rfl rfl rfl (by decide) (Nat.le_of_ble_eq_true rfl) ⟨(Nat.le_of_ble_eq_true rfl), (Nat.le_of_ble_eq_true rfl)⟩ ⟨(Nat.le_of_ble_eq_true rfl), (Nat.le_of_ble_eq_true rfl)⟩ (fun _ _ hx => hx.elim) (fun v178 w178 q178 => ?_)
      obtain ⟨rfl, rfl⟩ := q178
      refine A_sub [11, 12, 0, 1, 2, 3, 4, 5, 6, 7, 8, 9, 10] (ws2 := (loW g m h (Y.1) B (Y.2) (d) (R))) rfl rfl ?_
      refine A_if_eq ok.b (tgt := 199) dX7_load_181 (by decide) (fun c181 => ?_) (fun c181 => ?_)
      · skip
        subst e
        exact LX hY.1
      · skip
        have h9 : (Y.1).er = 0 := by
          by_cases h : (Y.1).er = 0
          · exact h
          · rw [if_neg h] at c181; exact absurd rfl c181
        have h1 := hm h9
        have h2 := hY.1.1
        omega
    | succ mm ih =>
      intro Y hY hm e
      rw [liL_s] at e
      refine A_aload_n ok.b rfl dX7_load_177 gp0 ?_
      refine A_callVR ok [0, 1] [2, 3, 4, 5, 6, 7, 8, 9, 10, 11, 12] (As := []) (wr := ([(m 3, .inl (g.2.1 0, 1476, .inl (Y.2))), (m 2, .inl (g.2.1 0, 1476, .inl (d))), (m 5, .inl (g.2.1 5, 8, .inr (.inr (.inr (.inr (fun j => some (h j))))))), rowC g h (R) 0, rowC g h (R) 1, rowC g h (R) 2, rowC g h (R) 3, rowC g h (R) 4, rowC g h (R) 5, rowC g h (R) 6, rowC g h (R) 7] : va_W)) mf_X7_isGood ml_X7_71 in_X7_isGood se_X7_isGood cf7 gp0 (r_isGood l g m Y.1 B hY.1.mi.1) rfl rfl rfl dX7_load_178 rfl rfl rfl (by decide) (Nat.le_of_ble_eq_true rfl) ⟨(Nat.le_of_ble_eq_true rfl), (Nat.le_of_ble_eq_true rfl)⟩ ⟨(Nat.le_of_ble_eq_true rfl), (Nat.le_of_ble_eq_true rfl)⟩ (fun _ _ hx => hx.elim) (fun v178 w178 q178 => ?_)
      obtain ⟨rfl, rfl⟩ := q178
      refine A_sub [11, 12, 0, 1, 2, 3, 4, 5, 6, 7, 8, 9, 10] (ws2 := (loW g m h (Y.1) B (Y.2) (d) (R))) rfl rfl ?_
      refine A_if_eq ok.b (tgt := 199) dX7_load_181 (by decide) (fun c181 => ?_) (fun c181 => ?_)
      · skip
        have h9 : ¬ (Y.1).er = 0 := fun h => by rw [if_pos h] at c181; exact absurd c181 (by decide)
        rw [if_neg h9] at e
        subst e
        exact LX hY.1
      · skip
        have h9 : (Y.1).er = 0 := by
          by_cases h : (Y.1).er = 0
          · exact h
          · rw [if_neg h] at c181; exact absurd rfl c181
        rw [if_pos h9] at e
        have hm1 := hm h9
        have hN : SB Y.2 (nxR B Y.1) := SB_k hY (Kp_nx hY.1)
        have hn1 : Y.1.po ≤ (nxR B Y.1).po := scanE_ge _
        have ht1 : (nxR B Y.1).tl = Y.1.tl := rfl
        have eb : byR B Y.1.tl (scanE fSp B Y.1.tl Y.1.po) = btL B (nxR B Y.1, Y.2) := rfl
        rw [show nxL B Y = (nxR B Y.1, Y.2) from rfl] at e
        refine A_aload_n ok.b rfl dX7_load_184 gp0 ?_
        refine A_callVR ok [0, 1] [2, 3, 4, 5, 6, 7, 8, 9, 10, 11, 12] (As := []) (wr := ([(m 3, .inl (g.2.1 0, 1476, .inl (Y.2))), (m 2, .inl (g.2.1 0, 1476, .inl (d))), (m 5, .inl (g.2.1 5, 8, .inr (.inr (.inr (.inr (fun j => some (h j))))))), rowC g h (R) 0, rowC g h (R) 1, rowC g h (R) 2, rowC g h (R) 3, rowC g h (R) 4, rowC g h (R) 5, rowC g h (R) 6, rowC g h (R) 7] : va_W)) mf_X7_next ml_X7_75 in_X7_next se_X7_next cf7 gp0 (r_next l g m Y.1 B hY.1.mi.1 hY.1.mi.2) rfl rfl rfl dX7_load_185 rfl rfl rfl (by decide) (Nat.le_of_ble_eq_true rfl) ⟨(Nat.le_of_ble_eq_true rfl), (Nat.le_of_ble_eq_true rfl)⟩ ⟨(Nat.le_of_ble_eq_true rfl), (Nat.le_of_ble_eq_true rfl)⟩ (fun _ _ hx => hx.elim) (fun v185 w185 q185 => ?_)
        obtain ⟨rfl, rfl⟩ := q185
        rw [eb]
        generalize nxR B Y.1 = Z at hN hn1 ht1 e ⊢
        generalize Y.2 = E at hN e ⊢
        refine A_sub [11, 12, 0, 1, 2, 3, 4, 5, 6, 7, 8, 9, 10] (ws2 := (loW g m h (Z) B (E) (d) (R))) rfl rfl ?_
        refine A_iconst ok.b (v := (-1)) dX7_load_188 (by decide) ?_
        refine A_icmp_eq ok.b (tgt := 199) dX7_load_189 (by decide) (fun c189 => ?_) (fun c189 => ?_)
        · skip
          rw [if_pos c189] at e
          subst e
          exact LX hN.1
        · skip
          rw [if_neg c189] at e
          refine A_aload_n ok.b rfl dX7_load_192 gp0 ?_
          refine A_callVR ok [0, 1, 2] [3, 4, 5, 6, 7, 8, 9, 10, 11, 12] (As := []) (wr := ([(m 2, .inl (g.2.1 0, 1476, .inl (d))), (m 5, .inl (g.2.1 5, 8, .inr (.inr (.inr (.inr (fun j => some (h j))))))), rowC g h (R) 0, rowC g h (R) 1, rowC g h (R) 2, rowC g h (R) 3, rowC g h (R) 4, rowC g h (R) 5, rowC g h (R) 6, rowC g h (R) 7] : va_W)) mf_X7_statement ml_X7_200 in_X7_statement se_X7_statement cf7 gp0 (r_statement l g m B (Z, E) hN.1 hN.2.1 hN.2.2.1 hN.2.2.2.1 hN.2.2.2.2) rfl rfl rfl dX7_load_193 rfl rfl rfl (by decide) (Nat.le_of_ble_eq_true rfl) ⟨(Nat.le_of_ble_eq_true rfl), (Nat.le_of_ble_eq_true rfl)⟩ ⟨(Nat.le_of_ble_eq_true rfl), (Nat.le_of_ble_eq_true rfl)⟩ (fun _ _ hx => hx.elim) (fun v193 w193 q193 => ?_)
          obtain ⟨rfl, rfl⟩ := q193
          have hS : SB (stM B (Z, E)).2 (stM B (Z, E)).1 := SB_stM (X := (Z, E)) hN
          have hp := fun h => st_pos (B := B) (X := (Z, E)) hN.1 h
          have hk := Ko_stM (B := B) (X := (Z, E)) hN.1
          generalize stM B (Z, E) = G at hS hp hk e ⊢
          refine A_sub [10, 11, 12, 0, 1, 2, 3, 4, 5, 6, 7, 8, 9] (ws2 := (loW g m h (G.1) B (G.2) (d) (R))) rfl rfl ?_
          refine A_goto ok.b (tgt := 177) dX7_load_196 (by decide) ?_
          have ht2 : G.1.tl = Z.tl := hk.2.1
          exact ih G hS (fun h => by have h8 : Z.po < G.1.po := hp h; omega) e
  have hHead : ∀ S0 : MS, MJ S0 → SB (ldH B S0).2 (ldH B S0).1 → S0.tl ≤ 800 → ldF B S0 = F → AW g A H0 3 K 127 [some (.ref (m 0)), some (.int (nI len)), none] [] (loW g m h (S0) B (ld0) (d) (R)) 0 0 := by
    intro S0 hJ0 hSB h80 hF0
    have M146 : ∀ T : MS, ldB B S0 = T → MJ T → AW g A H0 3 K 146 [some (.ref (m 0)), some (.int (nI len)), none] [] (loW g m h (T) B (ld0) (d) (R)) 0 0 := by
      intro T hT hTJ
      have hN1 := (Kp_num (B := B) (lo := 2) (hi := 12) hTJ).mj hTJ
      have eH : ldH B S0 = (expR2 B 59 (numM B 1 4 (numM B 2 12 T).2).2, upd (upd ld0 0 (numM B 2 12 T).1) 1 (numM B 1 4 (numM B 2 12 T).2).1) := by rw [ldH, ldK, ldN, hT]
      have hF1 : liL B 801 (ldH B S0) = F := hF0
      rw [eH] at hSB hF1
      refine A_aload_n ok.b rfl dX7_load_146 gp0 ?_
      refine A_getf ok.b cf7 9 (by decide) fl_X7_20 gp0 (gps (gps (gps (gps (gps (gps (gps (gps (gps gp0))))))))) dX7_load_147 ?_
      refine A_iconst ok.b (v := 0) dX7_load_150 (by decide) ?_
      refine A_aload_n ok.b rfl dX7_load_151 gp0 ?_
      refine A_iconst ok.b (v := 2) dX7_load_152 (by decide) ?_
      refine A_bipush ok.b (v := 12) dX7_load_153 (by decide) ?_
      refine A_callVR ok [0, 1] [2, 3, 4, 5, 6, 7, 8, 9, 10, 11, 12] (As := [_, _]) (wr := ([(m 3, .inl (g.2.1 0, 1476, .inl (ld0))), (m 2, .inl (g.2.1 0, 1476, .inl (d))), (m 5, .inl (g.2.1 5, 8, .inr (.inr (.inr (.inr (fun j => some (h j))))))), rowC g h (R) 0, rowC g h (R) 1, rowC g h (R) 2, rowC g h (R) 3, rowC g h (R) 4, rowC g h (R) 5, rowC g h (R) 6, rowC g h (R) 7] : va_W)) mf_X7_number ml_X7_104 in_X7_number se_X7_number cf7 gp0 (r_number l g m T B hTJ.mi.1 hTJ.mi.2 2 12) rfl rfl rfl dX7_load_155 rfl rfl rfl (by decide) (Nat.le_of_ble_eq_true rfl) ⟨(Nat.le_of_ble_eq_true rfl), (Nat.le_of_ble_eq_true rfl)⟩ ⟨(Nat.le_of_ble_eq_true rfl), (Nat.le_of_ble_eq_true rfl)⟩ (fun _ _ hx => hx.elim) (fun v155 w155 q155 => ?_)
      obtain ⟨rfl, rfl⟩ := q155
      generalize numM B 2 12 T = N9 at hN1 hSB hF1 ⊢
      have hK1 := (Kp_num (B := B) (lo := 1) (hi := 4) hN1).mj hN1
      refine A_sub [11, 12, 0, 1, 2, 3, 4, 5, 6, 7, 8, 9, 10] (ws2 := (loW g m h (N9.2) B (ld0) (d) (R))) rfl rfl ?_
      refine A_iast ok.b (gps (gps gp0)) (ix_n (j := 0) (by decide) (by decide)) (wps (wps wp0)) dX7_load_158 ?_
      refine A_aload_n ok.b rfl dX7_load_159 gp0 ?_
      refine A_getf ok.b cf7 9 (by decide) fl_X7_20 gp0 (gps (gps (gps (gps (gps (gps (gps (gps (gps gp0))))))))) dX7_load_160 ?_
      refine A_iconst ok.b (v := 1) dX7_load_163 (by decide) ?_
      refine A_aload_n ok.b rfl dX7_load_164 gp0 ?_
      refine A_iconst ok.b (v := 1) dX7_load_165 (by decide) ?_
      refine A_iconst ok.b (v := 4) dX7_load_166 (by decide) ?_
      refine A_callVR ok [0, 1] [2, 3, 4, 5, 6, 7, 8, 9, 10, 11, 12] (As := [_, _]) (wr := ([(m 3, .inl (g.2.1 0, 1476, .inl (upd ld0 0 N9.1))), (m 2, .inl (g.2.1 0, 1476, .inl (d))), (m 5, .inl (g.2.1 5, 8, .inr (.inr (.inr (.inr (fun j => some (h j))))))), rowC g h (R) 0, rowC g h (R) 1, rowC g h (R) 2, rowC g h (R) 3, rowC g h (R) 4, rowC g h (R) 5, rowC g h (R) 6, rowC g h (R) 7] : va_W)) mf_X7_number ml_X7_104 in_X7_number se_X7_number cf7 gp0 (r_number l g m N9.2 B hN1.mi.1 hN1.mi.2 1 4) rfl rfl rfl dX7_load_167 rfl rfl rfl (by decide) (Nat.le_of_ble_eq_true rfl) ⟨(Nat.le_of_ble_eq_true rfl), (Nat.le_of_ble_eq_true rfl)⟩ ⟨(Nat.le_of_ble_eq_true rfl), (Nat.le_of_ble_eq_true rfl)⟩ (fun _ _ hx => hx.elim) (fun v167 w167 q167 => ?_)
      obtain ⟨rfl, rfl⟩ := q167
      generalize numM B 1 4 N9.2 = K9 at hK1 hSB hF1 ⊢
      refine A_sub [11, 12, 0, 1, 2, 3, 4, 5, 6, 7, 8, 9, 10] (ws2 := (loW g m h (K9.2) B (upd ld0 0 N9.1) (d) (R))) rfl rfl ?_
      refine A_iast ok.b (gps (gps gp0)) (ix_n (j := 1) (by decide) (by decide)) (wps (wps wp0)) dX7_load_170 ?_
      refine A_aload_n ok.b rfl dX7_load_171 gp0 ?_
      refine A_bipush ok.b (v := 59) dX7_load_172 (by decide) ?_
      refine A_callVR ok [0, 1] [2, 3, 4, 5, 6, 7, 8, 9, 10, 11, 12] (As := [_]) (wr := ([(m 3, .inl (g.2.1 0, 1476, .inl (upd (upd ld0 0 N9.1) 1 K9.1))), (m 2, .inl (g.2.1 0, 1476, .inl (d))), (m 5, .inl (g.2.1 5, 8, .inr (.inr (.inr (.inr (fun j => some (h j))))))), rowC g h (R) 0, rowC g h (R) 1, rowC g h (R) 2, rowC g h (R) 3, rowC g h (R) 4, rowC g h (R) 5, rowC g h (R) 6, rowC g h (R) 7] : va_W)) mf_X7_expect ml_X7_121 in_X7_expect se_X7_expect cf7 gp0 (r_expect l g m K9.2 B hK1.mi.1 hK1.mi.2 59) rfl rfl rfl dX7_load_174 rfl rfl rfl (by decide) (Nat.le_of_ble_eq_true rfl) ⟨(Nat.le_of_ble_eq_true rfl), (Nat.le_of_ble_eq_true rfl)⟩ ⟨(Nat.le_of_ble_eq_true rfl), (Nat.le_of_ble_eq_true rfl)⟩ (fun _ _ hx => hx.elim) (fun v174 w174 q174 => ?_)
      obtain ⟨rfl, rfl⟩ := q174
      refine A_sub [11, 12, 0, 1, 2, 3, 4, 5, 6, 7, 8, 9, 10] (ws2 := (loW g m h (expR2 B 59 K9.2) B (upd (upd ld0 0 N9.1) 1 K9.1) (d) (R))) rfl rfl ?_
      exact LW 801 (expR2 B 59 K9.2, upd (upd ld0 0 N9.1) 1 K9.1) hSB (fun _ => by have h1 := hSB.1.2; omega) hF1
    have hT := (Kp_tw (B := B) (i := 0) (by decide) hJ0).mj hJ0
    have eB : ldB B S0 = if (twR B 0 S0).1 = true then (twR B 0 S0).2 else repR (-2) (nI (twR B 0 S0).2.po) (twR B 0 S0).2 := rfl
    refine A_aload_n ok.b rfl dX7_load_127 gp0 ?_
    refine A_ldcS ok.b (List.mem_of_getElem? (l := sTab) (i := 14) rfl) dX7_load_128 ?_
    refine A_callVR ok [0, 1] [2, 3, 4, 5, 6, 7, 8, 9, 10, 11, 12] (As := [_]) (wr := ([(m 3, .inl (g.2.1 0, 1476, .inl (ld0))), (m 2, .inl (g.2.1 0, 1476, .inl (d))), (m 5, .inl (g.2.1 5, 8, .inr (.inr (.inr (.inr (fun j => some (h j))))))), rowC g h (R) 0, rowC g h (R) 1, rowC g h (R) 2, rowC g h (R) 3, rowC g h (R) 4, rowC g h (R) 5, rowC g h (R) 6, rowC g h (R) 7] : va_W)) mf_X7_takeWord ml_X7_109 in_X7_takeWord se_X7_takeWord cf7 gp0 (r_takeWord l g m S0 B hJ0.mi.1 hJ0.mi.2 0 (by decide)) rfl rfl rfl dX7_load_130 rfl rfl rfl (by decide) (Nat.le_of_ble_eq_true rfl) ⟨(Nat.le_of_ble_eq_true rfl), (Nat.le_of_ble_eq_true rfl)⟩ ⟨(Nat.le_of_ble_eq_true rfl), (Nat.le_of_ble_eq_true rfl)⟩ (fun _ _ hx => hx.elim) (fun v130 w130 q130 => ?_)
    obtain ⟨rfl, rfl⟩ := q130
    generalize twR B 0 S0 = W at hT eB ⊢
    refine A_sub [11, 12, 0, 1, 2, 3, 4, 5, 6, 7, 8, 9, 10] (ws2 := (loW g m h (W.2) B (ld0) (d) (R))) rfl rfl ?_
    refine A_if_ne ok.b (tgt := 146) dX7_load_133 (by decide) (fun c133 => ?_) (fun c133 => ?_)
    · skip
      rw [if_pos (bI_n c133)] at eB
      exact M146 _ eB hT
    · skip
      refine A_aload_n ok.b rfl dX7_load_136 gp0 ?_
      refine A_bipush ok.b (v := (-2)) dX7_load_137 (by decide) ?_
      refine A_aload_n ok.b rfl dX7_load_139 gp0 ?_
      refine A_getf ok.b cf7 4 (by decide) fl_X7_54 gp0 (gps (gps (gps (gps gp0)))) dX7_load_140 ?_
      refine A_callVR ok [0, 1] [2, 3, 4, 5, 6, 7, 8, 9, 10, 11, 12] (As := [_, _]) (wr := ([(m 3, .inl (g.2.1 0, 1476, .inl (ld0))), (m 2, .inl (g.2.1 0, 1476, .inl (d))), (m 5, .inl (g.2.1 5, 8, .inr (.inr (.inr (.inr (fun j => some (h j))))))), rowC g h (R) 0, rowC g h (R) 1, rowC g h (R) 2, rowC g h (R) 3, rowC g h (R) 4, rowC g h (R) 5, rowC g h (R) 6, rowC g h (R) 7] : va_W)) mf_X7_report ml_X7_88 in_X7_report se_X7_report cf7 gp0 (r_report l g m W.2 B hT.mi.1 _ _) rfl rfl rfl dX7_load_143 rfl rfl rfl (by decide) (Nat.le_of_ble_eq_true rfl) ⟨(Nat.le_of_ble_eq_true rfl), (Nat.le_of_ble_eq_true rfl)⟩ ⟨(Nat.le_of_ble_eq_true rfl), (Nat.le_of_ble_eq_true rfl)⟩ (fun _ _ hx => hx.elim) (fun v143 w143 q143 => ?_)
      obtain ⟨rfl, rfl⟩ := q143
      refine A_sub [11, 12, 0, 1, 2, 3, 4, 5, 6, 7, 8, 9, 10] (ws2 := (loW g m h (repR (-2) (nI W.2.po) W.2) B (ld0) (d) (R))) rfl rfl ?_
      rw [if_neg (bI_z c133)] at eB
      exact M146 _ eB ((Kp_rep (by decide) hT).mj hT)
  have hHd := hHead (ldS s len) hJ (SB_ldH (by omega)) hJ.2 hF
  clear hHead LW LX
  have LB2 : ∀ k, k ≤ 12 → AW g A H0 3 K 103 [some (.ref (m 0)), some (.int (nI len)), some (.int (nI k))] [] (loW g m h (ldS s len) B (foldN (fun k f => upd f (12 + 7 * k + 4) (-1)) (upd (fun _ => 0) 4 (-1)) k) (d) (R)) 0 0 := by
    refine up_ind 12 ?_ (fun k hk ih => ?_)
    · skip
      refine A_iload_n ok.b rfl dX7_load_103 (gps (gps gp0)) ?_
      refine A_bipush ok.b (v := 12) dX7_load_104 (by decide) ?_
      refine A_icmp_ge ok.b (tgt := 127) dX7_load_106 (by decide) (fun c106 => ?_) (fun c106 => ((show False from c106 (by decide))).elim)
      refine A_lv (lleK (lleK (lleD lle0))) ?_
      exact hHd
    · rw [foldN_s] at ih
      refine A_iload_n ok.b rfl dX7_load_103 (gps (gps gp0)) ?_
      refine A_bipush ok.b (v := 12) dX7_load_104 (by decide) ?_
      refine A_icmp_ge ok.b (tgt := 127) dX7_load_106 (by decide) (fun c106 => ((show False from nI_ge (a := k) (b := 12) hk (by decide) c106)).elim) (fun c106 => ?_)
      refine A_aload_n ok.b rfl dX7_load_109 gp0 ?_
      refine A_getf ok.b cf7 9 (by decide) fl_X7_20 gp0 (gps (gps (gps (gps (gps (gps (gps (gps (gps gp0))))))))) dX7_load_110 ?_
      refine A_iload_n ok.b rfl dX7_load_113 (gps (gps gp0)) ?_
      refine A_pureS ok.b (As := [_]) mf_X7_section ml_X7_143 rfl sc_X7_section (r_section l g _) rfl rfl dX7_load_114 (Nat.le_of_ble_eq_true rfl) ⟨(Nat.le_of_ble_eq_true rfl), (Nat.le_of_ble_eq_true rfl)⟩ ⟨(Nat.le_of_ble_eq_true rfl), (Nat.le_of_ble_eq_true rfl)⟩ ?_
      rw [sec_n (by omega)]
      refine A_iconst ok.b (v := 4) dX7_load_117 (by decide) ?_
      refine A_iadd ok.b dX7_load_118 ?_
      rw [show nI (12 + 7 * k) + 4 = nI (12 + 7 * k + 4) from nI_add _ 4]
      refine A_iconst ok.b (v := (-1)) dX7_load_119 (by decide) ?_
      refine A_iast ok.b (gps (gps gp0)) (ix_n (by omega) (by decide)) (wps (wps wp0)) dX7_load_120 ?_
      refine A_iinc ok.b (v := _ + 1) dX7_load_121 (gps (gps gp0)) rfl (by decide) (sts (sts1 rfl st0)) ?_
      refine A_goto ok.b (tgt := 103) dX7_load_124 (by decide) ?_
      rw [nI_1]
      exact ih
  have LZ : ∀ k, k ≤ 1476 → AW g A H0 3 K 74 [some (.ref (m 0)), some (.int (nI len)), some (.int (nI k))] [] (loW g m h (ldS s len) B (kI k 0 D) (d) (R)) 0 0 := by
    refine up_ind 1476 ?_ (fun k hk ih => ?_)
    · refine A_ext (ws2 := (loW g m h (ldS s len) B (fun _ => 0) (d) (R))) (weqs (weqs (weqc (ceq_i (fun j hj => by rw [kI, if_pos hj])) (weq_r _)))) ?_
      refine A_iload_n ok.b rfl dX7_load_74 (gps (gps gp0)) ?_
      refine A_sipush ok.b (v := 1476) dX7_load_75 (by decide) ?_
      refine A_icmp_ge ok.b (tgt := 94) dX7_load_78 (by decide) (fun c78 => ?_) (fun c78 => ((show False from c78 (by decide))).elim)
      refine A_aload_n ok.b rfl dX7_load_94 gp0 ?_
      refine A_getf ok.b cf7 9 (by decide) fl_X7_20 gp0 (gps (gps (gps (gps (gps (gps (gps (gps (gps gp0))))))))) dX7_load_95 ?_
      refine A_iconst ok.b (v := 4) dX7_load_98 (by decide) ?_
      refine A_iconst ok.b (v := (-1)) dX7_load_99 (by decide) ?_
      refine A_iast ok.b (gps (gps gp0)) (ix_n (j := 4) (by decide) (by decide)) (wps (wps wp0)) dX7_load_100 ?_
      refine A_iconst ok.b (v := 0) dX7_load_101 (by decide) ?_
      refine A_istore_n ok.b rfl dX7_load_102 (by decide) (sts (sts1 rfl st0)) ?_
      exact LB2 0 (Nat.zero_le _)
    · skip
      refine A_iload_n ok.b rfl dX7_load_74 (gps (gps gp0)) ?_
      refine A_sipush ok.b (v := 1476) dX7_load_75 (by decide) ?_
      refine A_icmp_ge ok.b (tgt := 94) dX7_load_78 (by decide) (fun c78 => ((show False from nI_ge (a := k) (b := 1476) hk (by decide) c78)).elim) (fun c78 => ?_)
      refine A_aload_n ok.b rfl dX7_load_81 gp0 ?_
      refine A_getf ok.b cf7 9 (by decide) fl_X7_20 gp0 (gps (gps (gps (gps (gps (gps (gps (gps (gps gp0))))))))) dX7_load_82 ?_
      refine A_iload_n ok.b rfl dX7_load_85 (gps (gps gp0)) ?_
      refine A_iconst ok.b (v := 0) dX7_load_86 (by decide) ?_
      refine A_iast ok.b (gps (gps gp0)) (ix_n hk (by decide)) (wps (wps wp0)) dX7_load_87 ?_
      refine A_iinc ok.b (v := _ + 1) dX7_load_88 (gps (gps gp0)) rfl (by decide) (sts (sts1 rfl st0)) ?_
      refine A_goto ok.b (tgt := 74) dX7_load_91 (by decide) ?_
      rw [nI_1]
      refine A_ext (ws2 := (loW g m h (ldS s len) B (kI (k + 1) 0 D) (d) (R))) (weqs (weqs (weqc (ceq_i (fun j _ => kI_s j)) (weq_r _)))) ?_
      exact ih
  refine A_aload_n ok.b rfl dX7_load_0 gp0 ?_
  refine A_iconst ok.b (v := 0) dX7_load_1 (by decide) ?_
  refine A_putf ok.b cf7 0 (by decide) rfl fl_X7_45 gp0 rfl rfl (gp_lt gp0) wp0 wp0 dX7_load_2 ?_
  refine A_aload_n ok.b rfl dX7_load_5 gp0 ?_
  refine A_iload_n ok.b rfl dX7_load_6 (gps gp0) ?_
  refine A_iconst ok.b (v := 0) dX7_load_7 (by decide) ?_
  refine A_aload_n ok.b rfl dX7_load_8 gp0 ?_
  refine A_getf ok.b cf7 2 (by decide) fl_X7_48 gp0 (gps (gps gp0)) dX7_load_9 ?_
  refine A_pureS ok.b (As := [_, _, _]) mf_X7_in ml_X7_67 rfl sc_X7_in (r_in l g _ _ _) rfl rfl dX7_load_12 (Nat.le_of_ble_eq_true rfl) ⟨(Nat.le_of_ble_eq_true rfl), (Nat.le_of_ble_eq_true rfl)⟩ ⟨(Nat.le_of_ble_eq_true rfl), (Nat.le_of_ble_eq_true rfl)⟩ ?_
  refine A_if_ne ok.b (tgt := 22) dX7_load_15 (by decide) (fun c15 => ?_) (fun c15 => ((show False from absurd hin (by rw [bI_ff c15]; decide))).elim)
  refine A_iconst ok.b (v := 0) dX7_load_22 (by decide) ?_
  refine A_iconst ok.b (v := 1) dX7_load_23 (by decide) ?_
  refine A_callVR ok [0] [1, 2, 3, 4, 5, 6, 7, 8, 9, 10, 11, 12] (As := [_, _]) (wr := ([(m 1, .inl (g.2.1 0, 800, .inl B)), (m 3, .inl (g.2.1 0, 1476, .inl (D))), (m 2, .inl (g.2.1 0, 1476, .inl (d))), (m 5, .inl (g.2.1 5, 8, .inr (.inr (.inr (.inr (fun j => some (h j))))))), rowC g h (R) 0, rowC g h (R) 1, rowC g h (R) 2, rowC g h (R) 3, rowC g h (R) 4, rowC g h (R) 5, rowC g h (R) 6, rowC g h (R) 7] : va_W)) mf_X7_fails ml_X7_194 in_X7_fails se_X7_fails cf7 gp0 (r_fails l g m (s.wth 0) rfl false 1 (by decide)) rfl rfl rfl dX7_load_24 rfl rfl rfl (by decide) (Nat.le_of_ble_eq_true rfl) ⟨(Nat.le_of_ble_eq_true rfl), (Nat.le_of_ble_eq_true rfl)⟩ ⟨(Nat.le_of_ble_eq_true rfl), (Nat.le_of_ble_eq_true rfl)⟩ (fun _ _ hx => hx.elim) (fun v24 w24 q24 => ?_)
  obtain ⟨rfl, rfl⟩ := q24
  rw [show thS false 1 (s.wth 0) = s.wth 0 from rfl]
  refine A_sub [12, 0, 1, 2, 3, 4, 5, 6, 7, 8, 9, 10, 11] (ws2 := (loW g m h (s.wth 0) B (D) (d) (R))) rfl rfl ?_
  refine A_if_eq ok.b (tgt := 32) dX7_load_27 (by decide) (fun c27 => ?_) (fun c27 => ((show False from c27 rfl)).elim)
  refine A_aload_n ok.b rfl dX7_load_32 gp0 ?_
  refine A_iconst ok.b (v := 0) dX7_load_33 (by decide) ?_
  refine A_putf ok.b cf7 2 (by decide) rfl fl_X7_48 gp0 rfl rfl (gp_lt (gps (gps gp0))) (wps (wps wp0)) wp0 dX7_load_34 ?_
  refine A_aload_n ok.b rfl dX7_load_37 gp0 ?_
  refine A_iload_n ok.b rfl dX7_load_38 (gps gp0) ?_
  refine A_putf ok.b cf7 3 (by decide) rfl fl_X7_51 gp0 rfl rfl (gp_lt (gps (gps (gps gp0)))) (wps (wps (wps wp0))) wp0 dX7_load_39 ?_
  refine A_aload_n ok.b rfl dX7_load_42 gp0 ?_
  refine A_iconst ok.b (v := 0) dX7_load_43 (by decide) ?_
  refine A_putf ok.b cf7 4 (by decide) rfl fl_X7_54 gp0 rfl rfl (gp_lt (gps (gps (gps (gps gp0))))) (wps (wps (wps (wps wp0)))) wp0 dX7_load_44 ?_
  refine A_aload_n ok.b rfl dX7_load_47 gp0 ?_
  refine A_iconst ok.b (v := 0) dX7_load_48 (by decide) ?_
  refine A_putf ok.b cf7 5 (by decide) rfl fl_X7_61 gp0 rfl rfl (gp_lt (gps (gps (gps (gps (gps gp0)))))) (wps (wps (wps (wps (wps wp0))))) wp0 dX7_load_49 ?_
  refine A_aload_n ok.b rfl dX7_load_52 gp0 ?_
  refine A_iconst ok.b (v := (-1)) dX7_load_53 (by decide) ?_
  refine A_putf ok.b cf7 6 (by decide) rfl fl_X7_64 gp0 rfl rfl (gp_lt (gps (gps (gps (gps (gps (gps gp0))))))) (wps (wps (wps (wps (wps (wps wp0)))))) wp0 dX7_load_54 ?_
  refine A_aload_n ok.b rfl dX7_load_57 gp0 ?_
  refine A_iconst ok.b (v := 0) dX7_load_58 (by decide) ?_
  refine A_putf ok.b cf7 14 (by decide) rfl fl_X7_115 gp0 rfl rfl (gp_lt (gps (gps (gps (gps (gps (gps (gps (gps (gps (gps (gps (gps (gps (gps gp0))))))))))))))) (wps (wps (wps (wps (wps (wps (wps (wps (wps (wps (wps (wps (wps (wps wp0)))))))))))))) wp0 dX7_load_59 ?_
  refine A_aload_n ok.b rfl dX7_load_62 gp0 ?_
  refine A_iconst ok.b (v := 0) dX7_load_63 (by decide) ?_
  refine A_putf ok.b cf7 15 (by decide) rfl fl_X7_165 gp0 rfl rfl (gp_lt (gps (gps (gps (gps (gps (gps (gps (gps (gps (gps (gps (gps (gps (gps (gps gp0)))))))))))))))) (wps (wps (wps (wps (wps (wps (wps (wps (wps (wps (wps (wps (wps (wps (wps wp0))))))))))))))) wp0 dX7_load_64 ?_
  refine A_aload_n ok.b rfl dX7_load_67 gp0 ?_
  refine A_iconst ok.b (v := 0) dX7_load_68 (by decide) ?_
  refine A_putf ok.b cf7 16 (by decide) rfl fl_X7_146 gp0 rfl rfl (gp_lt (gps (gps (gps (gps (gps (gps (gps (gps (gps (gps (gps (gps (gps (gps (gps (gps gp0))))))))))))))))) (wps (wps (wps (wps (wps (wps (wps (wps (wps (wps (wps (wps (wps (wps (wps (wps wp0)))))))))))))))) wp0 dX7_load_69 ?_
  refine A_iconst ok.b (v := 0) dX7_load_72 (by decide) ?_
  refine A_istore_n ok.b rfl dX7_load_73 (by decide) (sts (sts1 rfl st0)) ?_
  refine A_ext (ws2 := (loW g m h (ldS s len) B (kI 0 0 D) (d) (R))) (weqs (weqs (weqc (ceq_i (fun j _ => kI_0 j)) (weq_r _)))) ?_
  exact LZ 0 (Nat.zero_le _)
set_option maxRecDepth 20000 in
set_option maxHeartbeats 2000000 in
theorem r_loadX (l : Launch) (g : Gl) (m h : Nat → Nat) (s : MS) (B D d : Nat → Int32) (R : Nat → Nat → Int32) (hu : s.ud ≤ 8) (hbl : s.bl ≤ 800) (x0 : Int32) (hin : inB x0 0 (nI s.bl) = false) : Ct l g yX7_load cX7_load 3 (some .int) 1 40 0 0 [.ref (m 0), .int x0] (loW g m h (s) B (D) (d) (R)) (fun v w => v = some (.int 0) ∧ w = (loW g m h (s.wth 1) B (D) (d) (R))) noX := by
  refine Ct.intro [some (.ref (m 0)), some (.int x0), none] (by decide +kernel) (fun _ h => h) (Nat.le_of_ble_eq_true rfl) (fun A H0 K ok => ?_)
  refine A_aload_n ok.b rfl dX7_load_0 gp0 ?_
  refine A_iconst ok.b (v := 0) dX7_load_1 (by decide) ?_
  refine A_putf ok.b cf7 0 (by decide) rfl fl_X7_45 gp0 rfl rfl (gp_lt gp0) wp0 wp0 dX7_load_2 ?_
  refine A_aload_n ok.b rfl dX7_load_5 gp0 ?_
  refine A_iload_n ok.b rfl dX7_load_6 (gps gp0) ?_
  refine A_iconst ok.b (v := 0) dX7_load_7 (by decide) ?_
  refine A_aload_n ok.b rfl dX7_load_8 gp0 ?_
  refine A_getf ok.b cf7 2 (by decide) fl_X7_48 gp0 (gps (gps gp0)) dX7_load_9 ?_
  refine A_pureS ok.b (As := [_, _, _]) mf_X7_in ml_X7_67 rfl sc_X7_in (r_in l g _ _ _) rfl rfl dX7_load_12 (Nat.le_of_ble_eq_true rfl) ⟨(Nat.le_of_ble_eq_true rfl), (Nat.le_of_ble_eq_true rfl)⟩ ⟨(Nat.le_of_ble_eq_true rfl), (Nat.le_of_ble_eq_true rfl)⟩ ?_
  refine A_if_ne ok.b (tgt := 22) dX7_load_15 (by decide) (fun c15 => ((show False from by have h9 := bI_n c15; rw [hin] at h9; exact absurd h9 (by decide))).elim) (fun c15 => ?_)
  refine A_iconst ok.b (v := 1) dX7_load_18 (by decide) ?_
  refine A_goto ok.b (tgt := 23) dX7_load_19 (by decide) ?_
  refine A_iconst ok.b (v := 1) dX7_load_23 (by decide) ?_
  refine A_callVR ok [0] [1, 2, 3, 4, 5, 6, 7, 8, 9, 10, 11, 12] (As := [_, _]) (wr := ([(m 1, .inl (g.2.1 0, 800, .inl B)), (m 3, .inl (g.2.1 0, 1476, .inl (D))), (m 2, .inl (g.2.1 0, 1476, .inl (d))), (m 5, .inl (g.2.1 5, 8, .inr (.inr (.inr (.inr (fun j => some (h j))))))), rowC g h (R) 0, rowC g h (R) 1, rowC g h (R) 2, rowC g h (R) 3, rowC g h (R) 4, rowC g h (R) 5, rowC g h (R) 6, rowC g h (R) 7] : va_W)) mf_X7_fails ml_X7_194 in_X7_fails se_X7_fails cf7 gp0 (r_fails l g m (s.wth 0) rfl true 1 (by decide)) rfl rfl rfl dX7_load_24 rfl rfl rfl (by decide) (Nat.le_of_ble_eq_true rfl) ⟨(Nat.le_of_ble_eq_true rfl), (Nat.le_of_ble_eq_true rfl)⟩ ⟨(Nat.le_of_ble_eq_true rfl), (Nat.le_of_ble_eq_true rfl)⟩ (fun _ _ hx => hx.elim) (fun v24 w24 q24 => ?_)
  obtain ⟨rfl, rfl⟩ := q24
  refine A_sub [12, 0, 1, 2, 3, 4, 5, 6, 7, 8, 9, 10, 11] (ws2 := (loW g m h (thS true 1 (s.wth 0)) B (D) (d) (R))) rfl rfl ?_
  refine A_if_eq ok.b (tgt := 32) dX7_load_27 (by decide) (fun c27 => ((show False from absurd c27 (by decide))).elim) (fun c27 => ?_)
  refine A_iconst ok.b (v := 0) dX7_load_30 (by decide) ?_
  refine A_iret ok dX7_load_31 (Nat.le_of_ble_eq_true rfl) (Nat.le_of_ble_eq_true rfl) ?_
  exact ⟨rfl, rfl⟩
