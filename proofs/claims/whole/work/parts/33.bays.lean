section AWR
variable {l : Launch} {g : Gl} {own nm : String} {cc : ByteArray} {nL : Nat} {ret : Option FieldType} {R : Room} {A : Nat → Prop} {H0 : Heap} {K : KT} {pc : Nat} {lv : List (Option Value)} {st : List Value} {ws : va_W} {cn sn : Nat}

theorem A_ldcw (ok : OkB l g own nm cc nL ret R A H0 K) {ix : Nat} {v : Int32} (d : decode cc pc = .ok (.ldc_w ix, 3)) (hw : Cond.constant own ix v ∈ GT)
    (k : AW g A H0 nL K (pc + 3) lv (.int v :: st) ws cn sn) : AW g A H0 nL K pc lv st ws cn sn := by
  obtain ⟨p, e, s, m, args, below, meth, c, Q, rfl, rfl, hx, hb, hml, hown, hts, hr, hlk, hKn, hG, hA, hnm⟩ := ok
  intro H locs ls hP hD hS hl
  intro T hT X9
  obtain ⟨t, ha, hb9⟩ := k H locs ls hP hD hS hl T hT X9
  obtain ⟨k0, cf, by0, hk0, hcf, hcp, hby⟩ := Cond.constant_spec hown (hts _ hw)
  obtain ⟨k1, hk1, he1⟩ := X9.warmed.alike.2.2 _ _ hk0
  refine ⟨t, ?_, hb9⟩
  have d9 : decode c.code (F0 m pc ls st).pc = .ok (.ldc_w ix, 3) := by rw [hb]; exact d
  have step : ∀ target, Steps p.tables e below (T.setTop { F0 m pc ls st with pc := (F0 m pc ls st).pc + 3, stack := .int v :: (F0 m pc ls st).stack }) target → Steps p.tables e below (T.setTop (F0 m pc ls st)) target := by
    intro target hrest
    jvm_step X9.here [hx, d9, ldc_w.wp_int (s := T) (f := F0 m pc ls st) X9.here.top hk1 (by rw [he1]; exact hcf) hcp, hby]
    exact hrest
  exact step t ha
end AWR

/-- how many bits are set -/
def pop1 (x : Int32) : Int32 := x - ((x.toUInt32 >>> ((1 : Int32).toUInt32 &&& Int32.toUInt32 31)).toInt32 &&& 1431655765)
def pop2 (x : Int32) : Int32 := (x &&& 858993459) + ((x.toUInt32 >>> ((2 : Int32).toUInt32 &&& Int32.toUInt32 31)).toInt32 &&& 858993459)
def pop3 (x : Int32) : Int32 := (x + (x.toUInt32 >>> ((4 : Int32).toUInt32 &&& Int32.toUInt32 31)).toInt32) &&& 252645135
def pop4 (x : Int32) : Int32 := x + (x.toUInt32 >>> ((8 : Int32).toUInt32 &&& Int32.toUInt32 31)).toInt32
def pop5 (x : Int32) : Int32 := x + (x.toUInt32 >>> ((16 : Int32).toUInt32 &&& Int32.toUInt32 31)).toInt32
def popF (x : Int32) : Int32 := pop5 (pop4 (pop3 (pop2 (pop1 x)))) &&& 63
set_option maxRecDepth 20000 in
set_option maxHeartbeats 2000000 in
theorem c_bitCount (l : Launch) (g : Gl) (x0 : Int32) : Ct l g yJ6_bitCount_0f7a4 cJ6_bitCount_0f7a4 1 (some .int) 0 0 0 0 [.int x0] [] (fun v w => v = some (.int (popF x0)) ∧ w = []) noX := by
  refine Ct.intro [some (.int x0)] (by decide +kernel) (fun _ h => h) (Nat.le_of_ble_eq_true rfl) (fun A H0 K ok => ?_)
  refine A_iload_n ok.b rfl dJ6_bitCount_0f7a4_0 gp0 ?_
  refine A_iload_n ok.b rfl dJ6_bitCount_0f7a4_1 gp0 ?_
  refine A_iconst ok.b (v := 1) dJ6_bitCount_0f7a4_2 (by decide) ?_
  refine A_iushr ok.b dJ6_bitCount_0f7a4_3 ?_
  refine A_ldcw ok.b dJ6_bitCount_0f7a4_4 kc_J6_265 ?_
  refine A_iand ok.b dJ6_bitCount_0f7a4_7 ?_
  refine A_isub ok.b dJ6_bitCount_0f7a4_8 ?_
  refine A_istore_n ok.b rfl dJ6_bitCount_0f7a4_9 (by decide) st0 ?_
  refine A_iload_n ok.b rfl dJ6_bitCount_0f7a4_10 gp0 ?_
  refine A_ldcw ok.b dJ6_bitCount_0f7a4_11 kc_J6_266 ?_
  refine A_iand ok.b dJ6_bitCount_0f7a4_14 ?_
  refine A_iload_n ok.b rfl dJ6_bitCount_0f7a4_15 gp0 ?_
  refine A_iconst ok.b (v := 2) dJ6_bitCount_0f7a4_16 (by decide) ?_
  refine A_iushr ok.b dJ6_bitCount_0f7a4_17 ?_
  refine A_ldcw ok.b dJ6_bitCount_0f7a4_18 kc_J6_266 ?_
  refine A_iand ok.b dJ6_bitCount_0f7a4_21 ?_
  refine A_iadd ok.b dJ6_bitCount_0f7a4_22 ?_
  refine A_istore_n ok.b rfl dJ6_bitCount_0f7a4_23 (by decide) st0 ?_
  refine A_iload_n ok.b rfl dJ6_bitCount_0f7a4_24 gp0 ?_
  refine A_iload_n ok.b rfl dJ6_bitCount_0f7a4_25 gp0 ?_
  refine A_iconst ok.b (v := 4) dJ6_bitCount_0f7a4_26 (by decide) ?_
  refine A_iushr ok.b dJ6_bitCount_0f7a4_27 ?_
  refine A_iadd ok.b dJ6_bitCount_0f7a4_28 ?_
  refine A_ldcw ok.b dJ6_bitCount_0f7a4_29 kc_J6_267 ?_
  refine A_iand ok.b dJ6_bitCount_0f7a4_32 ?_
  refine A_istore_n ok.b rfl dJ6_bitCount_0f7a4_33 (by decide) st0 ?_
  refine A_iload_n ok.b rfl dJ6_bitCount_0f7a4_34 gp0 ?_
  refine A_iload_n ok.b rfl dJ6_bitCount_0f7a4_35 gp0 ?_
  refine A_bipush ok.b (v := 8) dJ6_bitCount_0f7a4_36 (by decide) ?_
  refine A_iushr ok.b dJ6_bitCount_0f7a4_38 ?_
  refine A_iadd ok.b dJ6_bitCount_0f7a4_39 ?_
  refine A_istore_n ok.b rfl dJ6_bitCount_0f7a4_40 (by decide) st0 ?_
  refine A_iload_n ok.b rfl dJ6_bitCount_0f7a4_41 gp0 ?_
  refine A_iload_n ok.b rfl dJ6_bitCount_0f7a4_42 gp0 ?_
  refine A_bipush ok.b (v := 16) dJ6_bitCount_0f7a4_43 (by decide) ?_
  refine A_iushr ok.b dJ6_bitCount_0f7a4_45 ?_
  refine A_iadd ok.b dJ6_bitCount_0f7a4_46 ?_
  refine A_istore_n ok.b rfl dJ6_bitCount_0f7a4_47 (by decide) st0 ?_
  refine A_iload_n ok.b rfl dJ6_bitCount_0f7a4_48 gp0 ?_
  refine A_bipush ok.b (v := 63) dJ6_bitCount_0f7a4_49 (by decide) ?_
  refine A_iand ok.b dJ6_bitCount_0f7a4_51 ?_
  refine A_iret ok dJ6_bitCount_0f7a4_52 (Nat.le_of_ble_eq_true rfl) (Nat.le_of_ble_eq_true rfl) ?_
  exact ⟨rfl, rfl⟩
theorem clear_r (P : PD) : ∀ (r k : Nat) (T : TD), (clearR P r k T).1 = -1 ∨ ∃ j, j < k + r ∧ (clearR P r k T).1 = nI j := by
  intro r
  induction r with
  | zero => exact fun k T => Or.inl rfl
  | succ r ih =>
    intro k T
    rw [clearR]
    split
    · exact Or.inr ⟨k, by omega, rfl⟩
    · split
      · exact Or.inl rfl
      · rcases ih (k + 1) (moveF P T).2 with h | ⟨j, h1, h2⟩
        · exact Or.inl h
        · exact Or.inr ⟨j, by omega, h2⟩
theorem bay_bit : ∀ k, k < 12 → ((1 : Int32) <<< (nI k &&& 31)).toBitVec.toNat < 4096 := by decide
theorem bay_lt (f : Nat → Int32) : ∀ k, k ≤ 12 → (baySetF f k).toBitVec.toNat < 4096
  | 0, _ => (show (0 : Int32).toBitVec.toNat < 4096 by decide)
  | k + 1, h => by
    have ih := bay_lt f k (by omega)
    rw [baySetF]
    split
    · exact ih
    · rw [Int32.toBitVec_or, BitVec.toNat_or]
      exact Nat.or_lt_two_pow (n := 12) ih (bay_bit k (by omega))
theorem bay_n (f : Nat → Int32) {k : Nat} (h : k ≤ 12) : ∃ n, n < 4096 ∧ baySetF f k = nI n := by
  refine ⟨(baySetF f k).toBitVec.toNat, bay_lt f k h, ?_⟩
  apply Int32.toBitVec_inj.mp
  apply BitVec.eq_of_toNat_eq
  have h2 := bay_lt f k h
  show _ = ((baySetF f k).toBitVec.toNat) % 2 ^ 32
  rw [Nat.mod_eq_of_lt (by omega)]
/-- one set of bays: the best so far, its time -/
def bbStep (T : TD) (P : PD) (n0 m : Nat) (S : Int32 × Nat) : Int32 × Nat :=
  if nI m &&& (nI n0 ^^^ (-1)) = 0 then
    (if (clearR P (S.2 + 1) 0 (openAllF P (nI m) T)).1 < 0 then S
     else if S.1 < 0 ∨ (clearR P (S.2 + 1) 0 (openAllF P (nI m) T)).1 < nI S.2 ∨ popF (nI m) < popF S.1 then (nI m, (clearR P (S.2 + 1) 0 (openAllF P (nI m) T)).1.toNatClampNeg) else S)
  else S
def bbF (T : TD) (P : PD) (n0 k : Nat) : Int32 × Nat := foldN (bbStep T P n0) (-1, 200) k
theorem bb_le (T : TD) (P : PD) (n0 k : Nat) : (bbF T P n0 k).2 ≤ 200 := by
  refine foldN_inv (fun S : Int32 × Nat => S.2 ≤ 200) (bbStep T P n0) (-1, 200) (Nat.le_refl _) (fun m S hS => ?_) k
  show (bbStep T P n0 m S).2 ≤ 200
  unfold bbStep
  split
  · split
    · exact hS
    · rename_i h1
      split
      · rcases clear_r P (S.2 + 1) 0 (openAllF P (nI m) T) with h | ⟨j, h2, h3⟩
        · exact absurd (by rw [h]; decide) h1
        · show (clearR P (S.2 + 1) 0 (openAllF P (nI m) T)).1.toNatClampNeg ≤ 200
          rw [h3, nI_clamp (by omega)]; omega
      · exact hS
  · exact hS
theorem open_keep (P : PD) (x : Int32) (T : TD) : tCs (openAllF P x T) = tCs T := by
  refine foldN_inv (fun S : TD => tCs S = tCs T) (openF x) T rfl (fun i S hS => ?_) (pN P)
  show tCs (openF x i S) = tCs T
  unfold openF
  split
  · exact hS
  · exact hS

set_option maxRecDepth 20000 in
set_option maxHeartbeats 2000000 in
theorem c_bestBays (l : Launch) (g : Gl) (k rd hs : Nat) (eo : Int32) (a b : Nat → Nat) (T : TD) (P : PD) (hn : pN P ≤ 12) (hc : pCar P ≤ 20) (hl0 : l.stackTraces = false) (a3 : Nat → Nat) (p3 : Nat) (T3 : TD) (hrd : ∀ j, j < 24 → tRed T j = 0 ∨ tRed T j = 1) (hok : COK P T) : Ct l g yX6_bestBays cX6_bestBays 6 (some .int) 6 360 0 0 [.ref k] (dkW g k rd hs (a3 0) eo a b T (P) ++ tunW g a3 (p3) (T3)) (fun v w => v = some (.int (bbF T P (baySetF (tBay T) (pN P)).toNatClampNeg ((baySetF (tBay T) (pN P)).toNatClampNeg + 1)).1) ∧ ∃ (T4 : TD) (p4 : Nat), w = (dkW g k rd hs (a3 0) eo a b T (P) ++ tunW g a3 (p4) (T4))) noX := by
  refine Ct.intro [some (.ref k), none, none, none, none, none] (by decide +kernel) (fun _ h => h) (Nat.le_of_ble_eq_true rfl) (fun A H0 K ok => ?_)
  refine A_aload_n ok.b rfl dX6_bestBays_0 gp0 ?_
  refine A_getf ok.b cf6 2 (by decide) fl_X6_31 gp0 (gps (gps gp0)) dX6_bestBays_1 ?_
  refine A_callVR ok [1, 2, 3, 4, 5, 6, 7, 8, 9, 10, 11, 12, 13, 14, 15] [0, 16, 17, 18, 19, 20, 21, 22, 23, 24] (As := []) (wr := ([(k, .inr (6, [.ref rd, .ref hs, .ref (a 0), .ref (a3 0), .int eo]))] : va_W) ++ tunW g a3 p3 T3) mf_X5_baySet ml_X6_170 in_X5_baySet se_X5_baySet cf5 (gps gp0) (c_baySet l g a b T P hn hc) rfl rfl rfl dX6_bestBays_4 rfl rfl rfl (by decide) (Nat.le_of_ble_eq_true rfl) ⟨(Nat.le_of_ble_eq_true rfl), (Nat.le_of_ble_eq_true rfl)⟩ ⟨(Nat.le_of_ble_eq_true rfl), (Nat.le_of_ble_eq_true rfl)⟩ (fun _ _ hx => hx.elim) (fun v4 w4 q4 => ?_)
  obtain ⟨rfl, rfl⟩ := q4
  obtain ⟨n0, hn0, e0⟩ := bay_n (tBay T) hn
  rw [e0]
  refine A_sub [0, 10, 11, 12, 13, 14, 15, 16, 17, 18, 19, 20, 21, 22, 23, 24, 1, 2, 3, 4, 5, 6, 7, 8, 9] (ws2 := (dkW g k rd hs (a3 0) eo a b T (P) ++ tunW g a3 (p3) (T3))) rfl rfl ?_
  refine A_istore_n ok.b rfl dX6_bestBays_7 (by decide) (sts1 rfl st0) ?_
  refine A_iconst ok.b (v := (-1)) dX6_bestBays_8 (by decide) ?_
  refine A_istore_n ok.b rfl dX6_bestBays_9 (by decide) (sts (sts1 rfl st0)) ?_
  refine A_sipush ok.b (v := 200) dX6_bestBays_10 (by decide) ?_
  refine A_istore_n ok.b rfl dX6_bestBays_13 (by decide) (sts (sts (sts1 rfl st0))) ?_
  refine A_iconst ok.b (v := 0) dX6_bestBays_14 (by decide) ?_
  refine A_istore ok.b dX6_bestBays_15 (by decide) (sts (sts (sts (sts1 rfl st0)))) ?_
  have L : ∀ m, m ≤ n0 + 1 → ∀ (T5 : TD) (p5 : Nat), AW g A H0 6 K 17 [some (.ref k), some (.int (nI n0)), some (.int (bbF T P n0 m).1), some (.int (nI (bbF T P n0 m).2)), some (.int (nI m)), none] [] (dkW g k rd hs (a3 0) eo a b T (P) ++ tunW g a3 (p5) (T5)) 0 0 := by
    refine up_ind (n0 + 1) ?_ (fun m hm ih => ?_)
    · intro T5 p5
      refine A_iload ok.b dX6_bestBays_17 (gps (gps (gps (gps gp0)))) ?_
      refine A_iload_n ok.b rfl dX6_bestBays_19 (gps gp0) ?_
      refine A_icmp_gt ok.b (tgt := 104) dX6_bestBays_20 (by decide) (fun c20 => ?_) (fun c20 => (c20 (nI_lt (a := n0) (b := n0 + 1) (by omega) (by omega))).elim)
      refine A_iload_n ok.b rfl dX6_bestBays_104 (gps (gps gp0)) ?_
      refine A_iret ok dX6_bestBays_105 (Nat.le_of_ble_eq_true rfl) (Nat.le_of_ble_eq_true rfl) ?_
      exact ⟨by rw [e0, nI_clamp (by omega)], T5, p5, rfl⟩
    · intro T5 p5
      have hS := bb_le T P n0 m
      have e1 : bbF T P n0 (m + 1) = bbStep T P n0 m (bbF T P n0 m) := rfl
      rw [e1] at ih
      generalize bbF T P n0 m = S at hS ih ⊢
      refine A_iload ok.b dX6_bestBays_17 (gps (gps (gps (gps gp0)))) ?_
      refine A_iload_n ok.b rfl dX6_bestBays_19 (gps gp0) ?_
      refine A_icmp_gt ok.b (tgt := 104) dX6_bestBays_20 (by decide) (fun c20 => (nI_nlt (a := n0) (b := m) (by omega) (by omega) c20).elim) (fun c20 => ?_)
      refine A_iload ok.b dX6_bestBays_23 (gps (gps (gps (gps gp0)))) ?_
      refine A_iload_n ok.b rfl dX6_bestBays_25 (gps gp0) ?_
      refine A_iconst ok.b (v := (-1)) dX6_bestBays_26 (by decide) ?_
      refine A_ixor ok.b dX6_bestBays_27 ?_
      refine A_iand ok.b dX6_bestBays_28 ?_
      refine A_if_eq ok.b (tgt := 35) dX6_bestBays_29 (by decide) (fun c29 => ?_) (fun c29 => ?_)
      · skip
        refine A_aload_n ok.b rfl dX6_bestBays_35 gp0 ?_
        refine A_getf ok.b cf6 3 (by decide) fl_X6_35 gp0 (gps (gps (gps gp0))) dX6_bestBays_36 ?_
        refine A_aload_n ok.b rfl dX6_bestBays_39 gp0 ?_
        refine A_getf ok.b cf6 2 (by decide) fl_X6_31 gp0 (gps (gps gp0)) dX6_bestBays_40 ?_
        refine A_callVR ok [16, 17, 18, 19, 20, 21, 22, 23, 24, 1, 2, 3, 4, 5, 6, 7, 8, 9] [0, 10, 11, 12, 13, 14, 15] (As := [_]) (wr := ([(k, .inr (6, [.ref rd, .ref hs, .ref (a 0), .ref (a3 0), .int eo]))] : va_W) ++ planW g b P) mf_X5_copyFrom ml_X6_79 in_X5_copyFrom se_X5_copyFrom cf5 (gps (gps (gps (gps (gps (gps (gps (gps (gps (gps (gps (gps (gps (gps (gps (gps gp0)))))))))))))))) (c_copyFrom l g a3 a _ (b 0) _ T hrd) rfl rfl rfl dX6_bestBays_43 rfl rfl rfl (by decide) (Nat.le_of_ble_eq_true rfl) ⟨(Nat.le_of_ble_eq_true rfl), (Nat.le_of_ble_eq_true rfl)⟩ ⟨(Nat.le_of_ble_eq_true rfl), (Nat.le_of_ble_eq_true rfl)⟩ (fun _ _ hx => hx.elim) (fun v43 w43 q43 => ?_)
        obtain ⟨rfl, rfl⟩ := q43
        refine A_sub [0, 16, 17, 18, 19, 20, 21, 22, 23, 24, 1, 2, 3, 4, 5, 6, 7, 8, 9, 10, 11, 12, 13, 14, 15] (ws2 := (dkW g k rd hs (a3 0) eo a b T (P) ++ tunW g a3 (b 0) (T))) rfl rfl ?_
        refine A_aload_n ok.b rfl dX6_bestBays_46 gp0 ?_
        refine A_getf ok.b cf6 3 (by decide) fl_X6_35 gp0 (gps (gps (gps gp0))) dX6_bestBays_47 ?_
        refine A_iload ok.b dX6_bestBays_50 (gps (gps (gps (gps gp0)))) ?_
        refine A_callVR ok [16, 17, 18, 19, 20, 21, 22, 23, 24, 10, 11, 12, 13, 14, 15] [0, 1, 2, 3, 4, 5, 6, 7, 8, 9] (As := [_]) (wr := ([(k, .inr (6, [.ref rd, .ref hs, .ref (a 0), .ref (a3 0), .int eo]))] : va_W) ++ tunW g a (b 0) T) mf_X5_openExactly ml_X6_173 in_X5_openExactly se_X5_openExactly cf5 (gps (gps (gps (gps (gps (gps (gps (gps (gps (gps (gps (gps (gps (gps (gps (gps gp0)))))))))))))))) (c_openExactly l g a3 b T P hn hc (nI m)) rfl rfl rfl dX6_bestBays_52 rfl rfl rfl (by decide) (Nat.le_of_ble_eq_true rfl) ⟨(Nat.le_of_ble_eq_true rfl), (Nat.le_of_ble_eq_true rfl)⟩ ⟨(Nat.le_of_ble_eq_true rfl), (Nat.le_of_ble_eq_true rfl)⟩ (fun _ _ hx => hx.elim) (fun v52 w52 q52 => ?_)
        obtain ⟨rfl, rfl⟩ := q52
        refine A_sub [0, 1, 2, 3, 4, 5, 6, 7, 8, 9, 19, 20, 21, 22, 23, 24, 10, 11, 12, 13, 14, 15, 16, 17, 18] (ws2 := (dkW g k rd hs (a3 0) eo a b T (P) ++ tunW g a3 (b 0) (openAllF P (nI m) T))) rfl rfl ?_
        refine A_aload_n ok.b rfl dX6_bestBays_55 gp0 ?_
        refine A_getf ok.b cf6 3 (by decide) fl_X6_35 gp0 (gps (gps (gps gp0))) dX6_bestBays_56 ?_
        refine A_iload_n ok.b rfl dX6_bestBays_59 (gps (gps (gps gp0))) ?_
        refine A_callVR ok [16, 17, 18, 19, 20, 21, 22, 23, 24, 10, 11, 12, 13, 14, 15] [0, 1, 2, 3, 4, 5, 6, 7, 8, 9] (As := [_]) (wr := ([(k, .inr (6, [.ref rd, .ref hs, .ref (a 0), .ref (a3 0), .int eo]))] : va_W) ++ tunW g a (b 0) T) mf_X5_ticksUntilClear ml_X6_166 in_X5_ticksUntilClear se_X5_ticksUntilClear cf5 (gps (gps (gps (gps (gps (gps (gps (gps (gps (gps (gps (gps (gps (gps (gps (gps gp0)))))))))))))))) (c_ticksUntilClear l g a3 b (openAllF P (nI m) T) P hn hc (COK_of hok rfl rfl (open_keep P (nI m) T)) S.2 (by omega)) rfl rfl rfl dX6_bestBays_60 rfl rfl rfl (by decide) (Nat.le_of_ble_eq_true rfl) ⟨(Nat.le_of_ble_eq_true rfl), (Nat.le_of_ble_eq_true rfl)⟩ ⟨(Nat.le_of_ble_eq_true rfl), (Nat.le_of_ble_eq_true rfl)⟩ (fun _ _ hx => hx.elim) (fun v60 w60 q60 => ?_)
        obtain ⟨rfl, rfl⟩ := q60
        have hr2 := clear_r P (S.2 + 1) 0 (openAllF P (nI m) T)
        generalize hr : (clearR P (S.2 + 1) 0 (openAllF P (nI m) T)).1 = r at hr2 ⊢
        generalize (clearR P (S.2 + 1) 0 (openAllF P (nI m) T)).2 = T9
        refine A_sub [0, 1, 2, 3, 4, 5, 6, 7, 8, 9, 19, 20, 21, 22, 23, 24, 10, 11, 12, 13, 14, 15, 16, 17, 18] (ws2 := (dkW g k rd hs (a3 0) eo a b T (P) ++ tunW g a3 (b 0) (T9))) rfl rfl ?_
        refine A_istore ok.b dX6_bestBays_63 (by decide) (sts (sts (sts (sts (sts1 rfl st0))))) ?_
        refine A_iload ok.b dX6_bestBays_65 (gps (gps (gps (gps (gps gp0))))) ?_
        refine A_if_lt ok.b (tgt := 98) dX6_bestBays_67 (by decide) (fun c67 => ?_) (fun c67 => ?_)
        · skip
          refine A_iinc ok.b (v := _ + 1) dX6_bestBays_98 (gps (gps (gps (gps gp0)))) rfl (by decide) (sts (sts (sts (sts1 rfl st0)))) ?_
          refine A_goto ok.b (tgt := 17) dX6_bestBays_101 (by decide) ?_
          refine A_lv (lleK (lleK (lleK (lleK (lleK (lleD lle0)))))) ?_
          have ih2 := ih T9 (b 0)
          rw [bbStep, if_pos c29, hr, if_pos c67] at ih2
          rw [nI_1]
          exact ih2
        · skip
          refine A_iload_n ok.b rfl dX6_bestBays_70 (gps (gps gp0)) ?_
          refine A_if_lt ok.b (tgt := 92) dX6_bestBays_71 (by decide) (fun c71 => ?_) (fun c71 => ?_)
          · skip
            refine A_iload ok.b dX6_bestBays_92 (gps (gps (gps (gps gp0)))) ?_
            refine A_istore_n ok.b rfl dX6_bestBays_94 (by decide) (sts (sts1 rfl st0)) ?_
            refine A_iload ok.b dX6_bestBays_95 (gps (gps (gps (gps (gps gp0))))) ?_
            refine A_istore_n ok.b rfl dX6_bestBays_97 (by decide) (sts (sts (sts1 rfl st0))) ?_
            refine A_iinc ok.b (v := _ + 1) dX6_bestBays_98 (gps (gps (gps (gps gp0)))) rfl (by decide) (sts (sts (sts (sts1 rfl st0)))) ?_
            refine A_goto ok.b (tgt := 17) dX6_bestBays_101 (by decide) ?_
            have ih2 := ih T9 (b 0)
            rw [bbStep, if_pos c29, hr, if_neg c67, if_pos (Or.inl c71)] at ih2
            obtain ⟨j0, hj0, e0⟩ := hr2.resolve_left (fun h => c67 (by rw [h]; decide))
            rw [e0, nI_clamp (by omega)] at ih2
            rw [e0]
            refine A_lv (lleK (lleK (lleK (lleK (lleK (lleD lle0)))))) ?_
            rw [nI_1]
            exact ih2
          · skip
            refine A_iload ok.b dX6_bestBays_74 (gps (gps (gps (gps (gps gp0))))) ?_
            refine A_iload_n ok.b rfl dX6_bestBays_76 (gps (gps (gps gp0))) ?_
            refine A_icmp_lt ok.b (tgt := 92) dX6_bestBays_77 (by decide) (fun c77 => ?_) (fun c77 => ?_)
            · skip
              refine A_iload ok.b dX6_bestBays_92 (gps (gps (gps (gps gp0)))) ?_
              refine A_istore_n ok.b rfl dX6_bestBays_94 (by decide) (sts (sts1 rfl st0)) ?_
              refine A_iload ok.b dX6_bestBays_95 (gps (gps (gps (gps (gps gp0))))) ?_
              refine A_istore_n ok.b rfl dX6_bestBays_97 (by decide) (sts (sts (sts1 rfl st0))) ?_
              refine A_iinc ok.b (v := _ + 1) dX6_bestBays_98 (gps (gps (gps (gps gp0)))) rfl (by decide) (sts (sts (sts (sts1 rfl st0)))) ?_
              refine A_goto ok.b (tgt := 17) dX6_bestBays_101 (by decide) ?_
              have ih2 := ih T9 (b 0)
              rw [bbStep, if_pos c29, hr, if_neg c67, if_pos (Or.inr (Or.inl c77))] at ih2
              obtain ⟨j0, hj0, e0⟩ := hr2.resolve_left (fun h => c67 (by rw [h]; decide))
              rw [e0, nI_clamp (by omega)] at ih2
              rw [e0]
              refine A_lv (lleK (lleK (lleK (lleK (lleK (lleD lle0)))))) ?_
              rw [nI_1]
              exact ih2
            · skip
              refine A_iload ok.b dX6_bestBays_80 (gps (gps (gps (gps gp0)))) ?_
              refine A_foreign ok.b (As := [_]) mf_J6_bitCount_0f7a4 ml_X6_176 sc_J6_bitCount_0f7a4 (c_bitCount l g (nI m)) rfl rfl dX6_bestBays_82 (Nat.le_of_ble_eq_true rfl) ⟨Nat.le_of_ble_eq_true rfl, Nat.le_of_ble_eq_true rfl⟩ ⟨Nat.le_of_ble_eq_true rfl, Nat.le_of_ble_eq_true rfl⟩ ?_
              refine A_iload_n ok.b rfl dX6_bestBays_85 (gps (gps gp0)) ?_
              refine A_foreign ok.b (As := [_]) mf_J6_bitCount_0f7a4 ml_X6_176 sc_J6_bitCount_0f7a4 (c_bitCount l g S.1) rfl rfl dX6_bestBays_86 (Nat.le_of_ble_eq_true rfl) ⟨Nat.le_of_ble_eq_true rfl, Nat.le_of_ble_eq_true rfl⟩ ⟨Nat.le_of_ble_eq_true rfl, Nat.le_of_ble_eq_true rfl⟩ ?_
              refine A_icmp_ge ok.b (tgt := 98) dX6_bestBays_89 (by decide) (fun c89 => ?_) (fun c89 => ?_)
              · skip
                refine A_iinc ok.b (v := _ + 1) dX6_bestBays_98 (gps (gps (gps (gps gp0)))) rfl (by decide) (sts (sts (sts (sts1 rfl st0)))) ?_
                refine A_goto ok.b (tgt := 17) dX6_bestBays_101 (by decide) ?_
                refine A_lv (lleK (lleK (lleK (lleK (lleK (lleD lle0)))))) ?_
                have ih2 := ih T9 (b 0)
                rw [bbStep, if_pos c29, hr, if_neg c67, if_neg (fun h => h.elim c71 (fun h => h.elim c77 (Int32.not_lt.mpr c89)))] at ih2
                rw [nI_1]
                exact ih2
              · skip
                refine A_iload ok.b dX6_bestBays_92 (gps (gps (gps (gps gp0)))) ?_
                refine A_istore_n ok.b rfl dX6_bestBays_94 (by decide) (sts (sts1 rfl st0)) ?_
                refine A_iload ok.b dX6_bestBays_95 (gps (gps (gps (gps (gps gp0))))) ?_
                refine A_istore_n ok.b rfl dX6_bestBays_97 (by decide) (sts (sts (sts1 rfl st0))) ?_
                refine A_iinc ok.b (v := _ + 1) dX6_bestBays_98 (gps (gps (gps (gps gp0)))) rfl (by decide) (sts (sts (sts (sts1 rfl st0)))) ?_
                refine A_goto ok.b (tgt := 17) dX6_bestBays_101 (by decide) ?_
                have ih2 := ih T9 (b 0)
                rw [bbStep, if_pos c29, hr, if_neg c67, if_pos (Or.inr (Or.inr (Int32.not_le.mp c89)))] at ih2
                obtain ⟨j0, hj0, e0⟩ := hr2.resolve_left (fun h => c67 (by rw [h]; decide))
                rw [e0, nI_clamp (by omega)] at ih2
                rw [e0]
                refine A_lv (lleK (lleK (lleK (lleK (lleK (lleD lle0)))))) ?_
                rw [nI_1]
                exact ih2
      · skip
        refine A_goto ok.b (tgt := 98) dX6_bestBays_32 (by decide) ?_
        skip
        refine A_iinc ok.b (v := _ + 1) dX6_bestBays_98 (gps (gps (gps (gps gp0)))) rfl (by decide) (sts (sts (sts (sts1 rfl st0)))) ?_
        refine A_goto ok.b (tgt := 17) dX6_bestBays_101 (by decide) ?_
        have ih2 := ih T5 p5
        rw [bbStep, if_neg c29] at ih2
        rw [nI_1]
        exact ih2
  exact L 0 (Nat.zero_le _) T3 p3
