theorem up_ind {P : Nat → Prop} (n : Nat) (last : P n) (step : ∀ k, k < n → P (k + 1) → P k) : ∀ k, k ≤ n → P k := by
  intro k hk
  obtain ⟨d, rfl⟩ := Nat.exists_eq_add_of_le hk
  clear hk
  induction d generalizing k with
  | zero => exact last
  | succ d ih => exact step k (by omega) (by have h := ih (k + 1) (by rw [show k + 1 + d = k + (d + 1) by omega]; exact last) (by rw [show k + 1 + d = k + (d + 1) by omega]; exact step); exact h)
/-- a tunnel at one moment: clock, fire, inside, smokeLeft, smokeRemoved, smoke, fan, bay, red, laneCars, carSection, carDirection, exposure -/
abbrev TD : Type := Int32 × Int32 × Int32 × Int64 × Int64 × (Nat → Int64) × (Nat → Int32) × (Nat → Int32) × (Nat → Int32) × (Nat → Int32) × (Nat → Int32) × (Nat → Int32) × (Nat → Int64)
abbrev tClock (T : TD) := T.1
abbrev tFire (T : TD) := T.2.1
abbrev tIns (T : TD) := T.2.2.1
abbrev tLeft (T : TD) := T.2.2.2.1
abbrev tRem (T : TD) := T.2.2.2.2.1
abbrev tSmoke (T : TD) := T.2.2.2.2.2.1
abbrev tFan (T : TD) := T.2.2.2.2.2.2.1
abbrev tBay (T : TD) := T.2.2.2.2.2.2.2.1
abbrev tRed (T : TD) := T.2.2.2.2.2.2.2.2.1
abbrev tLane (T : TD) := T.2.2.2.2.2.2.2.2.2.1
abbrev tCs (T : TD) := T.2.2.2.2.2.2.2.2.2.2.1
abbrev tCd (T : TD) := T.2.2.2.2.2.2.2.2.2.2.2.1
abbrev tEx (T : TD) := T.2.2.2.2.2.2.2.2.2.2.2.2
/-- a plan: sections, capacity, draft, cars, vent, hasFan, how many codes, codes, the rate's stack -/
abbrev PD : Type := Nat × Int32 × Int32 × Nat × (Nat → Int32) × (Nat → Int32) × Nat × (Nat → Int32) × (Nat → Int64)
abbrev pN (P : PD) := P.1
abbrev pCap (P : PD) := P.2.1
abbrev pDraft (P : PD) := P.2.2.1
abbrev pCar (P : PD) := P.2.2.2.1
abbrev pVent (P : PD) := P.2.2.2.2.1
abbrev pHf (P : PD) := P.2.2.2.2.2.1
abbrev pNc (P : PD) := P.2.2.2.2.2.2.1
abbrev pCodes (P : PD) := P.2.2.2.2.2.2.2.1
abbrev pStk (P : PD) := P.2.2.2.2.2.2.2.2
/-- a tunnel's cells, and its plan's -/
def tpW (g : Gl) (a b : Nat → Nat) (T : TD) (P : PD) : va_W := [
  (a 0, .inr (5, [.ref (b 0), .int (tClock T), .int (tFire T), .int (tIns T), .long (tLeft T), .long (tRem T), .ref (a 1), .ref (a 2), .ref (a 3), .ref (a 4), .ref (a 5), .ref (a 6), .ref (a 7), .ref (a 8)])),
  (a 1, .inl (g.2.1 1, 12, .inr (.inl (tSmoke T)))), (a 2, .inl (g.2.1 0, 12, .inl (tFan T))), (a 3, .inl (g.2.1 0, 12, .inl (tBay T))), (a 4, .inl (g.2.1 3, 24, .inl (tRed T))), (a 5, .inl (g.2.1 0, 24, .inl (tLane T))), (a 6, .inl (g.2.1 0, 20, .inl (tCs T))), (a 7, .inl (g.2.1 0, 20, .inl (tCd T))), (a 8, .inl (g.2.1 1, 20, .inr (.inl (tEx T)))),
  (b 0, .inr (2, [.int (nI (pN P)), .int (pCap P), .int (pDraft P), .int (nI (pCar P)), .ref (b 1), .ref (b 2), .ref (b 3)])), (b 1, .inl (g.2.1 0, 12, .inl (pVent P))), (b 2, .inl (g.2.1 3, 12, .inl (pHf P))), (b 3, .inr (3, [.ref (b 4), .ref (b 5)])), (b 4, .inl (g.2.1 0, pNc P, .inl (pCodes P))), (b 5, .inl (g.2.1 1, 11, .inr (.inl (pStk P))))]

