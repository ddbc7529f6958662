/-- the input's cells -/
def inW (g : Gl) (i0 i1 : Nat) (size kind start value next length : Int32) (B : Nat → Int32) : va_W := [(i0, .inr (1, [.int size, .int kind, .int start, .int value, .int next, .int length, .ref i1])), (i1, .inl (g.2.1 2, 800, .inl B))]
def fSp (b : Int32) : Bool := decide (b = 32)
def fDig (b : Int32) : Bool := decide (48 ≤ b) && decide (b ≤ 57)
def fLet (b : Int32) : Bool := decide (97 ≤ b) && decide (b ≤ 122)
/-- the first place from p on where the bytes are no longer f's -/
def scan (f : Int32 → Bool) (B : Nat → Int32) (len : Nat) : Nat → Nat → Nat
  | 0, p => p
  | r + 1, p => if p < len ∧ f (B p) = true then scan f B len r (p + 1) else p
def scanE (f : Int32 → Bool) (B : Nat → Int32) (len p : Nat) : Nat := scan f B len (len - p) p
theorem scanE_t {f : Int32 → Bool} {B : Nat → Int32} {len p : Nat} (h : p < len) (hf : f (B p) = true) : scanE f B len p = scanE f B len (p + 1) := by
  unfold scanE
  obtain ⟨r, hr⟩ : ∃ r, len - p = r + 1 := ⟨len - p - 1, by omega⟩
  rw [hr, scan, if_pos ⟨h, hf⟩, show len - (p + 1) = r by omega]
theorem scanE_f {f : Int32 → Bool} {B : Nat → Int32} {len p : Nat} (h : ¬ (p < len ∧ f (B p) = true)) : scanE f B len p = p := by
  unfold scanE
  cases hr : len - p with
  | zero => rfl
  | succ r => rw [scan, if_neg h]
theorem scanE_ind {f : Int32 → Bool} {B : Nat → Int32} {len : Nat} {P : Nat → Prop} (p0 : Nat) (hs : ∀ p, p0 ≤ p → (p < len ∧ f (B p) = true → P (p + 1)) → P p) (hb : p0 ≤ 2000 := by omega) : P p0 := by
  have key : ∀ (r p : Nat), p0 ≤ p → len - p ≤ r → P p := by
    intro r
    induction r with
    | zero => exact fun p h1 h2 => hs p h1 (fun h => absurd h.1 (by omega))
    | succ r ih => exact fun p h1 h2 => hs p h1 (fun h => ih (p + 1) (by omega) (by omega))
  exact key _ p0 (Nat.le_refl _) (Nat.le_refl _)
theorem scanE_ge {f : Int32 → Bool} {B : Nat → Int32} {len : Nat} (p : Nat) : p ≤ scanE f B len p := by
  have key : ∀ (r p : Nat), len - p ≤ r → p ≤ scanE f B len p := by
    intro r
    induction r with
    | zero => exact fun p h => by rw [scanE_f (fun h9 => absurd h9.1 (by omega))]; exact Nat.le_refl _
    | succ r ih =>
      intro p h
      by_cases h9 : p < len ∧ f (B p) = true
      · rw [scanE_t h9.1 h9.2]; have := ih (p + 1) (by omega); omega
      · rw [scanE_f h9]; exact Nat.le_refl _
  exact key _ p (Nat.le_refl _)
theorem scanE_le {f : Int32 → Bool} {B : Nat → Int32} {len : Nat} (p : Nat) (hp : p ≤ len) : scanE f B len p ≤ len := by
  have key : ∀ (r p : Nat), len - p ≤ r → p ≤ len → scanE f B len p ≤ len := by
    intro r
    induction r with
    | zero => exact fun p h h2 => by rw [scanE_f (fun h9 => absurd h9.1 (by omega))]; exact h2
    | succ r ih =>
      intro p h h2
      by_cases h9 : p < len ∧ f (B p) = true
      · rw [scanE_t h9.1 h9.2]; exact ih (p + 1) (by omega) (by omega)
      · rw [scanE_f h9]; exact h2
  exact key _ p (Nat.le_refl _) hp
theorem scanE_run {f : Int32 → Bool} {B : Nat → Int32} {len : Nat} (p : Nat) : ∀ k, p ≤ k → k < scanE f B len p → k < len ∧ f (B k) = true := by
  have key : ∀ (r p : Nat), len - p ≤ r → ∀ k, p ≤ k → k < scanE f B len p → k < len ∧ f (B k) = true := by
    intro r
    induction r with
    | zero => exact fun p h k h1 h2 => by rw [scanE_f (fun h9 => absurd h9.1 (by omega))] at h2; omega
    | succ r ih =>
      intro p h k h1 h2
      by_cases h9 : p < len ∧ f (B p) = true
      · by_cases e : k = p
        · rw [e]; exact h9
        · rw [scanE_t h9.1 h9.2] at h2
          exact ih (p + 1) (by omega) k (by omega) h2
      · rw [scanE_f h9] at h2; omega
  exact key _ p (Nat.le_refl _)
theorem scanE_end {f : Int32 → Bool} {B : Nat → Int32} {len : Nat} (p : Nat) : ¬ (scanE f B len p < len ∧ f (B (scanE f B len p)) = true) := by
  have key : ∀ (r p : Nat), len - p ≤ r → ¬ (scanE f B len p < len ∧ f (B (scanE f B len p)) = true) := by
    intro r
    induction r with
    | zero => exact fun p h => by rw [scanE_f (fun h9 => absurd h9.1 (by omega))]; exact fun h9 => absurd h9.1 (by omega)
    | succ r ih =>
      intro p h
      by_cases h9 : p < len ∧ f (B p) = true
      · rw [scanE_t h9.1 h9.2]; exact ih (p + 1) (by omega)
      · rw [scanE_f h9]; exact h9
  exact key _ p (Nat.le_refl _)
/-- a number's value: of k digits from p on -/
def numV (B : Nat → Int32) (p : Nat) : Nat → Int32
  | 0 => 0
  | k + 1 => if numV B p k ≤ 100000 then 10 * numV B p k + B (p + k) - 48 else numV B p k
/-- the token at p: kind, start, value, next -/
def tokF (B : Nat → Int32) (len p : Nat) (v : Int32) : Int32 × Nat × Int32 × Nat :=
  if len ≤ scanE fSp B len p then (258, scanE fSp B len p, v, scanE fSp B len p)
  else if fDig (B (scanE fSp B len p)) = true then (256, scanE fSp B len p, numV B (scanE fSp B len p) (scanE fDig B len (scanE fSp B len p) - scanE fSp B len p), scanE fDig B len (scanE fSp B len p))
  else if fLet (B (scanE fSp B len p)) = true then (257, scanE fSp B len p, v, scanE fLet B len (scanE fSp B len p))
  else (B (scanE fSp B len p), scanE fSp B len p, v, scanE fSp B len p + 1)
def tkW (g : Gl) (i0 i1 : Nat) (size : Int32) (len : Nat) (B : Nat → Int32) (t : Int32 × Nat × Int32 × Nat) : va_W := inW g i0 i1 size t.1 (nI t.2.1) t.2.2.1 (nI t.2.2.2) (nI len) B
theorem dig_of {b : Int32} (h1 : ¬ b < 48) (h2 : ¬ 57 < b) : fDig b = true := by
  simp [fDig, Int32.not_lt.mp h1, Int32.not_lt.mp h2]
theorem dig_no1 {b : Int32} (h1 : b < 48) : ¬ fDig b = true := by
  simp [fDig]; intro h; exact absurd h (Int32.not_le.mpr h1)
theorem dig_no2 {b : Int32} (h1 : 57 < b) : ¬ fDig b = true := by
  simp [fDig]; intro _; exact h1
theorem let_of {b : Int32} (h1 : ¬ b < 97) (h2 : ¬ 122 < b) : fLet b = true := by
  simp [fLet, Int32.not_lt.mp h1, Int32.not_lt.mp h2]
theorem let_no1 {b : Int32} (h1 : b < 97) : ¬ fLet b = true := by
  simp [fLet]; intro h; exact absurd h (Int32.not_le.mpr h1)
theorem let_no2 {b : Int32} (h1 : 122 < b) : ¬ fLet b = true := by
  simp [fLet]; intro _; exact h1

set_option maxRecDepth 20000 in
set_option maxHeartbeats 2000000 in
theorem c_advance (l : Launch) (g : Gl) (i0 i1 : Nat) (size k0 s0 v0 : Int32) (B : Nat → Int32) (len p : Nat) (hlen : len ≤ 800) (hp : p ≤ 800) : Ct l g yX1_advance cX1_advance 1 none 0 0 0 0 [.ref i0] (inW g i0 i1 size k0 s0 v0 (nI p) (nI len) B) (fun v w => v = none ∧ w = tkW g i0 i1 size len B (tokF B len p v0)) noX := by
  refine Ct.intro [some (.ref i0)] (by decide +kernel) (fun _ h => h) (Nat.le_of_ble_eq_true rfl) (fun A H0 K ok => ?_)
  have hS8 : scanE fSp B len p ≤ 800 := by
    rcases Nat.le_total p len with h | h
    · have := scanE_le (f := fSp) (B := B) p h; omega
    · rw [scanE_f (fun h9 => absurd h9.1 (by omega))]; exact hp
  have T : ∀ s, s = scanE fSp B len p → AW g A H0 1 K 38 [some (.ref i0)] [] (inW g i0 i1 size k0 s0 v0 (nI s) (nI len) B) 0 0 := by
    intro s hs
    have hs8 : s ≤ 800 := by omega
    have D : ∀ q, s ≤ q → scanE fDig B len q = scanE fDig B len s → q ≤ 800 → fDig (B s) = true → s < len → AW g A H0 1 K 107 [some (.ref i0)] [] (inW g i0 i1 size 256 (nI s) (numV B s (q - s)) (nI q) (nI len) B) 0 0 := by
      intro q hq hqe hq8 hd hsl
      have et : tokF B len p v0 = (256, s, numV B s (scanE fDig B len s - s), scanE fDig B len s) := by
        unfold tokF
        rw [← hs, if_neg (by omega), if_pos hd]
      refine scanE_ind (f := fDig) (B := B) (len := len) (P := fun q => s ≤ q → scanE fDig B len q = scanE fDig B len s → q ≤ 800 → AW g A H0 1 K 107 [some (.ref i0)] [] (inW g i0 i1 size 256 (nI s) (numV B s (q - s)) (nI q) (nI len) B) 0 0) q (fun q _ ih => ?_) (by omega) hq hqe hq8
      intro hq hqe hq8
      have stop : ¬ (q < len ∧ fDig (B q) = true) → AW g A H0 1 K 309 [some (.ref i0)] [] (inW g i0 i1 size 256 (nI s) (numV B s (q - s)) (nI q) (nI len) B) 0 0 := by
        intro h9
        rw [scanE_f h9] at hqe
        rw [← hqe] at et
        refine A_vret ok dX1_advance_309 (Nat.le_of_ble_eq_true rfl) (Nat.le_of_ble_eq_true rfl) ?_
        exact ⟨rfl, by rw [et]; rfl⟩
      refine A_aload_n ok.b rfl dX1_advance_107 gp0 ?_
      refine A_getf ok.b cf1 4 (by decide) fl_X1_22 gp0 (gps (gps (gps (gps gp0)))) dX1_advance_108 ?_
      refine A_aload_n ok.b rfl dX1_advance_111 gp0 ?_
      refine A_getf ok.b cf1 5 (by decide) fl_X1_19 gp0 (gps (gps (gps (gps (gps gp0))))) dX1_advance_112 ?_
      refine A_icmp_ge ok.b (tgt := 309) dX1_advance_115 (by decide) (fun c115 => ?_) (fun c115 => ?_)
      · skip
        exact stop (fun h => absurd c115 (nI_ge h.1 (by omega)))
      · skip
        have hql : q < len := by
          rcases Nat.lt_or_ge q len with h | h
          · exact h
          · exact absurd (nI_le h (by omega)) c115
        refine A_aload_n ok.b rfl dX1_advance_118 gp0 ?_
        refine A_getf ok.b cf1 6 (by decide) fl_X1_9 gp0 (gps (gps (gps (gps (gps (gps gp0)))))) dX1_advance_119 ?_
        refine A_aload_n ok.b rfl dX1_advance_122 gp0 ?_
        refine A_getf ok.b cf1 4 (by decide) fl_X1_22 gp0 (gps (gps (gps (gps gp0)))) dX1_advance_123 ?_
        refine A_bald ok.b (gps gp0) (ix_n (by omega) (by decide)) dX1_advance_126 ?_
        refine A_bipush ok.b (v := 48) dX1_advance_127 (by decide) ?_
        refine A_icmp_lt ok.b (tgt := 309) dX1_advance_129 (by decide) (fun c129 => ?_) (fun c129 => ?_)
        · skip
          exact stop (fun h => dig_no1 c129 h.2)
        · skip
          refine A_aload_n ok.b rfl dX1_advance_132 gp0 ?_
          refine A_getf ok.b cf1 6 (by decide) fl_X1_9 gp0 (gps (gps (gps (gps (gps (gps gp0)))))) dX1_advance_133 ?_
          refine A_aload_n ok.b rfl dX1_advance_136 gp0 ?_
          refine A_getf ok.b cf1 4 (by decide) fl_X1_22 gp0 (gps (gps (gps (gps gp0)))) dX1_advance_137 ?_
          refine A_bald ok.b (gps gp0) (ix_n (by omega) (by decide)) dX1_advance_140 ?_
          refine A_bipush ok.b (v := 57) dX1_advance_141 (by decide) ?_
          refine A_icmp_gt ok.b (tgt := 309) dX1_advance_143 (by decide) (fun c143 => ?_) (fun c143 => ?_)
          · skip
            exact stop (fun h => dig_no2 c143 h.2)
          · skip
            refine A_aload_n ok.b rfl dX1_advance_146 gp0 ?_
            refine A_aload_n ok.b rfl dX1_advance_147 gp0 ?_
            refine A_getf ok.b cf1 3 (by decide) fl_X1_34 gp0 (gps (gps (gps gp0))) dX1_advance_148 ?_
            refine A_ldc ok.b dX1_advance_151 kc_X1_37 ?_
            refine A_icmp_le ok.b (tgt := 163) dX1_advance_153 (by decide) (fun c153 => ?_) (fun c153 => ?_)
            · skip
              refine A_bipush ok.b (v := 10) dX1_advance_163 (by decide) ?_
              refine A_aload_n ok.b rfl dX1_advance_165 gp0 ?_
              refine A_getf ok.b cf1 3 (by decide) fl_X1_34 gp0 (gps (gps (gps gp0))) dX1_advance_166 ?_
              refine A_imul ok.b dX1_advance_169 ?_
              refine A_aload_n ok.b rfl dX1_advance_170 gp0 ?_
              refine A_getf ok.b cf1 6 (by decide) fl_X1_9 gp0 (gps (gps (gps (gps (gps (gps gp0)))))) dX1_advance_171 ?_
              refine A_aload_n ok.b rfl dX1_advance_174 gp0 ?_
              refine A_getf ok.b cf1 4 (by decide) fl_X1_22 gp0 (gps (gps (gps (gps gp0)))) dX1_advance_175 ?_
              refine A_bald ok.b (gps gp0) (ix_n (by omega) (by decide)) dX1_advance_178 ?_
              refine A_iadd ok.b dX1_advance_179 ?_
              refine A_bipush ok.b (v := 48) dX1_advance_180 (by decide) ?_
              refine A_isub ok.b dX1_advance_182 ?_
              refine A_putf ok.b cf1 3 (by decide) rfl fl_X1_34 gp0 rfl rfl (gp_lt (gps (gps (gps gp0)))) (wps (wps (wps wp0))) wp0 dX1_advance_183 ?_
              refine A_aload_n ok.b rfl dX1_advance_186 gp0 ?_
              refine A_dup ok.b dX1_advance_187 rfl ?_
              refine A_getf ok.b cf1 4 (by decide) fl_X1_22 gp0 (gps (gps (gps (gps gp0)))) dX1_advance_188 ?_
              refine A_iconst ok.b (v := 1) dX1_advance_191 (by decide) ?_
              refine A_iadd ok.b dX1_advance_192 ?_
              refine A_putf ok.b cf1 4 (by decide) rfl fl_X1_22 gp0 rfl rfl (gp_lt (gps (gps (gps (gps gp0))))) (wps (wps (wps (wps wp0)))) wp0 dX1_advance_193 ?_
              refine A_goto ok.b (tgt := 107) dX1_advance_196 (by decide) ?_
              have ih2 := ih ⟨hql, dig_of c129 c143⟩ (by omega) (by rw [← scanE_t hql (dig_of c129 c143)]; exact hqe) (by omega)
              rw [show q + 1 - s = (q - s) + 1 by omega, numV, if_pos c153, show s + (q - s) = q by omega] at ih2
              rw [nI_1]
              exact ih2
            · skip
              refine A_aload_n ok.b rfl dX1_advance_156 gp0 ?_
              refine A_getf ok.b cf1 3 (by decide) fl_X1_34 gp0 (gps (gps (gps gp0))) dX1_advance_157 ?_
              refine A_goto ok.b (tgt := 183) dX1_advance_160 (by decide) ?_
              refine A_putf ok.b cf1 3 (by decide) rfl fl_X1_34 gp0 rfl rfl (gp_lt (gps (gps (gps gp0)))) (wps (wps (wps wp0))) wp0 dX1_advance_183 ?_
              refine A_aload_n ok.b rfl dX1_advance_186 gp0 ?_
              refine A_dup ok.b dX1_advance_187 rfl ?_
              refine A_getf ok.b cf1 4 (by decide) fl_X1_22 gp0 (gps (gps (gps (gps gp0)))) dX1_advance_188 ?_
              refine A_iconst ok.b (v := 1) dX1_advance_191 (by decide) ?_
              refine A_iadd ok.b dX1_advance_192 ?_
              refine A_putf ok.b cf1 4 (by decide) rfl fl_X1_22 gp0 rfl rfl (gp_lt (gps (gps (gps (gps gp0))))) (wps (wps (wps (wps wp0)))) wp0 dX1_advance_193 ?_
              refine A_goto ok.b (tgt := 107) dX1_advance_196 (by decide) ?_
              have ih2 := ih ⟨hql, dig_of c129 c143⟩ (by omega) (by rw [← scanE_t hql (dig_of c129 c143)]; exact hqe) (by omega)
              rw [show q + 1 - s = (q - s) + 1 by omega, numV, if_neg c153] at ih2
              rw [nI_1]
              exact ih2
    have Lr : ∀ q, s ≤ q → scanE fLet B len q = scanE fLet B len s → q ≤ 800 → ¬ fDig (B s) = true → fLet (B s) = true → s < len → AW g A H0 1 K 234 [some (.ref i0)] [] (inW g i0 i1 size 257 (nI s) v0 (nI q) (nI len) B) 0 0 := by
      intro q hq hqe hq8 hd hd2 hsl
      have et : tokF B len p v0 = (257, s, v0, scanE fLet B len s) := by
        unfold tokF
        rw [← hs, if_neg (by omega), if_neg hd, if_pos hd2]
      refine scanE_ind (f := fLet) (B := B) (len := len) (P := fun q => s ≤ q → scanE fLet B len q = scanE fLet B len s → q ≤ 800 → AW g A H0 1 K 234 [some (.ref i0)] [] (inW g i0 i1 size 257 (nI s) v0 (nI q) (nI len) B) 0 0) q (fun q _ ih => ?_) (by omega) hq hqe hq8
      intro hq hqe hq8
      have stop : ¬ (q < len ∧ fLet (B q) = true) → AW g A H0 1 K 309 [some (.ref i0)] [] (inW g i0 i1 size 257 (nI s) v0 (nI q) (nI len) B) 0 0 := by
        intro h9
        rw [scanE_f h9] at hqe
        rw [← hqe] at et
        refine A_vret ok dX1_advance_309 (Nat.le_of_ble_eq_true rfl) (Nat.le_of_ble_eq_true rfl) ?_
        exact ⟨rfl, by rw [et]; rfl⟩
      refine A_aload_n ok.b rfl dX1_advance_234 gp0 ?_
      refine A_getf ok.b cf1 4 (by decide) fl_X1_22 gp0 (gps (gps (gps (gps gp0)))) dX1_advance_235 ?_
      refine A_aload_n ok.b rfl dX1_advance_238 gp0 ?_
      refine A_getf ok.b cf1 5 (by decide) fl_X1_19 gp0 (gps (gps (gps (gps (gps gp0))))) dX1_advance_239 ?_
      refine A_icmp_ge ok.b (tgt := 309) dX1_advance_242 (by decide) (fun c242 => ?_) (fun c242 => ?_)
      · skip
        exact stop (fun h => absurd c242 (nI_ge h.1 (by omega)))
      · skip
        have hql : q < len := by
          rcases Nat.lt_or_ge q len with h | h
          · exact h
          · exact absurd (nI_le h (by omega)) c242
        refine A_aload_n ok.b rfl dX1_advance_245 gp0 ?_
        refine A_getf ok.b cf1 6 (by decide) fl_X1_9 gp0 (gps (gps (gps (gps (gps (gps gp0)))))) dX1_advance_246 ?_
        refine A_aload_n ok.b rfl dX1_advance_249 gp0 ?_
        refine A_getf ok.b cf1 4 (by decide) fl_X1_22 gp0 (gps (gps (gps (gps gp0)))) dX1_advance_250 ?_
        refine A_bald ok.b (gps gp0) (ix_n (by omega) (by decide)) dX1_advance_253 ?_
        refine A_bipush ok.b (v := 97) dX1_advance_254 (by decide) ?_
        refine A_icmp_lt ok.b (tgt := 309) dX1_advance_256 (by decide) (fun c256 => ?_) (fun c256 => ?_)
        · skip
          exact stop (fun h => let_no1 c256 h.2)
        · skip
          refine A_aload_n ok.b rfl dX1_advance_259 gp0 ?_
          refine A_getf ok.b cf1 6 (by decide) fl_X1_9 gp0 (gps (gps (gps (gps (gps (gps gp0)))))) dX1_advance_260 ?_
          refine A_aload_n ok.b rfl dX1_advance_263 gp0 ?_
          refine A_getf ok.b cf1 4 (by decide) fl_X1_22 gp0 (gps (gps (gps (gps gp0)))) dX1_advance_264 ?_
          refine A_bald ok.b (gps gp0) (ix_n (by omega) (by decide)) dX1_advance_267 ?_
          refine A_bipush ok.b (v := 122) dX1_advance_268 (by decide) ?_
          refine A_icmp_gt ok.b (tgt := 309) dX1_advance_270 (by decide) (fun c270 => ?_) (fun c270 => ?_)
          · skip
            exact stop (fun h => let_no2 c270 h.2)
          · skip
            refine A_aload_n ok.b rfl dX1_advance_273 gp0 ?_
            refine A_dup ok.b dX1_advance_274 rfl ?_
            refine A_getf ok.b cf1 4 (by decide) fl_X1_22 gp0 (gps (gps (gps (gps gp0)))) dX1_advance_275 ?_
            refine A_iconst ok.b (v := 1) dX1_advance_278 (by decide) ?_
            refine A_iadd ok.b dX1_advance_279 ?_
            refine A_putf ok.b cf1 4 (by decide) rfl fl_X1_22 gp0 rfl rfl (gp_lt (gps (gps (gps (gps gp0))))) (wps (wps (wps (wps wp0)))) wp0 dX1_advance_280 ?_
            refine A_goto ok.b (tgt := 234) dX1_advance_283 (by decide) ?_
            rw [nI_1]
            exact ih ⟨hql, let_of c256 c270⟩ (by omega) (by rw [← scanE_t hql (let_of c256 c270)]; exact hqe) (by omega)
    have U : ¬ fDig (B s) = true → s < len → AW g A H0 1 K 199 [some (.ref i0)] [] (inW g i0 i1 size k0 (nI s) v0 (nI s) (nI len) B) 0 0 := by
      intro hd hsl
      have V : ¬ fLet (B s) = true → AW g A H0 1 K 286 [some (.ref i0)] [] (inW g i0 i1 size k0 (nI s) v0 (nI s) (nI len) B) 0 0 := by
        intro hd2
        have et : tokF B len p v0 = (B s, s, v0, s + 1) := by
          unfold tokF
          rw [← hs, if_neg (by omega), if_neg hd, if_neg hd2]
        refine A_aload_n ok.b rfl dX1_advance_286 gp0 ?_
        refine A_aload_n ok.b rfl dX1_advance_287 gp0 ?_
        refine A_getf ok.b cf1 6 (by decide) fl_X1_9 gp0 (gps (gps (gps (gps (gps (gps gp0)))))) dX1_advance_288 ?_
        refine A_aload_n ok.b rfl dX1_advance_291 gp0 ?_
        refine A_getf ok.b cf1 4 (by decide) fl_X1_22 gp0 (gps (gps (gps (gps gp0)))) dX1_advance_292 ?_
        refine A_bald ok.b (gps gp0) (ix_n (by omega) (by decide)) dX1_advance_295 ?_
        refine A_putf ok.b cf1 1 (by decide) rfl fl_X1_31 gp0 rfl rfl (gp_lt (gps gp0)) (wps wp0) wp0 dX1_advance_296 ?_
        refine A_aload_n ok.b rfl dX1_advance_299 gp0 ?_
        refine A_dup ok.b dX1_advance_300 rfl ?_
        refine A_getf ok.b cf1 4 (by decide) fl_X1_22 gp0 (gps (gps (gps (gps gp0)))) dX1_advance_301 ?_
        refine A_iconst ok.b (v := 1) dX1_advance_304 (by decide) ?_
        refine A_iadd ok.b dX1_advance_305 ?_
        rw [nI_1]
        refine A_putf ok.b cf1 4 (by decide) rfl fl_X1_22 gp0 rfl rfl (gp_lt (gps (gps (gps (gps gp0))))) (wps (wps (wps (wps wp0)))) wp0 dX1_advance_306 ?_
        refine A_vret ok dX1_advance_309 (Nat.le_of_ble_eq_true rfl) (Nat.le_of_ble_eq_true rfl) ?_
        exact ⟨rfl, by rw [et]; rfl⟩
      refine A_aload_n ok.b rfl dX1_advance_199 gp0 ?_
      refine A_getf ok.b cf1 6 (by decide) fl_X1_9 gp0 (gps (gps (gps (gps (gps (gps gp0)))))) dX1_advance_200 ?_
      refine A_aload_n ok.b rfl dX1_advance_203 gp0 ?_
      refine A_getf ok.b cf1 4 (by decide) fl_X1_22 gp0 (gps (gps (gps (gps gp0)))) dX1_advance_204 ?_
      refine A_bald ok.b (gps gp0) (ix_n (by omega) (by decide)) dX1_advance_207 ?_
      refine A_bipush ok.b (v := 97) dX1_advance_208 (by decide) ?_
      refine A_icmp_lt ok.b (tgt := 286) dX1_advance_210 (by decide) (fun c210 => ?_) (fun c210 => ?_)
      · skip
        exact V (let_no1 c210)
      · skip
        refine A_aload_n ok.b rfl dX1_advance_213 gp0 ?_
        refine A_getf ok.b cf1 6 (by decide) fl_X1_9 gp0 (gps (gps (gps (gps (gps (gps gp0)))))) dX1_advance_214 ?_
        refine A_aload_n ok.b rfl dX1_advance_217 gp0 ?_
        refine A_getf ok.b cf1 4 (by decide) fl_X1_22 gp0 (gps (gps (gps (gps gp0)))) dX1_advance_218 ?_
        refine A_bald ok.b (gps gp0) (ix_n (by omega) (by decide)) dX1_advance_221 ?_
        refine A_bipush ok.b (v := 122) dX1_advance_222 (by decide) ?_
        refine A_icmp_gt ok.b (tgt := 286) dX1_advance_224 (by decide) (fun c224 => ?_) (fun c224 => ?_)
        · skip
          exact V (let_no2 c224)
        · skip
          refine A_aload_n ok.b rfl dX1_advance_227 gp0 ?_
          refine A_sipush ok.b (v := 257) dX1_advance_228 (by decide) ?_
          refine A_putf ok.b cf1 1 (by decide) rfl fl_X1_31 gp0 rfl rfl (gp_lt (gps gp0)) (wps wp0) wp0 dX1_advance_231 ?_
          exact Lr s (Nat.le_refl _) rfl hs8 hd (let_of c210 c224) hsl
    refine A_aload_n ok.b rfl dX1_advance_38 gp0 ?_
    refine A_aload_n ok.b rfl dX1_advance_39 gp0 ?_
    refine A_getf ok.b cf1 4 (by decide) fl_X1_22 gp0 (gps (gps (gps (gps gp0)))) dX1_advance_40 ?_
    refine A_putf ok.b cf1 2 (by decide) rfl fl_X1_28 gp0 rfl rfl (gp_lt (gps (gps gp0))) (wps (wps wp0)) wp0 dX1_advance_43 ?_
    refine A_aload_n ok.b rfl dX1_advance_46 gp0 ?_
    refine A_getf ok.b cf1 4 (by decide) fl_X1_22 gp0 (gps (gps (gps (gps gp0)))) dX1_advance_47 ?_
    refine A_aload_n ok.b rfl dX1_advance_50 gp0 ?_
    refine A_getf ok.b cf1 5 (by decide) fl_X1_19 gp0 (gps (gps (gps (gps (gps gp0))))) dX1_advance_51 ?_
    refine A_icmp_lt ok.b (tgt := 67) dX1_advance_54 (by decide) (fun c54 => ?_) (fun c54 => ?_)
    · skip
      have hsl : s < len := by
        rcases Nat.lt_or_ge s len with h | h
        · exact h
        · exact absurd c54 (nI_nlt h (by omega))
      refine A_aload_n ok.b rfl dX1_advance_67 gp0 ?_
      refine A_getf ok.b cf1 6 (by decide) fl_X1_9 gp0 (gps (gps (gps (gps (gps (gps gp0)))))) dX1_advance_68 ?_
      refine A_aload_n ok.b rfl dX1_advance_71 gp0 ?_
      refine A_getf ok.b cf1 4 (by decide) fl_X1_22 gp0 (gps (gps (gps (gps gp0)))) dX1_advance_72 ?_
      refine A_bald ok.b (gps gp0) (ix_n (by omega) (by decide)) dX1_advance_75 ?_
      refine A_bipush ok.b (v := 48) dX1_advance_76 (by decide) ?_
      refine A_icmp_lt ok.b (tgt := 199) dX1_advance_78 (by decide) (fun c78 => ?_) (fun c78 => ?_)
      · skip
        exact U (dig_no1 c78) hsl
      · skip
        refine A_aload_n ok.b rfl dX1_advance_81 gp0 ?_
        refine A_getf ok.b cf1 6 (by decide) fl_X1_9 gp0 (gps (gps (gps (gps (gps (gps gp0)))))) dX1_advance_82 ?_
        refine A_aload_n ok.b rfl dX1_advance_85 gp0 ?_
        refine A_getf ok.b cf1 4 (by decide) fl_X1_22 gp0 (gps (gps (gps (gps gp0)))) dX1_advance_86 ?_
        refine A_bald ok.b (gps gp0) (ix_n (by omega) (by decide)) dX1_advance_89 ?_
        refine A_bipush ok.b (v := 57) dX1_advance_90 (by decide) ?_
        refine A_icmp_gt ok.b (tgt := 199) dX1_advance_92 (by decide) (fun c92 => ?_) (fun c92 => ?_)
        · skip
          exact U (dig_no2 c92) hsl
        · skip
          refine A_aload_n ok.b rfl dX1_advance_95 gp0 ?_
          refine A_sipush ok.b (v := 256) dX1_advance_96 (by decide) ?_
          refine A_putf ok.b cf1 1 (by decide) rfl fl_X1_31 gp0 rfl rfl (gp_lt (gps gp0)) (wps wp0) wp0 dX1_advance_99 ?_
          refine A_aload_n ok.b rfl dX1_advance_102 gp0 ?_
          refine A_iconst ok.b (v := 0) dX1_advance_103 (by decide) ?_
          refine A_putf ok.b cf1 3 (by decide) rfl fl_X1_34 gp0 rfl rfl (gp_lt (gps (gps (gps gp0)))) (wps (wps (wps wp0))) wp0 dX1_advance_104 ?_
          have h9 := D s (Nat.le_refl _) rfl hs8 (dig_of c78 c92) hsl
          rw [Nat.sub_self] at h9
          exact h9
    · skip
      have hsl : len ≤ s := by
        rcases Nat.lt_or_ge s len with h | h
        · exact absurd (nI_lt h (by omega)) c54
        · exact h
      have et : tokF B len p v0 = (258, s, v0, s) := by
        unfold tokF
        rw [← hs, if_pos hsl]
      refine A_aload_n ok.b rfl dX1_advance_57 gp0 ?_
      refine A_sipush ok.b (v := 258) dX1_advance_58 (by decide) ?_
      refine A_putf ok.b cf1 1 (by decide) rfl fl_X1_31 gp0 rfl rfl (gp_lt (gps gp0)) (wps wp0) wp0 dX1_advance_61 ?_
      refine A_goto ok.b (tgt := 309) dX1_advance_64 (by decide) ?_
      refine A_vret ok dX1_advance_309 (Nat.le_of_ble_eq_true rfl) (Nat.le_of_ble_eq_true rfl) ?_
      exact ⟨rfl, by rw [et]; rfl⟩
  refine scanE_ind (f := fSp) (B := B) (len := len) (P := fun q => p ≤ q → scanE fSp B len q = scanE fSp B len p → q ≤ 800 → AW g A H0 1 K 0 [some (.ref i0)] [] (inW g i0 i1 size k0 s0 v0 (nI q) (nI len) B) 0 0) p (fun q _ ih => ?_) (by omega) (Nat.le_refl _) rfl hp
  intro hq hqe hq8
  refine A_aload_n ok.b rfl dX1_advance_0 gp0 ?_
  refine A_getf ok.b cf1 4 (by decide) fl_X1_22 gp0 (gps (gps (gps (gps gp0)))) dX1_advance_1 ?_
  refine A_aload_n ok.b rfl dX1_advance_4 gp0 ?_
  refine A_getf ok.b cf1 5 (by decide) fl_X1_19 gp0 (gps (gps (gps (gps (gps gp0))))) dX1_advance_5 ?_
  refine A_icmp_ge ok.b (tgt := 38) dX1_advance_8 (by decide) (fun c8 => ?_) (fun c8 => ?_)
  · skip
    exact T q (by rw [← hqe, scanE_f (fun h => absurd c8 (nI_ge h.1 (by omega)))])
  · skip
    have hql : q < len := by
      rcases Nat.lt_or_ge q len with h | h
      · exact h
      · exact absurd (nI_le h (by omega)) c8
    refine A_aload_n ok.b rfl dX1_advance_11 gp0 ?_
    refine A_getf ok.b cf1 6 (by decide) fl_X1_9 gp0 (gps (gps (gps (gps (gps (gps gp0)))))) dX1_advance_12 ?_
    refine A_aload_n ok.b rfl dX1_advance_15 gp0 ?_
    refine A_getf ok.b cf1 4 (by decide) fl_X1_22 gp0 (gps (gps (gps (gps gp0)))) dX1_advance_16 ?_
    refine A_bald ok.b (gps gp0) (ix_n (by omega) (by decide)) dX1_advance_19 ?_
    refine A_bipush ok.b (v := 32) dX1_advance_20 (by decide) ?_
    refine A_icmp_ne ok.b (tgt := 38) dX1_advance_22 (by decide) (fun c22 => ?_) (fun c22 => ?_)
    · skip
      exact T q (by rw [← hqe, scanE_f (fun h => c22 (by simpa [fSp] using h.2))])
    · skip
      refine A_aload_n ok.b rfl dX1_advance_25 gp0 ?_
      refine A_dup ok.b dX1_advance_26 rfl ?_
      refine A_getf ok.b cf1 4 (by decide) fl_X1_22 gp0 (gps (gps (gps (gps gp0)))) dX1_advance_27 ?_
      refine A_iconst ok.b (v := 1) dX1_advance_30 (by decide) ?_
      refine A_iadd ok.b dX1_advance_31 ?_
      refine A_putf ok.b cf1 4 (by decide) rfl fl_X1_22 gp0 rfl rfl (gp_lt (gps (gps (gps (gps gp0))))) (wps (wps (wps (wps wp0)))) wp0 dX1_advance_32 ?_
      refine A_goto ok.b (tgt := 0) dX1_advance_35 (by decide) ?_
      rw [nI_1]
      exact ih ⟨hql, by simp [fSp, c22]⟩ (by omega) (by rw [← scanE_t hql (by simp [fSp, c22])]; exact hqe) (by omega)
