/-! ===== numbers as sets of bits ===== -/
def bm : Nat → (Nat → Bool) → Nat
  | 0, _ => 0
  | n + 1, f => bm n f + (f n).toNat * 2 ^ n
theorem bm_lt (n : Nat) (f : Nat → Bool) : bm n f < 2 ^ n := by
  induction n with
  | zero => simp [bm]
  | succ n ih =>
    have h : (f n).toNat ≤ 1 := by cases f n <;> decide
    have h2 : (f n).toNat * 2 ^ n ≤ 1 * 2 ^ n := Nat.mul_le_mul_right _ h
    rw [bm, Nat.pow_succ]
    omega
theorem bm_bit (n : Nat) (f : Nat → Bool) (i : Nat) : (bm n f).testBit i = (decide (i < n) && f i) := by
  induction n with
  | zero => simp [bm]
  | succ n ih =>
    rw [bm, Nat.add_comm, Nat.mul_comm]
    by_cases hi : i < n
    · rw [Nat.testBit_two_pow_mul_add _ (bm_lt n f), if_pos hi, ih]
      simp [hi, Nat.lt_succ_of_lt hi]
    · rw [Nat.testBit_two_pow_mul_add _ (bm_lt n f), if_neg hi]
      by_cases he : i = n
      · subst he
        rw [Nat.sub_self]
        cases f i <;> simp
      · have h1 : ¬ i < n + 1 := by omega
        obtain ⟨d, hd⟩ : ∃ d, i - n = d + 1 := ⟨i - n - 1, by omega⟩
        rw [hd]
        cases f n <;> simp [h1, Nat.testBit_succ]
theorem bm_eq {n : Nat} {f : Nat → Bool} {a : Nat} (ha : a < 2 ^ n) (h : ∀ i, i < n → a.testBit i = f i) : a = bm n f := by
  apply Nat.eq_of_testBit_eq
  intro i
  rw [bm_bit]
  by_cases hi : i < n
  · simp [hi, h i hi]
  · simp only [hi, decide_false, Bool.false_and]
    exact Nat.testBit_lt_two_pow (Nat.lt_of_lt_of_le ha (Nat.pow_le_pow_right (by decide) (by omega)))
theorem bm_congr {n : Nat} {f g : Nat → Bool} (h : ∀ i, i < n → f i = g i) : bm n f = bm n g := bm_eq (bm_lt n f) (fun i hi => by rw [bm_bit]; simp [hi, h i hi])
theorem bits_lt {a n : Nat} (h : ∀ i, n ≤ i → a.testBit i = false) : a < 2 ^ n := Nat.lt_pow_two_of_testBit a (fun i hi => h i hi)
theorem bm_lt31 {n : Nat} (hn : n ≤ 30) (f : Nat → Bool) : bm n f < 2147483648 := Nat.lt_of_lt_of_le (bm_lt n f) (Nat.le_trans (Nat.pow_le_pow_right (by decide) hn) (by decide))
theorem pow_lt31 {n : Nat} (hn : n ≤ 30) : 2 ^ n < 2147483648 := Nat.lt_of_le_of_lt (Nat.pow_le_pow_right (by decide) hn) (by decide)
/-! ===== what a state is ===== -/
/-- a shape: x, y, x2, y2, its cuts from the left -/
abbrev Sh : Type := Nat × Nat × Nat × Nat × List Nat
def sx (s : Sh) : Nat := s.1
def sy (s : Sh) : Nat := s.2.1
def sx2 (s : Sh) : Nat := s.2.2.1
def sy2 (s : Sh) : Nat := s.2.2.2.1
def sc (s : Sh) : List Nat := s.2.2.2.2
/-- a layout: shapes, D, STITCH, CLASH, what is fixed (0 no, 1 on mask 0, 2 on mask 1) -/
abbrev Ly : Type := List Sh × Nat × Nat × Nat × (Nat → Nat)
def lD (v : Ly) : Nat := v.2.1
def lST (v : Ly) : Nat := v.2.2.1
def lCL (v : Ly) : Nat := v.2.2.2.1
def lfx (v : Ly) : Nat → Nat := v.2.2.2.2
def cm (c : List Nat) : Nat := bm 15 (fun i => decide (i ∈ c))
def fm (f : Nat → Nat) : Nat := bm 14 (fun i => decide (f i ≠ 0))
def fo (f : Nat → Nat) : Nat := bm 14 (fun i => decide (f i = 2))
def cOk (x x2 : Nat) (c : List Nat) : Prop := c = [] ∨ (∃ a, c = [a] ∧ x ≤ a ∧ a < x2) ∨ ∃ a b, c = [a, b] ∧ x ≤ a ∧ a < b ∧ b < x2
def shOk (s : Sh) : Prop := sx s ≤ sx2 s ∧ sx2 s ≤ 15 ∧ sy s ≤ sy2 s ∧ sy2 s ≤ 15 ∧ cOk (sx s) (sx2 s) (sc s)
def np (l : List Sh) : Nat := (l.map (fun s => 1 + (sc s).length)).sum
def ovl (s t : Sh) : Prop := sx s ≤ sx2 t ∧ sx t ≤ sx2 s ∧ sy s ≤ sy2 t ∧ sy t ≤ sy2 s
def lyOk (v : Ly) : Prop := v.1.length ≤ 10 ∧ (∀ s ∈ v.1, shOk s) ∧ np v.1 ≤ 14 ∧ (∀ (i j : Nat) (s t : Sh), v.1[i]? = some s → v.1[j]? = some t → i ≠ j → ¬ ovl s t) ∧ 1 ≤ lD v ∧ lD v ≤ 8 ∧ lST v ≤ 9 ∧ lCL v ≤ 99 ∧ (∀ p, lfx v p ≤ 2) ∧ (∀ p, np v.1 ≤ p → lfx v p = 0)
/-- the class's picture of a layout at b -/
def zCLy (I : zMI) (b : Nat) (v : Ly) : Prop := I b 5 = nI v.1.length ∧ (∀ (k : Nat) (s : Sh), v.1[k]? = some s → I (b + 1) k = nI (sx s) ∧ I (b + 2) k = nI (sy s) ∧ I (b + 3) k = nI (sx2 s) ∧ I (b + 4) k = nI (sy2 s) ∧ I (b + 5) k = nI (cm (sc s))) ∧ I b 6 = nI (lD v) ∧ I b 7 = nI (lST v) ∧ I b 8 = nI (lCL v) ∧ I b 9 = nI (fm (lfx v)) ∧ I b 10 = nI (fo (lfx v))
theorem zCLy.frame {I I2 : zMI} {b : Nat} {v : Ly} (h : zCLy I b v) (hf : ∀ p, b ≤ p → p ≤ b + 5 → I2 p = I p) : zCLy I2 b v := by
  obtain ⟨h0, h1, h2⟩ := h
  unfold zCLy
  rw [hf b (by omega) (by omega), hf (b + 1) (by omega) (by omega), hf (b + 2) (by omega) (by omega), hf (b + 3) (by omega) (by omega), hf (b + 4) (by omega) (by omega), hf (b + 5) (by omega) (by omega)]
  exact ⟨h0, h1, h2⟩
/-! ===== where the cells are ===== -/
def zLay (S : zS) (R : zMR) (b : Nat) : Prop := (S[b]? = some (2 + 3, 0)) ∧ (R b 0 = some (b + 1)) ∧ (R b 1 = some (b + 2)) ∧ (R b 2 = some (b + 3)) ∧ (R b 3 = some (b + 4)) ∧ (R b 4 = some (b + 5)) ∧ (S[b + 1]? = some (0, 10)) ∧ (S[b + 2]? = some (0, 10)) ∧ (S[b + 3]? = some (0, 10)) ∧ (S[b + 4]? = some (0, 10)) ∧ (S[b + 5]? = some (0, 10))
theorem zLay.o {S : zS} {R : zMR} {b : Nat} (h : zLay S R b) : S[b]? = some (2 + 3, 0) := h.1
theorem zLay.r0 {S : zS} {R : zMR} {b : Nat} (h : zLay S R b) : R b 0 = some (b + 1) := h.2.1
theorem zLay.r1 {S : zS} {R : zMR} {b : Nat} (h : zLay S R b) : R b 1 = some (b + 2) := h.2.2.1
theorem zLay.r2 {S : zS} {R : zMR} {b : Nat} (h : zLay S R b) : R b 2 = some (b + 3) := h.2.2.2.1
theorem zLay.r3 {S : zS} {R : zMR} {b : Nat} (h : zLay S R b) : R b 3 = some (b + 4) := h.2.2.2.2.1
theorem zLay.r4 {S : zS} {R : zMR} {b : Nat} (h : zLay S R b) : R b 4 = some (b + 5) := h.2.2.2.2.2.1
theorem zLay.a0 {S : zS} {R : zMR} {b : Nat} (h : zLay S R b) : S[b + 1]? = some (0, 10) := h.2.2.2.2.2.2.1
theorem zLay.a1 {S : zS} {R : zMR} {b : Nat} (h : zLay S R b) : S[b + 2]? = some (0, 10) := h.2.2.2.2.2.2.2.1
theorem zLay.a2 {S : zS} {R : zMR} {b : Nat} (h : zLay S R b) : S[b + 3]? = some (0, 10) := h.2.2.2.2.2.2.2.2.1
theorem zLay.a3 {S : zS} {R : zMR} {b : Nat} (h : zLay S R b) : S[b + 4]? = some (0, 10) := h.2.2.2.2.2.2.2.2.2.1
theorem zLay.a4 {S : zS} {R : zMR} {b : Nat} (h : zLay S R b) : S[b + 5]? = some (0, 10) := h.2.2.2.2.2.2.2.2.2.2
def zPcs (S : zS) (R : zMR) (b : Nat) : Prop := (S[b]? = some (4 + 3, 0)) ∧ (R b 0 = some (b + 1)) ∧ (R b 1 = some (b + 2)) ∧ (R b 2 = some (b + 3)) ∧ (R b 3 = some (b + 4)) ∧ (R b 4 = some (b + 5)) ∧ (R b 5 = some (b + 6)) ∧ (R b 6 = some (b + 7)) ∧ (R b 7 = some (b + 8)) ∧ (S[b + 1]? = some (0, 14)) ∧ (S[b + 2]? = some (0, 14)) ∧ (S[b + 3]? = some (0, 14)) ∧ (S[b + 4]? = some (0, 14)) ∧ (S[b + 5]? = some (0, 14)) ∧ (S[b + 6]? = some (0, 14)) ∧ (S[b + 7]? = some (0, 14)) ∧ (S[b + 8]? = some (0, 14))
theorem zPcs.o {S : zS} {R : zMR} {b : Nat} (h : zPcs S R b) : S[b]? = some (4 + 3, 0) := h.1
theorem zPcs.r0 {S : zS} {R : zMR} {b : Nat} (h : zPcs S R b) : R b 0 = some (b + 1) := h.2.1
theorem zPcs.r1 {S : zS} {R : zMR} {b : Nat} (h : zPcs S R b) : R b 1 = some (b + 2) := h.2.2.1
theorem zPcs.r2 {S : zS} {R : zMR} {b : Nat} (h : zPcs S R b) : R b 2 = some (b + 3) := h.2.2.2.1
theorem zPcs.r3 {S : zS} {R : zMR} {b : Nat} (h : zPcs S R b) : R b 3 = some (b + 4) := h.2.2.2.2.1
theorem zPcs.r4 {S : zS} {R : zMR} {b : Nat} (h : zPcs S R b) : R b 4 = some (b + 5) := h.2.2.2.2.2.1
theorem zPcs.r5 {S : zS} {R : zMR} {b : Nat} (h : zPcs S R b) : R b 5 = some (b + 6) := h.2.2.2.2.2.2.1
theorem zPcs.r6 {S : zS} {R : zMR} {b : Nat} (h : zPcs S R b) : R b 6 = some (b + 7) := h.2.2.2.2.2.2.2.1
theorem zPcs.r7 {S : zS} {R : zMR} {b : Nat} (h : zPcs S R b) : R b 7 = some (b + 8) := h.2.2.2.2.2.2.2.2.1
theorem zPcs.a0 {S : zS} {R : zMR} {b : Nat} (h : zPcs S R b) : S[b + 1]? = some (0, 14) := h.2.2.2.2.2.2.2.2.2.1
theorem zPcs.a1 {S : zS} {R : zMR} {b : Nat} (h : zPcs S R b) : S[b + 2]? = some (0, 14) := h.2.2.2.2.2.2.2.2.2.2.1
theorem zPcs.a2 {S : zS} {R : zMR} {b : Nat} (h : zPcs S R b) : S[b + 3]? = some (0, 14) := h.2.2.2.2.2.2.2.2.2.2.2.1
theorem zPcs.a3 {S : zS} {R : zMR} {b : Nat} (h : zPcs S R b) : S[b + 4]? = some (0, 14) := h.2.2.2.2.2.2.2.2.2.2.2.2.1
theorem zPcs.a4 {S : zS} {R : zMR} {b : Nat} (h : zPcs S R b) : S[b + 5]? = some (0, 14) := h.2.2.2.2.2.2.2.2.2.2.2.2.2.1
theorem zPcs.a5 {S : zS} {R : zMR} {b : Nat} (h : zPcs S R b) : S[b + 6]? = some (0, 14) := h.2.2.2.2.2.2.2.2.2.2.2.2.2.2.1
theorem zPcs.a6 {S : zS} {R : zMR} {b : Nat} (h : zPcs S R b) : S[b + 7]? = some (0, 14) := h.2.2.2.2.2.2.2.2.2.2.2.2.2.2.2.1
theorem zPcs.a7 {S : zS} {R : zMR} {b : Nat} (h : zPcs S R b) : S[b + 8]? = some (0, 14) := h.2.2.2.2.2.2.2.2.2.2.2.2.2.2.2.2
def zBst (S : zS) (R : zMR) (b pb : Nat) : Prop := (S[b]? = some (0 + 3, 0)) ∧ (R b 0 = some pb) ∧ (zPcs S R pb)
theorem zBst.o {S : zS} {R : zMR} {b pb : Nat} (h : zBst S R b pb) : S[b]? = some (0 + 3, 0) := h.1
theorem zBst.r0 {S : zS} {R : zMR} {b pb : Nat} (h : zBst S R b pb) : R b 0 = some pb := h.2.1
theorem zBst.p {S : zS} {R : zMR} {b pb : Nat} (h : zBst S R b pb) : zPcs S R pb := h.2.2
def zLnk (S : zS) (R : zMR) (b pb : Nat) : Prop := (S[b]? = some (3 + 3, 0)) ∧ (R b 0 = some pb) ∧ (zPcs S R pb)
theorem zLnk.o {S : zS} {R : zMR} {b pb : Nat} (h : zLnk S R b pb) : S[b]? = some (3 + 3, 0) := h.1
theorem zLnk.r0 {S : zS} {R : zMR} {b pb : Nat} (h : zLnk S R b pb) : R b 0 = some pb := h.2.1
theorem zLnk.p {S : zS} {R : zMR} {b pb : Nat} (h : zLnk S R b pb) : zPcs S R pb := h.2.2
def zHis (S : zS) (R : zMR) (b rb lb : Nat) : Prop := (S[b]? = some (1 + 3, 0)) ∧ (R b 0 = some rb) ∧ (S[rb]? = some (2, 8)) ∧ (∀ j, j < 8 → R rb j = some (lb + 6 * j)) ∧ (∀ j, j < 8 → zLay S R (lb + 6 * j))
theorem zHis.o {S : zS} {R : zMR} {b rb lb : Nat} (h : zHis S R b rb lb) : S[b]? = some (1 + 3, 0) := h.1
theorem zHis.r0 {S : zS} {R : zMR} {b rb lb : Nat} (h : zHis S R b rb lb) : R b 0 = some rb := h.2.1
theorem zHis.ra {S : zS} {R : zMR} {b rb lb : Nat} (h : zHis S R b rb lb) : S[rb]? = some (2, 8) := h.2.2.1
theorem zHis.rr {S : zS} {R : zMR} {b rb lb : Nat} (h : zHis S R b rb lb) : ∀ j, j < 8 → R rb j = some (lb + 6 * j) := h.2.2.2.1
theorem zHis.ly {S : zS} {R : zMR} {b rb lb : Nat} (h : zHis S R b rb lb) : ∀ j, j < 8 → zLay S R (lb + 6 * j) := h.2.2.2.2
def zTM (S : zS) (R : zMR) : Prop := (S[0]? = some (5 + 3, 0)) ∧ (R 0 0 = some 1) ∧ (R 0 1 = some 7) ∧ (R 0 2 = some 16) ∧ (R 0 3 = some 17) ∧ (R 0 5 = some 18) ∧ (R 0 6 = some 24) ∧ (R 0 7 = some 33) ∧ (R 0 8 = some 34) ∧ (R 0 9 = some 84) ∧ (R 0 10 = some 90) ∧ (zLay S R 1) ∧ (zPcs S R 7) ∧ (zLnk S R 16 7) ∧ (zBst S R 17 7) ∧ (zLay S R 18) ∧ (zPcs S R 24) ∧ (zBst S R 33 24) ∧ (zHis S R 34 35 36) ∧ (zLay S R 84) ∧ (zLay S R 90)
theorem zTM.o {S : zS} {R : zMR} (h : zTM S R) : S[0]? = some (5 + 3, 0) := h.1
theorem zTM.r0 {S : zS} {R : zMR} (h : zTM S R) : R 0 0 = some 1 := h.2.1
theorem zTM.q0 {S : zS} {R : zMR} (h : zTM S R) : zLay S R 1 := h.2.2.2.2.2.2.2.2.2.2.2.1
theorem zTM.r1 {S : zS} {R : zMR} (h : zTM S R) : R 0 1 = some 7 := h.2.2.1
theorem zTM.q1 {S : zS} {R : zMR} (h : zTM S R) : zPcs S R 7 := h.2.2.2.2.2.2.2.2.2.2.2.2.1
theorem zTM.r2 {S : zS} {R : zMR} (h : zTM S R) : R 0 2 = some 16 := h.2.2.2.1
theorem zTM.q2 {S : zS} {R : zMR} (h : zTM S R) : zLnk S R 16 7 := h.2.2.2.2.2.2.2.2.2.2.2.2.2.1
theorem zTM.r3 {S : zS} {R : zMR} (h : zTM S R) : R 0 3 = some 17 := h.2.2.2.2.1
theorem zTM.q3 {S : zS} {R : zMR} (h : zTM S R) : zBst S R 17 7 := h.2.2.2.2.2.2.2.2.2.2.2.2.2.2.1
theorem zTM.r5 {S : zS} {R : zMR} (h : zTM S R) : R 0 5 = some 18 := h.2.2.2.2.2.1
theorem zTM.q5 {S : zS} {R : zMR} (h : zTM S R) : zLay S R 18 := h.2.2.2.2.2.2.2.2.2.2.2.2.2.2.2.1
theorem zTM.r6 {S : zS} {R : zMR} (h : zTM S R) : R 0 6 = some 24 := h.2.2.2.2.2.2.1
theorem zTM.q6 {S : zS} {R : zMR} (h : zTM S R) : zPcs S R 24 := h.2.2.2.2.2.2.2.2.2.2.2.2.2.2.2.2.1
theorem zTM.r7 {S : zS} {R : zMR} (h : zTM S R) : R 0 7 = some 33 := h.2.2.2.2.2.2.2.1
theorem zTM.q7 {S : zS} {R : zMR} (h : zTM S R) : zBst S R 33 24 := h.2.2.2.2.2.2.2.2.2.2.2.2.2.2.2.2.2.1
theorem zTM.r8 {S : zS} {R : zMR} (h : zTM S R) : R 0 8 = some 34 := h.2.2.2.2.2.2.2.2.1
theorem zTM.q8 {S : zS} {R : zMR} (h : zTM S R) : zHis S R 34 35 36 := h.2.2.2.2.2.2.2.2.2.2.2.2.2.2.2.2.2.2.1
theorem zTM.r9 {S : zS} {R : zMR} (h : zTM S R) : R 0 9 = some 84 := h.2.2.2.2.2.2.2.2.2.1
theorem zTM.q9 {S : zS} {R : zMR} (h : zTM S R) : zLay S R 84 := h.2.2.2.2.2.2.2.2.2.2.2.2.2.2.2.2.2.2.2.1
theorem zTM.r10 {S : zS} {R : zMR} (h : zTM S R) : R 0 10 = some 90 := h.2.2.2.2.2.2.2.2.2.2.1
theorem zTM.q10 {S : zS} {R : zMR} (h : zTM S R) : zLay S R 90 := h.2.2.2.2.2.2.2.2.2.2.2.2.2.2.2.2.2.2.2.2
def zMod (S : zS) (R : zMR) (b : Nat) : Prop := (S[b]? = some (6 + 3, 0)) ∧ (R b 0 = some (b + 1)) ∧ (R b 1 = some (b + 2)) ∧ (R b 3 = some (b + 3)) ∧ (R b 4 = some (b + 4)) ∧ (R b 6 = some (b + 5)) ∧ (R b 7 = some (b + 6)) ∧ (R b 8 = some (b + 7)) ∧ (R b 9 = some (b + 8)) ∧ (R b 10 = some (b + 9)) ∧ (R b 15 = some (b + 10)) ∧ (S[b + 1]? = some (0, 78)) ∧ (S[b + 2]? = some (0, 624)) ∧ (S[b + 3]? = some (0, 156)) ∧ (S[b + 4]? = some (1, 2)) ∧ (S[b + 5]? = some (0, 14)) ∧ (S[b + 6]? = some (0, 14)) ∧ (S[b + 7]? = some (0, 14)) ∧ (S[b + 8]? = some (0, 14)) ∧ (S[b + 9]? = some (0, 14)) ∧ (S[b + 10]? = some (0, 78))
theorem zMod.o {S : zS} {R : zMR} {b : Nat} (h : zMod S R b) : S[b]? = some (6 + 3, 0) := h.1
theorem zMod.r0 {S : zS} {R : zMR} {b : Nat} (h : zMod S R b) : R b 0 = some (b + 1) := h.2.1
theorem zMod.r1 {S : zS} {R : zMR} {b : Nat} (h : zMod S R b) : R b 1 = some (b + 2) := h.2.2.1
theorem zMod.r3 {S : zS} {R : zMR} {b : Nat} (h : zMod S R b) : R b 3 = some (b + 3) := h.2.2.2.1
theorem zMod.r4 {S : zS} {R : zMR} {b : Nat} (h : zMod S R b) : R b 4 = some (b + 4) := h.2.2.2.2.1
theorem zMod.r6 {S : zS} {R : zMR} {b : Nat} (h : zMod S R b) : R b 6 = some (b + 5) := h.2.2.2.2.2.1
theorem zMod.r7 {S : zS} {R : zMR} {b : Nat} (h : zMod S R b) : R b 7 = some (b + 6) := h.2.2.2.2.2.2.1
theorem zMod.r8 {S : zS} {R : zMR} {b : Nat} (h : zMod S R b) : R b 8 = some (b + 7) := h.2.2.2.2.2.2.2.1
theorem zMod.r9 {S : zS} {R : zMR} {b : Nat} (h : zMod S R b) : R b 9 = some (b + 8) := h.2.2.2.2.2.2.2.2.1
theorem zMod.r10 {S : zS} {R : zMR} {b : Nat} (h : zMod S R b) : R b 10 = some (b + 9) := h.2.2.2.2.2.2.2.2.2.1
theorem zMod.r15 {S : zS} {R : zMR} {b : Nat} (h : zMod S R b) : R b 15 = some (b + 10) := h.2.2.2.2.2.2.2.2.2.2.1
theorem zMod.a0 {S : zS} {R : zMR} {b : Nat} (h : zMod S R b) : S[b + 1]? = some (0, 78) := h.2.2.2.2.2.2.2.2.2.2.2.1
theorem zMod.a1 {S : zS} {R : zMR} {b : Nat} (h : zMod S R b) : S[b + 2]? = some (0, 624) := h.2.2.2.2.2.2.2.2.2.2.2.2.1
theorem zMod.a3 {S : zS} {R : zMR} {b : Nat} (h : zMod S R b) : S[b + 3]? = some (0, 156) := h.2.2.2.2.2.2.2.2.2.2.2.2.2.1
theorem zMod.a4 {S : zS} {R : zMR} {b : Nat} (h : zMod S R b) : S[b + 4]? = some (1, 2) := h.2.2.2.2.2.2.2.2.2.2.2.2.2.2.1
theorem zMod.a6 {S : zS} {R : zMR} {b : Nat} (h : zMod S R b) : S[b + 5]? = some (0, 14) := h.2.2.2.2.2.2.2.2.2.2.2.2.2.2.2.1
theorem zMod.a7 {S : zS} {R : zMR} {b : Nat} (h : zMod S R b) : S[b + 6]? = some (0, 14) := h.2.2.2.2.2.2.2.2.2.2.2.2.2.2.2.2.1
theorem zMod.a8 {S : zS} {R : zMR} {b : Nat} (h : zMod S R b) : S[b + 7]? = some (0, 14) := h.2.2.2.2.2.2.2.2.2.2.2.2.2.2.2.2.2.1
theorem zMod.a9 {S : zS} {R : zMR} {b : Nat} (h : zMod S R b) : S[b + 8]? = some (0, 14) := h.2.2.2.2.2.2.2.2.2.2.2.2.2.2.2.2.2.2.1
theorem zMod.a10 {S : zS} {R : zMR} {b : Nat} (h : zMod S R b) : S[b + 9]? = some (0, 14) := h.2.2.2.2.2.2.2.2.2.2.2.2.2.2.2.2.2.2.2.1
theorem zMod.a15 {S : zS} {R : zMR} {b : Nat} (h : zMod S R b) : S[b + 10]? = some (0, 78) := h.2.2.2.2.2.2.2.2.2.2.2.2.2.2.2.2.2.2.2.2
section ZS3
variable {g : zG} {Post : zPost} {u : Nat × Nat} {S : zS} {I : zMI} {L : zML} {R : zMR} {pc pc2 : Nat} {lv : List (Option Value)} {st : List Value}
theorem z_shl1 {k : Nat} (hd : zD g.2.1 pc .ishl 1 pc2) (hk : k < 31) (kk : zV g Post u S I L R pc2 lv (.int (nI (2 ^ k)) :: st)) : zV g Post u S I L R pc lv (.int (nI k) :: .int (nI 1) :: st) := by
  refine z_ishlN hd (by omega) ?_ ?_
  · have := pow_lt31 (n := k) (by omega)
    omega
  · rw [Nat.one_mul]; exact kk
end ZS3
theorem zM0_of {y : MethodName} {own : String} {cc : ByteArray} {nL : Nat} {rt : Option FieldType} {d : Nat} {av : List Value} {S : zS} {I : zMI} {L : zML} {R : zMR} {PostM : zMI → zML → Option Value → Prop} {lv : List (Option Value)} (hown : y.cls = own) (hy : plainName own = true) (ha : zArg nL av = lv) (hn : lv.length = nL)
    (h : zV (zMt own cc nL rt d) (fun S2 I2 L2 R2 r => S2 = S ∧ R2 = R ∧ PostM I2 L2 r) (0, 0) S I L R 0 lv []) : zM0 y cc nL rt d av S I L R PostM := by
  subst hown
  exact zMet_of (ini := false) hy (fun h => absurd h (by decide)) ha hn h
