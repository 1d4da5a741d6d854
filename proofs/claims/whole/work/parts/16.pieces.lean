/-! ===== counting and adding up ===== -/
def cnt : Nat → (Nat → Bool) → Nat
  | 0, _ => 0
  | n + 1, f => cnt n f + (f n).toNat
def sm : Nat → (Nat → Nat) → Nat
  | 0, _ => 0
  | n + 1, f => sm n f + f n
theorem popc_cnt (n a : Nat) : popc n a = cnt n a.testBit := by
  induction n with
  | zero => rfl
  | succ n ih => rw [popc, cnt, ih]
theorem cnt_congr {n : Nat} {f g : Nat → Bool} (h : ∀ i, i < n → f i = g i) : cnt n f = cnt n g := by
  induction n with
  | zero => rfl
  | succ n ih => rw [cnt, cnt, ih (fun i hi => h i (by omega)), h n (by omega)]
theorem sm_congr {n : Nat} {f g : Nat → Nat} (h : ∀ i, i < n → f i = g i) : sm n f = sm n g := by
  induction n with
  | zero => rfl
  | succ n ih => rw [sm, sm, ih (fun i hi => h i (by omega)), h n (by omega)]
theorem cnt_le (n : Nat) (f : Nat → Bool) : cnt n f ≤ n := by
  induction n with
  | zero => simp [cnt]
  | succ n ih =>
    have : (f n).toNat ≤ 1 := by cases f n <;> decide
    rw [cnt]; omega
theorem cnt_lt_eq {p n : Nat} (h : p ≤ n) (f : Nat → Bool) : cnt n (fun q => decide (q < p) && f q) = cnt p f := by
  induction n with
  | zero =>
    have : p = 0 := by omega
    subst this; rfl
  | succ n ih =>
    by_cases e : p = n + 1
    · subst e
      exact cnt_congr (fun i hi => by simp [hi])
    · rw [cnt, ih (by omega)]
      have : ¬ n < p := by omega
      simp [this]
theorem sm_le {n : Nat} {f : Nat → Nat} {k : Nat} (h : ∀ i, i < n → f i ≤ k) : sm n f ≤ n * k := by
  induction n with
  | zero => simp [sm]
  | succ n ih =>
    have h1 := ih (fun i hi => h i (by omega))
    have h2 := h n (by omega)
    rw [sm, Nat.succ_mul]
    omega
/-! ===== pieces ===== -/
/-- a piece: its shape, x, x2, y, y2 -/
abbrev Pc : Type := Nat × Nat × Nat × Nat × Nat
def qs (c : Pc) : Nat := c.1
def qx (c : Pc) : Nat := c.2.1
def qx2 (c : Pc) : Nat := c.2.2.1
def qy (c : Pc) : Nat := c.2.2.2.1
def qy2 (c : Pc) : Nat := c.2.2.2.2
def qa (c : Pc) : Nat := (qx2 c - qx c + 1) * (qy2 c - qy c + 1)
def pcF (k left : Nat) : List Nat → Nat → Nat → Nat → List Pc
  | [], x2, y, y2 => [(k, left, x2, y, y2)]
  | a :: t, x2, y, y2 => (k, left, a, y, y2) :: pcF k (a + 1) t x2 y y2
def pcO (k : Nat) (s : Sh) : List Pc := pcF k (sx s) (sc s) (sx2 s) (sy s) (sy2 s)
def pcsF : Nat → List Sh → List Pc
  | _, [] => []
  | k, s :: t => pcO k s ++ pcsF (k + 1) t
def pcs (l : List Sh) : List Pc := pcsF 0 l
theorem pcF_len (k left : Nat) (c : List Nat) (x2 y y2 : Nat) : (pcF k left c x2 y y2).length = c.length + 1 := by
  induction c generalizing left with
  | nil => rfl
  | cons a t ih => rw [pcF, List.length_cons, ih, List.length_cons]
theorem pcsF_len (k : Nat) (l : List Sh) : (pcsF k l).length = np l := by
  induction l generalizing k with
  | nil => rfl
  | cons s t ih => rw [pcsF, List.length_append, ih, np_cons, pcO, pcF_len]; omega
theorem pcs_len (l : List Sh) : (pcs l).length = np l := pcsF_len 0 l
theorem pcsF_append (k : Nat) (a b : List Sh) : pcsF k (a ++ b) = pcsF k a ++ pcsF (k + a.length) b := by
  induction a generalizing k with
  | nil => simp [pcsF]
  | cons s t ih => 
    rw [List.cons_append, pcsF, ih, pcsF, List.append_assoc, List.length_cons]
    congr 2
    rw [Nat.add_assoc, Nat.add_comm 1]
theorem pcs_take_succ {l : List Sh} {i : Nat} {s : Sh} (h : l[i]? = some s) : pcs (l.take (i + 1)) = pcs (l.take i) ++ pcO i s := by
  unfold pcs
  rw [List.take_succ, h, Option.toList_some, pcsF_append]
  have : (l.take i).length = i := by rw [List.length_take]; have := getS_lt h; omega
  rw [this]
  simp [pcsF]
def pcOk (c : Pc) : Prop := qs c < 10 ∧ qx c ≤ qx2 c ∧ qx2 c ≤ 15 ∧ qy c ≤ qy2 c ∧ qy2 c ≤ 15
def psOk (ps : List Pc) : Prop := ps.length ≤ 14 ∧ ∀ c ∈ ps, pcOk c
theorem pcO_ok {k : Nat} {s : Sh} (hk : k < 10) (hs : shOk s) : ∀ c ∈ pcO k s, pcOk c := by
  obtain ⟨h1, h2, h3, h4, h5⟩ := hs
  intro c hc
  unfold pcO at hc
  rcases h5 with e | ⟨a, e, g1, g2⟩ | ⟨a, b, e, g1, g2, g3⟩ <;> rw [e] at hc <;> simp [pcF] at hc
  · subst hc; exact ⟨hk, h1, h2, h3, h4⟩
  · rcases hc with rfl | rfl
    · exact ⟨hk, g1, by simp only [qx2]; omega, h3, h4⟩
    · exact ⟨hk, by simp only [qx, qx2]; omega, h2, h3, h4⟩
  · rcases hc with rfl | rfl | rfl
    · exact ⟨hk, g1, by simp only [qx2]; omega, h3, h4⟩
    · exact ⟨hk, by simp only [qx, qx2]; omega, by simp only [qx2]; omega, h3, h4⟩
    · exact ⟨hk, by simp only [qx, qx2]; omega, h2, h3, h4⟩
theorem pcsF_ok (l : List Sh) : ∀ (k : Nat), k + l.length ≤ 10 → (∀ s ∈ l, shOk s) → ∀ c ∈ pcsF k l, pcOk c := by
  induction l with
  | nil => intro k _ _ c hc; simp [pcsF] at hc
  | cons s t ih =>
    intro k hk hs c hc
    rw [List.length_cons] at hk
    rw [pcsF] at hc
    rcases List.mem_append.mp hc with h | h
    · exact pcO_ok (by omega) (hs s List.mem_cons_self) c h
    · exact ih (k + 1) (by omega) (fun s hs2 => hs s (List.mem_cons_of_mem _ hs2)) c h
theorem pcs_ok {v : Ly} (h : lyOk v) : psOk (pcs v.1) := ⟨by rw [pcs_len]; exact h.2.2.1, pcsF_ok v.1 0 (by have := h.1; omega) h.2.1⟩
def apt (a a2 b b2 : Nat) : Nat := max (b - a2) (a - b2)
def gap (c d : Pc) : Nat := apt (qx c) (qx2 c) (qx d) (qx2 d) * apt (qx c) (qx2 c) (qx d) (qx2 d) + apt (qy c) (qy2 c) (qy d) (qy2 d) * apt (qy c) (qy2 c) (qy d) (qy2 d)
def pg (ps : List Pc) (p : Nat) : Pc := ps.getD p (0, 0, 0, 0, 0)
def clb (ps : List Pc) (D p q : Nat) : Bool := decide (p < ps.length ∧ q < ps.length ∧ qs (pg ps p) ≠ qs (pg ps q) ∧ gap (pg ps p) (pg ps q) < D * D)
def beb (ps : List Pc) (p q : Nat) : Bool := decide (p < ps.length ∧ q < ps.length ∧ qs (pg ps p) = qs (pg ps q) ∧ (q = p + 1 ∨ p = q + 1))
def lkb (ps : List Pc) (D p q : Nat) : Bool := clb ps D p q || beb ps p q
theorem pg_some {ps : List Pc} {p : Nat} {c : Pc} (h : ps[p]? = some c) : pg ps p = c := by simp [pg, List.getD_eq_getElem?_getD, h]
theorem getP {ps : List Pc} {p : Nat} (h : p < ps.length) : ps[p]? = some (pg ps p) := by
  rw [List.getElem?_eq_getElem h]
  simp [pg, List.getD_eq_getElem?_getD, List.getElem?_eq_getElem h]
theorem psOk.at {ps : List Pc} (h : psOk ps) {p : Nat} (hp : p < ps.length) : pcOk (pg ps p) := h.2 _ (List.mem_of_getElem? (getP hp))
theorem apt_le {a a2 b b2 : Nat} (h1 : b ≤ 15) (h2 : a ≤ 15) : apt a a2 b b2 ≤ 15 := by unfold apt; omega
theorem apt_comm (a a2 b b2 : Nat) : apt a a2 b b2 = apt b b2 a a2 := by unfold apt; omega
theorem gap_comm (c d : Pc) : gap c d = gap d c := by unfold gap; rw [apt_comm (qx c), apt_comm (qy c)]
theorem clb_comm (ps : List Pc) (D p q : Nat) : clb ps D p q = clb ps D q p := by
  unfold clb
  rw [gap_comm]
  congr 1
  apply propext
  constructor <;> rintro ⟨h1, h2, h3, h4⟩ <;> exact ⟨h2, h1, fun e => h3 e.symm, h4⟩
theorem beb_comm (ps : List Pc) (p q : Nat) : beb ps p q = beb ps q p := by
  unfold beb
  congr 1
  apply propext
  constructor <;> rintro ⟨h1, h2, h3, h4⟩ <;> exact ⟨h2, h1, h3.symm, h4.symm⟩
theorem lkb_comm (ps : List Pc) (D p q : Nat) : lkb ps D p q = lkb ps D q p := by unfold lkb; rw [clb_comm, beb_comm]
/-- the class's picture of pieces at b -/
def zPB (I : zMI) (b : Nat) (ps : List Pc) : Prop := I b 8 = nI ps.length ∧ ∀ (p : Nat) (c : Pc), ps[p]? = some c → I (b + 1) p = nI (qs c) ∧ I (b + 2) p = nI (qx c) ∧ I (b + 3) p = nI (qx2 c) ∧ I (b + 4) p = nI (qa c) ∧ I (b + 7) p = nI (qy c) ∧ I (b + 8) p = nI (qy2 c)
def zPC (I : zMI) (b : Nat) (ps : List Pc) (D st cl : Nat) : Prop := zPB I b ps ∧ (ps ≠ [] → I b 9 = nI st) ∧ (ps ≠ [] → I b 10 = nI cl) ∧ ∀ p, p < ps.length → I (b + 5) p = nI (bm 14 (clb ps D p)) ∧ I (b + 6) p = nI (bm 14 (lkb ps D p))
theorem zPC.frame {I I2 : zMI} {b D st cl : Nat} {ps : List Pc} (h : zPC I b ps D st cl) (hf : ∀ p, b ≤ p → p ≤ b + 8 → I2 p = I p) : zPC I2 b ps D st cl := by
  unfold zPC zPB at h ⊢
  rw [hf b (by omega) (by omega), hf (b + 1) (by omega) (by omega), hf (b + 2) (by omega) (by omega), hf (b + 3) (by omega) (by omega), hf (b + 4) (by omega) (by omega), hf (b + 5) (by omega) (by omega), hf (b + 6) (by omega) (by omega), hf (b + 7) (by omega) (by omega), hf (b + 8) (by omega) (by omega)]
  exact h
/-! ===== costs ===== -/
def cE (ps : List Pc) (D m p : Nat) : Nat := cnt p (fun q => clb ps D p q && (m.testBit p == m.testBit q))
def sE (ps : List Pc) (m p : Nat) : Nat := if 1 ≤ p ∧ qs (pg ps (p - 1)) = qs (pg ps p) then (m.testBit p ^^ m.testBit (p - 1)).toNat else 0
def clashes (ps : List Pc) (D m : Nat) : Nat := sm ps.length (cE ps D m)
def stitches (ps : List Pc) (m : Nat) : Nat := sm ps.length (sE ps m)
def cost (ps : List Pc) (D st cl m : Nat) : Nat := cl * clashes ps D m + st * stitches ps m
def areaM (ps : List Pc) (m : Nat) : Nat := sm ps.length (fun p => if m.testBit p then qa (pg ps p) else 0)
/-- without pieces it costs nothing, whatever the costs are said to be -/
theorem cost_val {I : zMI} {b D st cl : Nat} {ps : List Pc} (hv : zPC I b ps D st cl) (m : Nat) : I b 10 * nI (clashes ps D m) + I b 9 * nI (stitches ps m) = nI (cost ps D st cl m) := by
  unfold cost
  by_cases h : ps = []
  · subst h
    have e1 : clashes [] D m = 0 := rfl
    have e2 : stitches [] m = 0 := rfl
    rw [e1, e2, Nat.mul_zero, Nat.mul_zero]
    have e3 : nI 0 = (0 : Int32) := by decide
    rw [e3, Int32.mul_zero, Int32.mul_zero]
    decide
  · rw [hv.2.1 h, hv.2.2.1 h, pk_mul, pk_mul, nI_add]
theorem cE_le (ps : List Pc) (D m p : Nat) : cE ps D m p ≤ p := cnt_le _ _
theorem sE_le (ps : List Pc) (m p : Nat) : sE ps m p ≤ 1 := by
  unfold sE
  split
  · cases (m.testBit p ^^ m.testBit (p - 1)) <;> decide
  · omega
theorem qa_le {c : Pc} (h : pcOk c) : qa c ≤ 256 := by
  obtain ⟨h0, h1, h2, h3, h4⟩ := h
  have a : qx2 c - qx c + 1 ≤ 16 := by omega
  have b : qy2 c - qy c + 1 ≤ 16 := by omega
  exact Nat.mul_le_mul a b
/-! ===== bits of 14 ===== -/
theorem and_lt {a b n : Nat} (h : a < n) : a &&& b < n := Nat.lt_of_le_of_lt Nat.and_le_left h
theorem andn_le (a b : Nat) : andn a b ≤ a := by
  have : andn a b = a &&& andn a b := by
    apply Nat.eq_of_testBit_eq
    intro i
    rw [Nat.testBit_and, andn_bit]
    cases a.testBit i <;> simp
  rw [this]
  exact Nat.and_le_left
theorem low_bit (p i : Nat) : (2 ^ p - 1).testBit i = decide (i < p) := Nat.testBit_two_pow_sub_one p i
theorem cE_t {ps : List Pc} {D m p : Nat} (hp : p < ps.length) (h14 : ps.length ≤ 14) (hm : m.testBit p = true) : popc 14 ((bm 14 (clb ps D p) &&& (2 ^ p - 1)) &&& m) = cE ps D m p := by
  rw [popc_cnt, cE, ← cnt_lt_eq (show p ≤ 14 by omega)]
  apply cnt_congr
  intro i hi
  rw [Nat.testBit_and, Nat.testBit_and, bm_bit, low_bit, hm]
  cases m.testBit i <;> cases clb ps D p i <;> simp [hi]
theorem cE_f {ps : List Pc} {D m p : Nat} (hp : p < ps.length) (h14 : ps.length ≤ 14) (hm : m.testBit p = false) : popc 14 (andn (bm 14 (clb ps D p) &&& (2 ^ p - 1)) m) = cE ps D m p := by
  rw [popc_cnt, cE, ← cnt_lt_eq (show p ≤ 14 by omega)]
  apply cnt_congr
  intro i hi
  rw [andn_bit, Nat.testBit_and, bm_bit, low_bit, hm]
  cases m.testBit i <;> cases clb ps D p i <;> simp [hi]
theorem xor_bit1 (m p q : Nat) : ((m >>> p) ^^^ (m >>> q)) &&& 1 = (m.testBit p ^^ m.testBit q).toNat := by
  have h : ∀ a : Nat, a &&& 1 = (a.testBit 0).toNat := fun a => by
    have := bit_and a 0
    simpa using this
  rw [h, Nat.testBit_xor, Nat.testBit_shiftRight, Nat.testBit_shiftRight]
  simp
/-! ===== max of numbers ===== -/
theorem nI_subI (a b : Nat) : nI a - nI b = zi ((a : Int) - b) := by rw [nI_zi, nI_zi, zi_sub]
theorem zmax_eq {a b : Int} (h1 : -1000000 ≤ a) (h2 : a ≤ 1000000) (h3 : -1000000 ≤ b) (h4 : b ≤ 1000000) : (if zi a < zi b then zi b else zi a) = zi (max a b) := by
  by_cases h : a < b
  · rw [if_pos (by rw [Int32.lt_iff_toInt_lt, zi_T h1 h2, zi_T h3 h4]; exact h), show max a b = b by omega]
  · rw [if_neg (by rw [Int32.lt_iff_toInt_lt, zi_T h1 h2, zi_T h3 h4]; exact h), show max a b = a by omega]
theorem zmin_eq {a b : Int} (h1 : -1000000 ≤ a) (h2 : a ≤ 1000000) (h3 : -1000000 ≤ b) (h4 : b ≤ 1000000) : (if zi b < zi a then zi b else zi a) = zi (min a b) := by
  by_cases h : b < a
  · rw [if_pos (by rw [Int32.lt_iff_toInt_lt, zi_T h1 h2, zi_T h3 h4]; exact h), show min a b = b by omega]
  · rw [if_neg (by rw [Int32.lt_iff_toInt_lt, zi_T h1 h2, zi_T h3 h4]; exact h), show min a b = a by omega]
theorem low_cm1 : ∀ a, a < 15 → (nI (cm [a]) &&& -nI (cm [a])) - nI 1 = nI (2 ^ a - 1) := by decide +kernel
theorem low_cm2 : ∀ b, b < 15 → ∀ a, a < b → (nI (cm [a, b]) &&& -nI (cm [a, b])) - nI 1 = nI (2 ^ a - 1) := by decide +kernel
theorem wlow_cm1 : ∀ a, a < 15 → nI (cm [a]) &&& (nI (cm [a]) - nI 1) = nI (cm []) := by decide +kernel
theorem wlow_cm2 : ∀ b, b < 15 → ∀ a, a < b → nI (cm [a, b]) &&& (nI (cm [a, b]) - nI 1) = nI (cm [b]) := by decide +kernel
theorem popc_low : ∀ a, a < 15 → popc 14 (2 ^ a - 1) = a := by decide +kernel
theorem cm_ne0_1 : ∀ a, a < 15 → cm [a] ≠ 0 := by decide +kernel
theorem cm_ne0_2 : ∀ b, b < 15 → ∀ a, a < b → cm [a, b] ≠ 0 := by decide +kernel
theorem cm_nil : cm [] = 0 := by decide +kernel
/-- cuts from the left, none twice, two at most -/
def cL (c : List Nat) : Prop := c = [] ∨ (∃ a, c = [a] ∧ a < 15) ∨ ∃ a b, c = [a, b] ∧ a < b ∧ b < 15
theorem cOk.cL {x x2 : Nat} {c : List Nat} (h : cOk x x2 c) (hx : x2 ≤ 15) : cL c := by
  rcases h with rfl | ⟨a, rfl, h1, h2⟩ | ⟨a, b, rfl, h1, h2, h3⟩
  · exact Or.inl rfl
  · exact Or.inr (Or.inl ⟨a, rfl, by omega⟩)
  · exact Or.inr (Or.inr ⟨a, b, rfl, h2, by omega⟩)
/-- the place of the first cut; -1: none -/
def loC (c : List Nat) : Int32 := match c with
  | [] => -1
  | a :: _ => nI a
