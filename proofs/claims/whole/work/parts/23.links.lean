/-! ===== what Links computes, as functions ===== -/
def exB : Nat → (Nat → Bool) → Bool
  | 0, _ => false
  | n + 1, f => exB n f || f n
def itr {α : Type} : Nat → (α → α) → α → α
  | 0, _, x => x
  | k + 1, f, x => itr k f (f x)
def nbS (A : Nat → Nat → Bool) (n s : Nat) : Nat := bm 14 (fun q => exB n (fun p => s.testBit p && A p q))
def stW (A : Nat → Nat → Bool) (n w s : Nat) : Nat := s ||| (nbS A n s &&& w)
def reach (A : Nat → Nat → Bool) (n f w : Nat) : Nat := itr n (stW A n w) (f &&& w)
def part (A : Nat → Nat → Bool) (n p : Nat) : Nat := reach A n (2 ^ p) (2 ^ n - 1)
def ptsF (A : Nat → Nat → Bool) (n : Nat) : Nat → Nat × Nat
  | 0 => (0, 0)
  | k + 1 => if (ptsF A n k).1.testBit k then ptsF A n k else ((ptsF A n k).1 ||| part A n k, (ptsF A n k).2 + 1)
/-- the least odd number of steps from p to p, below a bound -/
def ow (A : Nat → Nat → Bool) (n p : Nat) : Nat → Nat → Nat → Nat
  | 0, _, _ => 0
  | f + 1, s, e => if s &&& 1 = 1 ∧ (nbS A n e).testBit p = true then s else ow A n p f (s + 1) (nbS A n e)
def oddW (A : Nat → Nat → Bool) (n p : Nat) : Nat := ow A n p n 1 (2 ^ p)
def oddF (C A : Nat → Nat → Bool) (n : Nat) : Nat → Nat × Nat
  | 0 => (0, 0)
  | k + 1 => if (oddF C A n k).1.testBit k = false ∧ oddW C n k ≠ 0 then ((oddF C A n k).1 ||| part A n k, (oddF C A n k).2 + 1) else oddF C A n k
def shoF (C : Nat → Nat → Bool) (n : Nat) : Nat → Nat
  | 0 => 0
  | k + 1 => if oddW C n k ≠ 0 ∧ (shoF C n k = 0 ∨ oddW C n k < shoF C n k) then oddW C n k else shoF C n k
def cor1 (A : Nat → Nat → Bool) : Nat → Nat → Nat
  | 0, s => s
  | k + 1, s => if popc 14 (bm 14 (A k) &&& cor1 A k s) ≤ 1 then andn (cor1 A k s) (2 ^ k) else cor1 A k s
def core (A : Nat → Nat → Bool) (n : Nat) : Nat := itr n (cor1 A n) (2 ^ n - 1)
def isBr (A : Nat → Nat → Bool) (n p q : Nat) : Prop := (reach A n (andn (bm 14 (A p)) (2 ^ q)) (andn (2 ^ n - 1) (2 ^ p))).testBit q = false
def brF (A : Nat → Nat → Bool) (n p : Nat) : Nat → Nat
  | 0 => 0
  | k + 1 => brF A n p k + (decide (p < k) && (A p k && !(reach A n (andn (bm 14 (A p)) (2 ^ k)) (andn (2 ^ n - 1) (2 ^ p))).testBit k)).toNat
def brs (A : Nat → Nat → Bool) (n : Nat) : Nat := sm n (fun p => brF A n p n)
def lowb (a : Nat) : Nat := andn a (a - 1)
def hin (A : Nat → Nat → Bool) (n p : Nat) : Bool := decide (reach A n (lowb (andn (part A n p) (2 ^ p))) (andn (part A n p) (2 ^ p)) ≠ andn (part A n p) (2 ^ p))
def hgs (A : Nat → Nat → Bool) (n : Nat) : Nat := bm 14 (fun p => decide (p < n) && hin A n p)
theorem itr_fix {α : Type} {f : α → α} {x : α} (h : f x = x) : ∀ k, itr k f x = x
  | 0 => rfl
  | k + 1 => by rw [itr, h, itr_fix h k]
theorem nbS_lt (A : Nat → Nat → Bool) (n s : Nat) : nbS A n s < 16384 := bm_lt 14 _
theorem or_lt14 {a b : Nat} (ha : a < 16384) (hb : b < 16384) : a ||| b < 16384 := Nat.or_lt_two_pow (n := 14) ha hb
theorem stW_lt {A : Nat → Nat → Bool} {n w s : Nat} (h : s < 16384) : stW A n w s < 16384 := or_lt14 h (and_lt (nbS_lt _ _ _))
theorem itr_lt {A : Nat → Nat → Bool} {n w : Nat} : ∀ (k s : Nat), s < 16384 → itr k (stW A n w) s < 16384
  | 0, s, h => h
  | k + 1, s, h => by rw [itr]; exact itr_lt k _ (stW_lt h)
theorem reach_lt {A : Nat → Nat → Bool} {n f w : Nat} (h : f < 16384) : reach A n f w < 16384 := itr_lt n _ (and_lt h)
theorem pow14 {p : Nat} (h : p < 14) : 2 ^ p < 16384 := Nat.lt_of_lt_of_le (Nat.pow_lt_pow_right (by decide) h) (by decide)
theorem part_lt {A : Nat → Nat → Bool} {n p : Nat} (h : p < 14) : part A n p < 16384 := reach_lt (pow14 h)
theorem nbS_step (A : Nat → Nat → Bool) (s k : Nat) : bm 14 (fun q => exB (k + 1) (fun p => s.testBit p && A p q)) = if s.testBit k then bm 14 (fun q => exB k (fun p => s.testBit p && A p q)) ||| bm 14 (A k) else bm 14 (fun q => exB k (fun p => s.testBit p && A p q)) := by
  apply Nat.eq_of_testBit_eq
  intro i
  by_cases h : s.testBit k = true
  · rw [if_pos h, Nat.testBit_or, bm_bit, bm_bit, bm_bit, exB, h]
    cases decide (i < 14) <;> simp
  · rw [if_neg h, bm_bit, bm_bit, exB]
    have : s.testBit k = false := by simpa using h
    rw [this]
    simp
theorem exB_0 (f : Nat → Bool) : bm 14 (fun _ => exB 0 f) = 0 := by
  have : (fun _ : Nat => exB 0 f) = fun _ => false := by funext; rfl
  rw [this]
  decide +kernel
theorem neg_not (x : Int32) : -x = (x - 1) ^^^ (-1) := by
  apply Int32.toBitVec_inj.mp
  have e : (-1 : Int32).toBitVec = BitVec.allOnes 32 := by decide +kernel
  have e1 : (1 : Int32).toBitVec = 1#32 := by decide +kernel
  rw [Int32.toBitVec_neg, Int32.toBitVec_xor, Int32.toBitVec_sub, e, e1, BitVec.xor_allOnes]
  apply BitVec.eq_of_toNat_eq
  rw [BitVec.toNat_neg, BitVec.toNat_not, BitVec.toNat_sub]
  have := x.toBitVec.isLt
  simp
  omega
theorem nI_low {a : Nat} (h : a < 16384) : nI a &&& -nI a = nI (lowb a) := by
  rw [neg_not]
  by_cases h0 : a = 0
  · subst h0; decide +kernel
  · have e : nI a - 1 = nI (a - 1) := pk_sub (b := 1) (by omega)
    rw [e, nI_andn]
    rfl
theorem ptsF_lt {A : Nat → Nat → Bool} {n : Nat} : ∀ k, k ≤ 14 → (ptsF A n k).1 < 16384 ∧ (ptsF A n k).2 ≤ k
  | 0, _ => by simp [ptsF]
  | k + 1, h => by
    have ih := ptsF_lt (A := A) (n := n) k (by omega)
    rw [ptsF]
    split
    · exact ⟨ih.1, by omega⟩
    · exact ⟨or_lt14 ih.1 (part_lt (by omega)), by simp only; omega⟩
theorem oddF_lt {C A : Nat → Nat → Bool} {n : Nat} : ∀ k, k ≤ 14 → (oddF C A n k).1 < 16384 ∧ (oddF C A n k).2 ≤ k
  | 0, _ => by simp [oddF]
  | k + 1, h => by
    have ih := oddF_lt (C := C) (A := A) (n := n) k (by omega)
    rw [oddF]
    split
    · exact ⟨or_lt14 ih.1 (part_lt (by omega)), by simp only; omega⟩
    · exact ⟨ih.1, by omega⟩
theorem ow_le {A : Nat → Nat → Bool} {n p : Nat} : ∀ (f s e : Nat), ow A n p f s e ≤ s + f
  | 0, s, e => by simp [ow]
  | f + 1, s, e => by
    rw [ow]
    split
    · omega
    · have := ow_le (A := A) (n := n) (p := p) f (s + 1) (nbS A n e)
      omega
theorem oddW_le (A : Nat → Nat → Bool) (n p : Nat) : oddW A n p ≤ n + 1 := by have := ow_le (A := A) (n := n) (p := p) n 1 (2 ^ p); unfold oddW; omega
theorem shoF_le {C : Nat → Nat → Bool} {n : Nat} : ∀ k, shoF C n k ≤ n + 1
  | 0 => by simp [shoF]
  | k + 1 => by
    rw [shoF]
    split
    · exact oddW_le C n k
    · exact shoF_le k
theorem cor1_lt {A : Nat → Nat → Bool} {s : Nat} (h : s < 16384) : ∀ k, cor1 A k s < 16384
  | 0 => h
  | k + 1 => by
    rw [cor1]
    split
    · exact Nat.lt_of_le_of_lt (andn_le _ _) (cor1_lt h k)
    · exact cor1_lt h k
theorem brF_le {A : Nat → Nat → Bool} {n p : Nat} : ∀ k, brF A n p k ≤ k
  | 0 => by simp [brF]
  | k + 1 => by
    rw [brF]
    have := brF_le (A := A) (n := n) (p := p) k
    have h2 : ∀ z : Bool, z.toNat ≤ 1 := by decide
    have := h2 (decide (p < k) && (A p k && !(reach A n (andn (bm 14 (A p)) (2 ^ k)) (andn (2 ^ n - 1) (2 ^ p))).testBit k))
    omega
theorem all_lt {n : Nat} (h : n ≤ 14) : 2 ^ n - 1 < 16384 := by
  have := Nat.pow_le_pow_right (show 0 < 2 by decide) h
  have h2 : 0 < 2 ^ n := Nat.two_pow_pos n
  omega
theorem brF_lo {A : Nat → Nat → Bool} {n p : Nat} : ∀ k, k ≤ p + 1 → brF A n p k = 0
  | 0, _ => rfl
  | k + 1, h => by
    rw [brF, brF_lo k (by omega)]
    have : ¬ p < k := by omega
    simp [this]
