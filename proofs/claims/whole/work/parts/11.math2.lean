theorem nI_addI (a : Nat) (x : Int32) : nI a + x = zi (a + x.toInt) := by
  rw [nI_zi, zi_of x, zi_add, ← zi_of x]
theorem zi_nat {z : Int} (h : 0 ≤ z) : zi z = nI z.toNat := by rw [nI_zi, Int.toNat_of_nonneg h]
theorem zi_T {z : Int} (h1 : -1000000 ≤ z) (h2 : z ≤ 1000000) : (zi z).toInt = z := zi_toInt (by omega) (by omega)
theorem fm_lt (f : Nat → Nat) : fm f < 16384 := bm_lt 14 _
theorem fo_lt (f : Nat → Nat) : fo f < 16384 := bm_lt 14 _
theorem fm_bit (f : Nat → Nat) (i : Nat) : (fm f).testBit i = (decide (i < 14) && decide (f i ≠ 0)) := bm_bit 14 _ i
theorem fo_bit (f : Nat → Nat) (i : Nat) : (fo f).testBit i = (decide (i < 14) && decide (f i = 2)) := bm_bit 14 _ i
/-- what is told of a piece's fixed mask: -1 none, else the mask -/
def fxv (k : Nat) : Int32 := if k = 0 then -1 else nI (k - 1)
def inB (w v : Int) : Prop := (w = 0 ∧ 1 ≤ v ∧ v ≤ 8) ∨ (w = 1 ∧ 0 ≤ v ∧ v ≤ 9) ∨ (w = 2 ∧ 0 ≤ v ∧ v ≤ 99)
theorem toInt_eq {x : Int32} {z : Int} (h : x.toInt = z) : x = zi z := by rw [← h]; exact zi_of x
def bnd (v : Ly) (w : Int) : Nat := if w = 0 then lD v else if w = 1 then lST v else lCL v
def mirr (c : List Nat) : List Nat := (c.map (fun a => 14 - a)).reverse
def mr : Nat → Nat → Nat
  | 0, _ => 0
  | k + 1, a => mr k a ||| ((a.testBit k).toNat * 2 ^ (14 - k))
theorem mr_cm1 : ∀ a, a < 15 → mr 15 (cm [a]) = cm (mirr [a]) := by decide +kernel
theorem mr_cm2 : ∀ b, b < 15 → ∀ a, a < b → mr 15 (cm [a, b]) = cm (mirr [a, b]) := by decide +kernel
theorem mr_cm {x x2 : Nat} {c : List Nat} (h : cOk x x2 c) (hx : x2 ≤ 15) : mr 15 (cm c) = cm (mirr c) := by
  rcases h with rfl | ⟨a, rfl, h1, h2⟩ | ⟨a, b, rfl, h1, h2, h3⟩
  · decide +kernel
  · exact mr_cm1 a (by omega)
  · exact mr_cm2 b (by omega) a h2
theorem bit_shl_lt (q : Bool) {k : Nat} (hk : k ≤ 14) : q.toNat * 2 ^ k < 4294967296 := by
  have h1 : q.toNat ≤ 1 := by cases q <;> decide
  have h2 : 2 ^ k ≤ 2 ^ 14 := Nat.pow_le_pow_right (by decide) hk
  have h3 : q.toNat * 2 ^ k ≤ 1 * 2 ^ 14 := Nat.mul_le_mul h1 h2
  omega
theorem fxv_none {k : Nat} (h : k ≤ 2) : fxv k = -1 ↔ k = 0 := by
  rcases (show k = 0 ∨ k = 1 ∨ k = 2 from by omega) with rfl | rfl | rfl <;> decide
theorem fxv_eq {k m : Nat} (h : k ≤ 2) (hm : m ≤ 1) : fxv k = nI m ↔ k = m + 1 := by
  rcases (show k = 0 ∨ k = 1 ∨ k = 2 from by omega) with rfl | rfl | rfl <;> rcases (show m = 0 ∨ m = 1 from by omega) with rfl | rfl <;> decide
