/-! ===== counting bits ===== -/
def popc : Nat → Nat → Nat
  | 0, _ => 0
  | n + 1, a => popc n a + (a.testBit n).toNat
def allB : Nat → (Nat → Bool) → Nat → Bool
  | 0, f, lo => f lo
  | n + 1, f, lo => allB n f lo && allB n f (lo + 2 ^ n)
theorem allB_spec : ∀ (n : Nat) (f : Nat → Bool) (lo : Nat), allB n f lo = true → ∀ a, lo ≤ a → a < lo + 2 ^ n → f a = true
  | 0, f, lo, h, a, h1, h2 => by
    have : a = lo := by simp at h2; omega
    rw [this]; exact h
  | n + 1, f, lo, h, a, h1, h2 => by
    simp only [allB, Bool.and_eq_true] at h
    rw [Nat.pow_succ] at h2
    by_cases hl : a < lo + 2 ^ n
    · exact allB_spec n f lo h.1 a h1 hl
    · exact allB_spec n f (lo + 2 ^ n) h.2 a (by omega) (by omega)
def bc1 (a : Nat) : Nat := a - (a / 2 ^ 1 &&& 1431655765)
def bc2 (a : Nat) : Nat := (a &&& 858993459) + (a / 2 ^ 2 &&& 858993459)
def bc3 (a : Nat) : Nat := (a + a / 2 ^ 4) &&& 252645135
def bc4 (a : Nat) : Nat := a + a / 2 ^ 8
def bc5 (a : Nat) : Nat := a + a / 2 ^ 16
def bcN (a : Nat) : Nat := bc5 (bc4 (bc3 (bc2 (bc1 a)))) &&& 63
def pcS (a : Nat) : Nat := a % 2 + a / 2 % 2 + a / 4 % 2 + a / 8 % 2 + a / 16 % 2 + a / 32 % 2 + a / 64 % 2 + a / 128 % 2 + a / 256 % 2 + a / 512 % 2 + a / 1024 % 2 + a / 2048 % 2 + a / 4096 % 2 + a / 8192 % 2
theorem bcN_all0 : allB 11 (fun a => Nat.beq (bcN a) (pcS a)) 0 = true := by decide +kernel
theorem bcN_all1 : allB 11 (fun a => Nat.beq (bcN a) (pcS a)) 2048 = true := by decide +kernel
theorem bcN_all2 : allB 11 (fun a => Nat.beq (bcN a) (pcS a)) 4096 = true := by decide +kernel
theorem bcN_all3 : allB 11 (fun a => Nat.beq (bcN a) (pcS a)) 6144 = true := by decide +kernel
theorem bcN_all4 : allB 11 (fun a => Nat.beq (bcN a) (pcS a)) 8192 = true := by decide +kernel
theorem bcN_all5 : allB 11 (fun a => Nat.beq (bcN a) (pcS a)) 10240 = true := by decide +kernel
theorem bcN_all6 : allB 11 (fun a => Nat.beq (bcN a) (pcS a)) 12288 = true := by decide +kernel
theorem bcN_all7 : allB 11 (fun a => Nat.beq (bcN a) (pcS a)) 14336 = true := by decide +kernel
theorem bit_mod (a i : Nat) : (a.testBit i).toNat = a / 2 ^ i % 2 := by
  rw [← bit_and, Nat.and_one_is_mod, Nat.shiftRight_eq_div_pow]
theorem popc_pcS (a : Nat) : popc 14 a = pcS a := by
  simp only [popc, bit_mod, pcS]
  simp
theorem bcN_eq {a : Nat} (h : a < 16384) : bcN a = popc 14 a := by
  rw [popc_pcS]
  apply Nat.eq_of_beq_eq_true
  by_cases h0 : a < 2048
  · exact allB_spec 11 _ 0 bcN_all0 a (by omega) (by omega)
  by_cases h1 : a < 4096
  · exact allB_spec 11 _ 2048 bcN_all1 a (by omega) (by omega)
  by_cases h2 : a < 6144
  · exact allB_spec 11 _ 4096 bcN_all2 a (by omega) (by omega)
  by_cases h3 : a < 8192
  · exact allB_spec 11 _ 6144 bcN_all3 a (by omega) (by omega)
  by_cases h4 : a < 10240
  · exact allB_spec 11 _ 8192 bcN_all4 a (by omega) (by omega)
  by_cases h5 : a < 12288
  · exact allB_spec 11 _ 10240 bcN_all5 a (by omega) (by omega)
  by_cases h6 : a < 14336
  · exact allB_spec 11 _ 12288 bcN_all6 a (by omega) (by omega)
  exact allB_spec 11 _ 14336 bcN_all7 a (by omega) (by omega)
theorem shcu : ∀ k, k < 32 → (((nI k).toUInt32 &&& Int32.toUInt32 31).toBitVec % 32).toNat = k := by decide +kernel
theorem nI_ushr {a k : Nat} (ha : a < 4294967296) (hk : k < 32) : ((nI a).toUInt32 >>> ((nI k).toUInt32 &&& Int32.toUInt32 31)).toInt32 = nI (a / 2 ^ k) := pk_ushrN (by omega) _ k (shcu k hk)
theorem popc_le (n a : Nat) : popc n a ≤ n := by
  induction n with
  | zero => simp [popc]
  | succ n ih =>
    have : (a.testBit n).toNat ≤ 1 := by cases a.testBit n <;> decide
    rw [popc]; omega
theorem popc_congr {n a b : Nat} (h : ∀ i, i < n → a.testBit i = b.testBit i) : popc n a = popc n b := by
  induction n with
  | zero => rfl
  | succ n ih => rw [popc, popc, ih (fun i hi => h i (by omega)), h n (by omega)]
/-! ===== cuts ===== -/
theorem cm_bit (c : List Nat) (i : Nat) : (cm c).testBit i = (decide (i < 15) && decide (i ∈ c)) := bm_bit 15 _ i
theorem cm_lt (c : List Nat) : cm c < 32768 := bm_lt 15 _
theorem popc_bm (n : Nat) (f : Nat → Bool) : popc n (bm n f) = ((List.range n).filter f).length := by
  have key : ∀ m, m ≤ n → popc m (bm n f) = ((List.range m).filter f).length := by
    intro m
    induction m with
    | zero => intro _; rfl
    | succ m ih =>
      intro hm
      rw [popc, ih (by omega), List.range_succ, List.filter_append, List.length_append, bm_bit]
      have : decide (m < n) = true := by simp; omega
      rw [this, Bool.true_and]
      cases hf : f m
      · simp [hf]
      · simp [hf]
  exact key n (Nat.le_refl n)
theorem bcN_cm1 : ∀ a, a < 15 → bcN (cm [a]) = 1 := by decide +kernel
theorem bcN_cm2 : ∀ b, b < 15 → ∀ a, a < b → bcN (cm [a, b]) = 2 := by decide +kernel
theorem bcN_cm {x x2 : Nat} {c : List Nat} (h : cOk x x2 c) (hx : x2 ≤ 15) : bcN (cm c) = c.length := by
  rcases h with rfl | ⟨a, rfl, h1, h2⟩ | ⟨a, b, rfl, h1, h2, h3⟩
  · decide +kernel
  · exact bcN_cm1 a (by omega)
  · exact bcN_cm2 b (by omega) a h2
theorem cOk_len {x x2 : Nat} {c : List Nat} (h : cOk x x2 c) : c.length ≤ 2 := by
  rcases h with rfl | ⟨a, rfl, h1, h2⟩ | ⟨a, b, rfl, h1, h2, h3⟩ <;> simp
theorem cOk_mem {x x2 : Nat} {c : List Nat} (h : cOk x x2 c) {i : Nat} (hi : i ∈ c) : x ≤ i ∧ i < x2 := by
  rcases h with rfl | ⟨a, rfl, h1, h2⟩ | ⟨a, b, rfl, h1, h2, h3⟩
  · simp at hi
  · simp at hi; omega
  · simp at hi; omega
/-! ===== how many pieces ===== -/
theorem np_nil : np [] = 0 := rfl
theorem np_cons (s : Sh) (l : List Sh) : np (s :: l) = 1 + (sc s).length + np l := by simp [np]
theorem np_append (a b : List Sh) : np (a ++ b) = np a + np b := by simp [np]
theorem np_take_succ {l : List Sh} {i : Nat} {s : Sh} (h : l[i]? = some s) : np (l.take (i + 1)) = np (l.take i) + (1 + (sc s).length) := by
  rw [List.take_succ, h, np_append]
  simp [np]
theorem np_take_le (l : List Sh) (i : Nat) : np (l.take i) ≤ np l := by
  have := np_append (l.take i) (l.drop i)
  rw [List.take_append_drop] at this
  omega
theorem np_take_all {l : List Sh} {i : Nat} (h : l.length ≤ i) : np (l.take i) = np l := by rw [List.take_of_length_le h]
theorem lyOk.sh {v : Ly} (h : lyOk v) {k : Nat} {s : Sh} (hk : v.1[k]? = some s) : shOk s := h.2.1 s (List.mem_of_getElem? hk)
theorem getS {l : List Sh} {i : Nat} (h : i < l.length) : ∃ s, l[i]? = some s := ⟨_, List.getElem?_eq_getElem h⟩
theorem getS_lt {l : List Sh} {i : Nat} {s : Sh} (h : l[i]? = some s) : i < l.length := (List.getElem?_eq_some_iff.mp h).1
/-! ===== refusals ===== -/
noncomputable def zif (P : Prop) (a b : Int32) : Int32 := @ite _ P (Classical.propDecidable P) a b
theorem zif_t {P : Prop} {a b : Int32} (h : P) : zif P a b = a := by unfold zif; exact if_pos h
theorem zif_f {P : Prop} {a b : Int32} (h : ¬ P) : zif P a b = b := by unfold zif; exact if_neg h
def onF (a b c d : Int) : Prop := 0 ≤ a ∧ a ≤ 15 ∧ 0 ≤ b ∧ b ≤ 15 ∧ 0 ≤ c ∧ c ≤ 15 ∧ 0 ≤ d ∧ d ≤ 15
/-- no place of these is of a shape but one -/
def isFr (l : List Sh) (a t c d : Int) (but : Int) : Prop := ∀ (k : Nat) (s : Sh), l[k]? = some s → (k : Int) ≠ but → ¬ (a ≤ sx2 s ∧ (sx s : Int) ≤ c ∧ t ≤ sy2 s ∧ (sy s : Int) ≤ d)
def full (l : List Sh) : Prop := 10 ≤ l.length ∨ 14 ≤ np l
def has (l : List Sh) (s : Int) : Prop := 0 ≤ s ∧ s < l.length
abbrev kUNK : Int32 := -1000000001
abbrev kOUT : Int32 := -1000000002
abbrev kNOT : Int32 := -1000000003
abbrev kFUL : Int32 := -1000000004
noncomputable def rNew (l : List Sh) (a t c d : Int) : Int32 := zif (onF a t c d ∧ a ≤ c ∧ t ≤ d) (zif (isFr l a t c d (-1)) (zif (full l) kFUL 0) kNOT) kOUT
def area (s : Sh) : Nat := (sx2 s - sx s + 1) * (sy2 s - sy s + 1)
def gt (l : List Sh) (s : Int) : Sh := l.getD s.toNat (0, 0, 0, 0, [])
def steps (dx dy : Int) : Prop := -15 ≤ dx ∧ dx ≤ 15 ∧ -15 ≤ dy ∧ dy ≤ 15
def canStep (l : List Sh) (s dx dy : Int) : Prop := onF (sx (gt l s) + dx) (sy (gt l s) + dy) (sx2 (gt l s) + dx) (sy2 (gt l s) + dy) ∧ isFr l (sx (gt l s) + dx) (sy (gt l s) + dy) (sx2 (gt l s) + dx) (sy2 (gt l s) + dy) s
noncomputable def rStep (l : List Sh) (s dx dy : Int) : Int32 := zif (has l s) (zif (steps dx dy) (zif (canStep l s dx dy) 0 kNOT) kOUT) kUNK
def canCut (l : List Sh) (s x : Int) : Prop := (sx (gt l s) : Int) ≤ x ∧ x < sx2 (gt l s) ∧ x.toNat ∉ sc (gt l s) ∧ (sc (gt l s)).length < 2
noncomputable def rCut (l : List Sh) (s x : Int) : Int32 := zif (has l s) (zif (0 ≤ x ∧ x ≤ 14) (zif (canCut l s x) (zif (14 ≤ np l) kFUL 0) kNOT) kOUT) kUNK
noncomputable def rHeal (l : List Sh) (s x : Int) : Int32 := zif (has l s) (zif (0 ≤ x ∧ x ≤ 14) (zif (x.toNat ∈ sc (gt l s)) 0 kNOT) kOUT) kUNK
theorem gt_nat {l : List Sh} {j : Nat} {s : Sh} (h : l[j]? = some s) : gt l (j : Int) = s := by simp [gt, List.getD_eq_getElem?_getD, h]
