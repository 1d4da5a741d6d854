/-! ===== sets that are closed ===== -/
def sbs (X Y : Nat) : Prop := ∀ i, X.testBit i = true → Y.testBit i = true
def clo (A : Nat → Nat → Bool) (X : Nat) : Prop := ∀ a b, X.testBit a = true → A a b = true → X.testBit b = true
def cls (A : Nat → Nat → Bool) (f X : Nat) : Prop := sbs f X ∧ clo A X ∧ ∀ Y, sbs f Y → clo A Y → sbs X Y
theorem sbs_rfl (X : Nat) : sbs X X := fun _ h => h
theorem sbs.trans {X Y Z : Nat} (h : sbs X Y) (h2 : sbs Y Z) : sbs X Z := fun i hi => h2 i (h i hi)
theorem sbs.antisymm {X Y : Nat} (h : sbs X Y) (h2 : sbs Y X) : X = Y := by
  apply Nat.eq_of_testBit_eq
  intro i
  cases e : X.testBit i
  · cases e2 : Y.testBit i
    · rfl
    · rw [h2 i e2] at e; cases e
  · rw [h i e]
theorem cls_uniq {A : Nat → Nat → Bool} {f X Y : Nat} (h1 : cls A f X) (h2 : cls A f Y) : X = Y := (h1.2.2 Y h2.1 h2.2.1).antisymm (h2.2.2 X h1.1 h1.2.1)
theorem exB_iff {n : Nat} {f : Nat → Bool} : exB n f = true ↔ ∃ p, p < n ∧ f p = true := by
  induction n with
  | zero => simp [exB]
  | succ n ih =>
    rw [exB, Bool.or_eq_true, ih]
    constructor
    · rintro (⟨p, h1, h2⟩ | h)
      · exact ⟨p, by omega, h2⟩
      · exact ⟨n, by omega, h⟩
    · rintro ⟨p, h1, h2⟩
      by_cases e : p = n
      · subst e; exact Or.inr h2
      · exact Or.inl ⟨p, by omega, h2⟩
def adj (A : Nat → Nat → Bool) (n : Nat) : Prop := ∀ a b, A a b = true → a < n ∧ b < n
theorem nbS_iff {A : Nat → Nat → Bool} {n s q : Nat} (hn : n ≤ 14) (hA : adj A n) : (nbS A n s).testBit q = true ↔ ∃ p, s.testBit p = true ∧ A p q = true := by
  unfold nbS
  rw [bm_bit, Bool.and_eq_true, decide_eq_true_eq, exB_iff]
  constructor
  · rintro ⟨-, p, -, h⟩
    rw [Bool.and_eq_true] at h
    exact ⟨p, h⟩
  · rintro ⟨p, h1, h2⟩
    have := hA p q h2
    exact ⟨by omega, p, this.1, by rw [h1, h2]; rfl⟩
theorem cnt_lt {n : Nat} {f g : Nat → Bool} (h : ∀ i, i < n → f i = true → g i = true) {j : Nat} (hj : j < n) (h1 : f j = false) (h2 : g j = true) : cnt n f < cnt n g := by
  have e : cnt n (fun i => (f i || decide (i = j))) = cnt n f + 1 := by
    rw [cnt_or (fun i hi => ?_), cnt_single hj]
    by_cases q : i = j
    · subst q; rw [h1] at hi; cases hi
    · simp [q]
  have m : ∀ k, k ≤ n → cnt k (fun i => (f i || decide (i = j))) ≤ cnt k g := by
    intro k
    induction k with
    | zero => intro _; exact Nat.le_refl _
    | succ k ih =>
      intro hk
      rw [cnt, cnt]
      have := ih (by omega)
      have h3 : (f k || decide (k = j)).toNat ≤ (g k).toNat := by
        by_cases q : k = j
        · subst q; rw [h2]; simp
        · cases e : f k
          · simp [q]
          · rw [h k (by omega) e]; simp
      omega
  have := m n (Nat.le_refl _)
  omega
theorem pop_lt {s t : Nat} (h : sbs s t) (hne : s ≠ t) (ht : t < 16384) : popc 14 s < popc 14 t := by
  obtain ⟨j, hj⟩ : ∃ j, s.testBit j ≠ t.testBit j := by
    apply Classical.byContradiction
    intro q
    exact hne (Nat.eq_of_testBit_eq (fun i => Classical.byContradiction (fun z => q ⟨i, z⟩)))
  have h1 : s.testBit j = false := by
    cases e : s.testBit j
    · rfl
    · rw [e, h j e] at hj; exact absurd rfl hj
  have h2 : t.testBit j = true := by
    rw [h1] at hj
    cases e : t.testBit j
    · rw [e] at hj; exact absurd rfl hj
    · rfl
  have hj14 : j < 14 := by
    apply Classical.byContradiction
    intro q
    rw [Nat.testBit_lt_two_pow (Nat.lt_of_lt_of_le ht (Nat.pow_le_pow_right (n := 2) (by decide) (show 14 ≤ j from by omega)))] at h2
    cases h2
  rw [popc_cnt, popc_cnt]
  exact cnt_lt (fun i _ hi => h i hi) hj14 h1 h2
theorem itr_s {α : Type} (f : α → α) (x : α) : ∀ k, itr (k + 1) f x = f (itr k f x) := by
  intro k
  induction k generalizing x with
  | zero => rfl
  | succ k ih => rw [itr, ih]; rfl
theorem stW_sub (A : Nat → Nat → Bool) (n w s : Nat) : sbs s (stW A n w s) := by
  intro i hi
  unfold stW
  rw [Nat.testBit_or, hi]
  rfl
theorem itr_grow {A : Nat → Nat → Bool} {n w : Nat} : ∀ (k s : Nat), s < 16384 → stW A n w (itr k (stW A n w) s) = itr k (stW A n w) s ∨ popc 14 s + k ≤ popc 14 (itr k (stW A n w) s) := by
  intro k
  induction k with
  | zero => intro s _; right; exact Nat.le_refl _
  | succ k ih =>
    intro s hs
    by_cases e : stW A n w s = s
    · left
      rw [itr_fix e, e]
    · have h1 := pop_lt (stW_sub A n w s) (fun q => e q.symm) (stW_lt hs)
      rw [itr]
      rcases ih (stW A n w s) (stW_lt hs) with h | h
      · exact Or.inl h
      · right; omega
theorem pop_le {n s : Nat} (hn : n ≤ 14) (h : ∀ i, n ≤ i → s.testBit i = false) : popc 14 s ≤ n := by
  rw [popc_cnt, cnt_ext hn h]
  exact cnt_le _ _
theorem pop_0 {s : Nat} (hs : s < 16384) (h : popc 14 s = 0) : s = 0 := by
  apply Classical.byContradiction
  intro q
  have := popc_wl hs q
  omega
def rst (A : Nat → Nat → Bool) (w : Nat) : Nat → Nat → Bool := fun a b => A a b && w.testBit b
theorem all_bit (n i : Nat) : (2 ^ n - 1).testBit i = decide (i < n) := low_bit n i
theorem bit_lt {w n i : Nat} (hw : w < 2 ^ n) (h : w.testBit i = true) : i < n := by
  apply Classical.byContradiction
  intro q
  rw [Nat.testBit_lt_two_pow (Nat.lt_of_lt_of_le hw (Nat.pow_le_pow_right (by decide) (show n ≤ i from by omega)))] at h
  cases h
theorem reach_cls {A : Nat → Nat → Bool} {n f w : Nat} (hn : n ≤ 14) (hA : adj A n) (hw : w < 2 ^ n) : cls (rst A w) (f &&& w) (reach A n f w) := by
  have h14 : 2 ^ n ≤ 16384 := Nat.pow_le_pow_right (n := 2) (by decide) hn
  have hfw : f &&& w < 16384 := Nat.lt_of_le_of_lt Nat.and_le_right (by omega)
  have up : ∀ k s, sbs s (itr k (stW A n w) s) := by
    intro k
    induction k with
    | zero => intro s; exact sbs_rfl s
    | succ k ih => intro s; rw [itr]; exact (stW_sub A n w s).trans (ih _)
  have low : ∀ Y, clo (rst A w) Y → ∀ k s, sbs s Y → sbs (itr k (stW A n w) s) Y := by
    intro Y hY k
    induction k with
    | zero => intro s hs; exact hs
    | succ k ih =>
      intro s hs
      rw [itr]
      apply ih
      intro i hi
      unfold stW at hi
      rw [Nat.testBit_or, Nat.testBit_and, Bool.or_eq_true, Bool.and_eq_true] at hi
      rcases hi with hi | ⟨hi, hi2⟩
      · exact hs i hi
      · obtain ⟨p, h1, h2⟩ := (nbS_iff hn hA).mp hi
        exact hY p i (hs p h1) (by unfold rst; rw [h2, hi2]; rfl)
  have inw : ∀ k s, sbs s w → sbs (itr k (stW A n w) s) w := by
    intro k
    induction k with
    | zero => intro s hs; exact hs
    | succ k ih =>
      intro s hs
      rw [itr]
      apply ih
      intro i hi
      unfold stW at hi
      rw [Nat.testBit_or, Nat.testBit_and, Bool.or_eq_true, Bool.and_eq_true] at hi
      rcases hi with hi | ⟨hi, hi2⟩
      · exact hs i hi
      · exact hi2
  have fix : stW A n w (reach A n f w) = reach A n f w := by
    unfold reach
    rcases itr_grow (A := A) (n := n) (w := w) n (f &&& w) hfw with h | h
    · exact h
    · by_cases e : f &&& w = 0
      · rw [e]
        have z : stW A n w 0 = 0 := by
          unfold stW
          have : nbS A n 0 = 0 := by
            apply Nat.eq_of_testBit_eq
            intro i
            rw [Nat.zero_testBit]
            cases q : (nbS A n 0).testBit i
            · rfl
            · obtain ⟨p, h1, -⟩ := (nbS_iff hn hA).mp q
              rw [Nat.zero_testBit] at h1
              cases h1
          rw [this]
          simp
        rw [itr_fix z, z]
      · exfalso
        have h1 : popc 14 (itr n (stW A n w) (f &&& w)) ≤ n := by
          apply pop_le hn
          intro i hi
          cases q : (itr n (stW A n w) (f &&& w)).testBit i
          · rfl
          · have := bit_lt hw (inw n _ (fun j hj => by rw [Nat.testBit_and, Bool.and_eq_true] at hj; exact hj.2) i q)
            omega
        have h2 : popc 14 (f &&& w) ≠ 0 := fun q => e (pop_0 hfw q)
        omega
  refine ⟨up n _, ?_, fun Y h1 h2 => low Y h2 n _ h1⟩
  intro a b ha hab
  unfold rst at hab
  rw [Bool.and_eq_true] at hab
  rw [← fix]
  unfold stW
  rw [Nat.testBit_or, Nat.testBit_and, (nbS_iff hn hA).mpr ⟨a, ha, hab.1⟩, hab.2]
  simp
theorem rst_all {A : Nat → Nat → Bool} {n : Nat} (hA : adj A n) (a b : Nat) : rst A (2 ^ n - 1) a b = A a b := by
  unfold rst
  rw [all_bit]
  cases e : A a b
  · rfl
  · simp [(hA a b e).2]
theorem cls_congr {A B : Nat → Nat → Bool} {f X : Nat} (h : cls A f X) (e : ∀ a b, A a b = B a b) : cls B f X := by
  have : A = B := funext (fun a => funext (fun b => e a b))
  rw [← this]
  exact h
theorem and_all {f n : Nat} (h : f < 2 ^ n) : f &&& (2 ^ n - 1) = f := by
  apply Nat.eq_of_testBit_eq
  intro i
  rw [Nat.testBit_and, all_bit]
  cases e : f.testBit i
  · rfl
  · simp [bit_lt h e]
theorem reach_all {A : Nat → Nat → Bool} {n f : Nat} (hn : n ≤ 14) (hA : adj A n) (hf : f < 2 ^ n) : cls A f (reach A n f (2 ^ n - 1)) := by
  have h := reach_cls (f := f) hn hA (show 2 ^ n - 1 < 2 ^ n from by have := Nat.two_pow_pos n; omega)
  rw [and_all hf] at h
  exact cls_congr h (rst_all hA)
theorem part_cls {A : Nat → Nat → Bool} {n p : Nat} (hn : n ≤ 14) (hA : adj A n) (hp : p < n) : cls A (2 ^ p) (part A n p) := reach_all hn hA (Nat.pow_lt_pow_right (by decide) hp)
/-! the model's sweeps -/
def swp (A : Nat → Nat → Bool) : Nat → Nat → Nat
  | 0, s => s
  | k + 1, s => if (swp A k s).testBit k then swp A k s ||| bm 14 (A k) else swp A k s
theorem swp_lt {A : Nat → Nat → Bool} {s : Nat} (h : s < 16384) : ∀ k, swp A k s < 16384
  | 0 => h
  | k + 1 => by
    rw [swp]
    split
    · exact or_lt14 (swp_lt h k) (bm_lt 14 _)
    · exact swp_lt h k
theorem swp_sub (A : Nat → Nat → Bool) (s : Nat) : ∀ k j, sbs (swp A k s) (swp A (k + j) s)
  | k, 0 => sbs_rfl _
  | k, j + 1 => by
    refine (swp_sub A s k j).trans ?_
    rw [← Nat.add_assoc, swp]
    intro i hi
    split
    · rw [Nat.testBit_or, hi]; rfl
    · exact hi
theorem swp_low {A : Nat → Nat → Bool} {s Y : Nat} (hs : sbs s Y) (hY : clo A Y) : ∀ k, sbs (swp A k s) Y
  | 0 => hs
  | k + 1 => by
    rw [swp]
    intro i hi
    split at hi
    · rename_i c
      rw [Nat.testBit_or, Bool.or_eq_true] at hi
      rcases hi with hi | hi
      · exact swp_low hs hY k i hi
      · rw [bm_bit, Bool.and_eq_true] at hi
        exact hY k i (swp_low hs hY k k c) hi.2
    · exact swp_low hs hY k i hi
theorem swp_clo {A : Nat → Nat → Bool} {n s : Nat} (hn : n ≤ 14) (hA : adj A n) (h : swp A n s = s) : clo A s := by
  have e : ∀ k, k ≤ n → swp A k s = s := by
    intro k hk
    refine sbs.antisymm ?_ ?_
    · have := swp_sub A s k (n - k)
      rw [show k + (n - k) = n from by omega, h] at this
      exact this
    · have := swp_sub A s 0 k
      rw [Nat.zero_add] at this
      exact this
  intro a b ha hab
  obtain ⟨h1, h2⟩ := hA a b hab
  have := e (a + 1) (by omega)
  rw [swp, e a (by omega), if_pos ha] at this
  rw [← this, Nat.testBit_or, bm_bit, hab]
  simp [show b < 14 from by omega]
def hgI (A : Nat → Nat → Bool) (f s : Nat) : Prop := sbs f s ∧ ∀ Y, sbs f Y → clo A Y → sbs s Y
theorem hgI_s {A : Nat → Nat → Bool} {f s : Nat} (h : hgI A f s) (n : Nat) : hgI A f (swp A n s) := by
  refine ⟨h.1.trans ?_, fun Y h1 h2 => swp_low (h.2 Y h1 h2) h2 n⟩
  have := swp_sub A s 0 n
  rw [Nat.zero_add] at this
  exact this
theorem nI_andm (a : Nat) : nI a &&& (-1) = nI a := by
  apply Int32.toBitVec_inj.mp
  show BitVec.ofNat 32 a &&& (-1 : Int32).toBitVec = BitVec.ofNat 32 a
  have e : (-1 : Int32).toBitVec = BitVec.allOnes 32 := by decide +kernel
  rw [e, BitVec.and_allOnes]
theorem nI_nem {k : Nat} (h : k < 1000) : ¬ nI k = -1 := by
  intro q
  have := congrArg Int32.toInt q
  rw [nI_T (by omega), show (-1 : Int32).toInt = -1 from by decide] at this
  omega
theorem row_or (ps : List Pc) (D k : Nat) : bm 14 (clb ps D k) ||| bm 14 (beb ps k) = bm 14 (lkb ps D k) := by
  apply Nat.eq_of_testBit_eq
  intro i
  rw [Nat.testBit_or, bm_bit, bm_bit, bm_bit]
  unfold lkb
  cases decide (i < 14) <;> rfl
theorem lkb_adj (ps : List Pc) (D : Nat) : adj (lkb ps D) ps.length := fun a b h => lkb_lt h
theorem clb_adj (ps : List Pc) (D : Nat) : adj (clb ps D) ps.length := fun a b h => clb_lt h
/-- the links without those to w -/
def lkW (A : Nat → Nat → Bool) (w a b : Nat) : Bool := A a b && !w.testBit b
def lkX (A : Nat → Nat → Bool) (p q a b : Nat) : Bool := A a b && !((decide (a = p) && decide (b = q)) || (decide (a = q) && decide (b = p)))
theorem lkW_adj {A : Nat → Nat → Bool} {n : Nat} (h : adj A n) (w : Nat) : adj (lkW A w) n := fun a b q => by unfold lkW at q; rw [Bool.and_eq_true] at q; exact h a b q.1
theorem lkX_adj {A : Nat → Nat → Bool} {n : Nat} (h : adj A n) (p q : Nat) : adj (lkX A p q) n := fun a b z => by unfold lkX at z; rw [Bool.and_eq_true] at z; exact h a b z.1
theorem rowW (A : Nat → Nat → Bool) (w k : Nat) : andn (bm 14 (A k)) w = bm 14 (lkW A w k) := by
  apply Nat.eq_of_testBit_eq
  intro i
  rw [andn_bit, bm_bit, bm_bit]
  unfold lkW
  cases decide (i < 14) <;> simp
theorem rowX_p {A : Nat → Nat → Bool} {p q : Nat} : andn (andn (bm 14 (A p)) (2 ^ q)) 0 = bm 14 (lkX A p q p) ∨ p = q := by
  by_cases e : p = q
  · exact Or.inr e
  left
  apply Nat.eq_of_testBit_eq
  intro i
  rw [andn_bit, andn_bit, bm_bit, bm_bit, two_bit, Nat.zero_testBit]
  unfold lkX
  by_cases c : i = q
  · subst c; simp
  · simp [c, e, show ¬ q = i from fun z => c z.symm]
theorem rowX_q {A : Nat → Nat → Bool} {p q : Nat} (e : p ≠ q) : andn (andn (bm 14 (A q)) (2 ^ p)) 0 = bm 14 (lkX A p q q) := by
  apply Nat.eq_of_testBit_eq
  intro i
  rw [andn_bit, andn_bit, bm_bit, bm_bit, two_bit, Nat.zero_testBit]
  unfold lkX
  by_cases c : i = p
  · subst c; simp
  · simp [c, show ¬ q = p from fun z => e z.symm, show ¬ p = i from fun z => c z.symm]
theorem rowX_n {A : Nat → Nat → Bool} {p q k : Nat} (h1 : k ≠ p) (h2 : k ≠ q) : andn (bm 14 (A k)) 0 = bm 14 (lkX A p q k) := by
  apply Nat.eq_of_testBit_eq
  intro i
  rw [andn_bit, bm_bit, bm_bit, Nat.zero_testBit]
  unfold lkX
  simp [h1, h2]
