theorem self_part {A : Nat → Nat → Bool} {n p : Nat} (hn : n ≤ 14) (hA : adj A n) (hp : p < n) : (part A n p).testBit p = true := (part_cls hn hA hp).1 p (by rw [two_bit]; simp)
theorem ptsF_mono {A : Nat → Nat → Bool} {n k : Nat} : sbs (ptsF A n k).1 (ptsF A n (k + 1)).1 := by
  intro i hi
  rw [ptsF]
  split
  · exact hi
  · rw [Nat.testBit_or, hi]; rfl
theorem ptsF_seen {A : Nat → Nat → Bool} {n : Nat} (hn : n ≤ 14) (hA : adj A n) : ∀ k, k ≤ n → ∀ i, i < k → (ptsF A n k).1.testBit i = true := by
  intro k
  induction k with
  | zero => intro _ i hi; omega
  | succ k ih =>
    intro hk i hi
    by_cases e : i = k
    · subst e
      rw [ptsF]
      split
      · rename_i c; exact c
      · rw [Nat.testBit_or, self_part hn hA (by omega), Bool.or_true]
    · exact ptsF_mono i (ih (by omega) i (by omega))
theorem ptsF_skip {A : Nat → Nat → Bool} {n k : Nat} : ∀ d, (∀ i, k ≤ i → i < k + d → (ptsF A n k).1.testBit i = true) → ptsF A n (k + d) = ptsF A n k := by
  intro d
  induction d with
  | zero => intro _; rfl
  | succ d ih =>
    intro h
    have e := ih (fun i h1 h2 => h i h1 (by omega))
    rw [← Nat.add_assoc, ptsF, e, if_pos (h (k + d) (by omega) (by omega))]
theorem ptsF_next {A : Nat → Nat → Bool} {n k p left : Nat} (hn : n ≤ 14) (hA : adj A n) (hk : k ≤ n) (hl : left = andn (2 ^ n - 1) (ptsF A n k).1) (hp : left.testBit p = true) (hm : ∀ j, j < p → left.testBit j = false) : k ≤ p ∧ p < n ∧ ptsF A n (p + 1) = ((ptsF A n k).1 ||| part A n p, (ptsF A n k).2 + 1) ∧ andn left (part A n p) = andn (2 ^ n - 1) (ptsF A n (p + 1)).1 := by
  have hp2 := hp
  rw [hl, andn_bit, all_bit, Bool.and_eq_true, decide_eq_true_eq] at hp2
  have hkp : k ≤ p := by
    apply Classical.byContradiction
    intro q
    rw [ptsF_seen hn hA k hk p (by omega)] at hp2
    cases hp2.2
  have e : ptsF A n p = ptsF A n k := by
    have := ptsF_skip (A := A) (n := n) (k := k) (p - k) (fun i h1 h2 => ?_)
    · rw [show k + (p - k) = p from by omega] at this; exact this
    · have := hm i (by omega)
      rw [hl, andn_bit, all_bit, decide_eq_true (show i < n from by omega)] at this
      simpa using this
  have hnb : (ptsF A n k).1.testBit p = false := by simpa using hp2.2
  have e2 : ptsF A n (p + 1) = ((ptsF A n k).1 ||| part A n p, (ptsF A n k).2 + 1) := by
    rw [ptsF, e, if_neg (by rw [hnb]; decide)]
  refine ⟨hkp, hp2.1, e2, ?_⟩
  rw [e2, hl]
  apply Nat.eq_of_testBit_eq
  intro i
  rw [andn_bit, andn_bit, andn_bit, Nat.testBit_or]
  cases (2 ^ n - 1).testBit i <;> cases (ptsF A n k).1.testBit i <;> cases (part A n p).testBit i <;> rfl
theorem ptsF_done {A : Nat → Nat → Bool} {n k : Nat} (hk : k ≤ n) (hl : 0 = andn (2 ^ n - 1) (ptsF A n k).1) : ptsF A n n = ptsF A n k := by
  have := ptsF_skip (A := A) (n := n) (k := k) (n - k) (fun i h1 h2 => ?_)
  · rw [show k + (n - k) = n from by omega] at this; exact this
  · have := congrArg (fun z => z.testBit i) hl
    simp only [Nat.zero_testBit, andn_bit, all_bit, decide_eq_true (show i < n from by omega), Bool.true_and] at this
    simpa using this.symm
/-! bridges -/
theorem brg {A : Nat → Nat → Bool} {n p q : Nat} (hn : n ≤ 14) (hA : adj A n) (hi : ∀ a, A a a = false) (hp : p < n) (hpq : p ≠ q) :
    (reach (lkX A p q) n (2 ^ p) (2 ^ n - 1)).testBit q = (reach A n (andn (bm 14 (A p)) (2 ^ q)) (andn (2 ^ n - 1) (2 ^ p))).testBit q := by
  have hw : andn (2 ^ n - 1) (2 ^ p) < 2 ^ n := Nat.lt_of_le_of_lt (andn_le _ _) (by have := Nat.two_pow_pos n; omega)
  have hX := reach_cls (f := andn (bm 14 (A p)) (2 ^ q)) hn hA hw
  have hZ := reach_all (f := 2 ^ p) hn (lkX_adj hA p q) (Nat.pow_lt_pow_right (by decide) hp)
  have win : ∀ i, (andn (2 ^ n - 1) (2 ^ p)).testBit i = (decide (i < n) && !decide (p = i)) := fun i => by rw [andn_bit, all_bit, two_bit]
  generalize reach A n (andn (bm 14 (A p)) (2 ^ q)) (andn (2 ^ n - 1) (2 ^ p)) = X at hX
  generalize reach (lkX A p q) n (2 ^ p) (2 ^ n - 1) = Z at hZ
  have h1 : Z.testBit q = true → X.testBit q = true := by
    intro h
    have := hZ.2.2 (X ||| 2 ^ p) (fun i hi => by rw [Nat.testBit_or, hi, Bool.or_true]) ?_ q h
    · rw [Nat.testBit_or, two_bit, Bool.or_eq_true, decide_eq_true_eq] at this
      rcases this with z | z
      · exact z
      · exact absurd z hpq
    · intro a b ha hab
      unfold lkX at hab
      rw [Bool.and_eq_true] at hab
      obtain ⟨hab, hx⟩ := hab
      have hb := hA a b hab
      rw [Nat.testBit_or, two_bit, Bool.or_eq_true, decide_eq_true_eq] at ha ⊢
      by_cases e : p = b
      · exact Or.inr e
      left
      rcases ha with ha | ha
      · refine hX.2.1 a b ha ?_
        unfold rst
        rw [hab, win]
        simp [e, hb.2]
      · subst ha
        have bq : b ≠ q := by
          intro z
          subst z
          simp at hx
        apply hX.1
        rw [Nat.testBit_and, andn_bit, bm_bit, hab, win, two_bit]
        simp [show b < 14 from by omega, hb.2, e, show ¬ q = b from fun z => bq z.symm]
  have h2 : X.testBit q = true → Z.testBit q = true := by
    intro h
    have pZ : Z.testBit p = true := hZ.1 p (by rw [two_bit]; simp)
    have := hX.2.2 (andn Z (2 ^ p)) ?_ ?_ q h
    · rw [andn_bit, Bool.and_eq_true] at this
      exact this.1
    · intro b hb
      rw [Nat.testBit_and, andn_bit, bm_bit, win, two_bit] at hb
      simp only [Bool.and_eq_true, decide_eq_true_eq, Bool.not_eq_true', decide_eq_false_iff_not] at hb
      obtain ⟨⟨⟨-, b1⟩, b2⟩, b3, b4⟩ := hb
      rw [andn_bit, two_bit, hZ.2.1 p b pZ (by unfold lkX; rw [b1]; simp [show ¬ b = q from fun z => b2 z.symm, hpq])]
      simp [b4]
    · intro a b ha hab
      unfold rst at hab
      rw [win] at hab
      rw [andn_bit, two_bit] at ha ⊢
      simp only [Bool.and_eq_true, decide_eq_true_eq, Bool.not_eq_true', decide_eq_false_iff_not] at ha hab ⊢
      exact ⟨hZ.2.1 a b ha.1 (by unfold lkX; rw [hab.1]; simp [show ¬ a = p from fun z => ha.2 z.symm, show ¬ b = p from fun z => hab.2.2 z.symm]), hab.2.2⟩
  cases e : Z.testBit q
  · cases e2 : X.testBit q
    · rfl
    · rw [h2 e2] at e; cases e
  · rw [h1 e]
/-! hinges -/
theorem hng {A : Nat → Nat → Bool} {n p : Nat} (hn : n ≤ 14) (hA : adj A n) (hp : p < n) :
    (andn (part A n p) (2 ^ p) = 0 → hin A n p = false) ∧ (andn (part A n p) (2 ^ p) ≠ 0 → reach (lkW A (2 ^ p)) n (lowb (andn (part A n p) (2 ^ p))) (2 ^ n - 1) = reach A n (lowb (andn (part A n p) (2 ^ p))) (andn (part A n p) (2 ^ p))) := by
  have hP := part_cls hn hA hp
  have pn : part A n p < 2 ^ n := by
    apply bits_lt
    intro i hi
    cases e : (part A n p).testBit i
    · rfl
    · have := hP.2.2 (2 ^ n - 1) (fun j hj => by rw [two_bit, decide_eq_true_eq] at hj; subst hj; rw [all_bit]; simp [hp]) (fun a b _ hab => by rw [all_bit]; simp [(hA a b hab).2]) i e
      rw [all_bit, decide_eq_true_eq] at this
      omega
  have on : andn (part A n p) (2 ^ p) < 2 ^ n := Nat.lt_of_le_of_lt (andn_le _ _) pn
  constructor
  · intro h
    have hX := reach_cls (f := lowb (andn (part A n p) (2 ^ p))) hn hA on
    have : reach A n (lowb (andn (part A n p) (2 ^ p))) (andn (part A n p) (2 ^ p)) = andn (part A n p) (2 ^ p) := by
      rw [h] at hX ⊢
      refine sbs.antisymm (hX.2.2 0 (fun i hi => by rw [Nat.testBit_and, Nat.zero_testBit, Bool.and_false] at hi; exact absurd hi (by decide)) (fun a b ha _ => by rw [Nat.zero_testBit] at ha; cases ha)) (fun i hi => by rw [Nat.zero_testBit] at hi; cases hi)
    unfold hin
    rw [this]
    simp
  · intro h
    obtain ⟨k, ek, hk, -⟩ := lowb_spec h
    have kn : k < n := bit_lt on hk
    have h1 := reach_all (A := lkW A (2 ^ p)) (f := 2 ^ k) hn (lkW_adj hA _) (Nat.pow_lt_pow_right (by decide) kn)
    have h2 := reach_cls (f := 2 ^ k) hn hA on
    rw [ek]
    generalize reach (lkW A (2 ^ p)) n (2 ^ k) (2 ^ n - 1) = X1 at h1
    generalize reach A n (2 ^ k) (andn (part A n p) (2 ^ p)) = X2 at h2
    have kb : sbs (2 ^ k) (2 ^ k &&& andn (part A n p) (2 ^ p)) := by
      intro i hi
      rw [Nat.testBit_and, hi]
      rw [two_bit, decide_eq_true_eq] at hi
      subst hi
      rw [hk]; rfl
    have x2 : sbs X2 (andn (part A n p) (2 ^ p)) := h2.2.2 _ (fun i hi => by rw [Nat.testBit_and, Bool.and_eq_true] at hi; exact hi.2) (fun a b _ hab => by unfold rst at hab; rw [Bool.and_eq_true] at hab; exact hab.2)
    refine sbs.antisymm (h1.2.2 X2 (kb.trans h2.1) ?_) (h2.2.2 X1 ?_ ?_)
    · intro a b ha hab
      unfold lkW at hab
      rw [two_bit, Bool.and_eq_true] at hab
      have ap := x2 a ha
      rw [andn_bit, Bool.and_eq_true] at ap
      refine h2.2.1 a b ha ?_
      unfold rst
      rw [hab.1, andn_bit, two_bit, hP.2.1 a b ap.1 hab.1, hab.2]
      rfl
    · intro i hi
      rw [Nat.testBit_and, Bool.and_eq_true] at hi
      exact h1.1 i hi.1
    · intro a b ha hab
      unfold rst at hab
      rw [andn_bit, two_bit, Bool.and_eq_true, Bool.and_eq_true] at hab
      refine h1.2.1 a b ha ?_
      unfold lkW
      rw [hab.1, two_bit, hab.2.2]
      rfl
/-! the core -/
theorem cor1_sub (A : Nat → Nat → Bool) (s : Nat) : ∀ k, sbs (cor1 A k s) s
  | 0 => sbs_rfl s
  | k + 1 => by
    rw [cor1]
    intro i hi
    split at hi
    · rw [andn_bit, Bool.and_eq_true] at hi
      exact cor1_sub A s k i hi.1
    · exact cor1_sub A s k i hi
theorem cor_fixp {A : Nat → Nat → Bool} {n : Nat} : ∀ (m x : Nat), x < 16384 → popc 14 x ≤ m → cor1 A n (itr m (cor1 A n) x) = itr m (cor1 A n) x := by
  intro m
  induction m with
  | zero =>
    intro x hx h
    have e := pop_0 hx (by omega)
    subst e
    refine sbs.antisymm (cor1_sub A 0 n) (fun i hi => ?_)
    simp [itr] at hi
  | succ m ih =>
    intro x hx h
    by_cases e : cor1 A n x = x
    · rw [itr_fix e, e]
    · have := pop_lt (cor1_sub A x n) e hx
      rw [itr]
      exact ih _ (cor1_lt hx n) (by omega)
theorem cor_stab {A : Nat → Nat → Bool} {n x : Nat} (hx : x < 16384) : ∀ d, itr (popc 14 x + d) (cor1 A n) x = itr (popc 14 x) (cor1 A n) x
  | 0 => rfl
  | d + 1 => by rw [← Nat.add_assoc, itr_s, cor_stab hx d, cor_fixp _ _ hx (Nat.le_refl _)]
theorem cor_next {A : Nat → Nat → Bool} {n x : Nat} (hx : x < 16384) : itr (popc 14 x) (cor1 A n) x = itr (popc 14 (cor1 A n x)) (cor1 A n) (cor1 A n x) := by
  by_cases e : cor1 A n x = x
  · rw [e]
  · have h := pop_lt (cor1_sub A x n) e hx
    obtain ⟨d, hd⟩ : ∃ d, popc 14 x = (popc 14 (cor1 A n x) + d) + 1 := ⟨popc 14 x - popc 14 (cor1 A n x) - 1, by omega⟩
    rw [hd, itr, cor_stab (cor1_lt hx n)]
/-! what is fixed -/
theorem fm_n {v : Ly} (ho : lyOk v) : bm 14 (fun q => decide (q < (pcs v.1).length) && decide (lfx v q ≠ 0)) = fm (lfx v) := by
  unfold fm
  apply bm_congr
  intro i _
  by_cases e : i < (pcs v.1).length
  · simp [e]
  · rw [pcs_len] at e
    have := ho.2.2.2.2.2.2.2.2.2 i (by omega)
    simp [this]
