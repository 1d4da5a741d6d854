/-! ===== walks ===== -/
def cw (C : Nat → Nat → Bool) (p q t : Nat) : Prop := ∃ w : Nat → Nat, w 0 = p ∧ w t = q ∧ ∀ i, i < t → C (w i) (w (i + 1)) = true
theorem wk_iff {C : Nat → Nat → Bool} {n p : Nat} (hn : n ≤ 14) (hC : adj C n) : ∀ (t q : Nat), (itr t (nbS C n) (2 ^ p)).testBit q = true ↔ cw C p q t := by
  intro t
  induction t with
  | zero =>
    intro q
    rw [itr, two_bit, decide_eq_true_eq]
    constructor
    · intro e; subst e; exact ⟨fun _ => p, rfl, rfl, fun i hi => by omega⟩
    · rintro ⟨w, h1, h2, -⟩; rw [← h1, ← h2]
  | succ t ih =>
    intro q
    rw [itr_s, nbS_iff hn hC]
    constructor
    · rintro ⟨r, h1, h2⟩
      obtain ⟨w, w0, w1, w2⟩ := (ih r).mp h1
      refine ⟨fun i => if i ≤ t then w i else q, by simp [w0], by show (if t + 1 ≤ t then w (t + 1) else q) = q; rw [if_neg (by omega)], fun i hi => ?_⟩
      show C (if i ≤ t then w i else q) (if i + 1 ≤ t then w (i + 1) else q) = true
      by_cases e : i = t
      · subst e; rw [if_pos (Nat.le_refl _), if_neg (by omega), w1]; exact h2
      · rw [if_pos (by omega), if_pos (by omega)]
        exact w2 i (by omega)
    · rintro ⟨w, w0, w1, w2⟩
      exact ⟨w t, (ih _).mpr ⟨w, w0, rfl, fun i hi => w2 i (by omega)⟩, by rw [← w1]; exact w2 t (by omega)⟩
theorem pigeon : ∀ (n t : Nat) (f : Nat → Nat), n < t → (∀ i, i < t → f i < n) → ∃ i j, i < j ∧ j < t ∧ f i = f j := by
  intro n
  induction n with
  | zero => intro t f h1 h2; have := h2 0 (by omega); omega
  | succ n ih =>
    intro t f h1 h2
    by_cases e : ∃ i, i < t - 1 ∧ f i = f (t - 1)
    · obtain ⟨i, h3, h4⟩ := e
      exact ⟨i, t - 1, h3, by omega, h4⟩
    · have hne : ∀ i, i < t - 1 → f i ≠ f (t - 1) := fun i hi q => e ⟨i, hi, q⟩
      have hv := h2 (t - 1) (by omega)
      obtain ⟨i, j, h3, h4, h5⟩ := ih (t - 1) (fun i => if f (t - 1) < f i then f i - 1 else f i) (by omega) (fun i hi => by
        have a := h2 i (by omega)
        have b := hne i hi
        by_cases c : f (t - 1) < f i
        · rw [if_pos c]; omega
        · rw [if_neg c]; omega)
      refine ⟨i, j, h3, by omega, ?_⟩
      have a := hne i (by omega)
      have b := hne j (by omega)
      try simp only at h5
      split at h5 <;> split at h5 <;> omega
theorem short_odd {C A : Nat → Nat → Bool} {n : Nat} (hn : n ≤ 14) (hC : adj C n) (hA : adj A n) (hCA : ∀ a b, C a b = true → A a b = true) : ∀ (T t p : Nat), t ≤ T → t % 2 = 1 → p < n → cw C p p t → ∃ p' t', t' % 2 = 1 ∧ t' ≤ n ∧ t' ≤ t ∧ p' < n ∧ cw C p' p' t' ∧ (part A n p).testBit p' = true := by
  intro T
  induction T with
  | zero => intro t p h1 h2; omega
  | succ T ih =>
    intro t p h1 h2 hp hw
    by_cases e : t ≤ n
    · exact ⟨p, t, h2, e, Nat.le_refl _, hp, hw, self_part hn hA hp⟩
    · obtain ⟨w, w0, w1, w2⟩ := hw
      obtain ⟨i, j, hij, hj, hf⟩ := pigeon n t w (by omega) (fun i hi => (hC _ _ (w2 i hi)).1)
      have pin : ∀ k, k ≤ t → (part A n p).testBit (w k) = true := by
        intro k
        induction k with
        | zero => intro _; rw [w0]; exact self_part hn hA hp
        | succ k ihk => intro hk; exact (part_cls hn hA hp).2.1 _ _ (ihk (by omega)) (hCA _ _ (w2 k (by omega)))
      by_cases o : (j - i) % 2 = 1
      · have c1 : cw C (w i) (w i) (j - i) := ⟨fun k => w (i + k), by simp, by show w (i + (j - i)) = w i; rw [show i + (j - i) = j from by omega]; exact hf.symm, fun k hk => w2 (i + k) (by omega)⟩
        obtain ⟨p', t', g1, g2, g3, g4, g5, g6⟩ := ih (j - i) (w i) (by omega) o ((hC _ _ (w2 i (by omega))).1) c1
        refine ⟨p', t', g1, g2, by omega, g4, g5, ?_⟩
        have hi := (hC _ _ (w2 i (by omega))).1
        exact (part_cls hn hA hi).2.2 (part A n p) (fun k hk => by rw [two_bit, decide_eq_true_eq] at hk; subst hk; exact pin i (by omega)) (part_cls hn hA hp).2.1 p' g6
      · have c2 : cw C p p (t - (j - i)) := by
          refine ⟨fun k => if k ≤ i then w k else w (k + (j - i)), by simp [w0], ?_, fun k hk => ?_⟩
          · show (if t - (j - i) ≤ i then w (t - (j - i)) else w (t - (j - i) + (j - i))) = p
            rw [if_neg (by omega), show t - (j - i) + (j - i) = t from by omega]
            exact w1
          · show C (if k ≤ i then w k else w (k + (j - i))) (if k + 1 ≤ i then w (k + 1) else w (k + 1 + (j - i))) = true
            by_cases e1 : k + 1 ≤ i
            · rw [if_pos (by omega), if_pos e1]; exact w2 k (by omega)
            · by_cases e2 : k = i
              · subst e2
                rw [if_pos (Nat.le_refl _), if_neg e1, hf, show k + 1 + (j - k) = j + 1 from by omega]
                exact w2 j hj
              · rw [if_neg (by omega), if_neg e1, show k + 1 + (j - i) = k + (j - i) + 1 from by omega]
                exact w2 _ (by omega)
        obtain ⟨p', t', g1, g2, g3, g4, g5, g6⟩ := ih (t - (j - i)) p (by omega) (by omega) hp c2
        exact ⟨p', t', g1, g2, by omega, g4, g5, g6⟩
theorem ow_spec {C : Nat → Nat → Bool} {n p : Nat} : ∀ (f s e : Nat), 1 ≤ s → (ow C n p f s e = 0 ∧ ∀ j, j < f → (s + j) % 2 = 1 → (itr (j + 1) (nbS C n) e).testBit p = false) ∨ (∃ j, j < f ∧ ow C n p f s e = s + j ∧ (s + j) % 2 = 1 ∧ (itr (j + 1) (nbS C n) e).testBit p = true ∧ ∀ i, i < j → (s + i) % 2 = 1 → (itr (i + 1) (nbS C n) e).testBit p = false) := by
  intro f
  induction f with
  | zero => intro s e _; exact Or.inl ⟨rfl, fun j hj => by omega⟩
  | succ f ih =>
    intro s e hs
    rw [ow]
    by_cases c : s &&& 1 = 1 ∧ (nbS C n e).testBit p = true
    · rw [if_pos c]
      rw [Nat.and_one_is_mod] at c
      exact Or.inr ⟨0, by omega, rfl, c.1, c.2, fun i hi => by omega⟩
    · rw [if_neg c]
      rw [Nat.and_one_is_mod] at c
      have c0 : s % 2 = 1 → (itr 1 (nbS C n) e).testBit p = false := by
        intro o
        cases q : (itr 1 (nbS C n) e).testBit p
        · rfl
        · exact absurd ⟨o, q⟩ c
      rcases ih (s + 1) (nbS C n e) (by omega) with ⟨h1, h2⟩ | ⟨j, h1, h2, h3, h4, h5⟩
      · refine Or.inl ⟨h1, fun j hj o => ?_⟩
        cases j with
        | zero => exact c0 o
        | succ j => rw [itr]; exact h2 j (by omega) (by rw [show s + 1 + j = s + (j + 1) from by omega]; exact o)
      · refine Or.inr ⟨j + 1, by omega, by rw [h2]; omega, by rw [show s + (j + 1) = s + 1 + j from by omega]; exact h3, by rw [itr]; exact h4, fun i hi o => ?_⟩
        cases i with
        | zero => exact c0 o
        | succ i => rw [itr]; exact h5 i (by omega) (by rw [show s + 1 + i = s + (i + 1) from by omega]; exact o)
def rg (C : Nat → Nat → Bool) (n f p : Nat) : Nat := ow C n p f 1 (2 ^ p)
theorem rg_spec {C : Nat → Nat → Bool} {n : Nat} (hn : n ≤ 14) (hC : adj C n) (f p : Nat) : (rg C n f p = 0 ∧ ∀ t, t ≤ f → t % 2 = 1 → ¬ cw C p p t) ∨ (rg C n f p ≠ 0 ∧ rg C n f p ≤ f ∧ rg C n f p % 2 = 1 ∧ cw C p p (rg C n f p) ∧ ∀ t, t % 2 = 1 → cw C p p t → rg C n f p ≤ t) := by
  unfold rg
  rcases ow_spec (C := C) (n := n) (p := p) f 1 (2 ^ p) (by omega) with ⟨h1, h2⟩ | ⟨j, h1, h2, h3, h4, h5⟩
  · refine Or.inl ⟨h1, fun t ht o q => ?_⟩
    have := h2 (t - 1) (by omega) (by rw [show 1 + (t - 1) = t from by omega]; exact o)
    rw [show t - 1 + 1 = t from by omega, (wk_iff hn hC t p).mpr q] at this
    cases this
  · rw [h2]
    refine Or.inr ⟨by omega, by omega, h3, by rw [Nat.add_comm]; exact (wk_iff hn hC _ _).mp h4, fun t o q => ?_⟩
    apply Classical.byContradiction
    intro z
    have := h5 (t - 1) (by omega) (by rw [show 1 + (t - 1) = t from by omega]; exact o)
    rw [show t - 1 + 1 = t from by omega, (wk_iff hn hC t p).mpr q] at this
    cases this
def mnF (R : Nat → Nat) : Nat → Nat
  | 0 => 0
  | k + 1 => if R k ≠ 0 ∧ (mnF R k = 0 ∨ R k < mnF R k) then R k else mnF R k
theorem mnF_spec (R : Nat → Nat) : ∀ k, (mnF R k = 0 ∧ ∀ p, p < k → R p = 0) ∨ (mnF R k ≠ 0 ∧ (∃ p, p < k ∧ R p = mnF R k) ∧ ∀ p, p < k → R p ≠ 0 → mnF R k ≤ R p) := by
  intro k
  induction k with
  | zero => exact Or.inl ⟨rfl, fun p hp => by omega⟩
  | succ k ih =>
    rw [mnF]
    by_cases c : R k ≠ 0 ∧ (mnF R k = 0 ∨ R k < mnF R k)
    · rw [if_pos c]
      refine Or.inr ⟨c.1, ⟨k, by omega, rfl⟩, fun p hp h => ?_⟩
      by_cases e : p = k
      · subst e; exact Nat.le_refl _
      · rcases ih with ⟨i1, i2⟩ | ⟨i1, i2, i3⟩
        · exact absurd (i2 p (by omega)) h
        · have := i3 p (by omega) h
          omega
    · rw [if_neg c]
      rcases ih with ⟨i1, i2⟩ | ⟨i1, ⟨q, q1, q2⟩, i3⟩
      · refine Or.inl ⟨i1, fun p hp => ?_⟩
        by_cases e : p = k
        · subst e; apply Classical.byContradiction; intro z; exact c ⟨z, Or.inl i1⟩
        · exact i2 p (by omega)
      · refine Or.inr ⟨i1, ⟨q, by omega, q2⟩, fun p hp h => ?_⟩
        by_cases e : p = k
        · subst e; apply Classical.byContradiction; intro z; exact c ⟨h, Or.inr (by omega)⟩
        · exact i3 p (by omega) h
theorem shoF_mn (C : Nat → Nat → Bool) (n : Nat) : ∀ k, shoF C n k = mnF (rg C n n) k
  | 0 => rfl
  | k + 1 => by rw [shoF, mnF, shoF_mn C n k]; rfl
theorem sho_eq {C A : Nat → Nat → Bool} {n : Nat} (hn : n ≤ 14) (hC : adj C n) (hA : adj A n) (hCA : ∀ a b, C a b = true → A a b = true) : mnF (rg C n 28) n = shoF C n n := by
  rw [shoF_mn]
  have up : ∀ p, p < n → rg C n 28 p ≠ 0 → ∃ p', p' < n ∧ rg C n n p' ≠ 0 ∧ rg C n n p' ≤ rg C n 28 p := by
    intro p hp h
    rcases rg_spec hn hC 28 p with ⟨r1, -⟩ | ⟨r1, r2, r3, r4, -⟩
    · exact absurd r1 h
    · obtain ⟨p', t', g1, g2, g3, g4, g5, -⟩ := short_odd hn hC hA hCA _ _ p (Nat.le_refl _) r3 hp r4
      rcases rg_spec hn hC n p' with ⟨s1, s2⟩ | ⟨s1, s2, s3, s4, s5⟩
      · exact absurd g5 (s2 t' g2 g1)
      · exact ⟨p', g4, s1, by have := s5 t' g1 g5; omega⟩
  have dn : ∀ p, p < n → rg C n n p ≠ 0 → rg C n 28 p ≠ 0 ∧ rg C n 28 p ≤ rg C n n p := by
    intro p hp h
    rcases rg_spec hn hC n p with ⟨r1, -⟩ | ⟨r1, r2, r3, r4, -⟩
    · exact absurd r1 h
    · rcases rg_spec hn hC 28 p with ⟨s1, s2⟩ | ⟨s1, s2, s3, s4, s5⟩
      · exact absurd r4 (s2 _ (by omega) r3)
      · exact ⟨s1, s5 _ r3 r4⟩
  rcases mnF_spec (rg C n 28) n with ⟨a1, a2⟩ | ⟨a1, ⟨p, p1, p2⟩, a3⟩
  · rcases mnF_spec (rg C n n) n with ⟨b1, b2⟩ | ⟨b1, ⟨q, q1, q2⟩, b3⟩
    · rw [a1, b1]
    · exact absurd (a2 q q1) (dn q q1 (by rw [q2]; exact b1)).1
  · rcases mnF_spec (rg C n n) n with ⟨b1, b2⟩ | ⟨b1, ⟨q, q1, q2⟩, b3⟩
    · obtain ⟨p', g1, g2, -⟩ := up p p1 (by rw [p2]; exact a1)
      exact absurd (b2 p' g1) g2
    · obtain ⟨p', g1, g2, g3⟩ := up p p1 (by rw [p2]; exact a1)
      have h1 := b3 p' g1 g2
      have h2 := dn q q1 (by rw [q2]; exact b1)
      have h3 := a3 q q1 h2.1
      omega
/-! how many parts have one -/
theorem part_sub {A : Nat → Nat → Bool} {n p q : Nat} (hn : n ≤ 14) (hA : adj A n) (hp : p < n) (h : (part A n p).testBit q = true) (hq : q < n) : sbs (part A n q) (part A n p) := (part_cls hn hA hq).2.2 _ (fun i hi => by rw [two_bit, decide_eq_true_eq] at hi; subst hi; exact h) (part_cls hn hA hp).2.1
theorem part_eq {A : Nat → Nat → Bool} {n p q : Nat} (hn : n ≤ 14) (hA : adj A n) (hs : ∀ a b, A a b = A b a) (hp : p < n) (hq : q < n) (h : (part A n p).testBit q = true) : part A n q = part A n p := by
  refine (part_sub hn hA hp h hq).antisymm (part_sub hn hA hq ?_ hp)
  apply Classical.byContradiction
  intro z
  have hz : (part A n q).testBit p = false := by simpa using z
  have := (part_cls hn hA hp).2.2 (andn (part A n p) (part A n q)) (fun i hi => ?_) (fun a b ha hab => ?_) q h
  · rw [andn_bit, self_part hn hA hq] at this
    simp at this
  · rw [two_bit, decide_eq_true_eq] at hi
    subst hi
    rw [andn_bit, self_part hn hA hp, hz]; rfl
  · rw [andn_bit, Bool.and_eq_true] at ha ⊢
    refine ⟨(part_cls hn hA hp).2.1 a b ha.1 hab, ?_⟩
    cases e : (part A n q).testBit b
    · rfl
    · have := (part_cls hn hA hq).2.1 b a e (by rw [hs]; exact hab)
      rw [this] at ha
      exact absurd ha.2 (by decide)
noncomputable def cntP (n : Nat) (P : Nat → Prop) : Nat := cnt n (fun i => @decide (P i) (Classical.propDecidable _))
theorem cntP_congr {n : Nat} {P Q : Nat → Prop} (h : ∀ i, i < n → (P i ↔ Q i)) : cntP n P = cntP n Q := by
  unfold cntP
  apply cnt_congr
  intro i hi
  by_cases c : P i
  · rw [@decide_eq_true _ (Classical.propDecidable _) c, @decide_eq_true _ (Classical.propDecidable _) ((h i hi).mp c)]
  · rw [@decide_eq_false _ (Classical.propDecidable _) c, @decide_eq_false _ (Classical.propDecidable _) (fun q => c ((h i hi).mpr q))]
theorem cntP_add {n j : Nat} {P Q : Nat → Prop} (hj : j < n) (h1 : ¬ P j) (h : ∀ i, Q i ↔ P i ∨ i = j) : cntP n Q = cntP n P + 1 := by
  unfold cntP
  rw [← cnt_single hj, ← cnt_or]
  · apply cnt_congr
    intro i _
    by_cases c : P i
    · rw [@decide_eq_true _ (Classical.propDecidable _) c, @decide_eq_true _ (Classical.propDecidable _) ((h i).mpr (Or.inl c))]; rfl
    · rw [@decide_eq_false _ (Classical.propDecidable _) c, Bool.false_or]
      by_cases e : i = j
      · rw [@decide_eq_true _ (Classical.propDecidable _) ((h i).mpr (Or.inr e))]; simp [e]
      · rw [@decide_eq_false _ (Classical.propDecidable _) (fun q => ((h i).mp q).elim c e)]; simp [e]
  · intro i hi
    have c : P i := @of_decide_eq_true _ (Classical.propDecidable _) hi
    simp only [decide_eq_false_iff_not]
    intro e
    subst e
    exact h1 c
def FQ (A : Nat → Nat → Bool) (n : Nat) (Q : Nat → Prop) [DecidablePred Q] : Nat → Nat × Nat
  | 0 => (0, 0)
  | k + 1 => if (FQ A n Q k).1.testBit k = false ∧ Q k then ((FQ A n Q k).1 ||| part A n k, (FQ A n Q k).2 + 1) else FQ A n Q k
def isRp (A : Nat → Nat → Bool) (n r : Nat) : Prop := ∀ j, j < r → (part A n r).testBit j = false
theorem FQ_seen {A : Nat → Nat → Bool} {n : Nat} {Q : Nat → Prop} [DecidablePred Q] (hn : n ≤ 14) (hA : adj A n) : ∀ k, k ≤ n → ∀ q, (FQ A n Q k).1.testBit q = true ↔ ∃ p, p < k ∧ Q p ∧ (part A n p).testBit q = true := by
  intro k
  induction k with
  | zero => intro _ q; simp [FQ]
  | succ k ih =>
    intro hk q
    have ihk := ih (by omega)
    rw [FQ]
    by_cases c : (FQ A n Q k).1.testBit k = false ∧ Q k
    · rw [if_pos c, Nat.testBit_or, Bool.or_eq_true, ihk q]
      constructor
      · rintro (⟨p, h1, h2, h3⟩ | h)
        · exact ⟨p, by omega, h2, h3⟩
        · exact ⟨k, by omega, c.2, h⟩
      · rintro ⟨p, h1, h2, h3⟩
        by_cases e : p = k
        · subst e; exact Or.inr h3
        · exact Or.inl ⟨p, by omega, h2, h3⟩
    · rw [if_neg c, ihk q]
      constructor
      · rintro ⟨p, h1, h2, h3⟩; exact ⟨p, by omega, h2, h3⟩
      · rintro ⟨p, h1, h2, h3⟩
        by_cases e : p = k
        · subst e
          have hs : (FQ A n Q p).1.testBit p = true := by
            cases z : (FQ A n Q p).1.testBit p
            · exact absurd ⟨z, h2⟩ c
            · rfl
          obtain ⟨p', g1, g2, g3⟩ := (ihk p).mp hs
          exact ⟨p', g1, g2, part_sub hn hA (by omega) g3 (by omega) q h3⟩
        · exact ⟨p, by omega, h2, h3⟩
theorem FQ_cnt {A : Nat → Nat → Bool} {n : Nat} {Q : Nat → Prop} [DecidablePred Q] (hn : n ≤ 14) (hA : adj A n) (hs : ∀ a b, A a b = A b a) : ∀ k, k ≤ n → (FQ A n Q k).2 = cntP n (fun r => isRp A n r ∧ ∃ p, p < k ∧ Q p ∧ (part A n r).testBit p = true) := by
  intro k
  induction k with
  | zero =>
    intro _
    symm
    unfold cntP
    apply cnt_none
    intro i _
    exact @decide_eq_false _ (Classical.propDecidable _) (fun z => by obtain ⟨-, p, h, -⟩ := z; omega)
  | succ k ih =>
    intro hk
    have ihk := ih (by omega)
    have sk := FQ_seen (Q := Q) hn hA k (by omega)
    rw [FQ]
    by_cases c : (FQ A n Q k).1.testBit k = false ∧ Q k
    · rw [if_pos c]
      show (FQ A n Q k).2 + 1 = _
      have hp0 : part A n k ≠ 0 := by
        intro z
        have := self_part hn hA (show k < n from by omega)
        rw [z, Nat.zero_testBit] at this
        cases this
      obtain ⟨r, -, r1, r2⟩ := lowb_spec hp0
      have rn : r < n := by
        have := (part_cls hn hA (show k < n from by omega)).2.2 (2 ^ n - 1) (fun j hj => by rw [two_bit, decide_eq_true_eq] at hj; subst hj; rw [all_bit]; simp; omega) (fun a b _ hab => by rw [all_bit]; simp [(hA a b hab).2]) r r1
        rw [all_bit, decide_eq_true_eq] at this
        exact this
      have re := part_eq hn hA hs (show k < n from by omega) rn r1
      rw [ihk, ← cntP_add (j := r) rn]
      · rintro ⟨-, p, p1, p2, p3⟩
        have pk : (part A n p).testBit k = true := by
          rw [part_eq hn hA hs rn (show p < n from by omega) p3, re]
          exact self_part hn hA (by omega)
        rw [(sk k).mpr ⟨p, p1, p2, pk⟩] at c
        exact absurd c.1 (by decide)
      · intro i
        constructor
        · rintro ⟨h1, p, p1, p2, p3⟩
          by_cases e : p = k
          · right
            subst e
            by_cases hin : i < n
            · have ie := part_eq hn hA hs hin (show p < n from by omega) p3
              apply Classical.byContradiction
              intro ne
              rcases Nat.lt_or_gt_of_ne ne with z | z
              · have a : (part A n p).testBit i = true := by rw [ie]; exact self_part hn hA hin
                rw [r2 i z] at a
                cases a
              · have a := h1 r z
                rw [← ie, r1] at a
                cases a
            · exfalso
              have := (reach_cls (A := A) (f := 2 ^ i) hn hA (show 2 ^ n - 1 < 2 ^ n from by have := Nat.two_pow_pos n; omega)).2.2 0 (fun j hj => by rw [Nat.testBit_and, two_bit, all_bit] at hj; simp at hj; omega) (fun a b ha _ => by rw [Nat.zero_testBit] at ha; cases ha) p p3
              rw [Nat.zero_testBit] at this
              cases this
          · exact Or.inl ⟨h1, p, by omega, p2, p3⟩
        · rintro (⟨h1, p, p1, p2, p3⟩ | e)
          · exact ⟨h1, p, by omega, p2, p3⟩
          · subst e
            exact ⟨fun j hj => by rw [re]; exact r2 j hj, k, by omega, c.2, by rw [re]; exact self_part hn hA (by omega)⟩
    · rw [if_neg c, ihk]
      apply cntP_congr
      intro i hi
      constructor
      · rintro ⟨h1, p, p1, p2, p3⟩; exact ⟨h1, p, by omega, p2, p3⟩
      · rintro ⟨h1, p, p1, p2, p3⟩
        by_cases e : p = k
        · subst e
          have hs2 : (FQ A n Q p).1.testBit p = true := by
            cases z : (FQ A n Q p).1.testBit p
            · exact absurd ⟨z, p2⟩ c
            · rfl
          obtain ⟨p', g1, g2, g3⟩ := (sk p).mp hs2
          refine ⟨h1, p', g1, g2, ?_⟩
          have e1 := part_eq hn hA hs hi (show p < n from by omega) p3
          have e2 := part_eq hn hA hs (show p' < n from by omega) (show p < n from by omega) g3
          rw [← e1, e2]
          exact self_part hn hA (by omega)
        · exact ⟨h1, p, by omega, p2, p3⟩
theorem oddF_FQ (C A : Nat → Nat → Bool) (n : Nat) : ∀ k, oddF C A n k = FQ A n (fun p => rg C n n p ≠ 0) k
  | 0 => rfl
  | k + 1 => by rw [oddF, FQ, oddF_FQ C A n k]; rfl
theorem odd_eq {C A : Nat → Nat → Bool} {n : Nat} (hn : n ≤ 14) (hC : adj C n) (hA : adj A n) (hs : ∀ a b, A a b = A b a) (hCA : ∀ a b, C a b = true → A a b = true) : (FQ A n (fun p => rg C n 28 p ≠ 0) n).2 = (oddF C A n n).2 := by
  rw [oddF_FQ, FQ_cnt hn hA hs n (Nat.le_refl _), FQ_cnt hn hA hs n (Nat.le_refl _)]
  apply cntP_congr
  intro r hr
  constructor
  · rintro ⟨h1, p, p1, p2, p3⟩
    refine ⟨h1, ?_⟩
    rcases rg_spec hn hC 28 p with ⟨r1, -⟩ | ⟨r1, r2, r3, r4, -⟩
    · exact absurd r1 p2
    · obtain ⟨p', t', g1, g2, g3, g4, g5, g6⟩ := short_odd hn hC hA hCA _ _ p (Nat.le_refl _) r3 p1 r4
      refine ⟨p', g4, ?_, ?_⟩
      · rcases rg_spec hn hC n p' with ⟨s1, s2⟩ | ⟨s1, -⟩
        · exact absurd g5 (s2 t' g2 g1)
        · exact s1
      · exact part_sub hn hA hr p3 p1 p' g6
  · rintro ⟨h1, p, p1, p2, p3⟩
    refine ⟨h1, p, p1, ?_, p3⟩
    rcases rg_spec hn hC n p with ⟨r1, -⟩ | ⟨r1, r2, r3, r4, -⟩
    · exact absurd r1 p2
    · rcases rg_spec hn hC 28 p with ⟨s1, s2⟩ | ⟨s1, -⟩
      · exact absurd r4 (s2 _ (by omega) r3)
      · exact s1
theorem FQ_lt {A : Nat → Nat → Bool} {n : Nat} {Q : Nat → Prop} [DecidablePred Q] : ∀ k, k ≤ 14 → (FQ A n Q k).1 < 16384 ∧ (FQ A n Q k).2 ≤ k
  | 0, _ => by simp [FQ]
  | k + 1, h => by
    have := FQ_lt (A := A) (n := n) (Q := Q) k (by omega)
    rw [FQ]
    split
    · exact ⟨or_lt14 this.1 (part_lt (by omega)), by simp; omega⟩
    · exact ⟨this.1, by omega⟩
theorem FQ_clo {A : Nat → Nat → Bool} {n k : Nat} {Q : Nat → Prop} [DecidablePred Q] (hn : n ≤ 14) (hA : adj A n) (hk : k < n) (h : (FQ A n Q k).1.testBit k = true) : (FQ A n Q k).1 ||| part A n k = (FQ A n Q k).1 := by
  apply Nat.eq_of_testBit_eq
  intro i
  rw [Nat.testBit_or]
  cases e : (part A n k).testBit i
  · rw [Bool.or_false]
  · obtain ⟨p, p1, p2, p3⟩ := (FQ_seen hn hA k (by omega) k).mp h
    rw [(FQ_seen hn hA k (by omega) i).mpr ⟨p, p1, p2, part_sub hn hA (by omega) p3 hk i e⟩]
    rfl
