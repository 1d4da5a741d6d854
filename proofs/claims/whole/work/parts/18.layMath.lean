/-! ===== laying pieces ===== -/
def zAd (I J : zMI) (b : Nat) (ps : List Pc) (st cl : Nat) : Prop := zPB J b ps ∧ (∀ p, p < ps.length → J (b + 5) p = nI 0 ∧ J (b + 6) p = nI 0) ∧ J b 9 = nI st ∧ J b 10 = nI cl ∧ ∀ p, (p < b ∨ b + 8 < p) → J p = I p
theorem add_ok {I J : zMI} {b st cl : Nat} {ps : List Pc} (h : zAd I J b ps st cl) (c : Pc) :
    zAd I (zu (zu (zu (zu (zu (zu (zu (zu (zu J (b + 1) ps.length (nI (qs c))) (b + 2) ps.length (nI (qx c))) (b + 3) ps.length (nI (qx2 c))) (b + 7) ps.length (nI (qy c))) (b + 8) ps.length (nI (qy2 c))) (b + 4) ps.length (nI (qa c))) (b + 5) ps.length (nI 0)) (b + 6) ps.length (nI 0)) b 8 (nI (ps.length + 1))) b (ps ++ [c]) st cl := by
  obtain ⟨⟨g0, g1⟩, g2, g3, g4, g5⟩ := h
  refine ⟨⟨?_, ?_⟩, ?_, ?_, ?_, ?_⟩
  · simp [zu]
  · intro p d hpd
    by_cases hl : p < ps.length
    · rw [List.getElem?_append_left hl] at hpd
      have hne : p ≠ ps.length := by omega
      simpa [zu, hne] using g1 p d hpd
    · rw [List.getElem?_append_right (by omega)] at hpd
      have hz : p - ps.length < 1 := (List.getElem?_eq_some_iff.mp hpd).1
      have hk : p = ps.length := by omega
      subst hk
      rw [Nat.sub_self] at hpd
      cases hpd
      simp [zu]
  · intro p hp
    rw [List.length_append, List.length_singleton] at hp
    by_cases e : p = ps.length
    · subst e; simp [zu]
    · have hl : p < ps.length := by omega
      simpa [zu, e] using g2 p hl
  · simpa [zu] using g3
  · simpa [zu] using g4
  · intro p hp
    rw [zu_ne (by omega), zu_ne (by omega), zu_ne (by omega), zu_ne (by omega), zu_ne (by omega), zu_ne (by omega), zu_ne (by omega), zu_ne (by omega), zu_ne (by omega)]
    exact g5 p hp
theorem bm_or {f : Nat → Bool} {q : Nat} (hq : q < 14) : bm 14 f ||| 2 ^ q = bm 14 (fun c => f c || decide (c = q)) := by
  apply Nat.eq_of_testBit_eq
  intro i
  rw [Nat.testBit_or, bm_bit, bm_bit, two_bit]
  by_cases e : i = q
  · subst e; simp [hq]
  · have : ¬ q = i := fun z => e z.symm
    simp [e, this]
/-- which pairs have been looked at -/
def prc (p q a c : Nat) : Bool := decide ((a < c ∧ (a < p ∨ (a = p ∧ c < q))) ∨ (c < a ∧ (c < p ∨ (c = p ∧ a < q))))
def zLI (I J : zMI) (b : Nat) (ps : List Pc) (D st cl p q : Nat) : Prop := zPB J b ps ∧ (∀ a, a < ps.length → J (b + 5) a = nI (bm 14 (fun c => clb ps D a c && prc p q a c)) ∧ J (b + 6) a = nI (bm 14 (fun c => lkb ps D a c && prc p q a c))) ∧ J b 9 = nI st ∧ J b 10 = nI cl ∧ ∀ p, (p < b ∨ b + 8 < p) → J p = I p
theorem clb_irr (ps : List Pc) (D a : Nat) : clb ps D a a = false := by simp [clb]
theorem beb_irr (ps : List Pc) (a : Nat) : beb ps a a = false := by simp [beb]
theorem lkb_irr (ps : List Pc) (D a : Nat) : lkb ps D a a = false := by simp [lkb, clb_irr, beb_irr]
theorem clb_lt {ps : List Pc} {D a c : Nat} (h : clb ps D a c = true) : a < ps.length ∧ c < ps.length := by
  simp [clb] at h; omega
theorem beb_lt {ps : List Pc} {a c : Nat} (h : beb ps a c = true) : a < ps.length ∧ c < ps.length := by
  simp [beb] at h; omega
theorem lkb_lt {ps : List Pc} {D a c : Nat} (h : lkb ps D a c = true) : a < ps.length ∧ c < ps.length := by
  simp only [lkb, Bool.or_eq_true] at h
  rcases h with h | h
  · exact clb_lt h
  · exact beb_lt h
theorem zLI_0 {I J : zMI} {b D st cl : Nat} {ps : List Pc} (h : zAd I J b ps st cl) : zLI I J b ps D st cl 0 1 := by
  obtain ⟨g0, g2, g3, g4, g5⟩ := h
  have e : ∀ (f : Nat → Nat → Bool) (a : Nat), f a a = false → bm 14 (fun c => f a c && prc 0 1 a c) = 0 := by
    intro f a hf
    refine Eq.trans (bm_congr (g := fun _ => false) ?_) (by decide +kernel)
    intro i _
    by_cases q : i = a
    · subst q; simp [hf]
    · have : prc 0 1 a i = false := by simp [prc]; omega
      simp [this]
  exact ⟨g0, fun a ha => ⟨by rw [e (clb ps D) a (clb_irr ps D a)]; exact (g2 a ha).1, by rw [e (lkb ps D) a (lkb_irr ps D a)]; exact (g2 a ha).2⟩, g3, g4, g5⟩
theorem zLI_next {I J : zMI} {b D st cl p : Nat} {ps : List Pc} (h : zLI I J b ps D st cl p ps.length) : zLI I J b ps D st cl (p + 1) (p + 2) := by
  obtain ⟨g0, g2, g3, g4, g5⟩ := h
  have e : ∀ (f : Nat → Nat → Bool) (a : Nat), a < ps.length → (∀ c, f a c = true → c < ps.length) → (f a a = false) → bm 14 (fun c => f a c && prc p ps.length a c) = bm 14 (fun c => f a c && prc (p + 1) (p + 2) a c) := by
    intro f a ha hf hr
    apply bm_congr
    intro i _
    cases hfi : f a i with
    | false => rfl
    | true =>
      have h1 := hf i hfi
      have h2 : i ≠ a := by rintro rfl; rw [hr] at hfi; cases hfi
      simp only [Bool.true_and]
      unfold prc
      congr 1
      apply propext
      constructor <;> intro q <;> omega
  refine ⟨g0, fun a ha => ⟨?_, ?_⟩, g3, g4, g5⟩
  · rw [← e (clb ps D) a ha (fun c hc => (clb_lt hc).2) (clb_irr ps D a)]; exact (g2 a ha).1
  · rw [← e (lkb ps D) a ha (fun c hc => (lkb_lt hc).2) (lkb_irr ps D a)]; exact (g2 a ha).2
theorem zLI_end {I J : zMI} {b D st cl p q : Nat} {ps : List Pc} (hp : ps.length ≤ p) (h : zLI I J b ps D st cl p q) : zPC J b ps D st cl ∧ ∀ p, (p < b ∨ b + 8 < p) → J p = I p := by
  obtain ⟨g0, g2, g3, g4, g5⟩ := h
  have e : ∀ (f : Nat → Nat → Bool) (a : Nat), a < ps.length → (∀ c, f a c = true → c < ps.length) → (f a a = false) → bm 14 (fun c => f a c && prc p q a c) = bm 14 (f a) := by
    intro f a ha hf hr
    apply bm_congr
    intro i _
    cases hfi : f a i with
    | false => rfl
    | true =>
      have h1 := hf i hfi
      have h2 : i ≠ a := by rintro rfl; rw [hr] at hfi; cases hfi
      simp [prc]
      omega
  exact ⟨⟨g0, fun _ => g3, fun _ => g4, fun a ha => ⟨by rw [← e (clb ps D) a ha (fun c hc => (clb_lt hc).2) (clb_irr ps D a)]; exact (g2 a ha).1, by rw [← e (lkb ps D) a ha (fun c hc => (lkb_lt hc).2) (lkb_irr ps D a)]; exact (g2 a ha).2⟩⟩, g5⟩
theorem prc_step {p q a c : Nat} (hpq : p < q) : prc p (q + 1) a c = (prc p q a c || (decide (a = p) && decide (c = q)) || (decide (a = q) && decide (c = p))) := by
  unfold prc
  rw [Bool.eq_iff_iff]
  simp only [Bool.or_eq_true, Bool.and_eq_true, decide_eq_true_eq]
  omega
/-- a row of one kind, before and behind a pair -/
theorem row_step {f : Nat → Nat → Bool} {p q a : Nat} (hpq : p < q) (hq : q < 14) (hs : f p q = f q p) :
    bm 14 (fun c => f a c && prc p (q + 1) a c) = if f p q = true ∧ a = p then bm 14 (fun c => f a c && prc p q a c) ||| 2 ^ q else if f p q = true ∧ a = q then bm 14 (fun c => f a c && prc p q a c) ||| 2 ^ p else bm 14 (fun c => f a c && prc p q a c) := by
  by_cases h1 : f p q = true ∧ a = p
  · rw [if_pos h1, bm_or hq]
    apply bm_congr
    intro i _
    obtain ⟨h2, rfl⟩ := h1
    rw [prc_step hpq]
    have : ¬ a = q := by omega
    by_cases e : i = q
    · subst e; simp [h2]
    · simp [e, this]
  · rw [if_neg h1]
    by_cases h2 : f p q = true ∧ a = q
    · rw [if_pos h2, bm_or (by omega)]
      apply bm_congr
      intro i _
      obtain ⟨h3, rfl⟩ := h2
      rw [prc_step hpq]
      have : ¬ a = p := by omega
      by_cases e : i = p
      · subst e; rw [hs] at h3; simp [h3]
      · simp [e, this]
    · rw [if_neg h2]
      apply bm_congr
      intro i _
      rw [prc_step hpq]
      by_cases e : a = p ∧ i = q
      · obtain ⟨rfl, rfl⟩ := e
        have : f a i = false := by
          cases h : f a i with
          | false => rfl
          | true => exact absurd ⟨h, rfl⟩ h1
        simp [this]
      · by_cases e2 : a = q ∧ i = p
        · obtain ⟨rfl, rfl⟩ := e2
          have : f a i = false := by
            cases h : f a i with
            | false => rfl
            | true => exact absurd ⟨hs.trans h, rfl⟩ h2
          simp [this]
        · have h3 : (decide (a = p) && decide (i = q)) = false := by
            simp; omega
          have h4 : (decide (a = q) && decide (i = p)) = false := by
            simp; omega
          simp [h3, h4]
theorem zLI_same {I J : zMI} {b D st cl p q : Nat} {ps : List Pc} (hpq : p < q) (hq : q < ps.length) (hl : ps.length ≤ 14) (hc : clb ps D p q = false) (hk : lkb ps D p q = false) (h : zLI I J b ps D st cl p q) : zLI I J b ps D st cl p (q + 1) := by
  obtain ⟨g0, g2, g3, g4, g5⟩ := h
  refine ⟨g0, fun a ha => ⟨?_, ?_⟩, g3, g4, g5⟩
  · rw [row_step hpq (by omega) (clb_comm ps D p q), if_neg (by simp [hc]), if_neg (by simp [hc])]; exact (g2 a ha).1
  · rw [row_step hpq (by omega) (lkb_comm ps D p q), if_neg (by simp [hk]), if_neg (by simp [hk])]; exact (g2 a ha).2
theorem zPB.frame {I I2 : zMI} {b : Nat} {ps : List Pc} (h : zPB I b ps) (hf : ∀ p, p ≠ b + 5 → p ≠ b + 6 → I2 p = I p) : zPB I2 b ps := by
  unfold zPB at h ⊢
  rw [hf b (by omega) (by omega), hf (b + 1) (by omega) (by omega), hf (b + 2) (by omega) (by omega), hf (b + 3) (by omega) (by omega), hf (b + 4) (by omega) (by omega), hf (b + 7) (by omega) (by omega), hf (b + 8) (by omega) (by omega)]
  exact h
/-- linked, not close -/
theorem zLI_link {I J : zMI} {b D st cl p q : Nat} {ps : List Pc} (hpq : p < q) (hq : q < ps.length) (hl : ps.length ≤ 14) (hc : clb ps D p q = false) (hk : lkb ps D p q = true) (h : zLI I J b ps D st cl p q) {x y : Int32} (hx : x = nI (bm 14 (fun c => lkb ps D p c && prc p q p c) ||| 2 ^ q)) (hy : y = nI (bm 14 (fun c => lkb ps D q c && prc p q q c) ||| 2 ^ p)) :
    zLI I (zu (zu J (b + 6) p x) (b + 6) q y) b ps D st cl p (q + 1) := by
  obtain ⟨g0, g2, g3, g4, g5⟩ := h
  refine ⟨g0.frame (fun r h1 h2 => by rw [zu_ne h2, zu_ne h2]), fun a ha => ⟨?_, ?_⟩, ?_, ?_, ?_⟩
  · rw [row_step hpq (by omega) (clb_comm ps D p q), if_neg (by simp [hc]), if_neg (by simp [hc]), zu_nk (Or.inl (by omega)), zu_nk (Or.inl (by omega))]; exact (g2 a ha).1
  · rw [row_step hpq (by omega) (lkb_comm ps D p q)]
    by_cases e : a = p
    · subst e
      rw [if_pos ⟨hk, rfl⟩, zu_nk (Or.inr (by omega)), zu_same, hx]
    · rw [if_neg (fun z => e z.2)]
      by_cases e2 : a = q
      · subst e2
        rw [if_pos ⟨hk, rfl⟩, zu_same, hy]
      · rw [if_neg (fun z => e2 z.2), zu_nk (Or.inr e2), zu_nk (Or.inr e)]; exact (g2 a ha).2
  · rw [zu_nk (Or.inl (by omega)), zu_nk (Or.inl (by omega))]; exact g3
  · rw [zu_nk (Or.inl (by omega)), zu_nk (Or.inl (by omega))]; exact g4
  · intro r hr
    rw [zu_ne (by omega), zu_ne (by omega)]
    exact g5 r hr
/-- close -/
theorem zLI_close {I J : zMI} {b D st cl p q : Nat} {ps : List Pc} (hpq : p < q) (hq : q < ps.length) (hl : ps.length ≤ 14) (hc : clb ps D p q = true) (h : zLI I J b ps D st cl p q) {x y z w : Int32} (hx : x = nI (bm 14 (fun c => clb ps D p c && prc p q p c) ||| 2 ^ q)) (hy : y = nI (bm 14 (fun c => clb ps D q c && prc p q q c) ||| 2 ^ p)) (hz : z = nI (bm 14 (fun c => lkb ps D p c && prc p q p c) ||| 2 ^ q)) (hw : w = nI (bm 14 (fun c => lkb ps D q c && prc p q q c) ||| 2 ^ p)) :
    zLI I (zu (zu (zu (zu J (b + 5) p x) (b + 5) q y) (b + 6) p z) (b + 6) q w) b ps D st cl p (q + 1) := by
  obtain ⟨g0, g2, g3, g4, g5⟩ := h
  have hk : lkb ps D p q = true := by simp [lkb, hc]
  refine ⟨g0.frame (fun r h1 h2 => by rw [zu_ne h2, zu_ne h2, zu_ne h1, zu_ne h1]), fun a ha => ⟨?_, ?_⟩, ?_, ?_, ?_⟩
  · rw [row_step hpq (by omega) (clb_comm ps D p q), zu_nk (Or.inl (by omega)), zu_nk (Or.inl (by omega))]
    by_cases e : a = p
    · subst e
      rw [if_pos ⟨hc, rfl⟩, zu_nk (Or.inr (by omega)), zu_same, hx]
    · rw [if_neg (fun z => e z.2)]
      by_cases e2 : a = q
      · subst e2
        rw [if_pos ⟨hc, rfl⟩, zu_same, hy]
      · rw [if_neg (fun z => e2 z.2), zu_nk (Or.inr e2), zu_nk (Or.inr e)]; exact (g2 a ha).1
  · rw [row_step hpq (by omega) (lkb_comm ps D p q)]
    by_cases e : a = p
    · subst e
      rw [if_pos ⟨hk, rfl⟩, zu_nk (Or.inr (by omega)), zu_same, hz]
    · rw [if_neg (fun z => e z.2)]
      by_cases e2 : a = q
      · subst e2
        rw [if_pos ⟨hk, rfl⟩, zu_same, hw]
      · rw [if_neg (fun z => e2 z.2), zu_nk (Or.inr e2), zu_nk (Or.inr e), zu_nk (Or.inl (by omega)), zu_nk (Or.inl (by omega))]; exact (g2 a ha).2
  · rw [zu_nk (Or.inl (by omega)), zu_nk (Or.inl (by omega)), zu_nk (Or.inl (by omega)), zu_nk (Or.inl (by omega))]; exact g3
  · rw [zu_nk (Or.inl (by omega)), zu_nk (Or.inl (by omega)), zu_nk (Or.inl (by omega)), zu_nk (Or.inl (by omega))]; exact g4
  · intro r hr
    rw [zu_ne (by omega), zu_ne (by omega), zu_ne (by omega), zu_ne (by omega)]
    exact g5 r hr
theorem clb_of {ps : List Pc} {D p q : Nat} (hp : p < ps.length) (hq : q < ps.length) : clb ps D p q = true ↔ qs (pg ps p) ≠ qs (pg ps q) ∧ gap (pg ps p) (pg ps q) < D * D := by
  simp [clb, hp, hq]
theorem lkb_of {ps : List Pc} {D p q : Nat} (hp : p < ps.length) (hq : q < ps.length) (hpq : p < q) : lkb ps D p q = true ↔ (qs (pg ps p) ≠ qs (pg ps q) ∧ gap (pg ps p) (pg ps q) < D * D) ∨ (qs (pg ps p) = qs (pg ps q) ∧ q = p + 1) := by
  rw [lkb, Bool.or_eq_true, clb_of hp hq]
  simp [beb, hp, hq]
  omega
theorem zPB.stitch {I : zMI} {b : Nat} {ps : List Pc} (h : zPB I b ps) (k : Nat) (hk : k ≠ 8) (x : Int32) : zPB (zu I b k x) b ps := by
  obtain ⟨h0, h1⟩ := h
  refine ⟨by rw [zu_nk (Or.inr (Ne.symm hk))]; exact h0, fun p c hpc => ?_⟩
  rw [zu_nk (Or.inl (by omega)), zu_nk (Or.inl (by omega)), zu_nk (Or.inl (by omega)), zu_nk (Or.inl (by omega)), zu_nk (Or.inl (by omega)), zu_nk (Or.inl (by omega))]
  exact h1 p c hpc
