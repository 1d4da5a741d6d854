/-! ===== the search: its state is cost, ways, uneven, ones ===== -/
abbrev Bs : Type := Nat × Nat × Nat × Nat
def unev (whole a : Nat) : Nat := ((whole : Int) - 2 * a).natAbs
def wgh (whole : Nat) (s : Bs) (m c a : Nat) : Bs :=
  let u := unev whole a
  let s1 : Bs := if c < s.1 then (c, 0, u, m) else s
  if u < s1.2.2.1 then (s1.1, s1.2.1 + 1, u, m) else (s1.1, s1.2.1 + 1, s1.2.2.1, s1.2.2.2)
def cst1 (ps : List Pc) (D st cl m p : Nat) : Nat := cl * cE ps D m p + st * sE ps m p
def srch (ps : List Pc) (D st cl : Nat) (fx : Nat → Nat) (whole : Nat) : Nat → Nat → Nat → Nat → Nat → Bs → Bs
  | 0, _, m, c, a, s => if s.1 < c then s else wgh whole s m c a
  | k + 1, p, m, c, a, s => if s.1 < c then s else
      let s1 := if fx p = 0 ∨ fx p = 0 + 1 then srch ps D st cl fx whole k (p + 1) (m ||| 0 * 2 ^ p) (c + cst1 ps D st cl (m ||| 0 * 2 ^ p) p) (a + 0 * qa (pg ps p)) s else s
      if fx p = 0 ∨ fx p = 1 + 1 then srch ps D st cl fx whole k (p + 1) (m ||| 1 * 2 ^ p) (c + cst1 ps D st cl (m ||| 1 * 2 ^ p) p) (a + 1 * qa (pg ps p)) s1 else s1
def zBS (I : zMI) (b : Nat) (fx : Nat → Nat) (whole : Nat) (s : Bs) : Prop := I b 1 = nI (fm fx) ∧ I b 2 = nI (fo fx) ∧ I b 4 = nI whole ∧ I b 5 = nI s.1 ∧ I b 6 = nI s.2.1 ∧ I b 3 = nI s.2.2.1 ∧ I b 7 = nI s.2.2.2
theorem zabs_eq {z : Int} (h1 : -1000000 ≤ z) (h2 : z ≤ 1000000) : (if 0 ≤ zi z then zi z else 0 - zi z) = nI z.natAbs := by
  have e0 : (0 : Int32) = zi 0 := by decide
  by_cases h : 0 ≤ z
  · rw [if_pos (by rw [Int32.le_iff_toInt_le, zi_T h1 h2, e0, zi_T (by omega) (by omega)]; exact h), nI_zi]; congr 1; omega
  · rw [if_neg (by rw [Int32.le_iff_toInt_le, zi_T h1 h2, e0, zi_T (by omega) (by omega)]; exact h), e0, zi_sub, nI_zi]; congr 1; omega
theorem unev_le {whole a : Nat} (h1 : whole ≤ 4000) (h2 : a ≤ 4000) : unev whole a ≤ 8000 := by unfold unev; omega
theorem wgh_u {whole : Nat} {s : Bs} {m c a : Nat} (h1 : whole ≤ 4000) (h2 : a ≤ 4000) (h3 : s.2.2.1 ≤ 8000) : (wgh whole s m c a).2.2.1 ≤ 8000 := by
  have := unev_le h1 h2
  unfold wgh
  simp only
  split <;> split <;> simp_all
theorem wgh_c {whole : Nat} {s : Bs} {m c a : Nat} (h : c ≤ 1000000000) (h3 : s.1 ≤ 1000000000) : (wgh whole s m c a).1 ≤ 1000000000 := by
  unfold wgh
  simp only
  split <;> split <;> simp_all
theorem wgh_w {whole : Nat} {s : Bs} {m c a : Nat} : (wgh whole s m c a).2.1 ≤ s.2.1 + 1 := by
  unfold wgh
  simp only
  split <;> split <;> simp_all
theorem weigh_ok {I : zMI} {b : Nat} {fx : Nat → Nat} {whole : Nat} {s : Bs} (h : zBS I b fx whole s) (m c a : Nat) :
    (c < s.1 → zBS (zu (zu (zu (zu (zu I b 5 (nI c)) b 6 (nI 0)) b 3 (nI (unev whole a))) b 7 (nI m)) b 6 (nI (0 + 1))) b fx whole (wgh whole s m c a)) ∧
    (¬ c < s.1 → unev whole a < s.2.2.1 → zBS (zu (zu (zu I b 6 (nI (s.2.1 + 1))) b 3 (nI (unev whole a))) b 7 (nI m)) b fx whole (wgh whole s m c a)) ∧
    (¬ c < s.1 → ¬ unev whole a < s.2.2.1 → zBS (zu I b 6 (nI (s.2.1 + 1))) b fx whole (wgh whole s m c a)) := by
  obtain ⟨g1, g2, g3, g4, g5, g6, g7⟩ := h
  refine ⟨fun h1 => ?_, fun h1 h2 => ?_, fun h1 h2 => ?_⟩
  · have e : wgh whole s m c a = (c, 0 + 1, unev whole a, m) := by simp [wgh, h1]
    rw [e]
    exact ⟨by simpa [zu] using g1, by simpa [zu] using g2, by simpa [zu] using g3, by simp [zu], by simp [zu], by simp [zu], by simp [zu]⟩
  · have e : wgh whole s m c a = (s.1, s.2.1 + 1, unev whole a, m) := by simp [wgh, h1, h2]
    rw [e]
    exact ⟨by simpa [zu] using g1, by simpa [zu] using g2, by simpa [zu] using g3, by simpa [zu] using g4, by simp [zu], by simp [zu], by simp [zu]⟩
  · have e : wgh whole s m c a = (s.1, s.2.1 + 1, s.2.2.1, s.2.2.2) := by simp [wgh, h1, h2]
    rw [e]
    exact ⟨by simpa [zu] using g1, by simpa [zu] using g2, by simpa [zu] using g3, by simpa [zu] using g4, by simp [zu], by simpa [zu] using g6, by simpa [zu] using g7⟩
theorem or_lt {m p x : Nat} (hm : m < 2 ^ p) (hx : x ≤ 1) : m ||| x * 2 ^ p < 2 ^ (p + 1) := by
  apply Nat.or_lt_two_pow
  · exact Nat.lt_of_lt_of_le hm (Nat.pow_le_pow_right (by decide) (by omega))
  · have : x * 2 ^ p ≤ 1 * 2 ^ p := Nat.mul_le_mul_right _ hx
    have h2 : 0 < 2 ^ p := Nat.two_pow_pos p
    rw [Nat.pow_succ]; omega
theorem cst1_le {ps : List Pc} {D st cl m p : Nat} (h1 : cl ≤ 99) (h2 : st ≤ 9) (hp : p ≤ 14) : cst1 ps D st cl m p ≤ 2000 := by
  unfold cst1
  have a := cE_le ps D m p
  have b := sE_le ps m p
  have c : cl * cE ps D m p ≤ 99 * 14 := Nat.mul_le_mul h1 (by omega)
  have d : st * sE ps m p ≤ 9 * 1 := Nat.mul_le_mul h2 b
  omega
theorem srch_b {ps : List Pc} {D st cl : Nat} {fx : Nat → Nat} {whole : Nat} (h1 : cl ≤ 99) (h2 : st ≤ 9) (hw : whole ≤ 4000) (ho : psOk ps) : ∀ (k p m c a : Nat) (s : Bs), p + k = ps.length → c ≤ p * 2000 → a ≤ p * 256 → s.1 ≤ 1000000000 → s.2.2.1 ≤ 8000 → (srch ps D st cl fx whole k p m c a s).1 ≤ 1000000000 ∧ (srch ps D st cl fx whole k p m c a s).2.2.1 ≤ 8000 ∧ (srch ps D st cl fx whole k p m c a s).2.1 ≤ s.2.1 + 2 ^ k := by
  have hl := ho.1
  intro k
  induction k with
  | zero =>
    intro p m c a s hp hc ha hs hu
    unfold srch
    split
    · exact ⟨hs, hu, Nat.le_add_right _ _⟩
    · exact ⟨wgh_c (by omega) hs, wgh_u hw (by omega) hu, by have := wgh_w (whole := whole) (s := s) (m := m) (c := c) (a := a); omega⟩
  | succ k ih =>
    intro p m c a s hp hc ha hs hu
    have hq := qa_le (ho.at (show p < ps.length by omega))
    unfold srch
    split
    · exact ⟨hs, hu, Nat.le_add_right _ _⟩
    · have c0 := cst1_le (ps := ps) (D := D) (m := m ||| 0 * 2 ^ p) h1 h2 (show p ≤ 14 by omega)
      have c1 := cst1_le (ps := ps) (D := D) (m := m ||| 1 * 2 ^ p) h1 h2 (show p ≤ 14 by omega)
      have s1 : ∀ (q : Prop) [Decidable q], (if q then srch ps D st cl fx whole k (p + 1) (m ||| 0 * 2 ^ p) (c + cst1 ps D st cl (m ||| 0 * 2 ^ p) p) (a + 0 * qa (pg ps p)) s else s).1 ≤ 1000000000 ∧ (if q then srch ps D st cl fx whole k (p + 1) (m ||| 0 * 2 ^ p) (c + cst1 ps D st cl (m ||| 0 * 2 ^ p) p) (a + 0 * qa (pg ps p)) s else s).2.2.1 ≤ 8000 ∧ (if q then srch ps D st cl fx whole k (p + 1) (m ||| 0 * 2 ^ p) (c + cst1 ps D st cl (m ||| 0 * 2 ^ p) p) (a + 0 * qa (pg ps p)) s else s).2.1 ≤ s.2.1 + 2 ^ k := by
        intro q _
        split
        · exact ih (p + 1) _ _ _ s (by omega) (by omega) (by omega) hs hu
        · exact ⟨hs, hu, Nat.le_add_right _ _⟩
      simp only
      have z := s1 (fx p = 0 ∨ fx p = 0 + 1)
      split
      · have y := ih (p + 1) (m ||| 1 * 2 ^ p) (c + cst1 ps D st cl (m ||| 1 * 2 ^ p) p) (a + 1 * qa (pg ps p)) _ (by omega) (by omega) (by omega) z.1 z.2.1
        exact ⟨y.1, y.2.1, by have y2 := y.2.2; have z2 := z.2.2; rw [Nat.pow_succ]; omega⟩
      · exact ⟨z.1, z.2.1, by have z2 := z.2.2; rw [Nat.pow_succ]; omega⟩
theorem areaM_le {ps : List Pc} (ho : psOk ps) (m : Nat) : areaM ps m ≤ 3584 := by
  have hl := ho.1
  have h : areaM ps m ≤ ps.length * 256 := sm_le (fun i hi => by
    split
    · exact qa_le (ho.at hi)
    · omega)
  omega
theorem tn_lt (q : Bool) : q.toNat < 2147483648 := by cases q <;> decide
