/-! ===== what the writers of a layout do ===== -/
def zWr (I I2 : zMI) (b : Nat) (v : Ly) : Prop := zCLy I2 b v ∧ ∀ p, (p < b ∨ b + 5 < p) → I2 p = I p
def lyS (v : Ly) (l : List Sh) : Ly := (l, v.2)
def lyF (v : Ly) (f : Nat → Nat) : Ly := (v.1, v.2.1, v.2.2.1, v.2.2.2.1, f)
def lyB (v : Ly) (w : Int) (x : Nat) : Ly := if w = 0 then (v.1, x, v.2.2) else if w = 1 then (v.1, v.2.1, x, v.2.2.2) else (v.1, v.2.1, v.2.2.1, x, v.2.2.2.2)
theorem zWr.of5 {I : zMI} {b : Nat} {v : Ly} (hv : zCLy I b v) (l : List Sh) {J : zMI} (h5 : J b 5 = nI l.length) (hk : ∀ k, k ≠ 5 → J b k = I b k)
    (hs : ∀ (k : Nat) (s : Sh), l[k]? = some s → J (b + 1) k = nI (sx s) ∧ J (b + 2) k = nI (sy s) ∧ J (b + 3) k = nI (sx2 s) ∧ J (b + 4) k = nI (sy2 s) ∧ J (b + 5) k = nI (cm (sc s))) (hf : ∀ p, (p < b ∨ b + 5 < p) → J p = I p) : zWr I J b (lyS v l) := by
  obtain ⟨h0, h1, h2, h3, h4, h6, h7⟩ := hv
  exact ⟨⟨h5, hs, (hk 6 (by decide)).trans h2, (hk 7 (by decide)).trans h3, (hk 8 (by decide)).trans h4, (hk 9 (by decide)).trans h6, (hk 10 (by decide)).trans h7⟩, hf⟩
theorem putNew_ok {I : zMI} {b : Nat} {v : Ly} (hv : zCLy I b v) (x y x2 y2 : Nat) :
    zWr I (zu (zu (zu (zu (zu (zu I (b + 1) v.1.length (nI x)) (b + 2) v.1.length (nI y)) (b + 3) v.1.length (nI x2)) (b + 4) v.1.length (nI y2)) (b + 5) v.1.length (nI 0)) b 5 (nI (v.1.length + 1))) b (lyS v (v.1 ++ [(x, y, x2, y2, [])])) := by
  refine zWr.of5 hv _ ?_ ?_ ?_ ?_
  · simp [zu]
  · intro k hk
    simp [zu, hk]
  · intro k s hks
    by_cases h : k < v.1.length
    · rw [List.getElem?_append_left h] at hks
      have hne : k ≠ v.1.length := by omega
      simpa [zu, hne] using hv.2.1 k s hks
    · rw [List.getElem?_append_right (by omega)] at hks
      have hz : k - v.1.length < 1 := (List.getElem?_eq_some_iff.mp hks).1
      have hk : k = v.1.length := by omega
      subst hk
      rw [Nat.sub_self] at hks
      cases hks
      have e0 : cm [] = 0 := by decide +kernel
      simp [zu, sx, sy, sx2, sy2, sc, e0]
  · intro p hp
    rw [zu_ne (by omega), zu_ne (by omega), zu_ne (by omega), zu_ne (by omega), zu_ne (by omega), zu_ne (by omega)]
/-- the middle of takeAway -/
def tkI (I J : zMI) (b j i : Nat) : Prop := J b = I b ∧ (∀ a, 1 ≤ a → a ≤ 5 → ∀ k, J (b + a) k = if j ≤ k ∧ k < i then I (b + a) (k + 1) else I (b + a) k) ∧ ∀ p, (p < b ∨ b + 5 < p) → J p = I p
theorem tkI_0 (I : zMI) (b j : Nat) : tkI I I b j j := ⟨rfl, fun a _ _ k => by rw [if_neg (by omega)], fun _ _ => rfl⟩
theorem tkI_s {I J : zMI} {b j i : Nat} (hji : j ≤ i) (h : tkI I J b j i) : tkI I (zu (zu (zu (zu (zu J (b + 1) i (J (b + 1) (i + 1))) (b + 2) i (J (b + 2) (i + 1))) (b + 3) i (J (b + 3) (i + 1))) (b + 4) i (J (b + 4) (i + 1))) (b + 5) i (J (b + 5) (i + 1))) b j (i + 1) := by
  obtain ⟨h0, h1, h2⟩ := h
  refine ⟨?_, ?_, ?_⟩
  · rw [zu_ne (by omega), zu_ne (by omega), zu_ne (by omega), zu_ne (by omega), zu_ne (by omega)]; exact h0
  · intro a ha1 ha2 k
    by_cases hk : k = i
    · subst hk
      rw [if_pos (by omega)]
      have e := h1 a ha1 ha2 (k + 1)
      rw [if_neg (by omega)] at e
      rcases (show a = 1 ∨ a = 2 ∨ a = 3 ∨ a = 4 ∨ a = 5 from by omega) with rfl | rfl | rfl | rfl | rfl <;> simp [zu, e]
    · have e := h1 a ha1 ha2 k
      have e2 : (if j ≤ k ∧ k < i + 1 then I (b + a) (k + 1) else I (b + a) k) = (if j ≤ k ∧ k < i then I (b + a) (k + 1) else I (b + a) k) := by
        by_cases q : j ≤ k ∧ k < i
        · rw [if_pos q, if_pos (by omega)]
        · rw [if_neg q, if_neg (by omega)]
      rw [e2, ← e]
      simp [zu, hk]
  · intro p hp
    rw [zu_ne (by omega), zu_ne (by omega), zu_ne (by omega), zu_ne (by omega), zu_ne (by omega)]
    exact h2 p hp
theorem tkI_end {I J : zMI} {b j : Nat} {v : Ly} (hv : zCLy I b v) (hj : j < v.1.length) (h : tkI I J b j (v.1.length - 1)) : zWr I (zu J b 5 (nI (v.1.length - 1))) b (lyS v (v.1.eraseIdx j)) := by
  obtain ⟨h0, h1, h2⟩ := h
  refine zWr.of5 hv _ ?_ ?_ ?_ ?_
  · rw [zu_same, List.length_eraseIdx_of_lt hj]
  · intro k hk
    rw [zu_nk (Or.inr hk), h0]
  · intro k s hks
    have e : ∀ a, 1 ≤ a → a ≤ 5 → zu J b 5 (nI (v.1.length - 1)) (b + a) k = if j ≤ k then I (b + a) (k + 1) else I (b + a) k := by
      intro a ha1 ha2
      rw [zu_nk (Or.inl (by omega)), h1 a ha1 ha2 k]
      have hl := getS_lt hks
      rw [List.length_eraseIdx_of_lt hj] at hl
      by_cases q : j ≤ k
      · rw [if_pos q, if_pos (by omega)]
      · rw [if_neg q, if_neg (by omega)]
    rw [e 1 (by omega) (by omega), e 2 (by omega) (by omega), e 3 (by omega) (by omega), e 4 (by omega) (by omega), e 5 (by omega) (by omega)]
    rw [List.getElem?_eraseIdx] at hks
    by_cases q : j ≤ k
    · rw [if_neg (by omega)] at hks
      simp only [if_pos q]
      exact hv.2.1 (k + 1) s hks
    · rw [if_pos (by omega)] at hks
      simp only [if_neg q]
      exact hv.2.1 k s hks
  · intro p hp
    rw [zu_ne (by omega)]
    exact h2 p hp
/-- a shape moved -/
def mv (s : Sh) (dx dy : Int) : Sh := ((sx s + dx).toNat, (sy s + dy).toNat, (sx2 s + dx).toNat, (sy2 s + dy).toNat, (sc s).map (fun c : Nat => ((c : Int) + dx).toNat))
theorem cm_shl1 : ∀ d, d < 15 → ∀ a, a < 15 → a + d < 15 → cm [a] * 2 ^ d = cm [a + d] := by decide +kernel
theorem cm_shl2 : ∀ d, d < 15 → ∀ b, b < 15 → b + d < 15 → ∀ a, a < b → cm [a, b] * 2 ^ d = cm [a + d, b + d] := by decide +kernel
theorem cm_shr1 : ∀ d, d < 15 → ∀ a, a < 15 → d ≤ a → cm [a] >>> d = cm [a - d] := by decide +kernel
theorem cm_shr2 : ∀ d, d < 15 → ∀ b, b < 15 → ∀ a, a < b → d ≤ a → cm [a, b] >>> d = cm [a - d, b - d] := by decide +kernel
theorem cm_shl {x x2 d : Nat} {c : List Nat} (h : cOk x x2 c) (hd : x2 + d ≤ 15) : cm c * 2 ^ d = cm (c.map (· + d)) := by
  rcases h with rfl | ⟨a, rfl, h1, h2⟩ | ⟨a, b, rfl, h1, h2, h3⟩
  · have e0 : cm [] = 0 := by decide +kernel
    simp [e0]
  · exact cm_shl1 d (by omega) a (by omega) (by omega)
  · exact cm_shl2 d (by omega) b (by omega) (by omega) a h2
theorem cm_shr {x x2 d : Nat} {c : List Nat} (h : cOk x x2 c) (hx : x2 ≤ 15) (hd : d ≤ x) : cm c >>> d = cm (c.map (· - d)) := by
  rcases h with rfl | ⟨a, rfl, h1, h2⟩ | ⟨a, b, rfl, h1, h2, h3⟩
  · have e0 : cm [] = 0 := by decide +kernel
    simp [e0]
  · exact cm_shr1 d (by omega) a (by omega) (by omega)
  · exact cm_shr2 d (by omega) b (by omega) a h2 (by omega)
theorem step_ok {I : zMI} {b j : Nat} {v : Ly} {sh : Sh} {dx dy : Int} {q : Int32} (hv : zCLy I b v) (hsh : v.1[j]? = some sh) (hx : 0 ≤ sx sh + dx) (hy : 0 ≤ sy sh + dy) (hxx : sx sh ≤ sx2 sh) (hyy : sy sh ≤ sy2 sh) (hq : q = nI (cm ((sc sh).map (fun c : Nat => ((c : Int) + dx).toNat)))) :
    zWr I (zu (zu (zu (zu (zu I (b + 1) j (zi (sx sh + dx))) (b + 2) j (zi (sy sh + dy))) (b + 3) j (zi (sx2 sh + dx))) (b + 4) j (zi (sy2 sh + dy))) (b + 5) j q) b (lyS v (v.1.set j (mv sh dx dy))) := by
  have hj := getS_lt hsh
  refine zWr.of5 hv _ ?_ ?_ ?_ ?_
  · rw [zu_nk (Or.inl (by omega)), zu_nk (Or.inl (by omega)), zu_nk (Or.inl (by omega)), zu_nk (Or.inl (by omega)), zu_nk (Or.inl (by omega)), List.length_set]; exact hv.1
  · intro k hk
    rw [zu_nk (Or.inl (by omega)), zu_nk (Or.inl (by omega)), zu_nk (Or.inl (by omega)), zu_nk (Or.inl (by omega)), zu_nk (Or.inl (by omega))]
  · intro k s hks
    by_cases e : k = j
    · subst e
      rw [List.getElem?_set_self hj] at hks
      cases hks
      rw [zi_nat hx, zi_nat hy, zi_nat (show 0 ≤ (sx2 sh : Int) + dx from by omega), zi_nat (show 0 ≤ (sy2 sh : Int) + dy from by omega), hq]
      simp [zu, mv, sx, sy, sx2, sy2, sc]
    · rw [List.getElem?_set_ne (Ne.symm e)] at hks
      simpa [zu, e] using hv.2.1 k s hks
  · intro p hp
    rw [zu_ne (by omega), zu_ne (by omega), zu_ne (by omega), zu_ne (by omega), zu_ne (by omega)]
/-- a shape the other way round -/
def mir (s : Sh) : Sh := (15 - sx2 s, sy s, 15 - sx s, sy2 s, mirr (sc s))
def mrI (I J : zMI) (b : Nat) (v : Ly) (i : Nat) : Prop := J b = I b ∧ J (b + 2) = I (b + 2) ∧ J (b + 4) = I (b + 4) ∧ (∀ (k : Nat) (s : Sh), v.1[k]? = some s → if k < i then J (b + 1) k = nI (15 - sx2 s) ∧ J (b + 3) k = nI (15 - sx s) ∧ J (b + 5) k = nI (cm (mirr (sc s))) else J (b + 1) k = nI (sx s) ∧ J (b + 3) k = nI (sx2 s) ∧ J (b + 5) k = nI (cm (sc s))) ∧ ∀ p, (p < b ∨ b + 5 < p) → J p = I p
theorem mrI_0 {I : zMI} {b : Nat} {v : Ly} (hv : zCLy I b v) : mrI I I b v 0 := ⟨rfl, rfl, rfl, fun k s h => by rw [if_neg (by omega)]; exact ⟨(hv.2.1 k s h).1, (hv.2.1 k s h).2.2.1, (hv.2.1 k s h).2.2.2.2⟩, fun _ _ => rfl⟩
theorem mrI_s {I J : zMI} {b i : Nat} {v : Ly} {sh : Sh} (hsh : v.1[i]? = some sh) (h : mrI I J b v i) : mrI I (zu (zu (zu J (b + 1) i (nI (15 - sx2 sh))) (b + 3) i (nI (15 - sx sh))) (b + 5) i (nI (cm (mirr (sc sh))))) b v (i + 1) := by
  obtain ⟨h0, h1, h2, h3, h4⟩ := h
  refine ⟨?_, ?_, ?_, ?_, ?_⟩
  · rw [zu_ne (by omega), zu_ne (by omega), zu_ne (by omega)]; exact h0
  · rw [zu_ne (by omega), zu_ne (by omega), zu_ne (by omega)]; exact h1
  · rw [zu_ne (by omega), zu_ne (by omega), zu_ne (by omega)]; exact h2
  · intro k s hk
    by_cases e : k = i
    · subst e
      rw [hsh] at hk
      cases hk
      rw [if_pos (by omega)]
      simp [zu]
    · have h5 := h3 k s hk
      by_cases q : k < i
      · rw [if_pos q] at h5
        rw [if_pos (by omega)]
        simpa [zu, e] using h5
      · rw [if_neg q] at h5
        rw [if_neg (by omega)]
        simpa [zu, e] using h5
  · intro p hp
    rw [zu_ne (by omega), zu_ne (by omega), zu_ne (by omega)]
    exact h4 p hp
theorem mrI_end {I J : zMI} {b i : Nat} {v : Ly} (hv : zCLy I b v) (hi : v.1.length ≤ i) (h : mrI I J b v i) : zWr I J b (lyS v (v.1.map mir)) := by
  obtain ⟨h0, h1, h2, h3, h4⟩ := h
  refine zWr.of5 hv _ ?_ ?_ ?_ ?_
  · rw [h0, List.length_map]; exact hv.1
  · intro k _
    rw [h0]
  · intro k s hks
    rw [List.getElem?_map] at hks
    cases hk : v.1[k]? with
    | none => rw [hk] at hks; cases hks
    | some t =>
      rw [hk] at hks
      cases hks
      have h5 := h3 k t hk
      have hv5 := hv.2.1 k t hk
      rw [if_pos (by have := getS_lt hk; omega)] at h5
      rw [h1, h2]
      exact ⟨h5.1, hv5.2.1, h5.2.1, hv5.2.2.2.1, h5.2.2⟩
  · exact h4
theorem setBound_ok {I : zMI} {b : Nat} {v : Ly} (hv : zCLy I b v) {w : Int} (x : Nat) (h0 : 0 ≤ w) (h2 : w ≤ 2) : zWr I (zu I b (6 + w.toNat) (nI x)) b (lyB v w x) := by
  obtain ⟨g0, g1, g2, g3, g4, g5, g6⟩ := hv
  refine ⟨?_, fun p hp => zu_ne (by omega)⟩
  have hs : ∀ (k : Nat) (s : Sh), (lyB v w x).1[k]? = some s → v.1[k]? = some s := by
    intro k s hk
    unfold lyB at hk
    split at hk
    · exact hk
    · split at hk <;> exact hk
  have hl : (lyB v w x).1.length = v.1.length := by
    unfold lyB
    split
    · rfl
    · split <;> rfl
  refine ⟨?_, fun k s hk => ?_, ?_⟩
  · rw [hl, zu_nk (Or.inr (by omega))]; exact g0
  · rw [zu_nk (Or.inl (by omega)), zu_nk (Or.inl (by omega)), zu_nk (Or.inl (by omega)), zu_nk (Or.inl (by omega)), zu_nk (Or.inl (by omega))]
    exact g1 k s (hs k s hk)
  · rcases (show w = 0 ∨ w = 1 ∨ w = 2 from by omega) with rfl | rfl | rfl
    · simpa [zu, lyB, lD, lST, lCL, lfx] using ⟨g3, g4, g5, g6⟩
    · simpa [zu, lyB, lD, lST, lCL, lfx] using ⟨g2, g4, g5, g6⟩
    · simpa [zu, lyB, lD, lST, lCL, lfx] using ⟨g2, g3, g5, g6⟩
theorem setF_ok {I : zMI} {b : Nat} {v : Ly} (hv : zCLy I b v) (f : Nat → Nat) : zWr I (zu (zu I b 9 (nI (fm f))) b 10 (nI (fo f))) b (lyF v f) := by
  obtain ⟨g0, g1, g2, g3, g4, g5, g6⟩ := hv
  refine ⟨?_, fun p hp => by rw [zu_ne (by omega), zu_ne (by omega)]⟩
  refine ⟨?_, fun k s hk => ?_, ?_⟩
  · simpa [zu, lyF] using g0
  · rw [zu_nk (Or.inl (by omega)), zu_nk (Or.inl (by omega)), zu_nk (Or.inl (by omega)), zu_nk (Or.inl (by omega)), zu_nk (Or.inl (by omega)), zu_nk (Or.inl (by omega)), zu_nk (Or.inl (by omega)), zu_nk (Or.inl (by omega)), zu_nk (Or.inl (by omega)), zu_nk (Or.inl (by omega))]
    exact g1 k s hk
  · simpa [zu, lyF, lD, lST, lCL, lfx] using ⟨g2, g3, g4⟩
def fxs (f : Nat → Nat) (p k : Nat) : Nat → Nat := fun q => if q = p then k else f q
theorem two_bit (p i : Nat) : (2 ^ p).testBit i = decide (p = i) := Nat.testBit_two_pow
theorem fm_or {f : Nat → Nat} {p k : Nat} (hp : p < 14) (hk : k ≠ 0) : fm f ||| 2 ^ p = fm (fxs f p k) := by
  apply Nat.eq_of_testBit_eq
  intro i
  rw [Nat.testBit_or, fm_bit, fm_bit, two_bit]
  by_cases e : i = p
  · subst e; simp [fxs, hk, hp]
  · have : ¬ p = i := fun q => e q.symm
    simp [fxs, e, this]
theorem fm_andn {f : Nat → Nat} {p : Nat} (hp : p < 14) : andn (fm f) (2 ^ p) = fm (fxs f p 0) := by
  apply Nat.eq_of_testBit_eq
  intro i
  rw [andn_bit, fm_bit, fm_bit, two_bit]
  by_cases e : i = p
  · subst e; simp [fxs]
  · have : ¬ p = i := fun q => e q.symm
    simp [fxs, e, this]
theorem fo_or {f : Nat → Nat} {p : Nat} (hp : p < 14) : fo f ||| 2 ^ p = fo (fxs f p 2) := by
  apply Nat.eq_of_testBit_eq
  intro i
  rw [Nat.testBit_or, fo_bit, fo_bit, two_bit]
  by_cases e : i = p
  · subst e; simp [fxs, hp]
  · have : ¬ p = i := fun q => e q.symm
    simp [fxs, e, this]
theorem fo_andn {f : Nat → Nat} {p k : Nat} (hp : p < 14) (hk : k ≠ 2) : andn (fo f) (2 ^ p) = fo (fxs f p k) := by
  apply Nat.eq_of_testBit_eq
  intro i
  rw [andn_bit, fo_bit, fo_bit, two_bit]
  by_cases e : i = p
  · subst e; simp [fxs, hk]
  · have : ¬ p = i := fun q => e q.symm
    simp [fxs, e, this]
/-- ten elements of one row into another -/
def zcp (I : zMI) (a b : Nat) : zMI := fun q => if q = b then va_cpy (I a) (I b) 0 0 10 else I q
theorem zcp_at {I : zMI} {a b k : Nat} (hk : k < 10) : zcp I a b b k = I a k := by
  simp [zcp, va_cpy, hk]
theorem zcp_ne {I : zMI} {a b q : Nat} (h : q ≠ b) : zcp I a b q = I q := by simp [zcp, h]
theorem become_ok {I : zMI} {b o : Nat} {v w : Ly} (hw : zCLy I o w) (hl : w.1.length ≤ 10) (hd : o + 5 < b ∨ b + 5 < o) {J : zMI}
    (hJ : J = zcp (zcp (zcp (zcp (zcp I (o + 1) (b + 1)) (o + 2) (b + 2)) (o + 3) (b + 3)) (o + 4) (b + 4)) (o + 5) (b + 5)) :
    zWr I (zu (zu (zu (zu (zu (zu J b 5 (I o 5)) b 6 (I o 6)) b 7 (I o 7)) b 8 (I o 8)) b 9 (I o 9)) b 10 (I o 10)) b w := by
  have hfr : ∀ p, (p < b ∨ b + 5 < p) → J p = I p := by
    intro p hp
    rw [hJ, zcp_ne (by omega), zcp_ne (by omega), zcp_ne (by omega), zcp_ne (by omega), zcp_ne (by omega)]
  obtain ⟨g0, g1, g2, g3, g4, g5, g6⟩ := hw
  refine ⟨⟨?_, ?_, ?_, ?_, ?_, ?_, ?_⟩, ?_⟩
  · simpa [zu] using g0
  · intro k s hk
    have hk10 : k < 10 := by have := getS_lt hk; omega
    have h := g1 k s hk
    have n1 : ∀ a : Nat, 1 ≤ a → b + a ≠ b := by intro a _; omega
    have c1 : J (b + 1) k = I (o + 1) k := by
      rw [hJ, zcp_ne (by omega), zcp_ne (by omega), zcp_ne (by omega), zcp_ne (by omega), zcp_at hk10]
    have c2 : J (b + 2) k = I (o + 2) k := by
      rw [hJ, zcp_ne (by omega), zcp_ne (by omega), zcp_ne (by omega), zcp_at hk10, zcp_ne (by omega)]
    have c3 : J (b + 3) k = I (o + 3) k := by
      rw [hJ, zcp_ne (by omega), zcp_ne (by omega), zcp_at hk10, zcp_ne (by omega), zcp_ne (by omega)]
    have c4 : J (b + 4) k = I (o + 4) k := by
      rw [hJ, zcp_ne (by omega), zcp_at hk10, zcp_ne (by omega), zcp_ne (by omega), zcp_ne (by omega)]
    have c5 : J (b + 5) k = I (o + 5) k := by
      rw [hJ, zcp_at hk10, zcp_ne (by omega), zcp_ne (by omega), zcp_ne (by omega), zcp_ne (by omega)]
    simpa [zu, c1, c2, c3, c4, c5] using h
  · simpa [zu] using g2
  · simpa [zu] using g3
  · simpa [zu] using g4
  · simpa [zu] using g5
  · simpa [zu] using g6
  · intro p hp
    rw [zu_ne (by omega), zu_ne (by omega), zu_ne (by omega), zu_ne (by omega), zu_ne (by omega), zu_ne (by omega)]
    exact hfr p hp
