/-! ===== the whole state, and what calls do to it ===== -/
abbrev St : Type := Ly × List Ly × Option Ly × Option Ly
def lyZ (v : Ly) : Ly := lyF v (fun _ => 0)
def whl (v : Ly) : Nat := areaM (pcs v.1) (2 ^ (pcs v.1).length - 1)
def srU (v : Ly) (u : Nat) : Bs := srch (pcs v.1) (lD v) (lST v) (lCL v) (lfx v) (whl v) (pcs v.1).length 0 0 0 0 (1000000000, 0, u, 0)
def bst (v : Ly) : Bs := srU v 0
theorem srU_inv {v : Ly} (ho : lyOk v) (u : Nat) : bIv (cost (pcs v.1) (lD v) (lST v) (lCL v)) (fun m => unev (whl v) (areaM (pcs v.1) m)) (okB (pcs v.1).length (lfx v)) (srU v u) := by
  have h := srch_inv (ps := pcs v.1) (D := lD v) (st := lST v) (cl := lCL v) (fx := lfx v) (pcs_ok ho) ho.2.2.2.2.2.2.1 ho.2.2.2.2.2.2.2.1 (pcs v.1).length 0 0 0 0 (1000000000, 0, u, 0) (fun _ => false) (by omega) (by decide) (fun i hi => by omega) rfl rfl (bIv_0 _ _ u) (fun x h => by cases h) (fun x y h => by cases h)
  refine bIv_congr h (fun x => ?_)
  simp [sub, Nat.mod_one]
theorem ok_ex {v : Ly} (ho : lyOk v) : ∃ m, okB (pcs v.1).length (lfx v) m = true := by
  refine ⟨bm (pcs v.1).length (fun p => decide (lfx v p = 2)), ?_⟩
  simp only [okB, decide_eq_true_eq]
  refine ⟨bm_lt _ _, fun p hp => ?_⟩
  rw [bm_bit]
  have := ho.2.2.2.2.2.2.2.2.1 p
  rcases (show lfx v p = 0 ∨ lfx v p = 1 ∨ lfx v p = 2 from by omega) with e | e | e <;> simp [e, hp]
theorem srU_bst {v : Ly} (ho : lyOk v) (u : Nat) : (srU v u).1 = (bst v).1 ∧ (srU v u).2.1 = (bst v).2.1 ∧ (srU v u).2.2.2 = (bst v).2.2.2 := bIv_uniq (ok_ex ho) (srU_inv ho u) (srU_inv ho 0)
theorem bst_m {v : Ly} (ho : lyOk v) : okB (pcs v.1).length (lfx v) (bst v).2.2.2 = true ∧ (bst v).2.2.2 < 16384 := by
  have h := srU_inv ho 0
  have hx := ok_ex ho
  obtain ⟨h1, h2, h3, h4⟩ := h
  rcases h4 with ⟨h4, -⟩ | ⟨h4, h5⟩
  · obtain ⟨m, hm⟩ := hx
    rw [h4 m] at hm; cases hm
  · exact ⟨h4, (h1 _ h4).1⟩
theorem srU_u {v : Ly} (ho : lyOk v) {u : Nat} (hu : u ≤ 8000) : (srU v u).2.2.1 ≤ 8000 := (srch_b (D := lD v) (fx := lfx v) ho.2.2.2.2.2.2.2.1 ho.2.2.2.2.2.2.1 (Nat.le_trans (areaM_le (pcs_ok ho) _) (by decide)) (pcs_ok ho) (pcs v.1).length 0 0 0 0 (1000000000, 0, u, 0) (by omega) (by omega) (by omega) (Nat.le_refl _) hu).2.1
/-! ===== layouts stay sound ===== -/
theorem lyOk.free {v : Ly} (h : lyOk v) : lyOk (lyZ v) := by
  obtain ⟨h1, h2, h3, h4, h5, h6, h7, h8, h9, h10⟩ := h
  exact ⟨h1, h2, h3, h4, h5, h6, h7, h8, fun p => Nat.zero_le 2, fun p _ => rfl⟩
theorem lyOk.sh2 {v : Ly} (h : lyOk v) {l : List Sh} (h1 : l.length ≤ 10) (h2 : ∀ s ∈ l, shOk s) (h3 : np l ≤ 14) (h4 : ∀ (i j : Nat) (s t : Sh), l[i]? = some s → l[j]? = some t → i ≠ j → ¬ ovl s t) : lyOk (lyZ (lyS v l)) := by
  obtain ⟨_, _, _, _, g5, g6, g7, g8, g9, g10⟩ := h
  exact ⟨h1, h2, h3, h4, g5, g6, g7, g8, fun p => Nat.zero_le 2, fun p _ => rfl⟩
theorem ovl_symm {s t : Sh} (h : ovl s t) : ovl t s := ⟨h.2.1, h.1, h.2.2.2, h.2.2.1⟩
def nSh (a b c d : Int) : Sh := (a.toNat, b.toNat, c.toNat, d.toNat, [])
theorem lyOk.new {v : Ly} (h : lyOk v) {a b c d : Int} (hF : onF a b c d ∧ a ≤ c ∧ b ≤ d) (hf : isFr v.1 a b c d (-1)) (hn : ¬ full v.1) : lyOk (lyZ (lyS v (v.1 ++ [nSh a b c d]))) := by
  unfold onF at hF
  unfold full at hn
  refine h.sh2 ?_ ?_ ?_ ?_
  · rw [List.length_append, List.length_singleton]; omega
  · intro s hs
    rcases List.mem_append.mp hs with q | q
    · exact h.2.1 s q
    · rw [List.mem_singleton] at q
      subst q
      refine ⟨?_, ?_, ?_, ?_, Or.inl rfl⟩ <;> simp only [nSh, sx, sx2, sy, sy2] <;> omega
  · rw [np_append]
    have : np [nSh a b c d] = 1 := rfl
    omega
  · have key : ∀ (i : Nat) (s : Sh), v.1[i]? = some s → ¬ ovl s (nSh a b c d) := by
      intro i s hs q
      have := hf i s hs (by omega)
      unfold ovl at q
      simp only [nSh, sx, sx2, sy, sy2] at q this
      omega
    intro i j s t hi hj hij
    by_cases hil : i < v.1.length
    · rw [List.getElem?_append_left hil] at hi
      by_cases hjl : j < v.1.length
      · rw [List.getElem?_append_left hjl] at hj
        exact h.2.2.2.1 i j s t hi hj hij
      · rw [List.getElem?_append_right (by omega)] at hj
        have : j - v.1.length < 1 := (List.getElem?_eq_some_iff.mp hj).1
        rw [show j - v.1.length = 0 by omega] at hj
        cases hj
        exact key i s hi
    · rw [List.getElem?_append_right (by omega)] at hi
      have hi1 : i - v.1.length < 1 := (List.getElem?_eq_some_iff.mp hi).1
      rw [show i - v.1.length = 0 by omega] at hi
      cases hi
      by_cases hjl : j < v.1.length
      · rw [List.getElem?_append_left hjl] at hj
        exact fun q => key j t hj (ovl_symm q)
      · rw [List.getElem?_append_right (by omega)] at hj
        have hj1 : j - v.1.length < 1 := (List.getElem?_eq_some_iff.mp hj).1
        omega
theorem np_erase {l : List Sh} {j : Nat} : np (l.eraseIdx j) ≤ np l := by
  induction l generalizing j with
  | nil => simp
  | cons s t ih =>
    cases j with
    | zero => rw [List.eraseIdx_cons_zero, np_cons]; omega
    | succ j => rw [List.eraseIdx_cons_succ, np_cons, np_cons]; have := ih (j := j); omega
theorem lyOk.drop {v : Ly} (h : lyOk v) {j : Nat} (hj : j < v.1.length) : lyOk (lyZ (lyS v (v.1.eraseIdx j))) := by
  have hl := h.1
  refine h.sh2 ?_ ?_ ?_ ?_
  · rw [List.length_eraseIdx_of_lt hj]; omega
  · intro s hs; exact h.2.1 s (List.mem_of_mem_eraseIdx hs)
  · have := np_erase (l := v.1) (j := j); have := h.2.2.1; omega
  · intro i k s t hi hk hik
    rw [List.getElem?_eraseIdx] at hi hk
    by_cases q1 : i < j
    · rw [if_pos q1] at hi
      by_cases q2 : k < j
      · rw [if_pos q2] at hk; exact h.2.2.2.1 i k s t hi hk hik
      · rw [if_neg q2] at hk; exact h.2.2.2.1 i (k + 1) s t hi hk (by omega)
    · rw [if_neg q1] at hi
      by_cases q2 : k < j
      · rw [if_pos q2] at hk; exact h.2.2.2.1 (i + 1) k s t hi hk (by omega)
      · rw [if_neg q2] at hk; exact h.2.2.2.1 (i + 1) (k + 1) s t hi hk (by omega)
theorem np_set {l : List Sh} {j : Nat} {s t : Sh} (hs : l[j]? = some s) : np (l.set j t) + (sc s).length = np l + (sc t).length := by
  induction l generalizing j with
  | nil => simp at hs
  | cons a r ih =>
    cases j with
    | zero => 
      rw [List.getElem?_cons_zero] at hs
      cases hs
      rw [List.set_cons_zero, np_cons, np_cons]; omega
    | succ j =>
      rw [List.getElem?_cons_succ] at hs
      rw [List.set_cons_succ, np_cons, np_cons]
      have := ih hs
      omega
theorem lyOk.set {v : Ly} (h : lyOk v) {j : Nat} {s t : Sh} (hs : v.1[j]? = some s) (ht : shOk t) (hn : np v.1 + (sc t).length ≤ 14 + (sc s).length) (ho : ∀ (i : Nat) (r : Sh), v.1[i]? = some r → i ≠ j → ¬ ovl r t) : lyOk (lyZ (lyS v (v.1.set j t))) := by
  have hj := getS_lt hs
  refine h.sh2 ?_ ?_ ?_ ?_
  · rw [List.length_set]; exact h.1
  · intro r hr
    rcases List.mem_or_eq_of_mem_set hr with q | q
    · exact h.2.1 r q
    · rw [q]; exact ht
  · have := np_set (t := t) hs; omega
  · intro i k a c hi hk hik
    by_cases q1 : i = j
    · subst q1
      rw [List.getElem?_set_self hj] at hi
      cases hi
      rw [List.getElem?_set_ne hik] at hk
      exact fun q => ho k c hk (Ne.symm hik) (ovl_symm q)
    · rw [List.getElem?_set_ne (Ne.symm q1)] at hi
      by_cases q2 : k = j
      · subst q2
        rw [List.getElem?_set_self hj] at hk
        cases hk
        exact ho i a hi q1
      · rw [List.getElem?_set_ne (Ne.symm q2)] at hk
        exact h.2.2.2.1 i k a c hi hk hik
theorem cOk_map {x x2 : Nat} {c : List Nat} (h : cOk x x2 c) (f : Nat → Nat) (y y2 : Nat) (hf : ∀ a b, x ≤ a → a < b → b < x2 → f a < f b) (h1 : ∀ a, x ≤ a → a < x2 → y ≤ f a ∧ f a < y2) : cOk y y2 (c.map f) := by
  rcases h with rfl | ⟨a, rfl, g1, g2⟩ | ⟨a, b, rfl, g1, g2, g3⟩
  · exact Or.inl rfl
  · exact Or.inr (Or.inl ⟨f a, rfl, (h1 a g1 g2).1, (h1 a g1 g2).2⟩)
  · exact Or.inr (Or.inr ⟨f a, f b, rfl, (h1 a g1 (by omega)).1, hf a b g1 g2 g3, (h1 b (by omega) g3).2⟩)
theorem mv_ok {s : Sh} (h : shOk s) {dx dy : Int} (hF : onF (sx s + dx) (sy s + dy) (sx2 s + dx) (sy2 s + dy)) : shOk (mv s dx dy) := by
  obtain ⟨h1, h2, h3, h4, h5⟩ := h
  unfold onF at hF
  refine ⟨?_, ?_, ?_, ?_, ?_⟩
  · simp only [mv, sx, sx2] at *; omega
  · simp only [mv, sx, sx2] at *; omega
  · simp only [mv, sy, sy2] at *; omega
  · simp only [mv, sy, sy2] at *; omega
  · refine cOk_map h5 _ _ _ (fun a b ha hab hb => ?_) (fun a ha hb => ?_)
    · simp only [sx, sx2] at *; omega
    · simp only [mv, sx, sx2] at *; omega
theorem lyOk.move {v : Ly} (h : lyOk v) {j : Nat} {s : Sh} (hs : v.1[j]? = some s) {dx dy : Int} (hF : onF (sx s + dx) (sy s + dy) (sx2 s + dx) (sy2 s + dy)) (hf : isFr v.1 (sx s + dx) (sy s + dy) (sx2 s + dx) (sy2 s + dy) j) : lyOk (lyZ (lyS v (v.1.set j (mv s dx dy)))) := by
  refine h.set hs (mv_ok (h.sh hs) hF) ?_ (fun i r hi hij q => ?_)
  · have : (sc (mv s dx dy)).length = (sc s).length := by simp [mv, sc]
    have := h.2.2.1
    omega
  · have := hf i r hi (by omega)
    unfold onF at hF
    unfold ovl at q
    simp only [mv, sx, sx2, sy, sy2] at *
    omega
def insC (x : Nat) : List Nat → List Nat
  | [] => [x]
  | a :: t => if x < a then x :: a :: t else a :: insC x t
def remC (x : Nat) (c : List Nat) : List Nat := c.filter (fun a => a ≠ x)
def shC (s : Sh) (c : List Nat) : Sh := (sx s, sy s, sx2 s, sy2 s, c)
theorem insC_mem (x : Nat) (c : List Nat) (i : Nat) : i ∈ insC x c ↔ i = x ∨ i ∈ c := by
  induction c with
  | nil => simp [insC]
  | cons a t ih =>
    rw [insC]
    split
    · simp
    · simp only [List.mem_cons, ih]
      constructor
      · rintro (h | h | h)
        · exact Or.inr (Or.inl h)
        · exact Or.inl h
        · exact Or.inr (Or.inr h)
      · rintro (h | h | h)
        · exact Or.inr (Or.inl h)
        · exact Or.inl h
        · exact Or.inr (Or.inr h)
theorem cm_ins {x : Nat} (hx : x < 15) (c : List Nat) : cm c ||| 2 ^ x = cm (insC x c) := by
  apply Nat.eq_of_testBit_eq
  intro i
  rw [Nat.testBit_or, cm_bit, cm_bit, two_bit]
  by_cases e : i = x
  · subst e; simp [hx, insC_mem]
  · have : ¬ x = i := fun q => e q.symm
    simp [this, insC_mem, e]
theorem cm_rem {x : Nat} (c : List Nat) : andn (cm c) (2 ^ x) = cm (remC x c) := by
  apply Nat.eq_of_testBit_eq
  intro i
  rw [andn_bit, cm_bit, cm_bit, two_bit]
  by_cases e : i = x
  · subst e; simp [remC]
  · have : ¬ x = i := fun q => e q.symm
    simp [this, remC, e]
theorem cOk_ins {x x2 a : Nat} {c : List Nat} (h : cOk x x2 c) (h1 : x ≤ a) (h2 : a < x2) (h3 : a ∉ c) (h4 : c.length < 2) : cOk x x2 (insC a c) ∧ (insC a c).length = c.length + 1 := by
  rcases h with rfl | ⟨b, rfl, g1, g2⟩ | ⟨b, d, rfl, g1, g2, g3⟩
  · exact ⟨Or.inr (Or.inl ⟨a, rfl, h1, h2⟩), rfl⟩
  · have hne : a ≠ b := by simpa using h3
    rw [insC]
    split
    · exact ⟨Or.inr (Or.inr ⟨a, b, rfl, h1, by omega, g2⟩), rfl⟩
    · exact ⟨Or.inr (Or.inr ⟨b, a, rfl, g1, by omega, h2⟩), rfl⟩
  · simp at h4
theorem cOk_rem {x x2 a : Nat} {c : List Nat} (h : cOk x x2 c) : cOk x x2 (remC a c) := by
  unfold remC
  rcases h with rfl | ⟨b, rfl, g1, g2⟩ | ⟨b, d, rfl, g1, g2, g3⟩
  · exact Or.inl rfl
  · by_cases e : b = a
    · subst e; exact Or.inl (by simp)
    · exact Or.inr (Or.inl ⟨b, by simp [e], g1, g2⟩)
  · by_cases e : b = a
    · subst e
      have : d ≠ b := by omega
      exact Or.inr (Or.inl ⟨d, by simp [this], by omega, g3⟩)
    · by_cases e2 : d = a
      · subst e2
        exact Or.inr (Or.inl ⟨b, by simp [e], g1, by omega⟩)
      · exact Or.inr (Or.inr ⟨b, d, by simp [e, e2], g1, g2, g3⟩)
theorem lyOk.cutsTo {v : Ly} (h : lyOk v) {j : Nat} {s : Sh} (hs : v.1[j]? = some s) {c : List Nat} (hc : cOk (sx s) (sx2 s) c) (hn : np v.1 + c.length ≤ 14 + (sc s).length) : lyOk (lyZ (lyS v (v.1.set j (shC s c)))) := by
  obtain ⟨h1, h2, h3, h4, h5⟩ := h.sh hs
  refine h.set hs ⟨h1, h2, h3, h4, hc⟩ hn (fun i r hi hij q => ?_)
  exact h.2.2.2.1 i j r s hi hs hij q
theorem cuts_ok {I : zMI} {b j : Nat} {v : Ly} {sh : Sh} (hv : zCLy I b v) (hsh : v.1[j]? = some sh) (c : List Nat) : zWr I (zu I (b + 5) j (nI (cm c))) b (lyS v (v.1.set j (shC sh c))) := by
  have hj := getS_lt hsh
  refine zWr.of5 hv _ ?_ ?_ ?_ ?_
  · rw [zu_nk (Or.inl (by omega)), List.length_set]; exact hv.1
  · intro k hk
    rw [zu_nk (Or.inl (by omega))]
  · intro k s hks
    by_cases e : k = j
    · subst e
      rw [List.getElem?_set_self hj] at hks
      cases hks
      have h5 := hv.2.1 k sh hsh
      simpa [zu, shC, sx, sy, sx2, sy2, sc] using ⟨h5.1, h5.2.1, h5.2.2.1, h5.2.2.2.1⟩
    · rw [List.getElem?_set_ne (Ne.symm e)] at hks
      simpa [zu, e] using hv.2.1 k s hks
  · intro p hp
    rw [zu_ne (by omega)]
theorem mirr_ok {x x2 : Nat} {c : List Nat} (h : cOk x x2 c) (hx : x2 ≤ 15) : cOk (15 - x2) (15 - x) (mirr c) ∧ (mirr c).length = c.length := by
  refine ⟨?_, by simp [mirr]⟩
  unfold mirr
  rcases h with rfl | ⟨a, rfl, h1, h2⟩ | ⟨a, b, rfl, h1, h2, h3⟩
  · exact Or.inl rfl
  · exact Or.inr (Or.inl ⟨14 - a, rfl, by omega, by omega⟩)
  · exact Or.inr (Or.inr ⟨14 - b, 14 - a, rfl, by omega, by omega, by omega⟩)
theorem np_mir (l : List Sh) : np (l.map mir) = np l := by
  induction l with
  | nil => rfl
  | cons s t ih =>
    rw [List.map_cons, np_cons, np_cons, ih]
    have : (sc (mir s)).length = (sc s).length := by simp [mir, sc, mirr]
    rw [this]
theorem lyOk.mirror {v : Ly} (h : lyOk v) : lyOk (lyZ (lyS v (v.1.map mir))) := by
  refine h.sh2 ?_ ?_ ?_ ?_
  · rw [List.length_map]; exact h.1
  · intro s hs
    obtain ⟨t, ht, rfl⟩ := List.mem_map.mp hs
    obtain ⟨h1, h2, h3, h4, h5⟩ := h.2.1 t ht
    refine ⟨?_, ?_, h3, h4, (mirr_ok h5 h2).1⟩ <;> simp only [mir, sx, sx2] at * <;> omega
  · rw [np_mir]; exact h.2.2.1
  · intro i j s t hi hj hij q
    rw [List.getElem?_map] at hi hj
    cases hi2 : v.1[i]? with
    | none => rw [hi2] at hi; cases hi
    | some a =>
      cases hj2 : v.1[j]? with
      | none => rw [hj2] at hj; cases hj
      | some c =>
        rw [hi2] at hi
        rw [hj2] at hj
        cases hi
        cases hj
        obtain ⟨a1, a2, -⟩ := h.sh hi2
        obtain ⟨c1, c2, -⟩ := h.sh hj2
        refine h.2.2.2.1 i j a c hi2 hj2 hij ?_
        unfold ovl at q ⊢
        simp only [mir, sx, sx2, sy, sy2] at *
        omega
theorem lyOk.bound {v : Ly} (h : lyOk v) {w : Int} {x : Nat} (hb : inB w x) : lyOk (lyB v w x) := by
  obtain ⟨h1, h2, h3, h4, h5, h6, h7, h8, h9, h10⟩ := h
  unfold inB at hb
  unfold lyB
  split
  · exact ⟨h1, h2, h3, h4, by simp only [lD]; omega, by simp only [lD]; omega, h7, h8, h9, h10⟩
  · split
    · exact ⟨h1, h2, h3, h4, h5, h6, by simp only [lST]; omega, h8, h9, h10⟩
    · exact ⟨h1, h2, h3, h4, h5, h6, h7, by simp only [lCL]; omega, h9, h10⟩
theorem lyOk.fix {v : Ly} (h : lyOk v) {p k : Nat} (hp : p < np v.1) (hk : k ≤ 2) : lyOk (lyF v (fxs (lfx v) p k)) := by
  obtain ⟨h1, h2, h3, h4, h5, h6, h7, h8, h9, h10⟩ := h
  refine ⟨h1, h2, h3, h4, h5, h6, h7, h8, fun q => ?_, fun q hq => ?_⟩
  · show (if q = p then k else lfx v q) ≤ 2
    split
    · exact hk
    · exact h9 q
  · show (if q = p then k else lfx v q) = 0
    rw [if_neg (by simp only [lyF] at hq; omega)]
    exact h10 q hq
/-! ===== the class's picture of the whole ===== -/
def zIm (I : zMI) (k b : Nat) (o : Option Ly) : Prop := (o = none ∧ I 0 k = nI 0) ∨ ∃ w, o = some w ∧ I 0 k = nI 1 ∧ zCLy I b w ∧ lyOk w
def zCR (I : zMI) (h : List Ly) (i0 i1 : Option Ly) : Prop := (∃ u, u ≤ 8000 ∧ I 17 3 = nI u) ∧ (∃ u, u ≤ 8000 ∧ I 33 3 = nI u) ∧ (∃ nx, zHi I 34 36 h nx) ∧ zIm I 11 84 i0 ∧ zIm I 12 90 i1
def zKn (I : zMI) (v : Ly) : Prop := I 0 4 = nI 0 ∨ (I 0 4 = nI 1 ∧ I 17 5 = nI (bst v).1 ∧ I 17 6 = nI (bst v).2.1 ∧ I 17 7 = nI (bst v).2.2.2)
def zCI (I : zMI) (s : St) : Prop := zCLy I 1 s.1 ∧ lyOk s.1 ∧ zPC I 7 (pcs s.1.1) (lD s.1) (lST s.1) (lCL s.1) ∧ zKn I s.1 ∧ zCR I s.2.1 s.2.2.1 s.2.2.2
theorem zIm.frame {I J : zMI} {k b : Nat} {o : Option Ly} (h : zIm I k b o) (h0 : J 0 k = I 0 k) (hf : ∀ p, b ≤ p → p ≤ b + 5 → J p = I p) : zIm J k b o := by
  rcases h with ⟨h1, h2⟩ | ⟨w, h1, h2, h3, h4⟩
  · exact Or.inl ⟨h1, h0.trans h2⟩
  · exact Or.inr ⟨w, h1, h0.trans h2, h3.frame hf, h4⟩
theorem zCR.frame {I J : zMI} {h : List Ly} {i0 i1 : Option Ly} (hr : zCR I h i0 i1) (h1 : J 0 11 = I 0 11) (h2 : J 0 12 = I 0 12) (hf : ∀ p, (p = 17 ∨ p = 33 ∨ p = 34 ∨ (36 ≤ p ∧ p ≤ 95)) → J p = I p) : zCR J h i0 i1 := by
  obtain ⟨g1, g2, ⟨nx, g3⟩, g4, g5⟩ := hr
  refine ⟨by rw [hf 17 (by omega)]; exact g1, by rw [hf 33 (by omega)]; exact g2, ⟨nx, g3.frame (hf 34 (by omega)) (fun p hp => hf p (by omega))⟩, g4.frame h1 (fun p p1 p2 => hf p (by omega)), g5.frame h2 (fun p p1 p2 => hf p (by omega))⟩
