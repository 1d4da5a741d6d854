/-! ===== the best of all masks ===== -/
theorem sm_add (n : Nat) (f g : Nat → Nat) : sm n (fun i => f i + g i) = sm n f + sm n g := by
  induction n with
  | zero => rfl
  | succ n ih => rw [sm, sm, sm, ih]; omega
theorem sm_mul (n k : Nat) (f : Nat → Nat) : sm n (fun i => k * f i) = k * sm n f := by
  induction n with
  | zero => simp [sm]
  | succ n ih => rw [sm, sm, ih, Nat.mul_add]
theorem sm_mono {n k : Nat} (h : n ≤ k) (f : Nat → Nat) : sm n f ≤ sm k f := by
  induction k with
  | zero =>
    have : n = 0 := by omega
    subst this; exact Nat.le_refl _
  | succ k ih =>
    by_cases e : n = k + 1
    · subst e; exact Nat.le_refl _
    · have := ih (by omega)
      rw [sm]; omega
theorem cost_sm (ps : List Pc) (D st cl m : Nat) : cost ps D st cl m = sm ps.length (cst1 ps D st cl m) := by
  unfold cost clashes stitches cst1
  rw [sm_add, sm_mul, sm_mul]
theorem cnt_or {n : Nat} {f g : Nat → Bool} (h : ∀ i, f i = true → g i = false) : cnt n (fun i => f i || g i) = cnt n f + cnt n g := by
  induction n with
  | zero => rfl
  | succ n ih =>
    rw [cnt, cnt, cnt, ih]
    have := h n
    cases hf : f n with
    | false => simp; omega
    | true => rw [this hf]; simp; omega
theorem cnt_single {n m : Nat} (h : m < n) : cnt n (fun i => decide (i = m)) = 1 := by
  induction n with
  | zero => omega
  | succ n ih =>
    rw [cnt]
    by_cases e : m = n
    · subst e
      have : cnt m (fun i => decide (i = m)) = cnt m (fun _ => false) := cnt_congr (fun i hi => by simp; omega)
      rw [this]
      have h0 : ∀ k, cnt k (fun _ => false) = 0 := by
        intro k
        induction k with
        | zero => rfl
        | succ k ih => rw [cnt, ih]; rfl
      rw [h0]
      simp
    · rw [ih (by omega)]
      have : ¬ n = m := fun q => e q.symm
      simp [this]
theorem cnt_none {n : Nat} {f : Nat → Bool} (h : ∀ i, i < n → f i = false) : cnt n f = 0 := by
  induction n with
  | zero => rfl
  | succ n ih => rw [cnt, ih (fun i hi => h i (by omega)), h n (by omega)]; rfl
theorem cnt_pos {n m : Nat} {f : Nat → Bool} (h : m < n) (hf : f m = true) : 0 < cnt n f := by
  induction n with
  | zero => omega
  | succ n ih =>
    rw [cnt]
    by_cases e : m = n
    · subst e; rw [hf]; simp
    · have := ih (by omega); omega
/-- piece by piece 0 ahead of 1 -/
def lxl (a b : Nat) : Prop := ∃ k, a.testBit k = false ∧ b.testBit k = true ∧ ∀ j, j < k → a.testBit j = b.testBit j
theorem lxl_asymm {a b : Nat} (h1 : lxl a b) (h2 : lxl b a) : False := by
  obtain ⟨k, g1, g2, g3⟩ := h1
  obtain ⟨j, f1, f2, f3⟩ := h2
  rcases Nat.lt_trichotomy k j with h | h | h
  · have := f3 k h; rw [g1, g2] at this; cases this
  · subst h; rw [f1] at g2; cases g2
  · have := g3 j h; rw [f1, f2] at this; cases this
theorem lxl_trans {a b c : Nat} (h1 : lxl a b) (h2 : lxl b c) : lxl a c := by
  obtain ⟨k, g1, g2, g3⟩ := h1
  obtain ⟨j, f1, f2, f3⟩ := h2
  rcases Nat.lt_trichotomy k j with h | h | h
  · exact ⟨k, g1, by rw [← f3 k h]; exact g2, fun i hi => (g3 i hi).trans (f3 i (by omega))⟩
  · subst h; rw [f1] at g2; cases g2
  · exact ⟨j, by rw [g3 j h]; exact f1, f2, fun i hi => (g3 i (by omega)).trans (f3 i hi)⟩
def okB (n : Nat) (fx : Nat → Nat) (m : Nat) : Bool := decide (m < 2 ^ n ∧ ∀ p, p < n → fx p = 0 ∨ fx p = (m.testBit p).toNat + 1)
/-- where the search stands, with these masks looked at -/
def bIv (cs un : Nat → Nat) (B : Nat → Bool) (s : Bs) : Prop :=
  (∀ m, B m = true → m < 16384 ∧ cs m < 1000000000) ∧ (∀ m, B m = true → s.1 ≤ cs m) ∧ s.2.1 = cnt 16384 (fun m => B m && decide (cs m = s.1)) ∧
  (((∀ m, B m = false) ∧ s.1 = 1000000000) ∨ (B s.2.2.2 = true ∧ cs s.2.2.2 = s.1 ∧ s.2.2.1 = un s.2.2.2 ∧ ∀ m, B m = true → cs m = s.1 → un s.2.2.2 < un m ∨ (un s.2.2.2 = un m ∧ (m = s.2.2.2 ∨ lxl s.2.2.2 m))))
theorem bIv_uniq {cs un : Nat → Nat} {B : Nat → Bool} {s t : Bs} (hB : ∃ m, B m = true) (h1 : bIv cs un B s) (h2 : bIv cs un B t) : s.1 = t.1 ∧ s.2.1 = t.2.1 ∧ s.2.2.2 = t.2.2.2 := by
  obtain ⟨a1, a2, a3, a4⟩ := h1
  obtain ⟨b1, b2, b3, b4⟩ := h2
  obtain ⟨m0, hm0⟩ := hB
  rcases a4 with ⟨a4, -⟩ | ⟨a4, a5, a6, a7⟩
  · rw [a4 m0] at hm0; cases hm0
  rcases b4 with ⟨b4, -⟩ | ⟨b4, b5, b6, b7⟩
  · rw [b4 m0] at hm0; cases hm0
  have e1 : s.1 = t.1 := by
    have x := a2 _ b4
    have y := b2 _ a4
    omega
  refine ⟨e1, by rw [a3, b3, e1], ?_⟩
  have x := a7 _ b4 (by omega)
  have y := b7 _ a4 (by omega)
  rcases x with x | ⟨x1, x2⟩
  · rcases y with y | ⟨y1, y2⟩ <;> omega
  · rcases y with y | ⟨y1, y2⟩
    · omega
    · rcases x2 with x2 | x2
      · exact x2.symm
      · rcases y2 with y2 | y2
        · exact y2
        · exact (lxl_asymm x2 y2).elim
/-- masks that cost more are passed over -/
theorem bIv_skip {cs un : Nat → Nat} {B X : Nat → Bool} {s : Bs} (h : bIv cs un B s) (hX : ∀ m, X m = true → m < 16384 ∧ cs m < 1000000000 ∧ s.1 < cs m) : bIv cs un (fun m => B m || X m) s := by
  obtain ⟨a1, a2, a3, a4⟩ := h
  refine ⟨fun m hm => ?_, fun m hm => ?_, ?_, ?_⟩
  · rcases Bool.or_eq_true _ _ ▸ hm with h | h
    · exact a1 m h
    · exact ⟨(hX m h).1, (hX m h).2.1⟩
  · rcases Bool.or_eq_true _ _ ▸ hm with h | h
    · exact a2 m h
    · have := (hX m h).2.2; omega
  · rw [a3]
    apply cnt_congr
    intro i _
    cases hx : X i with
    | false => simp [hx]
    | true =>
      have := (hX i hx).2.2
      have e : ¬ cs i = s.1 := by omega
      simp [e]
  · rcases a4 with ⟨a4, a5⟩ | ⟨a4, a5, a6, a7⟩
    · by_cases q : ∃ m, X m = true
      · obtain ⟨m, hm⟩ := q
        have := hX m hm
        omega
      · refine Or.inl ⟨fun m => ?_, a5⟩
        have : X m = false := by
          cases hx : X m with
          | false => rfl
          | true => exact absurd ⟨m, hx⟩ q
        show (B m || X m) = false
        rw [a4 m, this]; rfl
    · refine Or.inr ⟨by show (B _ || X _) = true; rw [a4]; rfl, a5, a6, fun m hm hc => ?_⟩
      rcases Bool.or_eq_true _ _ ▸ hm with h | h
      · exact a7 m h hc
      · have := (hX m h).2.2; omega
/-- one mask more, that costs no more, behind all others -/
theorem bIv_wgh {cs un : Nat → Nat} {B : Nat → Bool} {s : Bs} {m whole a : Nat} (h : bIv cs un B s) (hm : m < 16384) (hc9 : cs m < 1000000000) (hB : B m = false) (hc : cs m ≤ s.1) (hu : un m = unev whole a) (hlx : ∀ x, B x = true → lxl x m) : bIv cs un (fun x => B x || decide (x = m)) (wgh whole s m (cs m) a) := by
  obtain ⟨a1, a2, a3, a4⟩ := h
  have hcn : ∀ c : Nat, cnt 16384 (fun x => (B x || decide (x = m)) && decide (cs x = c)) = cnt 16384 (fun x => B x && decide (cs x = c)) + (decide (cs m = c)).toNat := by
    intro c
    have e : cnt 16384 (fun x => (B x || decide (x = m)) && decide (cs x = c)) = cnt 16384 (fun x => (B x && decide (cs x = c)) || (decide (x = m) && decide (cs m = c))) := by
      apply cnt_congr
      intro i _
      by_cases q : i = m
      · subst q; rw [hB]; simp
      · simp [q]
    have e2 : cnt 16384 (fun x => decide (x = m) && decide (cs m = c)) = (decide (cs m = c)).toNat := by
      by_cases q : cs m = c
      · simp only [q, decide_true, Bool.and_true]
        exact cnt_single hm
      · simp only [q, decide_false, Bool.and_false]
        exact cnt_none (fun _ _ => rfl)
    rw [e, cnt_or]
    · rw [e2]
    · intro i hi
      by_cases q : i = m
      · subst q; rw [hB] at hi; simp at hi
      · simp [q]
  have ext : ∀ x, (B x || decide (x = m)) = true → B x = true ∨ x = m := by
    intro x hx
    rcases Bool.or_eq_true _ _ ▸ hx with h | h
    · exact Or.inl h
    · exact Or.inr (by simpa using h)
  have inm : (B m || decide (m = m)) = true := by simp
  have k1 : ∀ x, (B x || decide (x = m)) = true → x < 16384 ∧ cs x < 1000000000 := by
    intro x hx
    rcases ext x hx with h | rfl
    · exact a1 x h
    · exact ⟨hm, hc9⟩
  by_cases hlt : cs m < s.1
  · have e : wgh whole s m (cs m) a = (cs m, 0 + 1, unev whole a, m) := by simp [wgh, hlt]
    rw [e]
    refine ⟨k1, fun x hx => ?_, ?_, Or.inr ⟨inm, rfl, hu.symm, fun x hx hcx => ?_⟩⟩
    · rcases ext x hx with h | rfl
      · have := a2 x h; simp only; omega
      · exact Nat.le_refl _
    · simp only
      rw [hcn, cnt_none (fun i _ => ?_)]
      · simp
      · by_cases q : B i = true
        · have := a2 i q
          have : ¬ cs i = cs m := by omega
          simp [this]
        · simp [q]
    · rcases ext x hx with h | rfl
      · have := a2 x h; simp only at hcx; omega
      · exact Or.inr ⟨rfl, Or.inl rfl⟩
  · have hce : cs m = s.1 := by omega
    rcases a4 with ⟨a4, a5⟩ | ⟨a4, a5, a6, a7⟩
    · omega
    · by_cases hul : unev whole a < s.2.2.1
      · have e : wgh whole s m (cs m) a = (s.1, s.2.1 + 1, unev whole a, m) := by simp [wgh, hlt, hul]
        rw [e]
        refine ⟨k1, fun x hx => ?_, ?_, Or.inr ⟨inm, hce, hu.symm, fun x hx hcx => ?_⟩⟩
        · rcases ext x hx with h | rfl
          · exact a2 x h
          · simp only; omega
        · simp only
          rw [hcn, a3]
          simp [hce]
        · rcases ext x hx with h | rfl
          · have := a7 x h hcx
            left
            simp only
            omega
          · exact Or.inr ⟨rfl, Or.inl rfl⟩
      · have e : wgh whole s m (cs m) a = (s.1, s.2.1 + 1, s.2.2.1, s.2.2.2) := by simp [wgh, hlt, hul]
        rw [e]
        refine ⟨k1, fun x hx => ?_, ?_, Or.inr ⟨by simp [a4], a5, a6, fun x hx hcx => ?_⟩⟩
        · rcases ext x hx with h | rfl
          · exact a2 x h
          · simp only; omega
        · simp only
          rw [hcn, a3]
          simp [hce]
        · rcases ext x hx with h | rfl
          · exact a7 x h hcx
          · simp only
            rcases Nat.lt_or_ge (un s.2.2.2) (un x) with q | q
            · exact Or.inl q
            · exact Or.inr ⟨by omega, Or.inr (hlx _ a4)⟩
theorem bIv_0 (cs un : Nat → Nat) (u : Nat) : bIv cs un (fun _ => false) (1000000000, 0, u, 0) :=
  ⟨fun m h => (by cases h), fun m h => (by cases h), (cnt_none (fun _ _ => rfl)).symm, Or.inl ⟨fun _ => rfl, rfl⟩⟩
theorem bIv_congr {cs un : Nat → Nat} {B B2 : Nat → Bool} {s : Bs} (h : bIv cs un B s) (e : ∀ m, B m = B2 m) : bIv cs un B2 s := by
  have : B = B2 := funext e
  rw [← this]; exact h
/-- masks that go on from the first p pieces of m -/
def sub (n : Nat) (fx : Nat → Nat) (p m x : Nat) : Bool := decide (x % 2 ^ p = m) && okB n fx x
theorem mod_bit {x m p : Nat} (h : x % 2 ^ p = m) {i : Nat} (hi : i < p) : x.testBit i = m.testBit i := by
  rw [← h, Nat.testBit_mod_two_pow]; simp [hi]
theorem cE_congr {ps : List Pc} {D x y p : Nat} (h : ∀ i, i ≤ p → x.testBit i = y.testBit i) : cE ps D x p = cE ps D y p := by
  unfold cE
  apply cnt_congr
  intro i hi
  rw [h p (Nat.le_refl _), h i (by omega)]
theorem sE_congr {ps : List Pc} {x y p : Nat} (h : ∀ i, i ≤ p → x.testBit i = y.testBit i) : sE ps x p = sE ps y p := by
  unfold sE
  rw [h p (Nat.le_refl _), h (p - 1) (by omega)]
theorem cst1_congr {ps : List Pc} {D st cl x y p : Nat} (h : ∀ i, i ≤ p → x.testBit i = y.testBit i) : cst1 ps D st cl x p = cst1 ps D st cl y p := by
  unfold cst1
  rw [cE_congr h, sE_congr h]
theorem or0 (m p : Nat) : m ||| 0 * 2 ^ p = m := by simp
theorem or1 {m p : Nat} (h : m < 2 ^ p) : m ||| 1 * 2 ^ p = m + 2 ^ p := by
  rw [Nat.one_mul, Nat.or_comm, Nat.add_comm]
  have := Nat.two_pow_add_eq_or_of_lt h 1
  simpa using this.symm
theorem mod_succ {x m p : Nat} (hm : m < 2 ^ p) : (x % 2 ^ (p + 1) = m ↔ x % 2 ^ p = m ∧ x.testBit p = false) ∧ (x % 2 ^ (p + 1) = m + 2 ^ p ↔ x % 2 ^ p = m ∧ x.testBit p = true) := by
  have hb : (x.testBit p).toNat = x / 2 ^ p % 2 := bit_mod x p
  have hd : x % 2 ^ (p + 1) = x % 2 ^ p + 2 ^ p * (x / 2 ^ p % 2) := by
    rw [Nat.pow_succ, Nat.mod_mul]
  have hl : x % 2 ^ p < 2 ^ p := Nat.mod_lt _ (Nat.two_pow_pos p)
  rw [hd, ← hb]
  cases x.testBit p
  · refine ⟨⟨fun h => ⟨by simpa using h, rfl⟩, fun h => by simpa using h.1⟩, ⟨fun h => ?_, fun h => by cases h.2⟩⟩
    simp at h; omega
  · refine ⟨⟨fun h => ?_, fun h => by cases h.2⟩, ⟨fun h => ⟨?_, rfl⟩, fun h => ?_⟩⟩
    · simp at h; omega
    · simp at h; omega
    · simp; omega
theorem srch_inv {ps : List Pc} {D st cl : Nat} {fx : Nat → Nat} (ho : psOk ps) (hst : st ≤ 9) (hcl : cl ≤ 99) : ∀ (k p m c a : Nat) (s : Bs) (B : Nat → Bool), p + k = ps.length → m < 2 ^ p → (∀ i, i < p → fx i = 0 ∨ fx i = (m.testBit i).toNat + 1) → c = sm p (cst1 ps D st cl m) → a = sm p (fun q => if m.testBit q then qa (pg ps q) else 0) →
    bIv (cost ps D st cl) (fun m => unev (areaM ps (2 ^ ps.length - 1)) (areaM ps m)) B s → (∀ x, B x = true → sub ps.length fx p m x = false) → (∀ x y, B x = true → sub ps.length fx p m y = true → lxl x y) →
    bIv (cost ps D st cl) (fun m => unev (areaM ps (2 ^ ps.length - 1)) (areaM ps m)) (fun x => B x || sub ps.length fx p m x) (srch ps D st cl fx (areaM ps (2 ^ ps.length - 1)) k p m c a s) := by
  have hl := ho.1
  have hcost : ∀ x, cost ps D st cl x < 1000000000 := by
    intro x
    rw [cost_sm]
    have : sm ps.length (cst1 ps D st cl x) ≤ ps.length * 2000 := sm_le (fun i hi => cst1_le hcl hst (by omega))
    omega
  have hok : ∀ x, okB ps.length fx x = true → x < 16384 := by
    intro x hx
    simp [okB] at hx
    have : 2 ^ ps.length ≤ 2 ^ 14 := Nat.pow_le_pow_right (by decide) hl
    omega
  intro k
  induction k with
  | zero =>
    intro p m c a s B hp hm hf hc ha hI hd hx
    have hpn : p = ps.length := by omega
    subst hpn
    have hsub : ∀ x, sub ps.length fx ps.length m x = decide (x = m) := by
      intro x
      unfold sub okB
      by_cases e : x = m
      · subst e
        simp [Nat.mod_eq_of_lt hm, hm]
        exact hf
      · simp [e]
        intro h1 h2
        rw [Nat.mod_eq_of_lt h2] at h1
        exact absurd h1 e
    have hm14 : m < 16384 := Nat.lt_of_lt_of_le hm (Nat.pow_le_pow_right (by decide) hl)
    have hcm : c = cost ps D st cl m := by rw [cost_sm]; exact hc
    rw [srch]
    refine bIv_congr (B := fun x => B x || decide (x = m)) ?_ (fun x => by rw [hsub])
    split
    · rename_i hlt
      refine bIv_skip hI (fun x hx => ?_)
      have : x = m := by simpa using hx
      subst this
      exact ⟨hm14, hcost x, by omega⟩
    · rename_i hlt
      rw [hcm]
      refine bIv_wgh hI hm14 (hcost m) ?_ (by omega) (by rw [ha]; rfl) (fun x hx2 => hx x m hx2 (by rw [hsub]; simp))
      cases hb : B m with
      | false => rfl
      | true => have := hd m hb; rw [hsub] at this; simp at this
  | succ k ih =>
    intro p m c a s B hp hm hf hc ha hI hd hx
    have hms := fun x => mod_succ (x := x) hm
    have hsplit : ∀ x, sub ps.length fx p m x = (sub ps.length fx (p + 1) m x || sub ps.length fx (p + 1) (m + 2 ^ p) x) := by
      intro x
      unfold sub
      rw [← Bool.and_or_distrib_right]
      congr 1
      rw [Bool.eq_iff_iff]
      simp only [Bool.or_eq_true, decide_eq_true_eq, (hms x).1, (hms x).2]
      cases x.testBit p <;> simp
    rw [srch]
    split
    · rename_i hlt
      refine bIv_skip hI (fun x hxs => ?_)
      have hxo : okB ps.length fx x = true := by simp [sub] at hxs; exact hxs.2
      have hxm : x % 2 ^ p = m := by simp [sub] at hxs; exact hxs.1
      refine ⟨hok x hxo, hcost x, ?_⟩
      rw [cost_sm]
      have h1 : sm p (cst1 ps D st cl x) = sm p (cst1 ps D st cl m) := sm_congr (fun i hi => cst1_congr (fun j hj => mod_bit hxm (by omega)))
      have h2 := sm_mono (show p ≤ ps.length by omega) (cst1 ps D st cl x)
      omega
    · rename_i hlt
      rw [or0, or1 hm]
      simp only
      have hm2 : m + 2 ^ p < 2 ^ (p + 1) := by rw [Nat.pow_succ]; omega
      have bm0 : m.testBit p = false := Nat.testBit_lt_two_pow hm
      have bm1 : (m + 2 ^ p).testBit p = true := by
        have := ((hms (m + 2 ^ p)).2).mp (Nat.mod_eq_of_lt hm2)
        exact this.2
      have bmi : ∀ i, i < p → (m + 2 ^ p).testBit i = m.testBit i := fun i hi => mod_bit (by rw [Nat.add_mod_right, Nat.mod_eq_of_lt hm]) hi
      -- the first child
      have c0 : bIv (cost ps D st cl) (fun m => unev (areaM ps (2 ^ ps.length - 1)) (areaM ps m)) (fun x => B x || sub ps.length fx (p + 1) m x) (if fx p = 0 ∨ fx p = 0 + 1 then srch ps D st cl fx (areaM ps (2 ^ ps.length - 1)) k (p + 1) m (c + cst1 ps D st cl m p) (a + 0 * qa (pg ps p)) s else s) := by
        split
        · rename_i hmay
          refine ih (p + 1) m _ _ s B (by omega) (by rw [Nat.pow_succ]; omega) (fun i hi => ?_) ?_ ?_ hI (fun x hx2 => ?_) (fun x y hx2 hy => ?_)
          · by_cases e : i = p
            · subst e; rw [bm0]; simpa using hmay
            · exact hf i (by omega)
          · rw [hc, sm]
          · rw [ha, sm, bm0]; simp
          · have := hd x hx2
            rw [hsplit] at this
            simp at this
            exact this.1
          · exact hx x y hx2 (by rw [hsplit, hy]; rfl)
        · rename_i hmay
          refine bIv_congr hI (fun x => ?_)
          have : sub ps.length fx (p + 1) m x = false := by
            cases hs : sub ps.length fx (p + 1) m x with
            | false => rfl
            | true =>
              simp [sub, okB] at hs
              have h1 := ((hms x).1).mp hs.1
              have h2 := hs.2.2 p (by omega)
              rw [h1.2] at h2
              exact absurd h2 (by simpa using hmay)
          rw [this]; simp
      refine bIv_congr (B := fun x => (B x || sub ps.length fx (p + 1) m x) || sub ps.length fx (p + 1) (m + 2 ^ p) x) ?_ (fun x => by rw [hsplit, Bool.or_assoc])
      split
      · rename_i hmay
        refine ih (p + 1) (m + 2 ^ p) _ _ _ _ (by omega) hm2 (fun i hi => ?_) ?_ ?_ c0 (fun x hx2 => ?_) (fun x y hx2 hy => ?_)
        · by_cases e : i = p
          · subst e; rw [bm1]; simpa using hmay
          · rw [bmi i (by omega)]; exact hf i (by omega)
        · rw [hc, sm]
          congr 1
          exact sm_congr (fun i hi => cst1_congr (fun j hj => (bmi j (by omega)).symm))
        · rw [ha, sm, bm1]
          simp
          exact sm_congr (fun i hi => by rw [bmi i hi])
        · rcases Bool.or_eq_true _ _ ▸ hx2 with h | h
          · have := hd x h
            rw [hsplit] at this
            simp at this
            exact this.2
          · cases hs : sub ps.length fx (p + 1) (m + 2 ^ p) x with
            | false => rfl
            | true =>
              simp [sub] at h hs
              have h1 := ((hms x).1).mp h.1
              have h2 := ((hms x).2).mp hs.1
              rw [h1.2] at h2
              exact absurd h2.2 (by decide)
        · rcases Bool.or_eq_true _ _ ▸ hx2 with h | h
          · exact hx x y h (by rw [hsplit, hy]; simp)
          · simp [sub] at h hy
            have h1 := ((hms x).1).mp h.1
            have h2 := ((hms y).2).mp hy.1
            exact ⟨p, h1.2, h2.2, fun j hj => (mod_bit h1.1 hj).trans (mod_bit h2.1 hj).symm⟩
      · rename_i hmay
        refine bIv_congr c0 (fun x => ?_)
        have : sub ps.length fx (p + 1) (m + 2 ^ p) x = false := by
          cases hs : sub ps.length fx (p + 1) (m + 2 ^ p) x with
          | false => rfl
          | true =>
            simp [sub, okB] at hs
            have h1 := ((hms x).2).mp hs.1
            have h2 := hs.2.2 p (by omega)
            rw [h1.2] at h2
            exact absurd h2 (by simpa using hmay)
        rw [this]; simp
