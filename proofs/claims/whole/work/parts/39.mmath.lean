/-! ===== the model's sums ===== -/
theorem cnt_ext {n k : Nat} (h : n ≤ k) {f : Nat → Bool} (hf : ∀ i, n ≤ i → f i = false) : cnt k f = cnt n f := by
  rw [← cnt_lt_eq h f]
  apply cnt_congr
  intro i _
  by_cases q : i < n
  · simp [q]
  · simp [q, hf i (by omega)]
theorem sm_cnt (n : Nat) (f : Nat → Bool) : sm n (fun p => (f p).toNat) = cnt n f := by
  induction n with
  | zero => rfl
  | succ n ih => rw [sm, cnt, ih]
theorem cnt_sym {f : Nat → Nat → Bool} (hs : ∀ a b, f a b = f b a) (hi : ∀ a, f a a = false) (n : Nat) : sm n (fun p => cnt n (f p)) = 2 * sm n (fun p => cnt p (f p)) := by
  induction n with
  | zero => rfl
  | succ n ih =>
    have e : sm n (fun p => cnt (n + 1) (f p)) = sm n (fun p => cnt n (f p)) + cnt n (f n) := by
      rw [← sm_cnt n (f n), ← sm_add]
      exact sm_congr (fun p _ => by rw [cnt, hs p n])
    rw [sm, sm, e, ih, cnt, hi n]
    simp only [Bool.toNat_false]
    omega
def cS (ps : List Pc) (D m p : Nat) : Nat := cnt ps.length (fun q => clb ps D p q && (m.testBit p == m.testBit q))
def sS (ps : List Pc) (m p : Nat) : Nat := cnt ps.length (fun q => beb ps p q && (m.testBit p ^^ m.testBit q))
theorem pop_n {n a : Nat} (hn : n ≤ 14) {f : Nat → Bool} (h : ∀ q, q < n → a.testBit q = f q) (h2 : ∀ q, n ≤ q → a.testBit q = false) : popc 14 a = cnt n f := by
  rw [popc_cnt, cnt_ext hn h2]
  exact cnt_congr h
theorem cS_t {ps : List Pc} {D m p : Nat} (hn : ps.length ≤ 14) (h : m.testBit p = true) : popc 14 (bm 14 (clb ps D p) &&& m) = cS ps D m p := by
  refine pop_n hn (fun q hq => ?_) (fun q hq => ?_)
  · rw [Nat.testBit_and, bm_bit, h]
    simp [show q < 14 from by omega]
  · rw [Nat.testBit_and, bm_bit]
    have : clb ps D p q = false := by
      cases e : clb ps D p q
      · rfl
      · have := (clb_lt e).2; omega
    simp [this]
theorem cS_f {ps : List Pc} {D m p : Nat} (hn : ps.length ≤ 14) (h : m.testBit p = false) : popc 14 (bm 14 (clb ps D p) &&& andn (2 ^ ps.length - 1) m) = cS ps D m p := by
  refine pop_n hn (fun q hq => ?_) (fun q hq => ?_)
  · rw [Nat.testBit_and, bm_bit, andn_bit, low_bit, h]
    simp [show q < 14 from by omega, hq]
  · rw [Nat.testBit_and, andn_bit, low_bit]
    simp [show ¬ q < ps.length from by omega]
theorem sS_t {ps : List Pc} {m p : Nat} (hn : ps.length ≤ 14) (h : m.testBit p = true) : popc 14 (bm 14 (beb ps p) &&& andn (2 ^ ps.length - 1) m) = sS ps m p := by
  refine pop_n hn (fun q hq => ?_) (fun q hq => ?_)
  · rw [Nat.testBit_and, bm_bit, andn_bit, low_bit, h]
    simp [show q < 14 from by omega, hq]
  · rw [Nat.testBit_and, andn_bit, low_bit]
    simp [show ¬ q < ps.length from by omega]
theorem sS_f {ps : List Pc} {m p : Nat} (hn : ps.length ≤ 14) (h : m.testBit p = false) : popc 14 (bm 14 (beb ps p) &&& m) = sS ps m p := by
  refine pop_n hn (fun q hq => ?_) (fun q hq => ?_)
  · rw [Nat.testBit_and, bm_bit, h]
    simp [show q < 14 from by omega]
  · rw [Nat.testBit_and, bm_bit]
    have : beb ps p q = false := by
      cases e : beb ps p q
      · rfl
      · have := (beb_lt e).2; omega
    simp [this]
theorem cS_le (ps : List Pc) (D m p : Nat) : cS ps D m p ≤ ps.length := cnt_le _ _
theorem sS_le (ps : List Pc) (m p : Nat) : sS ps m p ≤ ps.length := cnt_le _ _
theorem cS_sum (ps : List Pc) (D m : Nat) : sm ps.length (cS ps D m) = 2 * clashes ps D m := by
  have h := cnt_sym (f := fun p q => clb ps D p q && (m.testBit p == m.testBit q)) (fun a b => by rw [clb_comm ps D a b]; cases m.testBit a <;> cases m.testBit b <;> rfl) (fun a => by rw [clb_irr]; rfl) ps.length
  exact h
theorem sE_cnt {ps : List Pc} {m p : Nat} (hp : p < ps.length) : cnt p (fun q => beb ps p q && (m.testBit p ^^ m.testBit q)) = sE ps m p := by
  cases p with
  | zero => simp [cnt, sE]
  | succ k =>
    rw [cnt]
    have h0 : cnt k (fun q => beb ps (k + 1) q && (m.testBit (k + 1) ^^ m.testBit q)) = 0 := by
      apply cnt_none
      intro i hi
      rw [beb_f (Or.inr ⟨by omega, by omega⟩)]
      rfl
    rw [h0]
    unfold sE
    by_cases e : qs (pg ps k) = qs (pg ps (k + 1))
    · rw [if_pos ⟨by omega, by simpa using e⟩, beb_t hp (by omega) e.symm (Or.inr rfl)]
      simp
    · rw [if_neg (fun z => e (by simpa using z.2)), beb_f (Or.inl (fun z => e z.symm))]
      simp
theorem sS_sum (ps : List Pc) (m : Nat) : sm ps.length (sS ps m) = 2 * stitches ps m := by
  have h := cnt_sym (f := fun p q => beb ps p q && (m.testBit p ^^ m.testBit q)) (fun a b => by rw [beb_comm ps a b]; cases m.testBit a <;> cases m.testBit b <;> rfl) (fun a => by rw [beb_irr]; rfl) ps.length
  unfold stitches
  rw [← sm_congr (fun p hp => sE_cnt (m := m) hp)]
  exact h
theorem cost_lt {ps : List Pc} {D st cl m : Nat} (hn : ps.length ≤ 14) (hst : st ≤ 9) (hcl : cl ≤ 99) : cost ps D st cl m < 1000000 := by
  rw [cost_sm]
  have h := sm_le (n := ps.length) (f := cst1 ps D st cl m) (k := 2000) (fun i hi => cst1_le hcl hst (by omega))
  have h2 := Nat.mul_le_mul_right 2000 hn
  omega
/-! ===== the lowest bit ===== -/
theorem odd_pow : ∀ (n u : Nat), u ≤ n → u ≠ 0 → ∃ k t, u = 2 ^ k * (2 * t + 1)
  | 0, u, h, h0 => absurd (by omega) h0
  | n + 1, u, h, h0 => by
    by_cases e : u % 2 = 1
    · exact ⟨0, u / 2, by omega⟩
    · obtain ⟨k, t, q⟩ := odd_pow n (u / 2) (by omega) (by omega)
      refine ⟨k + 1, t, ?_⟩
      rw [Nat.pow_succ, Nat.mul_comm (2 ^ k) 2, Nat.mul_assoc, ← q]
      omega
theorem lowb_spec {u : Nat} (h : u ≠ 0) : ∃ k, lowb u = 2 ^ k ∧ u.testBit k = true ∧ ∀ j, j < k → u.testBit j = false := by
  obtain ⟨k, t, e⟩ := odd_pow u u (Nat.le_refl _) h
  have hk : 0 < 2 ^ k := Nat.two_pow_pos k
  have e1 : u = 2 ^ k * (2 * t + 1) + 0 := by omega
  have e2 : u - 1 = 2 ^ k * (2 * t) + (2 ^ k - 1) := by rw [e, Nat.mul_add]; omega
  have b1 : ∀ j, u.testBit j = if j < k then false else (2 * t + 1).testBit (j - k) := by
    intro j
    rw [e1, Nat.testBit_two_pow_mul_add _ hk]
    simp
  have b2 : ∀ j, (u - 1).testBit j = if j < k then decide (j < k) else (2 * t).testBit (j - k) := by
    intro j
    rw [e2, Nat.testBit_two_pow_mul_add _ (by omega), low_bit]
  refine ⟨k, ?_, ?_, fun j hj => by rw [b1, if_pos hj]⟩
  · apply Nat.eq_of_testBit_eq
    intro j
    unfold lowb
    rw [andn_bit, b1, b2, two_bit]
    by_cases q : j < k
    · simp [q, show ¬ k = j from by omega]
    · simp only [if_neg q]
      by_cases q2 : k = j
      · subst q2
        simp
      · obtain ⟨d, hd⟩ : ∃ d, j - k = d + 1 := ⟨j - k - 1, by omega⟩
        rw [hd, Nat.testBit_succ, Nat.testBit_succ, show (2 * t + 1) / 2 = t from by omega, show 2 * t / 2 = t from by omega]
        simp [q2]
  · rw [b1, if_neg (by omega), Nat.sub_self]
    simp
theorem low_and {a u : Nat} (hu : u < 16384) : nI (a &&& u) &&& -nI u = nI (a &&& lowb u) := by
  rw [← nI_and a u, Int32.and_assoc, nI_low hu, nI_and]
theorem fst_lxl {a b : Nat} (h : a ^^^ b ≠ 0) : a &&& lowb (a ^^^ b) = 0 ↔ lxl a b := by
  obtain ⟨k, e, h1, h2⟩ := lowb_spec h
  rw [e]
  rw [Nat.testBit_xor] at h1
  have h3 : ∀ j, j < k → a.testBit j = b.testBit j := by
    intro j hj
    have := h2 j hj
    rw [Nat.testBit_xor] at this
    revert this
    cases a.testBit j <;> cases b.testBit j <;> simp
  have key : a &&& 2 ^ k = 0 ↔ a.testBit k = false := by
    constructor
    · intro q
      have := congrArg (fun z => z.testBit k) q
      simpa [Nat.testBit_and, two_bit] using this
    · intro q
      apply Nat.eq_of_testBit_eq
      intro j
      rw [Nat.testBit_and, two_bit]
      by_cases e : k = j
      · subst e; simp [q]
      · simp [e]
  rw [key]
  constructor
  · intro q
    refine ⟨k, q, ?_, h3⟩
    rw [q] at h1
    simpa using h1
  · rintro ⟨i, g1, g2, g3⟩
    rcases Nat.lt_trichotomy i k with q | q | q
    · rw [h3 i q, g2] at g1; cases g1
    · subst q; exact g1
    · rw [g3 k q] at h1
      simp at h1
theorem lxl_irr (a : Nat) : ¬ lxl a a := fun h => lxl_asymm h h
theorem xor_0 {a b : Nat} (h : a ^^^ b = 0) : a = b := by
  apply Nat.eq_of_testBit_eq
  intro i
  have := congrArg (fun z => z.testBit i) h
  simp only [Nat.testBit_xor, Nat.zero_testBit] at this
  revert this
  cases a.testBit i <;> cases b.testBit i <;> simp
theorem lxl_tri {a b : Nat} (h1 : ¬ lxl a b) : a = b ∨ lxl b a := by
  by_cases e : a ^^^ b = 0
  · exact Or.inl (xor_0 e)
  · right
    obtain ⟨k, -, g1, g2⟩ := lowb_spec e
    rw [Nat.testBit_xor] at g1
    have g3 : ∀ j, j < k → b.testBit j = a.testBit j := by
      intro j hj
      have := g2 j hj
      rw [Nat.testBit_xor] at this
      revert this
      cases a.testBit j <;> cases b.testBit j <;> simp
    cases e1 : a.testBit k
    · exfalso
      apply h1
      rw [e1] at g1
      exact ⟨k, e1, by simpa using g1, fun j hj => (g3 j hj).symm⟩
    · rw [e1] at g1
      exact ⟨k, by simpa using g1, e1, g3⟩
/-! ===== the model's going through all masks ===== -/
theorem bIv_less {cs un : Nat → Nat} {B : Nat → Bool} {m : Nat} (hB : ∀ x, B x = true → x < 16384 ∧ cs x < 1000000000) (hl : ∀ x, B x = true → cs m < cs x) (hm : m < 16384) (hc : cs m < 1000000000) : bIv cs un (fun x => B x || decide (x = m)) (cs m, 1, un m, m) := by
  refine ⟨fun x hx => ?_, fun x hx => ?_, ?_, Or.inr ⟨by simp, rfl, rfl, fun x hx e => ?_⟩⟩
  · simp only [Bool.or_eq_true, decide_eq_true_eq] at hx
    rcases hx with h | rfl
    · exact hB x h
    · exact ⟨hm, hc⟩
  · simp only [Bool.or_eq_true, decide_eq_true_eq] at hx
    rcases hx with h | rfl
    · exact Nat.le_of_lt (hl x h)
    · exact Nat.le_refl _
  · symm
    rw [← cnt_single hm]
    apply cnt_congr
    intro i _
    by_cases e : i = m
    · subst e; simp
    · simp only [e, decide_false, Bool.or_false]
      cases q : B i
      · rfl
      · have := hl i q
        simp [show ¬ cs i = cs m from by omega]
  · simp only [Bool.or_eq_true, decide_eq_true_eq] at hx
    rcases hx with h | rfl
    · have := hl x h
      simp only at e
      omega
    · exact Or.inr ⟨rfl, Or.inl rfl⟩
theorem bIv_tie {cs un : Nat → Nat} {B : Nat → Bool} {s : Bs} {m : Nat} (h : bIv cs un B s) (hne : ∃ x, B x = true) (hB : B m = false) (hm : m < 16384) (hc9 : cs m < 1000000000) (hc : cs m = s.1) :
    ((un m < s.2.2.1 ∨ (un m = s.2.2.1 ∧ lxl m s.2.2.2)) → bIv cs un (fun x => B x || decide (x = m)) (s.1, s.2.1 + 1, un m, m)) ∧ (¬ (un m < s.2.2.1 ∨ (un m = s.2.2.1 ∧ lxl m s.2.2.2)) → bIv cs un (fun x => B x || decide (x = m)) (s.1, s.2.1 + 1, s.2.2.1, s.2.2.2)) := by
  obtain ⟨h1, h2, h3, h4⟩ := h
  obtain ⟨x0, hx0⟩ := hne
  rcases h4 with ⟨h4, -⟩ | ⟨h4, h5, h6, h7⟩
  · rw [h4 x0] at hx0; cases hx0
  have k1 : ∀ x, (B x || decide (x = m)) = true → x < 16384 ∧ cs x < 1000000000 := by
    intro x hx
    simp only [Bool.or_eq_true, decide_eq_true_eq] at hx
    rcases hx with h | rfl
    · exact h1 x h
    · exact ⟨hm, hc9⟩
  have k2 : ∀ x, (B x || decide (x = m)) = true → s.1 ≤ cs x := by
    intro x hx
    simp only [Bool.or_eq_true, decide_eq_true_eq] at hx
    rcases hx with h | rfl
    · exact h2 x h
    · omega
  have k3 : s.2.1 + 1 = cnt 16384 (fun x => (B x || decide (x = m)) && decide (cs x = s.1)) := by
    have e : cnt 16384 (fun x => (B x && decide (cs x = s.1)) || decide (x = m)) = cnt 16384 (fun x => B x && decide (cs x = s.1)) + cnt 16384 (fun x => decide (x = m)) := by
      apply cnt_or
      intro i hi
      by_cases e : i = m
      · subst e; rw [hB] at hi; simp at hi
      · simp [e]
    rw [cnt_single hm, ← h3] at e
    rw [← e]
    apply cnt_congr
    intro i _
    by_cases e : i = m
    · subst e; simp [hc]
    · simp [e]
  constructor
  · intro hu
    refine ⟨k1, k2, k3, Or.inr ⟨by simp, hc, rfl, fun x hx e => ?_⟩⟩
    simp only [Bool.or_eq_true, decide_eq_true_eq] at hx
    simp only at e ⊢
    rcases hx with h | rfl
    · rcases h7 x h e with g | ⟨g, g2⟩
      · left; omega
      · rcases hu with u | ⟨u, u2⟩
        · left; omega
        · right
          refine ⟨by omega, ?_⟩
          rcases g2 with rfl | g2
          · exact Or.inr u2
          · exact Or.inr (lxl_trans u2 g2)
    · exact Or.inr ⟨rfl, Or.inl rfl⟩
  · intro hu
    refine ⟨k1, k2, k3, Or.inr ⟨by simp [h4], h5, h6, fun x hx e => ?_⟩⟩
    simp only [Bool.or_eq_true, decide_eq_true_eq] at hx
    simp only at e ⊢
    rcases hx with h | rfl
    · exact h7 x h e
    · by_cases q : un x = s.2.2.1
      · right
        refine ⟨by omega, ?_⟩
        rcases lxl_tri (fun z => hu (Or.inr ⟨q, z⟩)) with z | z
        · exact Or.inl z
        · exact Or.inr z
      · left
        have : ¬ un x < s.2.2.1 := fun z => hu (Or.inl z)
        omega
def blw (n : Nat) (fx : Nat → Nat) (m x : Nat) : Bool := decide (x < m) && okB n fx x
theorem blw_no {n : Nat} {fx : Nat → Nat} {m : Nat} (h : okB n fx m = false) (x : Nat) : blw n fx (m + 1) x = blw n fx m x := by
  unfold blw
  by_cases e : x = m
  · subst e; simp [h]
  · have : x < m + 1 ↔ x < m := by omega
    simp [this]
theorem blw_yes {n : Nat} {fx : Nat → Nat} {m : Nat} (h : okB n fx m = true) (x : Nat) : (blw n fx m x || decide (x = m)) = blw n fx (m + 1) x := by
  unfold blw
  by_cases e : x = m
  · subst e; simp [h]
  · have : x < m + 1 ↔ x < m := by omega
    simp [this, e]
theorem blw_self (n : Nat) (fx : Nat → Nat) (m : Nat) : blw n fx m m = false := by simp [blw]
theorem blw_all {n : Nat} {fx : Nat → Nat} {m : Nat} (h : 2 ^ n ≤ m) (x : Nat) : blw n fx m x = okB n fx x := by
  unfold blw
  cases q : okB n fx x
  · simp
  · have : x < 2 ^ n := by
      unfold okB at q
      exact (of_decide_eq_true q).1
    simp [show x < m from by omega]
theorem okB_i {n : Nat} {fx : Nat → Nat} {m : Nat} (hm : m < 2 ^ n) : okB n fx m = true ↔ ∀ p, p < n → fx p = 0 ∨ fx p = (m.testBit p).toNat + 1 := by
  unfold okB
  rw [decide_eq_true_eq]
  exact ⟨fun h => h.2, fun h => ⟨hm, h⟩⟩
def fxI (fx : Nat → Nat) (m i : Nat) : Prop := ∀ p, p < i → fx p = 0 ∨ fx p = (m.testBit p).toNat + 1
theorem fxI_s {fx : Nat → Nat} {m i : Nat} : fxI fx m (i + 1) ↔ fxI fx m i ∧ (fx i = 0 ∨ fx i = (m.testBit i).toNat + 1) := by
  constructor
  · intro h
    exact ⟨fun p hp => h p (by omega), h i (by omega)⟩
  · rintro ⟨h1, h2⟩ p hp
    by_cases e : p = i
    · subst e; exact h2
    · exact h1 p (by omega)
/-- what the model knows of the best when the masks below m are gone through -/
def jS (cs un : Nat → Nat) (n : Nat) (fx : Nat → Nat) (m : Nat) (b c w : Int32) (l : Int32) : Prop :=
  (b = -1 ∧ ∀ x, blw n fx m x = false) ∨ ∃ s : Bs, bIv cs un (blw n fx m) s ∧ (∃ x, blw n fx m x = true) ∧ b = nI s.2.2.2 ∧ c = nI s.1 ∧ w = nI s.2.1 ∧ l = nI s.2.2.1
theorem blw_lt {n : Nat} {fx : Nat → Nat} {m x : Nat} (hn : n ≤ 14) (h : blw n fx m x = true) : x < 16384 := by
  unfold blw okB at h
  simp only [Bool.and_eq_true, decide_eq_true_eq] at h
  have := Nat.pow_le_pow_right (show 0 < 2 by decide) hn
  omega
theorem unev_z {whole a : Nat} (h1 : whole ≤ 4000) (h2 : a ≤ 4000) : (0 ≤ (zi ((whole : Int) - (2 * a : Nat))).toInt → zi ((whole : Int) - (2 * a : Nat)) = nI (unev whole a)) ∧ ((zi ((whole : Int) - (2 * a : Nat))).toInt < 0 → -zi ((whole : Int) - (2 * a : Nat)) = nI (unev whole a)) := by
  rw [zi_T (by omega) (by omega)]
  unfold unev
  constructor
  · intro h
    rw [nI_zi]
    congr 1
    omega
  · intro h
    rw [zi_neg, nI_zi]
    congr 1
    omega
