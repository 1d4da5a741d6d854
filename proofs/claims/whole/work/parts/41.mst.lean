/-! ===== the model's rows of cells, changed ===== -/
def cpI (I J : zMI) (p : Nat) (g : Nat → Int32) (lo k : Nat) : Prop := (∀ x, J p x = if lo ≤ x ∧ x < lo + k then g (x - lo) else I p x) ∧ ∀ q, q ≠ p → J q = I q
theorem cp_0 (I : zMI) (p : Nat) (g : Nat → Int32) (lo : Nat) : cpI I I p g lo 0 := ⟨fun x => by rw [if_neg (by omega)], fun _ _ => rfl⟩
theorem cp_s {I J : zMI} {p : Nat} {g : Nat → Int32} {lo k idx : Nat} {x : Int32} (h : cpI I J p g lo k) (hi : idx = lo + k) (hx : x = g k) : cpI I (zu J p idx x) p g lo (k + 1) := by
  subst hi hx
  refine ⟨fun y => ?_, fun q hq => by rw [zu_ne hq]; exact h.2 q hq⟩
  by_cases e : y = lo + k
  · subst e
    rw [zu_same, if_pos (by omega), show lo + k - lo = k from by omega]
  · rw [zu_nk (Or.inr e), h.1 y]
    by_cases c : lo ≤ y ∧ y < lo + k
    · rw [if_pos c, if_pos (by omega)]
    · rw [if_neg c, if_neg (by omega)]
theorem cp_in {I J : zMI} {p : Nat} {g : Nat → Int32} {lo k i : Nat} (h : cpI I J p g lo k) (hi : i < k) : J p (lo + i) = g i := by
  rw [h.1, if_pos (by omega), show lo + i - lo = i from by omega]
theorem cp_out {I J : zMI} {p : Nat} {g : Nat → Int32} {lo k x : Nat} (h : cpI I J p g lo k) (hx : x < lo ∨ lo + k ≤ x) : J p x = I p x := by
  rw [h.1, if_neg (by omega)]
theorem mSh.of {f g : Nat → Int32} {o k : Nat} {s : Sh} (h : mSh f o k s) (hg : ∀ j, j < 6 → g (o + (1 + 6 * k + j)) = f (o + (1 + 6 * k + j))) : mSh g o k s := by
  obtain ⟨h0, h1, h2, h3, h4, h5⟩ := h
  exact ⟨(hg 0 (by omega)).trans h0, (hg 1 (by omega)).trans h1, (hg 2 (by omega)).trans h2, (hg 3 (by omega)).trans h3, (hg 4 (by omega)).trans h4, (hg 5 (by omega)).trans h5⟩
theorem zMb.free {f g : Nat → Int32} {v : Ly} (h : zMb f 0 v) (hl : v.1.length ≤ 10) (h1 : ∀ x, x < 64 → g x = f x) (h2 : ∀ p, p < 14 → g (64 + p) = nI 0) : zMb g 0 (lyZ v) := by
  obtain ⟨g0, g1, g2, g3, g4, g5⟩ := h
  refine ⟨(h1 0 (by omega)).trans g0, fun k s hs => (g1 k s hs).of (fun j hj => h1 _ (by have : k < v.1.length := getS_lt hs; omega)), (h1 _ (by omega)).trans g2, (h1 _ (by omega)).trans g3, (h1 _ (by omega)).trans g4, fun p hp => ?_⟩
  show g (0 + (64 + p)) = nI 0
  rw [Nat.zero_add]
  exact h2 p hp
theorem zMb.shp {f g : Nat → Int32} {v : Ly} (h : zMb f 0 v) {l : List Sh} (h0 : g 0 = nI l.length) (h1 : ∀ (k : Nat) (s : Sh), l[k]? = some s → mSh g 0 k s) (h2 : ∀ x, 61 ≤ x → g x = f x) : zMb g 0 (lyS v l) := by
  obtain ⟨g0, g1, g2, g3, g4, g5⟩ := h
  exact ⟨h0, h1, (h2 _ (by omega)).trans g2, (h2 _ (by omega)).trans g3, (h2 _ (by omega)).trans g4, fun p hp => (h2 _ (by omega)).trans (g5 p hp)⟩
theorem zMb.set {f g : Nat → Int32} {v : Ly} (h : zMb f 0 v) {k : Nat} {s' : Sh} (hk : k < v.1.length) (hl : v.1.length ≤ 10) (hs : mSh g 0 k s') (hf : ∀ x, (x < 1 + 6 * k ∨ 1 + 6 * k + 6 ≤ x) → g x = f x) : zMb g 0 (lyS v (v.1.set k s')) := by
  refine h.shp (by rw [List.length_set, hf 0 (by omega)]; exact h.1) (fun i t ht => ?_) (fun x hx => hf x (by omega))
  rw [List.getElem?_set] at ht
  by_cases e : k = i
  · subst e
    rw [if_pos rfl, if_pos hk] at ht
    cases ht
    exact hs
  · rw [if_neg e] at ht
    exact (h.2.1 i t ht).of (fun j hj => hf _ (by omega))
theorem zMb.app {f g : Nat → Int32} {v : Ly} (h : zMb f 0 v) {s' : Sh} (hl : v.1.length < 10) (h0 : g 0 = nI (v.1.length + 1)) (hs : mSh g 0 v.1.length s') (hf : ∀ x, x ≠ 0 → (x < 1 + 6 * v.1.length ∨ 1 + 6 * v.1.length + 6 ≤ x) → g x = f x) : zMb g 0 (lyS v (v.1 ++ [s'])) := by
  refine h.shp (by rw [List.length_append, h0]; rfl) (fun i t ht => ?_) (fun x hx => hf x (by omega) (by omega))
  rw [List.getElem?_append] at ht
  by_cases e : i < v.1.length
  · rw [if_pos e] at ht
    exact (h.2.1 i t ht).of (fun j hj => hf _ (by omega) (by omega))
  · rw [if_neg e] at ht
    have e2 : i = v.1.length := by
      have := (List.getElem?_eq_some_iff.mp ht).1
      simp at this
      omega
    subst e2
    simp at ht
    subst ht
    exact hs
theorem zMb.erase {f g : Nat → Int32} {v : Ly} (h : zMb f 0 v) {j : Nat} (hj : j < v.1.length) (hl : v.1.length ≤ 10) (h0 : g 0 = nI (v.1.length - 1)) (h1 : ∀ x, 1 ≤ x → x < 1 + 6 * j → g x = f x) (h2 : ∀ x, 1 + 6 * j ≤ x → x < 1 + 6 * (v.1.length - 1) → g x = f (x + 6)) (h3 : ∀ x, 61 ≤ x → g x = f x) : zMb g 0 (lyS v (v.1.eraseIdx j)) := by
  refine h.shp (by rw [List.length_eraseIdx_of_lt hj, h0]) (fun i t ht => ?_) h3
  rw [List.getElem?_eraseIdx] at ht
  by_cases e : i < j
  · rw [if_pos e] at ht
    exact (h.2.1 i t ht).of (fun q hq => h1 _ (by omega) (by omega))
  · rw [if_neg e] at ht
    have hi := getS_lt ht
    obtain ⟨a0, a1, a2, a3, a4, a5⟩ := mSh0 (h.2.1 (i + 1) t ht)
    have hg : ∀ q, q < 6 → g (0 + (1 + 6 * i + q)) = f (1 + 6 * (i + 1) + q) := by
      intro q hq
      rw [h2 _ (by omega) (by omega)]
      congr 1
      omega
    exact ⟨(hg 0 (by omega)).trans a0, (hg 1 (by omega)).trans a1, (hg 2 (by omega)).trans a2, (hg 3 (by omega)).trans a3, (hg 4 (by omega)).trans a4, (hg 5 (by omega)).trans a5⟩
/-- only the row of the state is written -/
def stF (I J : zMI) : Prop := ∀ q, q ≠ 97 → J q = I q
theorem stF.rfl {I : zMI} : stF I I := fun _ _ => Eq.refl _
theorem stF.trans {I J K : zMI} (h : stF I J) (h2 : stF J K) : stF I K := fun q hq => (h2 q hq).trans (h q hq)
theorem stF.zu {I J : zMI} (h : stF I J) {k : Nat} {x : Int32} : stF I (zu J 97 k x) := fun q hq => by rw [zu_ne hq]; exact h q hq
theorem zMR2.st {I J : zMI} {h : List Ly} {i0 i1 : Option Ly} (hr : zMR2 I h i0 i1) (hf : stF I J) : zMR2 J h i0 i1 := hr.frame (by rw [hf 96 (by decide)]) (hf 98 (by decide)) (hf 99 (by decide)) (hf 100 (by decide))
theorem apt_z {a a2 b b2 : Nat} (h1 : a ≤ a2) (h2 : b ≤ b2) : apt a a2 b b2 = 0 ↔ a ≤ b2 ∧ b ≤ a2 := by unfold apt; omega
def isFrI (l : List Sh) (a t c d : Int) (but : Int) (i : Nat) : Prop := ∀ (k : Nat) (s : Sh), k < i → l[k]? = some s → (k : Int) ≠ but → ¬ (a ≤ sx2 s ∧ (sx s : Int) ≤ c ∧ t ≤ sy2 s ∧ (sy s : Int) ≤ d)
theorem isFrI_s {l : List Sh} {a t c d but : Int} {i : Nat} {s : Sh} (hs : l[i]? = some s) : isFrI l a t c d but (i + 1) ↔ isFrI l a t c d but i ∧ ((i : Int) = but ∨ ¬ (a ≤ sx2 s ∧ (sx s : Int) ≤ c ∧ t ≤ sy2 s ∧ (sy s : Int) ≤ d)) := by
  constructor
  · intro h
    refine ⟨fun k u hk hu hb => h k u (by omega) hu hb, ?_⟩
    by_cases e : (i : Int) = but
    · exact Or.inl e
    · exact Or.inr (h i s (by omega) hs e)
  · rintro ⟨h1, h2⟩ k u hk hu hb
    by_cases e : k = i
    · subst e
      rw [hs] at hu
      cases hu
      rcases h2 with h2 | h2
      · exact absurd h2 hb
      · exact h2
    · exact h1 k u (by omega) hu hb
theorem isFrI_e {l : List Sh} {a t c d but : Int} {i : Nat} (hi : l.length ≤ i) : isFrI l a t c d but i ↔ isFr l a t c d but := ⟨fun h k s hs => h k s (by have := getS_lt hs; omega) hs, fun h k s _ hs => h k s hs⟩
/-! the history -/
theorem zMR2_push {I J K : zMI} {h : List Ly} {i0 i1 : Option Ly} {v : Ly} {u : Nat} (hr : zMR2 I h i0 i1) (hv : zMb (I 97) 0 v) (ho : lyOk v)
    (hu : (h.length = 8 ∧ u = 7 ∧ ∀ x, x < 546 → J 98 x = I 98 (x + 78)) ∨ (h.length < 8 ∧ u = h.length ∧ J 98 = I 98)) (hq : ∀ q, q ≠ 98 → q ≠ 96 → J q = I q) (hK : cpI J K 98 (J 97) (78 * u) 78) (h2 : I 96 2 = I 96 2) :
    zMR2 (zu K 96 2 (nI (u + 1))) (hpush h v) i0 i1 := by
  obtain ⟨g1, g2, g3, g4, g5⟩ := hr
  have e97 : J 97 = I 97 := hq 97 (by decide) (by decide)
  have f99 : zu K 96 2 (nI (u + 1)) 99 = I 99 := by rw [zu_ne (by decide), hK.2 99 (by decide), hq 99 (by decide) (by decide)]
  have f100 : zu K 96 2 (nI (u + 1)) 100 = I 100 := by rw [zu_ne (by decide), hK.2 100 (by decide), hq 100 (by decide) (by decide)]
  have new : zMb (zu K 96 2 (nI (u + 1)) 98) (78 * u) v := by
    rw [zu_ne (by decide)]
    refine hv.copy ho.1 (fun k hk => ?_)
    rw [cp_in hK hk, e97, Nat.zero_add]
  have len := hpush_len (h := h) (v := v) g2
  have old : ∀ (i : Nat) (w : Ly), (hpush h v)[i]? = some w → zMb (zu K 96 2 (nI (u + 1)) 98) (78 * i) w ∧ lyOk w := by
    intro i w hw
    have hi := getL_lt hw
    rw [len] at hi
    rcases hu with ⟨c1, c2, c3⟩ | ⟨c1, c2, c3⟩
    · unfold hpush at hw
      rw [if_pos c1, List.getElem?_append] at hw
      by_cases e : i < (h.drop 1).length
      · rw [if_pos e, List.getElem?_drop] at hw
        rw [List.length_drop] at e
        obtain ⟨z1, z2⟩ := g3 (1 + i) w hw
        refine ⟨z1.copy z2.1 (fun k hk => ?_), z2⟩
        rw [zu_ne (by decide), cp_out hK (by omega), c3 _ (by omega)]
        congr 1
        omega
      · rw [if_neg e] at hw
        rw [List.length_drop] at e hw
        have e2 : i = 7 := by omega
        subst e2
        rw [c1] at hw
        simp at hw
        subst hw
        rw [c2] at new
        exact ⟨by rw [c2]; exact new, ho⟩
    · unfold hpush at hw
      rw [if_neg (by omega), List.getElem?_append] at hw
      by_cases e : i < h.length
      · rw [if_pos e] at hw
        obtain ⟨z1, z2⟩ := g3 i w hw
        refine ⟨z1.copy z2.1 (fun k hk => ?_), z2⟩
        rw [zu_ne (by decide), cp_out hK (by omega), c3]
      · rw [if_neg e] at hw
        have e2 : i = h.length := by omega
        subst e2
        simp at hw
        subst hw
        rw [c2] at new
        exact ⟨by rw [c2]; exact new, ho⟩
  refine ⟨?_, by rw [len]; omega, old, g4.frame f100 f99, g5.frame f100 f99⟩
  rw [zu_same, len]
  rcases hu with ⟨c1, c2, -⟩ | ⟨c1, c2, -⟩
  · rw [c1, c2]; rfl
  · rw [c2, show min 8 (h.length + 1) = h.length + 1 from by omega]
