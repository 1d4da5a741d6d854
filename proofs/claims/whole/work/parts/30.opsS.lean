/-! ===== what each call answers and does, in the words of the state ===== -/
noncomputable def pif {α : Type} (P : Prop) (a b : α) : α := @ite _ P (Classical.propDecidable P) a b
theorem pif_t {α : Type} {P : Prop} {a b : α} (h : P) : pif P a b = a := by unfold pif; exact if_pos h
theorem pif_f {α : Type} {P : Prop} {a b : α} (h : ¬ P) : pif P a b = b := by unfold pif; exact if_neg h
def sPush (s : St) (v : Ly) : St := (v, hpush s.2.1 s.1, s.2.2)
noncomputable def oShape (s : St) (a b c d : Int) : Int32 × St := pif (rNew s.1.1 a b c d = 0) (nI s.1.1.length, sPush s (lyZ (lyS s.1 (s.1.1 ++ [nSh a b c d])))) (rNew s.1.1 a b c d, s)
noncomputable def oDrop (s : St) (j : Int) : Int32 × St := pif (has s.1.1 j) (nI (s.1.1.length - 1), sPush s (lyZ (lyS s.1 (s.1.1.eraseIdx j.toNat)))) (kUNK, s)
def shMv (l : List Sh) (j dx dy : Int) : List Sh := l.set j.toNat (mv (gt l j) dx dy)
noncomputable def oMove (s : St) (j dx dy : Int) : Int32 × St := pif (rStep s.1.1 j dx dy = 0) (nI (area (mv (gt s.1.1 j) dx dy)), sPush s (lyZ (lyS s.1 (shMv s.1.1 j dx dy)))) (rStep s.1.1 j dx dy, s)
def shCt (l : List Sh) (j x : Int) : List Sh := l.set j.toNat (shC (gt l j) (insC x.toNat (sc (gt l j))))
def shHl (l : List Sh) (j x : Int) : List Sh := l.set j.toNat (shC (gt l j) (remC x.toNat (sc (gt l j))))
noncomputable def oCut (s : St) (j x : Int) : Int32 × St := pif (rCut s.1.1 j x = 0) (nI (np (shCt s.1.1 j x)), sPush s (lyZ (lyS s.1 (shCt s.1.1 j x)))) (rCut s.1.1 j x, s)
noncomputable def oHeal (s : St) (j x : Int) : Int32 × St := pif (rHeal s.1.1 j x = 0) (nI (np (shHl s.1.1 j x)), sPush s (lyZ (lyS s.1 (shHl s.1.1 j x)))) (rHeal s.1.1 j x, s)
noncomputable def oBound (s : St) (w x : Int) : Int32 × St := pif (inB w x) (nI (bnd s.1 w), sPush s (lyB s.1 w x.toNat)) (kOUT, s)
def vFix (v : Ly) (p m : Int) : Ly := lyF v (fxs (lfx v) p.toNat (m + 1).toNat)
noncomputable def oFix (s : St) (p m : Int) : Int32 × St := pif (0 ≤ p ∧ p < np s.1.1) (pif (-1 ≤ m ∧ m ≤ 1) (pif (lfx s.1 p.toNat = (m + 1).toNat) (kNOT, s) (nI (bst (vFix s.1 p m)).1, sPush s (vFix s.1 p m))) (kOUT, s)) (kUNK, s)
def vTurn (v : Ly) : Ly := lyZ (lyS v (v.1.map mir))
def oTurn (s : St) : Int32 × St := (nI (bst (vTurn s.1)).1, sPush s (vTurn s.1))
noncomputable def oUndo (s : St) : Int32 × St := pif (s.2.1 = []) (kNOT, s) (nI (s.2.1.length - 1), (s.2.1.getLastD s.1, s.2.1.dropLast, s.2.2))
noncomputable def oKeep (s : St) (i : Int) : Int32 × St := pif (i = 0) (nI s.1.1.length, (s.1, [], some s.1, s.2.2.2)) (pif (i = 1) (nI s.1.1.length, (s.1, [], s.2.2.1, some s.1)) (kUNK, s))
def goI (s : St) (o : Option Ly) : Int32 × St := match o with
  | none => (kNOT, s)
  | some w => (nI w.1.length, (w, [], s.2.2))
noncomputable def oGoBack (s : St) (i : Int) : Int32 × St := pif (i = 0) (goI s s.2.2.1) (pif (i = 1) (goI s s.2.2.2) (kUNK, s))
theorem rNew_0 {l : List Sh} {a b c d : Int} (h : rNew l a b c d = 0) : (onF a b c d ∧ a ≤ c ∧ b ≤ d) ∧ isFr l a b c d (-1) ∧ ¬ full l := by
  unfold rNew at h
  by_cases h1 : onF a b c d ∧ a ≤ c ∧ b ≤ d
  · rw [zif_t h1] at h
    by_cases h2 : isFr l a b c d (-1)
    · rw [zif_t h2] at h
      by_cases h3 : full l
      · rw [zif_t h3] at h; exact absurd h (by decide)
      · exact ⟨h1, h2, h3⟩
    · rw [zif_f h2] at h; exact absurd h (by decide)
  · rw [zif_f h1] at h; exact absurd h (by decide)
theorem rStep_0 {l : List Sh} {j dx dy : Int} (h : rStep l j dx dy = 0) : has l j ∧ steps dx dy ∧ canStep l j dx dy := by
  unfold rStep at h
  by_cases h1 : has l j
  · rw [zif_t h1] at h
    by_cases h2 : steps dx dy
    · rw [zif_t h2] at h
      by_cases h3 : canStep l j dx dy
      · exact ⟨h1, h2, h3⟩
      · rw [zif_f h3] at h; exact absurd h (by decide)
    · rw [zif_f h2] at h; exact absurd h (by decide)
  · rw [zif_f h1] at h; exact absurd h (by decide)
theorem rCut_0 {l : List Sh} {j x : Int} (h : rCut l j x = 0) : has l j ∧ (0 ≤ x ∧ x ≤ 14) ∧ canCut l j x ∧ ¬ 14 ≤ np l := by
  unfold rCut at h
  by_cases h1 : has l j
  · rw [zif_t h1] at h
    by_cases h2 : 0 ≤ x ∧ x ≤ 14
    · rw [zif_t h2] at h
      by_cases h3 : canCut l j x
      · rw [zif_t h3] at h
        by_cases h4 : 14 ≤ np l
        · rw [zif_t h4] at h; exact absurd h (by decide)
        · exact ⟨h1, h2, h3, h4⟩
      · rw [zif_f h3] at h; exact absurd h (by decide)
    · rw [zif_f h2] at h; exact absurd h (by decide)
  · rw [zif_f h1] at h; exact absurd h (by decide)
theorem rHeal_0 {l : List Sh} {j x : Int} (h : rHeal l j x = 0) : has l j ∧ (0 ≤ x ∧ x ≤ 14) ∧ x.toNat ∈ sc (gt l j) := by
  unfold rHeal at h
  by_cases h1 : has l j
  · rw [zif_t h1] at h
    by_cases h2 : 0 ≤ x ∧ x ≤ 14
    · rw [zif_t h2] at h
      by_cases h3 : x.toNat ∈ sc (gt l j)
      · exact ⟨h1, h2, h3⟩
      · rw [zif_f h3] at h; exact absurd h (by decide)
    · rw [zif_f h2] at h; exact absurd h (by decide)
  · rw [zif_f h1] at h; exact absurd h (by decide)
theorem has_nat {l : List Sh} {x : Int32} (hl : l.length ≤ 10) (h : has l x.toInt) : ∃ j sh, x = nI j ∧ l[j]? = some sh ∧ x.toInt = (j : Int) ∧ gt l (j : Int) = sh := by
  obtain ⟨j, hj, rfl⟩ := nI_of3 (n := l.length) h.1 h.2 (by omega)
  obtain ⟨sh, hsh⟩ := getS hj
  exact ⟨j, sh, rfl, hsh, nI_T (by omega), gt_nat hsh⟩
theorem cut_len {v : Ly} (ho : lyOk v) {j : Nat} {sh : Sh} (hsh : v.1[j]? = some sh) {x : Nat} (h1 : sx sh ≤ x) (h2 : x < sx2 sh) (h3 : x ∉ sc sh) (h4 : (sc sh).length < 2) (h5 : ¬ 14 ≤ np v.1) : lyOk (lyZ (lyS v (v.1.set j (shC sh (insC x (sc sh)))))) := by
  have hc := cOk_ins (ho.sh hsh).2.2.2.2 h1 h2 h3 h4
  exact ho.cutsTo hsh hc.1 (by rw [hc.2]; omega)
theorem rem_len (x : Nat) (c : List Nat) : (remC x c).length ≤ c.length := List.length_filter_le _ _
theorem heal_len {v : Ly} (ho : lyOk v) {j : Nat} {sh : Sh} (hsh : v.1[j]? = some sh) (x : Nat) : lyOk (lyZ (lyS v (v.1.set j (shC sh (remC x (sc sh)))))) := ho.cutsTo hsh (cOk_rem (ho.sh hsh).2.2.2.2) (by have := rem_len x (sc sh); have := ho.2.2.1; omega)
