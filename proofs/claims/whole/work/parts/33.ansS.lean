/-! ===== what the calls that only ask answer ===== -/
noncomputable def tld (s : St) (w : Int) : Int32 := match w.toNat with
  | 0 => nI s.1.1.length
  | 1 => nI (np s.1.1)
  | 2 => nI (lD s.1)
  | 3 => nI (lST s.1)
  | 4 => nI (lCL s.1)
  | 11 => nI (ptsF (lkb (pcs s.1.1) (lD s.1)) (pcs s.1.1).length (pcs s.1.1).length).2
  | 12 => nI (oddF (clb (pcs s.1.1) (lD s.1)) (lkb (pcs s.1.1) (lD s.1)) (pcs s.1.1).length (pcs s.1.1).length).2
  | 13 => nI (shoF (clb (pcs s.1.1) (lD s.1)) (pcs s.1.1).length (pcs s.1.1).length)
  | 14 => nI (core (lkb (pcs s.1.1) (lD s.1)) (pcs s.1.1).length)
  | 15 => nI (brs (lkb (pcs s.1.1) (lD s.1)) (pcs s.1.1).length)
  | 16 => nI (hgs (lkb (pcs s.1.1) (lD s.1)) (pcs s.1.1).length)
  | 17 => nI (sm (pcs s.1.1).length (fun p => popc 14 (bm 14 (clb (pcs s.1.1) (lD s.1) p))) / 2)
  | 18 => nI (fm (lfx s.1))
  | 20 => nI s.2.1.length
  | _ => tB s.1 w
noncomputable def aTold (s : St) (w : Int) : Int32 := zif (0 ≤ w ∧ w ≤ 20) (tld s w) kOUT
def ofS (l : List Sh) (j w : Int) : Int32 := match w.toNat with
  | 0 => nI (sx (gt l j))
  | 1 => nI (sy (gt l j))
  | 2 => nI (sx2 (gt l j))
  | 3 => nI (sy2 (gt l j))
  | 4 => nI (area (gt l j))
  | 5 => nI (sc (gt l j)).length
  | 6 => nI (np (l.take j.toNat))
  | 7 => loC (sc (gt l j))
  | _ => loC (sc (gt l j)).tail
noncomputable def aOfShape (s : St) (j w : Int) : Int32 := zif (has s.1.1 j) (zif (0 ≤ w ∧ w ≤ 8) (ofS s.1.1 j w) kOUT) kUNK
def ofP (v : Ly) (p w : Int) : Int32 := match w.toNat with
  | 0 => nI (qs (pg (pcs v.1) p.toNat))
  | 1 => nI (qx (pg (pcs v.1) p.toNat))
  | 2 => nI (qx2 (pg (pcs v.1) p.toNat))
  | 3 => nI (qa (pg (pcs v.1) p.toNat))
  | 4 => nI ((bst v).2.2.2.testBit p.toNat).toNat
  | 5 => fxv (lfx v p.toNat)
  | 6 => nI (bm 14 (clb (pcs v.1) (lD v) p.toNat))
  | _ => nI (part (lkb (pcs v.1) (lD v)) (pcs v.1).length p.toNat)
def isP (v : Ly) (p : Int) : Prop := 0 ≤ p ∧ p < (pcs v.1).length
noncomputable def aOfPiece (s : St) (p w : Int) : Int32 := zif (isP s.1 p) (zif (0 ≤ w ∧ w ≤ 7) (ofP s.1 p w) kOUT) kUNK
def two (v : Ly) (p q : Int) : Prop := isP v p ∧ isP v q ∧ p ≠ q
noncomputable def aGap (s : St) (p q : Int) : Int32 := zif (two s.1 p q) (nI (gap (pg (pcs s.1.1) p.toNat) (pg (pcs s.1.1) q.toNat))) kUNK
noncomputable def aAt (s : St) (x y : Int) : Int32 := zif ((0 ≤ x ∧ x ≤ 15) ∧ 0 ≤ y ∧ y ≤ 15) (ptF x y (pcs s.1.1) 0) kOUT
noncomputable def aJudge (s : St) (m : Int) : Int32 := zif (0 ≤ m ∧ m < 2 ^ (pcs s.1.1).length) (nI (cost (pcs s.1.1) (lD s.1) (lST s.1) (lCL s.1) m.toNat)) kOUT
noncomputable def aWCut (s : St) (j x : Int) : Int32 := zif (rCut s.1.1 j x = kNOT ∨ rCut s.1.1 j x = kFUL) (-1) (zif (rCut s.1.1 j x = 0) (nI (bst (lyZ (lyS s.1 (shCt s.1.1 j x)))).1) (rCut s.1.1 j x))
noncomputable def aWMove (s : St) (j dx dy : Int) : Int32 := zif (rStep s.1.1 j dx dy = kNOT) (-1) (zif (rStep s.1.1 j dx dy = 0) (nI (bst (lyZ (lyS s.1 (shMv s.1.1 j dx dy)))).1) (rStep s.1.1 j dx dy))
/-- the least cost with two pieces on these masks; -1: they cannot be -/
noncomputable def cW (v : Ly) (p a q b : Nat) : Int32 := zif ((lfx v p = 0 ∨ lfx v p = a + 1) ∧ (lfx v q = 0 ∨ lfx v q = b + 1)) (nI (bst (lyF v (fxs (fxs (lfx v) p (a + 1)) q (b + 1)))).1) (-1)
noncomputable def lst (x y : Int32) : Int32 := zif (y = -1) x (zif (x = -1 ∨ y.toInt < x.toInt) y x)
noncomputable def aPair (s : St) (p q : Int) (is : Nat) : Int32 := zif (two s.1 p q) (lst (lst (-1) (cW s.1 p.toNat 0 q.toNat (if is = 0 then 1 else 0))) (cW s.1 p.toNat 1 q.toNat (if is = 0 then 0 else 1))) kUNK
theorem cL_tail {c : List Nat} (h : cL c) : cL c.tail := by
  cases c with
  | nil => exact Or.inl rfl
  | cons a t => exact h.tl
theorem fm_0 : fm (fun _ => 0) = 0 := by decide +kernel
theorem fo_0 : fo (fun _ => 0) = 0 := by decide +kernel
theorem bst_le {v : Ly} (ho : lyOk v) : (bst v).1 ≤ 1000000000 := (srch_b (D := lD v) (fx := lfx v) ho.2.2.2.2.2.2.2.1 ho.2.2.2.2.2.2.1 (Nat.le_trans (areaM_le (pcs_ok ho) _) (by decide)) (pcs_ok ho) (pcs v.1).length 0 0 0 0 (1000000000, 0, 0, 0) (by omega) (by omega) (by omega) (Nat.le_refl _) (by decide)).1
theorem zCI_tr {I J : zMI} {s : St} (h : zCI I s) (hf : ∀ p, (p < 18 ∨ 33 < p) → J p = I p) (hu : ∃ u, u ≤ 8000 ∧ J 33 3 = nI u) : zCI J s := by
  obtain ⟨hv, ho, hP, hk, g1, g2, ⟨nx, g3⟩, g4, g5⟩ := h
  have e0 : J 0 = I 0 := hf 0 (by omega)
  have e17 : J 17 = I 17 := hf 17 (by omega)
  refine ⟨hv.frame (fun p p1 p2 => hf p (by omega)), ho, hP.frame (fun p p1 p2 => hf p (by omega)), ?_, by rw [e17]; exact g1, hu, ⟨nx, g3.frame (hf 34 (by omega)) (fun p hp => hf p (by omega))⟩, g4.frame (by rw [e0]) (fun p p1 p2 => hf p (by omega)), g5.frame (by rw [e0]) (fun p p1 p2 => hf p (by omega))⟩
  unfold zKn
  rw [e0, e17]
  exact hk
theorem lyOk.unS {v : Ly} (h : lyOk v) {l : List Sh} (h2 : lyOk (lyZ (lyS v l))) (hn : np v.1 ≤ np l) : lyOk (lyS v l) := h2.unfree h.2.2.2.2.2.2.2.2.1 (fun p hp => h.2.2.2.2.2.2.2.2.2 p (by simp only [lyS] at hp; omega))
