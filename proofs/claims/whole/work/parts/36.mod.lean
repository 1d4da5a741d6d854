/-! ===== the model: where its cells are, its picture of a state ===== -/
def zMO (S : zS) (R : zMR) : Prop := zMod S R 96
theorem zMO.o {S : zS} {R : zMR} (h : zMO S R) : S[96]? = some (6 + 3, 0) := zMod.o h
theorem zMO.r0 {S : zS} {R : zMR} (h : zMO S R) : R 96 0 = some 97 := zMod.r0 h
theorem zMO.a0 {S : zS} {R : zMR} (h : zMO S R) : S[97]? = some (0, 78) := zMod.a0 h
theorem zMO.r1 {S : zS} {R : zMR} (h : zMO S R) : R 96 1 = some 98 := zMod.r1 h
theorem zMO.a1 {S : zS} {R : zMR} (h : zMO S R) : S[98]? = some (0, 624) := zMod.a1 h
theorem zMO.r3 {S : zS} {R : zMR} (h : zMO S R) : R 96 3 = some 99 := zMod.r3 h
theorem zMO.a3 {S : zS} {R : zMR} (h : zMO S R) : S[99]? = some (0, 156) := zMod.a3 h
theorem zMO.r4 {S : zS} {R : zMR} (h : zMO S R) : R 96 4 = some 100 := zMod.r4 h
theorem zMO.a4 {S : zS} {R : zMR} (h : zMO S R) : S[100]? = some (1, 2) := zMod.a4 h
theorem zMO.r6 {S : zS} {R : zMR} (h : zMO S R) : R 96 6 = some 101 := zMod.r6 h
theorem zMO.a6 {S : zS} {R : zMR} (h : zMO S R) : S[101]? = some (0, 14) := zMod.a6 h
theorem zMO.r7 {S : zS} {R : zMR} (h : zMO S R) : R 96 7 = some 102 := zMod.r7 h
theorem zMO.a7 {S : zS} {R : zMR} (h : zMO S R) : S[102]? = some (0, 14) := zMod.a7 h
theorem zMO.r8 {S : zS} {R : zMR} (h : zMO S R) : R 96 8 = some 103 := zMod.r8 h
theorem zMO.a8 {S : zS} {R : zMR} (h : zMO S R) : S[103]? = some (0, 14) := zMod.a8 h
theorem zMO.r9 {S : zS} {R : zMR} (h : zMO S R) : R 96 9 = some 104 := zMod.r9 h
theorem zMO.a9 {S : zS} {R : zMR} (h : zMO S R) : S[104]? = some (0, 14) := zMod.a9 h
theorem zMO.r10 {S : zS} {R : zMR} (h : zMO S R) : R 96 10 = some 105 := zMod.r10 h
theorem zMO.a10 {S : zS} {R : zMR} (h : zMO S R) : S[105]? = some (0, 14) := zMod.a10 h
theorem zMO.r15 {S : zS} {R : zMR} (h : zMO S R) : R 96 15 = some 106 := zMod.r15 h
theorem zMO.a15 {S : zS} {R : zMR} (h : zMO S R) : S[106]? = some (0, 78) := zMod.a15 h
def c1 : List Nat → Nat
  | [] => 0
  | a :: _ => a + 1
def c2 (c : List Nat) : Nat := c1 c.tail
def mSh (f : Nat → Int32) (o k : Nat) (s : Sh) : Prop := f (o + (1 + 6 * k + 0)) = nI (sx s) ∧ f (o + (1 + 6 * k + 1)) = nI (sy s) ∧ f (o + (1 + 6 * k + 2)) = nI (sx2 s) ∧ f (o + (1 + 6 * k + 3)) = nI (sy2 s) ∧ f (o + (1 + 6 * k + 4)) = nI (c1 (sc s)) ∧ f (o + (1 + 6 * k + 5)) = nI (c2 (sc s))
/-- the model's picture of a layout: 78 ints from o on -/
def zMb (f : Nat → Int32) (o : Nat) (v : Ly) : Prop := f o = nI v.1.length ∧ (∀ (k : Nat) (s : Sh), v.1[k]? = some s → mSh f o k s) ∧ f (o + 61) = nI (lD v) ∧ f (o + 62) = nI (lST v) ∧ f (o + 63) = nI (lCL v) ∧ ∀ p, p < 14 → f (o + (64 + p)) = nI (lfx v p)
theorem zMb.copy {f g : Nat → Int32} {o o2 : Nat} {v : Ly} (h : zMb f o v) (hl : v.1.length ≤ 10) (hg : ∀ k, k < 78 → g (o2 + k) = f (o + k)) : zMb g o2 v := by
  obtain ⟨h0, h1, h2, h3, h4, h5⟩ := h
  refine ⟨(hg 0 (by omega)).trans h0, fun k s hs => ?_, (hg 61 (by omega)).trans h2, (hg 62 (by omega)).trans h3, (hg 63 (by omega)).trans h4, fun p hp => (hg _ (by omega)).trans (h5 p hp)⟩
  have hk := getS_lt hs
  obtain ⟨a0, a1, a2, a3, a4, a5⟩ := h1 k s hs
  exact ⟨(hg _ (by omega)).trans a0, (hg _ (by omega)).trans a1, (hg _ (by omega)).trans a2, (hg _ (by omega)).trans a3, (hg _ (by omega)).trans a4, (hg _ (by omega)).trans a5⟩
def zMk (I : zMI) (i : Nat) (o : Option Ly) : Prop := (o = none ∧ I 100 i = nI 0) ∨ ∃ w, o = some w ∧ I 100 i = nI 1 ∧ zMb (I 99) (78 * i) w ∧ lyOk w
/-- the model's history and images -/
def zMR2 (I : zMI) (h : List Ly) (i0 i1 : Option Ly) : Prop := I 96 2 = nI h.length ∧ h.length ≤ 8 ∧ (∀ (i : Nat) (v : Ly), h[i]? = some v → zMb (I 98) (78 * i) v ∧ lyOk v) ∧ zMk I 0 i0 ∧ zMk I 1 i1
def zDM (I : zMI) (s : St) : Prop := zMb (I 97) 0 s.1 ∧ lyOk s.1 ∧ zMR2 I s.2.1 s.2.2.1 s.2.2.2
theorem zMk.frame {I J : zMI} {i : Nat} {o : Option Ly} (h : zMk I i o) (h1 : J 100 = I 100) (h2 : J 99 = I 99) : zMk J i o := by
  unfold zMk
  rw [h1, h2]
  exact h
theorem zMR2.frame {I J : zMI} {h : List Ly} {i0 i1 : Option Ly} (hr : zMR2 I h i0 i1) (h0 : J 96 2 = I 96 2) (h1 : J 98 = I 98) (h2 : J 99 = I 99) (h3 : J 100 = I 100) : zMR2 J h i0 i1 := by
  obtain ⟨g1, g2, g3, g4, g5⟩ := hr
  exact ⟨h0.trans g1, g2, by rw [h1]; exact g3, g4.frame h3 h2, g5.frame h3 h2⟩
/-- what the model's readings leave alone -/
def zMF (I J : zMI) : Prop := (∀ p, (p < 96 ∨ (97 ≤ p ∧ p ≤ 100) ∨ 106 ≤ p) → J p = I p) ∧ J 96 2 = I 96 2
theorem zMF.rfl {I : zMI} : zMF I I := ⟨fun _ _ => Eq.refl _, Eq.refl _⟩
theorem zMF.trans {I J K : zMI} (h : zMF I J) (h2 : zMF J K) : zMF I K := ⟨fun p hp => (h2.1 p hp).trans (h.1 p hp), h2.2.trans h.2⟩
theorem zDM.frame {I J : zMI} {s : St} (h : zDM I s) (hf : zMF I J) : zDM J s := by
  obtain ⟨h1, h2, h3⟩ := h
  exact ⟨by rw [hf.1 97 (by omega)]; exact h1, h2, h3.frame hf.2 (hf.1 98 (by omega)) (hf.1 99 (by omega)) (hf.1 100 (by omega))⟩
/-- the pieces are laid out -/
def zPm (I : zMI) (ps : List Pc) : Prop := I 96 5 = nI ps.length ∧ ∀ (p : Nat) (c : Pc), ps[p]? = some c → I 101 p = nI (qs c) ∧ I 102 p = nI (qx c) ∧ I 103 p = nI (qx2 c)
def zPM (I : zMI) (ps : List Pc) (D : Nat) : Prop := zPm I ps ∧ ∀ p, p < ps.length → I 104 p = nI (bm 14 (clb ps D p)) ∧ I 105 p = nI (bm 14 (beb ps p))
theorem pcF_sh {k : Nat} : ∀ (c : List Nat) (left x2 y y2 : Nat), ∀ d ∈ pcF k left c x2 y y2, qs d = k ∧ qy d = y ∧ qy2 d = y2
  | [], left, x2, y, y2, d, hd => by simp only [pcF, List.mem_singleton] at hd; subst hd; exact ⟨rfl, rfl, rfl⟩
  | a :: t, left, x2, y, y2, d, hd => by
    simp only [pcF, List.mem_cons] at hd
    rcases hd with rfl | hd
    · exact ⟨rfl, rfl, rfl⟩
    · exact pcF_sh t (a + 1) x2 y y2 d hd
theorem pcsF_sh : ∀ (l : List Sh) (k : Nat), ∀ d ∈ pcsF k l, ∃ sh, k ≤ qs d ∧ l[qs d - k]? = some sh ∧ qy d = sy sh ∧ qy2 d = sy2 sh
  | [], k, d, hd => by simp [pcsF] at hd
  | s :: t, k, d, hd => by
    simp only [pcsF, List.mem_append] at hd
    rcases hd with hd | hd
    · obtain ⟨h1, h2, h3⟩ := pcF_sh _ _ _ _ _ d hd
      exact ⟨s, by omega, by rw [h1]; simp, h2, h3⟩
    · obtain ⟨sh, h1, h2, h3, h4⟩ := pcsF_sh t (k + 1) d hd
      refine ⟨sh, by omega, ?_, h3, h4⟩
      rw [show qs d - k = (qs d - (k + 1)) + 1 from by omega, List.getElem?_cons_succ]
      exact h2
theorem pcs_sh {l : List Sh} {p : Nat} (hp : p < (pcs l).length) : ∃ sh, l[qs (pg (pcs l) p)]? = some sh ∧ qy (pg (pcs l) p) = sy sh ∧ qy2 (pg (pcs l) p) = sy2 sh := by
  obtain ⟨sh, h1, h2, h3, h4⟩ := pcsF_sh l 0 _ (List.mem_of_getElem? (getP hp))
  rw [Nat.sub_zero] at h2
  exact ⟨sh, h2, h3, h4⟩
theorem zPM.frame {I J : zMI} {ps : List Pc} {D : Nat} (h : zPM I ps D) (h1 : J 96 5 = I 96 5) (hf : ∀ p, 101 ≤ p → p ≤ 105 → J p = I p) : zPM J ps D := by
  unfold zPM zPm
  rw [h1, hf 101 (by omega) (by omega), hf 102 (by omega) (by omega), hf 103 (by omega) (by omega), hf 104 (by omega) (by omega), hf 105 (by omega) (by omega)]
  exact h
theorem zCat_s {x : Value} {l : List (Option Value)} (h : zCat l = true) (hx : x.category = 1 := by rfl) : zCat (some x :: l) = true := by
  simp only [zCat, List.all_cons, Bool.and_eq_true] at h ⊢
  exact ⟨by rw [hx]; rfl, h⟩
theorem zCat_a {a b : Option Value} {l : List (Option Value)} (h1 : zCat [a] = true) (h : zCat (b :: l) = true) : zCat (a :: b :: l) = true := by
  simp only [zCat, List.all_cons, List.all_nil, Bool.and_eq_true, Bool.and_true] at h h1 ⊢
  exact ⟨h1, h⟩
theorem l_i (x : Int32) : x.toInt64.toInt = x.toInt := by simp
theorem l_n {n : Nat} (h : n < 2147483648) : (nI n).toInt64.toInt = (n : Int) := by rw [l_i, nI_T h]
theorem l_z {z : Int} (h1 : -1000000 ≤ z) (h2 : z ≤ 1000000) : (zi z).toInt64.toInt = z := by rw [l_i, zi_T h1 h2]
theorem lcmp_lt {x y : Int64} : (lg_cmp x y).toInt < 0 ↔ x.toInt < y.toInt := by
  have h := lg_cmp_lt x y
  rw [Int32.lt_iff_toInt_lt, Int64.lt_iff_toInt_lt] at h
  exact h
theorem lcmp_gt {x y : Int64} : 0 < (lg_cmp x y).toInt ↔ y.toInt < x.toInt := by
  have h := lg_cmp_gt x y
  rw [Int32.lt_iff_toInt_lt, Int64.lt_iff_toInt_lt] at h
  exact h
theorem wlow_all0 : allB 11 (fun a => Nat.beq a 0 || Nat.beq (pcS (a &&& (a - 1)) + 1) (pcS a)) 0 = true := by decide +kernel
theorem wlow_all1 : allB 11 (fun a => Nat.beq a 0 || Nat.beq (pcS (a &&& (a - 1)) + 1) (pcS a)) 2048 = true := by decide +kernel
theorem wlow_all2 : allB 11 (fun a => Nat.beq a 0 || Nat.beq (pcS (a &&& (a - 1)) + 1) (pcS a)) 4096 = true := by decide +kernel
theorem wlow_all3 : allB 11 (fun a => Nat.beq a 0 || Nat.beq (pcS (a &&& (a - 1)) + 1) (pcS a)) 6144 = true := by decide +kernel
theorem wlow_all4 : allB 11 (fun a => Nat.beq a 0 || Nat.beq (pcS (a &&& (a - 1)) + 1) (pcS a)) 8192 = true := by decide +kernel
theorem wlow_all5 : allB 11 (fun a => Nat.beq a 0 || Nat.beq (pcS (a &&& (a - 1)) + 1) (pcS a)) 10240 = true := by decide +kernel
theorem wlow_all6 : allB 11 (fun a => Nat.beq a 0 || Nat.beq (pcS (a &&& (a - 1)) + 1) (pcS a)) 12288 = true := by decide +kernel
theorem wlow_all7 : allB 11 (fun a => Nat.beq a 0 || Nat.beq (pcS (a &&& (a - 1)) + 1) (pcS a)) 14336 = true := by decide +kernel
theorem popc_wl {a : Nat} (h : a < 16384) (h0 : a ≠ 0) : popc 14 (a &&& (a - 1)) + 1 = popc 14 a := by
  rw [popc_pcS, popc_pcS]
  have key : (Nat.beq a 0 || Nat.beq (pcS (a &&& (a - 1)) + 1) (pcS a)) = true := by
    rcases (show a < 2048 ∨ (2048 ≤ a ∧ a < 4096) ∨ (4096 ≤ a ∧ a < 6144) ∨ (6144 ≤ a ∧ a < 8192) ∨ (8192 ≤ a ∧ a < 10240) ∨ (10240 ≤ a ∧ a < 12288) ∨ (12288 ≤ a ∧ a < 14336) ∨ (14336 ≤ a ∧ a < 16384) from by omega) with q | q | q | q | q | q | q | q
    · exact allB_spec 11 _ 0 wlow_all0 a (by omega) (by omega)
    · exact allB_spec 11 _ _ wlow_all1 a q.1 (by omega)
    · exact allB_spec 11 _ _ wlow_all2 a q.1 (by omega)
    · exact allB_spec 11 _ _ wlow_all3 a q.1 (by omega)
    · exact allB_spec 11 _ _ wlow_all4 a q.1 (by omega)
    · exact allB_spec 11 _ _ wlow_all5 a q.1 (by omega)
    · exact allB_spec 11 _ _ wlow_all6 a q.1 (by omega)
    · exact allB_spec 11 _ _ wlow_all7 a q.1 (by omega)
  rw [Bool.or_eq_true] at key
  rcases key with k | k
  · exact absurd (Nat.eq_of_beq_eq_true k) h0
  · exact Nat.eq_of_beq_eq_true k
theorem apt_lt {a a2 b b2 : Nat} (h : a2 < b) (h1 : a ≤ a2) (h2 : b ≤ b2) : b - a2 = apt a a2 b b2 := by unfold apt; omega
theorem apt_gt {a a2 b b2 : Nat} (h : b2 < a) (h1 : a ≤ a2) (h2 : b ≤ b2) : a - b2 = apt a a2 b b2 := by unfold apt; omega
theorem apt_0 {a a2 b b2 : Nat} (h : b ≤ a2) (h1 : a ≤ b2) : 0 = apt a a2 b b2 := by unfold apt; omega
theorem c1_pos {x x2 : Nat} {c : List Nat} (h : cOk x x2 c) : (c1 c = 0 ∧ c2 c = 0 ∧ c = []) ∨ (c1 c ≠ 0 ∧ c2 c = 0 ∧ ∃ a, c = [a] ∧ c1 c = a + 1) ∨ (c1 c ≠ 0 ∧ c2 c ≠ 0 ∧ ∃ a b, c = [a, b] ∧ c1 c = a + 1 ∧ c2 c = b + 1) := by
  rcases h with rfl | ⟨a, rfl, h1, h2⟩ | ⟨a, b, rfl, h1, h2, h3⟩
  · exact Or.inl ⟨rfl, rfl, rfl⟩
  · exact Or.inr (Or.inl ⟨by simp [c1], rfl, a, rfl, rfl⟩)
  · exact Or.inr (Or.inr ⟨by simp [c1], by simp [c2, c1], a, b, rfl, rfl, rfl⟩)
theorem c1_le {x x2 : Nat} {c : List Nat} (h : cOk x x2 c) (hx : x2 ≤ 15) : c1 c ≤ 15 ∧ c2 c ≤ 15 := by
  rcases h with rfl | ⟨a, rfl, h1, h2⟩ | ⟨a, b, rfl, h1, h2, h3⟩
  · exact ⟨by simp [c1], by simp [c1, c2]⟩
  · exact ⟨by simp [c1]; omega, by simp [c1, c2]⟩
  · exact ⟨by simp [c1]; omega, by simp [c1, c2]; omega⟩

