/-! ===== new cells ===== -/
def zI0 (I : zMI) (n : Nat) : zMI := fun p j => if p = n then 0 else I p j
def zL0 (L : zML) (n : Nat) : zML := fun p j => if p = n then 0 else L p j
def zR0 (R : zMR) (n : Nat) : zMR := fun p j => if p = n then none else R p j
/-- what is referred to is there -/
def zWf (S : zS) (R : zMR) : Prop := ∀ p k q, p < S.length → R p k = some q → q < S.length
theorem zWf_new {S : zS} {R : zMR} {x : Nat × Nat} {b : Nat} (h : zWf S R) (hb : S.length = b) : zWf (S ++ [x]) (zR0 R b) := by
  subst hb
  intro p k q hp hr
  rw [List.length_append, List.length_singleton] at hp ⊢
  unfold zR0 at hr
  by_cases e : p = S.length
  · rw [if_pos e] at hr; cases hr
  · rw [if_neg e] at hr
    have := h p k q (by omega) hr
    omega
theorem zWf_put {S : zS} {R : zMR} {a k q : Nat} (h : zWf S R) (hq : q < S.length) : zWf S (zuR R a k (some q)) := by
  intro p j r hp hr
  unfold zuR at hr
  by_cases e : p = a ∧ j = k
  · rw [if_pos e] at hr; cases hr; exact hq
  · rw [if_neg e] at hr; exact h p j r hp hr
theorem zr_app {as : List Nat} {q p : Nat} (h : p < as.length) : zr (as ++ [q]) p = zr as p := by
  simp [zr, List.getD_eq_getElem?_getD, List.getElem?_append_left h]
theorem zr_last {as : List Nat} {q n : Nat} (h : as.length = n) : zr (as ++ [q]) n = q := by
  subst h
  simp [zr, List.getD_eq_getElem?_getD]
theorem zgt {S : zS} {b : Nat} {x y : Nat × Nat} (h : S[b]? = some x) : (S ++ [y])[b]? = some x := by
  rw [List.getElem?_append_left (zlt h)]; exact h
theorem zgl {S : zS} {b : Nat} {y : Nat × Nat} (h : S.length = b) : (S ++ [y])[b]? = some y := by
  subst h; simp
theorem zE_grow {G : zGt} {as : List Nat} {q : Nat} {S : zS} {x : Nat × Nat} {I : zMI} {L : zML} {R : zMR} (hl : as.length = S.length) (hw : zWf S R) {p : Nat} (hp : p < S.length) : zE G (zr (as ++ [q])) (S ++ [x]) (zI0 I S.length) (zL0 L S.length) (zR0 R S.length) p = zE G (zr as) S I L R p := by
  have hS : (S ++ [x])[p]? = S[p]? := List.getElem?_append_left hp
  have hne : p ≠ S.length := by omega
  have hI : zI0 I S.length p = I p := by funext j; simp [zI0, hne]
  have hL : zL0 L S.length p = L p := by funext j; simp [zL0, hne]
  have hR : zR0 R S.length p = R p := by funext j; simp [zR0, hne]
  have hρ : ∀ k, (R p k).map (zr (as ++ [q])) = (R p k).map (zr as) := by
    intro k
    cases e : R p k with
    | none => rfl
    | some r =>
      have := hw p k r hp e
      simp only [Option.map_some]
      rw [zr_app (by omega)]
  unfold zE zfs zF
  rw [hS, hI, hL, hR]
  simp only [hρ]
theorem zW_grow {G : zGt} {as : List Nat} {q : Nat} {S : zS} {x : Nat × Nat} {I : zMI} {L : zML} {R : zMR} (hl : as.length = S.length) (hw : zWf S R) : zW G (as ++ [q]) (S ++ [x]) (zI0 I S.length) (zL0 L S.length) (zR0 R S.length) = zW G as S I L R ++ [(q, zE G (zr (as ++ [q])) (S ++ [x]) (zI0 I S.length) (zL0 L S.length) (zR0 R S.length) S.length)] := by
  unfold zW
  rw [List.length_append, List.length_singleton, List.range_succ, List.map_append, hl]
  congr 1
  · apply List.map_congr_left
    intro p hp
    rw [List.mem_range] at hp
    rw [zr_app (by omega), zE_grow hl hw hp]
  · rw [List.map_singleton, zr_last hl]
theorem zOk_nil {n : Nat} : zOk n [] := fun v hv => by simp at hv
theorem zOk_r {n q : Nat} {st : List Value} (h : q < n) (t : zOk n st) : zOk n (.ref q :: st) := by
  intro v hv r e
  rcases List.mem_cons.mp hv with rfl | hv
  · cases e; exact h
  · exact t v hv r e
theorem zOk_i {n : Nat} {x : Int32} {st : List Value} (t : zOk n st) : zOk n (.int x :: st) := by
  intro v hv r e
  rcases List.mem_cons.mp hv with rfl | hv
  · cases e
  · exact t v hv r e
theorem zOk_a {n x : Nat} {st : List Value} (t : zOk n st) : zOk n (.retAddr x :: st) := by
  intro v hv r e
  rcases List.mem_cons.mp hv with rfl | hv
  · cases e
  · exact t v hv r e
theorem zA_int : Cond.arrayClass .int ∈ zT := zT_in 142 (by decide +kernel) (by decide +kernel)
theorem zA_bool : Cond.arrayClass .boolean ∈ zT := zT_in 765 (by decide +kernel) (by decide +kernel)
theorem zO_i : Cond.instanceMethod Lib.objectInit ∈ zT := zT_in 80 (by decide +kernel) (by decide +kernel)
theorem zO_c : Cond.code Lib.objectInit ⟨#[0xb1]⟩ 1 none ∈ zT := zT_in 81 (by decide +kernel) (by decide +kernel)
theorem kL_7 : Cond.classLink RL 7 RX5 ∈ zT := zT_in 74 (by decide +kernel) (by decide +kernel)
theorem kL_10 : Cond.classLink RL 10 RX6 ∈ zT := zT_in 710 (by decide +kernel) (by decide +kernel)
theorem kX5_7 : Cond.classLink RX5 7 RX2 ∈ zT := zT_in 82 (by decide +kernel) (by decide +kernel)
theorem kX5_16 : Cond.classLink RX5 16 RX4 ∈ zT := zT_in 143 (by decide +kernel) (by decide +kernel)
theorem kX5_23 : Cond.classLink RX5 23 RX3 ∈ zT := zT_in 194 (by decide +kernel) (by decide +kernel)
theorem kX5_32 : Cond.classLink RX5 32 RX0 ∈ zT := zT_in 204 (by decide +kernel) (by decide +kernel)
theorem kX5_52 : Cond.classLink RX5 52 RX1 ∈ zT := zT_in 238 (by decide +kernel) (by decide +kernel)
theorem kX1_9 : Cond.classLink RX1 9 RX2 ∈ zT := zT_in 244 (by decide +kernel) (by decide +kernel)
def zfs0 (ci : Nat) : List Value := zfs (fun x => x) (fun _ _ => 0) (fun _ _ => 0) (fun _ _ => none) ci 0
theorem zfs_0 {ρ : Nat → Nat} {I : zMI} {L : zML} {R : zMR} {ci n : Nat} : zfs ρ (zI0 I n) (zL0 L n) (zR0 R n) ci n = zfs0 ci := by
  unfold zfs0 zfs zF
  simp [zI0, zL0, zR0]
section ZNew
variable {g : zG} {Post : zPost} {u : Nat × Nat} {S : zS} {I : zMI} {L : zML} {R : zMR} {pc pc2 : Nat} {lv : List (Option Value)} {st : List Value}
theorem zGo {x : Nat × Nat} {u2 : Nat × Nat} {p : Program} {l : Launch} {e : Env} {Rm : Room} {s : State} {m : MethodId} {args : Array Value} {below : List Frame} {meth : Method} {c : Code} {D : va_G} {G : zGt} {as : List Nat} {A : Nat → Prop} {H H1 : Heap} {locs1 : List Loc} {ls : Array Slot} {Q : State → Prop} {q : Nat} {en : va_E}
    (kk : zV g Post u2 (S ++ [x]) (zI0 I S.length) (zL0 L S.length) (zR0 R S.length) pc2 lv (.ref S.length :: st)) (hw : zWf S R) (hok : zOk S.length st ∧ zOk S.length (lv.filterMap id)) (hX : zX g p l e Rm s m args meth c A) (hS1 : va_S A s.heap H1 locs1) (hR : zRep D G as A S I L R H s) (hL : zH ls g.2.2.1 as lv) (hE : zEnd g Post p l e Rm s m args below meth c D G as A Q)
    (he : zE G (zr (as ++ [q])) (S ++ [x]) (zI0 I S.length) (zL0 L S.length) (zR0 R S.length) S.length = en) (hP : va_P D vwCl (zW G as S I L R ++ [(q, en)]) H1) (hD : va_D A (zW G as S I L R ++ [(q, en)])) : W p l e Rm s m args below meth c H1 locs1 u2.1 u2.2 Q (F0 m pc2 ls (.ref q :: st.map (zc as))) := by
  have hpre : as <+: as ++ [q] := ⟨[q], rfl⟩
  have hR2 : zRep D G (as ++ [q]) A (S ++ [x]) (zI0 I S.length) (zL0 L S.length) (zR0 R S.length) H1 s := by
    refine ⟨by rw [List.length_append, List.length_append, hR.1]; rfl, ?_, ?_, hR.2.2.2⟩
    · rw [zW_grow hR.1 hw, he]; exact hP
    · rw [zW_grow hR.1 hw, he]; exact hD
  have hok1 : zOk as.length st := by rw [hR.1]; exact hok.1
  have hok2 : zOk as.length (lv.filterMap id) := by rw [hR.1]; exact hok.2
  have z := kk p l e Rm s m args below meth c D G (as ++ [q]) A H1 locs1 ls Q hX hS1 hR2 (zH_ok hpre hL hok2) (hE.mono hpre)
  rw [List.map_cons, zOk_map hpre hok1] at z
  have e1 : zc (as ++ [q]) (.ref S.length) = .ref q := by
    show Value.ref (zr (as ++ [q]) S.length) = .ref q
    rw [zr_last hR.1]
  rw [e1] at z
  exact z
theorem z_newi {N b : Nat} (hd : zD g.2.1 pc (.newarray .int) 2 pc2) (hb : S.length = b) (hw : zWf S R) (hN : N ≤ 1000) (hu : u.1 + 1 ≤ g.2.2.2.2.2.2.1.1 ∧ u.2 + N ≤ g.2.2.2.2.2.2.1.2) (hok : zOk b st ∧ zOk b (lv.filterMap id)) (kk : zV g Post (u.1 + 1, u.2 + N) (S ++ [(0, N)]) (zI0 I b) (zL0 L b) (zR0 R b) pc2 lv (.ref b :: st)) : zV g Post u S I L R pc lv (.int (nI N) :: st) := by
  intro p l e Rm s m args below meth c D G as A H locs ls Q hX hS hR hL hE
  obtain ⟨hd, rfl⟩ := hd
  subst hb
  have hx := hX
  obtain ⟨x1, x2, x3, x4, x5, x6, x7, x8, x9, x10, x11, x12, x13, x14, x15⟩ := hx
  refine va_newa (atype := .int) (ty := .int) (a0 := (N, .inl (fun _ => 0))) x1 x2 (x7 _ zA_int) rfl hR.2.2.2 hR.2.1 hR.2.2.1 hS x14 (fun cA => rfl) (fun h => (vp_in_nI (n := N) (N := N + 1) (by omega) (by omega)) (Or.inl h)) (nI_clamp (by omega)) (by show N * 4 ≤ _; omega) (by rw [x11]; exact hu.1) (by rw [x12]; exact hu.2) hd (fun q cA H1 hK1 hP1 hD1 hS1 => ?_)
  have hc : cA = G.1 := Option.some.inj ((va_nm_int (hK1.2 3 (cA, .int) rfl).2).symm.trans (va_nm_int (hR.2.2.2.2 0 (G.1, .int) rfl).2))
  subst hc
  refine zGo kk hw hok hX hS1 hR hL hE ?_ hP1 hD1
  rw [zE_int (zgl rfl)]
  congr 4
  funext j
  simp [zI0]
theorem z_newz {N b : Nat} (hd : zD g.2.1 pc (.newarray .boolean) 2 pc2) (hb : S.length = b) (hw : zWf S R) (hN : N ≤ 1000) (hu : u.1 + 1 ≤ g.2.2.2.2.2.2.1.1 ∧ u.2 + N ≤ g.2.2.2.2.2.2.1.2) (hok : zOk b st ∧ zOk b (lv.filterMap id)) (kk : zV g Post (u.1 + 1, u.2 + N) (S ++ [(1, N)]) (zI0 I b) (zL0 L b) (zR0 R b) pc2 lv (.ref b :: st)) : zV g Post u S I L R pc lv (.int (nI N) :: st) := by
  intro p l e Rm s m args below meth c D G as A H locs ls Q hX hS hR hL hE
  obtain ⟨hd, rfl⟩ := hd
  subst hb
  have hx := hX
  obtain ⟨x1, x2, x3, x4, x5, x6, x7, x8, x9, x10, x11, x12, x13, x14, x15⟩ := hx
  refine va_newa (atype := .boolean) (ty := .boolean) (a0 := (N, .inl (fun _ => 0))) x1 x2 (x7 _ zA_bool) rfl hR.2.2.2 hR.2.1 hR.2.2.1 hS x14 (fun cA => rfl) (fun h => (vp_in_nI (n := N) (N := N + 1) (by omega) (by omega)) (Or.inl h)) (nI_clamp (by omega)) (by show N * 1 ≤ _; omega) (by rw [x11]; exact hu.1) (by rw [x12]; exact hu.2) hd (fun q cA H1 hK1 hP1 hD1 hS1 => ?_)
  have hc : cA = G.2.1 := Option.some.inj ((va_nm_boolean (hK1.2 3 (cA, .boolean) rfl).2).symm.trans (va_nm_boolean (hR.2.2.2.2 1 (G.2.1, .boolean) rfl).2))
  subst hc
  refine zGo kk hw hok hX hS1 hR hL hE ?_ hP1 hD1
  rw [zE_bool (zgl rfl)]
  congr 4
  funext j
  simp [zI0]
theorem z_newq {N b idx : Nat} (hd : zD g.2.1 pc (.anewarray idx) 3 pc2) (hlk : Cond.classLink g.1 idx RX2 ∈ zT) (hb : S.length = b) (hw : zWf S R) (hN : N ≤ 1000) (hu : u.1 + 1 ≤ g.2.2.2.2.2.2.1.1 ∧ u.2 + N ≤ g.2.2.2.2.2.2.1.2) (hok : zOk b st ∧ zOk b (lv.filterMap id)) (kk : zV g Post (u.1 + 1, u.2 + N) (S ++ [(2, N)]) (zI0 I b) (zL0 L b) (zR0 R b) pc2 lv (.ref b :: st)) : zV g Post u S I L R pc lv (.int (nI N) :: st) := by
  intro p l e Rm s m args below meth c D G as A H locs ls Q hX hS hR hL hE
  obtain ⟨hd, rfl⟩ := hd
  subst hb
  have hx := hX
  obtain ⟨x1, x2, x3, x4, x5, x6, x7, x8, x9, x10, x11, x12, x13, x14, x15⟩ := hx
  refine va_newq (C := RX2) x1 x2 x6 (x7 _ hlk) x13.2 hR.2.2.2 hR.2.1 hR.2.2.1 hS x14 (fun h => (vp_in_nI (n := N) (N := N + 1) (by omega) (by omega)) (Or.inl h)) (nI_clamp (by omega)) (by omega) (by rw [x11]; exact hu.1) (by rw [x12]; exact hu.2) hd (fun q cA H1 hK1 hP1 hD1 hS1 => ?_)
  have hc : cA = G.2.2 := by
    obtain ⟨-, k1, c1, -, -, -, h1⟩ := hK1.2 3 (cA, .object RX2) rfl
    obtain ⟨-, k2, c2, -, -, -, h2⟩ := hR.2.2.2.2 2 (G.2.2, .object RX2) rfl
    exact Option.some.inj (h1.symm.trans h2)
  subst hc
  refine zGo kk hw hok hX hS1 hR hL hE ?_ hP1 hD1
  rw [zE_refs (zgl rfl)]
  congr 7
  funext j
  simp [zR0]
theorem z_newo {idx ci N b : Nat} {C : String} {T : u_T} {ty : Nat → FieldType} (hd : zD g.2.1 pc (.new idx) 3 pc2) (hcl : zCl ci C T N ty) (hlk : Cond.classLink g.1 idx C ∈ zT) (hdf : ∀ j, j < N → defaultValue (ty j) = vp_V (zfs0 ci) j) (hb : S.length = b) (hw : zWf S R) (hu : u.1 + 1 ≤ g.2.2.2.2.2.2.1.1 ∧ u.2 + N ≤ g.2.2.2.2.2.2.1.2) (hok : zOk b st ∧ zOk b (lv.filterMap id)) (kk : zV g Post (u.1 + 1, u.2 + N) (S ++ [(ci + 3, 0)]) (zI0 I b) (zL0 L b) (zR0 R b) pc2 lv (.ref b :: st)) : zV g Post u S I L R pc lv st := by
  intro p l e Rm s m args below meth c D G as A H locs ls Q hX hS hR hL hE
  obtain ⟨hd, rfl⟩ := hd
  subst hb
  have hx := hX
  obtain ⟨x1, x2, x3, x4, x5, x6, x7, x8, x9, x10, x11, x12, x13, x14, x15⟩ := hx
  obtain ⟨hc, hin, hty, hnm, hN, hinst, hini⟩ := hcl
  refine va_new (ci := ci) (fs := zfs0 ci) x1 x2 x7 hin ty hty x6 (x7 _ hlk) (x7 _ hinst) (x7 _ hini) hR.2.2.2 hR.2.1 hR.2.2.1 hS x14 hc hdf (by rw [x11]; exact hu.1) (by rw [x12]; exact hu.2) hd (fun q H1 hP1 hD1 hS1 => ?_)
  refine zGo kk hw hok hX hS1 hR hL hE ?_ hP1 hD1
  rw [zE_obj (zgl rfl), zfs_0]
theorem z_putR {idx ci k a w q : Nat} (hd : zD g.2.1 pc (.putfield idx) 3 pc2) (hf : zFL g.1 idx ci k 2 true) (hini : g.2.2.2.2.1 = true) (hdc : ∀ C T N, vwCl[ci]? = some (C, T, N) → (T k).1 = g.1) (hs : S[a]? = some (ci + 3, w)) (kk : zV g Post u S I L (zuR R a k (some q)) pc2 lv st) : zV g Post u S I L R pc lv (.ref q :: .ref a :: st) := by
  intro p l e Rm s m args below meth c D G as A H locs ls Q hX hS hR hL hE
  obtain ⟨hd, rfl⟩ := hd
  obtain ⟨C, T, N, ty, ⟨hc, hin, hty, hnm, hN, -, -⟩, hk, hlk, hfin, hkd, h0, h1, h2, h3⟩ := hf
  have he := hR.at hs
  rw [zE_obj hs] at he
  subst hN
  have hkd2 : zkd ci k = 2 := hkd
  refine va_putF (v := .ref (zr as q)) (ty := ty k) hX.1 hX.2.1 hX.2.2.2.2.2.2.1 hin ty hty hnm hX.2.2.2.2.2.1 hR.2.2.2 hR.2.1 hR.2.2.1 hS a he hc k hk (hX.2.2.2.2.2.2.1 _ hlk) (fun _ h => h) hfin (hX.2.2.2.2.2.2.2.1 hini) (hdc _ _ _ hc) (hty k hk) (by rcases h2 rfl with ⟨n, h⟩ | ⟨t, h⟩ <;> rw [h] <;> rfl) (by rcases h2 rfl with ⟨n, h⟩ | ⟨t, h⟩ <;> rw [h] <;> rfl) (by rw [zfs_len]; exact hk) hd (fun H1 locs1 hP1 hD1 hS1 => ?_)
  refine kk p l e Rm s m args below meth c D G as A H1 locs1 ls Q hX hS1 (hR.put ((zE_obj hs).trans ?_) (fun q hq => (zE_congr rfl rfl (zuR_ne hq))) hP1 hD1) hL hE
  exact congrArg (fun l => Sum.inr (ci, l)) (zfs_set (by simp [zF, hkd2, zuR, va_rf]) (fun j hj => by simp [zF, zuR, hj])).symm
theorem z_aast {a n q w : Nat} {i : Int32} (j : Nat) (hd : zD g.2.1 pc .aastore 1 pc2) (hs : S[a]? = some (2, n)) (hi : i = nI j) (hj : j < n) (hn : n < 2 ^ 31) (hq : S[q]? = some (2 + 3, w)) (kk : zV g Post u S I L (zuR R a j (some q)) pc2 lv st) : zV g Post u S I L R pc lv (.ref q :: .int i :: .ref a :: st) := by
  intro p l e Rm s m args below meth c D G as A H locs ls Q hX hS hR hL hE
  obtain ⟨hd, rfl⟩ := hd
  have he := hR.at hs
  rw [zE_refs hs] at he
  have hv := hR.at hq
  rw [zE_obj hq] at hv
  have hcl : i.toNatClampNeg = j := by rw [hi]; exact nI_clamp (by omega)
  refine va_astq hX.1 hX.2.1 hR.2.2.2 hR.2.1 hR.2.2.1 hS a 2 q 2 (r := (RX2, TX2, 11)) he rfl hv rfl (by rw [hi]; exact vp_in_nI hj hn) hd (fun H1 locs1 hP1 hD1 hS1 => ?_)
  rw [hcl] at hP1 hD1
  refine kk p l e Rm s m args below meth c D G as A H1 locs1 ls Q hX hS1 (hR.put ((zE_refs hs).trans ?_) (fun q hq => (zE_congr rfl rfl (zuR_ne hq))) hP1 hD1) hL hE
  congr 7
  funext x
  unfold va_up zuR
  by_cases ex : x = j
  · subst ex; simp
  · simp [ex]
theorem z_objI {b idx : Nat} (hd : zD g.2.1 pc (.invokespecial idx) 3 pc2) (hl : Cond.methodLink g.1 idx Lib.objectInit ∈ zT) (hdp : 1 ≤ g.2.2.2.2.2.1) (hst : (st.map fun v => v.category).sum ≤ 8) (kk : zV g Post u S I L R pc2 lv st) : zV g Post u S I L R pc lv (.ref b :: st) := by
  intro p l e Rm s m args below meth c D G as A H locs ls Q hX hS hR hL hE
  obtain ⟨hd, rfl⟩ := hd
  have hx := hX
  obtain ⟨x1, x2, x3, x4, x5, x6, x7, x8, x9, x10, x11, x12, x13, x14, x15⟩ := hx
  have hroom : 2 * (F0 m pc ls ((Value.ref b :: st).map (zc as))).monitorRoom + ((st.map (zc as)).map fun v => v.category).sum ≤ 8 := lv_room (by rw [zc_cats]; exact hst)
  exact W.objInit x1 x2 x6 (x7 _ hl) (x7 _ zO_i) (x7 _ zO_c) rfl (by rw [x5]; exact hL.1) rfl hd (by omega) (by omega) (kk p l e Rm s m args below meth c D G as A H locs ls Q hX hS hR hL hE)
end ZNew
