/-! ===== the abstract memory: places 0, 1, .. ; a shape a place; ints, longs, references by place and index ===== -/
abbrev zS : Type := List (Nat × Nat)
abbrev zMI : Type := Nat → Nat → Int32
abbrev zML : Type := Nat → Nat → Int64
abbrev zMR : Type := Nat → Nat → Option Nat
abbrev zGt : Type := ClassId × ClassId × ClassId
def zu (I : zMI) (p k : Nat) (v : Int32) : zMI := fun q j => if q = p ∧ j = k then v else I q j
def zuL (I : zML) (p k : Nat) (v : Int64) : zML := fun q j => if q = p ∧ j = k then v else I q j
def zuR (I : zMR) (p k : Nat) (v : Option Nat) : zMR := fun q j => if q = p ∧ j = k then v else I q j
def zKD : List (List Nat) := [[2, 0, 0, 0, 0, 0, 0, 0], [2, 0, 0], [2, 2, 2, 2, 2, 0, 0, 0, 0, 0, 0], [2], [2, 2, 2, 2, 2, 2, 2, 2, 0, 0, 0], [2, 2, 2, 2, 0, 2, 2, 2, 2, 2, 2, 0, 0], [2, 2, 0, 2, 2, 0, 2, 2, 2, 2, 2, 0, 0, 0, 1, 2]]
def zkd (ci k : Nat) : Nat := (zKD.getD ci []).getD k 0
def zN (ci : Nat) : Nat := (zKD.getD ci []).length
def zF (ρ : Nat → Nat) (I : zMI) (L : zML) (R : zMR) (ci p k : Nat) : Value := if zkd ci k = 0 then .int (I p k) else if zkd ci k = 1 then .long (L p k) else va_rf ((R p k).map ρ)
def zfs (ρ : Nat → Nat) (I : zMI) (L : zML) (R : zMR) (ci p : Nat) : List Value := (List.range (zN ci)).map (zF ρ I L R ci p)
def zE (G : zGt) (ρ : Nat → Nat) (S : zS) (I : zMI) (L : zML) (R : zMR) (p : Nat) : va_E :=
  match S[p]? with
  | some (0, n) => .inl (G.1, n, .inl (I p))
  | some (1, n) => .inl (G.2.1, n, .inl (I p))
  | some (2, n) => .inl (G.2.2, n, .inr (.inr (.inr (.inr (fun i => (R p i).map ρ)))))
  | some (ci + 3, _) => .inr (ci, zfs ρ I L R ci p)
  | none => .inr (0, [])
def zr (as : List Nat) : Nat → Nat := fun q => as.getD q 0
def zW (G : zGt) (as : List Nat) (S : zS) (I : zMI) (L : zML) (R : zMR) : va_W := (List.range as.length).map (fun p => (zr as p, zE G (zr as) S I L R p))
def zc (as : List Nat) : Value → Value
  | .ref k => .ref (zr as k)
  | .retAddr k => .ref k
  | v => v
theorem zc_cat (as : List Nat) (v : Value) : (zc as v).category = v.category := by cases v <;> rfl
theorem zc_cats (as : List Nat) (st : List Value) : ((st.map (zc as)).map fun v => v.category).sum = (st.map fun v => v.category).sum := by
  rw [List.map_map]
  congr 1
  exact List.map_congr_left (fun v _ => zc_cat as v)
theorem zW_get {G : zGt} {as : List Nat} {S : zS} {I : zMI} {L : zML} {R : zMR} {p : Nat} (h : p < as.length) : (zW G as S I L R)[p]? = some (zr as p, zE G (zr as) S I L R p) := by
  simp [zW, h]
theorem zW_len {G : zGt} {as : List Nat} {S : zS} {I : zMI} {L : zML} {R : zMR} : (zW G as S I L R).length = as.length := by simp [zW]
theorem zW_set {G : zGt} {as : List Nat} {S : zS} {I I2 : zMI} {L L2 : zML} {R R2 : zMR} {p : Nat} (hne : ∀ q, q ≠ p → zE G (zr as) S I2 L2 R2 q = zE G (zr as) S I L R q) :
    (zW G as S I L R).set p (zr as p, zE G (zr as) S I2 L2 R2 p) = zW G as S I2 L2 R2 := by
  apply List.ext_getElem?
  intro q
  by_cases hq : q < as.length
  · rw [zW_get hq]
    by_cases e : q = p
    · subst e
      rw [List.getElem?_set_self (by rw [zW_len]; exact hq)]
    · rw [List.getElem?_set_ne (Ne.symm e), zW_get hq, hne q e]
  · rw [List.getElem?_eq_none (by rw [List.length_set, zW_len]; omega), List.getElem?_eq_none (by rw [zW_len]; omega)]
theorem zu_ne {I : zMI} {p k q : Nat} {v : Int32} (h : q ≠ p) : zu I p k v q = I q := by
  funext j; simp [zu, h]
theorem zuL_ne {I : zML} {p k q : Nat} {v : Int64} (h : q ≠ p) : zuL I p k v q = I q := by
  funext j; simp [zuL, h]
theorem zuR_ne {I : zMR} {p k q : Nat} {v : Option Nat} (h : q ≠ p) : zuR I p k v q = I q := by
  funext j; simp [zuR, h]
theorem zu_at {I : zMI} {p k : Nat} {v : Int32} : zu I p k v p = upd (I p) k v := by
  funext j; simp [zu, upd]
theorem zuR_at {I : zMR} {p k : Nat} {v : Option Nat} : zuR I p k v p = va_up (I p) k v := by
  funext j; simp [zuR, va_up]
theorem zu_same {I : zMI} {p k : Nat} {v : Int32} : zu I p k v p k = v := by simp [zu]
theorem zu_nk {I : zMI} {p k q j : Nat} {v : Int32} (h : q ≠ p ∨ j ≠ k) : zu I p k v q j = I q j := by
  unfold zu
  rw [if_neg]
  rintro ⟨h1, h2⟩
  rcases h with h | h
  · exact h h1
  · exact h h2
theorem zE_congr {G : zGt} {ρ : Nat → Nat} {S : zS} {I I2 : zMI} {L L2 : zML} {R R2 : zMR} {q : Nat} (h1 : I2 q = I q) (h2 : L2 q = L q) (h3 : R2 q = R q) : zE G ρ S I2 L2 R2 q = zE G ρ S I L R q := by
  unfold zE zfs zF
  rw [h1, h2, h3]
/-- the classes' tables -/
def zCl (ci : Nat) (C : String) (T : u_T) (N : Nat) (ty : Nat → FieldType) : Prop := vwCl[ci]? = some (C, T, N) ∧ (∀ w ∈ u_ws C T N, w ∈ zT) ∧ (∀ k, k < N → parseFieldDescriptor (T k).2.2.1 = some (ty k)) ∧ (∀ a, a < N → ∀ b, b < N → a ≠ b → (T a).2.1 ≠ (T b).2.1) ∧ N = zN ci ∧ Cond.instantiable C N ∈ zT ∧ Cond.initialized C ∈ zT
/-- a field by its pool entry: class, place, kind (0 int, 1 long, 2 reference, 3 boolean), final -/
def zFL (own : String) (idx ci k kd : Nat) (fin : Bool) : Prop := ∃ (C : String) (T : u_T) (N : Nat) (ty : Nat → FieldType), zCl ci C T N ty ∧ k < N ∧ Cond.fieldLink own idx (T k).1 (T k).2.1 (T k).2.2.1 ∈ zT ∧ (T k).2.2.2 = fin ∧ zkd ci k = (if kd = 3 then 0 else kd) ∧ (kd = 0 → ty k = .int) ∧ (kd = 1 → ty k = .long) ∧ (kd = 2 → (∃ n, ty k = .object n) ∨ ∃ t, ty k = .array t) ∧ (kd = 3 → ty k = .boolean)
def zTy (G : zGt) : List (ClassId × FieldType) := [(G.1, .int), (G.2.1, .boolean), (G.2.2, .object RX2)]
def zRep (D : va_G) (G : zGt) (as : List Nat) (A : Nat → Prop) (S : zS) (I : zMI) (L : zML) (R : zMR) (H : Heap) (s : State) : Prop :=
  as.length = S.length ∧ va_P D vwCl (zW G as S I L R) H ∧ va_D A (zW G as S I L R) ∧ va_K D vwCl (zTy G) s
def zH (ls : Array Slot) (nL : Nat) (as : List Nat) (lv : List (Option Value)) : Prop := ls.size = nL ∧ lv_wf ls ∧ lv.length ≤ nL ∧ ∀ (i : Nat) (v : Value), lv[i]? = some (some v) → ls[i]? = some (.val (zc as v))
def zNest : List Cond := [.methodLinkNest "TwoMasks" 9 ⟨"TwoMasks$Layout", "<init>", "()V"⟩ "TwoMasks", .methodLinkNest "TwoMasks" 18 ⟨"TwoMasks$Pieces", "<init>", "()V"⟩ "TwoMasks", .methodLinkNest "TwoMasks$History" 24 ⟨"TwoMasks$Layout", "<init>", "()V"⟩ "TwoMasks", .methodLinkNest "TwoMasks$Layout" 97 ⟨"TwoMasks", "isPlace", "(I)Z"⟩ "TwoMasks", .methodLinkNest "TwoMasks$Pieces" 57 ⟨"TwoMasks", "lowestOf", "(I)I"⟩ "TwoMasks", .methodLinkNest "TwoMasks$Pieces" 65 ⟨"TwoMasks", "withoutLowest", "(I)I"⟩ "TwoMasks"]
def zNw (s : State) : Prop := (∀ w ∈ zNest, va_Nw w s) ∧ va_AO RX2 s
def zSc (sc : Option (Nat × Nat × (Nat → Int32))) (A : Nat → Prop) (s : State) : Prop := match sc with
  | none => True
  | some q => va_X q.1 q.2.1 q.2.2 s s.heap ∧ q.1 < s.heap.size ∧ ¬ A q.1
/-- a method's own numbers: class, code, locals, answer's type, a constructor or not, depth, new cells and slots in all, the script -/
abbrev zG : Type := String × ByteArray × Nat × Option FieldType × Bool × Nat × (Nat × Nat) × Option (Nat × Nat × (Nat → Int32))
abbrev zMt (own : String) (cc : ByteArray) (nL : Nat) (rt : Option FieldType) (d : Nat) : zG := (own, cc, nL, rt, false, d, (0, 0), none)
def zX (g : zG) (p : Program) (l : Launch) (e : Env) (Rm : Room) (s : State) (m : MethodId) (args : Array Value) (meth : Method) (c : Code) (A : Nat → Prop) : Prop :=
  p.tables.exec = Jvm.exec ∧ c.code = g.2.1 ∧ meth.sig.returnType = g.2.2.2.1 ∧ meth.locks = false ∧ c.maxLocals = g.2.2.1 ∧ s.vm.findClass g.1 = some m.cls ∧ (∀ w ∈ zT, w.before args s = true) ∧ (g.2.2.2.2.1 = true → meth.name = "<init>") ∧ g.2.2.2.2.2.1 ≤ Rm.frames ∧ 40 * g.2.2.2.2.2.1 ≤ Rm.locals ∧ Rm.cells = g.2.2.2.2.2.2.1.1 ∧ Rm.slots = g.2.2.2.2.2.2.1.2 ∧ zNw s ∧ (∀ q : Nat, s.heap.size ≤ q → A q) ∧ zSc g.2.2.2.2.2.2.2 A s
abbrev zPost : Type := zS → zMI → zML → zMR → Option Value → Prop
def zri : Option Value → Instr
  | none => .return_
  | some (.ref _) => .areturn
  | some _ => .ireturn
def zVr : Option FieldType → Option Value → Prop
  | none, none => True
  | some ty, some (.int v) => narrow ty (.int v) = .int v
  | some (.object _), some (.ref _) => True
  | _, _ => False
def zEnd (g : zG) (Post : zPost) (p : Program) (l : Launch) (e : Env) (Rm : Room) (s : State) (m : MethodId) (args : Array Value) (below : List Frame) (meth : Method) (c : Code) (D : va_G) (G : zGt) (as : List Nat) (A : Nat → Prop) (Q : State → Prop) : Prop :=
  ∀ (S : zS) (I : zMI) (L : zML) (R : zMR) (r : Option Value) (as2 : List Nat) (H : Heap) (locs : List Loc) (pc : Nat) (ls : Array Slot), decode g.2.1 pc = .ok (zri r, 1) → Post S I L R r → zVr g.2.2.2.1 r → as <+: as2 → zRep D G as2 A S I L R H s → va_S A s.heap H locs →
    W p l e Rm s m args below meth c H locs g.2.2.2.2.2.2.1.1 g.2.2.2.2.2.2.1.2 Q (F0 m pc ls (r.toList.map (zc as2)))
/-- THE JUDGEMENT: at pc, with these locals, stack and memory, the method comes to its end with Post -/
def zV (g : zG) (Post : zPost) (u : Nat × Nat) (S : zS) (I : zMI) (L : zML) (R : zMR) (pc : Nat) (lv : List (Option Value)) (st : List Value) : Prop :=
  ∀ (p : Program) (l : Launch) (e : Env) (Rm : Room) (s : State) (m : MethodId) (args : Array Value) (below : List Frame) (meth : Method) (c : Code) (D : va_G) (G : zGt) (as : List Nat) (A : Nat → Prop) (H : Heap) (locs : List Loc) (ls : Array Slot) (Q : State → Prop),
    zX g p l e Rm s m args meth c A → va_S A s.heap H locs → zRep D G as A S I L R H s → zH ls g.2.2.1 as lv → zEnd g Post p l e Rm s m args below meth c D G as A Q →
    W p l e Rm s m args below meth c H locs u.1 u.2 Q (F0 m pc ls (st.map (zc as)))
section ZRules
variable {g : zG} {Post : zPost} {u : Nat × Nat} {S : zS} {I : zMI} {L : zML} {R : zMR} {pc pc2 : Nat} {lv : List (Option Value)} {st : List Value}
theorem z_iconst {n : Int} (v : Int32) (hd : zD g.2.1 pc (.iconst n) 1 pc2) (hv : Int32.ofInt n = v) (k : zV g Post u S I L R pc2 lv (.int v :: st)) : zV g Post u S I L R pc lv st := by
  intro p l e Rm s m args below meth c D G as A H locs ls Q hX hS hR hL hE
  obtain ⟨hd, rfl⟩ := hd
  exact lv_iconst hX.1 hX.2.1 hd hv (k p l e Rm s m args below meth c D G as A H locs ls Q hX hS hR hL hE)
theorem z_bipush {n : Int} (v : Int32) (hd : zD g.2.1 pc (.bipush n) 2 pc2) (hv : (Int8.ofInt n).toInt32 = v) (k : zV g Post u S I L R pc2 lv (.int v :: st)) : zV g Post u S I L R pc lv st := by
  intro p l e Rm s m args below meth c D G as A H locs ls Q hX hS hR hL hE
  obtain ⟨hd, rfl⟩ := hd
  exact lv_bipush hX.1 hX.2.1 hd hv (k p l e Rm s m args below meth c D G as A H locs ls Q hX hS hR hL hE)
theorem z_sipush {n : Int} (v : Int32) (hd : zD g.2.1 pc (.sipush n) 3 pc2) (hv : (Int16.ofInt n).toInt32 = v) (k : zV g Post u S I L R pc2 lv (.int v :: st)) : zV g Post u S I L R pc lv st := by
  intro p l e Rm s m args below meth c D G as A H locs ls Q hX hS hR hL hE
  obtain ⟨hd, rfl⟩ := hd
  exact lv_sipush hX.1 hX.2.1 hd hv (k p l e Rm s m args below meth c D G as A H locs ls Q hX hS hR hL hE)
theorem z_lconst {n : Fin 2} (v : Int64) (hd : zD g.2.1 pc (.lconst n) 1 pc2) (hv : Int64.ofNat (n : Nat) = v) (k : zV g Post u S I L R pc2 lv (.long v :: st)) : zV g Post u S I L R pc lv st := by
  intro p l e Rm s m args below meth c D G as A H locs ls Q hX hS hR hL hE
  obtain ⟨hd, rfl⟩ := hd
  exact lv_lconst hX.1 hX.2.1 hd hv (k p l e Rm s m args below meth c D G as A H locs ls Q hX hS hR hL hE)
theorem z_ldc {idx : Nat} {v : Int32} (hd : zD g.2.1 pc (.ldc idx) 2 pc2) (hc : Cond.constant g.1 idx v ∈ zT) (k : zV g Post u S I L R pc2 lv (.int v :: st)) : zV g Post u S I L R pc lv st := by
  intro p l e Rm s m args below meth c D G as A H locs ls Q hX hS hR hL hE
  obtain ⟨hd, rfl⟩ := hd
  exact lv_ldc hX.1 hX.2.1 hX.2.2.2.2.2.1 (hX.2.2.2.2.2.2.1 _ hc) hd (k p l e Rm s m args below meth c D G as A H locs ls Q hX hS hR hL hE)
theorem z_ldcw {idx : Nat} {v : Int32} (hd : zD g.2.1 pc (.ldc_w idx) 3 pc2) (hc : Cond.constant g.1 idx v ∈ zT) (k : zV g Post u S I L R pc2 lv (.int v :: st)) : zV g Post u S I L R pc lv st := by
  intro p l e Rm s m args below meth c D G as A H locs ls Q hX hS hR hL hE
  obtain ⟨hd, rfl⟩ := hd
  exact lv_ldcw hX.1 hX.2.1 hX.2.2.2.2.2.1 (hX.2.2.2.2.2.2.1 _ hc) hd (k p l e Rm s m args below meth c D G as A H locs ls Q hX hS hR hL hE)
theorem z_ldc2 {idx : Nat} {v : Int64} (hd : zD g.2.1 pc (.ldc2_w idx) 3 pc2) (hc : Cond.constantLong g.1 idx v ∈ zT) (k : zV g Post u S I L R pc2 lv (.long v :: st)) : zV g Post u S I L R pc lv st := by
  intro p l e Rm s m args below meth c D G as A H locs ls Q hX hS hR hL hE
  obtain ⟨hd, rfl⟩ := hd
  exact lv_ldc2 hX.1 hX.2.1 hX.2.2.2.2.2.1 (hX.2.2.2.2.2.2.1 _ hc) hd (k p l e Rm s m args below meth c D G as A H locs ls Q hX hS hR hL hE)
theorem z_iload {i : Nat} {x : Int32} (hd : zD g.2.1 pc (.iload i) 2 pc2) (hl : lv[i]? = some (some (.int x))) (k : zV g Post u S I L R pc2 lv (.int x :: st)) : zV g Post u S I L R pc lv st := by
  intro p l e Rm s m args below meth c D G as A H locs ls Q hX hS hR hL hE
  obtain ⟨hd, rfl⟩ := hd
  exact lv_iload hX.1 hX.2.1 hd (hL.2.2.2 i _ hl) (k p l e Rm s m args below meth c D G as A H locs ls Q hX hS hR hL hE)
theorem z_iload_n {i : Fin 4} {x : Int32} (hd : zD g.2.1 pc (.iload_n i) 1 pc2) (hl : lv[(i : Nat)]? = some (some (.int x))) (k : zV g Post u S I L R pc2 lv (.int x :: st)) : zV g Post u S I L R pc lv st := by
  intro p l e Rm s m args below meth c D G as A H locs ls Q hX hS hR hL hE
  obtain ⟨hd, rfl⟩ := hd
  exact lv_iload_n hX.1 hX.2.1 hd rfl (hL.2.2.2 i _ hl) (k p l e Rm s m args below meth c D G as A H locs ls Q hX hS hR hL hE)
theorem z_lload {i : Nat} {x : Int64} (hd : zD g.2.1 pc (.lload i) 2 pc2) (hl : lv[i]? = some (some (.long x))) (k : zV g Post u S I L R pc2 lv (.long x :: st)) : zV g Post u S I L R pc lv st := by
  intro p l e Rm s m args below meth c D G as A H locs ls Q hX hS hR hL hE
  obtain ⟨hd, rfl⟩ := hd
  exact lv_lload hX.1 hX.2.1 hd (hL.2.2.2 i _ hl) (k p l e Rm s m args below meth c D G as A H locs ls Q hX hS hR hL hE)
theorem z_lload_n {i : Fin 4} {x : Int64} (hd : zD g.2.1 pc (.lload_n i) 1 pc2) (hl : lv[(i : Nat)]? = some (some (.long x))) (k : zV g Post u S I L R pc2 lv (.long x :: st)) : zV g Post u S I L R pc lv st := by
  intro p l e Rm s m args below meth c D G as A H locs ls Q hX hS hR hL hE
  obtain ⟨hd, rfl⟩ := hd
  exact lv_lload_n hX.1 hX.2.1 hd rfl (hL.2.2.2 i _ hl) (k p l e Rm s m args below meth c D G as A H locs ls Q hX hS hR hL hE)
theorem z_aload {i : Nat} {x : Nat} (hd : zD g.2.1 pc (.aload i) 2 pc2) (hl : lv[i]? = some (some (.ref x))) (k : zV g Post u S I L R pc2 lv (.ref x :: st)) : zV g Post u S I L R pc lv st := by
  intro p l e Rm s m args below meth c D G as A H locs ls Q hX hS hR hL hE
  obtain ⟨hd, rfl⟩ := hd
  exact lv_aload hX.1 hX.2.1 hd (hL.2.2.2 i _ hl) (k p l e Rm s m args below meth c D G as A H locs ls Q hX hS hR hL hE)
theorem z_aload_n {i : Fin 4} {x : Nat} (hd : zD g.2.1 pc (.aload_n i) 1 pc2) (hl : lv[(i : Nat)]? = some (some (.ref x))) (k : zV g Post u S I L R pc2 lv (.ref x :: st)) : zV g Post u S I L R pc lv st := by
  intro p l e Rm s m args below meth c D G as A H locs ls Q hX hS hR hL hE
  obtain ⟨hd, rfl⟩ := hd
  exact lv_aload_n hX.1 hX.2.1 hd rfl (hL.2.2.2 i _ hl) (k p l e Rm s m args below meth c D G as A H locs ls Q hX hS hR hL hE)
theorem z_aloadR {i : Nat} {x : Nat} (hd : zD g.2.1 pc (.aload i) 2 pc2) (hl : lv[i]? = some (some (.retAddr x))) (k : zV g Post u S I L R pc2 lv (.retAddr x :: st)) : zV g Post u S I L R pc lv st := by
  intro p l e Rm s m args below meth c D G as A H locs ls Q hX hS hR hL hE
  obtain ⟨hd, rfl⟩ := hd
  exact lv_aload hX.1 hX.2.1 hd (hL.2.2.2 i _ hl) (k p l e Rm s m args below meth c D G as A H locs ls Q hX hS hR hL hE)
theorem z_aload_nR {i : Fin 4} {x : Nat} (hd : zD g.2.1 pc (.aload_n i) 1 pc2) (hl : lv[(i : Nat)]? = some (some (.retAddr x))) (k : zV g Post u S I L R pc2 lv (.retAddr x :: st)) : zV g Post u S I L R pc lv st := by
  intro p l e Rm s m args below meth c D G as A H locs ls Q hX hS hR hL hE
  obtain ⟨hd, rfl⟩ := hd
  exact lv_aload_n hX.1 hX.2.1 hd rfl (hL.2.2.2 i _ hl) (k p l e Rm s m args below meth c D G as A H locs ls Q hX hS hR hL hE)
def zl (as : List Nat) (lv : List (Option Value)) : List (Nat × Value) := (List.range lv.length).filterMap (fun j => ((lv[j]?).join).map (fun w => (j, zc as w)))
theorem zl_mem {as : List Nat} {lv : List (Option Value)} {j : Nat} {w : Value} : (j, w) ∈ zl as lv ↔ ∃ w0, lv[j]? = some (some w0) ∧ w = zc as w0 := by
  unfold zl
  rw [List.mem_filterMap]
  constructor
  · rintro ⟨a, ha, h⟩
    cases h1 : lv[a]? with
    | none => rw [h1] at h; cases h
    | some o =>
      cases o with
      | none => rw [h1] at h; cases h
      | some w0 =>
        rw [h1] at h
        simp only [Option.join_some, Option.map_some, Option.some.injEq, Prod.mk.injEq] at h
        obtain ⟨rfl, rfl⟩ := h
        exact ⟨w0, h1, rfl⟩
  · rintro ⟨w0, h, rfl⟩
    refine ⟨j, List.mem_range.mpr (List.getElem?_eq_some_iff.mp h).1, ?_⟩
    rw [h]
    rfl
theorem zH_has {ls : Array Slot} {nL : Nat} {as : List Nat} {lv : List (Option Value)} (h : zH ls nL as lv) : lv_has ls nL (zl as lv) := by
  refine ⟨h.1, h.2.1, fun q hq => ?_⟩
  obtain ⟨j, w⟩ := q
  obtain ⟨w0, h1, rfl⟩ := zl_mem.mp hq
  exact h.2.2.2 j w0 h1
def zCat (lv : List (Option Value)) : Bool := lv.all (fun o => match o with | none => true | some v => v.category == 1)
theorem zH_set {ls ls2 : Array Slot} {nL : Nat} {as : List Nat} {lv : List (Option Value)} {i : Nat} {v : Value} (h : zH ls nL as lv) (hc : zCat lv = true)
    (h2 : lv_has ls2 nL ((i, zc as v) :: (zl as lv).filter (fun q => !(q.1 == i) && !(q.1 + 1 == i && q.2.category == 2)))) : zH ls2 nL as (lv.set i (some v)) := by
  refine ⟨h2.1, h2.2.1, by rw [List.length_set]; exact h.2.2.1, fun j w hj => ?_⟩
  by_cases e : j = i
  · subst e
    have hlt : j < lv.length := by
      have := (List.getElem?_eq_some_iff.mp hj).1
      rwa [List.length_set] at this
    rw [List.getElem?_set_self hlt] at hj
    cases hj
    exact h2.2.2 (j, zc as v) List.mem_cons_self
  · rw [List.getElem?_set_ne (Ne.symm e)] at hj
    refine h2.2.2 (j, zc as w) (List.mem_cons_of_mem _ (List.mem_filter.mpr ⟨zl_mem.mpr ⟨w, hj, rfl⟩, ?_⟩))
    have hw : (zc as w).category = 1 := by
      rw [zc_cat]
      have := List.all_eq_true.mp hc _ (List.mem_of_getElem? hj)
      simpa using this
    simp [e, hw]
theorem z_istore {i : Nat} {x : Int32} (hd : zD g.2.1 pc (.istore i) 2 pc2) (hi : i < lv.length) (hc : zCat lv = true) (k : zV g Post u S I L R pc2 (lv.set i (some (.int x))) st) : zV g Post u S I L R pc lv (.int x :: st) := by
  intro p l e Rm s m args below meth c D G as A H locs ls Q hX hS hR hL hE
  obtain ⟨hd, rfl⟩ := hd
  exact lv_istore hX.1 hX.2.1 hd (zH_has hL) (Nat.lt_of_lt_of_le hi hL.2.2.1) rfl (fun ls2 h2 => k p l e Rm s m args below meth c D G as A H locs ls2 Q hX hS hR (zH_set (v := .int x) hL hc h2) hE)
theorem z_istore_n {i : Fin 4} {x : Int32} (hd : zD g.2.1 pc (.istore_n i) 1 pc2) (hi : (i : Nat) < lv.length) (hc : zCat lv = true) (k : zV g Post u S I L R pc2 (lv.set (i : Nat) (some (.int x))) st) : zV g Post u S I L R pc lv (.int x :: st) := by
  intro p l e Rm s m args below meth c D G as A H locs ls Q hX hS hR hL hE
  obtain ⟨hd, rfl⟩ := hd
  exact lv_istore_n hX.1 hX.2.1 hd rfl (zH_has hL) (Nat.lt_of_lt_of_le hi hL.2.2.1) rfl (fun ls2 h2 => k p l e Rm s m args below meth c D G as A H locs ls2 Q hX hS hR (zH_set (v := .int x) hL hc h2) hE)
theorem z_astore {i : Nat} {x : Nat} (hd : zD g.2.1 pc (.astore i) 2 pc2) (hi : i < lv.length) (hc : zCat lv = true) (k : zV g Post u S I L R pc2 (lv.set i (some (.ref x))) st) : zV g Post u S I L R pc lv (.ref x :: st) := by
  intro p l e Rm s m args below meth c D G as A H locs ls Q hX hS hR hL hE
  obtain ⟨hd, rfl⟩ := hd
  exact lv_astore hX.1 hX.2.1 hd (zH_has hL) (Nat.lt_of_lt_of_le hi hL.2.2.1) rfl (fun ls2 h2 => k p l e Rm s m args below meth c D G as A H locs ls2 Q hX hS hR (zH_set (v := .ref x) hL hc h2) hE)
theorem z_astore_n {i : Fin 4} {x : Nat} (hd : zD g.2.1 pc (.astore_n i) 1 pc2) (hi : (i : Nat) < lv.length) (hc : zCat lv = true) (k : zV g Post u S I L R pc2 (lv.set (i : Nat) (some (.ref x))) st) : zV g Post u S I L R pc lv (.ref x :: st) := by
  intro p l e Rm s m args below meth c D G as A H locs ls Q hX hS hR hL hE
  obtain ⟨hd, rfl⟩ := hd
  exact lv_astore_n hX.1 hX.2.1 hd rfl (zH_has hL) (Nat.lt_of_lt_of_le hi hL.2.2.1) rfl (fun ls2 h2 => k p l e Rm s m args below meth c D G as A H locs ls2 Q hX hS hR (zH_set (v := .ref x) hL hc h2) hE)
theorem z_iinc {i : Nat} {n : Int} {x : Int32} (v : Int32) (hd : zD g.2.1 pc (.iinc i n) 3 pc2) (hl : lv[i]? = some (some (.int x))) (hc : zCat lv = true) (hv : x + Int32.ofInt n = v) (k : zV g Post u S I L R pc2 (lv.set i (some (.int v))) st) : zV g Post u S I L R pc lv st := by
  intro p l e Rm s m args below meth c D G as A H locs ls Q hX hS hR hL hE
  obtain ⟨hd, rfl⟩ := hd
  obtain ⟨j, hj⟩ := List.getElem?_of_mem (zl_mem.mpr ⟨_, hl, rfl⟩ : (i, zc as (.int x)) ∈ zl as lv)
  exact lv_iinc hX.1 hX.2.1 hd (zH_has hL) hj hv (Nat.lt_of_lt_of_le (List.getElem?_eq_some_iff.mp hl).1 hL.2.2.1) rfl (fun ls2 h2 => k p l e Rm s m args below meth c D G as A H locs ls2 Q hX hS hR (zH_set (v := .int v) hL hc h2) hE)
theorem z_ist0 {a0 : Option Value} {t : List (Option Value)} {x : Int32} (hd : zD g.2.1 pc (.istore_n 0) 1 pc2) (hc : zCat (a0 :: t) = true) (k : zV g Post u S I L R pc2 (some (.int x) :: t) st) : zV g Post u S I L R pc (a0 :: t) (.int x :: st) := z_istore_n hd (show 0 < _ by simp only [List.length_cons]; omega) hc k
theorem z_ast0 {a0 : Option Value} {t : List (Option Value)} {x : Nat} (hd : zD g.2.1 pc (.astore_n 0) 1 pc2) (hc : zCat (a0 :: t) = true) (k : zV g Post u S I L R pc2 (some (.ref x) :: t) st) : zV g Post u S I L R pc (a0 :: t) (.ref x :: st) := z_astore_n hd (show 0 < _ by simp only [List.length_cons]; omega) hc k
theorem z_iinc0 {t : List (Option Value)} {n : Int} {x : Int32} (v : Int32) (hd : zD g.2.1 pc (.iinc 0 n) 3 pc2) (hc : zCat (some (.int x) :: t) = true) (hv : x + Int32.ofInt n = v) (k : zV g Post u S I L R pc2 (some (.int v) :: t) st) : zV g Post u S I L R pc (some (.int x) :: t) st := z_iinc v hd rfl hc hv k
theorem z_ist1 {a0 a1 : Option Value} {t : List (Option Value)} {x : Int32} (hd : zD g.2.1 pc (.istore_n 1) 1 pc2) (hc : zCat (a0 :: a1 :: t) = true) (k : zV g Post u S I L R pc2 (a0 :: some (.int x) :: t) st) : zV g Post u S I L R pc (a0 :: a1 :: t) (.int x :: st) := z_istore_n hd (show 1 < _ by simp only [List.length_cons]; omega) hc k
theorem z_ast1 {a0 a1 : Option Value} {t : List (Option Value)} {x : Nat} (hd : zD g.2.1 pc (.astore_n 1) 1 pc2) (hc : zCat (a0 :: a1 :: t) = true) (k : zV g Post u S I L R pc2 (a0 :: some (.ref x) :: t) st) : zV g Post u S I L R pc (a0 :: a1 :: t) (.ref x :: st) := z_astore_n hd (show 1 < _ by simp only [List.length_cons]; omega) hc k
theorem z_iinc1 {a0 : Option Value} {t : List (Option Value)} {n : Int} {x : Int32} (v : Int32) (hd : zD g.2.1 pc (.iinc 1 n) 3 pc2) (hc : zCat (a0 :: some (.int x) :: t) = true) (hv : x + Int32.ofInt n = v) (k : zV g Post u S I L R pc2 (a0 :: some (.int v) :: t) st) : zV g Post u S I L R pc (a0 :: some (.int x) :: t) st := z_iinc v hd rfl hc hv k
theorem z_ist2 {a0 a1 a2 : Option Value} {t : List (Option Value)} {x : Int32} (hd : zD g.2.1 pc (.istore_n 2) 1 pc2) (hc : zCat (a0 :: a1 :: a2 :: t) = true) (k : zV g Post u S I L R pc2 (a0 :: a1 :: some (.int x) :: t) st) : zV g Post u S I L R pc (a0 :: a1 :: a2 :: t) (.int x :: st) := z_istore_n hd (show 2 < _ by simp only [List.length_cons]; omega) hc k
theorem z_ast2 {a0 a1 a2 : Option Value} {t : List (Option Value)} {x : Nat} (hd : zD g.2.1 pc (.astore_n 2) 1 pc2) (hc : zCat (a0 :: a1 :: a2 :: t) = true) (k : zV g Post u S I L R pc2 (a0 :: a1 :: some (.ref x) :: t) st) : zV g Post u S I L R pc (a0 :: a1 :: a2 :: t) (.ref x :: st) := z_astore_n hd (show 2 < _ by simp only [List.length_cons]; omega) hc k
theorem z_iinc2 {a0 a1 : Option Value} {t : List (Option Value)} {n : Int} {x : Int32} (v : Int32) (hd : zD g.2.1 pc (.iinc 2 n) 3 pc2) (hc : zCat (a0 :: a1 :: some (.int x) :: t) = true) (hv : x + Int32.ofInt n = v) (k : zV g Post u S I L R pc2 (a0 :: a1 :: some (.int v) :: t) st) : zV g Post u S I L R pc (a0 :: a1 :: some (.int x) :: t) st := z_iinc v hd rfl hc hv k
theorem z_ist3 {a0 a1 a2 a3 : Option Value} {t : List (Option Value)} {x : Int32} (hd : zD g.2.1 pc (.istore_n 3) 1 pc2) (hc : zCat (a0 :: a1 :: a2 :: a3 :: t) = true) (k : zV g Post u S I L R pc2 (a0 :: a1 :: a2 :: some (.int x) :: t) st) : zV g Post u S I L R pc (a0 :: a1 :: a2 :: a3 :: t) (.int x :: st) := z_istore_n hd (show 3 < _ by simp only [List.length_cons]; omega) hc k
theorem z_ast3 {a0 a1 a2 a3 : Option Value} {t : List (Option Value)} {x : Nat} (hd : zD g.2.1 pc (.astore_n 3) 1 pc2) (hc : zCat (a0 :: a1 :: a2 :: a3 :: t) = true) (k : zV g Post u S I L R pc2 (a0 :: a1 :: a2 :: some (.ref x) :: t) st) : zV g Post u S I L R pc (a0 :: a1 :: a2 :: a3 :: t) (.ref x :: st) := z_astore_n hd (show 3 < _ by simp only [List.length_cons]; omega) hc k
theorem z_iinc3 {a0 a1 a2 : Option Value} {t : List (Option Value)} {n : Int} {x : Int32} (v : Int32) (hd : zD g.2.1 pc (.iinc 3 n) 3 pc2) (hc : zCat (a0 :: a1 :: a2 :: some (.int x) :: t) = true) (hv : x + Int32.ofInt n = v) (k : zV g Post u S I L R pc2 (a0 :: a1 :: a2 :: some (.int v) :: t) st) : zV g Post u S I L R pc (a0 :: a1 :: a2 :: some (.int x) :: t) st := z_iinc v hd rfl hc hv k
theorem z_ist4 {a0 a1 a2 a3 a4 : Option Value} {t : List (Option Value)} {x : Int32} (hd : zD g.2.1 pc (.istore 4) 2 pc2) (hc : zCat (a0 :: a1 :: a2 :: a3 :: a4 :: t) = true) (k : zV g Post u S I L R pc2 (a0 :: a1 :: a2 :: a3 :: some (.int x) :: t) st) : zV g Post u S I L R pc (a0 :: a1 :: a2 :: a3 :: a4 :: t) (.int x :: st) := z_istore hd (show 4 < _ by simp only [List.length_cons]; omega) hc k
theorem z_ast4 {a0 a1 a2 a3 a4 : Option Value} {t : List (Option Value)} {x : Nat} (hd : zD g.2.1 pc (.astore 4) 2 pc2) (hc : zCat (a0 :: a1 :: a2 :: a3 :: a4 :: t) = true) (k : zV g Post u S I L R pc2 (a0 :: a1 :: a2 :: a3 :: some (.ref x) :: t) st) : zV g Post u S I L R pc (a0 :: a1 :: a2 :: a3 :: a4 :: t) (.ref x :: st) := z_astore hd (show 4 < _ by simp only [List.length_cons]; omega) hc k
theorem z_iinc4 {a0 a1 a2 a3 : Option Value} {t : List (Option Value)} {n : Int} {x : Int32} (v : Int32) (hd : zD g.2.1 pc (.iinc 4 n) 3 pc2) (hc : zCat (a0 :: a1 :: a2 :: a3 :: some (.int x) :: t) = true) (hv : x + Int32.ofInt n = v) (k : zV g Post u S I L R pc2 (a0 :: a1 :: a2 :: a3 :: some (.int v) :: t) st) : zV g Post u S I L R pc (a0 :: a1 :: a2 :: a3 :: some (.int x) :: t) st := z_iinc v hd rfl hc hv k
theorem z_ist5 {a0 a1 a2 a3 a4 a5 : Option Value} {t : List (Option Value)} {x : Int32} (hd : zD g.2.1 pc (.istore 5) 2 pc2) (hc : zCat (a0 :: a1 :: a2 :: a3 :: a4 :: a5 :: t) = true) (k : zV g Post u S I L R pc2 (a0 :: a1 :: a2 :: a3 :: a4 :: some (.int x) :: t) st) : zV g Post u S I L R pc (a0 :: a1 :: a2 :: a3 :: a4 :: a5 :: t) (.int x :: st) := z_istore hd (show 5 < _ by simp only [List.length_cons]; omega) hc k
theorem z_ast5 {a0 a1 a2 a3 a4 a5 : Option Value} {t : List (Option Value)} {x : Nat} (hd : zD g.2.1 pc (.astore 5) 2 pc2) (hc : zCat (a0 :: a1 :: a2 :: a3 :: a4 :: a5 :: t) = true) (k : zV g Post u S I L R pc2 (a0 :: a1 :: a2 :: a3 :: a4 :: some (.ref x) :: t) st) : zV g Post u S I L R pc (a0 :: a1 :: a2 :: a3 :: a4 :: a5 :: t) (.ref x :: st) := z_astore hd (show 5 < _ by simp only [List.length_cons]; omega) hc k
theorem z_iinc5 {a0 a1 a2 a3 a4 : Option Value} {t : List (Option Value)} {n : Int} {x : Int32} (v : Int32) (hd : zD g.2.1 pc (.iinc 5 n) 3 pc2) (hc : zCat (a0 :: a1 :: a2 :: a3 :: a4 :: some (.int x) :: t) = true) (hv : x + Int32.ofInt n = v) (k : zV g Post u S I L R pc2 (a0 :: a1 :: a2 :: a3 :: a4 :: some (.int v) :: t) st) : zV g Post u S I L R pc (a0 :: a1 :: a2 :: a3 :: a4 :: some (.int x) :: t) st := z_iinc v hd rfl hc hv k
theorem z_ist6 {a0 a1 a2 a3 a4 a5 a6 : Option Value} {t : List (Option Value)} {x : Int32} (hd : zD g.2.1 pc (.istore 6) 2 pc2) (hc : zCat (a0 :: a1 :: a2 :: a3 :: a4 :: a5 :: a6 :: t) = true) (k : zV g Post u S I L R pc2 (a0 :: a1 :: a2 :: a3 :: a4 :: a5 :: some (.int x) :: t) st) : zV g Post u S I L R pc (a0 :: a1 :: a2 :: a3 :: a4 :: a5 :: a6 :: t) (.int x :: st) := z_istore hd (show 6 < _ by simp only [List.length_cons]; omega) hc k
theorem z_ast6 {a0 a1 a2 a3 a4 a5 a6 : Option Value} {t : List (Option Value)} {x : Nat} (hd : zD g.2.1 pc (.astore 6) 2 pc2) (hc : zCat (a0 :: a1 :: a2 :: a3 :: a4 :: a5 :: a6 :: t) = true) (k : zV g Post u S I L R pc2 (a0 :: a1 :: a2 :: a3 :: a4 :: a5 :: some (.ref x) :: t) st) : zV g Post u S I L R pc (a0 :: a1 :: a2 :: a3 :: a4 :: a5 :: a6 :: t) (.ref x :: st) := z_astore hd (show 6 < _ by simp only [List.length_cons]; omega) hc k
theorem z_iinc6 {a0 a1 a2 a3 a4 a5 : Option Value} {t : List (Option Value)} {n : Int} {x : Int32} (v : Int32) (hd : zD g.2.1 pc (.iinc 6 n) 3 pc2) (hc : zCat (a0 :: a1 :: a2 :: a3 :: a4 :: a5 :: some (.int x) :: t) = true) (hv : x + Int32.ofInt n = v) (k : zV g Post u S I L R pc2 (a0 :: a1 :: a2 :: a3 :: a4 :: a5 :: some (.int v) :: t) st) : zV g Post u S I L R pc (a0 :: a1 :: a2 :: a3 :: a4 :: a5 :: some (.int x) :: t) st := z_iinc v hd rfl hc hv k
theorem z_ist7 {a0 a1 a2 a3 a4 a5 a6 a7 : Option Value} {t : List (Option Value)} {x : Int32} (hd : zD g.2.1 pc (.istore 7) 2 pc2) (hc : zCat (a0 :: a1 :: a2 :: a3 :: a4 :: a5 :: a6 :: a7 :: t) = true) (k : zV g Post u S I L R pc2 (a0 :: a1 :: a2 :: a3 :: a4 :: a5 :: a6 :: some (.int x) :: t) st) : zV g Post u S I L R pc (a0 :: a1 :: a2 :: a3 :: a4 :: a5 :: a6 :: a7 :: t) (.int x :: st) := z_istore hd (show 7 < _ by simp only [List.length_cons]; omega) hc k
theorem z_iinc7 {a0 a1 a2 a3 a4 a5 a6 : Option Value} {t : List (Option Value)} {n : Int} {x : Int32} (v : Int32) (hd : zD g.2.1 pc (.iinc 7 n) 3 pc2) (hc : zCat (a0 :: a1 :: a2 :: a3 :: a4 :: a5 :: a6 :: some (.int x) :: t) = true) (hv : x + Int32.ofInt n = v) (k : zV g Post u S I L R pc2 (a0 :: a1 :: a2 :: a3 :: a4 :: a5 :: a6 :: some (.int v) :: t) st) : zV g Post u S I L R pc (a0 :: a1 :: a2 :: a3 :: a4 :: a5 :: a6 :: some (.int x) :: t) st := z_iinc v hd rfl hc hv k
theorem z_ist8 {a0 a1 a2 a3 a4 a5 a6 a7 a8 : Option Value} {t : List (Option Value)} {x : Int32} (hd : zD g.2.1 pc (.istore 8) 2 pc2) (hc : zCat (a0 :: a1 :: a2 :: a3 :: a4 :: a5 :: a6 :: a7 :: a8 :: t) = true) (k : zV g Post u S I L R pc2 (a0 :: a1 :: a2 :: a3 :: a4 :: a5 :: a6 :: a7 :: some (.int x) :: t) st) : zV g Post u S I L R pc (a0 :: a1 :: a2 :: a3 :: a4 :: a5 :: a6 :: a7 :: a8 :: t) (.int x :: st) := z_istore hd (show 8 < _ by simp only [List.length_cons]; omega) hc k
theorem z_iinc8 {a0 a1 a2 a3 a4 a5 a6 a7 : Option Value} {t : List (Option Value)} {n : Int} {x : Int32} (v : Int32) (hd : zD g.2.1 pc (.iinc 8 n) 3 pc2) (hc : zCat (a0 :: a1 :: a2 :: a3 :: a4 :: a5 :: a6 :: a7 :: some (.int x) :: t) = true) (hv : x + Int32.ofInt n = v) (k : zV g Post u S I L R pc2 (a0 :: a1 :: a2 :: a3 :: a4 :: a5 :: a6 :: a7 :: some (.int v) :: t) st) : zV g Post u S I L R pc (a0 :: a1 :: a2 :: a3 :: a4 :: a5 :: a6 :: a7 :: some (.int x) :: t) st := z_iinc v hd rfl hc hv k
theorem z_ist9 {a0 a1 a2 a3 a4 a5 a6 a7 a8 a9 : Option Value} {t : List (Option Value)} {x : Int32} (hd : zD g.2.1 pc (.istore 9) 2 pc2) (hc : zCat (a0 :: a1 :: a2 :: a3 :: a4 :: a5 :: a6 :: a7 :: a8 :: a9 :: t) = true) (k : zV g Post u S I L R pc2 (a0 :: a1 :: a2 :: a3 :: a4 :: a5 :: a6 :: a7 :: a8 :: some (.int x) :: t) st) : zV g Post u S I L R pc (a0 :: a1 :: a2 :: a3 :: a4 :: a5 :: a6 :: a7 :: a8 :: a9 :: t) (.int x :: st) := z_istore hd (show 9 < _ by simp only [List.length_cons]; omega) hc k
theorem z_iinc9 {a0 a1 a2 a3 a4 a5 a6 a7 a8 : Option Value} {t : List (Option Value)} {n : Int} {x : Int32} (v : Int32) (hd : zD g.2.1 pc (.iinc 9 n) 3 pc2) (hc : zCat (a0 :: a1 :: a2 :: a3 :: a4 :: a5 :: a6 :: a7 :: a8 :: some (.int x) :: t) = true) (hv : x + Int32.ofInt n = v) (k : zV g Post u S I L R pc2 (a0 :: a1 :: a2 :: a3 :: a4 :: a5 :: a6 :: a7 :: a8 :: some (.int v) :: t) st) : zV g Post u S I L R pc (a0 :: a1 :: a2 :: a3 :: a4 :: a5 :: a6 :: a7 :: a8 :: some (.int x) :: t) st := z_iinc v hd rfl hc hv k
theorem z_ist10 {a0 a1 a2 a3 a4 a5 a6 a7 a8 a9 a10 : Option Value} {t : List (Option Value)} {x : Int32} (hd : zD g.2.1 pc (.istore 10) 2 pc2) (hc : zCat (a0 :: a1 :: a2 :: a3 :: a4 :: a5 :: a6 :: a7 :: a8 :: a9 :: a10 :: t) = true) (k : zV g Post u S I L R pc2 (a0 :: a1 :: a2 :: a3 :: a4 :: a5 :: a6 :: a7 :: a8 :: a9 :: some (.int x) :: t) st) : zV g Post u S I L R pc (a0 :: a1 :: a2 :: a3 :: a4 :: a5 :: a6 :: a7 :: a8 :: a9 :: a10 :: t) (.int x :: st) := z_istore hd (show 10 < _ by simp only [List.length_cons]; omega) hc k
theorem z_iinc10 {a0 a1 a2 a3 a4 a5 a6 a7 a8 a9 : Option Value} {t : List (Option Value)} {n : Int} {x : Int32} (v : Int32) (hd : zD g.2.1 pc (.iinc 10 n) 3 pc2) (hc : zCat (a0 :: a1 :: a2 :: a3 :: a4 :: a5 :: a6 :: a7 :: a8 :: a9 :: some (.int x) :: t) = true) (hv : x + Int32.ofInt n = v) (k : zV g Post u S I L R pc2 (a0 :: a1 :: a2 :: a3 :: a4 :: a5 :: a6 :: a7 :: a8 :: a9 :: some (.int v) :: t) st) : zV g Post u S I L R pc (a0 :: a1 :: a2 :: a3 :: a4 :: a5 :: a6 :: a7 :: a8 :: a9 :: some (.int x) :: t) st := z_iinc v hd rfl hc hv k
theorem z_ist11 {a0 a1 a2 a3 a4 a5 a6 a7 a8 a9 a10 a11 : Option Value} {t : List (Option Value)} {x : Int32} (hd : zD g.2.1 pc (.istore 11) 2 pc2) (hc : zCat (a0 :: a1 :: a2 :: a3 :: a4 :: a5 :: a6 :: a7 :: a8 :: a9 :: a10 :: a11 :: t) = true) (k : zV g Post u S I L R pc2 (a0 :: a1 :: a2 :: a3 :: a4 :: a5 :: a6 :: a7 :: a8 :: a9 :: a10 :: some (.int x) :: t) st) : zV g Post u S I L R pc (a0 :: a1 :: a2 :: a3 :: a4 :: a5 :: a6 :: a7 :: a8 :: a9 :: a10 :: a11 :: t) (.int x :: st) := z_istore hd (show 11 < _ by simp only [List.length_cons]; omega) hc k
theorem z_iinc11 {a0 a1 a2 a3 a4 a5 a6 a7 a8 a9 a10 : Option Value} {t : List (Option Value)} {n : Int} {x : Int32} (v : Int32) (hd : zD g.2.1 pc (.iinc 11 n) 3 pc2) (hc : zCat (a0 :: a1 :: a2 :: a3 :: a4 :: a5 :: a6 :: a7 :: a8 :: a9 :: a10 :: some (.int x) :: t) = true) (hv : x + Int32.ofInt n = v) (k : zV g Post u S I L R pc2 (a0 :: a1 :: a2 :: a3 :: a4 :: a5 :: a6 :: a7 :: a8 :: a9 :: a10 :: some (.int v) :: t) st) : zV g Post u S I L R pc (a0 :: a1 :: a2 :: a3 :: a4 :: a5 :: a6 :: a7 :: a8 :: a9 :: a10 :: some (.int x) :: t) st := z_iinc v hd rfl hc hv k
theorem z_ist12 {a0 a1 a2 a3 a4 a5 a6 a7 a8 a9 a10 a11 a12 : Option Value} {t : List (Option Value)} {x : Int32} (hd : zD g.2.1 pc (.istore 12) 2 pc2) (hc : zCat (a0 :: a1 :: a2 :: a3 :: a4 :: a5 :: a6 :: a7 :: a8 :: a9 :: a10 :: a11 :: a12 :: t) = true) (k : zV g Post u S I L R pc2 (a0 :: a1 :: a2 :: a3 :: a4 :: a5 :: a6 :: a7 :: a8 :: a9 :: a10 :: a11 :: some (.int x) :: t) st) : zV g Post u S I L R pc (a0 :: a1 :: a2 :: a3 :: a4 :: a5 :: a6 :: a7 :: a8 :: a9 :: a10 :: a11 :: a12 :: t) (.int x :: st) := z_istore hd (show 12 < _ by simp only [List.length_cons]; omega) hc k
theorem z_iinc12 {a0 a1 a2 a3 a4 a5 a6 a7 a8 a9 a10 a11 : Option Value} {t : List (Option Value)} {n : Int} {x : Int32} (v : Int32) (hd : zD g.2.1 pc (.iinc 12 n) 3 pc2) (hc : zCat (a0 :: a1 :: a2 :: a3 :: a4 :: a5 :: a6 :: a7 :: a8 :: a9 :: a10 :: a11 :: some (.int x) :: t) = true) (hv : x + Int32.ofInt n = v) (k : zV g Post u S I L R pc2 (a0 :: a1 :: a2 :: a3 :: a4 :: a5 :: a6 :: a7 :: a8 :: a9 :: a10 :: a11 :: some (.int v) :: t) st) : zV g Post u S I L R pc (a0 :: a1 :: a2 :: a3 :: a4 :: a5 :: a6 :: a7 :: a8 :: a9 :: a10 :: a11 :: some (.int x) :: t) st := z_iinc v hd rfl hc hv k
theorem z_iadd {x y : Int32} (hd : zD g.2.1 pc .iadd 1 pc2) (k : zV g Post u S I L R pc2 lv (.int (x + y) :: st)) : zV g Post u S I L R pc lv (.int y :: .int x :: st) := by
  intro p l e Rm s m args below meth c D G as A H locs ls Q hX hS hR hL hE
  obtain ⟨hd, rfl⟩ := hd
  exact lv_iadd hX.1 hX.2.1 hd (k p l e Rm s m args below meth c D G as A H locs ls Q hX hS hR hL hE)
theorem z_isub {x y : Int32} (hd : zD g.2.1 pc .isub 1 pc2) (k : zV g Post u S I L R pc2 lv (.int (x - y) :: st)) : zV g Post u S I L R pc lv (.int y :: .int x :: st) := by
  intro p l e Rm s m args below meth c D G as A H locs ls Q hX hS hR hL hE
  obtain ⟨hd, rfl⟩ := hd
  exact lv_isub hX.1 hX.2.1 hd (k p l e Rm s m args below meth c D G as A H locs ls Q hX hS hR hL hE)
theorem z_imul {x y : Int32} (hd : zD g.2.1 pc .imul 1 pc2) (k : zV g Post u S I L R pc2 lv (.int (x * y) :: st)) : zV g Post u S I L R pc lv (.int y :: .int x :: st) := by
  intro p l e Rm s m args below meth c D G as A H locs ls Q hX hS hR hL hE
  obtain ⟨hd, rfl⟩ := hd
  exact lv_imul hX.1 hX.2.1 hd (k p l e Rm s m args below meth c D G as A H locs ls Q hX hS hR hL hE)
theorem z_iand {x y : Int32} (hd : zD g.2.1 pc .iand 1 pc2) (k : zV g Post u S I L R pc2 lv (.int (x &&& y) :: st)) : zV g Post u S I L R pc lv (.int y :: .int x :: st) := by
  intro p l e Rm s m args below meth c D G as A H locs ls Q hX hS hR hL hE
  obtain ⟨hd, rfl⟩ := hd
  exact lv_iand hX.1 hX.2.1 hd (k p l e Rm s m args below meth c D G as A H locs ls Q hX hS hR hL hE)
theorem z_ior {x y : Int32} (hd : zD g.2.1 pc .ior 1 pc2) (k : zV g Post u S I L R pc2 lv (.int (x ||| y) :: st)) : zV g Post u S I L R pc lv (.int y :: .int x :: st) := by
  intro p l e Rm s m args below meth c D G as A H locs ls Q hX hS hR hL hE
  obtain ⟨hd, rfl⟩ := hd
  exact lv_ior hX.1 hX.2.1 hd (k p l e Rm s m args below meth c D G as A H locs ls Q hX hS hR hL hE)
theorem z_ixor {x y : Int32} (hd : zD g.2.1 pc .ixor 1 pc2) (k : zV g Post u S I L R pc2 lv (.int (x ^^^ y) :: st)) : zV g Post u S I L R pc lv (.int y :: .int x :: st) := by
  intro p l e Rm s m args below meth c D G as A H locs ls Q hX hS hR hL hE
  obtain ⟨hd, rfl⟩ := hd
  exact lv_ixor hX.1 hX.2.1 hd (k p l e Rm s m args below meth c D G as A H locs ls Q hX hS hR hL hE)
theorem z_ishl {x y : Int32} (hd : zD g.2.1 pc .ishl 1 pc2) (k : zV g Post u S I L R pc2 lv (.int (x <<< (y &&& 31)) :: st)) : zV g Post u S I L R pc lv (.int y :: .int x :: st) := by
  intro p l e Rm s m args below meth c D G as A H locs ls Q hX hS hR hL hE
  obtain ⟨hd, rfl⟩ := hd
  exact lv_ishl hX.1 hX.2.1 hd (k p l e Rm s m args below meth c D G as A H locs ls Q hX hS hR hL hE)
theorem z_ishr {x y : Int32} (hd : zD g.2.1 pc .ishr 1 pc2) (k : zV g Post u S I L R pc2 lv (.int (x >>> (y &&& 31)) :: st)) : zV g Post u S I L R pc lv (.int y :: .int x :: st) := by
  intro p l e Rm s m args below meth c D G as A H locs ls Q hX hS hR hL hE
  obtain ⟨hd, rfl⟩ := hd
  exact lv_ishr hX.1 hX.2.1 hd (k p l e Rm s m args below meth c D G as A H locs ls Q hX hS hR hL hE)
theorem z_idiv {x y : Int32} (hd : zD g.2.1 pc .idiv 1 pc2) (hne : ¬ y = 0) (k : zV g Post u S I L R pc2 lv (.int (x / y) :: st)) : zV g Post u S I L R pc lv (.int y :: .int x :: st) := by
  intro p l e Rm s m args below meth c D G as A H locs ls Q hX hS hR hL hE
  obtain ⟨hd, rfl⟩ := hd
  exact lv_idiv hX.1 hX.2.1 hd hne (k p l e Rm s m args below meth c D G as A H locs ls Q hX hS hR hL hE)
theorem z_irem {x y : Int32} (hd : zD g.2.1 pc .irem 1 pc2) (hne : ¬ y = 0) (k : zV g Post u S I L R pc2 lv (.int (x - x / y * y) :: st)) : zV g Post u S I L R pc lv (.int y :: .int x :: st) := by
  intro p l e Rm s m args below meth c D G as A H locs ls Q hX hS hR hL hE
  obtain ⟨hd, rfl⟩ := hd
  exact lv_irem hX.1 hX.2.1 hd hne (k p l e Rm s m args below meth c D G as A H locs ls Q hX hS hR hL hE)
theorem z_ineg {x : Int32} (hd : zD g.2.1 pc .ineg 1 pc2) (k : zV g Post u S I L R pc2 lv (.int (-x) :: st)) : zV g Post u S I L R pc lv (.int x :: st) := by
  intro p l e Rm s m args below meth c D G as A H locs ls Q hX hS hR hL hE
  obtain ⟨hd, rfl⟩ := hd
  exact lv_ineg hX.1 hX.2.1 hd (k p l e Rm s m args below meth c D G as A H locs ls Q hX hS hR hL hE)
theorem z_iushr {x y : Int32} (v : Int32) (hd : zD g.2.1 pc .iushr 1 pc2) (hv : (x.toUInt32 >>> (y.toUInt32 &&& Int32.toUInt32 31)).toInt32 = v) (k : zV g Post u S I L R pc2 lv (.int v :: st)) : zV g Post u S I L R pc lv (.int y :: .int x :: st) := by
  intro p l e Rm s m args below meth c D G as A H locs ls Q hX hS hR hL hE
  obtain ⟨hd, rfl⟩ := hd
  exact lv_iushr hX.1 hX.2.1 hd hv (k p l e Rm s m args below meth c D G as A H locs ls Q hX hS hR hL hE)
theorem z_lmul {x y : Int64} (hd : zD g.2.1 pc .lmul 1 pc2) (k : zV g Post u S I L R pc2 lv (.long (x * y) :: st)) : zV g Post u S I L R pc lv (.long y :: .long x :: st) := by
  intro p l e Rm s m args below meth c D G as A H locs ls Q hX hS hR hL hE
  obtain ⟨hd, rfl⟩ := hd
  exact lv_lmul hX.1 hX.2.1 hd (k p l e Rm s m args below meth c D G as A H locs ls Q hX hS hR hL hE)
theorem z_lrem {x y : Int64} (hd : zD g.2.1 pc .lrem 1 pc2) (hne : ¬ y = 0) (k : zV g Post u S I L R pc2 lv (.long (x - x / y * y) :: st)) : zV g Post u S I L R pc lv (.long y :: .long x :: st) := by
  intro p l e Rm s m args below meth c D G as A H locs ls Q hX hS hR hL hE
  obtain ⟨hd, rfl⟩ := hd
  exact lv_lrem hX.1 hX.2.1 hd hne (k p l e Rm s m args below meth c D G as A H locs ls Q hX hS hR hL hE)
theorem z_lcmp {x y : Int64} (hd : zD g.2.1 pc .lcmp 1 pc2) (k : zV g Post u S I L R pc2 lv (.int (lg_cmp x y) :: st)) : zV g Post u S I L R pc lv (.long y :: .long x :: st) := by
  intro p l e Rm s m args below meth c D G as A H locs ls Q hX hS hR hL hE
  obtain ⟨hd, rfl⟩ := hd
  exact W.lcmp hX.1 hX.2.1 hd (k p l e Rm s m args below meth c D G as A H locs ls Q hX hS hR hL hE)
theorem z_i2l {x : Int32} (hd : zD g.2.1 pc .i2l 1 pc2) (k : zV g Post u S I L R pc2 lv (.long x.toInt64 :: st)) : zV g Post u S I L R pc lv (.int x :: st) := by
  intro p l e Rm s m args below meth c D G as A H locs ls Q hX hS hR hL hE
  obtain ⟨hd, rfl⟩ := hd
  exact lv_i2l hX.1 hX.2.1 hd rfl (k p l e Rm s m args below meth c D G as A H locs ls Q hX hS hR hL hE)
theorem z_l2i {x : Int64} (hd : zD g.2.1 pc .l2i 1 pc2) (k : zV g Post u S I L R pc2 lv (.int x.toInt32 :: st)) : zV g Post u S I L R pc lv (.long x :: st) := by
  intro p l e Rm s m args below meth c D G as A H locs ls Q hX hS hR hL hE
  obtain ⟨hd, rfl⟩ := hd
  exact lv_l2i hX.1 hX.2.1 hd rfl (k p l e Rm s m args below meth c D G as A H locs ls Q hX hS hR hL hE)
theorem z_dup {v : Value} (hd : zD g.2.1 pc .dup 1 pc2) (hv : v.category = 1) (k : zV g Post u S I L R pc2 lv (v :: v :: st)) : zV g Post u S I L R pc lv (v :: st) := by
  intro p l e Rm s m args below meth c D G as A H locs ls Q hX hS hR hL hE
  obtain ⟨hd, rfl⟩ := hd
  exact lv_dup hX.1 hX.2.1 hd ((zc_cat as v).trans hv) (k p l e Rm s m args below meth c D G as A H locs ls Q hX hS hR hL hE)
theorem z_dup2 {v w : Value} (hd : zD g.2.1 pc .dup2 1 pc2) (hv : v.category = 1) (hw : w.category = 1) (k : zV g Post u S I L R pc2 lv (v :: w :: v :: w :: st)) : zV g Post u S I L R pc lv (v :: w :: st) := by
  intro p l e Rm s m args below meth c D G as A H locs ls Q hX hS hR hL hE
  obtain ⟨hd, rfl⟩ := hd
  exact lv_dup2_11 hX.1 hX.2.1 hd ((zc_cat as v).trans hv) ((zc_cat as w).trans hw) (k p l e Rm s m args below meth c D G as A H locs ls Q hX hS hR hL hE)
theorem z_icmp_eq {x y : Int32} {off : Int} {tgt : Nat} (hd : zD g.2.1 pc (.if_icmp .eq off) 3 pc2) (ht : (pc : Int) + off = (tgt : Int)) (kt : x = y → zV g Post u S I L R tgt lv st) (kf : ¬ x = y → zV g Post u S I L R pc2 lv st) : zV g Post u S I L R pc lv (.int y :: .int x :: st) := by
  intro p l e Rm s m args below meth c D G as A H locs ls Q hX hS hR hL hE
  obtain ⟨hd, rfl⟩ := hd
  exact lv_icmp_eq hX.1 hX.2.1 hd ht (fun h => kt h p l e Rm s m args below meth c D G as A H locs ls Q hX hS hR hL hE) (fun h => kf h p l e Rm s m args below meth c D G as A H locs ls Q hX hS hR hL hE)
theorem z_if_eq {x : Int32} {off : Int} {tgt : Nat} (hd : zD g.2.1 pc (.ifCond .eq off) 3 pc2) (ht : (pc : Int) + off = (tgt : Int)) (kt : x = 0 → zV g Post u S I L R tgt lv st) (kf : ¬ x = 0 → zV g Post u S I L R pc2 lv st) : zV g Post u S I L R pc lv (.int x :: st) := by
  intro p l e Rm s m args below meth c D G as A H locs ls Q hX hS hR hL hE
  obtain ⟨hd, rfl⟩ := hd
  exact lv_if_eq hX.1 hX.2.1 hd ht (fun h => kt h p l e Rm s m args below meth c D G as A H locs ls Q hX hS hR hL hE) (fun h => kf h p l e Rm s m args below meth c D G as A H locs ls Q hX hS hR hL hE)
theorem z_icmp_ne {x y : Int32} {off : Int} {tgt : Nat} (hd : zD g.2.1 pc (.if_icmp .ne off) 3 pc2) (ht : (pc : Int) + off = (tgt : Int)) (kt : ¬ x = y → zV g Post u S I L R tgt lv st) (kf : x = y → zV g Post u S I L R pc2 lv st) : zV g Post u S I L R pc lv (.int y :: .int x :: st) := by
  intro p l e Rm s m args below meth c D G as A H locs ls Q hX hS hR hL hE
  obtain ⟨hd, rfl⟩ := hd
  exact lv_icmp_ne hX.1 hX.2.1 hd ht (fun h => kt h p l e Rm s m args below meth c D G as A H locs ls Q hX hS hR hL hE) (fun h => kf h p l e Rm s m args below meth c D G as A H locs ls Q hX hS hR hL hE)
theorem z_if_ne {x : Int32} {off : Int} {tgt : Nat} (hd : zD g.2.1 pc (.ifCond .ne off) 3 pc2) (ht : (pc : Int) + off = (tgt : Int)) (kt : ¬ x = 0 → zV g Post u S I L R tgt lv st) (kf : x = 0 → zV g Post u S I L R pc2 lv st) : zV g Post u S I L R pc lv (.int x :: st) := by
  intro p l e Rm s m args below meth c D G as A H locs ls Q hX hS hR hL hE
  obtain ⟨hd, rfl⟩ := hd
  exact lv_if_ne hX.1 hX.2.1 hd ht (fun h => kt h p l e Rm s m args below meth c D G as A H locs ls Q hX hS hR hL hE) (fun h => kf h p l e Rm s m args below meth c D G as A H locs ls Q hX hS hR hL hE)
theorem z_icmp_lt {x y : Int32} {off : Int} {tgt : Nat} (hd : zD g.2.1 pc (.if_icmp .lt off) 3 pc2) (ht : (pc : Int) + off = (tgt : Int)) (kt : x.toInt < y.toInt → zV g Post u S I L R tgt lv st) (kf : y.toInt ≤ x.toInt → zV g Post u S I L R pc2 lv st) : zV g Post u S I L R pc lv (.int y :: .int x :: st) := by
  intro p l e Rm s m args below meth c D G as A H locs ls Q hX hS hR hL hE
  obtain ⟨hd, rfl⟩ := hd
  exact lv_icmp_lt hX.1 hX.2.1 hd ht (fun h => kt (by have h2 := h; simp only [Int32.lt_iff_toInt_lt, Int32.le_iff_toInt_le, Int.not_lt, Int.not_le] at h2; omega) p l e Rm s m args below meth c D G as A H locs ls Q hX hS hR hL hE) (fun h => kf (by have h2 := h; simp only [Int32.lt_iff_toInt_lt, Int32.le_iff_toInt_le, Int.not_lt, Int.not_le] at h2; omega) p l e Rm s m args below meth c D G as A H locs ls Q hX hS hR hL hE)
theorem z_if_lt {x : Int32} {off : Int} {tgt : Nat} (hd : zD g.2.1 pc (.ifCond .lt off) 3 pc2) (ht : (pc : Int) + off = (tgt : Int)) (kt : x.toInt < 0 → zV g Post u S I L R tgt lv st) (kf : 0 ≤ x.toInt → zV g Post u S I L R pc2 lv st) : zV g Post u S I L R pc lv (.int x :: st) := by
  intro p l e Rm s m args below meth c D G as A H locs ls Q hX hS hR hL hE
  obtain ⟨hd, rfl⟩ := hd
  exact lv_if_lt hX.1 hX.2.1 hd ht (fun h => kt (by have h2 := h; simp only [Int32.lt_iff_toInt_lt, Int32.le_iff_toInt_le, Int32.toInt_zero, Int.not_lt, Int.not_le] at h2; omega) p l e Rm s m args below meth c D G as A H locs ls Q hX hS hR hL hE) (fun h => kf (by have h2 := h; simp only [Int32.lt_iff_toInt_lt, Int32.le_iff_toInt_le, Int32.toInt_zero, Int.not_lt, Int.not_le] at h2; omega) p l e Rm s m args below meth c D G as A H locs ls Q hX hS hR hL hE)
theorem z_icmp_ge {x y : Int32} {off : Int} {tgt : Nat} (hd : zD g.2.1 pc (.if_icmp .ge off) 3 pc2) (ht : (pc : Int) + off = (tgt : Int)) (kt : y.toInt ≤ x.toInt → zV g Post u S I L R tgt lv st) (kf : x.toInt < y.toInt → zV g Post u S I L R pc2 lv st) : zV g Post u S I L R pc lv (.int y :: .int x :: st) := by
  intro p l e Rm s m args below meth c D G as A H locs ls Q hX hS hR hL hE
  obtain ⟨hd, rfl⟩ := hd
  exact lv_icmp_ge hX.1 hX.2.1 hd ht (fun h => kt (by have h2 := h; simp only [Int32.lt_iff_toInt_lt, Int32.le_iff_toInt_le, Int.not_lt, Int.not_le] at h2; omega) p l e Rm s m args below meth c D G as A H locs ls Q hX hS hR hL hE) (fun h => kf (by have h2 := h; simp only [Int32.lt_iff_toInt_lt, Int32.le_iff_toInt_le, Int.not_lt, Int.not_le] at h2; omega) p l e Rm s m args below meth c D G as A H locs ls Q hX hS hR hL hE)
theorem z_if_ge {x : Int32} {off : Int} {tgt : Nat} (hd : zD g.2.1 pc (.ifCond .ge off) 3 pc2) (ht : (pc : Int) + off = (tgt : Int)) (kt : 0 ≤ x.toInt → zV g Post u S I L R tgt lv st) (kf : x.toInt < 0 → zV g Post u S I L R pc2 lv st) : zV g Post u S I L R pc lv (.int x :: st) := by
  intro p l e Rm s m args below meth c D G as A H locs ls Q hX hS hR hL hE
  obtain ⟨hd, rfl⟩ := hd
  exact lv_if_ge hX.1 hX.2.1 hd ht (fun h => kt (by have h2 := h; simp only [Int32.lt_iff_toInt_lt, Int32.le_iff_toInt_le, Int32.toInt_zero, Int.not_lt, Int.not_le] at h2; omega) p l e Rm s m args below meth c D G as A H locs ls Q hX hS hR hL hE) (fun h => kf (by have h2 := h; simp only [Int32.lt_iff_toInt_lt, Int32.le_iff_toInt_le, Int32.toInt_zero, Int.not_lt, Int.not_le] at h2; omega) p l e Rm s m args below meth c D G as A H locs ls Q hX hS hR hL hE)
theorem z_icmp_gt {x y : Int32} {off : Int} {tgt : Nat} (hd : zD g.2.1 pc (.if_icmp .gt off) 3 pc2) (ht : (pc : Int) + off = (tgt : Int)) (kt : y.toInt < x.toInt → zV g Post u S I L R tgt lv st) (kf : x.toInt ≤ y.toInt → zV g Post u S I L R pc2 lv st) : zV g Post u S I L R pc lv (.int y :: .int x :: st) := by
  intro p l e Rm s m args below meth c D G as A H locs ls Q hX hS hR hL hE
  obtain ⟨hd, rfl⟩ := hd
  exact lv_icmp_gt hX.1 hX.2.1 hd ht (fun h => kt (by have h2 := h; simp only [Int32.lt_iff_toInt_lt, Int32.le_iff_toInt_le, Int.not_lt, Int.not_le] at h2; omega) p l e Rm s m args below meth c D G as A H locs ls Q hX hS hR hL hE) (fun h => kf (by have h2 := h; simp only [Int32.lt_iff_toInt_lt, Int32.le_iff_toInt_le, Int.not_lt, Int.not_le] at h2; omega) p l e Rm s m args below meth c D G as A H locs ls Q hX hS hR hL hE)
theorem z_if_gt {x : Int32} {off : Int} {tgt : Nat} (hd : zD g.2.1 pc (.ifCond .gt off) 3 pc2) (ht : (pc : Int) + off = (tgt : Int)) (kt : 0 < x.toInt → zV g Post u S I L R tgt lv st) (kf : x.toInt ≤ 0 → zV g Post u S I L R pc2 lv st) : zV g Post u S I L R pc lv (.int x :: st) := by
  intro p l e Rm s m args below meth c D G as A H locs ls Q hX hS hR hL hE
  obtain ⟨hd, rfl⟩ := hd
  exact lv_if_gt hX.1 hX.2.1 hd ht (fun h => kt (by have h2 := h; simp only [Int32.lt_iff_toInt_lt, Int32.le_iff_toInt_le, Int32.toInt_zero, Int.not_lt, Int.not_le] at h2; omega) p l e Rm s m args below meth c D G as A H locs ls Q hX hS hR hL hE) (fun h => kf (by have h2 := h; simp only [Int32.lt_iff_toInt_lt, Int32.le_iff_toInt_le, Int32.toInt_zero, Int.not_lt, Int.not_le] at h2; omega) p l e Rm s m args below meth c D G as A H locs ls Q hX hS hR hL hE)
theorem z_icmp_le {x y : Int32} {off : Int} {tgt : Nat} (hd : zD g.2.1 pc (.if_icmp .le off) 3 pc2) (ht : (pc : Int) + off = (tgt : Int)) (kt : x.toInt ≤ y.toInt → zV g Post u S I L R tgt lv st) (kf : y.toInt < x.toInt → zV g Post u S I L R pc2 lv st) : zV g Post u S I L R pc lv (.int y :: .int x :: st) := by
  intro p l e Rm s m args below meth c D G as A H locs ls Q hX hS hR hL hE
  obtain ⟨hd, rfl⟩ := hd
  exact lv_icmp_le hX.1 hX.2.1 hd ht (fun h => kt (by have h2 := h; simp only [Int32.lt_iff_toInt_lt, Int32.le_iff_toInt_le, Int.not_lt, Int.not_le] at h2; omega) p l e Rm s m args below meth c D G as A H locs ls Q hX hS hR hL hE) (fun h => kf (by have h2 := h; simp only [Int32.lt_iff_toInt_lt, Int32.le_iff_toInt_le, Int.not_lt, Int.not_le] at h2; omega) p l e Rm s m args below meth c D G as A H locs ls Q hX hS hR hL hE)
theorem z_if_le {x : Int32} {off : Int} {tgt : Nat} (hd : zD g.2.1 pc (.ifCond .le off) 3 pc2) (ht : (pc : Int) + off = (tgt : Int)) (kt : x.toInt ≤ 0 → zV g Post u S I L R tgt lv st) (kf : 0 < x.toInt → zV g Post u S I L R pc2 lv st) : zV g Post u S I L R pc lv (.int x :: st) := by
  intro p l e Rm s m args below meth c D G as A H locs ls Q hX hS hR hL hE
  obtain ⟨hd, rfl⟩ := hd
  exact lv_if_le hX.1 hX.2.1 hd ht (fun h => kt (by have h2 := h; simp only [Int32.lt_iff_toInt_lt, Int32.le_iff_toInt_le, Int32.toInt_zero, Int.not_lt, Int.not_le] at h2; omega) p l e Rm s m args below meth c D G as A H locs ls Q hX hS hR hL hE) (fun h => kf (by have h2 := h; simp only [Int32.lt_iff_toInt_lt, Int32.le_iff_toInt_le, Int32.toInt_zero, Int.not_lt, Int.not_le] at h2; omega) p l e Rm s m args below meth c D G as A H locs ls Q hX hS hR hL hE)
theorem z_goto {off : Int} {tgt : Nat} (hd : zD g.2.1 pc (.goto off) 3 pc2) (ht : (pc : Int) + off = (tgt : Int)) (k : zV g Post u S I L R tgt lv st) : zV g Post u S I L R pc lv st := by
  intro p l e Rm s m args below meth c D G as A H locs ls Q hX hS hR hL hE
  exact lv_goto hX.1 hX.2.1 hd.1 ht (k p l e Rm s m args below meth c D G as A H locs ls Q hX hS hR hL hE)
theorem z_tIn {dflt lo hi : Int} {offs : Array Int} {len : Nat} {x : Int32} {off : Int} {tgt : Nat} (hd : zD g.2.1 pc (.tableswitch dflt lo hi offs) len pc2) (h1 : ¬ x.toInt < lo) (h2 : ¬ hi < x.toInt) (ho : offs[(x.toInt - lo).toNat]? = some off) (ht : (pc : Int) + off = (tgt : Int)) (k : zV g Post u S I L R tgt lv st) : zV g Post u S I L R pc lv (.int x :: st) := by
  intro p l e Rm s m args below meth c D G as A H locs ls Q hX hS hR hL hE
  exact lv_tableIn hX.1 hX.2.1 hd.1 h1 h2 ho ht (k p l e Rm s m args below meth c D G as A H locs ls Q hX hS hR hL hE)
theorem z_tOut {dflt lo hi : Int} {offs : Array Int} {len : Nat} {x : Int32} {tgt : Nat} (hd : zD g.2.1 pc (.tableswitch dflt lo hi offs) len pc2) (h : x.toInt < lo ∨ hi < x.toInt) (ht : (pc : Int) + dflt = (tgt : Int)) (k : zV g Post u S I L R tgt lv st) : zV g Post u S I L R pc lv (.int x :: st) := by
  intro p l e Rm s m args below meth c D G as A H locs ls Q hX hS hR hL hE
  exact lv_tableOut hX.1 hX.2.1 hd.1 h ht (k p l e Rm s m args below meth c D G as A H locs ls Q hX hS hR hL hE)
theorem z_lsw {dflt : Int} {ps : Array (Int × Int)} {len : Nat} {x : Int32} {off : Int} {tgt : Nat} (hd : zD g.2.1 pc (.lookupswitch dflt ps) len pc2) (hp : (ps.toList.zip (ps.toList.drop 1)).all (fun (a, next) => a.1 < next.1) = true) (ho : Op.lookupswitch.offset ps.toList dflt x.toInt = off) (ht : (pc : Int) + off = (tgt : Int)) (k : zV g Post u S I L R tgt lv st) : zV g Post u S I L R pc lv (.int x :: st) := by
  intro p l e Rm s m args below meth c D G as A H locs ls Q hX hS hR hL hE
  exact lv_lookup hX.1 hX.2.1 hd.1 hp ho ht (k p l e Rm s m args below meth c D G as A H locs ls Q hX hS hR hL hE)
theorem zE_obj {G : zGt} {ρ : Nat → Nat} {S : zS} {I : zMI} {L : zML} {R : zMR} {a ci w : Nat} (h : S[a]? = some (ci + 3, w)) : zE G ρ S I L R a = .inr (ci, zfs ρ I L R ci a) := by
  unfold zE
  rw [h]
theorem zE_int {G : zGt} {ρ : Nat → Nat} {S : zS} {I : zMI} {L : zML} {R : zMR} {a n : Nat} (h : S[a]? = some (0, n)) : zE G ρ S I L R a = .inl (G.1, n, .inl (I a)) := by
  unfold zE
  rw [h]
theorem zE_bool {G : zGt} {ρ : Nat → Nat} {S : zS} {I : zMI} {L : zML} {R : zMR} {a n : Nat} (h : S[a]? = some (1, n)) : zE G ρ S I L R a = .inl (G.2.1, n, .inl (I a)) := by
  unfold zE
  rw [h]
theorem zE_refs {G : zGt} {ρ : Nat → Nat} {S : zS} {I : zMI} {L : zML} {R : zMR} {a n : Nat} (h : S[a]? = some (2, n)) : zE G ρ S I L R a = .inl (G.2.2, n, .inr (.inr (.inr (.inr (fun i => (R a i).map ρ))))) := by
  unfold zE
  rw [h]
theorem zlt {S : zS} {a : Nat} {x : Nat × Nat} (h : S[a]? = some x) : a < S.length := (List.getElem?_eq_some_iff.mp h).1
theorem zRep.at {D : va_G} {G : zGt} {as : List Nat} {A : Nat → Prop} {H : Heap} {s : State} (h : zRep D G as A S I L R H s) {a : Nat} {x : Nat × Nat} (hs : S[a]? = some x) : (zW G as S I L R)[a]? = some (zr as a, zE G (zr as) S I L R a) := zW_get (by rw [h.1]; exact zlt hs)
theorem zfs_get {ρ : Nat → Nat} {ci a k : Nat} (h : k < zN ci) : (zfs ρ I L R ci a)[k]? = some (zF ρ I L R ci a k) := by simp [zfs, h]
theorem zfs_len {ρ : Nat → Nat} {ci a : Nat} : (zfs ρ I L R ci a).length = zN ci := by simp [zfs]
theorem z_geti {idx ci k a w : Nat} {fin : Bool} (hd : zD g.2.1 pc (.getfield idx) 3 pc2) (hf : zFL g.1 idx ci k 0 fin) (hs : S[a]? = some (ci + 3, w)) (kk : zV g Post u S I L R pc2 lv (.int (I a k) :: st)) : zV g Post u S I L R pc lv (.ref a :: st) := by
  intro p l e Rm s m args below meth c D G as A H locs ls Q hX hS hR hL hE
  obtain ⟨hd, rfl⟩ := hd
  obtain ⟨C, T, N, ty, ⟨hc, hin, hty, hnm, hN, -, -⟩, hk, hlk, -, hkd, -⟩ := hf
  have he := hR.at hs
  rw [zE_obj hs] at he
  subst hN
  exact va_get hX.1 hX.2.1 hX.2.2.2.2.2.2.1 hin hX.2.2.2.2.2.1 hR.2.2.2 hR.2.1 a he hc k hk (hX.2.2.2.2.2.2.1 _ hlk) (fun _ h => h) ((zfs_get hk).trans (congrArg some (if_pos hkd))) hd (kk p l e Rm s m args below meth c D G as A H locs ls Q hX hS hR hL hE)
theorem z_getz {idx ci k a w : Nat} {fin : Bool} (hd : zD g.2.1 pc (.getfield idx) 3 pc2) (hf : zFL g.1 idx ci k 3 fin) (hs : S[a]? = some (ci + 3, w)) (kk : zV g Post u S I L R pc2 lv (.int (I a k) :: st)) : zV g Post u S I L R pc lv (.ref a :: st) := by
  intro p l e Rm s m args below meth c D G as A H locs ls Q hX hS hR hL hE
  obtain ⟨hd, rfl⟩ := hd
  obtain ⟨C, T, N, ty, ⟨hc, hin, hty, hnm, hN, -, -⟩, hk, hlk, -, hkd, -⟩ := hf
  have he := hR.at hs
  rw [zE_obj hs] at he
  subst hN
  exact va_get hX.1 hX.2.1 hX.2.2.2.2.2.2.1 hin hX.2.2.2.2.2.1 hR.2.2.2 hR.2.1 a he hc k hk (hX.2.2.2.2.2.2.1 _ hlk) (fun _ h => h) ((zfs_get hk).trans (congrArg some (if_pos hkd))) hd (kk p l e Rm s m args below meth c D G as A H locs ls Q hX hS hR hL hE)
theorem z_getl {idx ci k a w : Nat} {fin : Bool} (hd : zD g.2.1 pc (.getfield idx) 3 pc2) (hf : zFL g.1 idx ci k 1 fin) (hs : S[a]? = some (ci + 3, w)) (kk : zV g Post u S I L R pc2 lv (.long (L a k) :: st)) : zV g Post u S I L R pc lv (.ref a :: st) := by
  intro p l e Rm s m args below meth c D G as A H locs ls Q hX hS hR hL hE
  obtain ⟨hd, rfl⟩ := hd
  obtain ⟨C, T, N, ty, ⟨hc, hin, hty, hnm, hN, -, -⟩, hk, hlk, -, hkd, -⟩ := hf
  have he := hR.at hs
  rw [zE_obj hs] at he
  subst hN
  have hkd1 : zkd ci k = 1 := hkd
  exact va_get hX.1 hX.2.1 hX.2.2.2.2.2.2.1 hin hX.2.2.2.2.2.1 hR.2.2.2 hR.2.1 a he hc k hk (hX.2.2.2.2.2.2.1 _ hlk) (fun _ h => h) ((zfs_get hk).trans (congrArg some (by simp [zF, hkd1, zc]))) hd (kk p l e Rm s m args below meth c D G as A H locs ls Q hX hS hR hL hE)
theorem z_getr {idx ci k a w q : Nat} {fin : Bool} (hd : zD g.2.1 pc (.getfield idx) 3 pc2) (hf : zFL g.1 idx ci k 2 fin) (hs : S[a]? = some (ci + 3, w)) (hr : R a k = some q) (kk : zV g Post u S I L R pc2 lv (.ref q :: st)) : zV g Post u S I L R pc lv (.ref a :: st) := by
  intro p l e Rm s m args below meth c D G as A H locs ls Q hX hS hR hL hE
  obtain ⟨hd, rfl⟩ := hd
  obtain ⟨C, T, N, ty, ⟨hc, hin, hty, hnm, hN, -, -⟩, hk, hlk, -, hkd, -⟩ := hf
  have he := hR.at hs
  rw [zE_obj hs] at he
  subst hN
  have hkd1 : zkd ci k = 2 := hkd
  exact va_get hX.1 hX.2.1 hX.2.2.2.2.2.2.1 hin hX.2.2.2.2.2.1 hR.2.2.2 hR.2.1 a he hc k hk (hX.2.2.2.2.2.2.1 _ hlk) (fun _ h => h) ((zfs_get hk).trans (congrArg some (by simp [zF, hkd1, hr, va_rf, zc]))) hd (kk p l e Rm s m args below meth c D G as A H locs ls Q hX hS hR hL hE)
theorem zfs_set {ρ : Nat → Nat} {ci a k : Nat} {v : Value} {I2 : zMI} {L2 : zML} {R2 : zMR} (h1 : zF ρ I2 L2 R2 ci a k = v) (h2 : ∀ j, j ≠ k → zF ρ I2 L2 R2 ci a j = zF ρ I L R ci a j) : (zfs ρ I L R ci a).set k v = zfs ρ I2 L2 R2 ci a := by
  apply List.ext_getElem?
  intro j
  by_cases hj : j < zN ci
  · rw [zfs_get hj]
    by_cases e : j = k
    · subst e
      rw [List.getElem?_set_self (by rw [zfs_len]; exact hj), h1]
    · rw [List.getElem?_set_ne (Ne.symm e), zfs_get hj, h2 j e]
  · rw [List.getElem?_eq_none (by rw [List.length_set, zfs_len]; omega), List.getElem?_eq_none (by rw [zfs_len]; omega)]
theorem zRep.put {D : va_G} {G : zGt} {as : List Nat} {A : Nat → Prop} {H H1 : Heap} {s : State} {a : Nat} {e : va_E} {I2 : zMI} {L2 : zML} {R2 : zMR} (h : zRep D G as A S I L R H s) (he : zE G (zr as) S I2 L2 R2 a = e) (hne : ∀ q, q ≠ a → zE G (zr as) S I2 L2 R2 q = zE G (zr as) S I L R q)
    (hP : va_P D vwCl ((zW G as S I L R).set a (zr as a, e)) H1) (hD : va_D A ((zW G as S I L R).set a (zr as a, e))) : zRep D G as A S I2 L2 R2 H1 s := by
  subst he
  rw [zW_set hne] at hP hD
  exact ⟨h.1, hP, hD, h.2.2.2⟩
theorem z_puti {idx ci k a w : Nat} {v : Int32} (hd : zD g.2.1 pc (.putfield idx) 3 pc2) (hf : zFL g.1 idx ci k 0 false) (hs : S[a]? = some (ci + 3, w)) (kk : zV g Post u S (zu I a k v) L R pc2 lv st) : zV g Post u S I L R pc lv (.int v :: .ref a :: st) := by
  intro p l e Rm s m args below meth c D G as A H locs ls Q hX hS hR hL hE
  obtain ⟨hd, rfl⟩ := hd
  obtain ⟨C, T, N, ty, ⟨hc, hin, hty, hnm, hN, -, -⟩, hk, hlk, hfin, hkd, h0, h1, h2, h3⟩ := hf
  have he := hR.at hs
  rw [zE_obj hs] at he
  subst hN
  refine va_put (v := .int v) (ty := ty k) hX.1 hX.2.1 hX.2.2.2.2.2.2.1 hin ty hty hnm hX.2.2.2.2.2.1 hR.2.2.2 hR.2.1 hR.2.2.1 hS a he hc k hk (hX.2.2.2.2.2.2.1 _ hlk) (fun _ h => h) hfin (hty k hk) (by rw [h0 rfl]; rfl) (by rw [h0 rfl]; rfl) (by rw [zfs_len]; exact hk) hd (fun H1 locs1 hP1 hD1 hS1 => ?_)
  refine kk p l e Rm s m args below meth c D G as A H1 locs1 ls Q hX hS1 (hR.put ((zE_obj hs).trans ?_) (fun q hq => (zE_congr (zu_ne hq) rfl rfl)) hP1 hD1) hL hE
  exact congrArg (fun l => Sum.inr (ci, l)) (zfs_set (by simp [zF, hkd, zu_same]) (fun j hj => by simp [zF, zu_nk (Or.inr hj)])).symm
theorem z_putz {idx ci k a w : Nat} {v : Int32} (hd : zD g.2.1 pc (.putfield idx) 3 pc2) (hf : zFL g.1 idx ci k 3 false) (hs : S[a]? = some (ci + 3, w)) (hv : v = 0 ∨ v = 1) (kk : zV g Post u S (zu I a k v) L R pc2 lv st) : zV g Post u S I L R pc lv (.int v :: .ref a :: st) := by
  intro p l e Rm s m args below meth c D G as A H locs ls Q hX hS hR hL hE
  obtain ⟨hd, rfl⟩ := hd
  obtain ⟨C, T, N, ty, ⟨hc, hin, hty, hnm, hN, -, -⟩, hk, hlk, hfin, hkd, h0, h1, h2, h3⟩ := hf
  have he := hR.at hs
  rw [zE_obj hs] at he
  subst hN
  refine va_put (v := .int v) (ty := ty k) hX.1 hX.2.1 hX.2.2.2.2.2.2.1 hin ty hty hnm hX.2.2.2.2.2.1 hR.2.2.2 hR.2.1 hR.2.2.1 hS a he hc k hk (hX.2.2.2.2.2.2.1 _ hlk) (fun _ h => h) hfin (hty k hk) (by rw [h3 rfl]; rcases hv with rfl | rfl <;> rfl) (by rw [h3 rfl]; rcases hv with rfl | rfl <;> rfl) (by rw [zfs_len]; exact hk) hd (fun H1 locs1 hP1 hD1 hS1 => ?_)
  refine kk p l e Rm s m args below meth c D G as A H1 locs1 ls Q hX hS1 (hR.put ((zE_obj hs).trans ?_) (fun q hq => (zE_congr (zu_ne hq) rfl rfl)) hP1 hD1) hL hE
  exact congrArg (fun l => Sum.inr (ci, l)) (zfs_set (by simp [zF, hkd, zu_same]) (fun j hj => by simp [zF, zu_nk (Or.inr hj)])).symm
theorem z_putl {idx ci k a w : Nat} {v : Int64} (hd : zD g.2.1 pc (.putfield idx) 3 pc2) (hf : zFL g.1 idx ci k 1 false) (hs : S[a]? = some (ci + 3, w)) (kk : zV g Post u S I (zuL L a k v) R pc2 lv st) : zV g Post u S I L R pc lv (.long v :: .ref a :: st) := by
  intro p l e Rm s m args below meth c D G as A H locs ls Q hX hS hR hL hE
  obtain ⟨hd, rfl⟩ := hd
  obtain ⟨C, T, N, ty, ⟨hc, hin, hty, hnm, hN, -, -⟩, hk, hlk, hfin, hkd, h0, h1, h2, h3⟩ := hf
  have he := hR.at hs
  rw [zE_obj hs] at he
  subst hN
  refine va_put (v := .long v) (ty := ty k) hX.1 hX.2.1 hX.2.2.2.2.2.2.1 hin ty hty hnm hX.2.2.2.2.2.1 hR.2.2.2 hR.2.1 hR.2.2.1 hS a he hc k hk (hX.2.2.2.2.2.2.1 _ hlk) (fun _ h => h) hfin (hty k hk) (by rw [h1 rfl]; rfl) (by rw [h1 rfl]; rfl) (by rw [zfs_len]; exact hk) hd (fun H1 locs1 hP1 hD1 hS1 => ?_)
  refine kk p l e Rm s m args below meth c D G as A H1 locs1 ls Q hX hS1 (hR.put ((zE_obj hs).trans ?_) (fun q hq => (zE_congr rfl (zuL_ne hq) rfl)) hP1 hD1) hL hE
  exact congrArg (fun l => Sum.inr (ci, l)) (zfs_set (by have hkd1 : zkd ci k = 1 := hkd; simp [zF, hkd1, zuL]) (fun j hj => by simp [zF, zuL, hj])).symm
theorem z_iald {a n : Nat} {i : Int32} (j : Nat) (hd : zD g.2.1 pc .iaload 1 pc2) (hs : S[a]? = some (0, n)) (hi : i = nI j) (hj : j < n) (hn : n < 2 ^ 31) (kk : zV g Post u S I L R pc2 lv (.int (I a j) :: st)) : zV g Post u S I L R pc lv (.int i :: .ref a :: st) := by
  intro p l e Rm s m args below meth c D G as A H locs ls Q hX hS hR hL hE
  obtain ⟨hd, rfl⟩ := hd
  have he := hR.at hs
  rw [zE_int hs] at he
  have hcl : i.toNatClampNeg = j := by rw [hi]; exact nI_clamp (by omega)
  refine va_iald hX.1 hX.2.1 hR.2.2.2 hR.2.1 a 0 he rfl (by rw [hi]; exact vp_in_nI hj hn) hd ?_
  rw [hcl]
  exact kk p l e Rm s m args below meth c D G as A H locs ls Q hX hS hR hL hE
theorem z_iast {a n : Nat} {i v : Int32} (j : Nat) (hd : zD g.2.1 pc .iastore 1 pc2) (hs : S[a]? = some (0, n)) (hi : i = nI j) (hj : j < n) (hn : n < 2 ^ 31) (kk : zV g Post u S (zu I a j v) L R pc2 lv st) : zV g Post u S I L R pc lv (.int v :: .int i :: .ref a :: st) := by
  intro p l e Rm s m args below meth c D G as A H locs ls Q hX hS hR hL hE
  obtain ⟨hd, rfl⟩ := hd
  have he := hR.at hs
  rw [zE_int hs] at he
  have hcl : i.toNatClampNeg = j := by rw [hi]; exact nI_clamp (by omega)
  refine va_iast hX.1 hX.2.1 hR.2.2.2 hR.2.1 hR.2.2.1 hS a 0 he rfl (by rw [hi]; exact vp_in_nI hj hn) hd (fun H1 locs1 hP1 hD1 hS1 => ?_)
  rw [hcl] at hP1 hD1
  exact kk p l e Rm s m args below meth c D G as A H1 locs1 ls Q hX hS1 (hR.put ((zE_int hs).trans (by rw [zu_at])) (fun q hq => zE_congr (zu_ne hq) rfl rfl) hP1 hD1) hL hE
theorem z_zald {a n : Nat} {i : Int32} (j : Nat) (hd : zD g.2.1 pc .baload 1 pc2) (hs : S[a]? = some (1, n)) (hi : i = nI j) (hj : j < n) (hn : n < 2 ^ 31) (kk : zV g Post u S I L R pc2 lv (.int (I a j) :: st)) : zV g Post u S I L R pc lv (.int i :: .ref a :: st) := by
  intro p l e Rm s m args below meth c D G as A H locs ls Q hX hS hR hL hE
  obtain ⟨hd, rfl⟩ := hd
  have he := hR.at hs
  rw [zE_bool hs] at he
  have hcl : i.toNatClampNeg = j := by rw [hi]; exact nI_clamp (by omega)
  refine va_zald hX.1 hX.2.1 hR.2.2.2 hR.2.1 a 1 he rfl (by rw [hi]; exact vp_in_nI hj hn) hd ?_
  rw [hcl]
  exact kk p l e Rm s m args below meth c D G as A H locs ls Q hX hS hR hL hE
theorem z_zast {a n : Nat} {i v : Int32} (j : Nat) (hd : zD g.2.1 pc .bastore 1 pc2) (hs : S[a]? = some (1, n)) (hi : i = nI j) (hj : j < n) (hn : n < 2 ^ 31) (hv : v = 0 ∨ v = 1) (kk : zV g Post u S (zu I a j v) L R pc2 lv st) : zV g Post u S I L R pc lv (.int v :: .int i :: .ref a :: st) := by
  intro p l e Rm s m args below meth c D G as A H locs ls Q hX hS hR hL hE
  obtain ⟨hd, rfl⟩ := hd
  have he := hR.at hs
  rw [zE_bool hs] at he
  have hcl : i.toNatClampNeg = j := by rw [hi]; exact nI_clamp (by omega)
  have hnv : vp_nar .boolean v = v := by rcases hv with rfl | rfl <;> rfl
  refine va_zast hX.1 hX.2.1 hR.2.2.2 hR.2.1 hR.2.2.1 hS a 1 he rfl (by rw [hi]; exact vp_in_nI hj hn) hd (fun H1 locs1 hP1 hD1 hS1 => ?_)
  rw [hcl, hnv] at hP1 hD1
  exact kk p l e Rm s m args below meth c D G as A H1 locs1 ls Q hX hS1 (hR.put ((zE_bool hs).trans (by rw [zu_at])) (fun q hq => zE_congr (zu_ne hq) rfl rfl) hP1 hD1) hL hE
theorem z_aald {a n q : Nat} {i : Int32} (j : Nat) (hd : zD g.2.1 pc .aaload 1 pc2) (hs : S[a]? = some (2, n)) (hi : i = nI j) (hj : j < n) (hn : n < 2 ^ 31) (hr : R a j = some q) (kk : zV g Post u S I L R pc2 lv (.ref q :: st)) : zV g Post u S I L R pc lv (.int i :: .ref a :: st) := by
  intro p l e Rm s m args below meth c D G as A H locs ls Q hX hS hR hL hE
  obtain ⟨hd, rfl⟩ := hd
  have he := hR.at hs
  rw [zE_refs hs] at he
  have hcl : i.toNatClampNeg = j := by rw [hi]; exact nI_clamp (by omega)
  refine va_aldq (C := RX2) hX.1 hX.2.1 hR.2.2.2 hR.2.1 a 2 he rfl (by rw [hi]; exact vp_in_nI hj hn) hd ?_
  rw [hcl, hr]
  exact kk p l e Rm s m args below meth c D G as A H locs ls Q hX hS hR hL hE
theorem z_alen {a n kd : Nat} (hd : zD g.2.1 pc .arraylength 1 pc2) (hs : S[a]? = some (kd, n)) (hk : kd < 3) (kk : zV g Post u S I L R pc2 lv (.int (nI n) :: st)) : zV g Post u S I L R pc lv (.ref a :: st) := by
  intro p l e Rm s m args below meth c D G as A H locs ls Q hX hS hR hL hE
  obtain ⟨hd, rfl⟩ := hd
  have he := hR.at hs
  match kd, hk, hs with
  | 0, _, hs =>
    rw [zE_int hs] at he
    exact va_alen hX.1 hX.2.1 hR.2.2.2 hR.2.1 a 0 he rfl rfl hd (kk p l e Rm s m args below meth c D G as A H locs ls Q hX hS hR hL hE)
  | 1, _, hs =>
    rw [zE_bool hs] at he
    exact va_alen hX.1 hX.2.1 hR.2.2.2 hR.2.1 a 1 he rfl rfl hd (kk p l e Rm s m args below meth c D G as A H locs ls Q hX hS hR hL hE)
  | 2, _, hs =>
    rw [zE_refs hs] at he
    exact va_alen hX.1 hX.2.1 hR.2.2.2 hR.2.1 a 2 he rfl rfl hd (kk p l e Rm s m args below meth c D G as A H locs ls Q hX hS hR hL hE)
theorem z_sld {b n : Nat} {xs : Nat → Int32} {i : Int32} (hsc : g.2.2.2.2.2.2.2 = some (b, n, xs)) (hd : zD g.2.1 pc .iaload 1 pc2) (hi : vp_in i n) (kk : zV g Post u S I L R pc2 lv (.int (xs i.toNatClampNeg) :: st)) : zV g Post u S I L R pc lv (.int i :: .retAddr b :: st) := by
  intro p l e Rm s m args below meth c D G as A H locs ls Q hX hS hR hL hE
  obtain ⟨hd, rfl⟩ := hd
  have hsx := hX.2.2.2.2.2.2.2.2.2.2.2.2.2.2
  rw [hsc] at hsx
  exact va_sld hX.1 hX.2.1 hsx.1 hsx.2.1 hsx.2.2 hS hi hd (kk p l e Rm s m args below meth c D G as A H locs ls Q hX hS hR hL hE)
theorem z_slen {b n : Nat} {xs : Nat → Int32} (hsc : g.2.2.2.2.2.2.2 = some (b, n, xs)) (hd : zD g.2.1 pc .arraylength 1 pc2) (kk : zV g Post u S I L R pc2 lv (.int (nI n) :: st)) : zV g Post u S I L R pc lv (.retAddr b :: st) := by
  intro p l e Rm s m args below meth c D G as A H locs ls Q hX hS hR hL hE
  obtain ⟨hd, rfl⟩ := hd
  have hsx := hX.2.2.2.2.2.2.2.2.2.2.2.2.2.2
  rw [hsc] at hsx
  exact va_slen hX.1 hX.2.1 hsx.1 hsx.2.1 hsx.2.2 hS hd (kk p l e Rm s m args below meth c D G as A H locs ls Q hX hS hR hL hE)
theorem z_ret  (hd : zD g.2.1 pc .return_ 1 pc2) (hu : u.1 ≤ g.2.2.2.2.2.2.1.1 ∧ u.2 ≤ g.2.2.2.2.2.2.1.2) (hr : g.2.2.2.1 = none) (hp : Post S I L R none) : zV g Post u S I L R pc lv [] := by
  intro p l e Rm s m args below meth c D G as A H locs ls Q hX hS hR hL hE
  refine W.widen hu.1 hu.2 ?_
  exact hE S I L R none as H locs pc ls hd.1 hp (by rw [hr]; trivial) (List.prefix_refl _) hR hS
theorem z_iret {v : Int32} (hd : zD g.2.1 pc .ireturn 1 pc2) (hu : u.1 ≤ g.2.2.2.2.2.2.1.1 ∧ u.2 ≤ g.2.2.2.2.2.2.1.2) (hr : zVr g.2.2.2.1 (some (.int v))) (hp : Post S I L R (some (.int v))) : zV g Post u S I L R pc lv [.int v] := by
  intro p l e Rm s m args below meth c D G as A H locs ls Q hX hS hR hL hE
  refine W.widen hu.1 hu.2 ?_
  exact hE S I L R (some (.int v)) as H locs pc ls hd.1 hp hr (List.prefix_refl _) hR hS
theorem z_aret {v : Nat} (hd : zD g.2.1 pc .areturn 1 pc2) (hu : u.1 ≤ g.2.2.2.2.2.2.1.1 ∧ u.2 ≤ g.2.2.2.2.2.2.1.2) (hr : zVr g.2.2.2.1 (some (.ref v))) (hp : Post S I L R (some (.ref v))) : zV g Post u S I L R pc lv [.ref v] := by
  intro p l e Rm s m args below meth c D G as A H locs ls Q hX hS hR hL hE
  refine W.widen hu.1 hu.2 ?_
  exact hE S I L R (some (.ref v)) as H locs pc ls hd.1 hp hr (List.prefix_refl _) hR hS
theorem z_mmax {x y : Int32} {idx : Nat} (hd : zD g.2.1 pc (.invokestatic idx) 3 pc2) (h1 : Cond.methodLink g.1 idx Lib.Math.max.name ∈ zT) (h2 : Cond.static Lib.Math.max.name ∈ zT) (h3 : Cond.initialized "java/lang/Math" ∈ zT) (h4 : Cond.code Lib.Math.max.name Lib.Math.max.code 2 (some .int) ∈ zT) (hdp : 1 ≤ g.2.2.2.2.2.1) (hst : (st.map fun v => v.category).sum ≤ 8) (hu : u.1 ≤ g.2.2.2.2.2.2.1.1 ∧ u.2 ≤ g.2.2.2.2.2.2.1.2) (k : zV g Post u S I L R pc2 lv (.int (if x < y then y else x) :: st)) : zV g Post u S I L R pc lv (.int y :: .int x :: st) := by
  intro p l e Rm s m args below meth c D G as A H locs ls Q hX hS hR hL hE
  obtain ⟨hd, rfl⟩ := hd
  have hx := hX
  obtain ⟨x1, x2, x3, x4, x5, x6, x7, x8, x9, x10, x11, x12, x13, x14, x15⟩ := hx
  exact va_mmax x1 x2 (by rw [x5]; exact hL.1.symm) x6 (x7 _ h1) (x7 _ h2) (x7 _ h3) (x7 _ h4) (by omega) (by rw [zc_cats]; omega) (by rw [x11]; exact hu.1) (by rw [x12]; exact hu.2) hd (k p l e Rm s m args below meth c D G as A H locs ls Q hX hS hR hL hE)
theorem z_mmin {x y : Int32} {idx : Nat} (hd : zD g.2.1 pc (.invokestatic idx) 3 pc2) (h1 : Cond.methodLink g.1 idx Lib.Math.min.name ∈ zT) (h2 : Cond.static Lib.Math.min.name ∈ zT) (h3 : Cond.initialized "java/lang/Math" ∈ zT) (h4 : Cond.code Lib.Math.min.name Lib.Math.min.code 2 (some .int) ∈ zT) (hdp : 1 ≤ g.2.2.2.2.2.1) (hst : (st.map fun v => v.category).sum ≤ 8) (hu : u.1 ≤ g.2.2.2.2.2.2.1.1 ∧ u.2 ≤ g.2.2.2.2.2.2.1.2) (k : zV g Post u S I L R pc2 lv (.int (if y < x then y else x) :: st)) : zV g Post u S I L R pc lv (.int y :: .int x :: st) := by
  intro p l e Rm s m args below meth c D G as A H locs ls Q hX hS hR hL hE
  obtain ⟨hd, rfl⟩ := hd
  have hx := hX
  obtain ⟨x1, x2, x3, x4, x5, x6, x7, x8, x9, x10, x11, x12, x13, x14, x15⟩ := hx
  exact va_mmin x1 x2 (by rw [x5]; exact hL.1.symm) x6 (x7 _ h1) (x7 _ h2) (x7 _ h3) (x7 _ h4) (by omega) (by rw [zc_cats]; omega) (by rw [x11]; exact hu.1) (by rw [x12]; exact hu.2) hd (k p l e Rm s m args below meth c D G as A H locs ls Q hX hS hR hL hE)
theorem z_mabs {x : Int32} {idx : Nat} (hd : zD g.2.1 pc (.invokestatic idx) 3 pc2) (h1 : Cond.methodLink g.1 idx Lib.Math.abs.name ∈ zT) (h2 : Cond.static Lib.Math.abs.name ∈ zT) (h3 : Cond.initialized "java/lang/Math" ∈ zT) (h4 : Cond.code Lib.Math.abs.name Lib.Math.abs.code 1 (some .int) ∈ zT) (hdp : 1 ≤ g.2.2.2.2.2.1) (hst : (st.map fun v => v.category).sum ≤ 8) (hu : u.1 ≤ g.2.2.2.2.2.2.1.1 ∧ u.2 ≤ g.2.2.2.2.2.2.1.2) (k : zV g Post u S I L R pc2 lv (.int (if 0 ≤ x then x else 0 - x) :: st)) : zV g Post u S I L R pc lv (.int x :: st) := by
  intro p l e Rm s m args below meth c D G as A H locs ls Q hX hS hR hL hE
  obtain ⟨hd, rfl⟩ := hd
  have hx := hX
  obtain ⟨x1, x2, x3, x4, x5, x6, x7, x8, x9, x10, x11, x12, x13, x14, x15⟩ := hx
  exact va_mabs x1 x2 (by rw [x5]; exact hL.1.symm) x6 (x7 _ h1) (x7 _ h2) (x7 _ h3) (x7 _ h4) (by omega) (by rw [zc_cats]; omega) (by rw [x11]; exact hu.1) (by rw [x12]; exact hu.2) hd (k p l e Rm s m args below meth c D G as A H locs ls Q hX hS hR hL hE)
theorem z_copy {a b n0 n1 idx : Nat} {sp dp n : Int32} (hd : zD g.2.1 pc (.invokestatic idx) 3 pc2) (h1 : Cond.methodLink g.1 idx arraycopyName ∈ zT) (h2 : Cond.native arraycopyName ∈ zT) (h3 : Cond.static arraycopyName ∈ zT) (h4 : Cond.initialized "java/lang/System" ∈ zT) (ha : S[a]? = some (0, n0)) (hb : S[b]? = some (0, n1)) (g1 : ¬ sp < 0) (g2 : ¬ dp < 0) (g3 : ¬ n < 0) (g4 : sp.toNatClampNeg + n.toNatClampNeg ≤ n0) (g5 : dp.toNatClampNeg + n.toNatClampNeg ≤ n1) (hdp : 1 ≤ g.2.2.2.2.2.1) (hst : (st.map fun v => v.category).sum ≤ 8) (I2 : zMI) (hI : I2 b = va_cpy (I a) (I b) sp.toNatClampNeg dp.toNatClampNeg n.toNatClampNeg) (hI2 : ∀ q, q ≠ b → I2 q = I q) (kk : zV g Post u S I2 L R pc2 lv st) : zV g Post u S I L R pc lv (.int n :: .int dp :: .ref b :: .int sp :: .ref a :: st) := by
  intro p l e Rm s m args below meth c D G as A H locs ls Q hX hS hR hL hE
  obtain ⟨hd, rfl⟩ := hd
  have hx := hX
  obtain ⟨x1, x2, x3, x4, x5, x6, x7, x8, x9, x10, x11, x12, x13, x14, x15⟩ := hx
  have hea := hR.at ha
  rw [zE_int ha] at hea
  have heb := hR.at hb
  rw [zE_int hb] at heb
  have hnf : nativeFrameWords "java/lang/System" "arraycopy" 5 + 11 ≤ 32 := by decide +kernel
  refine va_copyi x1 x2 (by rw [x5]; exact hL.1.symm) x6 (x7 _ h1) (x7 _ h2) (x7 _ h3) (x7 _ h4) hR.2.2.2 hR.2.1 hR.2.2.1 hS a b 0 0 hea heb rfl rfl rfl g1 g2 g3 g4 g5 (fun _ _ => rfl) (by omega) (by rw [zc_cats]; omega) hd (fun H1 locs1 hP1 hD1 hS1 => ?_)
  exact kk p l e Rm s m args below meth c D G as A H1 locs1 ls Q hX hS1 (hR.put ((zE_int hb).trans (by rw [hI])) (fun q hq => zE_congr (hI2 q hq) rfl rfl) hP1 hD1) hL hE
end ZRules
