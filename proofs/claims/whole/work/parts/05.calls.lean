/-! ===== contracts ===== -/
def zws (y : MethodName) (cc : ByteArray) (nL : Nat) (rt : Option FieldType) : List Cond := Cond.code y cc nL rt :: zT
def zRm (d : Nat) (T : Nat × Nat) : Room := { frames := d, cells := T.1, slots := T.2, locals := 40 * d }
def zPc (D : va_G) (G : zGt) (as : List Nat) (sz : Nat) (S : zS) (I : zMI) (L : zML) (R : zMR) (av : List Value) : Array Value → State → Prop := fun v U => v = (av.map (zc as)).toArray ∧ U.heap.size = sz ∧ as.length = S.length ∧ va_P D vwCl (zW G as S I L R) U.heap ∧ va_D (fun _ => True) (zW G as S I L R) ∧ va_K D vwCl (zTy G) U ∧ zNw U
def zQc (D : va_G) (G : zGt) (as : List Nat) (sz : Nat) (S : zS) (I : zMI) (L : zML) (R : zMR) (Post : zPost) : Array Value → State → Outcome → State → Prop := fun _ st o t => ∃ (S2 : zS) (I2 : zMI) (L2 : zML) (R2 : zMR) (r : Option Value) (as2 : List Nat), o = .returned (r.map (zc as2)) ∧ Post S2 I2 L2 R2 r ∧ as <+: as2 ∧ as2.length = S2.length ∧ va_P D vwCl (zW G as2 S2 I2 L2 R2) t.heap ∧ va_D (va_A (zW G as S I L R) sz) (zW G as2 S2 I2 L2 R2) ∧ va_F (va_A (zW G as S I L R) sz) st t
def zMet (y : MethodName) (cc : ByteArray) (nL : Nat) (rt : Option FieldType) (d : Nat) (T : Nat × Nat) (av : List Value) (S : zS) (I : zMI) (L : zML) (R : zMR) (Post : zPost) : Prop :=
  ∀ (l : Launch) (D : va_G) (G : zGt) (as : List Nat) (sz : Nat), Met l y (zws y cc nL rt) (zRm d T) (zPc D G as sz S I L R av) (zQc D G as sz S I L R Post) T.1 T.2 (va_A (zW G as S I L R) sz)
def zM0 (y : MethodName) (cc : ByteArray) (nL : Nat) (rt : Option FieldType) (d : Nat) (av : List Value) (S : zS) (I : zMI) (L : zML) (R : zMR) (PostM : zMI → zML → Option Value → Prop) : Prop := zMet y cc nL rt d (0, 0) av S I L R (fun S2 I2 L2 R2 r => S2 = S ∧ R2 = R ∧ PostM I2 L2 r)
/-- nothing written; the answer is v -/
abbrev zPure (I : zMI) (L : zML) (v : Int32) : zMI → zML → Option Value → Prop := fun I2 L2 r => I2 = I ∧ L2 = L ∧ r = some (.int v)
theorem zNest_form : ∀ w ∈ zNest, ∃ a i x h, w = Cond.methodLinkNest a i x h := by
  intro w hw
  simp only [zNest, List.mem_cons, List.not_mem_nil, or_false] at hw
  rcases hw with rfl | rfl | rfl | rfl | rfl | rfl <;> exact ⟨_, _, _, _, rfl⟩
theorem zNw_warm {s U : State} (hW : s.WarmedH U.vm) (h : zNw s) : zNw U := by
  refine ⟨fun w hw => ?_, va_AO.moved hW.alike h.2⟩
  obtain ⟨a, i, x, hh, rfl⟩ := zNest_form w hw
  exact va_Nw.warmM hW (h.1 _ hw)
def zArg1 (av : List Value) : List (Option Value) := av.flatMap (fun v => if v.category = 2 then [some v, none] else [some v])
def zArg (nL : Nat) (av : List Value) : List (Option Value) := zArg1 av ++ List.replicate (nL - (zArg1 av).length) none
theorem lvargs_get : ∀ (vs : List Value) (n i : Nat) (v : Value), (zArg1 vs)[i]? = some (some v) → (n + i, v) ∈ lv_args n vs
  | [], n, i, v, h => by simp [zArg1] at h
  | w :: vs, n, i, v, h => by
    unfold zArg1 at h
    rw [List.flatMap_cons] at h
    unfold lv_args
    by_cases hc : w.category = 2
    · rw [if_pos hc] at h
      match i, h with
      | 0, h =>
        simp at h
        subst h
        simp
      | 1, h => simp at h
      | i + 2, h =>
        have h2 : (zArg1 vs)[i]? = some (some v) := by simpa [zArg1] using h
        have h3 := lvargs_get vs (n + 2) i v h2
        rw [show n + (i + 2) = n + 2 + i by omega]
        simp only [hc]
        exact List.mem_cons_of_mem _ (by simpa using h3)
    · rw [if_neg hc] at h
      have hc1 : w.category = 1 := by
        rcases lv_cat w with h | h
        · exact h
        · exact absurd h hc
      match i, h with
      | 0, h =>
        simp at h
        subst h
        simp
      | i + 1, h =>
        have h2 : (zArg1 vs)[i]? = some (some v) := by simpa [zArg1] using h
        have h3 := lvargs_get vs (n + 1) i v h2
        rw [show n + (i + 1) = n + 1 + i by omega]
        simp only [hc1]
        exact List.mem_cons_of_mem _ (by simpa using h3)
theorem zArg_conc (as : List Nat) (av : List Value) : zArg1 (av.map (zc as)) = (zArg1 av).map (Option.map (zc as)) := by
  unfold zArg1
  induction av with
  | nil => rfl
  | cons v t ih =>
    rw [List.map_cons, List.flatMap_cons, List.flatMap_cons, List.map_append, ih, zc_cat]
    by_cases hc : v.category = 2 <;> simp [hc]
theorem lg_sl_len (vs : List Value) : (lg_sl vs).length = (zArg1 vs).length := by
  induction vs with
  | nil => rfl
  | cons v t ih =>
    unfold lg_sl zArg1 at ih ⊢
    rw [List.flatMap_cons, List.flatMap_cons, List.length_append, List.length_append, ih]
    by_cases hc : v.category = 2 <;> simp [hc]
theorem zH_entry (as : List Nat) (av : List Value) {nL : Nat} {lv : List (Option Value)} (h : zArg nL av = lv) (hn : lv.length = nL) : (lg_sl (av.map (zc as))).length ≤ nL ∧ zH ((lg_sl (av.map (zc as)) ++ List.replicate (nL - (lg_sl (av.map (zc as))).length) Slot.unset).toArray) nL as lv := by
  have hlen : (lg_sl (av.map (zc as))).length ≤ nL := by
    rw [lg_sl_len, zArg_conc, List.length_map]
    rw [← h] at hn
    unfold zArg at hn
    rw [List.length_append, List.length_replicate] at hn
    omega
  have he := lv_entry (av.map (zc as)) (n := nL) hlen
  refine ⟨hlen, he.1, he.2.1, by omega, fun i v hi => ?_⟩
  rw [← h] at hi
  unfold zArg at hi
  by_cases hl : i < (zArg1 av).length
  · rw [List.getElem?_append_left hl] at hi
    have h2 : (zArg1 (av.map (zc as)))[i]? = some (some (zc as v)) := by
      rw [zArg_conc, List.getElem?_map, hi]; rfl
    have h3 := lvargs_get _ 0 i _ h2
    rw [Nat.zero_add] at h3
    exact he.2.2 _ h3
  · rw [List.getElem?_append_right (by omega)] at hi
    have := List.mem_of_getElem? hi
    simp at this
theorem zMet_of {y : MethodName} {cc : ByteArray} {nL : Nat} {rt : Option FieldType} {d : Nat} {T : Nat × Nat} {av : List Value} {S : zS} {I : zMI} {L : zML} {R : zMR} {Post : zPost} {ini : Bool} {lv : List (Option Value)} (hy : plainName y.cls = true) (hini : ini = true → y.name = "<init>") (ha : zArg nL av = lv) (hn : lv.length = nL)
    (h : zV (y.cls, cc, nL, rt, ini, d, T, none) Post (0, 0) S I L R 0 lv []) : zMet y cc nL rt d T av S I L R Post := by
  intro l D G as sz
  refine Met.ofW (cc := cc) (maxL := nL) (ret := rt) hy rfl ?_
  intro p e s m args below meth c s₁ B hml hv
  obtain ⟨rfl, hsz, hlen, hP, hD0, hK, hNw⟩ := hv
  have hts := atoms_spec (ws := zws y cc nL rt) B.pre
  subst hsz
  have hD := hD0.self (sz := s.heap.size)
  obtain ⟨hl0, hL⟩ := zH_entry as av ha hn
  rw [lg_entry_eq]
  refine h p l e _ s m _ below meth c D G as (va_A (zW G as S I L R) s.heap.size) s.heap [] _ _ ?_ va_S.rf ⟨hlen, hP, hD, hK⟩ hL ?_
  · exact ⟨B.exec, B.bytes, B.returns, B.notSynchronized, hml, findClass_of_methodNamed B.named, fun w hw => hts w (List.mem_cons_of_mem _ hw), fun hi => (name_of_methodNamed B.named B.method).1.trans (hini hi), Nat.le_refl _, Nat.le_refl _, rfl, rfl, hNw, fun q hq => Or.inr hq, trivial⟩
  · intro S2 I2 L2 R2 r as2 H2 locs2 pc2 ls2 hdec hpost hvr hpre hR2 hS2
    have hq : ∀ t : State, t.heap = H2 → s.WarmedH t.vm → zQc D G as s.heap.size S I L R Post (av.map (zc as)).toArray s (.returned (r.map (zc as2))) t := by
      intro t ht hW
      exact ⟨S2, I2, L2, R2, r, as2, rfl, hpost, hpre, hR2.1, by rw [ht]; exact hR2.2.1, hR2.2.2.1, hS2.F ht⟩
    have hlocks := B.notSynchronized
    have hf : ∀ q ∈ locs2, va_A (zW G as S I L R) s.heap.size q.base := hS2.2.2
    have hret : meth.sig.returnType = rt := B.returns
    have hexec := B.exec
    have hbytes := B.bytes
    clear B h hts
    match rt, r, hvr, hdec, hq, hret with
    | none, none, _, hdec, hq, hret => exact W.vret hexec hbytes hret hq hf hdec hlocks
    | some ty, some (.int v), hvr, hdec, hq, hret => exact W.zret hexec hbytes hret hvr hq hf hdec hlocks
    | some (.object nm), some (.ref v), _, hdec, hq, hret => exact W.aret hexec hbytes hret (Or.inl ⟨_, rfl⟩) (Or.inr ⟨_, rfl⟩) hq hf hdec hlocks
/-- a method by its pool entry: name, code, locals, answer, parameters -/
def zML0 (own : String) (idx : Nat) (y : MethodName) (cc : ByteArray) (nL : Nat) (rt : Option FieldType) (n : Nat) : Prop :=
  Cond.methodLink own idx y ∈ zT ∧ Cond.initialized y.cls ∈ zT ∧ Cond.code y cc nL rt ∈ zT ∧ (y.cls ≠ "java/lang/invoke/MethodHandle" ∧ y.cls ≠ "java/lang/invoke/VarHandle" ∧ (parseMethodDescriptor y.desc).map (fun d => d.parameters.length) = some n) ∧ nL ≤ 20
def zMLV (own : String) (idx ci : Nat) (y : MethodName) (cc : ByteArray) (nL : Nat) (rt : Option FieldType) (n : Nat) : Prop :=
  zML0 own idx y cc nL rt n ∧ Cond.instanceMethod y ∈ zT ∧ Cond.selects y.cls y y ∈ zT ∧ ∃ T N, vwCl[ci]? = some (y.cls, T, N)
def zMLS (own : String) (idx : Nat) (y : MethodName) (cc : ByteArray) (nL : Nat) (rt : Option FieldType) (n : Nat) : Prop :=
  zML0 own idx y cc nL rt n ∧ Cond.static y ∈ zT
def zMLI (own : String) (idx : Nat) (y : MethodName) (cc : ByteArray) (nL : Nat) (n : Nat) : Prop :=
  zML0 own idx y cc nL none n ∧ Cond.instanceMethod y ∈ zT ∧ y.name = "<init>"
def zMLN (own : String) (idx : Nat) (y : MethodName) (cc : ByteArray) (nL : Nat) (rt : Option FieldType) (n : Nat) (host : String) : Prop :=
  Cond.methodLinkNest own idx y host ∈ zNest ∧ Cond.initialized y.cls ∈ zT ∧ Cond.code y cc nL rt ∈ zT ∧ (y.cls ≠ "java/lang/invoke/MethodHandle" ∧ y.cls ≠ "java/lang/invoke/VarHandle" ∧ (parseMethodDescriptor y.desc).map (fun d => d.parameters.length) = some n) ∧ nL ≤ 20
def zOk (n : Nat) (st : List Value) : Prop := ∀ v ∈ st, ∀ q, v = .ref q → q < n
theorem zc_ok {as as2 : List Nat} (hp : as <+: as2) {v : Value} (h : ∀ q, v = .ref q → q < as.length) : zc as2 v = zc as v := by
  cases v with
  | ref q =>
    have hq := h q rfl
    obtain ⟨t, rfl⟩ := hp
    simp [zc, zr, List.getD_eq_getElem?_getD, List.getElem?_append_left hq]
  | _ => rfl
theorem zOk_map {as as2 : List Nat} (hp : as <+: as2) {st : List Value} (h : zOk as.length st) : st.map (zc as2) = st.map (zc as) := List.map_congr_left (fun v hv => zc_ok hp (h v hv))
theorem zH_ok {as as2 : List Nat} (hp : as <+: as2) {ls : Array Slot} {nL : Nat} {lv : List (Option Value)} (hL : zH ls nL as lv) (h : zOk as.length (lv.filterMap id)) : zH ls nL as2 lv :=
  ⟨hL.1, hL.2.1, hL.2.2.1, fun i v hi => by rw [zc_ok hp (h v (List.mem_filterMap.mpr ⟨some v, List.mem_of_getElem? hi, rfl⟩))]; exact hL.2.2.2 i v hi⟩
theorem zEnd.mono {g : zG} {Post : zPost} {p : Program} {l : Launch} {e : Env} {Rm : Room} {s : State} {m : MethodId} {args : Array Value} {below : List Frame} {meth : Method} {c : Code} {D : va_G} {G : zGt} {as as2 : List Nat} {A : Nat → Prop} {Q : State → Prop} (h : zEnd g Post p l e Rm s m args below meth c D G as A Q) (hp : as <+: as2) : zEnd g Post p l e Rm s m args below meth c D G as2 A Q :=
  fun S I L R r as3 H locs pc ls h1 h2 h3 h4 => h S I L R r as3 H locs pc ls h1 h2 h3 (List.IsPrefix.trans hp h4)
theorem zFB {D : va_G} {G : zGt} {as : List Nat} {sz : Nat} {S : zS} {I : zMI} {L : zML} {R : zMR} {av : List Value} : FrameBlind (zPc D G as sz S I L R av) := by
  intro a U g mk q
  obtain ⟨q0, q1, q2, qP, qD, qK, qN⟩ := q
  refine ⟨q0, q1, q2, qP, qD, va_K.moved (u := U) (U := U.calling g mk a) (Vm.Alike.refl U.vm) qK, fun w hw => ?_, va_AO.moved (u := U) (U := U.calling g mk a) (Vm.Alike.refl U.vm) qN.2⟩
  obtain ⟨a1, i1, x1, h1, rfl⟩ := zNest_form w hw
  exact va_Nw.same (U := U.calling g mk a) rfl rfl (qN.1 _ hw)
section ZCalls
variable {g : zG} {Post Post2 : zPost} {u T2 : Nat × Nat} {S : zS} {I : zMI} {L : zML} {R : zMR} {pc pc2 : Nat} {lv : List (Option Value)} {st : List Value} {y : MethodName} {cc2 : ByteArray} {nL2 d2 n idx : Nat} {rt2 : Option FieldType}
theorem zAfter {p : Program} {l : Launch} {e : Env} {Rm : Room} {s : State} {m : MethodId} {args a : Array Value} {below : List Frame} {meth : Method} {c : Code} {D : va_G} {G : zGt} {as : List Nat} {A : Nat → Prop} {H : Heap} {locs : List Loc} {ls : Array Slot} {Q : State → Prop} {rest : List Value} {st0 : List Value}
    (hX : zX g p l e Rm s m args meth c A) (hS : va_S A s.heap H locs) (hR : zRep D G as A S I L R H s) (hL : zH ls g.2.2.1 as lv) (hE : zEnd g Post p l e Rm s m args below meth c D G as A Q)
    (hrun : va_Run p l e Rm s m args below meth c H locs u.1 u.2 T2.1 T2.2 (F0 m pc ls st0) (rest.map (zc as)) (zQc D G as H.size S I L R Post2 a) (va_A (zW G as S I L R) H.size))
    (hok : ∀ S2 I2 L2 R2 r, Post2 S2 I2 L2 R2 r → S2.length = S.length ∨ (zOk S.length rest ∧ zOk S.length (lv.filterMap id)))
    (kk : ∀ S2 I2 L2 R2 r, Post2 S2 I2 L2 R2 r → zV g Post (u.1 + T2.1, u.2 + T2.2) S2 I2 L2 R2 (pc + 3) lv (r.toList ++ rest)) : W p l e Rm s m args below meth c H locs u.1 u.2 Q (F0 m pc ls st0) := by
  intro T hT X
  obtain ⟨v, st₀, t, T', Lc, h0, X', hLc, e1, e2, hq, stp⟩ := hrun T hT X
  obtain ⟨S2, I2, L2, R2, r, as2, ho, hp2, hpre, hlen2, hP2, hD2, hF2⟩ := hq
  have hv : v = r.map (zc as2) := Outcome.returned.inj ho
  subst hv
  have hA : ∀ q, va_A (zW G as S I L R) H.size q → A q := by
    intro q hq
    rcases hq with ⟨k, e, h⟩ | h
    · exact hR.2.2.1.2 k (q, e) h
    · exact hX.2.2.2.2.2.2.2.2.2.2.2.2.2.1 q (Nat.le_trans hS.1 h)
  obtain ⟨hz, hk⟩ := hF2
  rw [h0] at hz hk
  have hS2 : va_S A s.heap T'.heap (locs ++ Lc) := ⟨Nat.le_trans hS.1 (by rw [e1]; exact hz), fun q h1 h2 => by rw [e1, hk q (Nat.lt_of_lt_of_le h1 hS.1) (fun z => h2 (hA q z))]; exact hS.2.1 q h1 h2, fun q hq => by
      rcases List.mem_append.mp hq with h | h
      · exact hS.2.2 q h
      · exact hA _ (hLc q h)⟩
  have hR2 : zRep D G as2 A S2 I2 L2 R2 T'.heap s := ⟨hlen2, by rw [e1]; exact hP2, hD2.weaken (fun k q _ h => hA _ h), hR.2.2.2⟩
  have hrest : rest.map (zc as2) = rest.map (zc as) ∧ zH ls g.2.2.1 as2 lv := by
    rcases hok S2 I2 L2 R2 r hp2 with h | ⟨h1, h2⟩
    · have : as2 = as := by
        obtain ⟨t, rfl⟩ := hpre
        have hl := hR.1
        rw [List.length_append] at hlen2
        have : t.length = 0 := by omega
        rw [List.length_eq_zero_iff.mp this, List.append_nil]
      subst this
      exact ⟨rfl, hL⟩
    · rw [← hR.1] at h1 h2
      exact ⟨zOk_map hpre h1, zH_ok hpre hL h2⟩
  obtain ⟨t2, a1, b1⟩ := kk S2 I2 L2 R2 r hp2 p l e Rm s m args below meth c D G as2 A T'.heap (locs ++ Lc) ls Q hX hS2 hR2 hrest.2 (hE.mono hpre) T' rfl X'
  refine ⟨t2, stp t2 ?_, b1⟩
  have : (r.toList ++ rest).map (zc as2) = (r.map (zc as2)).toList ++ rest.map (zc as) := by
    rw [List.map_append, hrest.1]
    cases r <;> rfl
  rw [this] at a1
  exact a1
theorem zPre {av : List Value} {p : Program} {l : Launch} {e : Env} {Rm : Room} {s : State} {m : MethodId} {args : Array Value} {meth : Method} {c : Code} {D : va_G} {G : zGt} {as : List Nat} {A : Nat → Prop} {H : Heap} (hX : zX g p l e Rm s m args meth c A) (hR : zRep D G as A S I L R H s) : PreS s H (zPc D G as H.size S I L R av) (av.map (zc as)) :=
  ⟨zFB, fun U hU hW => ⟨rfl, by rw [hU], hR.1, by rw [hU]; exact hR.2.1, hR.2.2.1.weaken (fun _ _ _ _ => trivial), va_K.moved hW.alike hR.2.2.2, zNw_warm hW hX.2.2.2.2.2.2.2.2.2.2.2.2.1⟩⟩
theorem zCB {own : String} {p : Program} {l : Launch} {e : Env} {Rm : Room} {s : State} {m : MethodId} {args : Array Value} {meth : Method} {c : Code} {A : Nat → Prop} (hX : zX g p l e Rm s m args meth c A) (hm : zML0 own idx y cc2 nL2 rt2 n) (hd : d2 + 1 ≤ g.2.2.2.2.2.1) : CallB Rm s args own idx y cc2 nL2 rt2 (zws y cc2 nL2 rt2) (zRm d2 T2) T2.1 T2.2 n := by
  obtain ⟨x1, x2, x3, x4, x5, x6, x7, x8, x9, x10, x11, x12, x13, x14, x15⟩ := hX
  refine callB_of n x7 (zT_good (fun w hw => ?_)) rfl rfl rfl (x7 _ hm.2.1) (x7 _ hm.1) hm.2.2.2.1 ⟨by show d2 + 1 ≤ _; omega, by have h20 := hm.2.2.2.2; show 8 + (nL2 + 11) + 40 * d2 ≤ _; omega⟩
  rcases List.mem_cons.mp hw with rfl | h
  · exact hm.2.2.1
  · exact h
theorem z_callV0g {b ci w : Nat} (hd : zD g.2.1 pc (.invokevirtual idx) 3 pc2) (hm : zMLV g.1 idx ci y cc2 nL2 rt2 0) (hs : S[b]? = some (ci + 3, w)) (hM : zMet y cc2 nL2 rt2 d2 T2 (.ref b :: []) S I L R Post2) (hdp : d2 + 1 ≤ g.2.2.2.2.2.1) (hst : (st.map fun v => v.category).sum ≤ 8) (hu : u.1 + T2.1 ≤ g.2.2.2.2.2.2.1.1 ∧ u.2 + T2.2 ≤ g.2.2.2.2.2.2.1.2) (hok : ∀ S2 I2 L2 R2 r, Post2 S2 I2 L2 R2 r → S2.length = S.length ∨ (zOk S.length st ∧ zOk S.length (lv.filterMap id))) (kk : ∀ S2 I2 L2 R2 r, Post2 S2 I2 L2 R2 r → zV g Post (u.1 + T2.1, u.2 + T2.2) S2 I2 L2 R2 pc2 lv (r.toList ++ st)) : zV g Post u S I L R pc lv (.ref b :: st) := by
  intro p l e Rm s m args below meth c D G as A H locs ls Q hX hS hR hL hE
  obtain ⟨hd, rfl⟩ := hd
  refine zAfter (rest := st) (a := ((.ref b :: []).map (zc as)).toArray) hX hS hR hL hE ?_ hok kk
  have hx := hX
  obtain ⟨x1, x2, x3, x4, x5, x6, x7, x8, x9, x10, x11, x12, x13, x14, x15⟩ := hx
  obtain ⟨hm0, hm1, hm2, T, N, hc⟩ := hm
  have he := hR.at hs
  rw [zE_obj hs] at he
  exact va_runV (As := []) ⟨x1, x2, x5, x6, x7⟩ (hM l D G as H.size) ⟨zCB hX hm0 hdp, x7 _ hm1, x7 _ hm2⟩ ⟨(zPre hX hR).1, va_recv hR.2.2.2 hR.2.1 hc he, (zPre (av := (.ref b :: [])) hX hR).2⟩ rfl rfl hL.1 rfl (lv_room (by rw [zc_cats]; exact hst)) hd ⟨by rw [x11]; exact hu.1, by rw [x12]; exact hu.2⟩
theorem z_callV0 {b ci w : Nat} {PostM : zMI → zML → Option Value → Prop} (hd : zD g.2.1 pc (.invokevirtual idx) 3 pc2) (hm : zMLV g.1 idx ci y cc2 nL2 rt2 0) (hs : S[b]? = some (ci + 3, w)) (hM : zM0 y cc2 nL2 rt2 d2 (.ref b :: []) S I L R PostM) (hdp : d2 + 1 ≤ g.2.2.2.2.2.1) (hst : (st.map fun v => v.category).sum ≤ 8) (hu : u.1 ≤ g.2.2.2.2.2.2.1.1 ∧ u.2 ≤ g.2.2.2.2.2.2.1.2) (kk : ∀ I2 L2 r, PostM I2 L2 r → zV g Post u S I2 L2 R pc2 lv (r.toList ++ st)) : zV g Post u S I L R pc lv (.ref b :: st) :=
  z_callV0g (T2 := (0, 0)) hd hm hs hM hdp hst hu (fun S2 I2 L2 R2 r h => Or.inl (by rw [h.1])) (fun S2 I2 L2 R2 r h => by obtain ⟨rfl, rfl, h⟩ := h; exact kk I2 L2 r h)
theorem z_callV1g {v1 : Value} {b ci w : Nat} (hd : zD g.2.1 pc (.invokevirtual idx) 3 pc2) (hm : zMLV g.1 idx ci y cc2 nL2 rt2 1) (hs : S[b]? = some (ci + 3, w)) (hM : zMet y cc2 nL2 rt2 d2 T2 (.ref b :: [v1]) S I L R Post2) (hdp : d2 + 1 ≤ g.2.2.2.2.2.1) (hst : (st.map fun v => v.category).sum ≤ 8) (hu : u.1 + T2.1 ≤ g.2.2.2.2.2.2.1.1 ∧ u.2 + T2.2 ≤ g.2.2.2.2.2.2.1.2) (hok : ∀ S2 I2 L2 R2 r, Post2 S2 I2 L2 R2 r → S2.length = S.length ∨ (zOk S.length st ∧ zOk S.length (lv.filterMap id))) (kk : ∀ S2 I2 L2 R2 r, Post2 S2 I2 L2 R2 r → zV g Post (u.1 + T2.1, u.2 + T2.2) S2 I2 L2 R2 pc2 lv (r.toList ++ st)) : zV g Post u S I L R pc lv (v1 :: .ref b :: st) := by
  intro p l e Rm s m args below meth c D G as A H locs ls Q hX hS hR hL hE
  obtain ⟨hd, rfl⟩ := hd
  refine zAfter (rest := st) (a := ((.ref b :: [v1]).map (zc as)).toArray) hX hS hR hL hE ?_ hok kk
  have hx := hX
  obtain ⟨x1, x2, x3, x4, x5, x6, x7, x8, x9, x10, x11, x12, x13, x14, x15⟩ := hx
  obtain ⟨hm0, hm1, hm2, T, N, hc⟩ := hm
  have he := hR.at hs
  rw [zE_obj hs] at he
  exact va_runV (As := [v1].map (zc as)) ⟨x1, x2, x5, x6, x7⟩ (hM l D G as H.size) ⟨zCB hX hm0 hdp, x7 _ hm1, x7 _ hm2⟩ ⟨(zPre hX hR).1, va_recv hR.2.2.2 hR.2.1 hc he, (zPre (av := (.ref b :: [v1])) hX hR).2⟩ rfl rfl hL.1 rfl (lv_room (by rw [zc_cats]; exact hst)) hd ⟨by rw [x11]; exact hu.1, by rw [x12]; exact hu.2⟩
theorem z_callV1 {v1 : Value} {b ci w : Nat} {PostM : zMI → zML → Option Value → Prop} (hd : zD g.2.1 pc (.invokevirtual idx) 3 pc2) (hm : zMLV g.1 idx ci y cc2 nL2 rt2 1) (hs : S[b]? = some (ci + 3, w)) (hM : zM0 y cc2 nL2 rt2 d2 (.ref b :: [v1]) S I L R PostM) (hdp : d2 + 1 ≤ g.2.2.2.2.2.1) (hst : (st.map fun v => v.category).sum ≤ 8) (hu : u.1 ≤ g.2.2.2.2.2.2.1.1 ∧ u.2 ≤ g.2.2.2.2.2.2.1.2) (kk : ∀ I2 L2 r, PostM I2 L2 r → zV g Post u S I2 L2 R pc2 lv (r.toList ++ st)) : zV g Post u S I L R pc lv (v1 :: .ref b :: st) :=
  z_callV1g (T2 := (0, 0)) hd hm hs hM hdp hst hu (fun S2 I2 L2 R2 r h => Or.inl (by rw [h.1])) (fun S2 I2 L2 R2 r h => by obtain ⟨rfl, rfl, h⟩ := h; exact kk I2 L2 r h)
theorem z_callV2g {v1 v2 : Value} {b ci w : Nat} (hd : zD g.2.1 pc (.invokevirtual idx) 3 pc2) (hm : zMLV g.1 idx ci y cc2 nL2 rt2 2) (hs : S[b]? = some (ci + 3, w)) (hM : zMet y cc2 nL2 rt2 d2 T2 (.ref b :: [v1, v2]) S I L R Post2) (hdp : d2 + 1 ≤ g.2.2.2.2.2.1) (hst : (st.map fun v => v.category).sum ≤ 8) (hu : u.1 + T2.1 ≤ g.2.2.2.2.2.2.1.1 ∧ u.2 + T2.2 ≤ g.2.2.2.2.2.2.1.2) (hok : ∀ S2 I2 L2 R2 r, Post2 S2 I2 L2 R2 r → S2.length = S.length ∨ (zOk S.length st ∧ zOk S.length (lv.filterMap id))) (kk : ∀ S2 I2 L2 R2 r, Post2 S2 I2 L2 R2 r → zV g Post (u.1 + T2.1, u.2 + T2.2) S2 I2 L2 R2 pc2 lv (r.toList ++ st)) : zV g Post u S I L R pc lv (v2 :: v1 :: .ref b :: st) := by
  intro p l e Rm s m args below meth c D G as A H locs ls Q hX hS hR hL hE
  obtain ⟨hd, rfl⟩ := hd
  refine zAfter (rest := st) (a := ((.ref b :: [v1, v2]).map (zc as)).toArray) hX hS hR hL hE ?_ hok kk
  have hx := hX
  obtain ⟨x1, x2, x3, x4, x5, x6, x7, x8, x9, x10, x11, x12, x13, x14, x15⟩ := hx
  obtain ⟨hm0, hm1, hm2, T, N, hc⟩ := hm
  have he := hR.at hs
  rw [zE_obj hs] at he
  exact va_runV (As := [v1, v2].map (zc as)) ⟨x1, x2, x5, x6, x7⟩ (hM l D G as H.size) ⟨zCB hX hm0 hdp, x7 _ hm1, x7 _ hm2⟩ ⟨(zPre hX hR).1, va_recv hR.2.2.2 hR.2.1 hc he, (zPre (av := (.ref b :: [v1, v2])) hX hR).2⟩ rfl rfl hL.1 rfl (lv_room (by rw [zc_cats]; exact hst)) hd ⟨by rw [x11]; exact hu.1, by rw [x12]; exact hu.2⟩
theorem z_callV2 {v1 v2 : Value} {b ci w : Nat} {PostM : zMI → zML → Option Value → Prop} (hd : zD g.2.1 pc (.invokevirtual idx) 3 pc2) (hm : zMLV g.1 idx ci y cc2 nL2 rt2 2) (hs : S[b]? = some (ci + 3, w)) (hM : zM0 y cc2 nL2 rt2 d2 (.ref b :: [v1, v2]) S I L R PostM) (hdp : d2 + 1 ≤ g.2.2.2.2.2.1) (hst : (st.map fun v => v.category).sum ≤ 8) (hu : u.1 ≤ g.2.2.2.2.2.2.1.1 ∧ u.2 ≤ g.2.2.2.2.2.2.1.2) (kk : ∀ I2 L2 r, PostM I2 L2 r → zV g Post u S I2 L2 R pc2 lv (r.toList ++ st)) : zV g Post u S I L R pc lv (v2 :: v1 :: .ref b :: st) :=
  z_callV2g (T2 := (0, 0)) hd hm hs hM hdp hst hu (fun S2 I2 L2 R2 r h => Or.inl (by rw [h.1])) (fun S2 I2 L2 R2 r h => by obtain ⟨rfl, rfl, h⟩ := h; exact kk I2 L2 r h)
theorem z_callV3g {v1 v2 v3 : Value} {b ci w : Nat} (hd : zD g.2.1 pc (.invokevirtual idx) 3 pc2) (hm : zMLV g.1 idx ci y cc2 nL2 rt2 3) (hs : S[b]? = some (ci + 3, w)) (hM : zMet y cc2 nL2 rt2 d2 T2 (.ref b :: [v1, v2, v3]) S I L R Post2) (hdp : d2 + 1 ≤ g.2.2.2.2.2.1) (hst : (st.map fun v => v.category).sum ≤ 8) (hu : u.1 + T2.1 ≤ g.2.2.2.2.2.2.1.1 ∧ u.2 + T2.2 ≤ g.2.2.2.2.2.2.1.2) (hok : ∀ S2 I2 L2 R2 r, Post2 S2 I2 L2 R2 r → S2.length = S.length ∨ (zOk S.length st ∧ zOk S.length (lv.filterMap id))) (kk : ∀ S2 I2 L2 R2 r, Post2 S2 I2 L2 R2 r → zV g Post (u.1 + T2.1, u.2 + T2.2) S2 I2 L2 R2 pc2 lv (r.toList ++ st)) : zV g Post u S I L R pc lv (v3 :: v2 :: v1 :: .ref b :: st) := by
  intro p l e Rm s m args below meth c D G as A H locs ls Q hX hS hR hL hE
  obtain ⟨hd, rfl⟩ := hd
  refine zAfter (rest := st) (a := ((.ref b :: [v1, v2, v3]).map (zc as)).toArray) hX hS hR hL hE ?_ hok kk
  have hx := hX
  obtain ⟨x1, x2, x3, x4, x5, x6, x7, x8, x9, x10, x11, x12, x13, x14, x15⟩ := hx
  obtain ⟨hm0, hm1, hm2, T, N, hc⟩ := hm
  have he := hR.at hs
  rw [zE_obj hs] at he
  exact va_runV (As := [v1, v2, v3].map (zc as)) ⟨x1, x2, x5, x6, x7⟩ (hM l D G as H.size) ⟨zCB hX hm0 hdp, x7 _ hm1, x7 _ hm2⟩ ⟨(zPre hX hR).1, va_recv hR.2.2.2 hR.2.1 hc he, (zPre (av := (.ref b :: [v1, v2, v3])) hX hR).2⟩ rfl rfl hL.1 rfl (lv_room (by rw [zc_cats]; exact hst)) hd ⟨by rw [x11]; exact hu.1, by rw [x12]; exact hu.2⟩
theorem z_callV3 {v1 v2 v3 : Value} {b ci w : Nat} {PostM : zMI → zML → Option Value → Prop} (hd : zD g.2.1 pc (.invokevirtual idx) 3 pc2) (hm : zMLV g.1 idx ci y cc2 nL2 rt2 3) (hs : S[b]? = some (ci + 3, w)) (hM : zM0 y cc2 nL2 rt2 d2 (.ref b :: [v1, v2, v3]) S I L R PostM) (hdp : d2 + 1 ≤ g.2.2.2.2.2.1) (hst : (st.map fun v => v.category).sum ≤ 8) (hu : u.1 ≤ g.2.2.2.2.2.2.1.1 ∧ u.2 ≤ g.2.2.2.2.2.2.1.2) (kk : ∀ I2 L2 r, PostM I2 L2 r → zV g Post u S I2 L2 R pc2 lv (r.toList ++ st)) : zV g Post u S I L R pc lv (v3 :: v2 :: v1 :: .ref b :: st) :=
  z_callV3g (T2 := (0, 0)) hd hm hs hM hdp hst hu (fun S2 I2 L2 R2 r h => Or.inl (by rw [h.1])) (fun S2 I2 L2 R2 r h => by obtain ⟨rfl, rfl, h⟩ := h; exact kk I2 L2 r h)
theorem z_callV4g {v1 v2 v3 v4 : Value} {b ci w : Nat} (hd : zD g.2.1 pc (.invokevirtual idx) 3 pc2) (hm : zMLV g.1 idx ci y cc2 nL2 rt2 4) (hs : S[b]? = some (ci + 3, w)) (hM : zMet y cc2 nL2 rt2 d2 T2 (.ref b :: [v1, v2, v3, v4]) S I L R Post2) (hdp : d2 + 1 ≤ g.2.2.2.2.2.1) (hst : (st.map fun v => v.category).sum ≤ 8) (hu : u.1 + T2.1 ≤ g.2.2.2.2.2.2.1.1 ∧ u.2 + T2.2 ≤ g.2.2.2.2.2.2.1.2) (hok : ∀ S2 I2 L2 R2 r, Post2 S2 I2 L2 R2 r → S2.length = S.length ∨ (zOk S.length st ∧ zOk S.length (lv.filterMap id))) (kk : ∀ S2 I2 L2 R2 r, Post2 S2 I2 L2 R2 r → zV g Post (u.1 + T2.1, u.2 + T2.2) S2 I2 L2 R2 pc2 lv (r.toList ++ st)) : zV g Post u S I L R pc lv (v4 :: v3 :: v2 :: v1 :: .ref b :: st) := by
  intro p l e Rm s m args below meth c D G as A H locs ls Q hX hS hR hL hE
  obtain ⟨hd, rfl⟩ := hd
  refine zAfter (rest := st) (a := ((.ref b :: [v1, v2, v3, v4]).map (zc as)).toArray) hX hS hR hL hE ?_ hok kk
  have hx := hX
  obtain ⟨x1, x2, x3, x4, x5, x6, x7, x8, x9, x10, x11, x12, x13, x14, x15⟩ := hx
  obtain ⟨hm0, hm1, hm2, T, N, hc⟩ := hm
  have he := hR.at hs
  rw [zE_obj hs] at he
  exact va_runV (As := [v1, v2, v3, v4].map (zc as)) ⟨x1, x2, x5, x6, x7⟩ (hM l D G as H.size) ⟨zCB hX hm0 hdp, x7 _ hm1, x7 _ hm2⟩ ⟨(zPre hX hR).1, va_recv hR.2.2.2 hR.2.1 hc he, (zPre (av := (.ref b :: [v1, v2, v3, v4])) hX hR).2⟩ rfl rfl hL.1 rfl (lv_room (by rw [zc_cats]; exact hst)) hd ⟨by rw [x11]; exact hu.1, by rw [x12]; exact hu.2⟩
theorem z_callV4 {v1 v2 v3 v4 : Value} {b ci w : Nat} {PostM : zMI → zML → Option Value → Prop} (hd : zD g.2.1 pc (.invokevirtual idx) 3 pc2) (hm : zMLV g.1 idx ci y cc2 nL2 rt2 4) (hs : S[b]? = some (ci + 3, w)) (hM : zM0 y cc2 nL2 rt2 d2 (.ref b :: [v1, v2, v3, v4]) S I L R PostM) (hdp : d2 + 1 ≤ g.2.2.2.2.2.1) (hst : (st.map fun v => v.category).sum ≤ 8) (hu : u.1 ≤ g.2.2.2.2.2.2.1.1 ∧ u.2 ≤ g.2.2.2.2.2.2.1.2) (kk : ∀ I2 L2 r, PostM I2 L2 r → zV g Post u S I2 L2 R pc2 lv (r.toList ++ st)) : zV g Post u S I L R pc lv (v4 :: v3 :: v2 :: v1 :: .ref b :: st) :=
  z_callV4g (T2 := (0, 0)) hd hm hs hM hdp hst hu (fun S2 I2 L2 R2 r h => Or.inl (by rw [h.1])) (fun S2 I2 L2 R2 r h => by obtain ⟨rfl, rfl, h⟩ := h; exact kk I2 L2 r h)
theorem z_callV5g {v1 v2 v3 v4 v5 : Value} {b ci w : Nat} (hd : zD g.2.1 pc (.invokevirtual idx) 3 pc2) (hm : zMLV g.1 idx ci y cc2 nL2 rt2 5) (hs : S[b]? = some (ci + 3, w)) (hM : zMet y cc2 nL2 rt2 d2 T2 (.ref b :: [v1, v2, v3, v4, v5]) S I L R Post2) (hdp : d2 + 1 ≤ g.2.2.2.2.2.1) (hst : (st.map fun v => v.category).sum ≤ 8) (hu : u.1 + T2.1 ≤ g.2.2.2.2.2.2.1.1 ∧ u.2 + T2.2 ≤ g.2.2.2.2.2.2.1.2) (hok : ∀ S2 I2 L2 R2 r, Post2 S2 I2 L2 R2 r → S2.length = S.length ∨ (zOk S.length st ∧ zOk S.length (lv.filterMap id))) (kk : ∀ S2 I2 L2 R2 r, Post2 S2 I2 L2 R2 r → zV g Post (u.1 + T2.1, u.2 + T2.2) S2 I2 L2 R2 pc2 lv (r.toList ++ st)) : zV g Post u S I L R pc lv (v5 :: v4 :: v3 :: v2 :: v1 :: .ref b :: st) := by
  intro p l e Rm s m args below meth c D G as A H locs ls Q hX hS hR hL hE
  obtain ⟨hd, rfl⟩ := hd
  refine zAfter (rest := st) (a := ((.ref b :: [v1, v2, v3, v4, v5]).map (zc as)).toArray) hX hS hR hL hE ?_ hok kk
  have hx := hX
  obtain ⟨x1, x2, x3, x4, x5, x6, x7, x8, x9, x10, x11, x12, x13, x14, x15⟩ := hx
  obtain ⟨hm0, hm1, hm2, T, N, hc⟩ := hm
  have he := hR.at hs
  rw [zE_obj hs] at he
  exact va_runV (As := [v1, v2, v3, v4, v5].map (zc as)) ⟨x1, x2, x5, x6, x7⟩ (hM l D G as H.size) ⟨zCB hX hm0 hdp, x7 _ hm1, x7 _ hm2⟩ ⟨(zPre hX hR).1, va_recv hR.2.2.2 hR.2.1 hc he, (zPre (av := (.ref b :: [v1, v2, v3, v4, v5])) hX hR).2⟩ rfl rfl hL.1 rfl (lv_room (by rw [zc_cats]; exact hst)) hd ⟨by rw [x11]; exact hu.1, by rw [x12]; exact hu.2⟩
theorem z_callV5 {v1 v2 v3 v4 v5 : Value} {b ci w : Nat} {PostM : zMI → zML → Option Value → Prop} (hd : zD g.2.1 pc (.invokevirtual idx) 3 pc2) (hm : zMLV g.1 idx ci y cc2 nL2 rt2 5) (hs : S[b]? = some (ci + 3, w)) (hM : zM0 y cc2 nL2 rt2 d2 (.ref b :: [v1, v2, v3, v4, v5]) S I L R PostM) (hdp : d2 + 1 ≤ g.2.2.2.2.2.1) (hst : (st.map fun v => v.category).sum ≤ 8) (hu : u.1 ≤ g.2.2.2.2.2.2.1.1 ∧ u.2 ≤ g.2.2.2.2.2.2.1.2) (kk : ∀ I2 L2 r, PostM I2 L2 r → zV g Post u S I2 L2 R pc2 lv (r.toList ++ st)) : zV g Post u S I L R pc lv (v5 :: v4 :: v3 :: v2 :: v1 :: .ref b :: st) :=
  z_callV5g (T2 := (0, 0)) hd hm hs hM hdp hst hu (fun S2 I2 L2 R2 r h => Or.inl (by rw [h.1])) (fun S2 I2 L2 R2 r h => by obtain ⟨rfl, rfl, h⟩ := h; exact kk I2 L2 r h)
theorem z_callS1g {v1 : Value} (hd : zD g.2.1 pc (.invokestatic idx) 3 pc2) (hm : zMLS g.1 idx y cc2 nL2 rt2 1) (hM : zMet y cc2 nL2 rt2 d2 T2 [v1] S I L R Post2) (hdp : d2 + 1 ≤ g.2.2.2.2.2.1) (hst : (st.map fun v => v.category).sum ≤ 8) (hu : u.1 + T2.1 ≤ g.2.2.2.2.2.2.1.1 ∧ u.2 + T2.2 ≤ g.2.2.2.2.2.2.1.2) (hok : ∀ S2 I2 L2 R2 r, Post2 S2 I2 L2 R2 r → S2.length = S.length ∨ (zOk S.length st ∧ zOk S.length (lv.filterMap id))) (kk : ∀ S2 I2 L2 R2 r, Post2 S2 I2 L2 R2 r → zV g Post (u.1 + T2.1, u.2 + T2.2) S2 I2 L2 R2 pc2 lv (r.toList ++ st)) : zV g Post u S I L R pc lv (v1 :: st) := by
  intro p l e Rm s m args below meth c D G as A H locs ls Q hX hS hR hL hE
  obtain ⟨hd, rfl⟩ := hd
  refine zAfter (rest := st) (a := ([v1].map (zc as)).toArray) hX hS hR hL hE ?_ hok kk
  have hx := hX
  obtain ⟨x1, x2, x3, x4, x5, x6, x7, x8, x9, x10, x11, x12, x13, x14, x15⟩ := hx
  exact va_runS (As := [v1].map (zc as)) ⟨x1, x2, x5, x6, x7⟩ (hM l D G as H.size) ⟨zCB hX hm.1 hdp, x7 _ hm.2⟩ (zPre hX hR) rfl rfl hL.1 rfl (lv_room (by rw [zc_cats]; exact hst)) hd ⟨by rw [x11]; exact hu.1, by rw [x12]; exact hu.2⟩
theorem z_callS1 {v1 : Value} {PostM : zMI → zML → Option Value → Prop} (hd : zD g.2.1 pc (.invokestatic idx) 3 pc2) (hm : zMLS g.1 idx y cc2 nL2 rt2 1) (hM : zM0 y cc2 nL2 rt2 d2 [v1] S I L R PostM) (hdp : d2 + 1 ≤ g.2.2.2.2.2.1) (hst : (st.map fun v => v.category).sum ≤ 8) (hu : u.1 ≤ g.2.2.2.2.2.2.1.1 ∧ u.2 ≤ g.2.2.2.2.2.2.1.2) (kk : ∀ I2 L2 r, PostM I2 L2 r → zV g Post u S I2 L2 R pc2 lv (r.toList ++ st)) : zV g Post u S I L R pc lv (v1 :: st) :=
  z_callS1g (T2 := (0, 0)) hd hm hM hdp hst hu (fun S2 I2 L2 R2 r h => Or.inl (by rw [h.1])) (fun S2 I2 L2 R2 r h => by obtain ⟨rfl, rfl, h⟩ := h; exact kk I2 L2 r h)
theorem z_callS2g {v1 v2 : Value} (hd : zD g.2.1 pc (.invokestatic idx) 3 pc2) (hm : zMLS g.1 idx y cc2 nL2 rt2 2) (hM : zMet y cc2 nL2 rt2 d2 T2 [v1, v2] S I L R Post2) (hdp : d2 + 1 ≤ g.2.2.2.2.2.1) (hst : (st.map fun v => v.category).sum ≤ 8) (hu : u.1 + T2.1 ≤ g.2.2.2.2.2.2.1.1 ∧ u.2 + T2.2 ≤ g.2.2.2.2.2.2.1.2) (hok : ∀ S2 I2 L2 R2 r, Post2 S2 I2 L2 R2 r → S2.length = S.length ∨ (zOk S.length st ∧ zOk S.length (lv.filterMap id))) (kk : ∀ S2 I2 L2 R2 r, Post2 S2 I2 L2 R2 r → zV g Post (u.1 + T2.1, u.2 + T2.2) S2 I2 L2 R2 pc2 lv (r.toList ++ st)) : zV g Post u S I L R pc lv (v2 :: v1 :: st) := by
  intro p l e Rm s m args below meth c D G as A H locs ls Q hX hS hR hL hE
  obtain ⟨hd, rfl⟩ := hd
  refine zAfter (rest := st) (a := ([v1, v2].map (zc as)).toArray) hX hS hR hL hE ?_ hok kk
  have hx := hX
  obtain ⟨x1, x2, x3, x4, x5, x6, x7, x8, x9, x10, x11, x12, x13, x14, x15⟩ := hx
  exact va_runS (As := [v1, v2].map (zc as)) ⟨x1, x2, x5, x6, x7⟩ (hM l D G as H.size) ⟨zCB hX hm.1 hdp, x7 _ hm.2⟩ (zPre hX hR) rfl rfl hL.1 rfl (lv_room (by rw [zc_cats]; exact hst)) hd ⟨by rw [x11]; exact hu.1, by rw [x12]; exact hu.2⟩
theorem z_callS2 {v1 v2 : Value} {PostM : zMI → zML → Option Value → Prop} (hd : zD g.2.1 pc (.invokestatic idx) 3 pc2) (hm : zMLS g.1 idx y cc2 nL2 rt2 2) (hM : zM0 y cc2 nL2 rt2 d2 [v1, v2] S I L R PostM) (hdp : d2 + 1 ≤ g.2.2.2.2.2.1) (hst : (st.map fun v => v.category).sum ≤ 8) (hu : u.1 ≤ g.2.2.2.2.2.2.1.1 ∧ u.2 ≤ g.2.2.2.2.2.2.1.2) (kk : ∀ I2 L2 r, PostM I2 L2 r → zV g Post u S I2 L2 R pc2 lv (r.toList ++ st)) : zV g Post u S I L R pc lv (v2 :: v1 :: st) :=
  z_callS2g (T2 := (0, 0)) hd hm hM hdp hst hu (fun S2 I2 L2 R2 r h => Or.inl (by rw [h.1])) (fun S2 I2 L2 R2 r h => by obtain ⟨rfl, rfl, h⟩ := h; exact kk I2 L2 r h)
theorem z_callS3g {v1 v2 v3 : Value} (hd : zD g.2.1 pc (.invokestatic idx) 3 pc2) (hm : zMLS g.1 idx y cc2 nL2 rt2 3) (hM : zMet y cc2 nL2 rt2 d2 T2 [v1, v2, v3] S I L R Post2) (hdp : d2 + 1 ≤ g.2.2.2.2.2.1) (hst : (st.map fun v => v.category).sum ≤ 8) (hu : u.1 + T2.1 ≤ g.2.2.2.2.2.2.1.1 ∧ u.2 + T2.2 ≤ g.2.2.2.2.2.2.1.2) (hok : ∀ S2 I2 L2 R2 r, Post2 S2 I2 L2 R2 r → S2.length = S.length ∨ (zOk S.length st ∧ zOk S.length (lv.filterMap id))) (kk : ∀ S2 I2 L2 R2 r, Post2 S2 I2 L2 R2 r → zV g Post (u.1 + T2.1, u.2 + T2.2) S2 I2 L2 R2 pc2 lv (r.toList ++ st)) : zV g Post u S I L R pc lv (v3 :: v2 :: v1 :: st) := by
  intro p l e Rm s m args below meth c D G as A H locs ls Q hX hS hR hL hE
  obtain ⟨hd, rfl⟩ := hd
  refine zAfter (rest := st) (a := ([v1, v2, v3].map (zc as)).toArray) hX hS hR hL hE ?_ hok kk
  have hx := hX
  obtain ⟨x1, x2, x3, x4, x5, x6, x7, x8, x9, x10, x11, x12, x13, x14, x15⟩ := hx
  exact va_runS (As := [v1, v2, v3].map (zc as)) ⟨x1, x2, x5, x6, x7⟩ (hM l D G as H.size) ⟨zCB hX hm.1 hdp, x7 _ hm.2⟩ (zPre hX hR) rfl rfl hL.1 rfl (lv_room (by rw [zc_cats]; exact hst)) hd ⟨by rw [x11]; exact hu.1, by rw [x12]; exact hu.2⟩
theorem z_callS3 {v1 v2 v3 : Value} {PostM : zMI → zML → Option Value → Prop} (hd : zD g.2.1 pc (.invokestatic idx) 3 pc2) (hm : zMLS g.1 idx y cc2 nL2 rt2 3) (hM : zM0 y cc2 nL2 rt2 d2 [v1, v2, v3] S I L R PostM) (hdp : d2 + 1 ≤ g.2.2.2.2.2.1) (hst : (st.map fun v => v.category).sum ≤ 8) (hu : u.1 ≤ g.2.2.2.2.2.2.1.1 ∧ u.2 ≤ g.2.2.2.2.2.2.1.2) (kk : ∀ I2 L2 r, PostM I2 L2 r → zV g Post u S I2 L2 R pc2 lv (r.toList ++ st)) : zV g Post u S I L R pc lv (v3 :: v2 :: v1 :: st) :=
  z_callS3g (T2 := (0, 0)) hd hm hM hdp hst hu (fun S2 I2 L2 R2 r h => Or.inl (by rw [h.1])) (fun S2 I2 L2 R2 r h => by obtain ⟨rfl, rfl, h⟩ := h; exact kk I2 L2 r h)
theorem z_callS4g {v1 v2 v3 v4 : Value} (hd : zD g.2.1 pc (.invokestatic idx) 3 pc2) (hm : zMLS g.1 idx y cc2 nL2 rt2 4) (hM : zMet y cc2 nL2 rt2 d2 T2 [v1, v2, v3, v4] S I L R Post2) (hdp : d2 + 1 ≤ g.2.2.2.2.2.1) (hst : (st.map fun v => v.category).sum ≤ 8) (hu : u.1 + T2.1 ≤ g.2.2.2.2.2.2.1.1 ∧ u.2 + T2.2 ≤ g.2.2.2.2.2.2.1.2) (hok : ∀ S2 I2 L2 R2 r, Post2 S2 I2 L2 R2 r → S2.length = S.length ∨ (zOk S.length st ∧ zOk S.length (lv.filterMap id))) (kk : ∀ S2 I2 L2 R2 r, Post2 S2 I2 L2 R2 r → zV g Post (u.1 + T2.1, u.2 + T2.2) S2 I2 L2 R2 pc2 lv (r.toList ++ st)) : zV g Post u S I L R pc lv (v4 :: v3 :: v2 :: v1 :: st) := by
  intro p l e Rm s m args below meth c D G as A H locs ls Q hX hS hR hL hE
  obtain ⟨hd, rfl⟩ := hd
  refine zAfter (rest := st) (a := ([v1, v2, v3, v4].map (zc as)).toArray) hX hS hR hL hE ?_ hok kk
  have hx := hX
  obtain ⟨x1, x2, x3, x4, x5, x6, x7, x8, x9, x10, x11, x12, x13, x14, x15⟩ := hx
  exact va_runS (As := [v1, v2, v3, v4].map (zc as)) ⟨x1, x2, x5, x6, x7⟩ (hM l D G as H.size) ⟨zCB hX hm.1 hdp, x7 _ hm.2⟩ (zPre hX hR) rfl rfl hL.1 rfl (lv_room (by rw [zc_cats]; exact hst)) hd ⟨by rw [x11]; exact hu.1, by rw [x12]; exact hu.2⟩
theorem z_callS4 {v1 v2 v3 v4 : Value} {PostM : zMI → zML → Option Value → Prop} (hd : zD g.2.1 pc (.invokestatic idx) 3 pc2) (hm : zMLS g.1 idx y cc2 nL2 rt2 4) (hM : zM0 y cc2 nL2 rt2 d2 [v1, v2, v3, v4] S I L R PostM) (hdp : d2 + 1 ≤ g.2.2.2.2.2.1) (hst : (st.map fun v => v.category).sum ≤ 8) (hu : u.1 ≤ g.2.2.2.2.2.2.1.1 ∧ u.2 ≤ g.2.2.2.2.2.2.1.2) (kk : ∀ I2 L2 r, PostM I2 L2 r → zV g Post u S I2 L2 R pc2 lv (r.toList ++ st)) : zV g Post u S I L R pc lv (v4 :: v3 :: v2 :: v1 :: st) :=
  z_callS4g (T2 := (0, 0)) hd hm hM hdp hst hu (fun S2 I2 L2 R2 r h => Or.inl (by rw [h.1])) (fun S2 I2 L2 R2 r h => by obtain ⟨rfl, rfl, h⟩ := h; exact kk I2 L2 r h)
theorem z_callS5g {v1 v2 v3 v4 v5 : Value} (hd : zD g.2.1 pc (.invokestatic idx) 3 pc2) (hm : zMLS g.1 idx y cc2 nL2 rt2 5) (hM : zMet y cc2 nL2 rt2 d2 T2 [v1, v2, v3, v4, v5] S I L R Post2) (hdp : d2 + 1 ≤ g.2.2.2.2.2.1) (hst : (st.map fun v => v.category).sum ≤ 8) (hu : u.1 + T2.1 ≤ g.2.2.2.2.2.2.1.1 ∧ u.2 + T2.2 ≤ g.2.2.2.2.2.2.1.2) (hok : ∀ S2 I2 L2 R2 r, Post2 S2 I2 L2 R2 r → S2.length = S.length ∨ (zOk S.length st ∧ zOk S.length (lv.filterMap id))) (kk : ∀ S2 I2 L2 R2 r, Post2 S2 I2 L2 R2 r → zV g Post (u.1 + T2.1, u.2 + T2.2) S2 I2 L2 R2 pc2 lv (r.toList ++ st)) : zV g Post u S I L R pc lv (v5 :: v4 :: v3 :: v2 :: v1 :: st) := by
  intro p l e Rm s m args below meth c D G as A H locs ls Q hX hS hR hL hE
  obtain ⟨hd, rfl⟩ := hd
  refine zAfter (rest := st) (a := ([v1, v2, v3, v4, v5].map (zc as)).toArray) hX hS hR hL hE ?_ hok kk
  have hx := hX
  obtain ⟨x1, x2, x3, x4, x5, x6, x7, x8, x9, x10, x11, x12, x13, x14, x15⟩ := hx
  exact va_runS (As := [v1, v2, v3, v4, v5].map (zc as)) ⟨x1, x2, x5, x6, x7⟩ (hM l D G as H.size) ⟨zCB hX hm.1 hdp, x7 _ hm.2⟩ (zPre hX hR) rfl rfl hL.1 rfl (lv_room (by rw [zc_cats]; exact hst)) hd ⟨by rw [x11]; exact hu.1, by rw [x12]; exact hu.2⟩
theorem z_callS5 {v1 v2 v3 v4 v5 : Value} {PostM : zMI → zML → Option Value → Prop} (hd : zD g.2.1 pc (.invokestatic idx) 3 pc2) (hm : zMLS g.1 idx y cc2 nL2 rt2 5) (hM : zM0 y cc2 nL2 rt2 d2 [v1, v2, v3, v4, v5] S I L R PostM) (hdp : d2 + 1 ≤ g.2.2.2.2.2.1) (hst : (st.map fun v => v.category).sum ≤ 8) (hu : u.1 ≤ g.2.2.2.2.2.2.1.1 ∧ u.2 ≤ g.2.2.2.2.2.2.1.2) (kk : ∀ I2 L2 r, PostM I2 L2 r → zV g Post u S I2 L2 R pc2 lv (r.toList ++ st)) : zV g Post u S I L R pc lv (v5 :: v4 :: v3 :: v2 :: v1 :: st) :=
  z_callS5g (T2 := (0, 0)) hd hm hM hdp hst hu (fun S2 I2 L2 R2 r h => Or.inl (by rw [h.1])) (fun S2 I2 L2 R2 r h => by obtain ⟨rfl, rfl, h⟩ := h; exact kk I2 L2 r h)
theorem z_callSN1g {v1 : Value} {host : String} (hd : zD g.2.1 pc (.invokestatic idx) 3 pc2) (hm : zMLN g.1 idx y cc2 nL2 rt2 1 host) (hms : Cond.static y ∈ zT) (hM : zMet y cc2 nL2 rt2 d2 T2 [v1] S I L R Post2) (hdp : d2 + 1 ≤ g.2.2.2.2.2.1) (hst : (st.map fun v => v.category).sum ≤ 8) (hu : u.1 + T2.1 ≤ g.2.2.2.2.2.2.1.1 ∧ u.2 + T2.2 ≤ g.2.2.2.2.2.2.1.2) (hok : ∀ S2 I2 L2 R2 r, Post2 S2 I2 L2 R2 r → S2.length = S.length ∨ (zOk S.length st ∧ zOk S.length (lv.filterMap id))) (kk : ∀ S2 I2 L2 R2 r, Post2 S2 I2 L2 R2 r → zV g Post (u.1 + T2.1, u.2 + T2.2) S2 I2 L2 R2 pc2 lv (r.toList ++ st)) : zV g Post u S I L R pc lv (v1 :: st) := by
  intro p l e Rm s m args below meth c D G as A H locs ls Q hX hS hR hL hE
  obtain ⟨hd, rfl⟩ := hd
  refine zAfter (rest := st) (a := ([v1].map (zc as)).toArray) hX hS hR hL hE ?_ hok kk
  have hx := hX
  obtain ⟨x1, x2, x3, x4, x5, x6, x7, x8, x9, x10, x11, x12, x13, x14, x15⟩ := hx
  obtain ⟨hm0, hm1, hm2, hm3, hm4⟩ := hm
  exact va_runSN (As := [v1].map (zc as)) ⟨x1, x2, x5, x6, x7⟩ (hM l D G as H.size) ⟨va_cnB 1 x7 (zT_good (fun w hw => by rcases List.mem_cons.mp hw with rfl | h; exact hm2; exact h)) rfl rfl rfl (x13.1 _ hm0) (x7 _ hm1) hm3 ⟨by show d2 + 1 ≤ _; omega, by show 8 + (nL2 + 11) + 40 * d2 ≤ _; omega⟩, x7 _ hms, trivial⟩ (zPre hX hR) rfl rfl hL.1 rfl (lv_room (by rw [zc_cats]; exact hst)) hd ⟨by rw [x11]; exact hu.1, by rw [x12]; exact hu.2⟩
theorem z_callSN1 {v1 : Value} {host : String} {PostM : zMI → zML → Option Value → Prop} (hd : zD g.2.1 pc (.invokestatic idx) 3 pc2) (hm : zMLN g.1 idx y cc2 nL2 rt2 1 host) (hms : Cond.static y ∈ zT) (hM : zM0 y cc2 nL2 rt2 d2 [v1] S I L R PostM) (hdp : d2 + 1 ≤ g.2.2.2.2.2.1) (hst : (st.map fun v => v.category).sum ≤ 8) (hu : u.1 ≤ g.2.2.2.2.2.2.1.1 ∧ u.2 ≤ g.2.2.2.2.2.2.1.2) (kk : ∀ I2 L2 r, PostM I2 L2 r → zV g Post u S I2 L2 R pc2 lv (r.toList ++ st)) : zV g Post u S I L R pc lv (v1 :: st) :=
  z_callSN1g (T2 := (0, 0)) hd hm hms hM hdp hst hu (fun S2 I2 L2 R2 r h => Or.inl (by rw [h.1])) (fun S2 I2 L2 R2 r h => by obtain ⟨rfl, rfl, h⟩ := h; exact kk I2 L2 r h)
theorem z_callSN2g {v1 v2 : Value} {host : String} (hd : zD g.2.1 pc (.invokestatic idx) 3 pc2) (hm : zMLN g.1 idx y cc2 nL2 rt2 2 host) (hms : Cond.static y ∈ zT) (hM : zMet y cc2 nL2 rt2 d2 T2 [v1, v2] S I L R Post2) (hdp : d2 + 1 ≤ g.2.2.2.2.2.1) (hst : (st.map fun v => v.category).sum ≤ 8) (hu : u.1 + T2.1 ≤ g.2.2.2.2.2.2.1.1 ∧ u.2 + T2.2 ≤ g.2.2.2.2.2.2.1.2) (hok : ∀ S2 I2 L2 R2 r, Post2 S2 I2 L2 R2 r → S2.length = S.length ∨ (zOk S.length st ∧ zOk S.length (lv.filterMap id))) (kk : ∀ S2 I2 L2 R2 r, Post2 S2 I2 L2 R2 r → zV g Post (u.1 + T2.1, u.2 + T2.2) S2 I2 L2 R2 pc2 lv (r.toList ++ st)) : zV g Post u S I L R pc lv (v2 :: v1 :: st) := by
  intro p l e Rm s m args below meth c D G as A H locs ls Q hX hS hR hL hE
  obtain ⟨hd, rfl⟩ := hd
  refine zAfter (rest := st) (a := ([v1, v2].map (zc as)).toArray) hX hS hR hL hE ?_ hok kk
  have hx := hX
  obtain ⟨x1, x2, x3, x4, x5, x6, x7, x8, x9, x10, x11, x12, x13, x14, x15⟩ := hx
  obtain ⟨hm0, hm1, hm2, hm3, hm4⟩ := hm
  exact va_runSN (As := [v1, v2].map (zc as)) ⟨x1, x2, x5, x6, x7⟩ (hM l D G as H.size) ⟨va_cnB 2 x7 (zT_good (fun w hw => by rcases List.mem_cons.mp hw with rfl | h; exact hm2; exact h)) rfl rfl rfl (x13.1 _ hm0) (x7 _ hm1) hm3 ⟨by show d2 + 1 ≤ _; omega, by show 8 + (nL2 + 11) + 40 * d2 ≤ _; omega⟩, x7 _ hms, trivial⟩ (zPre hX hR) rfl rfl hL.1 rfl (lv_room (by rw [zc_cats]; exact hst)) hd ⟨by rw [x11]; exact hu.1, by rw [x12]; exact hu.2⟩
theorem z_callSN2 {v1 v2 : Value} {host : String} {PostM : zMI → zML → Option Value → Prop} (hd : zD g.2.1 pc (.invokestatic idx) 3 pc2) (hm : zMLN g.1 idx y cc2 nL2 rt2 2 host) (hms : Cond.static y ∈ zT) (hM : zM0 y cc2 nL2 rt2 d2 [v1, v2] S I L R PostM) (hdp : d2 + 1 ≤ g.2.2.2.2.2.1) (hst : (st.map fun v => v.category).sum ≤ 8) (hu : u.1 ≤ g.2.2.2.2.2.2.1.1 ∧ u.2 ≤ g.2.2.2.2.2.2.1.2) (kk : ∀ I2 L2 r, PostM I2 L2 r → zV g Post u S I2 L2 R pc2 lv (r.toList ++ st)) : zV g Post u S I L R pc lv (v2 :: v1 :: st) :=
  z_callSN2g (T2 := (0, 0)) hd hm hms hM hdp hst hu (fun S2 I2 L2 R2 r h => Or.inl (by rw [h.1])) (fun S2 I2 L2 R2 r h => by obtain ⟨rfl, rfl, h⟩ := h; exact kk I2 L2 r h)
theorem z_callI0g {b : Nat} (hd : zD g.2.1 pc (.invokespecial idx) 3 pc2) (hm : zMLI g.1 idx y cc2 nL2 0) (hM : zMet y cc2 nL2 none d2 T2 (.ref b :: []) S I L R Post2) (hdp : d2 + 1 ≤ g.2.2.2.2.2.1) (hst : (st.map fun v => v.category).sum ≤ 8) (hu : u.1 + T2.1 ≤ g.2.2.2.2.2.2.1.1 ∧ u.2 + T2.2 ≤ g.2.2.2.2.2.2.1.2) (hok : ∀ S2 I2 L2 R2 r, Post2 S2 I2 L2 R2 r → S2.length = S.length ∨ (zOk S.length st ∧ zOk S.length (lv.filterMap id))) (kk : ∀ S2 I2 L2 R2 r, Post2 S2 I2 L2 R2 r → zV g Post (u.1 + T2.1, u.2 + T2.2) S2 I2 L2 R2 pc2 lv (r.toList ++ st)) : zV g Post u S I L R pc lv (.ref b :: st) := by
  intro p l e Rm s m args below meth c D G as A H locs ls Q hX hS hR hL hE
  obtain ⟨hd, rfl⟩ := hd
  refine zAfter (rest := st) (a := ((.ref b :: []).map (zc as)).toArray) hX hS hR hL hE ?_ hok kk
  have hx := hX
  obtain ⟨x1, x2, x3, x4, x5, x6, x7, x8, x9, x10, x11, x12, x13, x14, x15⟩ := hx
  exact va_runI (As := []) ⟨x1, x2, x5, x6, x7⟩ (hM l D G as H.size) ⟨zCB hX hm.1 hdp, hm.2.2, x7 _ hm.2.1⟩ (zPre (av := (.ref b :: [])) hX hR) rfl rfl hL.1 rfl (lv_room (by rw [zc_cats]; exact hst)) hd ⟨by rw [x11]; exact hu.1, by rw [x12]; exact hu.2⟩
theorem z_callI1g {v1 : Value} {b : Nat} (hd : zD g.2.1 pc (.invokespecial idx) 3 pc2) (hm : zMLI g.1 idx y cc2 nL2 1) (hM : zMet y cc2 nL2 none d2 T2 (.ref b :: [v1]) S I L R Post2) (hdp : d2 + 1 ≤ g.2.2.2.2.2.1) (hst : (st.map fun v => v.category).sum ≤ 8) (hu : u.1 + T2.1 ≤ g.2.2.2.2.2.2.1.1 ∧ u.2 + T2.2 ≤ g.2.2.2.2.2.2.1.2) (hok : ∀ S2 I2 L2 R2 r, Post2 S2 I2 L2 R2 r → S2.length = S.length ∨ (zOk S.length st ∧ zOk S.length (lv.filterMap id))) (kk : ∀ S2 I2 L2 R2 r, Post2 S2 I2 L2 R2 r → zV g Post (u.1 + T2.1, u.2 + T2.2) S2 I2 L2 R2 pc2 lv (r.toList ++ st)) : zV g Post u S I L R pc lv (v1 :: .ref b :: st) := by
  intro p l e Rm s m args below meth c D G as A H locs ls Q hX hS hR hL hE
  obtain ⟨hd, rfl⟩ := hd
  refine zAfter (rest := st) (a := ((.ref b :: [v1]).map (zc as)).toArray) hX hS hR hL hE ?_ hok kk
  have hx := hX
  obtain ⟨x1, x2, x3, x4, x5, x6, x7, x8, x9, x10, x11, x12, x13, x14, x15⟩ := hx
  exact va_runI (As := [v1].map (zc as)) ⟨x1, x2, x5, x6, x7⟩ (hM l D G as H.size) ⟨zCB hX hm.1 hdp, hm.2.2, x7 _ hm.2.1⟩ (zPre (av := (.ref b :: [v1])) hX hR) rfl rfl hL.1 rfl (lv_room (by rw [zc_cats]; exact hst)) hd ⟨by rw [x11]; exact hu.1, by rw [x12]; exact hu.2⟩
theorem z_callIN0g {b : Nat} {host : String} (hd : zD g.2.1 pc (.invokespecial idx) 3 pc2) (hm : zMLN g.1 idx y cc2 nL2 none 0 host) (hmi : Cond.instanceMethod y ∈ zT) (hy : y.name = "<init>") (hM : zMet y cc2 nL2 none d2 T2 (.ref b :: []) S I L R Post2) (hdp : d2 + 1 ≤ g.2.2.2.2.2.1) (hst : (st.map fun v => v.category).sum ≤ 8) (hu : u.1 + T2.1 ≤ g.2.2.2.2.2.2.1.1 ∧ u.2 + T2.2 ≤ g.2.2.2.2.2.2.1.2) (hok : ∀ S2 I2 L2 R2 r, Post2 S2 I2 L2 R2 r → S2.length = S.length ∨ (zOk S.length st ∧ zOk S.length (lv.filterMap id))) (kk : ∀ S2 I2 L2 R2 r, Post2 S2 I2 L2 R2 r → zV g Post (u.1 + T2.1, u.2 + T2.2) S2 I2 L2 R2 pc2 lv (r.toList ++ st)) : zV g Post u S I L R pc lv (.ref b :: st) := by
  intro p l e Rm s m args below meth c D G as A H locs ls Q hX hS hR hL hE
  obtain ⟨hd, rfl⟩ := hd
  refine zAfter (rest := st) (a := ((.ref b :: []).map (zc as)).toArray) hX hS hR hL hE ?_ hok kk
  have hx := hX
  obtain ⟨x1, x2, x3, x4, x5, x6, x7, x8, x9, x10, x11, x12, x13, x14, x15⟩ := hx
  obtain ⟨hm0, hm1, hm2, hm3, hm4⟩ := hm
  exact va_runIN (As := []) ⟨x1, x2, x5, x6, x7⟩ (hM l D G as H.size) ⟨va_cnB 0 x7 (zT_good (fun w hw => by rcases List.mem_cons.mp hw with rfl | h; exact hm2; exact h)) rfl rfl rfl (x13.1 _ hm0) (x7 _ hm1) hm3 ⟨by show d2 + 1 ≤ _; omega, by show 8 + (nL2 + 11) + 40 * d2 ≤ _; omega⟩, hy, x7 _ hmi⟩ (zPre (av := (.ref b :: [])) hX hR) rfl rfl hL.1 rfl (lv_room (by rw [zc_cats]; exact hst)) hd ⟨by rw [x11]; exact hu.1, by rw [x12]; exact hu.2⟩
theorem z_callIN1g {v1 : Value} {b : Nat} {host : String} (hd : zD g.2.1 pc (.invokespecial idx) 3 pc2) (hm : zMLN g.1 idx y cc2 nL2 none 1 host) (hmi : Cond.instanceMethod y ∈ zT) (hy : y.name = "<init>") (hM : zMet y cc2 nL2 none d2 T2 (.ref b :: [v1]) S I L R Post2) (hdp : d2 + 1 ≤ g.2.2.2.2.2.1) (hst : (st.map fun v => v.category).sum ≤ 8) (hu : u.1 + T2.1 ≤ g.2.2.2.2.2.2.1.1 ∧ u.2 + T2.2 ≤ g.2.2.2.2.2.2.1.2) (hok : ∀ S2 I2 L2 R2 r, Post2 S2 I2 L2 R2 r → S2.length = S.length ∨ (zOk S.length st ∧ zOk S.length (lv.filterMap id))) (kk : ∀ S2 I2 L2 R2 r, Post2 S2 I2 L2 R2 r → zV g Post (u.1 + T2.1, u.2 + T2.2) S2 I2 L2 R2 pc2 lv (r.toList ++ st)) : zV g Post u S I L R pc lv (v1 :: .ref b :: st) := by
  intro p l e Rm s m args below meth c D G as A H locs ls Q hX hS hR hL hE
  obtain ⟨hd, rfl⟩ := hd
  refine zAfter (rest := st) (a := ((.ref b :: [v1]).map (zc as)).toArray) hX hS hR hL hE ?_ hok kk
  have hx := hX
  obtain ⟨x1, x2, x3, x4, x5, x6, x7, x8, x9, x10, x11, x12, x13, x14, x15⟩ := hx
  obtain ⟨hm0, hm1, hm2, hm3, hm4⟩ := hm
  exact va_runIN (As := [v1].map (zc as)) ⟨x1, x2, x5, x6, x7⟩ (hM l D G as H.size) ⟨va_cnB 1 x7 (zT_good (fun w hw => by rcases List.mem_cons.mp hw with rfl | h; exact hm2; exact h)) rfl rfl rfl (x13.1 _ hm0) (x7 _ hm1) hm3 ⟨by show d2 + 1 ≤ _; omega, by show 8 + (nL2 + 11) + 40 * d2 ≤ _; omega⟩, hy, x7 _ hmi⟩ (zPre (av := (.ref b :: [v1])) hX hR) rfl rfl hL.1 rfl (lv_room (by rw [zc_cats]; exact hst)) hd ⟨by rw [x11]; exact hu.1, by rw [x12]; exact hu.2⟩
end ZCalls
