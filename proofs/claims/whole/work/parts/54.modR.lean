theorem cw_s {C : Nat → Nat → Bool} {p q t : Nat} : cw C p q (t + 1) ↔ ∃ r, cw C p r t ∧ C r q = true := by
  constructor
  · rintro ⟨w, w0, w1, w2⟩
    exact ⟨w t, ⟨w, w0, rfl, fun i hi => w2 i (by omega)⟩, by rw [← w1]; exact w2 t (by omega)⟩
  · rintro ⟨r, ⟨w, w0, w1, w2⟩, h2⟩
    refine ⟨fun i => if i ≤ t then w i else q, by simp [w0], by show (if t + 1 ≤ t then w (t + 1) else q) = q; rw [if_neg (by omega)], fun i hi => ?_⟩
    show C (if i ≤ t then w i else q) (if i + 1 ≤ t then w (i + 1) else q) = true
    by_cases e : i = t
    · subst e; rw [if_pos (Nat.le_refl _), if_neg (by omega), w1]; exact h2
    · rw [if_pos (by omega), if_pos (by omega)]
      exact w2 i (by omega)
theorem cw_0 {C : Nat → Nat → Bool} {p q : Nat} : cw C p q 0 ↔ p = q := by
  constructor
  · rintro ⟨w, w0, w1, -⟩; rw [← w0, ← w1]
  · intro e; exact ⟨fun _ => p, rfl, e, fun i hi => by omega⟩
def rgE (C : Nat → Nat → Bool) (p s k a : Nat) : Prop := ∀ q, a.testBit q = true ↔ ∃ t, t < s ∧ t % 2 = k ∧ cw C p q t
def rgI (C : Nat → Nat → Bool) (p s e o : Nat) : Prop := e < 16384 ∧ o < 16384 ∧ rgE C p s 0 e ∧ rgE C p s 1 o ∧ ∀ t, t < s → t % 2 = 1 → ¬ cw C p p t
theorem rgI_0 {C : Nat → Nat → Bool} {p : Nat} (hp : p < 14) : rgI C p 1 (2 ^ p) 0 := by
  refine ⟨pow14 hp, by decide, fun q => ?_, fun q => ?_, fun t ht o => by omega⟩
  · rw [two_bit, decide_eq_true_eq]
    constructor
    · intro e; exact ⟨0, by omega, rfl, cw_0.mpr e⟩
    · rintro ⟨t, t1, -, t3⟩
      have : t = 0 := by omega
      subst this
      exact cw_0.mp t3
  · rw [Nat.zero_testBit]
    constructor
    · intro e; cases e
    · rintro ⟨t, t1, t2, -⟩; omega
theorem rgE_same {C : Nat → Nat → Bool} {p s k a : Nat} (h : rgE C p s k a) (hs : s % 2 ≠ k) : rgE C p (s + 1) k a := by
  intro q
  rw [h q]
  constructor
  · rintro ⟨t, t1, t2, t3⟩; exact ⟨t, by omega, t2, t3⟩
  · rintro ⟨t, t1, t2, t3⟩
    refine ⟨t, ?_, t2, t3⟩
    have : t ≠ s := fun e => hs (by rw [← e]; exact t2)
    omega
theorem rgE_next {C : Nat → Nat → Bool} {n p s k j a b : Nat} (hn : n ≤ 14) (hC : adj C n) (ha : rgE C p s k a) (hb : rgE C p s j b) (hk : k < 2) (hj : j = 1 - k) (hs : s % 2 = j) (h1 : 1 ≤ s) : rgE C p (s + 1) j (b ||| nbS C n a) := by
  intro q
  rw [Nat.testBit_or, Bool.or_eq_true, nbS_iff hn hC, hb q]
  constructor
  · rintro (⟨t, t1, t2, t3⟩ | ⟨r, r1, r2⟩)
    · exact ⟨t, by omega, t2, t3⟩
    · obtain ⟨t, t1, t2, t3⟩ := (ha r).mp r1
      exact ⟨t + 1, by omega, by omega, cw_s.mpr ⟨r, t3, r2⟩⟩
  · rintro ⟨t, t1, t2, t3⟩
    cases t with
    | zero => exact Or.inl ⟨0, by omega, t2, t3⟩
    | succ t =>
      obtain ⟨r, r1, r2⟩ := cw_s.mp t3
      exact Or.inr ⟨r, (ha r).mpr ⟨t, by omega, by omega, r1⟩, r2⟩
theorem rgI_odd {C : Nat → Nat → Bool} {n p s e o : Nat} (hn : n ≤ 14) (hC : adj C n) (h : rgI C p s e o) (hs : s % 2 = 1) (hp : ¬ (o ||| nbS C n e).testBit p = true) : rgI C p (s + 1) e (o ||| nbS C n e) := by
  obtain ⟨h1, h2, h3, h4, h5⟩ := h
  have z := rgE_next hn hC h3 h4 (by decide) rfl hs (by omega)
  exact ⟨h1, or_lt14 h2 (nbS_lt _ _ _), rgE_same h3 (by omega), z, fun t t1 t2 t3 => hp ((z p).mpr ⟨t, t1, t2, t3⟩)⟩
theorem rgI_even {C : Nat → Nat → Bool} {n p s e o : Nat} (hn : n ≤ 14) (hC : adj C n) (h : rgI C p s e o) (hs : ¬ s % 2 = 1) (h0 : 1 ≤ s) : rgI C p (s + 1) (e ||| nbS C n o) o := by
  obtain ⟨h1, h2, h3, h4, h5⟩ := h
  have z := rgE_next hn hC h4 h3 (by decide) rfl (by omega) h0
  exact ⟨or_lt14 h1 (nbS_lt _ _ _), h2, z, rgE_same h4 (by omega), fun t t1 t2 t3 => h5 t (by omega) t2 t3⟩
theorem rg_end {C : Nat → Nat → Bool} {n p s e o : Nat} (hn : n ≤ 14) (hC : adj C n) (h : rgI C p s e o) (hs : 28 < s) : 0 = rg C n 28 p := by
  rcases rg_spec hn hC 28 p with ⟨r1, -⟩ | ⟨r1, r2, r3, r4, -⟩
  · exact r1.symm
  · exact absurd r4 (h.2.2.2.2 _ (by omega) r3)
theorem rg_hit {C : Nat → Nat → Bool} {n p s e o : Nat} (hn : n ≤ 14) (hC : adj C n) (h : rgI C p s e o) (hs : s % 2 = 1) (h28 : s ≤ 28) (hp : (o ||| nbS C n e).testBit p = true) : s = rg C n 28 p := by
  obtain ⟨h1, h2, h3, h4, h5⟩ := h
  obtain ⟨t, t1, t2, t3⟩ := (rgE_next hn hC h3 h4 (by decide) rfl hs (by omega) p).mp hp
  have : t = s := by
    rcases Nat.lt_or_ge t s with q | q
    · exact absurd t3 (h5 t q t2)
    · omega
  subst this
  rcases rg_spec hn hC 28 p with ⟨r1, r2⟩ | ⟨r1, r2, r3, r4, r5⟩
  · exact absurd t3 (r2 t h28 hs)
  · have := r5 t hs t3
    rcases Nat.lt_or_ge (rg C n 28 p) t with q | q
    · exact absurd r4 (h5 _ q r3)
    · omega
theorem rg_le {C : Nat → Nat → Bool} {n p : Nat} (hn : n ≤ 14) (hC : adj C n) : rg C n 28 p ≤ 28 := by
  rcases rg_spec hn hC 28 p with ⟨r1, -⟩ | ⟨r1, r2, -⟩ <;> omega
theorem mnF_le {R : Nat → Nat} {b : Nat} (h : ∀ p, R p ≤ b) : ∀ k, mnF R k ≤ b
  | 0 => by simp [mnF]
  | k + 1 => by
    rw [mnF]
    split
    · exact h k
    · exact mnF_le h k
theorem mnF_a {R : Nat → Nat} {k : Nat} (h : R k ≠ 0) (h2 : mnF R k = 0 ∨ R k < mnF R k) : mnF R (k + 1) = R k := by rw [mnF, if_pos ⟨h, h2⟩]
theorem mnF_b {R : Nat → Nat} {k : Nat} (h : ¬ (R k ≠ 0 ∧ (mnF R k = 0 ∨ R k < mnF R k))) : mnF R (k + 1) = mnF R k := by rw [mnF, if_neg h]
theorem FQ_y {A : Nat → Nat → Bool} {n k : Nat} {Q : Nat → Prop} [DecidablePred Q] (h : (FQ A n Q k).1.testBit k = false) (hQ : Q k) : FQ A n Q (k + 1) = ((FQ A n Q k).1 ||| part A n k, (FQ A n Q k).2 + 1) := by rw [FQ, if_pos ⟨h, hQ⟩]
theorem FQ_n {A : Nat → Nat → Bool} {n k : Nat} {Q : Nat → Prop} [DecidablePred Q] (h : ¬ ((FQ A n Q k).1.testBit k = false ∧ Q k)) : FQ A n Q (k + 1) = FQ A n Q k := by rw [FQ, if_neg h]
theorem FQR_y {A : Nat → Nat → Bool} {n k : Nat} {R : Nat → Nat} (h : (FQ A n (fun p => R p ≠ 0) k).1.testBit k = false) (hQ : R k ≠ 0) : FQ A n (fun p => R p ≠ 0) (k + 1) = ((FQ A n (fun p => R p ≠ 0) k).1 ||| part A n k, (FQ A n (fun p => R p ≠ 0) k).2 + 1) := FQ_y h hQ
theorem FQR_n {A : Nat → Nat → Bool} {n k : Nat} {R : Nat → Nat} (h : R k = 0) : FQ A n (fun p => R p ≠ 0) (k + 1) = FQ A n (fun p => R p ≠ 0) k := FQ_n (fun q => q.2 h)
theorem FQR_t {A : Nat → Nat → Bool} {n k : Nat} {R : Nat → Nat} (h : (FQ A n (fun p => R p ≠ 0) k).1.testBit k = true) : FQ A n (fun p => R p ≠ 0) (k + 1) = FQ A n (fun p => R p ≠ 0) k := FQ_n (fun q => by rw [h] at q; exact absurd q.1 (by decide))
theorem z_rl5 {g : zG} {Post : zPost} {u : Nat × Nat} {S : zS} {I : zMI} {L : zML} {R : zMR} {pc : Nat} {a0 a1 a2 a3 a4 a6 a7 : Option Value} {x y : Nat} (h : y = x) (k : zV g Post u S I L R pc [a0, a1, a2, a3, a4, some (.int (nI y)), a6, a7] []) : zV g Post u S I L R pc [a0, a1, a2, a3, a4, some (.int (nI x)), a6, a7] [] := by rw [← h]; exact k
theorem z_rlO {g : zG} {Post : zPost} {u : Nat × Nat} {S : zS} {I : zMI} {L : zML} {R : zMR} {pc : Nat} {a0 a1 a5 a6 : Option Value} {x2 y2 x3 y3 x4 y4 : Nat} (h2 : y2 = x2) (h3 : y3 = x3) (h4 : y4 = x4) (k : zV g Post u S I L R pc [a0, a1, some (.int (nI y2)), some (.int (nI y3)), some (.int (nI y4)), a5, a6] []) : zV g Post u S I L R pc [a0, a1, some (.int (nI x2)), some (.int (nI x3)), some (.int (nI x4)), a5, a6] [] := by rw [← h2, ← h3, ← h4]; exact k
set_option maxRecDepth 100000 in
set_option maxHeartbeats 4000000 in
theorem m_ring_in {S : zS} {R : zMR} (I : zMI) (L : zML) {ps : List Pc} {D : Nat} (hM : zMO S R) (ho : psOk ps) (hP : zPM I ps D) {Post0 : zPost} {p e o s nw : Nat} (hnw : nw < 16384) (hK : zV (zMt RX6 cX6_ringOf 8 (some .int) 1) Post0 (0, 0) S I L R 78 [some (.ref 96), some (.int (nI p)), some (.int (nI e)), some (.int (nI o)), some (.int (nI s)), some (.int (nI (nbS (clb ps D) ps.length nw))), some (.int (nI nw)), some (.int (nI ps.length))] [])  : ∀ (n : Nat) (k : Nat), ps.length + 1 ≤ k + n → k ≤ ps.length → zV (zMt RX6 cX6_ringOf 8 (some .int) 1) Post0 (0, 0) S I L R 37 [some (.ref 96), some (.int (nI p)), some (.int (nI e)), some (.int (nI o)), some (.int (nI s)), some (.int (nI (bm 14 (fun q => exB k (fun r => nw.testBit r && clb ps D r q))))), some (.int (nI nw)), some (.int (nI k))] [] := by
  intro n
  induction n with
  | zero => intro k h1 h2; omega
  | succ n ih =>
    intro k h1 h2
    have hlen := ho.1
    refine z_iload dX6_ringOf_37 rfl ?_
    refine z_aload_n dX6_ringOf_39 rfl ?_
    refine z_geti dX6_ringOf_40 fX6_49 hM.o ?_
    refine z_top (hP.1.1) ?_
    refine z_icmp_geNN (tgt := 78) dX6_ringOf_43 (by decide) (by omega) (by omega) (fun h43 => ?_) (fun h43 => ?_)
    · have e9 : k = ps.length := by omega
      subst e9
      exact hK
    · refine z_iload dX6_ringOf_46 rfl ?_
      refine z_iload dX6_ringOf_48 rfl ?_
      refine z_iload dX6_ringOf_50 rfl ?_
      refine z_callS2p dX6_ringOf_52 mX6_68 (m_has I L nw k (by omega) (by omega)) (by decide) (Nat.le_of_ble_eq_true rfl) ⟨Nat.le_refl _, Nat.le_refl _⟩ ?_
      refine z_if_eqB (tgt := 68) dX6_ringOf_55 (by decide) (fun h55 => ?_) (fun h55 => ?_)
      · refine z_iconst (nI 0) dX6_ringOf_68 (by decide) ?_
        refine z_iorN dX6_ringOf_69 ?_
        refine z_ist5 dX6_ringOf_70 (by repeat first | rfl | assumption | refine zCat_s ?_ | refine zCat_a ?_ ?_) ?_
        refine z_iincN7 (n := 1) dX6_ringOf_72 (by repeat first | rfl | assumption | refine zCat_s ?_ | refine zCat_a ?_ ?_) ?_
        refine z_goto (tgt := 37) dX6_ringOf_75 (by decide) ?_
        refine z_rl5 ?_ (ih (k + 1) (by omega) (by omega))
        rw [nbS_step]
        first | rw [if_pos h55] | (rw [if_neg h55, Nat.or_zero])
      · refine z_aload_n dX6_ringOf_58 rfl ?_
        refine z_getr dX6_ringOf_59 fX6_32 hM.o hM.r9 ?_
        refine z_iload dX6_ringOf_62 rfl ?_
        refine z_iaN dX6_ringOf_64 hM.a9 (by omega) (by decide) ?_
        refine z_top ((hP.2 k h43).1) ?_
        refine z_goto (tgt := 69) dX6_ringOf_65 (by decide) ?_
        refine z_iorN dX6_ringOf_69 ?_
        refine z_ist5 dX6_ringOf_70 (by repeat first | rfl | assumption | refine zCat_s ?_ | refine zCat_a ?_ ?_) ?_
        refine z_iincN7 (n := 1) dX6_ringOf_72 (by repeat first | rfl | assumption | refine zCat_s ?_ | refine zCat_a ?_ ?_) ?_
        refine z_goto (tgt := 37) dX6_ringOf_75 (by decide) ?_
        refine z_rl5 ?_ (ih (k + 1) (by omega) (by omega))
        rw [nbS_step]
        first | rw [if_pos h55] | (rw [if_neg h55, Nat.or_zero])
set_option maxRecDepth 100000 in
set_option maxHeartbeats 4000000 in
theorem m_ring_l {S : zS} {R : zMR} (I : zMI) (L : zML) {ps : List Pc} {D : Nat} (hM : zMO S R) (ho : psOk ps) (hP : zPM I ps D) {p : Nat} (hp : p < ps.length) : ∀ (n : Nat) (s e o : Nat) (a5 a6 a7 : Option Value), 30 ≤ s + n → s ≤ 29 → 1 ≤ s → rgI (clb ps D) p s e o → zCat [a5] = true → zCat [a6] = true → zCat [a7] = true → zV (zMt RX6 cX6_ringOf 8 (some .int) 1) (fun S2 I2 L2 R2 rr => S2 = S ∧ R2 = R ∧ (zPure I L (nI (rg (clb ps D) ps.length 28 p))) I2 L2 rr) (0, 0) S I L R 9 [some (.ref 96), some (.int (nI p)), some (.int (nI e)), some (.int (nI o)), some (.int (nI s)), a5, a6, a7] [] := by
  intro n
  induction n with
  | zero => intro s e o a5 a6 a7 h1 h2 h3 hR h5 h6 h7; omega
  | succ n ih =>
    intro s e o a5 a6 a7 h1 h2 h3 hR h5 h6 h7
    have hlen := ho.1
    have hbe := hR.1
    have hbo := hR.2.1
    have hbn := or_lt14 hbo (nbS_lt (clb ps D) ps.length e)
    refine z_iload dX6_ringOf_9 rfl ?_
    refine z_bipush (nI 28) dX6_ringOf_11 (by decide) ?_
    refine z_icmp_gtNN (tgt := 113) dX6_ringOf_13 (by decide) (by omega) (by omega) (fun h13 => ?_) (fun h13 => ?_)
    · refine z_iconst (nI 0) dX6_ringOf_113 (by decide) ?_
      exact z_iret dX6_ringOf_114 ⟨Nat.le_refl _, Nat.le_refl _⟩ rfl ⟨rfl, rfl, rfl, rfl, congrArg (fun z => some (Value.int z)) (congrArg nI (rg_end hlen (clb_adj ps D) hR (by omega)))⟩
    · refine z_iconst (nI 0) dX6_ringOf_16 (by decide) ?_
      refine z_ist5 dX6_ringOf_17 (by repeat first | rfl | assumption | refine zCat_s ?_ | refine zCat_a ?_ ?_) ?_
      refine z_iload dX6_ringOf_19 rfl ?_
      refine z_iconst (nI 2) dX6_ringOf_21 (by decide) ?_
      refine z_iremN dX6_ringOf_22 (by omega) (by omega) (by omega) ?_
      refine z_iconst (nI 1) dX6_ringOf_23 (by decide) ?_
      refine z_icmp_neNN (tgt := 31) dX6_ringOf_24 (by decide) (by omega) (by omega) (fun h24 => ?_) (fun h24 => ?_)
      · refine z_iload_n dX6_ringOf_31 rfl ?_
        refine z_ist6 dX6_ringOf_32 (by repeat first | rfl | assumption | refine zCat_s ?_ | refine zCat_a ?_ ?_) ?_
        refine z_iconst (nI 0) dX6_ringOf_34 (by decide) ?_
        refine z_ist7 dX6_ringOf_35 (by repeat first | rfl | assumption | refine zCat_s ?_ | refine zCat_a ?_ ?_) ?_
        refine z_rl5 (y := (bm 14 (fun q => exB 0 (fun r => o.testBit r && clb ps D r q)))) (exB_0 (fun _ => false)) (m_ring_in I L hM ho hP (nw := o) (by omega) ?_ (ps.length + 1) 0 (by omega) (by omega))
        refine z_iload dX6_ringOf_78 rfl ?_
        refine z_iconst (nI 2) dX6_ringOf_80 (by decide) ?_
        refine z_iremN dX6_ringOf_81 (by omega) (by omega) (by omega) ?_
        refine z_iconst (nI 1) dX6_ringOf_82 (by decide) ?_
        refine z_icmp_neNN (tgt := 102) dX6_ringOf_83 (by decide) (by omega) (by omega) (fun h83 => ?_) (fun h83 => absurd h83 (by omega))
        refine z_iload_n dX6_ringOf_102 rfl ?_
        refine z_iload dX6_ringOf_103 rfl ?_
        refine z_iorN dX6_ringOf_105 ?_
        refine z_ist2 dX6_ringOf_106 (by repeat first | rfl | assumption | refine zCat_s ?_ | refine zCat_a ?_ ?_) ?_
        refine z_iincN4 (n := 1) dX6_ringOf_107 (by repeat first | rfl | assumption | refine zCat_s ?_ | refine zCat_a ?_ ?_) ?_
        refine z_goto (tgt := 9) dX6_ringOf_110 (by decide) ?_
        exact ih (s + 1) (e ||| nbS (clb ps D) ps.length o) o _ _ _ (by omega) (by omega) (by omega) (rgI_even hlen (clb_adj ps D) hR h24 (by omega)) rfl rfl rfl
      · refine z_iload_n dX6_ringOf_27 rfl ?_
        refine z_goto (tgt := 32) dX6_ringOf_28 (by decide) ?_
        refine z_ist6 dX6_ringOf_32 (by repeat first | rfl | assumption | refine zCat_s ?_ | refine zCat_a ?_ ?_) ?_
        refine z_iconst (nI 0) dX6_ringOf_34 (by decide) ?_
        refine z_ist7 dX6_ringOf_35 (by repeat first | rfl | assumption | refine zCat_s ?_ | refine zCat_a ?_ ?_) ?_
        refine z_rl5 (y := (bm 14 (fun q => exB 0 (fun r => e.testBit r && clb ps D r q)))) (exB_0 (fun _ => false)) (m_ring_in I L hM ho hP (nw := e) (by omega) ?_ (ps.length + 1) 0 (by omega) (by omega))
        refine z_iload dX6_ringOf_78 rfl ?_
        refine z_iconst (nI 2) dX6_ringOf_80 (by decide) ?_
        refine z_iremN dX6_ringOf_81 (by omega) (by omega) (by omega) ?_
        refine z_iconst (nI 1) dX6_ringOf_82 (by decide) ?_
        refine z_icmp_neNN (tgt := 102) dX6_ringOf_83 (by decide) (by omega) (by omega) (fun h83 => absurd h83 (by omega)) (fun h83 => ?_)
        refine z_iload_n dX6_ringOf_86 rfl ?_
        refine z_iload dX6_ringOf_87 rfl ?_
        refine z_iorN dX6_ringOf_89 ?_
        refine z_ist3 dX6_ringOf_90 (by repeat first | rfl | assumption | refine zCat_s ?_ | refine zCat_a ?_ ?_) ?_
        refine z_iload_n dX6_ringOf_91 rfl ?_
        refine z_iload_n dX6_ringOf_92 rfl ?_
        refine z_callS2p dX6_ringOf_93 mX6_68 (m_has I L (o ||| nbS (clb ps D) ps.length e) p (by omega) (by omega)) (by decide) (Nat.le_of_ble_eq_true rfl) ⟨Nat.le_refl _, Nat.le_refl _⟩ ?_
        refine z_if_eqB (tgt := 107) dX6_ringOf_96 (by decide) (fun h96 => ?_) (fun h96 => ?_)
        · refine z_iincN4 (n := 1) dX6_ringOf_107 (by repeat first | rfl | assumption | refine zCat_s ?_ | refine zCat_a ?_ ?_) ?_
          refine z_goto (tgt := 9) dX6_ringOf_110 (by decide) ?_
          exact ih (s + 1) e (o ||| nbS (clb ps D) ps.length e) _ _ _ (by omega) (by omega) (by omega) (rgI_odd hlen (clb_adj ps D) hR h24 h96) rfl rfl rfl
        · refine z_iload dX6_ringOf_99 rfl ?_
          exact z_iret dX6_ringOf_101 ⟨Nat.le_refl _, Nat.le_refl _⟩ rfl ⟨rfl, rfl, rfl, rfl, congrArg (fun z => some (Value.int z)) (congrArg nI (rg_hit hlen (clb_adj ps D) hR h24 (by omega) h96))⟩
set_option maxRecDepth 100000 in
set_option maxHeartbeats 4000000 in
theorem m_ringOf {S : zS} {R : zMR} (I : zMI) (L : zML) {ps : List Pc} {D : Nat} (hM : zMO S R) (ho : psOk ps) (hP : zPM I ps D) (p : Nat) (hp : p < ps.length) : zM0 yX6_ringOf cX6_ringOf 8 (some .int) 1 [.ref 96, .int (nI p)] S I L R (zPure I L (nI (rg (clb ps D) ps.length 28 p))) := by
  refine zM0_of (own := RX6) (lv := [some (.ref 96), some (.int (nI p)), none, none, none, none, none, none]) rfl (by decide) rfl rfl ?_
  have hlen := ho.1
  have hall := all_lt hlen
  refine z_iconst (nI 1) dX6_ringOf_0 (by decide) ?_
  refine z_iload_n dX6_ringOf_1 rfl ?_
  refine z_shl1 dX6_ringOf_2 (by omega) ?_
  refine z_ist2 dX6_ringOf_3 rfl ?_
  refine z_iconst (nI 0) dX6_ringOf_4 (by decide) ?_
  refine z_ist3 dX6_ringOf_5 rfl ?_
  refine z_iconst (nI 1) dX6_ringOf_6 (by decide) ?_
  refine z_ist4 dX6_ringOf_7 rfl ?_
  exact m_ring_l I L hM ho hP hp 29 1 (2 ^ p) 0 none none none (by omega) (by omega) (by omega) (rgI_0 (by omega)) rfl rfl rfl
set_option maxRecDepth 100000 in
set_option maxHeartbeats 4000000 in
theorem m_odd_l {S : zS} {R : zMR} (I : zMI) (L : zML) {ps : List Pc} {D : Nat} (hM : zMO S R) (ho : psOk ps) (hP : zPM I ps D) (x : Int32) : ∀ (n : Nat) (p : Nat) (a6 : Option Value), ps.length + 1 ≤ p + n → p ≤ ps.length → zCat [a6] = true → zV (zMt RX6 cX6_odd 7 (some .int) 3) (fun S2 I2 L2 R2 rr => S2 = S ∧ R2 = R ∧ (zPure I L (zif (x = 0) (nI (FQ (lkb ps D) ps.length (fun p => rg (clb ps D) ps.length 28 p ≠ 0) ps.length).2) (nI (mnF (rg (clb ps D) ps.length 28) ps.length)))) I2 L2 rr) (0, 0) S I L R 10 [some (.ref 96), some (.int x), some (.int (nI (FQ (lkb ps D) ps.length (fun p => rg (clb ps D) ps.length 28 p ≠ 0) p).1)), some (.int (nI (mnF (rg (clb ps D) ps.length 28) p))), some (.int (nI (FQ (lkb ps D) ps.length (fun p => rg (clb ps D) ps.length 28 p ≠ 0) p).2)), some (.int (nI p)), a6] [] := by
  intro n
  induction n with
  | zero => intro p a6 h1 h2 h6; omega
  | succ n ih =>
    intro p a6 h1 h2 h6
    have hlen := ho.1
    have hrl := rg_le (p := p) hlen (clb_adj ps D)
    have hml := mnF_le (R := rg (clb ps D) ps.length 28) (fun q => rg_le (p := q) hlen (clb_adj ps D)) p
    have hfl := FQ_lt (A := lkb ps D) (n := ps.length) (Q := fun p => rg (clb ps D) ps.length 28 p ≠ 0) p (by omega)
    refine z_iload dX6_odd_10 rfl ?_
    refine z_aload_n dX6_odd_12 rfl ?_
    refine z_geti dX6_odd_13 fX6_49 hM.o ?_
    refine z_top (hP.1.1) ?_
    refine z_icmp_geNN (tgt := 83) dX6_odd_16 (by decide) (by omega) (by omega) (fun h16 => ?_) (fun h16 => ?_)
    · refine z_iload_n dX6_odd_83 rfl ?_
      refine z_if_ne (tgt := 92) dX6_odd_84 (by decide) (fun h84 => ?_) (fun h84 => ?_)
      · refine z_iload_n dX6_odd_92 rfl ?_
        have e9 : p = ps.length := by omega
        subst e9
        exact z_iret dX6_odd_93 ⟨Nat.le_refl _, Nat.le_refl _⟩ rfl ⟨rfl, rfl, rfl, rfl, congrArg (fun z => some (Value.int z)) (by first | rw [zif_f h84] | rw [zif_t h84])⟩
      · refine z_iload dX6_odd_87 rfl ?_
        refine z_goto (tgt := 93) dX6_odd_89 (by decide) ?_
        have e9 : p = ps.length := by omega
        subst e9
        exact z_iret dX6_odd_93 ⟨Nat.le_refl _, Nat.le_refl _⟩ rfl ⟨rfl, rfl, rfl, rfl, congrArg (fun z => some (Value.int z)) (by first | rw [zif_f h84] | rw [zif_t h84])⟩
    · refine z_aload_n dX6_odd_19 rfl ?_
      refine z_iload dX6_odd_20 rfl ?_
      refine z_callV1p dX6_odd_22 mX6_215 hM.o (m_ringOf I L hM ho hP p h16) (by decide) (Nat.le_of_ble_eq_true rfl) ⟨Nat.le_refl _, Nat.le_refl _⟩ ?_
      refine z_ist6 dX6_odd_25 (by repeat first | rfl | assumption | refine zCat_s ?_ | refine zCat_a ?_ ?_) ?_
      refine z_iload dX6_odd_27 rfl ?_
      refine z_if_leN (tgt := 77) dX6_odd_29 (by decide) (by omega) (fun h29 => ?_) (fun h29 => ?_)
      · refine z_iincN5 (n := 1) dX6_odd_77 (by repeat first | rfl | assumption | refine zCat_s ?_ | refine zCat_a ?_ ?_) ?_
        refine z_goto (tgt := 10) dX6_odd_80 (by decide) ?_
        refine z_rlO ?_ ?_ ?_ (ih (p + 1) _ (by omega) (by omega) rfl)
        · first | (rw [FQR_y (by simpa using h40) (by omega)] <;> rfl) | (rw [FQR_t h40, FQ_clo hlen (lkb_adj ps D) h16 h40]) | rw [FQR_n (by omega)]
        · first | rw [mnF_a (by omega) (by omega)] | rw [mnF_b (by omega)]
        · first | (rw [FQR_y (by simpa using h40) (by omega)] <;> rfl) | (rw [FQR_t h40, Nat.add_zero]) | rw [FQR_n (by omega)]
      · refine z_iload dX6_odd_32 rfl ?_
        refine z_iload_n dX6_odd_34 rfl ?_
        refine z_iload dX6_odd_35 rfl ?_
        refine z_callS2p dX6_odd_37 mX6_68 (m_has I L _ p (by omega) (by omega)) (by decide) (Nat.le_of_ble_eq_true rfl) ⟨Nat.le_refl _, Nat.le_refl _⟩ ?_
        refine z_if_eqB (tgt := 47) dX6_odd_40 (by decide) (fun h40 => ?_) (fun h40 => ?_)
        · refine z_iconst (nI 1) dX6_odd_47 (by decide) ?_
          refine z_iaddN dX6_odd_48 ?_
          refine z_ist4 dX6_odd_49 (by repeat first | rfl | assumption | refine zCat_s ?_ | refine zCat_a ?_ ?_) ?_
          refine z_iload_n dX6_odd_51 rfl ?_
          refine z_aload_n dX6_odd_52 rfl ?_
          refine z_iload dX6_odd_53 rfl ?_
          refine z_callV1p dX6_odd_55 mX6_212 hM.o (m_partOf I L hM ho hP p h16) (by decide) (Nat.le_of_ble_eq_true rfl) ⟨Nat.le_refl _, Nat.le_refl _⟩ ?_
          refine z_iorN dX6_odd_58 ?_
          refine z_ist2 dX6_odd_59 (by repeat first | rfl | assumption | refine zCat_s ?_ | refine zCat_a ?_ ?_) ?_
          refine z_iload_n dX6_odd_60 rfl ?_
          refine z_if_eqN (tgt := 70) dX6_odd_61 (by decide) (by omega) (fun h61 => ?_) (fun h61 => ?_)
          · refine z_iload dX6_odd_70 rfl ?_
            refine z_goto (tgt := 76) dX6_odd_72 (by decide) ?_
            refine z_ist3 dX6_odd_76 (by repeat first | rfl | assumption | refine zCat_s ?_ | refine zCat_a ?_ ?_) ?_
            refine z_iincN5 (n := 1) dX6_odd_77 (by repeat first | rfl | assumption | refine zCat_s ?_ | refine zCat_a ?_ ?_) ?_
            refine z_goto (tgt := 10) dX6_odd_80 (by decide) ?_
            refine z_rlO ?_ ?_ ?_ (ih (p + 1) _ (by omega) (by omega) rfl)
            · first | (rw [FQR_y (by simpa using h40) (by omega)] <;> rfl) | (rw [FQR_t h40, FQ_clo hlen (lkb_adj ps D) h16 h40]) | rw [FQR_n (by omega)]
            · first | rw [mnF_a (by omega) (by omega)] | rw [mnF_b (by omega)]
            · first | (rw [FQR_y (by simpa using h40) (by omega)] <;> rfl) | (rw [FQR_t h40, Nat.add_zero]) | rw [FQR_n (by omega)]
          · refine z_iload dX6_odd_64 rfl ?_
            refine z_iload_n dX6_odd_66 rfl ?_
            refine z_icmp_geNN (tgt := 75) dX6_odd_67 (by decide) (by omega) (by omega) (fun h67 => ?_) (fun h67 => ?_)
            · refine z_iload_n dX6_odd_75 rfl ?_
              refine z_ist3 dX6_odd_76 (by repeat first | rfl | assumption | refine zCat_s ?_ | refine zCat_a ?_ ?_) ?_
              refine z_iincN5 (n := 1) dX6_odd_77 (by repeat first | rfl | assumption | refine zCat_s ?_ | refine zCat_a ?_ ?_) ?_
              refine z_goto (tgt := 10) dX6_odd_80 (by decide) ?_
              refine z_rlO ?_ ?_ ?_ (ih (p + 1) _ (by omega) (by omega) rfl)
              · first | (rw [FQR_y (by simpa using h40) (by omega)] <;> rfl) | (rw [FQR_t h40, FQ_clo hlen (lkb_adj ps D) h16 h40]) | rw [FQR_n (by omega)]
              · first | rw [mnF_a (by omega) (by omega)] | rw [mnF_b (by omega)]
              · first | (rw [FQR_y (by simpa using h40) (by omega)] <;> rfl) | (rw [FQR_t h40, Nat.add_zero]) | rw [FQR_n (by omega)]
            · refine z_iload dX6_odd_70 rfl ?_
              refine z_goto (tgt := 76) dX6_odd_72 (by decide) ?_
              refine z_ist3 dX6_odd_76 (by repeat first | rfl | assumption | refine zCat_s ?_ | refine zCat_a ?_ ?_) ?_
              refine z_iincN5 (n := 1) dX6_odd_77 (by repeat first | rfl | assumption | refine zCat_s ?_ | refine zCat_a ?_ ?_) ?_
              refine z_goto (tgt := 10) dX6_odd_80 (by decide) ?_
              refine z_rlO ?_ ?_ ?_ (ih (p + 1) _ (by omega) (by omega) rfl)
              · first | (rw [FQR_y (by simpa using h40) (by omega)] <;> rfl) | (rw [FQR_t h40, FQ_clo hlen (lkb_adj ps D) h16 h40]) | rw [FQR_n (by omega)]
              · first | rw [mnF_a (by omega) (by omega)] | rw [mnF_b (by omega)]
              · first | (rw [FQR_y (by simpa using h40) (by omega)] <;> rfl) | (rw [FQR_t h40, Nat.add_zero]) | rw [FQR_n (by omega)]
        · refine z_iconst (nI 0) dX6_odd_43 (by decide) ?_
          refine z_goto (tgt := 48) dX6_odd_44 (by decide) ?_
          refine z_iaddN dX6_odd_48 ?_
          refine z_ist4 dX6_odd_49 (by repeat first | rfl | assumption | refine zCat_s ?_ | refine zCat_a ?_ ?_) ?_
          refine z_iload_n dX6_odd_51 rfl ?_
          refine z_aload_n dX6_odd_52 rfl ?_
          refine z_iload dX6_odd_53 rfl ?_
          refine z_callV1p dX6_odd_55 mX6_212 hM.o (m_partOf I L hM ho hP p h16) (by decide) (Nat.le_of_ble_eq_true rfl) ⟨Nat.le_refl _, Nat.le_refl _⟩ ?_
          refine z_iorN dX6_odd_58 ?_
          refine z_ist2 dX6_odd_59 (by repeat first | rfl | assumption | refine zCat_s ?_ | refine zCat_a ?_ ?_) ?_
          refine z_iload_n dX6_odd_60 rfl ?_
          refine z_if_eqN (tgt := 70) dX6_odd_61 (by decide) (by omega) (fun h61 => ?_) (fun h61 => ?_)
          · refine z_iload dX6_odd_70 rfl ?_
            refine z_goto (tgt := 76) dX6_odd_72 (by decide) ?_
            refine z_ist3 dX6_odd_76 (by repeat first | rfl | assumption | refine zCat_s ?_ | refine zCat_a ?_ ?_) ?_
            refine z_iincN5 (n := 1) dX6_odd_77 (by repeat first | rfl | assumption | refine zCat_s ?_ | refine zCat_a ?_ ?_) ?_
            refine z_goto (tgt := 10) dX6_odd_80 (by decide) ?_
            refine z_rlO ?_ ?_ ?_ (ih (p + 1) _ (by omega) (by omega) rfl)
            · first | (rw [FQR_y (by simpa using h40) (by omega)] <;> rfl) | (rw [FQR_t h40, FQ_clo hlen (lkb_adj ps D) h16 h40]) | rw [FQR_n (by omega)]
            · first | rw [mnF_a (by omega) (by omega)] | rw [mnF_b (by omega)]
            · first | (rw [FQR_y (by simpa using h40) (by omega)] <;> rfl) | (rw [FQR_t h40, Nat.add_zero]) | rw [FQR_n (by omega)]
          · refine z_iload dX6_odd_64 rfl ?_
            refine z_iload_n dX6_odd_66 rfl ?_
            refine z_icmp_geNN (tgt := 75) dX6_odd_67 (by decide) (by omega) (by omega) (fun h67 => ?_) (fun h67 => ?_)
            · refine z_iload_n dX6_odd_75 rfl ?_
              refine z_ist3 dX6_odd_76 (by repeat first | rfl | assumption | refine zCat_s ?_ | refine zCat_a ?_ ?_) ?_
              refine z_iincN5 (n := 1) dX6_odd_77 (by repeat first | rfl | assumption | refine zCat_s ?_ | refine zCat_a ?_ ?_) ?_
              refine z_goto (tgt := 10) dX6_odd_80 (by decide) ?_
              refine z_rlO ?_ ?_ ?_ (ih (p + 1) _ (by omega) (by omega) rfl)
              · first | (rw [FQR_y (by simpa using h40) (by omega)] <;> rfl) | (rw [FQR_t h40, FQ_clo hlen (lkb_adj ps D) h16 h40]) | rw [FQR_n (by omega)]
              · first | rw [mnF_a (by omega) (by omega)] | rw [mnF_b (by omega)]
              · first | (rw [FQR_y (by simpa using h40) (by omega)] <;> rfl) | (rw [FQR_t h40, Nat.add_zero]) | rw [FQR_n (by omega)]
            · refine z_iload dX6_odd_70 rfl ?_
              refine z_goto (tgt := 76) dX6_odd_72 (by decide) ?_
              refine z_ist3 dX6_odd_76 (by repeat first | rfl | assumption | refine zCat_s ?_ | refine zCat_a ?_ ?_) ?_
              refine z_iincN5 (n := 1) dX6_odd_77 (by repeat first | rfl | assumption | refine zCat_s ?_ | refine zCat_a ?_ ?_) ?_
              refine z_goto (tgt := 10) dX6_odd_80 (by decide) ?_
              refine z_rlO ?_ ?_ ?_ (ih (p + 1) _ (by omega) (by omega) rfl)
              · first | (rw [FQR_y (by simpa using h40) (by omega)] <;> rfl) | (rw [FQR_t h40, FQ_clo hlen (lkb_adj ps D) h16 h40]) | rw [FQR_n (by omega)]
              · first | rw [mnF_a (by omega) (by omega)] | rw [mnF_b (by omega)]
              · first | (rw [FQR_y (by simpa using h40) (by omega)] <;> rfl) | (rw [FQR_t h40, Nat.add_zero]) | rw [FQR_n (by omega)]
set_option maxRecDepth 100000 in
set_option maxHeartbeats 4000000 in
theorem m_odd {S : zS} {R : zMR} (I : zMI) (L : zML) {ps : List Pc} {D : Nat} (hM : zMO S R) (ho : psOk ps) (hP : zPM I ps D) (x : Int32) : zM0 yX6_odd cX6_odd 7 (some .int) 3 [.ref 96, .int x] S I L R (zPure I L (zif (x = 0) (nI (FQ (lkb ps D) ps.length (fun p => rg (clb ps D) ps.length 28 p ≠ 0) ps.length).2) (nI (mnF (rg (clb ps D) ps.length 28) ps.length)))) := by
  refine zM0_of (own := RX6) (lv := [some (.ref 96), some (.int x), none, none, none, none, none]) rfl (by decide) rfl rfl ?_
  refine z_iconst (nI 0) dX6_odd_0 (by decide) ?_
  refine z_ist2 dX6_odd_1 rfl ?_
  refine z_iconst (nI 0) dX6_odd_2 (by decide) ?_
  refine z_ist3 dX6_odd_3 rfl ?_
  refine z_iconst (nI 0) dX6_odd_4 (by decide) ?_
  refine z_ist4 dX6_odd_5 rfl ?_
  refine z_iconst (nI 0) dX6_odd_7 (by decide) ?_
  refine z_ist5 dX6_odd_8 rfl ?_
  exact m_odd_l I L hM ho hP x (ps.length + 1) 0 none (by omega) (by omega) rfl
