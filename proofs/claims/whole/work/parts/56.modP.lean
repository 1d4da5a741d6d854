/-! ===== no place is of two pieces ===== -/
def inP (c : Pc) (x y : Int) : Prop := (qx c : Int) ≤ x ∧ x ≤ qx2 c ∧ (qy c : Int) ≤ y ∧ y ≤ qy2 c
theorem pcO_in {k : Nat} {s : Sh} (h : shOk s) : ∀ d ∈ pcO k s, sx s ≤ qx d ∧ qx2 d ≤ sx2 s ∧ qy d = sy s ∧ qy2 d = sy2 s := by
  intro d hd
  unfold pcO at hd
  obtain ⟨-, -, -, -, h5⟩ := h
  rcases h5 with e | ⟨a, e, h1, h2⟩ | ⟨a, b, e, h1, h2, h3⟩
  · rw [e] at hd
    simp only [pcF, List.mem_singleton] at hd
    subst hd
    exact ⟨Nat.le_refl _, Nat.le_refl _, rfl, rfl⟩
  · rw [e] at hd
    simp only [pcF, List.mem_cons, List.not_mem_nil, or_false] at hd
    rcases hd with rfl | rfl
    · exact ⟨Nat.le_refl _, show a ≤ sx2 s from by omega, rfl, rfl⟩
    · exact ⟨show sx s ≤ a + 1 from by omega, Nat.le_refl _, rfl, rfl⟩
  · rw [e] at hd
    simp only [pcF, List.mem_cons, List.not_mem_nil, or_false] at hd
    rcases hd with rfl | rfl | rfl
    · exact ⟨Nat.le_refl _, show a ≤ sx2 s from by omega, rfl, rfl⟩
    · exact ⟨show sx s ≤ a + 1 from by omega, show b ≤ sx2 s from by omega, rfl, rfl⟩
    · exact ⟨show sx s ≤ b + 1 from by omega, Nat.le_refl _, rfl, rfl⟩
theorem pcO_pw {k : Nat} {s : Sh} (h : shOk s) (x y : Int) : (pcO k s).Pairwise (fun c d => ¬ (inP c x y ∧ inP d x y)) := by
  unfold pcO
  obtain ⟨-, -, -, -, h5⟩ := h
  rcases h5 with e | ⟨a, e, h1, h2⟩ | ⟨a, b, e, h1, h2, h3⟩
  · rw [e, pcF]; exact List.pairwise_singleton _ _
  · rw [e, pcF, pcF]
    refine List.Pairwise.cons (fun d hd => ?_) (List.pairwise_singleton _ _)
    rw [List.mem_singleton] at hd
    subst hd
    unfold inP
    simp only [qx, qx2, qy, qy2]
    omega
  · rw [e, pcF, pcF, pcF]
    refine List.Pairwise.cons (fun d hd => ?_) (List.Pairwise.cons (fun d hd => ?_) (List.pairwise_singleton _ _))
    · simp only [List.mem_cons, List.not_mem_nil, or_false] at hd
      unfold inP
      rcases hd with rfl | rfl <;> simp only [qx, qx2, qy, qy2] <;> omega
    · rw [List.mem_singleton] at hd
      subst hd
      unfold inP
      simp only [qx, qx2, qy, qy2]
      omega
theorem pcsF_in : ∀ (l : List Sh) (k : Nat), (∀ s ∈ l, shOk s) → ∀ d ∈ pcsF k l, ∃ s, s ∈ l ∧ sx s ≤ qx d ∧ qx2 d ≤ sx2 s ∧ qy d = sy s ∧ qy2 d = sy2 s
  | [], k, _, d, hd => by simp [pcsF] at hd
  | s :: t, k, h, d, hd => by
    rw [pcsF, List.mem_append] at hd
    rcases hd with hd | hd
    · exact ⟨s, List.mem_cons_self, pcO_in (h s List.mem_cons_self) d hd⟩
    · obtain ⟨r, r1, r2⟩ := pcsF_in t (k + 1) (fun q hq => h q (List.mem_cons_of_mem _ hq)) d hd
      exact ⟨r, List.mem_cons_of_mem _ r1, r2⟩
theorem pcsF_pw (x y : Int) : ∀ (l : List Sh) (k : Nat), (∀ s ∈ l, shOk s) → l.Pairwise (fun s t => ¬ ovl s t) → (pcsF k l).Pairwise (fun c d => ¬ (inP c x y ∧ inP d x y))
  | [], k, _, _ => List.Pairwise.nil
  | s :: t, k, h, hp => by
    rw [pcsF, List.pairwise_append]
    rw [List.pairwise_cons] at hp
    refine ⟨pcO_pw (h s List.mem_cons_self) x y, pcsF_pw x y t (k + 1) (fun q hq => h q (List.mem_cons_of_mem _ hq)) hp.2, fun c hc d hd => ?_⟩
    have h1 := pcO_in (h s List.mem_cons_self) c hc
    obtain ⟨r, r1, r2⟩ := pcsF_in t (k + 1) (fun q hq => h q (List.mem_cons_of_mem _ hq)) d hd
    have h3 := hp.1 r r1
    unfold ovl at h3
    unfold inP
    omega
theorem pcs_pw {v : Ly} (ho : lyOk v) (x y : Int) {p q : Nat} (hpq : p < q) (hq : q < (pcs v.1).length) : ¬ (inP (pg (pcs v.1) p) x y ∧ inP (pg (pcs v.1) q) x y) := by
  have h := pcsF_pw x y v.1 0 ho.2.1 (List.pairwise_iff_getElem.mpr (fun i j hi hj hij => ho.2.2.2.1 i j _ _ (List.getElem?_eq_getElem hi) (List.getElem?_eq_getElem hj) (by omega)))
  have h2 := List.pairwise_iff_getElem.mp h p q (by show p < (pcs v.1).length; omega) hq hpq
  have e1 := getP (ps := pcs v.1) (p := p) (by omega)
  have e2 := getP (ps := pcs v.1) (p := q) hq
  rw [List.getElem?_eq_getElem (by omega)] at e1
  rw [List.getElem?_eq_getElem hq] at e2
  rw [← Option.some.inj e1, ← Option.some.inj e2]
  exact h2
theorem ptF_skip {x y : Int} {ps : List Pc} : ∀ i, i ≤ ps.length → (∀ j, j < i → ¬ inP (pg ps j) x y) → ptF x y ps 0 = ptF x y (ps.drop i) i := by
  intro i
  induction i with
  | zero => intro _ _; rw [List.drop_zero]
  | succ i ih =>
    intro h1 h2
    rw [ih (by omega) (fun j hj => h2 j (by omega)), ptF_at (by omega)]
    exact zif_f (h2 i (by omega))
noncomputable def lsF (x y : Int) (ps : List Pc) : Nat → Int32
  | 0 => -1
  | k + 1 => zif (inP (pg ps k) x y) (nI k) (lsF x y ps k)
theorem lsF_pt {v : Ly} (ho : lyOk v) (x y : Int) : lsF x y (pcs v.1) (pcs v.1).length = ptF x y (pcs v.1) 0 := by
  by_cases e : ∃ i, i < (pcs v.1).length ∧ inP (pg (pcs v.1) i) x y
  · obtain ⟨i, h1, h2⟩ := e
    rw [ptF_skip i (by omega) (fun j hj q => pcs_pw ho x y hj h1 ⟨q, h2⟩), ptF_at h1]
    refine Eq.trans ?_ (zif_t h2).symm
    have key : ∀ k, i < k → k ≤ (pcs v.1).length → lsF x y (pcs v.1) k = nI i := by
      intro k
      induction k with
      | zero => intro h; omega
      | succ k ih =>
        intro h3 h4
        rw [lsF]
        by_cases c : k = i
        · subst c; rw [zif_t h2]
        · rw [zif_f (fun q => pcs_pw ho x y (show i < k from by omega) (by omega) ⟨h2, q⟩)]
          exact ih (by omega) (by omega)
    exact key _ h1 (Nat.le_refl _)
  · have hn : ∀ j, j < (pcs v.1).length → ¬ inP (pg (pcs v.1) j) x y := fun j hj q => e ⟨j, hj, q⟩
    rw [ptF_skip _ (Nat.le_refl _) hn, ptF_end (Nat.le_refl _)]
    have key : ∀ k, k ≤ (pcs v.1).length → lsF x y (pcs v.1) k = -1 := by
      intro k
      induction k with
      | zero => intro _; rfl
      | succ k ih =>
        intro h
        rw [lsF, zif_f (hn k (by omega))]
        exact ih (by omega)
    exact key _ (Nat.le_refl _)
theorem z_rlA {g : zG} {Post : zPost} {u : Nat × Nat} {S : zS} {I : zMI} {L : zML} {R : zMR} {pc : Nat} {a0 a1 a2 a4 a5 : Option Value} {x y : Int32} (h : y = x) (k : zV g Post u S I L R pc [a0, a1, a2, some (.int y), a4, a5] []) : zV g Post u S I L R pc [a0, a1, a2, some (.int x), a4, a5] [] := by rw [← h]; exact k
set_option maxRecDepth 100000 in
set_option maxHeartbeats 4000000 in
theorem m_at_l {S : zS} {R : zMR} (I : zMI) (L : zML) {s : St} (hM : zMO S R) (hI : zDM I s) {J : zMI} (hJ : zPM J (pcs s.1.1) (lD s.1) ∧ mLF I J) (a c : Int32) (hxy : (0 ≤ a.toInt ∧ a.toInt ≤ 15) ∧ 0 ≤ c.toInt ∧ c.toInt ≤ 15) : ∀ (n : Nat) (p : Nat) (a5 : Option Value), (pcs s.1.1).length + 1 ≤ p + n → p ≤ (pcs s.1.1).length → zCat [a5] = true → zV (zMt RX6 cX6_at 6 (some .int) 3) (fun S2 I2 L2 R2 rr => S2 = S ∧ R2 = R ∧ (zPi L (fun I2 r => r = aAt s a.toInt c.toInt ∧ zDM I2 s ∧ ∀ p, p < 96 → I2 p = I p)) I2 L2 rr) (0, 0) S J L R 36 [some (.ref 96), some (.int a), some (.int c), some (.int (lsF a.toInt c.toInt (pcs s.1.1) p)), some (.int (nI p)), a5] [] := by
  intro n
  induction n with
  | zero => intro p a5 h1 h2 h5; omega
  | succ n ih =>
    intro p a5 h1 h2 h5
    obtain ⟨hv, ho, hr⟩ := id hI
    have hl := ho.1
    have hnp := ho.2.2.1
    have h8 := hr.2.1
    have hps := pcs_ok ho
    have hlen := hps.1
    have hIJ := hI.frame hJ.2.mf
    have hvJ := hIJ.1
    refine z_iload dX6_at_36 rfl ?_
    refine z_aload_n dX6_at_38 rfl ?_
    refine z_geti dX6_at_39 fX6_49 hM.o ?_
    refine z_top (hJ.1.1.1) ?_
    refine z_icmp_geNN (tgt := 128) dX6_at_42 (by decide) (by omega) (by omega) (fun h42 => ?_) (fun h42 => ?_)
    · refine z_iload_n dX6_at_128 rfl ?_
      have e9 : p = (pcs s.1.1).length := by omega
      subst e9
      exact z_iret dX6_at_129 ⟨Nat.le_refl _, Nat.le_refl _⟩ rfl ⟨rfl, rfl, rfl, _, ⟨by rw [lsF_pt ho, aAt, zif_t hxy], hIJ, fun p hp => hJ.2.1 p (by omega) (by omega)⟩, rfl⟩
    · have hc := hJ.1.1.2 p _ (getP h42)
      have hpk := hps.at h42
      unfold pcOk at hpk
      obtain ⟨sh, hs1, hs2, hs3⟩ := pcs_sh h42
      refine z_iload_n dX6_at_45 rfl ?_
      refine z_i2l dX6_at_46 ?_
      refine z_aload_n dX6_at_47 rfl ?_
      refine z_getr dX6_at_48 fX6_26 hM.o hM.r7 ?_
      refine z_iload dX6_at_51 rfl ?_
      refine z_iaN dX6_at_53 hM.a7 (by omega) (by decide) ?_
      refine z_top (hc.2.1) ?_
      refine z_i2l dX6_at_54 ?_
      refine z_aload_n dX6_at_55 rfl ?_
      refine z_getr dX6_at_56 fX6_29 hM.o hM.r8 ?_
      refine z_iload dX6_at_59 rfl ?_
      refine z_iaN dX6_at_61 hM.a8 (by omega) (by decide) ?_
      refine z_top (hc.2.2) ?_
      refine z_i2l dX6_at_62 ?_
      refine z_callS3p dX6_at_63 mX6_41 (m_in J L (l_i a) (l_n (by omega)) (l_n (by omega))) (by decide) (Nat.le_of_ble_eq_true rfl) ⟨Nat.le_refl _, Nat.le_refl _⟩ ?_
      refine z_if_eqB (tgt := 107) dX6_at_66 (by decide) (fun h66 => ?_) (fun h66 => ?_)
      · refine z_iconst (nI 0) dX6_at_107 (by decide) ?_
        refine z_ist5 dX6_at_108 (by repeat first | rfl | assumption | refine zCat_s ?_ | refine zCat_a ?_ ?_) ?_
        refine z_iload dX6_at_110 rfl ?_
        refine z_if_eqN (tgt := 120) dX6_at_112 (by decide) (by omega) (fun _ => ?_) (fun h112 => absurd h112 (by decide))
        refine z_iload_n dX6_at_120 rfl ?_
        refine z_ist3 dX6_at_121 (by repeat first | rfl | assumption | refine zCat_s ?_ | refine zCat_a ?_ ?_) ?_
        refine z_iincN4 (n := 1) dX6_at_122 (by repeat first | rfl | assumption | refine zCat_s ?_ | refine zCat_a ?_ ?_) ?_
        refine z_goto (tgt := 36) dX6_at_125 (by decide) ?_
        refine z_rlA ?_ (ih (p + 1) _ (by omega) (by omega) rfl)
        first
        | exact zif_t (show inP (pg (pcs s.1.1) p) a.toInt c.toInt from ⟨h66.1, h66.2, h100.1, h100.2⟩)
        | exact zif_f (fun q : inP (pg (pcs s.1.1) p) a.toInt c.toInt => h66 ⟨q.1, q.2.1⟩)
        | exact zif_f (fun q : inP (pg (pcs s.1.1) p) a.toInt c.toInt => h100 ⟨q.2.2.1, q.2.2.2⟩)
      · refine z_iload_n dX6_at_69 rfl ?_
        refine z_i2l dX6_at_70 ?_
        refine z_aload_n dX6_at_71 rfl ?_
        refine z_aload_n dX6_at_72 rfl ?_
        refine z_getr dX6_at_73 fX6_23 hM.o hM.r6 ?_
        refine z_iload dX6_at_76 rfl ?_
        refine z_iaN dX6_at_78 hM.a6 (by omega) (by decide) ?_
        refine z_top (hc.1) ?_
        refine z_iconst (nI 1) dX6_at_79 (by decide) ?_
        refine z_callV2p dX6_at_80 mX6_45 hM.o (m_part J L hM (qs (pg (pcs s.1.1) p)) 1 (by omega) (by omega)) (by decide) (Nat.le_of_ble_eq_true rfl) ⟨Nat.le_refl _, Nat.le_refl _⟩ ?_
        refine z_top ((show _ = nI (qy (pg (pcs s.1.1) p)) from (mSh0 (hvJ.2.1 _ sh hs1)).2.1.trans (by rw [hs2]))) ?_
        refine z_i2l dX6_at_83 ?_
        refine z_aload_n dX6_at_84 rfl ?_
        refine z_aload_n dX6_at_85 rfl ?_
        refine z_getr dX6_at_86 fX6_23 hM.o hM.r6 ?_
        refine z_iload dX6_at_89 rfl ?_
        refine z_iaN dX6_at_91 hM.a6 (by omega) (by decide) ?_
        refine z_top (hc.1) ?_
        refine z_iconst (nI 3) dX6_at_92 (by decide) ?_
        refine z_callV2p dX6_at_93 mX6_45 hM.o (m_part J L hM (qs (pg (pcs s.1.1) p)) 3 (by omega) (by omega)) (by decide) (Nat.le_of_ble_eq_true rfl) ⟨Nat.le_refl _, Nat.le_refl _⟩ ?_
        refine z_top ((show _ = nI (qy2 (pg (pcs s.1.1) p)) from (mSh0 (hvJ.2.1 _ sh hs1)).2.2.2.1.trans (by rw [hs3]))) ?_
        refine z_i2l dX6_at_96 ?_
        refine z_callS3p dX6_at_97 mX6_41 (m_in J L (l_i c) (l := (qy (pg (pcs s.1.1) p) : Int)) (l_n (by omega)) (h := (qy2 (pg (pcs s.1.1) p) : Int)) (l_n (by omega))) (by decide) (Nat.le_of_ble_eq_true rfl) ⟨Nat.le_refl _, Nat.le_refl _⟩ ?_
        refine z_if_eqB (tgt := 107) dX6_at_100 (by decide) (fun h100 => ?_) (fun h100 => ?_)
        · refine z_iconst (nI 0) dX6_at_107 (by decide) ?_
          refine z_ist5 dX6_at_108 (by repeat first | rfl | assumption | refine zCat_s ?_ | refine zCat_a ?_ ?_) ?_
          refine z_iload dX6_at_110 rfl ?_
          refine z_if_eqN (tgt := 120) dX6_at_112 (by decide) (by omega) (fun _ => ?_) (fun h112 => absurd h112 (by decide))
          refine z_iload_n dX6_at_120 rfl ?_
          refine z_ist3 dX6_at_121 (by repeat first | rfl | assumption | refine zCat_s ?_ | refine zCat_a ?_ ?_) ?_
          refine z_iincN4 (n := 1) dX6_at_122 (by repeat first | rfl | assumption | refine zCat_s ?_ | refine zCat_a ?_ ?_) ?_
          refine z_goto (tgt := 36) dX6_at_125 (by decide) ?_
          refine z_rlA ?_ (ih (p + 1) _ (by omega) (by omega) rfl)
          first
          | exact zif_t (show inP (pg (pcs s.1.1) p) a.toInt c.toInt from ⟨h66.1, h66.2, h100.1, h100.2⟩)
          | exact zif_f (fun q : inP (pg (pcs s.1.1) p) a.toInt c.toInt => h66 ⟨q.1, q.2.1⟩)
          | exact zif_f (fun q : inP (pg (pcs s.1.1) p) a.toInt c.toInt => h100 ⟨q.2.2.1, q.2.2.2⟩)
        · refine z_iconst (nI 1) dX6_at_103 (by decide) ?_
          refine z_goto (tgt := 108) dX6_at_104 (by decide) ?_
          refine z_ist5 dX6_at_108 (by repeat first | rfl | assumption | refine zCat_s ?_ | refine zCat_a ?_ ?_) ?_
          refine z_iload dX6_at_110 rfl ?_
          refine z_if_eqN (tgt := 120) dX6_at_112 (by decide) (by omega) (fun h112 => absurd h112 (by decide)) (fun _ => ?_)
          refine z_iload dX6_at_115 rfl ?_
          refine z_goto (tgt := 121) dX6_at_117 (by decide) ?_
          refine z_ist3 dX6_at_121 (by repeat first | rfl | assumption | refine zCat_s ?_ | refine zCat_a ?_ ?_) ?_
          refine z_iincN4 (n := 1) dX6_at_122 (by repeat first | rfl | assumption | refine zCat_s ?_ | refine zCat_a ?_ ?_) ?_
          refine z_goto (tgt := 36) dX6_at_125 (by decide) ?_
          refine z_rlA ?_ (ih (p + 1) _ (by omega) (by omega) rfl)
          first
          | exact zif_t (show inP (pg (pcs s.1.1) p) a.toInt c.toInt from ⟨h66.1, h66.2, h100.1, h100.2⟩)
          | exact zif_f (fun q : inP (pg (pcs s.1.1) p) a.toInt c.toInt => h66 ⟨q.1, q.2.1⟩)
          | exact zif_f (fun q : inP (pg (pcs s.1.1) p) a.toInt c.toInt => h100 ⟨q.2.2.1, q.2.2.2⟩)
set_option maxRecDepth 100000 in
set_option maxHeartbeats 4000000 in
theorem m_at {S : zS} {R : zMR} (I : zMI) (L : zML) {s : St} (hM : zMO S R) (hI : zDM I s) (a c : Int32) : zM0 yX6_at cX6_at 6 (some .int) 3 [.ref 96, .int a, .int c] S I L R (zPi L (fun I2 r => r = aAt s a.toInt c.toInt ∧ zDM I2 s ∧ ∀ p, p < 96 → I2 p = I p)) := by
  refine zM0_of (own := RX6) (lv := [some (.ref 96), some (.int a), some (.int c), none, none, none]) rfl (by decide) rfl rfl ?_
  obtain ⟨hv, ho, hr⟩ := id hI
  have hl := ho.1
  have hnp := ho.2.2.1
  have h8 := hr.2.1
  refine z_iload_n dX6_at_0 rfl ?_
  refine z_i2l dX6_at_1 ?_
  refine z_lconst 0 dX6_at_2 (by decide) ?_
  refine z_ldc2 dX6_at_3 kX6_119 ?_
  refine z_callS3p dX6_at_6 mX6_41 (m_in I L (l_i a) (l := 0) (by decide) (h := 15) (by decide)) (by decide) (Nat.le_of_ble_eq_true rfl) ⟨Nat.le_refl _, Nat.le_refl _⟩ ?_
  refine z_if_eqB (tgt := 24) dX6_at_9 (by decide) (fun h9 => ?_) (fun h9 => ?_)
  · refine z_ldc dX6_at_24 kX6_132 ?_
    exact z_iret dX6_at_26 ⟨Nat.le_refl _, Nat.le_refl _⟩ rfl ⟨rfl, rfl, rfl, _, ⟨by rw [aAt, zif_f (by omega)], hI, fun p _ => rfl⟩, rfl⟩
  · refine z_iload_n dX6_at_12 rfl ?_
    refine z_i2l dX6_at_13 ?_
    refine z_lconst 0 dX6_at_14 (by decide) ?_
    refine z_ldc2 dX6_at_15 kX6_119 ?_
    refine z_callS3p dX6_at_18 mX6_41 (m_in I L (l_i c) (l := 0) (by decide) (h := 15) (by decide)) (by decide) (Nat.le_of_ble_eq_true rfl) ⟨Nat.le_refl _, Nat.le_refl _⟩ ?_
    refine z_if_neB (tgt := 27) dX6_at_21 (by decide) (fun h21 => ?_) (fun h21 => ?_)
    · refine z_aload_n dX6_at_27 rfl ?_
      refine z_callV0v dX6_at_28 mX6_88 hM.o (m_lay I L hM hv ho) (by decide) (Nat.le_of_ble_eq_true rfl) ⟨Nat.le_refl _, Nat.le_refl _⟩ (fun J hJ => ?_)
      refine z_iconst (-1) dX6_at_31 (by decide) ?_
      refine z_ist3 dX6_at_32 rfl ?_
      refine z_iconst (nI 0) dX6_at_33 (by decide) ?_
      refine z_ist4 dX6_at_34 rfl ?_
      exact m_at_l I L hM hI hJ a c ⟨h9, h21⟩ ((pcs s.1.1).length + 1) 0 none (by omega) (by omega) rfl
    · refine z_ldc dX6_at_24 kX6_132 ?_
      exact z_iret dX6_at_26 ⟨Nat.le_refl _, Nat.le_refl _⟩ rfl ⟨rfl, rfl, rfl, _, ⟨by rw [aAt, zif_f (by omega)], hI, fun p _ => rfl⟩, rfl⟩
/-! ===== the least of some masks ===== -/
def Lm (P : Nat → Prop) (cs : Nat → Nat) (r : Int32) : Prop := (r = -1 ∧ ∀ x, ¬ P x) ∨ ∃ x, P x ∧ r = nI (cs x) ∧ ∀ y, P y → cs x ≤ cs y
theorem Lm_congr {P Q : Nat → Prop} {cs : Nat → Nat} {r : Int32} (h : Lm P cs r) (e : ∀ x, P x ↔ Q x) : Lm Q cs r := by
  rcases h with ⟨h1, h2⟩ | ⟨x, h1, h2, h3⟩
  · exact Or.inl ⟨h1, fun x q => h2 x ((e x).mpr q)⟩
  · exact Or.inr ⟨x, (e x).mp h1, h2, fun y q => h3 y ((e y).mpr q)⟩
theorem Lm_uniq {P : Nat → Prop} {cs : Nat → Nat} {r t : Int32} (h : Lm P cs r) (h2 : Lm P cs t) : r = t := by
  rcases h with ⟨a1, a2⟩ | ⟨x, a1, a2, a3⟩
  · rcases h2 with ⟨b1, b2⟩ | ⟨y, b1, b2, b3⟩
    · rw [a1, b1]
    · exact absurd b1 (a2 y)
  · rcases h2 with ⟨b1, b2⟩ | ⟨y, b1, b2, b3⟩
    · exact absurd a1 (b2 x)
    · have := a3 y b1
      have := b3 x a1
      rw [a2, b2, show cs x = cs y from by omega]
theorem nI_nn {k : Nat} (h : k < 1000000) : ¬ nI k = -1 := by
  intro e
  have h1 : (nI k).toInt = (k : Int) := nI_T (by omega)
  rw [e] at h1
  have h2 : (-1 : Int32).toInt = -1 := by decide
  omega
theorem Lm_lst {P Q : Nat → Prop} {cs : Nat → Nat} {r t : Int32} (hc : ∀ x, cs x < 1000000) (h1 : Lm P cs r) (h2 : Lm Q cs t) : Lm (fun x => P x ∨ Q x) cs (lst r t) := by
  unfold lst
  rcases h2 with ⟨b1, b2⟩ | ⟨y, b1, b2, b3⟩
  · rw [zif_t b1]
    exact Lm_congr h1 (fun x => ⟨Or.inl, fun q => q.elim id (fun z => absurd z (b2 x))⟩)
  · rw [zif_f (by rw [b2]; exact nI_nn (hc y))]
    have ty : t.toInt = (cs y : Int) := by rw [b2]; exact nI_T (by have := hc y; omega)
    rcases h1 with ⟨a1, a2⟩ | ⟨x, a1, a2, a3⟩
    · rw [zif_t (Or.inl a1)]
      exact Or.inr ⟨y, Or.inr b1, b2, fun z q => q.elim (fun w => absurd w (a2 z)) (b3 z)⟩
    · have tx : r.toInt = (cs x : Int) := by rw [a2]; exact nI_T (by have := hc x; omega)
      by_cases c : cs y < cs x
      · rw [zif_t (Or.inr (by omega))]
        exact Or.inr ⟨y, Or.inr b1, b2, fun z q => q.elim (fun w => by have := a3 z w; omega) (b3 z)⟩
      · rw [zif_f (fun q => q.elim (fun w => nI_nn (hc x) (by rw [← a2]; exact w)) (fun w => by omega))]
        exact Or.inr ⟨x, Or.inl a1, a2, fun z q => q.elim (a3 z) (fun w => by have := b3 z w; omega)⟩
theorem Lm_no {P : Nat → Prop} {cs : Nat → Nat} {r : Int32} {m : Nat} (h : Lm (fun x => x < m ∧ P x) cs r) (hm : ¬ P m) : Lm (fun x => x < m + 1 ∧ P x) cs r := by
  refine Lm_congr h (fun x => ⟨fun q => ⟨by have := q.1; omega, q.2⟩, fun q => ⟨?_, q.2⟩⟩)
  have h1 := q.1
  have : x ≠ m := fun e => hm (e ▸ q.2)
  omega
theorem Lm_yes {P : Nat → Prop} {cs : Nat → Nat} {r : Int32} {m : Nat} (hc : ∀ x, cs x < 1000000) (h : Lm (fun x => x < m ∧ P x) cs r) (hm : P m) (hl : r.toInt < 0 ∨ (cs m : Int) < r.toInt) : Lm (fun x => x < m + 1 ∧ P x) cs (nI (cs m)) := by
  refine Or.inr ⟨m, ⟨by omega, hm⟩, rfl, fun y q => ?_⟩
  by_cases e : y = m
  · subst e; exact Nat.le_refl _
  · have hy : y < m ∧ P y := ⟨by have := q.1; omega, q.2⟩
    rcases h with ⟨a1, a2⟩ | ⟨x, a1, a2, a3⟩
    · exact absurd hy (a2 y)
    · have tx : r.toInt = (cs x : Int) := by rw [a2]; exact nI_T (by have := hc x; omega)
      have := a3 y hy
      omega
theorem Lm_keep {P : Nat → Prop} {cs : Nat → Nat} {r : Int32} {m : Nat} (hc : ∀ x, cs x < 1000000) (h : Lm (fun x => x < m ∧ P x) cs r) (h0 : 0 ≤ r.toInt) (hl : r.toInt ≤ (cs m : Int)) : Lm (fun x => x < m + 1 ∧ P x) cs r := by
  rcases h with ⟨a1, a2⟩ | ⟨x, a1, a2, a3⟩
  · rw [a1] at h0
    exact absurd h0 (by decide)
  · have tx : r.toInt = (cs x : Int) := by rw [a2]; exact nI_T (by have := hc x; omega)
    refine Or.inr ⟨x, ⟨by have := a1.1; omega, a1.2⟩, a2, fun y q => ?_⟩
    by_cases e : y = m
    · subst e; omega
    · exact a3 y ⟨by have := q.1; omega, q.2⟩
theorem Lm_rng {P : Nat → Prop} {cs : Nat → Nat} {r : Int32} (hc : ∀ x, cs x < 1000000) (h : Lm P cs r) : -1 ≤ r.toInt ∧ r.toInt < 1000000 := by
  rcases h with ⟨a1, a2⟩ | ⟨x, a1, a2, a3⟩
  · rw [a1]; decide
  · have tx : r.toInt = (cs x : Int) := by rw [a2]; exact nI_T (by have := hc x; omega)
    have := hc x
    omega
abbrev cst (v : Ly) : Nat → Nat := cost (pcs v.1) (lD v) (lST v) (lCL v)
theorem cst_lt {v : Ly} (ho : lyOk v) (m : Nat) : cst v m < 1000000 := cost_lt (pcs_ok ho).1 ho.2.2.2.2.2.2.1 ho.2.2.2.2.2.2.2.1
theorem fxs_at {f : Nat → Nat} {p k : Nat} : fxs f p k p = k := by simp [fxs]
theorem fxs_ne {f : Nat → Nat} {p k i : Nat} (h : i ≠ p) : fxs f p k i = f i := by simp [fxs, h]
theorem cW_Lm {v : Ly} (ho : lyOk v) {p a q b : Nat} (hp : p < (pcs v.1).length) (hq : q < (pcs v.1).length) (hpq : p ≠ q) (ha : a ≤ 1) (hb : b ≤ 1) : Lm (fun m => m < 2 ^ (pcs v.1).length ∧ fxI (lfx v) m (pcs v.1).length ∧ (m.testBit p).toNat = a ∧ (m.testBit q).toNat = b) (cst v) (cW v p a q b) := by
  unfold cW
  have hpl := pcs_len v.1
  by_cases c : (lfx v p = 0 ∨ lfx v p = a + 1) ∧ (lfx v q = 0 ∨ lfx v q = b + 1)
  · rw [zif_t c]
    have hok : lyOk (lyF v (fxs (fxs (lfx v) p (a + 1)) q (b + 1))) := by
      have h1 := ho.fix (p := p) (k := a + 1) (by omega) (by omega)
      exact h1.fix (p := q) (k := b + 1) (by show q < np v.1; omega) (by omega)
    have key : ∀ m, okB (pcs v.1).length (fxs (fxs (lfx v) p (a + 1)) q (b + 1)) m = true ↔ (m < 2 ^ (pcs v.1).length ∧ fxI (lfx v) m (pcs v.1).length ∧ (m.testBit p).toNat = a ∧ (m.testBit q).toNat = b) := by
      intro m
      simp only [okB, decide_eq_true_eq]
      constructor
      · rintro ⟨h1, h2⟩
        have e1 := h2 p hp
        have e2 := h2 q hq
        rw [fxs_ne hpq, fxs_at] at e1
        rw [fxs_at] at e2
        refine ⟨h1, fun i hi => ?_, by omega, by omega⟩
        by_cases i1 : i = q
        · subst i1; omega
        · by_cases i2 : i = p
          · subst i2; omega
          · have := h2 i hi
            rw [fxs_ne i1, fxs_ne i2] at this
            exact this
      · rintro ⟨h1, h2, h3, h4⟩
        refine ⟨h1, fun i hi => ?_⟩
        by_cases i1 : i = q
        · subst i1; rw [fxs_at]; omega
        · by_cases i2 : i = p
          · subst i2; rw [fxs_ne i1, fxs_at]; omega
          · rw [fxs_ne i1, fxs_ne i2]; exact h2 i hi
    have hi := srU_inv hok 0
    have hex := ok_ex hok
    obtain ⟨b1, b2, b3, b4⟩ := hi
    rcases b4 with ⟨b4, -⟩ | ⟨b4, b5, -⟩
    · obtain ⟨m, hm⟩ := hex
      rw [b4 m] at hm
      cases hm
    · refine Or.inr ⟨_, (key _).mp b4, congrArg nI b5.symm, fun y hy => ?_⟩
      have := b2 y ((key y).mpr hy)
      exact Nat.le_trans (Nat.le_of_eq b5) this
  · rw [zif_f c]
    refine Or.inl ⟨rfl, fun m hm => c ?_⟩
    obtain ⟨h1, h2, h3, h4⟩ := hm
    have e1 := h2 p hp
    have e2 := h2 q hq
    omega
def pr1 (v : Ly) (p q m : Nat) : Prop := m.testBit p = m.testBit q ∧ fxI (lfx v) m (pcs v.1).length
def pr0 (v : Ly) (p q m : Nat) : Prop := ¬ m.testBit p = m.testBit q ∧ fxI (lfx v) m (pcs v.1).length
theorem Lm_F (cs : Nat → Nat) : Lm (fun _ => False) cs (-1) := Or.inl ⟨rfl, fun _ h => h⟩
theorem pair1_Lm {s : St} (ho : lyOk s.1) {p q : Nat} (hp : p < (pcs s.1.1).length) (hq : q < (pcs s.1.1).length) (hpq : p ≠ q) : Lm (fun m => m < 2 ^ (pcs s.1.1).length ∧ pr1 s.1 p q m) (cst s.1) (aPair s p q 1) := by
  have ht : two s.1 p q := ⟨⟨by omega, by omega⟩, ⟨by omega, by omega⟩, by omega⟩
  unfold aPair
  rw [zif_t ht]
  simp only [Int.toNat_natCast]
  have h0 := cW_Lm ho hp hq hpq (show 0 ≤ 1 from by decide) (show 0 ≤ 1 from by decide)
  have h1 := cW_Lm ho hp hq hpq (show 1 ≤ 1 from by decide) (show 1 ≤ 1 from by decide)
  refine Lm_congr (Lm_lst (cst_lt ho) (Lm_lst (cst_lt ho) (Lm_F _) h0) h1) (fun m => ?_)
  unfold pr1
  cases m.testBit p <;> cases m.testBit q <;> simp
theorem pair0_Lm {s : St} (ho : lyOk s.1) {p q : Nat} (hp : p < (pcs s.1.1).length) (hq : q < (pcs s.1.1).length) (hpq : p ≠ q) : Lm (fun m => m < 2 ^ (pcs s.1.1).length ∧ pr0 s.1 p q m) (cst s.1) (aPair s p q 0) := by
  have ht : two s.1 p q := ⟨⟨by omega, by omega⟩, ⟨by omega, by omega⟩, by omega⟩
  unfold aPair
  rw [zif_t ht]
  simp only [Int.toNat_natCast]
  have h0 := cW_Lm ho hp hq hpq (show 0 ≤ 1 from by decide) (show 1 ≤ 1 from by decide)
  have h1 := cW_Lm ho hp hq hpq (show 1 ≤ 1 from by decide) (show 0 ≤ 1 from by decide)
  refine Lm_congr (Lm_lst (cst_lt ho) (Lm_lst (cst_lt ho) (Lm_F _) h0) h1) (fun m => ?_)
  unfold pr0
  cases m.testBit p <;> cases m.testBit q <;> simp
theorem zb_bb {a b : Bool} : zb (a = true) = zb (b = true) ↔ a = b := by
  have t : zb (true = true) = 1 := zb_t rfl
  have f : zb (false = true) = 0 := zb_f (by decide)
  cases a <;> cases b
  · exact ⟨fun _ => rfl, fun _ => rfl⟩
  · rw [t, f]; decide
  · rw [t, f]; decide
  · exact ⟨fun _ => rfl, fun _ => rfl⟩
set_option maxRecDepth 100000 in
set_option maxHeartbeats 4000000 in
theorem m_pair0_l {S : zS} {R : zMR} (I : zMI) (L : zML) {s : St} (hM : zMO S R) (hI : zDM I s) {J : zMI} (hJ : zPM J (pcs s.1.1) (lD s.1)) (hJF : mLF I J) {p q : Nat} (hp : p < (pcs s.1.1).length) (hq : q < (pcs s.1.1).length) (hpq : p ≠ q) : ∀ (n : Nat) (m : Nat) (r : Int32) (a6 : Option Value), 2 ^ (pcs s.1.1).length + 1 ≤ m + n → m ≤ 2 ^ (pcs s.1.1).length → zCat [a6] = true → Lm (fun x => x < m ∧ pr0 s.1 p q x) (cst s.1) r → zV (zMt RX6 cX6_pair 7 (some .int) 4) (fun S2 I2 L2 R2 rr => S2 = S ∧ R2 = R ∧ (zPi L (fun I2 r => r = aPair s (nI p).toInt (nI q).toInt 0 ∧ zDM I2 s ∧ ∀ p, p < 96 → I2 p = I p)) I2 L2 rr) (0, 0) S J L R 18 [some (.ref 96), some (.int (nI p)), some (.int (nI q)), some (.int (nI 0)), some (.int r), some (.int (nI m)), a6] [] := by
  intro n
  induction n with
  | zero => intro m r a6 h1 h2 h6 hL; omega
  | succ n ih =>
    intro m r a6 h1 h2 h6 hL
    obtain ⟨hv, ho, hr⟩ := id hI
    have hl := ho.1
    have hnp := ho.2.2.1
    have h8 := hr.2.1
    have hps := pcs_ok ho
    have hlen := hps.1
    have hall := all_lt hps.1
    have hIJ := hI.frame hJF.mf
    have hvJ := hIJ.1
    have hcs := cst_lt ho
    have hcm : cost (pcs s.1.1) (lD s.1) (lST s.1) (lCL s.1) m < 1000000 := cst_lt ho m
    have h2p : 0 < 2 ^ (pcs s.1.1).length := Nat.two_pow_pos _
    have hrr := Lm_rng hcs hL
    have hpa : (nI p).toInt = (p : Int) := nI_T (by omega)
    have hqa : (nI q).toInt = (q : Int) := nI_T (by omega)
    refine z_iload dX6_pair_18 rfl ?_
    refine z_aload_n dX6_pair_20 rfl ?_
    refine z_callV0p dX6_pair_21 mX6_72 hM.o (m_all J L hM _ hps.1 hJ.1.1) (by decide) (Nat.le_of_ble_eq_true rfl) ⟨Nat.le_refl _, Nat.le_refl _⟩ ?_
    refine z_icmp_gtNN (tgt := 95) dX6_pair_24 (by decide) (by omega) (by omega) (fun h24 => ?_) (fun h24 => ?_)
    · refine z_iload dX6_pair_95 rfl ?_
      have e9 : m = 2 ^ (pcs s.1.1).length := by omega
      subst e9
      exact z_iret dX6_pair_97 ⟨Nat.le_refl _, Nat.le_refl _⟩ rfl ⟨rfl, rfl, rfl, _, ⟨Lm_uniq hL (hpa.symm ▸ hqa.symm ▸ pair0_Lm ho hp hq hpq), hIJ, fun p hp => hJF.1 p (by omega) (by omega)⟩, rfl⟩
    · refine z_iload dX6_pair_27 rfl ?_
      refine z_iload_n dX6_pair_29 rfl ?_
      refine z_callS2p dX6_pair_30 mX6_68 (m_has J L m p (by omega) (by omega)) (by decide) (Nat.le_of_ble_eq_true rfl) ⟨Nat.le_refl _, Nat.le_refl _⟩ ?_
      refine z_iload dX6_pair_33 rfl ?_
      refine z_iload_n dX6_pair_35 rfl ?_
      refine z_callS2p dX6_pair_36 mX6_68 (m_has J L m q (by omega) (by omega)) (by decide) (Nat.le_of_ble_eq_true rfl) ⟨Nat.le_refl _, Nat.le_refl _⟩ ?_
      refine z_icmp_ne (tgt := 46) dX6_pair_39 (by decide) (fun h39 => ?_) (fun h39 => ?_)
      · refine z_iconst (nI 0) dX6_pair_46 (by decide) ?_
        refine z_iload_n dX6_pair_47 rfl ?_
        refine z_icmp_ne (tgt := 89) dX6_pair_48 (by decide) (fun h48 => absurd rfl h48) (fun _ => ?_)
        refine z_aload_n dX6_pair_51 rfl ?_
        refine z_iload dX6_pair_52 rfl ?_
        refine z_callV1p dX6_pair_54 mX6_103 hM.o (m_areFixed J L hM hvJ ho hJ m (by omega)) (by decide) (Nat.le_of_ble_eq_true rfl) ⟨Nat.le_refl _, Nat.le_refl _⟩ ?_
        refine z_if_eqB (tgt := 89) dX6_pair_57 (by decide) (fun h57 => ?_) (fun h57 => ?_)
        · refine z_iincN5 (n := 1) dX6_pair_89 (by repeat first | rfl | assumption | refine zCat_s ?_ | refine zCat_a ?_ ?_) ?_
          refine z_goto (tgt := 18) dX6_pair_92 (by decide) ?_
          exact ih (m + 1) r a6 (by omega) (by omega) h6 (Lm_no hL (by first | exact fun z : pr0 s.1 p q m => h57 z.2 | exact fun z : pr0 s.1 p q m => z.1 (zb_bb.mp h39)))
        · refine z_aload_n dX6_pair_60 rfl ?_
          refine z_iload dX6_pair_61 rfl ?_
          refine z_callV1p dX6_pair_63 mX6_107 hM.o (m_costOf J L hM hvJ ho hJ m (by omega)) (by decide) (Nat.le_of_ble_eq_true rfl) ⟨Nat.le_refl _, Nat.le_refl _⟩ ?_
          refine z_ist6 dX6_pair_66 (by repeat first | rfl | assumption | refine zCat_s ?_ | refine zCat_a ?_ ?_) ?_
          refine z_iload dX6_pair_68 rfl ?_
          refine z_if_lt (tgt := 80) dX6_pair_70 (by decide) (fun h70 => ?_) (fun h70 => ?_)
          · refine z_iload dX6_pair_80 rfl ?_
            refine z_goto (tgt := 87) dX6_pair_82 (by decide) ?_
            refine z_ist4 dX6_pair_87 (by repeat first | rfl | assumption | refine zCat_s ?_ | refine zCat_a ?_ ?_) ?_
            refine z_iincN5 (n := 1) dX6_pair_89 (by repeat first | rfl | assumption | refine zCat_s ?_ | refine zCat_a ?_ ?_) ?_
            refine z_goto (tgt := 18) dX6_pair_92 (by decide) ?_
            exact ih (m + 1) _ _ (by omega) (by omega) rfl (Lm_yes hcs hL (show pr0 s.1 p q m from ⟨fun e => h39 (zb_bb.mpr e), h57⟩) (by first | exact Or.inl h70 | exact Or.inr h77))
          · refine z_iload dX6_pair_73 rfl ?_
            refine z_iload dX6_pair_75 rfl ?_
            refine z_icmp_geNI (tgt := 85) dX6_pair_77 (by decide) (by omega) (fun h77 => ?_) (fun h77 => ?_)
            · refine z_iload dX6_pair_85 rfl ?_
              refine z_ist4 dX6_pair_87 (by repeat first | rfl | assumption | refine zCat_s ?_ | refine zCat_a ?_ ?_) ?_
              refine z_iincN5 (n := 1) dX6_pair_89 (by repeat first | rfl | assumption | refine zCat_s ?_ | refine zCat_a ?_ ?_) ?_
              refine z_goto (tgt := 18) dX6_pair_92 (by decide) ?_
              exact ih (m + 1) _ _ (by omega) (by omega) rfl (Lm_keep hcs hL h70 h77)
            · refine z_iload dX6_pair_80 rfl ?_
              refine z_goto (tgt := 87) dX6_pair_82 (by decide) ?_
              refine z_ist4 dX6_pair_87 (by repeat first | rfl | assumption | refine zCat_s ?_ | refine zCat_a ?_ ?_) ?_
              refine z_iincN5 (n := 1) dX6_pair_89 (by repeat first | rfl | assumption | refine zCat_s ?_ | refine zCat_a ?_ ?_) ?_
              refine z_goto (tgt := 18) dX6_pair_92 (by decide) ?_
              exact ih (m + 1) _ _ (by omega) (by omega) rfl (Lm_yes hcs hL (show pr0 s.1 p q m from ⟨fun e => h39 (zb_bb.mpr e), h57⟩) (by first | exact Or.inl h70 | exact Or.inr h77))
      · refine z_iconst (nI 1) dX6_pair_42 (by decide) ?_
        refine z_goto (tgt := 47) dX6_pair_43 (by decide) ?_
        refine z_iload_n dX6_pair_47 rfl ?_
        refine z_icmp_ne (tgt := 89) dX6_pair_48 (by decide) (fun _ => ?_) (fun h48 => absurd h48 (by decide))
        refine z_iincN5 (n := 1) dX6_pair_89 (by repeat first | rfl | assumption | refine zCat_s ?_ | refine zCat_a ?_ ?_) ?_
        refine z_goto (tgt := 18) dX6_pair_92 (by decide) ?_
        exact ih (m + 1) r a6 (by omega) (by omega) h6 (Lm_no hL (by first | exact fun z : pr0 s.1 p q m => h57 z.2 | exact fun z : pr0 s.1 p q m => z.1 (zb_bb.mp h39)))
set_option maxRecDepth 100000 in
set_option maxHeartbeats 4000000 in
theorem m_pair0 {S : zS} {R : zMR} (I : zMI) (L : zML) {s : St} (hM : zMO S R) (hI : zDM I s) (a c : Int32) : zM0 yX6_pair cX6_pair 7 (some .int) 4 [.ref 96, .int a, .int c, .int (nI 0)] S I L R (zPi L (fun I2 r => r = aPair s a.toInt c.toInt 0 ∧ zDM I2 s ∧ ∀ p, p < 96 → I2 p = I p)) := by
  refine zM0_of (own := RX6) (lv := [some (.ref 96), some (.int a), some (.int c), some (.int (nI 0)), none, none, none]) rfl (by decide) rfl rfl ?_
  obtain ⟨hv, ho, hr⟩ := id hI
  have hl := ho.1
  have hnp := ho.2.2.1
  have h8 := hr.2.1
  refine z_aload_n dX6_pair_0 rfl ?_
  refine z_iload_n dX6_pair_1 rfl ?_
  refine z_iload_n dX6_pair_2 rfl ?_
  refine z_callV2i dX6_pair_3 mX6_258 hM.o (m_areTwo I L hM hv ho a c) (by decide) (Nat.le_of_ble_eq_true rfl) ⟨Nat.le_refl _, Nat.le_refl _⟩ (fun J v9 h9 => ?_)
  refine z_top h9.1 ?_
  have hIJ := hI.frame h9.2.2.mf
  have hvJ := hIJ.1
  refine z_if_neB (tgt := 12) dX6_pair_6 (by decide) (fun h6 => ?_) (fun h6 => ?_)
  · have hpl := pcs_len s.1.1
    obtain ⟨p, hp, rfl⟩ := nI_of3 (x := a) (n := (pcs s.1.1).length) h6.1.1 h6.1.2 (by omega)
    obtain ⟨q, hq, rfl⟩ := nI_of3 (x := c) (n := (pcs s.1.1).length) h6.2.1.1 h6.2.1.2 (by omega)
    have hpa : (nI p).toInt = (p : Int) := nI_T (by omega)
    have hqa : (nI q).toInt = (q : Int) := nI_T (by omega)
    refine z_iconst (-1) dX6_pair_12 (by decide) ?_
    refine z_ist4 dX6_pair_13 rfl ?_
    refine z_iconst (nI 0) dX6_pair_15 (by decide) ?_
    refine z_ist5 dX6_pair_16 rfl ?_
    exact m_pair0_l I L hM hI h9.2.1 h9.2.2 hp hq (fun e => h6.2.2 (by rw [e])) (2 ^ (pcs s.1.1).length + 1) 0 (-1) none (Nat.le_of_eq (Nat.zero_add _).symm) (Nat.zero_le _) rfl (Or.inl ⟨rfl, fun x h => absurd h.1 (by omega)⟩)
  · refine z_ldc dX6_pair_9 kX6_156 ?_
    exact z_iret dX6_pair_11 ⟨Nat.le_refl _, Nat.le_refl _⟩ rfl ⟨rfl, rfl, rfl, _, ⟨by rw [aPair, zif_f h6], hIJ, fun p hp => h9.2.2.1 p (by omega) (by omega)⟩, rfl⟩
set_option maxRecDepth 100000 in
set_option maxHeartbeats 4000000 in
theorem m_pair1_l {S : zS} {R : zMR} (I : zMI) (L : zML) {s : St} (hM : zMO S R) (hI : zDM I s) {J : zMI} (hJ : zPM J (pcs s.1.1) (lD s.1)) (hJF : mLF I J) {p q : Nat} (hp : p < (pcs s.1.1).length) (hq : q < (pcs s.1.1).length) (hpq : p ≠ q) : ∀ (n : Nat) (m : Nat) (r : Int32) (a6 : Option Value), 2 ^ (pcs s.1.1).length + 1 ≤ m + n → m ≤ 2 ^ (pcs s.1.1).length → zCat [a6] = true → Lm (fun x => x < m ∧ pr1 s.1 p q x) (cst s.1) r → zV (zMt RX6 cX6_pair 7 (some .int) 4) (fun S2 I2 L2 R2 rr => S2 = S ∧ R2 = R ∧ (zPi L (fun I2 r => r = aPair s (nI p).toInt (nI q).toInt 1 ∧ zDM I2 s ∧ ∀ p, p < 96 → I2 p = I p)) I2 L2 rr) (0, 0) S J L R 18 [some (.ref 96), some (.int (nI p)), some (.int (nI q)), some (.int (nI 1)), some (.int r), some (.int (nI m)), a6] [] := by
  intro n
  induction n with
  | zero => intro m r a6 h1 h2 h6 hL; omega
  | succ n ih =>
    intro m r a6 h1 h2 h6 hL
    obtain ⟨hv, ho, hr⟩ := id hI
    have hl := ho.1
    have hnp := ho.2.2.1
    have h8 := hr.2.1
    have hps := pcs_ok ho
    have hlen := hps.1
    have hall := all_lt hps.1
    have hIJ := hI.frame hJF.mf
    have hvJ := hIJ.1
    have hcs := cst_lt ho
    have hcm : cost (pcs s.1.1) (lD s.1) (lST s.1) (lCL s.1) m < 1000000 := cst_lt ho m
    have h2p : 0 < 2 ^ (pcs s.1.1).length := Nat.two_pow_pos _
    have hrr := Lm_rng hcs hL
    have hpa : (nI p).toInt = (p : Int) := nI_T (by omega)
    have hqa : (nI q).toInt = (q : Int) := nI_T (by omega)
    refine z_iload dX6_pair_18 rfl ?_
    refine z_aload_n dX6_pair_20 rfl ?_
    refine z_callV0p dX6_pair_21 mX6_72 hM.o (m_all J L hM _ hps.1 hJ.1.1) (by decide) (Nat.le_of_ble_eq_true rfl) ⟨Nat.le_refl _, Nat.le_refl _⟩ ?_
    refine z_icmp_gtNN (tgt := 95) dX6_pair_24 (by decide) (by omega) (by omega) (fun h24 => ?_) (fun h24 => ?_)
    · refine z_iload dX6_pair_95 rfl ?_
      have e9 : m = 2 ^ (pcs s.1.1).length := by omega
      subst e9
      exact z_iret dX6_pair_97 ⟨Nat.le_refl _, Nat.le_refl _⟩ rfl ⟨rfl, rfl, rfl, _, ⟨Lm_uniq hL (hpa.symm ▸ hqa.symm ▸ pair1_Lm ho hp hq hpq), hIJ, fun p hp => hJF.1 p (by omega) (by omega)⟩, rfl⟩
    · refine z_iload dX6_pair_27 rfl ?_
      refine z_iload_n dX6_pair_29 rfl ?_
      refine z_callS2p dX6_pair_30 mX6_68 (m_has J L m p (by omega) (by omega)) (by decide) (Nat.le_of_ble_eq_true rfl) ⟨Nat.le_refl _, Nat.le_refl _⟩ ?_
      refine z_iload dX6_pair_33 rfl ?_
      refine z_iload_n dX6_pair_35 rfl ?_
      refine z_callS2p dX6_pair_36 mX6_68 (m_has J L m q (by omega) (by omega)) (by decide) (Nat.le_of_ble_eq_true rfl) ⟨Nat.le_refl _, Nat.le_refl _⟩ ?_
      refine z_icmp_ne (tgt := 46) dX6_pair_39 (by decide) (fun h39 => ?_) (fun h39 => ?_)
      · refine z_iconst (nI 0) dX6_pair_46 (by decide) ?_
        refine z_iload_n dX6_pair_47 rfl ?_
        refine z_icmp_ne (tgt := 89) dX6_pair_48 (by decide) (fun _ => ?_) (fun h48 => absurd h48 (by decide))
        refine z_iincN5 (n := 1) dX6_pair_89 (by repeat first | rfl | assumption | refine zCat_s ?_ | refine zCat_a ?_ ?_) ?_
        refine z_goto (tgt := 18) dX6_pair_92 (by decide) ?_
        exact ih (m + 1) r a6 (by omega) (by omega) h6 (Lm_no hL (by first | exact fun z : pr1 s.1 p q m => h57 z.2 | exact fun z : pr1 s.1 p q m => h39 (zb_bb.mpr z.1)))
      · refine z_iconst (nI 1) dX6_pair_42 (by decide) ?_
        refine z_goto (tgt := 47) dX6_pair_43 (by decide) ?_
        refine z_iload_n dX6_pair_47 rfl ?_
        refine z_icmp_ne (tgt := 89) dX6_pair_48 (by decide) (fun h48 => absurd rfl h48) (fun _ => ?_)
        refine z_aload_n dX6_pair_51 rfl ?_
        refine z_iload dX6_pair_52 rfl ?_
        refine z_callV1p dX6_pair_54 mX6_103 hM.o (m_areFixed J L hM hvJ ho hJ m (by omega)) (by decide) (Nat.le_of_ble_eq_true rfl) ⟨Nat.le_refl _, Nat.le_refl _⟩ ?_
        refine z_if_eqB (tgt := 89) dX6_pair_57 (by decide) (fun h57 => ?_) (fun h57 => ?_)
        · refine z_iincN5 (n := 1) dX6_pair_89 (by repeat first | rfl | assumption | refine zCat_s ?_ | refine zCat_a ?_ ?_) ?_
          refine z_goto (tgt := 18) dX6_pair_92 (by decide) ?_
          exact ih (m + 1) r a6 (by omega) (by omega) h6 (Lm_no hL (by first | exact fun z : pr1 s.1 p q m => h57 z.2 | exact fun z : pr1 s.1 p q m => h39 (zb_bb.mpr z.1)))
        · refine z_aload_n dX6_pair_60 rfl ?_
          refine z_iload dX6_pair_61 rfl ?_
          refine z_callV1p dX6_pair_63 mX6_107 hM.o (m_costOf J L hM hvJ ho hJ m (by omega)) (by decide) (Nat.le_of_ble_eq_true rfl) ⟨Nat.le_refl _, Nat.le_refl _⟩ ?_
          refine z_ist6 dX6_pair_66 (by repeat first | rfl | assumption | refine zCat_s ?_ | refine zCat_a ?_ ?_) ?_
          refine z_iload dX6_pair_68 rfl ?_
          refine z_if_lt (tgt := 80) dX6_pair_70 (by decide) (fun h70 => ?_) (fun h70 => ?_)
          · refine z_iload dX6_pair_80 rfl ?_
            refine z_goto (tgt := 87) dX6_pair_82 (by decide) ?_
            refine z_ist4 dX6_pair_87 (by repeat first | rfl | assumption | refine zCat_s ?_ | refine zCat_a ?_ ?_) ?_
            refine z_iincN5 (n := 1) dX6_pair_89 (by repeat first | rfl | assumption | refine zCat_s ?_ | refine zCat_a ?_ ?_) ?_
            refine z_goto (tgt := 18) dX6_pair_92 (by decide) ?_
            exact ih (m + 1) _ _ (by omega) (by omega) rfl (Lm_yes hcs hL (show pr1 s.1 p q m from ⟨zb_bb.mp h39, h57⟩) (by first | exact Or.inl h70 | exact Or.inr h77))
          · refine z_iload dX6_pair_73 rfl ?_
            refine z_iload dX6_pair_75 rfl ?_
            refine z_icmp_geNI (tgt := 85) dX6_pair_77 (by decide) (by omega) (fun h77 => ?_) (fun h77 => ?_)
            · refine z_iload dX6_pair_85 rfl ?_
              refine z_ist4 dX6_pair_87 (by repeat first | rfl | assumption | refine zCat_s ?_ | refine zCat_a ?_ ?_) ?_
              refine z_iincN5 (n := 1) dX6_pair_89 (by repeat first | rfl | assumption | refine zCat_s ?_ | refine zCat_a ?_ ?_) ?_
              refine z_goto (tgt := 18) dX6_pair_92 (by decide) ?_
              exact ih (m + 1) _ _ (by omega) (by omega) rfl (Lm_keep hcs hL h70 h77)
            · refine z_iload dX6_pair_80 rfl ?_
              refine z_goto (tgt := 87) dX6_pair_82 (by decide) ?_
              refine z_ist4 dX6_pair_87 (by repeat first | rfl | assumption | refine zCat_s ?_ | refine zCat_a ?_ ?_) ?_
              refine z_iincN5 (n := 1) dX6_pair_89 (by repeat first | rfl | assumption | refine zCat_s ?_ | refine zCat_a ?_ ?_) ?_
              refine z_goto (tgt := 18) dX6_pair_92 (by decide) ?_
              exact ih (m + 1) _ _ (by omega) (by omega) rfl (Lm_yes hcs hL (show pr1 s.1 p q m from ⟨zb_bb.mp h39, h57⟩) (by first | exact Or.inl h70 | exact Or.inr h77))
set_option maxRecDepth 100000 in
set_option maxHeartbeats 4000000 in
theorem m_pair1 {S : zS} {R : zMR} (I : zMI) (L : zML) {s : St} (hM : zMO S R) (hI : zDM I s) (a c : Int32) : zM0 yX6_pair cX6_pair 7 (some .int) 4 [.ref 96, .int a, .int c, .int (nI 1)] S I L R (zPi L (fun I2 r => r = aPair s a.toInt c.toInt 1 ∧ zDM I2 s ∧ ∀ p, p < 96 → I2 p = I p)) := by
  refine zM0_of (own := RX6) (lv := [some (.ref 96), some (.int a), some (.int c), some (.int (nI 1)), none, none, none]) rfl (by decide) rfl rfl ?_
  obtain ⟨hv, ho, hr⟩ := id hI
  have hl := ho.1
  have hnp := ho.2.2.1
  have h8 := hr.2.1
  refine z_aload_n dX6_pair_0 rfl ?_
  refine z_iload_n dX6_pair_1 rfl ?_
  refine z_iload_n dX6_pair_2 rfl ?_
  refine z_callV2i dX6_pair_3 mX6_258 hM.o (m_areTwo I L hM hv ho a c) (by decide) (Nat.le_of_ble_eq_true rfl) ⟨Nat.le_refl _, Nat.le_refl _⟩ (fun J v9 h9 => ?_)
  refine z_top h9.1 ?_
  have hIJ := hI.frame h9.2.2.mf
  have hvJ := hIJ.1
  refine z_if_neB (tgt := 12) dX6_pair_6 (by decide) (fun h6 => ?_) (fun h6 => ?_)
  · have hpl := pcs_len s.1.1
    obtain ⟨p, hp, rfl⟩ := nI_of3 (x := a) (n := (pcs s.1.1).length) h6.1.1 h6.1.2 (by omega)
    obtain ⟨q, hq, rfl⟩ := nI_of3 (x := c) (n := (pcs s.1.1).length) h6.2.1.1 h6.2.1.2 (by omega)
    have hpa : (nI p).toInt = (p : Int) := nI_T (by omega)
    have hqa : (nI q).toInt = (q : Int) := nI_T (by omega)
    refine z_iconst (-1) dX6_pair_12 (by decide) ?_
    refine z_ist4 dX6_pair_13 rfl ?_
    refine z_iconst (nI 0) dX6_pair_15 (by decide) ?_
    refine z_ist5 dX6_pair_16 rfl ?_
    exact m_pair1_l I L hM hI h9.2.1 h9.2.2 hp hq (fun e => h6.2.2 (by rw [e])) (2 ^ (pcs s.1.1).length + 1) 0 (-1) none (Nat.le_of_eq (Nat.zero_add _).symm) (Nat.zero_le _) rfl (Or.inl ⟨rfl, fun x h => absurd h.1 (by omega)⟩)
  · refine z_ldc dX6_pair_9 kX6_156 ?_
    exact z_iret dX6_pair_11 ⟨Nat.le_refl _, Nat.le_refl _⟩ rfl ⟨rfl, rfl, rfl, _, ⟨by rw [aPair, zif_f h6], hIJ, fun p hp => h9.2.2.1 p (by omega) (by omega)⟩, rfl⟩
