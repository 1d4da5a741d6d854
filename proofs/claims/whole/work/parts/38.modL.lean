def mLF (I J : zMI) : Prop := (∀ x, x ≠ 96 → (x < 101 ∨ 105 < x) → J x = I x) ∧ ∀ k, k ≠ 5 → J 96 k = I 96 k
theorem mLF.rfl {I : zMI} : mLF I I := ⟨fun _ _ _ => Eq.refl _, fun _ _ => Eq.refl _⟩
theorem mLF.trans {I J K : zMI} (h : mLF I J) (h2 : mLF J K) : mLF I K := ⟨fun p hp hq => (h2.1 p hp hq).trans (h.1 p hp hq), fun k hk => (h2.2 k hk).trans (h.2 k hk)⟩
theorem mLF.mf {I J : zMI} (h : mLF I J) : zMF I J := ⟨fun p hp => h.1 p (by omega) (by omega), h.2 2 (by decide)⟩
theorem mLF.zu {I J : zMI} (h : mLF I J) {p k : Nat} {x : Int32} (hp : 101 ≤ p ∧ p ≤ 105) : mLF I (zu J p k x) := ⟨fun a h1 h2 => by rw [zu_ne (by omega)]; exact h.1 a h1 h2, fun a h1 => by rw [zu_ne (by omega)]; exact h.2 a h1⟩
def lA (I J : zMI) (ps : List Pc) : Prop := zPm J ps ∧ mLF I J
theorem lA_add {I J : zMI} {ps : List Pc} (h : lA I J ps) (c : Pc) {a x x2 : Nat} (ha : a = qs c) (hx : x = qx c) (hx2 : x2 = qx2 c) : lA I (zu (zu (zu (zu J 101 ps.length (nI a)) 102 ps.length (nI x)) 103 ps.length (nI x2)) 96 5 (nI (ps.length + 1))) (ps ++ [c]) := by
  subst ha hx hx2
  obtain ⟨⟨h0, h1⟩, h2, h3⟩ := h
  refine ⟨⟨by rw [zu_same, List.length_append]; rfl, fun p d hd => ?_⟩, fun a h1 h4 => ?_, fun k hk => ?_⟩
  · rw [List.getElem?_append] at hd
    by_cases hp : p < ps.length
    · rw [if_pos hp] at hd
      obtain ⟨e1, e2, e3⟩ := h1 p d hd
      refine ⟨?_, ?_, ?_⟩
      · rw [zu_ne (by omega), zu_ne (by omega), zu_ne (by omega), zu_nk (Or.inr (by omega))]; exact e1
      · rw [zu_ne (by omega), zu_ne (by omega), zu_nk (Or.inr (by omega)), zu_ne (by omega)]; exact e2
      · rw [zu_ne (by omega), zu_nk (Or.inr (by omega)), zu_ne (by omega), zu_ne (by omega)]; exact e3
    · rw [if_neg hp] at hd
      have e : p = ps.length := by
        have := (List.getElem?_eq_some_iff.mp hd).1
        simp at this
        omega
      subst e
      simp at hd
      subst hd
      refine ⟨?_, ?_, ?_⟩
      · rw [zu_ne (by omega), zu_ne (by omega), zu_ne (by omega), zu_same]
      · rw [zu_ne (by omega), zu_ne (by omega), zu_same]
      · rw [zu_ne (by omega), zu_same]
  · rw [zu_ne (by omega), zu_ne (by omega), zu_ne (by omega), zu_ne (by omega)]
    exact h2 a h1 h4
  · rw [zu_nk (Or.inr hk), zu_ne (by omega), zu_ne (by omega), zu_ne (by omega)]
    exact h3 k hk
theorem bmn_t {f : Nat → Bool} {q : Nat} (hq : q < 14) (h : f q = true) : bm 14 (fun c => decide (c < q) && f c) ||| 2 ^ q = bm 14 (fun c => decide (c < q + 1) && f c) := by
  rw [bm_or hq]
  apply bm_congr
  intro i _
  by_cases e : i = q
  · subst e; simp [h]
  · have : (i < q + 1) ↔ i < q := by omega
    simp [e, this]
theorem bmn_f {f : Nat → Bool} {q : Nat} (h : f q = false) : bm 14 (fun c => decide (c < q) && f c) ||| 0 = bm 14 (fun c => decide (c < q + 1) && f c) := by
  rw [Nat.or_zero]
  apply bm_congr
  intro i _
  by_cases e : i = q
  · subst e; simp [h]
  · have : (i < q + 1) ↔ i < q := by omega
    simp [this]
theorem bmn_0 (f : Nat → Bool) : bm 14 (fun c => decide (c < 0) && f c) = 0 := by
  have e : bm 14 (fun c => decide (c < 0) && f c) = bm 14 (fun _ => exB 0 (fun _ => false)) := bm_congr (fun i _ => by simp [exB])
  rw [e, exB_0]
theorem bmn_e {f : Nat → Bool} {n : Nat} (h : ∀ c, f c = true → c < n) : bm 14 (fun c => decide (c < n) && f c) = bm 14 f := by
  apply bm_congr
  intro i _
  cases q : f i
  · simp
  · simp [h i q]
def lB0 (I J : zMI) (ps : List Pc) (D p : Nat) : Prop := zPm J ps ∧ (∀ a, a < p → J 104 a = nI (bm 14 (clb ps D a)) ∧ J 105 a = nI (bm 14 (beb ps a))) ∧ mLF I J
def lB (I J : zMI) (ps : List Pc) (D p q : Nat) : Prop := lB0 I J ps D p ∧ J 104 p = nI (bm 14 (fun c => decide (c < q) && clb ps D p c)) ∧ J 105 p = nI (bm 14 (fun c => decide (c < q) && beb ps p c))
theorem zPm.zu {J : zMI} {ps : List Pc} (h : zPm J ps) {p k : Nat} {x : Int32} (hp : 104 ≤ p ∧ p ≤ 105) : zPm (zu J p k x) ps := by
  unfold zPm
  rw [zu_ne (by omega), zu_ne (by omega), zu_ne (by omega), zu_ne (by omega)]
  exact h
theorem lB_0 {I J : zMI} {ps : List Pc} {D p : Nat} (h : lB0 I J ps D p) : lB I (zu (zu J 104 p (nI 0)) 105 p (nI 0)) ps D p 0 := by
  obtain ⟨h1, h2, h3⟩ := h
  refine ⟨⟨(h1.zu (by omega)).zu (by omega), fun a ha => ?_, (h3.zu (by omega)).zu (by omega)⟩, ?_, ?_⟩
  · obtain ⟨e1, e2⟩ := h2 a ha
    exact ⟨by rw [zu_ne (by omega), zu_nk (Or.inr (by omega))]; exact e1, by rw [zu_nk (Or.inr (by omega)), zu_ne (by omega)]; exact e2⟩
  · rw [zu_ne (by omega), zu_same, bmn_0]
  · rw [zu_same, bmn_0]
theorem lB_s {I J : zMI} {ps : List Pc} {D p q : Nat} (h : lB I J ps D p q) {x y : Nat} (hx : x = bm 14 (fun c => decide (c < q + 1) && clb ps D p c)) (hy : y = bm 14 (fun c => decide (c < q + 1) && beb ps p c)) : lB I (zu (zu J 104 p (nI x)) 105 p (nI y)) ps D p (q + 1) := by
  subst hx hy
  obtain ⟨⟨h1, h2, h3⟩, h4, h5⟩ := h
  refine ⟨⟨(h1.zu (by omega)).zu (by omega), fun a ha => ?_, (h3.zu (by omega)).zu (by omega)⟩, ?_, ?_⟩
  · obtain ⟨e1, e2⟩ := h2 a ha
    exact ⟨by rw [zu_ne (by omega), zu_nk (Or.inr (by omega))]; exact e1, by rw [zu_nk (Or.inr (by omega)), zu_ne (by omega)]; exact e2⟩
  · rw [zu_ne (by omega), zu_same]
  · rw [zu_same]
theorem lB_e {I J : zMI} {ps : List Pc} {D p q : Nat} (h : lB I J ps D p q) (hq : ps.length ≤ q) : lB0 I J ps D (p + 1) := by
  obtain ⟨⟨h1, h2, h3⟩, h4, h5⟩ := h
  refine ⟨h1, fun a ha => ?_, h3⟩
  by_cases e : a = p
  · subst e
    rw [bmn_e (fun c hc => by have := (clb_lt hc).2; omega)] at h4
    rw [bmn_e (fun c hc => by have := (beb_lt hc).2; omega)] at h5
    exact ⟨h4, h5⟩
  · exact h2 a (by omega)
theorem gap_le {c d : Pc} (hc : pcOk c) (hd : pcOk d) : gap c d ≤ 450 := by
  obtain ⟨-, c1, c2, c3, c4⟩ := hc
  obtain ⟨-, d1, d2, d3, d4⟩ := hd
  have h1 := apt_le (a := qx c) (a2 := qx2 c) (b := qx d) (b2 := qx2 d) (by omega) (by omega)
  have h2 := apt_le (a := qy c) (a2 := qy2 c) (b := qy d) (b2 := qy2 d) (by omega) (by omega)
  have h3 := Nat.mul_le_mul h1 h1
  have h4 := Nat.mul_le_mul h2 h2
  unfold gap
  omega
theorem nI_prd {q p : Nat} (hq : q < 1000) (hp : p < 1000) : nI q = zi ((p : Int) - (1 : Nat)) ↔ p = q + 1 := by
  rw [nI_zi, zi_eq (by omega) (by omega) (by omega) (by omega)]
  omega
theorem clb_t {ps : List Pc} {D p q : Nat} (hp : p < ps.length) (hq : q < ps.length) (h1 : qs (pg ps p) ≠ qs (pg ps q)) (h2 : gap (pg ps p) (pg ps q) < D * D) : clb ps D p q = true := by unfold clb; exact decide_eq_true ⟨hp, hq, h1, h2⟩
theorem clb_f {ps : List Pc} {D p q : Nat} (h : qs (pg ps p) = qs (pg ps q) ∨ D * D ≤ gap (pg ps p) (pg ps q)) : clb ps D p q = false := by unfold clb; exact decide_eq_false (fun z => by omega)
theorem beb_t {ps : List Pc} {p q : Nat} (hp : p < ps.length) (hq : q < ps.length) (h1 : qs (pg ps p) = qs (pg ps q)) (h2 : q = p + 1 ∨ p = q + 1) : beb ps p q = true := by unfold beb; exact decide_eq_true ⟨hp, hq, h1, h2⟩
theorem beb_f {ps : List Pc} {p q : Nat} (h : qs (pg ps p) ≠ qs (pg ps q) ∨ (q ≠ p + 1 ∧ p ≠ q + 1)) : beb ps p q = false := by unfold beb; exact decide_eq_false (fun z => by omega)
set_option maxRecDepth 100000 in
set_option maxHeartbeats 4000000 in
theorem m_lay_q {S : zS} {R : zMR} (I : zMI) (L : zML) {v : Ly} (hM : zMO S R) (hv : zMb (I 97) 0 v) (ho : lyOk v) (p : Nat) (hp : p < (pcs v.1).length) (hK : ∀ J, lB0 I J (pcs v.1) (lD v) (p + 1) → ∀ a2 a3, zCat [a3] = true → zV (zMt RX6 cX6_lay 4 none 2) (fun S2 I2 L2 R2 rr => S2 = S ∧ R2 = R ∧ (zPv L (fun I2 => zPM I2 (pcs v.1) (lD v) ∧ mLF I I2)) I2 L2 rr) (0, 0) S J L R 225 [some (.ref 96), some (.int (nI p)), some (.int (nI a2)), a3] []) : ∀ (n : Nat) (q : Nat) (J : zMI) (a3 : Option Value), (pcs v.1).length + 1 ≤ q + n → q ≤ (pcs v.1).length → zCat [a3] = true → lB I J (pcs v.1) (lD v) p q → zV (zMt RX6 cX6_lay 4 none 2) (fun S2 I2 L2 R2 rr => S2 = S ∧ R2 = R ∧ (zPv L (fun I2 => zPM I2 (pcs v.1) (lD v) ∧ mLF I I2)) I2 L2 rr) (0, 0) S J L R 112 [some (.ref 96), some (.int (nI p)), some (.int (nI q)), a3] [] := by
  intro n
  induction n with
  | zero => intro q J a3 h1 h2 h3 hB; omega
  | succ n ih =>
    intro q J a3 h1 h2 h3 hB
    have hl := ho.1
    have hps := pcs_ok ho
    have hlen := hps.1
    have hF := hB.1.2.2
    have hD := ho.2.2.2.2.2.1
    have hDD := Nat.mul_le_mul hD hD
    have hJ : zMb (J 97) 0 v := by rw [hF.1 97 (by decide) (by omega)]; exact hv
    refine z_iload_n dX6_lay_112 rfl ?_
    refine z_aload_n dX6_lay_113 rfl ?_
    refine z_geti dX6_lay_114 fX6_49 hM.o ?_
    refine z_top (hB.1.1.1) ?_
    refine z_icmp_geNN (tgt := 225) dX6_lay_117 (by decide) (by omega) (by omega) (fun h117 => ?_) (fun h117 => ?_)
    · exact hK J (lB_e hB (by omega)) _ _ h3
    · have hq : q < (pcs v.1).length := h117
      have g1 := (hps.at hp).1
      have g2 := (hps.at hq).1
      have g3 := gap_le (hps.at hp) (hps.at hq)
      refine z_aload_n dX6_lay_120 rfl ?_
      refine z_getr dX6_lay_121 fX6_23 hM.o hM.r6 ?_
      refine z_iload_n dX6_lay_124 rfl ?_
      refine z_iaN dX6_lay_125 hM.a6 (by omega) (by decide) ?_
      refine z_top ((hB.1.1.2 p _ (getP hp)).1) ?_
      refine z_aload_n dX6_lay_126 rfl ?_
      refine z_getr dX6_lay_127 fX6_23 hM.o hM.r6 ?_
      refine z_iload_n dX6_lay_130 rfl ?_
      refine z_iaN dX6_lay_131 hM.a6 (by omega) (by decide) ?_
      refine z_top ((hB.1.1.2 q _ (getP hq)).1) ?_
      refine z_icmp_neNN (tgt := 139) dX6_lay_132 (by decide) (by omega) (by omega) (fun h132 => ?_) (fun h132 => ?_)
      · refine z_iconst (nI 0) dX6_lay_139 (by decide) ?_
        refine z_ist3 dX6_lay_140 (by repeat first | rfl | assumption | refine zCat_s ?_ | refine zCat_a ?_ ?_) ?_
        refine z_aload_n dX6_lay_141 rfl ?_
        refine z_getr dX6_lay_142 fX6_32 hM.o hM.r9 ?_
        refine z_iload_n dX6_lay_145 rfl ?_
        refine z_dup2 dX6_lay_146 rfl rfl ?_
        refine z_iaN dX6_lay_147 hM.a9 (by omega) (by decide) ?_
        refine z_top (hB.2.1) ?_
        refine z_iload_n dX6_lay_148 rfl ?_
        refine z_if_neN (tgt := 182) dX6_lay_149 (by decide) (by omega) (fun h149 => absurd h149 (by decide)) (fun _ => ?_)
        refine z_aload_n dX6_lay_152 rfl ?_
        refine z_iload_n dX6_lay_153 rfl ?_
        refine z_iload_n dX6_lay_154 rfl ?_
        refine z_callV2p dX6_lay_155 mX6_61 hM.o (m_gapOf J L hM hJ ho hB.1.1 p q hp hq) (by decide) (Nat.le_of_ble_eq_true rfl) ⟨Nat.le_refl _, Nat.le_refl _⟩ ?_
        refine z_aload_n dX6_lay_158 rfl ?_
        refine z_getr dX6_lay_159 fX6_7 hM.o hM.r0 ?_
        refine z_bipush (nI 61) dX6_lay_162 (by decide) ?_
        refine z_iaN dX6_lay_164 hM.a0 (by omega) (by decide) ?_
        refine z_top (hJ.2.2.1) ?_
        refine z_aload_n dX6_lay_165 rfl ?_
        refine z_getr dX6_lay_166 fX6_7 hM.o hM.r0 ?_
        refine z_bipush (nI 61) dX6_lay_169 (by decide) ?_
        refine z_iaN dX6_lay_171 hM.a0 (by omega) (by decide) ?_
        refine z_top (hJ.2.2.1) ?_
        refine z_imulN dX6_lay_172 ?_
        refine z_icmp_geNN (tgt := 182) dX6_lay_173 (by decide) (by omega) (by omega) (fun h173 => ?_) (fun h173 => ?_)
        · refine z_iconst (nI 0) dX6_lay_182 (by decide) ?_
          refine z_iorN dX6_lay_183 ?_
          refine z_isN dX6_lay_184 hM.a9 (by omega) (by decide) ?_
          refine z_aload_n dX6_lay_185 rfl ?_
          refine z_getr dX6_lay_186 fX6_35 hM.o hM.r10 ?_
          refine z_iload_n dX6_lay_189 rfl ?_
          refine z_dup2 dX6_lay_190 rfl rfl ?_
          refine z_iaN dX6_lay_191 hM.a10 (by omega) (by decide) ?_
          refine z_top ((show _ = nI (bm 14 (fun c => decide (c < q) && beb (pcs v.1) p c)) from by rw [zu_ne (by decide)]; exact hB.2.2)) ?_
          refine z_iload_n dX6_lay_192 rfl ?_
          refine z_if_eqN (tgt := 216) dX6_lay_193 (by decide) (by omega) (fun _ => ?_) (fun h193 => absurd h193 (by decide))
          refine z_iconst (nI 0) dX6_lay_216 (by decide) ?_
          refine z_iorN dX6_lay_217 ?_
          refine z_isN dX6_lay_218 hM.a10 (by omega) (by decide) ?_
          refine z_iincN2 (n := 1) dX6_lay_219 (by repeat first | rfl | assumption | refine zCat_s ?_ | refine zCat_a ?_ ?_) ?_
          refine z_goto (tgt := 112) dX6_lay_222 (by decide) ?_
          refine ih (q + 1) _ _ (by omega) (by omega) rfl (lB_s hB ?_ ?_)
          · first | exact bmn_t (f := clb (pcs v.1) (lD v) p) (by omega) (clb_t hp hq h132 h173) | exact bmn_f (f := clb (pcs v.1) (lD v) p) (clb_f (Or.inl h132)) | exact bmn_f (f := clb (pcs v.1) (lD v) p) (clb_f (Or.inr h173))
          · first | exact bmn_t (f := beb (pcs v.1) p) (by omega) (beb_t hp hq h132 (Or.inl (by omega))) | exact bmn_t (f := beb (pcs v.1) p) (by omega) (beb_t hp hq h132 (Or.inr (h207))) | exact bmn_f (f := beb (pcs v.1) p) (beb_f (Or.inl h132)) | exact bmn_f (f := beb (pcs v.1) p) (beb_f (Or.inr ⟨by omega, h207⟩))
        · refine z_iconst (nI 1) dX6_lay_176 (by decide) ?_
          refine z_iload_n dX6_lay_177 rfl ?_
          refine z_shl1 dX6_lay_178 (by omega) ?_
          refine z_goto (tgt := 183) dX6_lay_179 (by decide) ?_
          refine z_iorN dX6_lay_183 ?_
          refine z_isN dX6_lay_184 hM.a9 (by omega) (by decide) ?_
          refine z_aload_n dX6_lay_185 rfl ?_
          refine z_getr dX6_lay_186 fX6_35 hM.o hM.r10 ?_
          refine z_iload_n dX6_lay_189 rfl ?_
          refine z_dup2 dX6_lay_190 rfl rfl ?_
          refine z_iaN dX6_lay_191 hM.a10 (by omega) (by decide) ?_
          refine z_top ((show _ = nI (bm 14 (fun c => decide (c < q) && beb (pcs v.1) p c)) from by rw [zu_ne (by decide)]; exact hB.2.2)) ?_
          refine z_iload_n dX6_lay_192 rfl ?_
          refine z_if_eqN (tgt := 216) dX6_lay_193 (by decide) (by omega) (fun _ => ?_) (fun h193 => absurd h193 (by decide))
          refine z_iconst (nI 0) dX6_lay_216 (by decide) ?_
          refine z_iorN dX6_lay_217 ?_
          refine z_isN dX6_lay_218 hM.a10 (by omega) (by decide) ?_
          refine z_iincN2 (n := 1) dX6_lay_219 (by repeat first | rfl | assumption | refine zCat_s ?_ | refine zCat_a ?_ ?_) ?_
          refine z_goto (tgt := 112) dX6_lay_222 (by decide) ?_
          refine ih (q + 1) _ _ (by omega) (by omega) rfl (lB_s hB ?_ ?_)
          · first | exact bmn_t (f := clb (pcs v.1) (lD v) p) (by omega) (clb_t hp hq h132 h173) | exact bmn_f (f := clb (pcs v.1) (lD v) p) (clb_f (Or.inl h132)) | exact bmn_f (f := clb (pcs v.1) (lD v) p) (clb_f (Or.inr h173))
          · first | exact bmn_t (f := beb (pcs v.1) p) (by omega) (beb_t hp hq h132 (Or.inl (by omega))) | exact bmn_t (f := beb (pcs v.1) p) (by omega) (beb_t hp hq h132 (Or.inr (h207))) | exact bmn_f (f := beb (pcs v.1) p) (beb_f (Or.inl h132)) | exact bmn_f (f := beb (pcs v.1) p) (beb_f (Or.inr ⟨by omega, h207⟩))
      · refine z_iconst (nI 1) dX6_lay_135 (by decide) ?_
        refine z_goto (tgt := 140) dX6_lay_136 (by decide) ?_
        refine z_ist3 dX6_lay_140 (by repeat first | rfl | assumption | refine zCat_s ?_ | refine zCat_a ?_ ?_) ?_
        refine z_aload_n dX6_lay_141 rfl ?_
        refine z_getr dX6_lay_142 fX6_32 hM.o hM.r9 ?_
        refine z_iload_n dX6_lay_145 rfl ?_
        refine z_dup2 dX6_lay_146 rfl rfl ?_
        refine z_iaN dX6_lay_147 hM.a9 (by omega) (by decide) ?_
        refine z_top (hB.2.1) ?_
        refine z_iload_n dX6_lay_148 rfl ?_
        refine z_if_neN (tgt := 182) dX6_lay_149 (by decide) (by omega) (fun _ => ?_) (fun h149 => absurd h149 (by decide))
        refine z_iconst (nI 0) dX6_lay_182 (by decide) ?_
        refine z_iorN dX6_lay_183 ?_
        refine z_isN dX6_lay_184 hM.a9 (by omega) (by decide) ?_
        refine z_aload_n dX6_lay_185 rfl ?_
        refine z_getr dX6_lay_186 fX6_35 hM.o hM.r10 ?_
        refine z_iload_n dX6_lay_189 rfl ?_
        refine z_dup2 dX6_lay_190 rfl rfl ?_
        refine z_iaN dX6_lay_191 hM.a10 (by omega) (by decide) ?_
        refine z_top ((show _ = nI (bm 14 (fun c => decide (c < q) && beb (pcs v.1) p c)) from by rw [zu_ne (by decide)]; exact hB.2.2)) ?_
        refine z_iload_n dX6_lay_192 rfl ?_
        refine z_if_eqN (tgt := 216) dX6_lay_193 (by decide) (by omega) (fun h193 => absurd h193 (by decide)) (fun _ => ?_)
        refine z_iload_n dX6_lay_196 rfl ?_
        refine z_iload_n dX6_lay_197 rfl ?_
        refine z_iconst (nI 1) dX6_lay_198 (by decide) ?_
        refine z_iaddN dX6_lay_199 ?_
        refine z_icmp_eqNN (tgt := 210) dX6_lay_200 (by decide) (by omega) (by omega) (fun h200 => ?_) (fun h200 => ?_)
        · refine z_iconst (nI 1) dX6_lay_210 (by decide) ?_
          refine z_iload_n dX6_lay_211 rfl ?_
          refine z_shl1 dX6_lay_212 (by omega) ?_
          refine z_goto (tgt := 217) dX6_lay_213 (by decide) ?_
          refine z_iorN dX6_lay_217 ?_
          refine z_isN dX6_lay_218 hM.a10 (by omega) (by decide) ?_
          refine z_iincN2 (n := 1) dX6_lay_219 (by repeat first | rfl | assumption | refine zCat_s ?_ | refine zCat_a ?_ ?_) ?_
          refine z_goto (tgt := 112) dX6_lay_222 (by decide) ?_
          refine ih (q + 1) _ _ (by omega) (by omega) rfl (lB_s hB ?_ ?_)
          · first | exact bmn_t (f := clb (pcs v.1) (lD v) p) (by omega) (clb_t hp hq h132 h173) | exact bmn_f (f := clb (pcs v.1) (lD v) p) (clb_f (Or.inl h132)) | exact bmn_f (f := clb (pcs v.1) (lD v) p) (clb_f (Or.inr h173))
          · first | exact bmn_t (f := beb (pcs v.1) p) (by omega) (beb_t hp hq h132 (Or.inl (by omega))) | exact bmn_t (f := beb (pcs v.1) p) (by omega) (beb_t hp hq h132 (Or.inr (h207))) | exact bmn_f (f := beb (pcs v.1) p) (beb_f (Or.inl h132)) | exact bmn_f (f := beb (pcs v.1) p) (beb_f (Or.inr ⟨by omega, h207⟩))
        · refine z_iload_n dX6_lay_203 rfl ?_
          refine z_iload_n dX6_lay_204 rfl ?_
          refine z_iconst (nI 1) dX6_lay_205 (by decide) ?_
          refine z_isub dX6_lay_206 (z_top (nI_subI _ _) ?_)
          refine z_icmp_ne (tgt := 216) dX6_lay_207 (by decide) (fun h207 => ?_) (fun h207 => ?_)
          · have h207 : p ≠ q + 1 := fun e => h207 ((nI_prd (by omega) (by omega)).mpr e)
            refine z_iconst (nI 0) dX6_lay_216 (by decide) ?_
            refine z_iorN dX6_lay_217 ?_
            refine z_isN dX6_lay_218 hM.a10 (by omega) (by decide) ?_
            refine z_iincN2 (n := 1) dX6_lay_219 (by repeat first | rfl | assumption | refine zCat_s ?_ | refine zCat_a ?_ ?_) ?_
            refine z_goto (tgt := 112) dX6_lay_222 (by decide) ?_
            refine ih (q + 1) _ _ (by omega) (by omega) rfl (lB_s hB ?_ ?_)
            · first | exact bmn_t (f := clb (pcs v.1) (lD v) p) (by omega) (clb_t hp hq h132 h173) | exact bmn_f (f := clb (pcs v.1) (lD v) p) (clb_f (Or.inl h132)) | exact bmn_f (f := clb (pcs v.1) (lD v) p) (clb_f (Or.inr h173))
            · first | exact bmn_t (f := beb (pcs v.1) p) (by omega) (beb_t hp hq h132 (Or.inl (by omega))) | exact bmn_t (f := beb (pcs v.1) p) (by omega) (beb_t hp hq h132 (Or.inr (h207))) | exact bmn_f (f := beb (pcs v.1) p) (beb_f (Or.inl h132)) | exact bmn_f (f := beb (pcs v.1) p) (beb_f (Or.inr ⟨by omega, h207⟩))
          · have h207 : p = q + 1 := (nI_prd (by omega) (by omega)).mp h207
            refine z_iconst (nI 1) dX6_lay_210 (by decide) ?_
            refine z_iload_n dX6_lay_211 rfl ?_
            refine z_shl1 dX6_lay_212 (by omega) ?_
            refine z_goto (tgt := 217) dX6_lay_213 (by decide) ?_
            refine z_iorN dX6_lay_217 ?_
            refine z_isN dX6_lay_218 hM.a10 (by omega) (by decide) ?_
            refine z_iincN2 (n := 1) dX6_lay_219 (by repeat first | rfl | assumption | refine zCat_s ?_ | refine zCat_a ?_ ?_) ?_
            refine z_goto (tgt := 112) dX6_lay_222 (by decide) ?_
            refine ih (q + 1) _ _ (by omega) (by omega) rfl (lB_s hB ?_ ?_)
            · first | exact bmn_t (f := clb (pcs v.1) (lD v) p) (by omega) (clb_t hp hq h132 h173) | exact bmn_f (f := clb (pcs v.1) (lD v) p) (clb_f (Or.inl h132)) | exact bmn_f (f := clb (pcs v.1) (lD v) p) (clb_f (Or.inr h173))
            · first | exact bmn_t (f := beb (pcs v.1) p) (by omega) (beb_t hp hq h132 (Or.inl (by omega))) | exact bmn_t (f := beb (pcs v.1) p) (by omega) (beb_t hp hq h132 (Or.inr (h207))) | exact bmn_f (f := beb (pcs v.1) p) (beb_f (Or.inl h132)) | exact bmn_f (f := beb (pcs v.1) p) (beb_f (Or.inr ⟨by omega, h207⟩))
set_option maxRecDepth 100000 in
set_option maxHeartbeats 4000000 in
theorem m_lay_p {S : zS} {R : zMR} (I : zMI) (L : zML) {v : Ly} (hM : zMO S R) (hv : zMb (I 97) 0 v) (ho : lyOk v) : ∀ (n : Nat) (p : Nat) (J : zMI) (a2 a3 : Option Value), (pcs v.1).length + 1 ≤ p + n → p ≤ (pcs v.1).length → zCat [a2] = true → zCat [a3] = true → lB0 I J (pcs v.1) (lD v) p → zV (zMt RX6 cX6_lay 4 none 2) (fun S2 I2 L2 R2 rr => S2 = S ∧ R2 = R ∧ (zPv L (fun I2 => zPM I2 (pcs v.1) (lD v) ∧ mLF I I2)) I2 L2 rr) (0, 0) S J L R 88 [some (.ref 96), some (.int (nI p)), a2, a3] [] := by
  intro n
  induction n with
  | zero => intro p J a2 a3 h1 h2 h4 h3 hB; omega
  | succ n ih =>
    intro p J a2 a3 h1 h2 h4 h3 hB
    have hl := ho.1
    have hps := pcs_ok ho
    have hlen := hps.1
    refine z_iload_n dX6_lay_88 rfl ?_
    refine z_aload_n dX6_lay_89 rfl ?_
    refine z_geti dX6_lay_90 fX6_49 hM.o ?_
    refine z_top (hB.1.1) ?_
    refine z_icmp_geNN (tgt := 231) dX6_lay_93 (by decide) (by omega) (by omega) (fun h93 => ?_) (fun h93 => ?_)
    · have e : p = (pcs v.1).length := by omega
      subst e
      exact z_ret dX6_lay_231 ⟨Nat.le_refl _, Nat.le_refl _⟩ rfl ⟨rfl, rfl, rfl, ⟨⟨hB.1, hB.2.1⟩, hB.2.2⟩, rfl⟩
    · refine z_aload_n dX6_lay_96 rfl ?_
      refine z_getr dX6_lay_97 fX6_32 hM.o hM.r9 ?_
      refine z_iload_n dX6_lay_100 rfl ?_
      refine z_iconst (nI 0) dX6_lay_101 (by decide) ?_
      refine z_isN dX6_lay_102 hM.a9 (by omega) (by decide) ?_
      refine z_aload_n dX6_lay_103 rfl ?_
      refine z_getr dX6_lay_104 fX6_35 hM.o hM.r10 ?_
      refine z_iload_n dX6_lay_107 rfl ?_
      refine z_iconst (nI 0) dX6_lay_108 (by decide) ?_
      refine z_isN dX6_lay_109 hM.a10 (by omega) (by decide) ?_
      refine z_iconst (nI 0) dX6_lay_110 (by decide) ?_
      refine z_ist2 dX6_lay_111 (by repeat first | rfl | assumption | refine zCat_s ?_ | refine zCat_a ?_ ?_) ?_
      refine m_lay_q I L hM hv ho p h93 ?_ ((pcs v.1).length + 1) 0 _ _ (by omega) (by omega) h3 (lB_0 hB)
      intro J2 hB2 a2 a3 h3
      refine z_iincN1 (n := 1) dX6_lay_225 (by repeat first | rfl | assumption | refine zCat_s ?_ | refine zCat_a ?_ ?_) ?_
      refine z_goto (tgt := 88) dX6_lay_228 (by decide) ?_
      exact ih (p + 1) J2 _ _ (by omega) (by omega) (by rfl) h3 hB2
theorem pcO_0 {k : Nat} {s : Sh} (h : sc s = []) : pcO k s = [(k, sx s, sx2 s, sy s, sy2 s)] := by unfold pcO; rw [h]; rfl
theorem pcO_1 {k a : Nat} {s : Sh} (h : sc s = [a]) : pcO k s = [(k, sx s, a, sy s, sy2 s), (k, a + 1, sx2 s, sy s, sy2 s)] := by unfold pcO; rw [h]; rfl
theorem pcO_2 {k a b : Nat} {s : Sh} (h : sc s = [a, b]) : pcO k s = [(k, sx s, a, sy s, sy2 s), (k, a + 1, b, sy s, sy2 s), (k, b + 1, sx2 s, sy s, sy2 s)] := by unfold pcO; rw [h]; rfl
set_option maxRecDepth 100000 in
set_option maxHeartbeats 4000000 in
theorem m_lay_s {S : zS} {R : zMR} (I : zMI) (L : zML) {v : Ly} (hM : zMO S R) (hv : zMb (I 97) 0 v) (ho : lyOk v) : ∀ (n : Nat) (i : Nat) (J : zMI) (a2 a3 : Option Value), v.1.length + 1 ≤ i + n → i ≤ v.1.length → zCat [a2] = true → zCat [a3] = true → lA I J (pcs (v.1.take i)) → zV (zMt RX6 cX6_lay 4 none 2) (fun S2 I2 L2 R2 rr => S2 = S ∧ R2 = R ∧ (zPv L (fun I2 => zPM I2 (pcs v.1) (lD v) ∧ mLF I I2)) I2 L2 rr) (0, 0) S J L R 7 [some (.ref 96), some (.int (nI i)), a2, a3] [] := by
  intro n
  induction n with
  | zero => intro i J a2 a3 h1 h2 h4 h3 A0; omega
  | succ n ih =>
    intro i J a2 a3 h1 h2 h4 h3 A0
    have hl := ho.1
    refine z_iload_n dX6_lay_7 rfl ?_
    refine z_aload_n dX6_lay_8 rfl ?_
    refine z_getr dX6_lay_9 fX6_7 hM.o hM.r0 ?_
    refine z_iconst (nI 0) dX6_lay_12 (by decide) ?_
    refine z_iaN dX6_lay_13 hM.a0 (by omega) (by decide) ?_
    refine z_top ((show _ = nI v.1.length from by rw [A0.2.1 97 (by decide) (by omega)]; exact hv.1)) ?_
    refine z_icmp_geNN (tgt := 86) dX6_lay_14 (by decide) (by omega) (by omega) (fun h14 => ?_) (fun h14 => ?_)
    · refine z_iconst (nI 0) dX6_lay_86 (by decide) ?_
      refine z_ist1 dX6_lay_87 (by repeat first | rfl | assumption | refine zCat_s ?_ | refine zCat_a ?_ ?_) ?_
      have e : i = v.1.length := by omega
      subst e
      rw [List.take_length] at A0
      exact m_lay_p I L hM hv ho ((pcs v.1).length + 1) 0 J _ _ (by omega) (by omega) h4 h3 ⟨A0.1, fun a ha => absurd ha (by omega), A0.2⟩
    · obtain ⟨sh, hsh⟩ := getS h14
      obtain ⟨o1, o2, o3, o4, o5⟩ := id (ho.sh hsh)
      obtain ⟨e0, e1, e2, e3, e4, e5⟩ := mSh0 (hv.2.1 i sh hsh)
      obtain ⟨b1, b2⟩ := c1_le o5 o2
      have n1 := np_take_succ hsh
      have n2 := np_take_le v.1 (i + 1)
      have n3 := ho.2.2.1
      have n4 : (c1 (sc sh) ≠ 0 → 1 ≤ (sc sh).length) ∧ (c2 (sc sh) ≠ 0 → 2 ≤ (sc sh).length) := by rcases c1_pos o5 with ⟨q1, q2, q3⟩ | ⟨q1, q2, a, q3, q4⟩ | ⟨q1, q2, a, b, q3, q4, q5⟩ <;> rw [q3] at * <;> simp_all [c1, c2]
      have n5 : c2 (sc sh) ≠ 0 → c1 (sc sh) ≠ 0 := by rcases c1_pos o5 with ⟨q1, q2, q3⟩ | ⟨q1, q2, a, q3, q4⟩ | ⟨q1, q2, a, b, q3, q4, q5⟩ <;> omega
      refine z_aload_n dX6_lay_17 rfl ?_
      refine z_iload_n dX6_lay_18 rfl ?_
      refine z_iconst (nI 0) dX6_lay_19 (by decide) ?_
      refine z_callV2p dX6_lay_20 mX6_45 hM.o (m_part J L hM i 0 (by omega) (by omega)) (by decide) (Nat.le_of_ble_eq_true rfl) ⟨Nat.le_refl _, Nat.le_refl _⟩ ?_
      refine z_top ((show _ = nI (sx sh) from by rw [A0.2.1 97 (by decide) (by omega)]; exact e0)) ?_
      refine z_ist2 dX6_lay_23 (by repeat first | rfl | assumption | refine zCat_s ?_ | refine zCat_a ?_ ?_) ?_
      refine z_iconst (nI 4) dX6_lay_24 (by decide) ?_
      refine z_ist3 dX6_lay_25 (by repeat first | rfl | assumption | refine zCat_s ?_ | refine zCat_a ?_ ?_) ?_
      refine z_iload_n dX6_lay_26 rfl ?_
      refine z_bipush (nI 6) dX6_lay_27 (by decide) ?_
      refine z_icmp_geNN (tgt := 68) dX6_lay_29 (by decide) (by omega) (by omega) (fun h29 => absurd h29 (by decide)) (fun _ => ?_)
      refine z_aload_n dX6_lay_32 rfl ?_
      refine z_iload_n dX6_lay_33 rfl ?_
      refine z_iload_n dX6_lay_34 rfl ?_
      refine z_callV2p dX6_lay_35 mX6_45 hM.o (m_part J L hM i 4 (by omega) (by omega)) (by decide) (Nat.le_of_ble_eq_true rfl) ⟨Nat.le_refl _, Nat.le_refl _⟩ ?_
      refine z_top ((show _ = nI (c1 (sc sh)) from by rw [A0.2.1 97 (by decide) (by omega)]; exact e4)) ?_
      refine z_if_leN (tgt := 62) dX6_lay_38 (by decide) (by omega) (fun h38 => ?_) (fun h38 => ?_)
      · have k4 := h38
        refine z_iincN3 (n := 1) dX6_lay_62 (by repeat first | rfl | assumption | refine zCat_s ?_ | refine zCat_a ?_ ?_) ?_
        refine z_goto (tgt := 26) dX6_lay_65 (by decide) ?_
        refine z_iload_n dX6_lay_26 rfl ?_
        refine z_bipush (nI 6) dX6_lay_27 (by decide) ?_
        refine z_icmp_geNN (tgt := 68) dX6_lay_29 (by decide) (by omega) (by omega) (fun h29 => absurd h29 (by decide)) (fun _ => ?_)
        refine z_aload_n dX6_lay_32 rfl ?_
        refine z_iload_n dX6_lay_33 rfl ?_
        refine z_iload_n dX6_lay_34 rfl ?_
        refine z_callV2p dX6_lay_35 mX6_45 hM.o (m_part J L hM i 5 (by omega) (by omega)) (by decide) (Nat.le_of_ble_eq_true rfl) ⟨Nat.le_refl _, Nat.le_refl _⟩ ?_
        refine z_top ((show _ = nI (c2 (sc sh)) from by rw [A0.2.1 97 (by decide) (by omega)]; exact e5)) ?_
        refine z_if_leN (tgt := 62) dX6_lay_38 (by decide) (by omega) (fun h38 => ?_) (fun h38 => ?_)
        · have k5 := h38
          refine z_iincN3 (n := 1) dX6_lay_62 (by repeat first | rfl | assumption | refine zCat_s ?_ | refine zCat_a ?_ ?_) ?_
          refine z_goto (tgt := 26) dX6_lay_65 (by decide) ?_
          refine z_iload_n dX6_lay_26 rfl ?_
          refine z_bipush (nI 6) dX6_lay_27 (by decide) ?_
          refine z_icmp_geNN (tgt := 68) dX6_lay_29 (by decide) (by omega) (by omega) (fun _ => ?_) (fun h29 => absurd h29 (by decide))
          refine z_aload_n dX6_lay_68 rfl ?_
          refine z_iload_n dX6_lay_69 rfl ?_
          refine z_iload_n dX6_lay_70 rfl ?_
          refine z_aload_n dX6_lay_71 rfl ?_
          refine z_iload_n dX6_lay_72 rfl ?_
          refine z_iconst (nI 2) dX6_lay_73 (by decide) ?_
          refine z_callV2p dX6_lay_74 mX6_45 hM.o (m_part J L hM i 2 (by omega) (by omega)) (by decide) (Nat.le_of_ble_eq_true rfl) ⟨Nat.le_refl _, Nat.le_refl _⟩ ?_
          refine z_top ((show _ = nI (sx2 sh) from by rw [A0.2.1 97 (by decide) (by omega)]; exact e2)) ?_
          refine z_callV3v dX6_lay_77 mX6_57 hM.o (m_addPiece J L hM (pcs (v.1.take i)).length (by simp only [List.length_append, List.length_singleton, pcs_len]; omega) A0.1.1 i _ _) (by decide) (Nat.le_of_ble_eq_true rfl) ⟨Nat.le_refl _, Nat.le_refl _⟩ (fun J1 z1 => ?_)
          have A1 : lA I J1 ((pcs (v.1.take i)) ++ [((i, (sx sh), (sx2 sh), sy sh, sy2 sh) : Pc)]) := by rw [z1]; exact lA_add A0 ((i, (sx sh), (sx2 sh), sy sh, sy2 sh) : Pc) rfl rfl rfl
          refine z_iincN1 (n := 1) dX6_lay_80 (by repeat first | rfl | assumption | refine zCat_s ?_ | refine zCat_a ?_ ?_) ?_
          refine z_goto (tgt := 7) dX6_lay_83 (by decide) ?_
          refine ih (i + 1) J1 _ _ (by omega) (by omega) rfl rfl ?_
          rw [pcs_take_succ hsh]
          have A := A1
          try simp only [List.append_assoc, List.cons_append, List.nil_append] at A
          rcases c1_pos o5 with ⟨q1, q2, q3⟩ | ⟨q1, q2, a, q3, q4⟩ | ⟨q1, q2, a, b, q3, q4, q5⟩
          · first | (exfalso; omega) | (rw [pcO_0 q3]; exact A)
          · first | (exfalso; omega) | (rw [pcO_1 q3]; simp only [q4, Nat.add_sub_cancel] at A; exact A)
          · first | (exfalso; omega) | (rw [pcO_2 q3]; simp only [q4, q5, Nat.add_sub_cancel] at A; exact A)
        · have k5 := h38
          refine z_aload_n dX6_lay_41 rfl ?_
          refine z_iload_n dX6_lay_42 rfl ?_
          refine z_iload_n dX6_lay_43 rfl ?_
          refine z_aload_n dX6_lay_44 rfl ?_
          refine z_iload_n dX6_lay_45 rfl ?_
          refine z_iload_n dX6_lay_46 rfl ?_
          refine z_callV2p dX6_lay_47 mX6_45 hM.o (m_part J L hM i 5 (by omega) (by omega)) (by decide) (Nat.le_of_ble_eq_true rfl) ⟨Nat.le_refl _, Nat.le_refl _⟩ ?_
          refine z_top ((show _ = nI (c2 (sc sh)) from by rw [A0.2.1 97 (by decide) (by omega)]; exact e5)) ?_
          refine z_iconst (nI 1) dX6_lay_50 (by decide) ?_
          refine z_isubN dX6_lay_51 (by omega) ?_
          refine z_callV3v dX6_lay_52 mX6_57 hM.o (m_addPiece J L hM (pcs (v.1.take i)).length (by simp only [List.length_append, List.length_singleton, pcs_len]; omega) A0.1.1 i _ _) (by decide) (Nat.le_of_ble_eq_true rfl) ⟨Nat.le_refl _, Nat.le_refl _⟩ (fun J1 z1 => ?_)
          have A1 : lA I J1 ((pcs (v.1.take i)) ++ [((i, (sx sh), (c2 (sc sh) - 1), sy sh, sy2 sh) : Pc)]) := by rw [z1]; exact lA_add A0 ((i, (sx sh), (c2 (sc sh) - 1), sy sh, sy2 sh) : Pc) rfl rfl rfl
          refine z_aload_n dX6_lay_55 rfl ?_
          refine z_iload_n dX6_lay_56 rfl ?_
          refine z_iload_n dX6_lay_57 rfl ?_
          refine z_callV2p dX6_lay_58 mX6_45 hM.o (m_part J1 L hM i 5 (by omega) (by omega)) (by decide) (Nat.le_of_ble_eq_true rfl) ⟨Nat.le_refl _, Nat.le_refl _⟩ ?_
          refine z_top ((show _ = nI (c2 (sc sh)) from by rw [A1.2.1 97 (by decide) (by omega)]; exact e5)) ?_
          refine z_ist2 dX6_lay_61 (by repeat first | rfl | assumption | refine zCat_s ?_ | refine zCat_a ?_ ?_) ?_
          refine z_iincN3 (n := 1) dX6_lay_62 (by repeat first | rfl | assumption | refine zCat_s ?_ | refine zCat_a ?_ ?_) ?_
          refine z_goto (tgt := 26) dX6_lay_65 (by decide) ?_
          refine z_iload_n dX6_lay_26 rfl ?_
          refine z_bipush (nI 6) dX6_lay_27 (by decide) ?_
          refine z_icmp_geNN (tgt := 68) dX6_lay_29 (by decide) (by omega) (by omega) (fun _ => ?_) (fun h29 => absurd h29 (by decide))
          refine z_aload_n dX6_lay_68 rfl ?_
          refine z_iload_n dX6_lay_69 rfl ?_
          refine z_iload_n dX6_lay_70 rfl ?_
          refine z_aload_n dX6_lay_71 rfl ?_
          refine z_iload_n dX6_lay_72 rfl ?_
          refine z_iconst (nI 2) dX6_lay_73 (by decide) ?_
          refine z_callV2p dX6_lay_74 mX6_45 hM.o (m_part J1 L hM i 2 (by omega) (by omega)) (by decide) (Nat.le_of_ble_eq_true rfl) ⟨Nat.le_refl _, Nat.le_refl _⟩ ?_
          refine z_top ((show _ = nI (sx2 sh) from by rw [A1.2.1 97 (by decide) (by omega)]; exact e2)) ?_
          refine z_callV3v dX6_lay_77 mX6_57 hM.o (m_addPiece J1 L hM ((pcs (v.1.take i)) ++ [((i, (sx sh), (c2 (sc sh) - 1), sy sh, sy2 sh) : Pc)]).length (by simp only [List.length_append, List.length_singleton, pcs_len]; omega) A1.1.1 i _ _) (by decide) (Nat.le_of_ble_eq_true rfl) ⟨Nat.le_refl _, Nat.le_refl _⟩ (fun J2 z2 => ?_)
          have A2 : lA I J2 (((pcs (v.1.take i)) ++ [((i, (sx sh), (c2 (sc sh) - 1), sy sh, sy2 sh) : Pc)]) ++ [((i, (c2 (sc sh)), (sx2 sh), sy sh, sy2 sh) : Pc)]) := by rw [z2]; exact lA_add A1 ((i, (c2 (sc sh)), (sx2 sh), sy sh, sy2 sh) : Pc) rfl rfl rfl
          refine z_iincN1 (n := 1) dX6_lay_80 (by repeat first | rfl | assumption | refine zCat_s ?_ | refine zCat_a ?_ ?_) ?_
          refine z_goto (tgt := 7) dX6_lay_83 (by decide) ?_
          refine ih (i + 1) J2 _ _ (by omega) (by omega) rfl rfl ?_
          rw [pcs_take_succ hsh]
          have A := A2
          try simp only [List.append_assoc, List.cons_append, List.nil_append] at A
          rcases c1_pos o5 with ⟨q1, q2, q3⟩ | ⟨q1, q2, a, q3, q4⟩ | ⟨q1, q2, a, b, q3, q4, q5⟩
          · first | (exfalso; omega) | (rw [pcO_0 q3]; exact A)
          · first | (exfalso; omega) | (rw [pcO_1 q3]; simp only [q4, Nat.add_sub_cancel] at A; exact A)
          · first | (exfalso; omega) | (rw [pcO_2 q3]; simp only [q4, q5, Nat.add_sub_cancel] at A; exact A)
      · have k4 := h38
        refine z_aload_n dX6_lay_41 rfl ?_
        refine z_iload_n dX6_lay_42 rfl ?_
        refine z_iload_n dX6_lay_43 rfl ?_
        refine z_aload_n dX6_lay_44 rfl ?_
        refine z_iload_n dX6_lay_45 rfl ?_
        refine z_iload_n dX6_lay_46 rfl ?_
        refine z_callV2p dX6_lay_47 mX6_45 hM.o (m_part J L hM i 4 (by omega) (by omega)) (by decide) (Nat.le_of_ble_eq_true rfl) ⟨Nat.le_refl _, Nat.le_refl _⟩ ?_
        refine z_top ((show _ = nI (c1 (sc sh)) from by rw [A0.2.1 97 (by decide) (by omega)]; exact e4)) ?_
        refine z_iconst (nI 1) dX6_lay_50 (by decide) ?_
        refine z_isubN dX6_lay_51 (by omega) ?_
        refine z_callV3v dX6_lay_52 mX6_57 hM.o (m_addPiece J L hM (pcs (v.1.take i)).length (by simp only [List.length_append, List.length_singleton, pcs_len]; omega) A0.1.1 i _ _) (by decide) (Nat.le_of_ble_eq_true rfl) ⟨Nat.le_refl _, Nat.le_refl _⟩ (fun J1 z1 => ?_)
        have A1 : lA I J1 ((pcs (v.1.take i)) ++ [((i, (sx sh), (c1 (sc sh) - 1), sy sh, sy2 sh) : Pc)]) := by rw [z1]; exact lA_add A0 ((i, (sx sh), (c1 (sc sh) - 1), sy sh, sy2 sh) : Pc) rfl rfl rfl
        refine z_aload_n dX6_lay_55 rfl ?_
        refine z_iload_n dX6_lay_56 rfl ?_
        refine z_iload_n dX6_lay_57 rfl ?_
        refine z_callV2p dX6_lay_58 mX6_45 hM.o (m_part J1 L hM i 4 (by omega) (by omega)) (by decide) (Nat.le_of_ble_eq_true rfl) ⟨Nat.le_refl _, Nat.le_refl _⟩ ?_
        refine z_top ((show _ = nI (c1 (sc sh)) from by rw [A1.2.1 97 (by decide) (by omega)]; exact e4)) ?_
        refine z_ist2 dX6_lay_61 (by repeat first | rfl | assumption | refine zCat_s ?_ | refine zCat_a ?_ ?_) ?_
        refine z_iincN3 (n := 1) dX6_lay_62 (by repeat first | rfl | assumption | refine zCat_s ?_ | refine zCat_a ?_ ?_) ?_
        refine z_goto (tgt := 26) dX6_lay_65 (by decide) ?_
        refine z_iload_n dX6_lay_26 rfl ?_
        refine z_bipush (nI 6) dX6_lay_27 (by decide) ?_
        refine z_icmp_geNN (tgt := 68) dX6_lay_29 (by decide) (by omega) (by omega) (fun h29 => absurd h29 (by decide)) (fun _ => ?_)
        refine z_aload_n dX6_lay_32 rfl ?_
        refine z_iload_n dX6_lay_33 rfl ?_
        refine z_iload_n dX6_lay_34 rfl ?_
        refine z_callV2p dX6_lay_35 mX6_45 hM.o (m_part J1 L hM i 5 (by omega) (by omega)) (by decide) (Nat.le_of_ble_eq_true rfl) ⟨Nat.le_refl _, Nat.le_refl _⟩ ?_
        refine z_top ((show _ = nI (c2 (sc sh)) from by rw [A1.2.1 97 (by decide) (by omega)]; exact e5)) ?_
        refine z_if_leN (tgt := 62) dX6_lay_38 (by decide) (by omega) (fun h38 => ?_) (fun h38 => ?_)
        · have k5 := h38
          refine z_iincN3 (n := 1) dX6_lay_62 (by repeat first | rfl | assumption | refine zCat_s ?_ | refine zCat_a ?_ ?_) ?_
          refine z_goto (tgt := 26) dX6_lay_65 (by decide) ?_
          refine z_iload_n dX6_lay_26 rfl ?_
          refine z_bipush (nI 6) dX6_lay_27 (by decide) ?_
          refine z_icmp_geNN (tgt := 68) dX6_lay_29 (by decide) (by omega) (by omega) (fun _ => ?_) (fun h29 => absurd h29 (by decide))
          refine z_aload_n dX6_lay_68 rfl ?_
          refine z_iload_n dX6_lay_69 rfl ?_
          refine z_iload_n dX6_lay_70 rfl ?_
          refine z_aload_n dX6_lay_71 rfl ?_
          refine z_iload_n dX6_lay_72 rfl ?_
          refine z_iconst (nI 2) dX6_lay_73 (by decide) ?_
          refine z_callV2p dX6_lay_74 mX6_45 hM.o (m_part J1 L hM i 2 (by omega) (by omega)) (by decide) (Nat.le_of_ble_eq_true rfl) ⟨Nat.le_refl _, Nat.le_refl _⟩ ?_
          refine z_top ((show _ = nI (sx2 sh) from by rw [A1.2.1 97 (by decide) (by omega)]; exact e2)) ?_
          refine z_callV3v dX6_lay_77 mX6_57 hM.o (m_addPiece J1 L hM ((pcs (v.1.take i)) ++ [((i, (sx sh), (c1 (sc sh) - 1), sy sh, sy2 sh) : Pc)]).length (by simp only [List.length_append, List.length_singleton, pcs_len]; omega) A1.1.1 i _ _) (by decide) (Nat.le_of_ble_eq_true rfl) ⟨Nat.le_refl _, Nat.le_refl _⟩ (fun J2 z2 => ?_)
          have A2 : lA I J2 (((pcs (v.1.take i)) ++ [((i, (sx sh), (c1 (sc sh) - 1), sy sh, sy2 sh) : Pc)]) ++ [((i, (c1 (sc sh)), (sx2 sh), sy sh, sy2 sh) : Pc)]) := by rw [z2]; exact lA_add A1 ((i, (c1 (sc sh)), (sx2 sh), sy sh, sy2 sh) : Pc) rfl rfl rfl
          refine z_iincN1 (n := 1) dX6_lay_80 (by repeat first | rfl | assumption | refine zCat_s ?_ | refine zCat_a ?_ ?_) ?_
          refine z_goto (tgt := 7) dX6_lay_83 (by decide) ?_
          refine ih (i + 1) J2 _ _ (by omega) (by omega) rfl rfl ?_
          rw [pcs_take_succ hsh]
          have A := A2
          try simp only [List.append_assoc, List.cons_append, List.nil_append] at A
          rcases c1_pos o5 with ⟨q1, q2, q3⟩ | ⟨q1, q2, a, q3, q4⟩ | ⟨q1, q2, a, b, q3, q4, q5⟩
          · first | (exfalso; omega) | (rw [pcO_0 q3]; exact A)
          · first | (exfalso; omega) | (rw [pcO_1 q3]; simp only [q4, Nat.add_sub_cancel] at A; exact A)
          · first | (exfalso; omega) | (rw [pcO_2 q3]; simp only [q4, q5, Nat.add_sub_cancel] at A; exact A)
        · have k5 := h38
          refine z_aload_n dX6_lay_41 rfl ?_
          refine z_iload_n dX6_lay_42 rfl ?_
          refine z_iload_n dX6_lay_43 rfl ?_
          refine z_aload_n dX6_lay_44 rfl ?_
          refine z_iload_n dX6_lay_45 rfl ?_
          refine z_iload_n dX6_lay_46 rfl ?_
          refine z_callV2p dX6_lay_47 mX6_45 hM.o (m_part J1 L hM i 5 (by omega) (by omega)) (by decide) (Nat.le_of_ble_eq_true rfl) ⟨Nat.le_refl _, Nat.le_refl _⟩ ?_
          refine z_top ((show _ = nI (c2 (sc sh)) from by rw [A1.2.1 97 (by decide) (by omega)]; exact e5)) ?_
          refine z_iconst (nI 1) dX6_lay_50 (by decide) ?_
          refine z_isubN dX6_lay_51 (by omega) ?_
          refine z_callV3v dX6_lay_52 mX6_57 hM.o (m_addPiece J1 L hM ((pcs (v.1.take i)) ++ [((i, (sx sh), (c1 (sc sh) - 1), sy sh, sy2 sh) : Pc)]).length (by simp only [List.length_append, List.length_singleton, pcs_len]; omega) A1.1.1 i _ _) (by decide) (Nat.le_of_ble_eq_true rfl) ⟨Nat.le_refl _, Nat.le_refl _⟩ (fun J2 z2 => ?_)
          have A2 : lA I J2 (((pcs (v.1.take i)) ++ [((i, (sx sh), (c1 (sc sh) - 1), sy sh, sy2 sh) : Pc)]) ++ [((i, (c1 (sc sh)), (c2 (sc sh) - 1), sy sh, sy2 sh) : Pc)]) := by rw [z2]; exact lA_add A1 ((i, (c1 (sc sh)), (c2 (sc sh) - 1), sy sh, sy2 sh) : Pc) rfl rfl rfl
          refine z_aload_n dX6_lay_55 rfl ?_
          refine z_iload_n dX6_lay_56 rfl ?_
          refine z_iload_n dX6_lay_57 rfl ?_
          refine z_callV2p dX6_lay_58 mX6_45 hM.o (m_part J2 L hM i 5 (by omega) (by omega)) (by decide) (Nat.le_of_ble_eq_true rfl) ⟨Nat.le_refl _, Nat.le_refl _⟩ ?_
          refine z_top ((show _ = nI (c2 (sc sh)) from by rw [A2.2.1 97 (by decide) (by omega)]; exact e5)) ?_
          refine z_ist2 dX6_lay_61 (by repeat first | rfl | assumption | refine zCat_s ?_ | refine zCat_a ?_ ?_) ?_
          refine z_iincN3 (n := 1) dX6_lay_62 (by repeat first | rfl | assumption | refine zCat_s ?_ | refine zCat_a ?_ ?_) ?_
          refine z_goto (tgt := 26) dX6_lay_65 (by decide) ?_
          refine z_iload_n dX6_lay_26 rfl ?_
          refine z_bipush (nI 6) dX6_lay_27 (by decide) ?_
          refine z_icmp_geNN (tgt := 68) dX6_lay_29 (by decide) (by omega) (by omega) (fun _ => ?_) (fun h29 => absurd h29 (by decide))
          refine z_aload_n dX6_lay_68 rfl ?_
          refine z_iload_n dX6_lay_69 rfl ?_
          refine z_iload_n dX6_lay_70 rfl ?_
          refine z_aload_n dX6_lay_71 rfl ?_
          refine z_iload_n dX6_lay_72 rfl ?_
          refine z_iconst (nI 2) dX6_lay_73 (by decide) ?_
          refine z_callV2p dX6_lay_74 mX6_45 hM.o (m_part J2 L hM i 2 (by omega) (by omega)) (by decide) (Nat.le_of_ble_eq_true rfl) ⟨Nat.le_refl _, Nat.le_refl _⟩ ?_
          refine z_top ((show _ = nI (sx2 sh) from by rw [A2.2.1 97 (by decide) (by omega)]; exact e2)) ?_
          refine z_callV3v dX6_lay_77 mX6_57 hM.o (m_addPiece J2 L hM (((pcs (v.1.take i)) ++ [((i, (sx sh), (c1 (sc sh) - 1), sy sh, sy2 sh) : Pc)]) ++ [((i, (c1 (sc sh)), (c2 (sc sh) - 1), sy sh, sy2 sh) : Pc)]).length (by simp only [List.length_append, List.length_singleton, pcs_len]; omega) A2.1.1 i _ _) (by decide) (Nat.le_of_ble_eq_true rfl) ⟨Nat.le_refl _, Nat.le_refl _⟩ (fun J3 z3 => ?_)
          have A3 : lA I J3 ((((pcs (v.1.take i)) ++ [((i, (sx sh), (c1 (sc sh) - 1), sy sh, sy2 sh) : Pc)]) ++ [((i, (c1 (sc sh)), (c2 (sc sh) - 1), sy sh, sy2 sh) : Pc)]) ++ [((i, (c2 (sc sh)), (sx2 sh), sy sh, sy2 sh) : Pc)]) := by rw [z3]; exact lA_add A2 ((i, (c2 (sc sh)), (sx2 sh), sy sh, sy2 sh) : Pc) rfl rfl rfl
          refine z_iincN1 (n := 1) dX6_lay_80 (by repeat first | rfl | assumption | refine zCat_s ?_ | refine zCat_a ?_ ?_) ?_
          refine z_goto (tgt := 7) dX6_lay_83 (by decide) ?_
          refine ih (i + 1) J3 _ _ (by omega) (by omega) rfl rfl ?_
          rw [pcs_take_succ hsh]
          have A := A3
          try simp only [List.append_assoc, List.cons_append, List.nil_append] at A
          rcases c1_pos o5 with ⟨q1, q2, q3⟩ | ⟨q1, q2, a, q3, q4⟩ | ⟨q1, q2, a, b, q3, q4, q5⟩
          · first | (exfalso; omega) | (rw [pcO_0 q3]; exact A)
          · first | (exfalso; omega) | (rw [pcO_1 q3]; simp only [q4, Nat.add_sub_cancel] at A; exact A)
          · first | (exfalso; omega) | (rw [pcO_2 q3]; simp only [q4, q5, Nat.add_sub_cancel] at A; exact A)
set_option maxRecDepth 100000 in
set_option maxHeartbeats 4000000 in
theorem m_lay {S : zS} {R : zMR} (I : zMI) (L : zML) {v : Ly} (hM : zMO S R) (hv : zMb (I 97) 0 v) (ho : lyOk v) : zM0 yX6_lay cX6_lay 4 none 2 [.ref 96] S I L R (zPv L (fun I2 => zPM I2 (pcs v.1) (lD v) ∧ mLF I I2)) := by
  refine zM0_of (own := RX6) (lv := [some (.ref 96), none, none, none]) rfl (by decide) rfl rfl ?_
  refine z_aload_n dX6_lay_0 rfl ?_
  refine z_iconst (nI 0) dX6_lay_1 (by decide) ?_
  refine z_puti dX6_lay_2 fX6_49 hM.o ?_
  refine z_iconst (nI 0) dX6_lay_5 (by decide) ?_
  refine z_ist1 dX6_lay_6 rfl ?_
  refine m_lay_s I L hM hv ho (v.1.length + 1) 0 _ none none (by omega) (by omega) rfl rfl ⟨⟨by rw [zu_same]; rfl, fun p c hc => by simp [pcs, pcsF] at hc⟩, fun x h1 h2 => by rw [zu_ne h1], fun k hk => by rw [zu_nk (Or.inr hk)]⟩
