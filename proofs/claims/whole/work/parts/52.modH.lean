set_option maxRecDepth 100000 in
set_option maxHeartbeats 4000000 in
theorem m_parts_in {S : zS} {R : zMR} (I : zMI) (L : zML) {ps : List Pc} {D : Nat} (hM : zMO S R) (ho : psOk ps) (hP : zPM I ps D) {Post0 : zPost} {left p c : Nat} (hl : left < 16384) (hp14 : p < 14) (hp : left.testBit p = true) (hm : ∀ j, j < p → left.testBit j = false) (hK : zV (zMt RX6 cX6_parts 4 (some .int) 3) Post0 (0, 0) S I L R 27 [some (.ref 96), some (.int (nI c)), some (.int (nI left)), some (.int (nI p))] [])  : ∀ (n : Nat) (j : Nat), p + 1 ≤ j + n → j ≤ p → zV (zMt RX6 cX6_parts 4 (some .int) 3) Post0 (0, 0) S I L R 13 [some (.ref 96), some (.int (nI c)), some (.int (nI left)), some (.int (nI j))] [] := by
  intro n
  induction n with
  | zero => intro j h1 h2; omega
  | succ n ih =>
    intro j h1 h2
    refine z_iload_n dX6_parts_13 rfl ?_
    refine z_iload_n dX6_parts_14 rfl ?_
    refine z_callS2p dX6_parts_15 mX6_68 (m_has I L left j (by omega) (by omega)) (by decide) (Nat.le_of_ble_eq_true rfl) ⟨Nat.le_refl _, Nat.le_refl _⟩ ?_
    refine z_if_neB (tgt := 27) dX6_parts_18 (by decide) (fun h18 => ?_) (fun h18 => ?_)
    · have e : j = p := by rcases Nat.lt_or_ge j p with q | q; exact absurd h18 (by rw [hm j q]; decide); omega
      subst e
      exact hK
    · refine z_iincN3 (n := 1) dX6_parts_21 (by repeat first | rfl | assumption | refine zCat_s ?_ | refine zCat_a ?_ ?_) ?_
      refine z_goto (tgt := 13) dX6_parts_24 (by decide) ?_
      exact ih (j + 1) (by omega) (by rcases Nat.lt_or_ge j p with q | q; exact q; exact absurd (by rw [show j = p from by omega]; exact hp) h18)
set_option maxRecDepth 100000 in
set_option maxHeartbeats 4000000 in
theorem m_parts_l {S : zS} {R : zMR} (I : zMI) (L : zML) {ps : List Pc} {D : Nat} (hM : zMO S R) (ho : psOk ps) (hP : zPM I ps D) : ∀ (n : Nat) (k left : Nat) (a3 : Option Value), ps.length + 1 ≤ k + n → k ≤ ps.length → zCat [a3] = true → left = andn (2 ^ ps.length - 1) (ptsF (lkb ps D) ps.length k).1 → zV (zMt RX6 cX6_parts 4 (some .int) 3) (fun S2 I2 L2 R2 rr => S2 = S ∧ R2 = R ∧ (zPure I L (nI (ptsF (lkb ps D) ps.length ps.length).2)) I2 L2 rr) (0, 0) S I L R 7 [some (.ref 96), some (.int (nI (ptsF (lkb ps D) ps.length k).2)), some (.int (nI left)), a3] [] := by
  intro n
  induction n with
  | zero => intro k left a3 h1 h2 h3 hl; omega
  | succ n ih =>
    intro k left a3 h1 h2 h3 hl
    have hlen := ho.1
    have hall := all_lt hlen
    have hl14 : left < 16384 := by rw [hl]; exact Nat.lt_of_le_of_lt (andn_le _ _) hall
    refine z_iload_n dX6_parts_7 rfl ?_
    refine z_if_eqN (tgt := 43) dX6_parts_8 (by decide) (by omega) (fun h8 => ?_) (fun h8 => ?_)
    · refine z_iload_n dX6_parts_43 rfl ?_
      subst h8
      exact z_iret dX6_parts_44 ⟨Nat.le_refl _, Nat.le_refl _⟩ rfl ⟨rfl, rfl, rfl, rfl, congrArg (fun z => some (Value.int z)) (by rw [ptsF_done h2 hl])⟩
    · refine z_iconst (nI 0) dX6_parts_11 (by decide) ?_
      refine z_ist3 dX6_parts_12 (by repeat first | rfl | assumption | refine zCat_s ?_ | refine zCat_a ?_ ?_) ?_
      obtain ⟨p, -, hp, hm⟩ := lowb_spec (show left ≠ 0 from by omega)
      obtain ⟨hkp, hpn, e3, e4⟩ := ptsF_next hlen (lkb_adj ps D) h2 hl hp hm
      refine m_parts_in I L hM ho hP hl14 (by omega) hp hm ?_ (p + 1) 0 (by omega) (by omega)
      refine z_iload_n dX6_parts_27 rfl ?_
      refine z_aload_n dX6_parts_28 rfl ?_
      refine z_iload_n dX6_parts_29 rfl ?_
      refine z_callV1p dX6_parts_30 mX6_212 hM.o (m_partOf I L hM ho hP p hpn) (by decide) (Nat.le_of_ble_eq_true rfl) ⟨Nat.le_refl _, Nat.le_refl _⟩ ?_
      refine z_iconst (-1) dX6_parts_33 (by decide) ?_
      refine z_ixor dX6_parts_34 ?_
      refine z_iand dX6_parts_35 (z_top (nI_andn _ _) ?_)
      refine z_ist2 dX6_parts_36 (by repeat first | rfl | assumption | refine zCat_s ?_ | refine zCat_a ?_ ?_) ?_
      refine z_iincN1 (n := 1) dX6_parts_37 (by repeat first | rfl | assumption | refine zCat_s ?_ | refine zCat_a ?_ ?_) ?_
      refine z_goto (tgt := 7) dX6_parts_40 (by decide) ?_
      have z := ih (p + 1) (andn left (part (lkb ps D) ps.length p)) (some (.int (nI p))) (by omega) (by omega) rfl e4
      rw [e3] at z
      exact z
set_option maxRecDepth 100000 in
set_option maxHeartbeats 4000000 in
theorem m_parts {S : zS} {R : zMR} (I : zMI) (L : zML) {ps : List Pc} {D : Nat} (hM : zMO S R) (ho : psOk ps) (hP : zPM I ps D) : zM0 yX6_parts cX6_parts 4 (some .int) 3 [.ref 96] S I L R (zPure I L (nI (ptsF (lkb ps D) ps.length ps.length).2)) := by
  refine zM0_of (own := RX6) (lv := [some (.ref 96), none, none, none]) rfl (by decide) rfl rfl ?_
  refine z_iconst (nI 0) dX6_parts_0 (by decide) ?_
  refine z_ist1 dX6_parts_1 rfl ?_
  refine z_aload_n dX6_parts_2 rfl ?_
  refine z_callV0p dX6_parts_3 mX6_72 hM.o (m_all I L hM _ ho.1 hP.1.1) (by decide) (Nat.le_of_ble_eq_true rfl) ⟨Nat.le_refl _, Nat.le_refl _⟩ ?_
  refine z_ist2 dX6_parts_6 rfl ?_
  exact m_parts_l I L hM ho hP (ps.length + 1) 0 _ none (by omega) (by omega) rfl (by show _ = andn _ 0; unfold andn; simp)
theorem z_rl1 {g : zG} {Post : zPost} {u : Nat × Nat} {S : zS} {I : zMI} {L : zML} {R : zMR} {pc : Nat} {a0 a2 a3 : Option Value} {x y : Nat} (h : y = x) (k : zV g Post u S I L R pc [a0, some (.int (nI y)), a2, a3] []) : zV g Post u S I L R pc [a0, some (.int (nI x)), a2, a3] [] := by rw [← h]; exact k
set_option maxRecDepth 100000 in
set_option maxHeartbeats 4000000 in
theorem m_core_in {S : zS} {R : zMR} (I : zMI) (L : zML) {ps : List Pc} {D : Nat} (hM : zMO S R) (ho : psOk ps) (hP : zPM I ps D) {Post0 : zPost} {s : Nat} (hs : s < 16384) (hK : zV (zMt RX6 cX6_core 4 (some .int) 2) Post0 (0, 0) S I L R 64 [some (.ref 96), some (.int (nI (cor1 (lkb ps D) ps.length s))), some (.int (nI s)), some (.int (nI ps.length))] [])  : ∀ (n : Nat) (k : Nat), ps.length + 1 ≤ k + n → k ≤ ps.length → zV (zMt RX6 cX6_core 4 (some .int) 2) Post0 (0, 0) S I L R 16 [some (.ref 96), some (.int (nI (cor1 (lkb ps D) k s))), some (.int (nI s)), some (.int (nI k))] [] := by
  intro n
  induction n with
  | zero => intro k h1 h2; omega
  | succ n ih =>
    intro k h1 h2
    have hlen := ho.1
    have hall := all_lt hlen
    have hc9 := cor1_lt (A := lkb ps D) hs k
    refine z_iload_n dX6_core_16 rfl ?_
    refine z_aload_n dX6_core_17 rfl ?_
    refine z_geti dX6_core_18 fX6_49 hM.o ?_
    refine z_top (hP.1.1) ?_
    refine z_icmp_geNN (tgt := 64) dX6_core_21 (by decide) (by omega) (by omega) (fun h21 => ?_) (fun h21 => ?_)
    · have e : k = ps.length := by omega
      subst e
      exact hK
    · refine z_iload_n dX6_core_24 rfl ?_
      refine z_aload_n dX6_core_25 rfl ?_
      refine z_getr dX6_core_26 fX6_32 hM.o hM.r9 ?_
      refine z_iload_n dX6_core_29 rfl ?_
      refine z_iaN dX6_core_30 hM.a9 (by omega) (by decide) ?_
      refine z_top ((hP.2 k h21).1) ?_
      refine z_aload_n dX6_core_31 rfl ?_
      refine z_getr dX6_core_32 fX6_35 hM.o hM.r10 ?_
      refine z_iload_n dX6_core_35 rfl ?_
      refine z_iaN dX6_core_36 hM.a10 (by omega) (by decide) ?_
      refine z_top ((hP.2 k h21).2) ?_
      refine z_iorN dX6_core_37 ?_
      refine z_iload_n dX6_core_38 rfl ?_
      refine z_iandN dX6_core_39 ?_
      refine z_callS1p dX6_core_40 mX6_76 (m_ones I L _ (by rw [row_or]; exact and_lt (bm_lt 14 _))) (by decide) (Nat.le_of_ble_eq_true rfl) ⟨Nat.le_refl _, Nat.le_refl _⟩ ?_
      refine z_iconst (nI 1) dX6_core_43 (by decide) ?_
      refine z_icmp_leNN (tgt := 51) dX6_core_44 (by decide) (by have := popc_le 14 ((bm 14 (clb ps D k) ||| bm 14 (beb ps k)) &&& cor1 (lkb ps D) k s); omega) (by omega) (fun h44 => ?_) (fun h44 => ?_)
      · refine z_iconst (nI 1) dX6_core_51 (by decide) ?_
        refine z_iload_n dX6_core_52 rfl ?_
        refine z_shl1 dX6_core_53 (by omega) ?_
        refine z_iconst (-1) dX6_core_54 (by decide) ?_
        refine z_ixor dX6_core_55 ?_
        refine z_iand dX6_core_56 (z_top (nI_andn _ _) ?_)
        refine z_ist1 dX6_core_57 (by repeat first | rfl | assumption | refine zCat_s ?_ | refine zCat_a ?_ ?_) ?_
        refine z_iincN3 (n := 1) dX6_core_58 (by repeat first | rfl | assumption | refine zCat_s ?_ | refine zCat_a ?_ ?_) ?_
        refine z_goto (tgt := 16) dX6_core_61 (by decide) ?_
        refine z_rl1 ?_ (ih (k + 1) (by omega) (by omega))
        rw [cor1, ← row_or]
        first | rw [if_pos h44] | rw [if_neg (by omega)]
      · refine z_iconst (-1) dX6_core_47 (by decide) ?_
        refine z_goto (tgt := 56) dX6_core_48 (by decide) ?_
        refine z_iand dX6_core_56 (z_top (nI_andm _) ?_)
        refine z_ist1 dX6_core_57 (by repeat first | rfl | assumption | refine zCat_s ?_ | refine zCat_a ?_ ?_) ?_
        refine z_iincN3 (n := 1) dX6_core_58 (by repeat first | rfl | assumption | refine zCat_s ?_ | refine zCat_a ?_ ?_) ?_
        refine z_goto (tgt := 16) dX6_core_61 (by decide) ?_
        refine z_rl1 ?_ (ih (k + 1) (by omega) (by omega))
        rw [cor1, ← row_or]
        first | rw [if_pos h44] | rw [if_neg (by omega)]
set_option maxRecDepth 100000 in
set_option maxHeartbeats 4000000 in
theorem m_core_l {S : zS} {R : zMR} (I : zMI) (L : zML) {ps : List Pc} {D : Nat} (hM : zMO S R) (ho : psOk ps) (hP : zPM I ps D) : ∀ (n : Nat) (s t : Nat) (a3 : Option Value), popc 14 s + (if s = t then 1 else 2) ≤ n → s < 16384 → t < 16384 → zCat [a3] = true → core (lkb ps D) ps.length = itr (popc 14 s) (cor1 (lkb ps D) ps.length) s → (s = t → cor1 (lkb ps D) ps.length s = s) → zV (zMt RX6 cX6_core 4 (some .int) 2) (fun S2 I2 L2 R2 rr => S2 = S ∧ R2 = R ∧ (zPure I L (nI (core (lkb ps D) ps.length))) I2 L2 rr) (0, 0) S I L R 7 [some (.ref 96), some (.int (nI s)), some (.int (nI t)), a3] [] := by
  intro n
  induction n with
  | zero => intro s t a3 h1 hs ht h3 hi hc; split at h1 <;> omega
  | succ n ih =>
    intro s t a3 h1 hs ht h3 hi hc
    have hlen := ho.1
    have hall := all_lt hlen
    refine z_iload_n dX6_core_7 rfl ?_
    refine z_iload_n dX6_core_8 rfl ?_
    refine z_icmp_eqNN (tgt := 67) dX6_core_9 (by decide) (by omega) (by omega) (fun h9 => ?_) (fun h9 => ?_)
    · refine z_iload_n dX6_core_67 rfl ?_
      subst h9
      exact z_iret dX6_core_68 ⟨Nat.le_refl _, Nat.le_refl _⟩ rfl ⟨rfl, rfl, rfl, rfl, congrArg (fun z => some (Value.int z)) (by rw [hi, itr_fix (hc rfl)])⟩
    · refine z_iload_n dX6_core_12 rfl ?_
      refine z_ist2 dX6_core_13 (by repeat first | rfl | assumption | refine zCat_s ?_ | refine zCat_a ?_ ?_) ?_
      refine z_iconst (nI 0) dX6_core_14 (by decide) ?_
      refine z_ist3 dX6_core_15 (by repeat first | rfl | assumption | refine zCat_s ?_ | refine zCat_a ?_ ?_) ?_
      refine m_core_in I L hM ho hP hs ?_ (ps.length + 1) 0 (by omega) (by omega)
      refine z_goto (tgt := 7) dX6_core_64 (by decide) ?_
      rw [if_neg h9] at h1
      refine ih (cor1 (lkb ps D) ps.length s) s _ ?_ (cor1_lt hs _) hs rfl (hi.trans (cor_next hs)) (fun e => by rw [e]; exact e)
      by_cases e : cor1 (lkb ps D) ps.length s = s
      · rw [if_pos e, e]; omega
      · rw [if_neg e]; have := pop_lt (cor1_sub (lkb ps D) s ps.length) e hs; omega
set_option maxRecDepth 100000 in
set_option maxHeartbeats 4000000 in
theorem m_core {S : zS} {R : zMR} (I : zMI) (L : zML) {ps : List Pc} {D : Nat} (hM : zMO S R) (ho : psOk ps) (hP : zPM I ps D) : zM0 yX6_core cX6_core 4 (some .int) 2 [.ref 96] S I L R (zPure I L (nI (core (lkb ps D) ps.length))) := by
  refine zM0_of (own := RX6) (lv := [some (.ref 96), none, none, none]) rfl (by decide) rfl rfl ?_
  have hlen := ho.1
  have hall := all_lt hlen
  refine z_aload_n dX6_core_0 rfl ?_
  refine z_callV0p dX6_core_1 mX6_72 hM.o (m_all I L hM _ ho.1 hP.1.1) (by decide) (Nat.le_of_ble_eq_true rfl) ⟨Nat.le_refl _, Nat.le_refl _⟩ ?_
  refine z_ist1 dX6_core_4 rfl ?_
  refine z_iconst (nI 0) dX6_core_5 (by decide) ?_
  refine z_ist2 dX6_core_6 rfl ?_
  exact m_core_l I L hM ho hP 17 _ 0 none (by have := popc_le 14 (2 ^ ps.length - 1); split <;> omega) hall (by decide) rfl (by rw [popc_low _ (by omega)]; rfl) (fun e => by rw [e]; exact sbs.antisymm (cor1_sub _ 0 _) (fun i hi => by simp at hi))
set_option maxRecDepth 100000 in
set_option maxHeartbeats 4000000 in
theorem m_br_in {S : zS} {R : zMR} (I : zMI) (L : zML) {ps : List Pc} {D : Nat} (hM : zMO S R) (ho : psOk ps) (hP : zPM I ps D) {Post0 : zPost} {p c : Nat} (hp : p < ps.length) (hK : zV (zMt RX6 cX6_bridges 4 (some .int) 2) Post0 (0, 0) S I L R 75 [some (.ref 96), some (.int (nI (c + brF (lkb ps D) ps.length p ps.length))), some (.int (nI p)), some (.int (nI ps.length))] [])  : ∀ (n : Nat) (q : Nat), ps.length + 1 ≤ q + n → q ≤ ps.length → p < q → zV (zMt RX6 cX6_bridges 4 (some .int) 2) Post0 (0, 0) S I L R 16 [some (.ref 96), some (.int (nI (c + brF (lkb ps D) ps.length p q))), some (.int (nI p)), some (.int (nI q))] [] := by
  intro n
  induction n with
  | zero => intro q h1 h2 h3; omega
  | succ n ih =>
    intro q h1 h2 h3
    have hlen := ho.1
    have hall := all_lt hlen
    refine z_iload_n dX6_bridges_16 rfl ?_
    refine z_aload_n dX6_bridges_17 rfl ?_
    refine z_geti dX6_bridges_18 fX6_49 hM.o ?_
    refine z_top (hP.1.1) ?_
    refine z_icmp_geNN (tgt := 75) dX6_bridges_21 (by decide) (by omega) (by omega) (fun h21 => ?_) (fun h21 => ?_)
    · have e : q = ps.length := by omega
      subst e
      exact hK
    · refine z_iload_n dX6_bridges_24 rfl ?_
      refine z_aload_n dX6_bridges_25 rfl ?_
      refine z_getr dX6_bridges_26 fX6_32 hM.o hM.r9 ?_
      refine z_iload_n dX6_bridges_29 rfl ?_
      refine z_iaN dX6_bridges_30 hM.a9 (by omega) (by decide) ?_
      refine z_top ((hP.2 p hp).1) ?_
      refine z_aload_n dX6_bridges_31 rfl ?_
      refine z_getr dX6_bridges_32 fX6_35 hM.o hM.r10 ?_
      refine z_iload_n dX6_bridges_35 rfl ?_
      refine z_iaN dX6_bridges_36 hM.a10 (by omega) (by decide) ?_
      refine z_top ((hP.2 p hp).2) ?_
      refine z_iorN dX6_bridges_37 ?_
      refine z_top (congrArg nI (row_or ps D p)) ?_
      refine z_iload_n dX6_bridges_38 rfl ?_
      refine z_callS2p dX6_bridges_39 mX6_68 (m_has I L _ q (by have := bm_lt 14 (lkb ps D p); omega) (by omega)) (by decide) (Nat.le_of_ble_eq_true rfl) ⟨Nat.le_refl _, Nat.le_refl _⟩ ?_
      refine z_if_eqB (tgt := 66) dX6_bridges_42 (by decide) (fun h42 => ?_) (fun h42 => ?_)
      · have hA : lkb ps D p q = false := by cases e : lkb ps D p q with | false => rfl | true => exact absurd (by rw [bm_bit, e]; simp [show q < 14 from by omega]) h42
        refine z_iconst (nI 0) dX6_bridges_66 (by decide) ?_
        refine z_iaddN dX6_bridges_67 ?_
        refine z_ist1 dX6_bridges_68 (by repeat first | rfl | assumption | refine zCat_s ?_ | refine zCat_a ?_ ?_) ?_
        refine z_iincN3 (n := 1) dX6_bridges_69 (by repeat first | rfl | assumption | refine zCat_s ?_ | refine zCat_a ?_ ?_) ?_
        refine z_goto (tgt := 16) dX6_bridges_72 (by decide) ?_
        refine z_rl1 ?_ (ih (q + 1) (by omega) (by omega) (by omega))
        rw [brF, decide_eq_true (show p < q from by omega), hA, ← Nat.add_assoc]
        first | (simp only [Bool.false_and, Bool.and_false, Bool.toNat_false]) | (rw [brg hlen (lkb_adj ps D) (lkb_irr ps D) hp (show p ≠ q from by omega)] at h59; first | (rw [h59]; simp) | (rw [show (reach (lkb ps D) ps.length (andn (bm 14 (lkb ps D p)) (2 ^ q)) (andn (2 ^ ps.length - 1) (2 ^ p))).testBit q = false from by simpa using h59]; simp))
      · have hA : lkb ps D p q = true := by rw [bm_bit, Bool.and_eq_true] at h42; exact h42.2
        refine z_aload_n dX6_bridges_45 rfl ?_
        refine z_iconst (nI 1) dX6_bridges_46 (by decide) ?_
        refine z_iload_n dX6_bridges_47 rfl ?_
        refine z_shl1 dX6_bridges_48 (by omega) ?_
        refine z_iconst (nI 0) dX6_bridges_49 (by decide) ?_
        refine z_iload_n dX6_bridges_50 rfl ?_
        refine z_iload_n dX6_bridges_51 rfl ?_
        refine z_callV4p dX6_bridges_52 mX6_209 hM.o (m_hangX I L hM ho hP (2 ^ p) p q (Nat.pow_lt_pow_right (by decide) hp) hp h21 (by omega)) (by decide) (Nat.le_of_ble_eq_true rfl) ⟨Nat.le_refl _, Nat.le_refl _⟩ ?_
        have hrl := reach_lt (A := lkX (lkb ps D) p q) (n := ps.length) (w := 2 ^ ps.length - 1) (pow14 (show p < 14 from by omega))
        refine z_iload_n dX6_bridges_55 rfl ?_
        refine z_callS2p dX6_bridges_56 mX6_68 (m_has I L _ q (by omega) (by omega)) (by decide) (Nat.le_of_ble_eq_true rfl) ⟨Nat.le_refl _, Nat.le_refl _⟩ ?_
        refine z_if_neB (tgt := 66) dX6_bridges_59 (by decide) (fun h59 => ?_) (fun h59 => ?_)
        · refine z_iconst (nI 0) dX6_bridges_66 (by decide) ?_
          refine z_iaddN dX6_bridges_67 ?_
          refine z_ist1 dX6_bridges_68 (by repeat first | rfl | assumption | refine zCat_s ?_ | refine zCat_a ?_ ?_) ?_
          refine z_iincN3 (n := 1) dX6_bridges_69 (by repeat first | rfl | assumption | refine zCat_s ?_ | refine zCat_a ?_ ?_) ?_
          refine z_goto (tgt := 16) dX6_bridges_72 (by decide) ?_
          refine z_rl1 ?_ (ih (q + 1) (by omega) (by omega) (by omega))
          rw [brF, decide_eq_true (show p < q from by omega), hA, ← Nat.add_assoc]
          first | (simp only [Bool.false_and, Bool.and_false, Bool.toNat_false]) | (rw [brg hlen (lkb_adj ps D) (lkb_irr ps D) hp (show p ≠ q from by omega)] at h59; first | (rw [h59]; simp) | (rw [show (reach (lkb ps D) ps.length (andn (bm 14 (lkb ps D p)) (2 ^ q)) (andn (2 ^ ps.length - 1) (2 ^ p))).testBit q = false from by simpa using h59]; simp))
        · refine z_iconst (nI 1) dX6_bridges_62 (by decide) ?_
          refine z_goto (tgt := 67) dX6_bridges_63 (by decide) ?_
          refine z_iaddN dX6_bridges_67 ?_
          refine z_ist1 dX6_bridges_68 (by repeat first | rfl | assumption | refine zCat_s ?_ | refine zCat_a ?_ ?_) ?_
          refine z_iincN3 (n := 1) dX6_bridges_69 (by repeat first | rfl | assumption | refine zCat_s ?_ | refine zCat_a ?_ ?_) ?_
          refine z_goto (tgt := 16) dX6_bridges_72 (by decide) ?_
          refine z_rl1 ?_ (ih (q + 1) (by omega) (by omega) (by omega))
          rw [brF, decide_eq_true (show p < q from by omega), hA, ← Nat.add_assoc]
          first | (simp only [Bool.false_and, Bool.and_false, Bool.toNat_false]) | (rw [brg hlen (lkb_adj ps D) (lkb_irr ps D) hp (show p ≠ q from by omega)] at h59; first | (rw [h59]; simp) | (rw [show (reach (lkb ps D) ps.length (andn (bm 14 (lkb ps D p)) (2 ^ q)) (andn (2 ^ ps.length - 1) (2 ^ p))).testBit q = false from by simpa using h59]; simp))
set_option maxRecDepth 100000 in
set_option maxHeartbeats 4000000 in
theorem m_br_l {S : zS} {R : zMR} (I : zMI) (L : zML) {ps : List Pc} {D : Nat} (hM : zMO S R) (ho : psOk ps) (hP : zPM I ps D) : ∀ (n : Nat) (p : Nat) (a3 : Option Value), ps.length + 1 ≤ p + n → p ≤ ps.length → zCat [a3] = true → zV (zMt RX6 cX6_bridges 4 (some .int) 2) (fun S2 I2 L2 R2 rr => S2 = S ∧ R2 = R ∧ (zPure I L (nI (brs (lkb ps D) ps.length))) I2 L2 rr) (0, 0) S I L R 4 [some (.ref 96), some (.int (nI (sm p (fun p => brF (lkb ps D) ps.length p ps.length)))), some (.int (nI p)), a3] [] := by
  intro n
  induction n with
  | zero => intro p a3 h1 h2 h3; omega
  | succ n ih =>
    intro p a3 h1 h2 h3
    have hlen := ho.1
    have hall := all_lt hlen
    refine z_iload_n dX6_bridges_4 rfl ?_
    refine z_aload_n dX6_bridges_5 rfl ?_
    refine z_geti dX6_bridges_6 fX6_49 hM.o ?_
    refine z_top (hP.1.1) ?_
    refine z_icmp_geNN (tgt := 81) dX6_bridges_9 (by decide) (by omega) (by omega) (fun h9 => ?_) (fun h9 => ?_)
    · refine z_iload_n dX6_bridges_81 rfl ?_
      have e : p = ps.length := by omega
      subst e
      exact z_iret dX6_bridges_82 ⟨Nat.le_refl _, Nat.le_refl _⟩ rfl ⟨rfl, rfl, rfl, rfl, congrArg (fun z => some (Value.int z)) (rfl)⟩
    · refine z_iload_n dX6_bridges_12 rfl ?_
      refine z_iconst (nI 1) dX6_bridges_13 (by decide) ?_
      refine z_iaddN dX6_bridges_14 ?_
      refine z_ist3 dX6_bridges_15 (by repeat first | rfl | assumption | refine zCat_s ?_ | refine zCat_a ?_ ?_) ?_
      refine z_rl1 (y := sm p (fun p => brF (lkb ps D) ps.length p ps.length) + brF (lkb ps D) ps.length p (p + 1)) (by rw [brF_lo (p + 1) (Nat.le_refl _)]; rfl) (m_br_in I L hM ho hP h9 ?_ (ps.length + 1) (p + 1) (by omega) (by omega) (by omega))
      refine z_iincN2 (n := 1) dX6_bridges_75 rfl ?_
      refine z_goto (tgt := 4) dX6_bridges_78 (by decide) ?_
      exact ih (p + 1) _ (by omega) (by omega) rfl
set_option maxRecDepth 100000 in
set_option maxHeartbeats 4000000 in
theorem m_bridges {S : zS} {R : zMR} (I : zMI) (L : zML) {ps : List Pc} {D : Nat} (hM : zMO S R) (ho : psOk ps) (hP : zPM I ps D) : zM0 yX6_bridges cX6_bridges 4 (some .int) 2 [.ref 96] S I L R (zPure I L (nI (brs (lkb ps D) ps.length))) := by
  refine zM0_of (own := RX6) (lv := [some (.ref 96), none, none, none]) rfl (by decide) rfl rfl ?_
  refine z_iconst (nI 0) dX6_bridges_0 (by decide) ?_
  refine z_ist1 dX6_bridges_1 rfl ?_
  refine z_iconst (nI 0) dX6_bridges_2 (by decide) ?_
  refine z_ist2 dX6_bridges_3 rfl ?_
  exact m_br_l I L hM ho hP (ps.length + 1) 0 none (by omega) (by omega) rfl
theorem z_rl3 {g : zG} {Post : zPost} {u : Nat × Nat} {S : zS} {I : zMI} {L : zML} {R : zMR} {pc : Nat} {a0 a2 a3 a4 : Option Value} {x y : Nat} (h : y = x) (k : zV g Post u S I L R pc [a0, some (.int (nI y)), a2, a3, a4] []) : zV g Post u S I L R pc [a0, some (.int (nI x)), a2, a3, a4] [] := by rw [← h]; exact k
theorem part_2n {A : Nat → Nat → Bool} {n p : Nat} (hn : n ≤ 14) (hA : adj A n) (hp : p < n) : part A n p < 2 ^ n := by
  apply bits_lt
  intro i hi
  cases e : (part A n p).testBit i
  · rfl
  · have := (part_cls hn hA hp).2.2 (2 ^ n - 1) (fun j hj => by rw [two_bit, decide_eq_true_eq] at hj; subst hj; rw [all_bit]; simp [hp]) (fun a b _ hab => by rw [all_bit]; simp [(hA a b hab).2]) i e
    rw [all_bit, decide_eq_true_eq] at this
    omega
set_option maxRecDepth 100000 in
set_option maxHeartbeats 4000000 in
theorem m_hinges_l {S : zS} {R : zMR} (I : zMI) (L : zML) {ps : List Pc} {D : Nat} (hM : zMO S R) (ho : psOk ps) (hP : zPM I ps D) : ∀ (n : Nat) (p : Nat) (a3 a4 : Option Value), ps.length + 1 ≤ p + n → p ≤ ps.length → zCat [a3] = true → zCat [a4] = true → zV (zMt RX6 cX6_hinges 5 (some .int) 3) (fun S2 I2 L2 R2 rr => S2 = S ∧ R2 = R ∧ (zPure I L (nI (hgs (lkb ps D) ps.length))) I2 L2 rr) (0, 0) S I L R 4 [some (.ref 96), some (.int (nI (bm 14 (fun q => decide (q < p) && hin (lkb ps D) ps.length q)))), some (.int (nI p)), a3, a4] [] := by
  intro n
  induction n with
  | zero => intro p a3 a4 h1 h2 h3 h4; omega
  | succ n ih =>
    intro p a3 a4 h1 h2 h3 h4
    have hlen := ho.1
    have hall := all_lt hlen
    refine z_iload_n dX6_hinges_4 rfl ?_
    refine z_aload_n dX6_hinges_5 rfl ?_
    refine z_geti dX6_hinges_6 fX6_49 hM.o ?_
    refine z_top (hP.1.1) ?_
    refine z_icmp_geNN (tgt := 65) dX6_hinges_9 (by decide) (by omega) (by omega) (fun h9 => ?_) (fun h9 => ?_)
    · refine z_iload_n dX6_hinges_65 rfl ?_
      have e : p = ps.length := by omega
      subst e
      exact z_iret dX6_hinges_66 ⟨Nat.le_refl _, Nat.le_refl _⟩ rfl ⟨rfl, rfl, rfl, rfl, congrArg (fun z => some (Value.int z)) (rfl)⟩
    · have ho9 : (andn (part (lkb ps D) ps.length p) (2 ^ p)) < 16384 := Nat.lt_of_le_of_lt (andn_le _ _) (part_lt (show p < 14 from by omega))
      have hg := hng hlen (lkb_adj ps D) h9
      have hl9 : lowb (andn (part (lkb ps D) ps.length p) (2 ^ p)) < 16384 := Nat.lt_of_le_of_lt (andn_le _ _) ho9
      refine z_aload_n dX6_hinges_12 rfl ?_
      refine z_iload_n dX6_hinges_13 rfl ?_
      refine z_callV1p dX6_hinges_14 mX6_212 hM.o (m_partOf I L hM ho hP p h9) (by decide) (Nat.le_of_ble_eq_true rfl) ⟨Nat.le_refl _, Nat.le_refl _⟩ ?_
      refine z_iconst (nI 1) dX6_hinges_17 (by decide) ?_
      refine z_iload_n dX6_hinges_18 rfl ?_
      refine z_shl1 dX6_hinges_19 (by omega) ?_
      refine z_iconst (-1) dX6_hinges_20 (by decide) ?_
      refine z_ixor dX6_hinges_21 ?_
      refine z_iand dX6_hinges_22 (z_top (nI_andn _ _) ?_)
      refine z_ist3 dX6_hinges_23 (by repeat first | rfl | assumption | refine zCat_s ?_ | refine zCat_a ?_ ?_) ?_
      refine z_iload_n dX6_hinges_24 rfl ?_
      refine z_iload_n dX6_hinges_25 rfl ?_
      refine z_ineg dX6_hinges_26 ?_
      refine z_iand dX6_hinges_27 (z_top (nI_low ho9) ?_)
      refine z_ist4 dX6_hinges_28 (by repeat first | rfl | assumption | refine zCat_s ?_ | refine zCat_a ?_ ?_) ?_
      refine z_iload_n dX6_hinges_30 rfl ?_
      refine z_iload_n dX6_hinges_31 rfl ?_
      refine z_if_eqN (tgt := 56) dX6_hinges_32 (by decide) (by omega) (fun h32 => ?_) (fun h32 => ?_)
      · refine z_iconst (nI 0) dX6_hinges_56 (by decide) ?_
        refine z_iorN dX6_hinges_57 ?_
        refine z_ist1 dX6_hinges_58 (by repeat first | rfl | assumption | refine zCat_s ?_ | refine zCat_a ?_ ?_) ?_
        refine z_iincN2 (n := 1) dX6_hinges_59 (by repeat first | rfl | assumption | refine zCat_s ?_ | refine zCat_a ?_ ?_) ?_
        refine z_goto (tgt := 4) dX6_hinges_62 (by decide) ?_
        refine z_rl3 ?_ (ih (p + 1) _ _ (by omega) (by omega) rfl rfl)
        first | exact (bmn_f (f := hin (lkb ps D) ps.length) (hg.1 h32)).symm | exact (bmn_f (f := hin (lkb ps D) ps.length) (by unfold hin; rw [← hg.2 (by omega), h47]; simp)).symm | exact (bmn_t (f := hin (lkb ps D) ps.length) (by omega) (by unfold hin; rw [← hg.2 (by omega)]; simp only [decide_eq_true_eq]; exact h47)).symm
      · obtain ⟨k9, ek9, hk9, -⟩ := lowb_spec (show (andn (part (lkb ps D) ps.length p) (2 ^ p)) ≠ 0 from by omega)
        have hf9 : lowb (andn (part (lkb ps D) ps.length p) (2 ^ p)) < 2 ^ ps.length := by rw [ek9]; exact Nat.pow_lt_pow_right (by decide) (bit_lt (Nat.lt_of_le_of_lt (andn_le _ _) (part_2n hlen (lkb_adj ps D) h9)) hk9)
        refine z_aload_n dX6_hinges_35 rfl ?_
        refine z_iload dX6_hinges_36 rfl ?_
        refine z_iconst (nI 1) dX6_hinges_38 (by decide) ?_
        refine z_iload_n dX6_hinges_39 rfl ?_
        refine z_shl1 dX6_hinges_40 (by omega) ?_
        refine z_iconst (-1) dX6_hinges_41 (by decide) ?_
        refine z_iconst (-1) dX6_hinges_42 (by decide) ?_
        refine z_callV4p dX6_hinges_43 mX6_209 hM.o (m_hangA I L hM ho hP (lowb (andn (part (lkb ps D) ps.length p) (2 ^ p))) (2 ^ p) hf9 (pow14 (by omega))) (by decide) (Nat.le_of_ble_eq_true rfl) ⟨Nat.le_refl _, Nat.le_refl _⟩ ?_
        have hr9 := reach_lt (A := lkW (lkb ps D) (2 ^ p)) (n := ps.length) (w := 2 ^ ps.length - 1) hl9
        refine z_iload_n dX6_hinges_46 rfl ?_
        refine z_icmp_eqNN (tgt := 56) dX6_hinges_47 (by decide) (by omega) (by omega) (fun h47 => ?_) (fun h47 => ?_)
        · refine z_iconst (nI 0) dX6_hinges_56 (by decide) ?_
          refine z_iorN dX6_hinges_57 ?_
          refine z_ist1 dX6_hinges_58 (by repeat first | rfl | assumption | refine zCat_s ?_ | refine zCat_a ?_ ?_) ?_
          refine z_iincN2 (n := 1) dX6_hinges_59 (by repeat first | rfl | assumption | refine zCat_s ?_ | refine zCat_a ?_ ?_) ?_
          refine z_goto (tgt := 4) dX6_hinges_62 (by decide) ?_
          refine z_rl3 ?_ (ih (p + 1) _ _ (by omega) (by omega) rfl rfl)
          first | exact (bmn_f (f := hin (lkb ps D) ps.length) (hg.1 h32)).symm | exact (bmn_f (f := hin (lkb ps D) ps.length) (by unfold hin; rw [← hg.2 (by omega), h47]; simp)).symm | exact (bmn_t (f := hin (lkb ps D) ps.length) (by omega) (by unfold hin; rw [← hg.2 (by omega)]; simp only [decide_eq_true_eq]; exact h47)).symm
        · refine z_iconst (nI 1) dX6_hinges_50 (by decide) ?_
          refine z_iload_n dX6_hinges_51 rfl ?_
          refine z_shl1 dX6_hinges_52 (by omega) ?_
          refine z_goto (tgt := 57) dX6_hinges_53 (by decide) ?_
          refine z_iorN dX6_hinges_57 ?_
          refine z_ist1 dX6_hinges_58 (by repeat first | rfl | assumption | refine zCat_s ?_ | refine zCat_a ?_ ?_) ?_
          refine z_iincN2 (n := 1) dX6_hinges_59 (by repeat first | rfl | assumption | refine zCat_s ?_ | refine zCat_a ?_ ?_) ?_
          refine z_goto (tgt := 4) dX6_hinges_62 (by decide) ?_
          refine z_rl3 ?_ (ih (p + 1) _ _ (by omega) (by omega) rfl rfl)
          first | exact (bmn_f (f := hin (lkb ps D) ps.length) (hg.1 h32)).symm | exact (bmn_f (f := hin (lkb ps D) ps.length) (by unfold hin; rw [← hg.2 (by omega), h47]; simp)).symm | exact (bmn_t (f := hin (lkb ps D) ps.length) (by omega) (by unfold hin; rw [← hg.2 (by omega)]; simp only [decide_eq_true_eq]; exact h47)).symm
set_option maxRecDepth 100000 in
set_option maxHeartbeats 4000000 in
theorem m_hinges {S : zS} {R : zMR} (I : zMI) (L : zML) {ps : List Pc} {D : Nat} (hM : zMO S R) (ho : psOk ps) (hP : zPM I ps D) : zM0 yX6_hinges cX6_hinges 5 (some .int) 3 [.ref 96] S I L R (zPure I L (nI (hgs (lkb ps D) ps.length))) := by
  refine zM0_of (own := RX6) (lv := [some (.ref 96), none, none, none, none]) rfl (by decide) rfl rfl ?_
  refine z_iconst (nI 0) dX6_hinges_0 (by decide) ?_
  refine z_ist1 dX6_hinges_1 rfl ?_
  refine z_iconst (nI 0) dX6_hinges_2 (by decide) ?_
  refine z_ist2 dX6_hinges_3 rfl ?_
  have z := m_hinges_l I L hM ho hP (ps.length + 1) 0 none none (by omega) (by omega) rfl rfl
  rw [bmn_0] at z
  exact z
set_option maxRecDepth 100000 in
set_option maxHeartbeats 4000000 in
theorem m_cp_l {S : zS} {R : zMR} (I : zMI) (L : zML) {ps : List Pc} {D : Nat} (hM : zMO S R) (ho : psOk ps) (hP : zPM I ps D) : ∀ (n : Nat) (p : Nat), ps.length + 1 ≤ p + n → p ≤ ps.length → zV (zMt RX6 cX6_closePairs 3 (some .int) 1) (fun S2 I2 L2 R2 rr => S2 = S ∧ R2 = R ∧ (zPure I L (nI (sm ps.length (fun p => popc 14 (bm 14 (clb ps D p))) / 2))) I2 L2 rr) (0, 0) S I L R 4 [some (.ref 96), some (.int (nI (sm p (fun p => popc 14 (bm 14 (clb ps D p)))))), some (.int (nI p))] [] := by
  intro n
  induction n with
  | zero => intro p h1 h2; omega
  | succ n ih =>
    intro p h1 h2
    have hlen := ho.1
    have hall := all_lt hlen
    have hs9 := sm_le (n := p) (f := (fun p => popc 14 (bm 14 (clb ps D p)))) (k := 14) (fun i _ => popc_le 14 _)
    have hs8 := Nat.mul_le_mul_right 14 (show p ≤ 14 from by omega)
    refine z_iload_n dX6_closePairs_4 rfl ?_
    refine z_aload_n dX6_closePairs_5 rfl ?_
    refine z_geti dX6_closePairs_6 fX6_49 hM.o ?_
    refine z_top (hP.1.1) ?_
    refine z_icmp_geNN (tgt := 30) dX6_closePairs_9 (by decide) (by omega) (by omega) (fun h9 => ?_) (fun h9 => ?_)
    · have e : p = ps.length := by omega
      subst e
      refine z_iload_n dX6_closePairs_30 rfl ?_
      refine z_iconst (nI 2) dX6_closePairs_31 (by decide) ?_
      refine z_idivN dX6_closePairs_32 (by omega) (by omega) (by omega) ?_
      exact z_iret dX6_closePairs_33 ⟨Nat.le_refl _, Nat.le_refl _⟩ rfl ⟨rfl, rfl, rfl, rfl, congrArg (fun z => some (Value.int z)) (rfl)⟩
    · refine z_iload_n dX6_closePairs_12 rfl ?_
      refine z_aload_n dX6_closePairs_13 rfl ?_
      refine z_getr dX6_closePairs_14 fX6_32 hM.o hM.r9 ?_
      refine z_iload_n dX6_closePairs_17 rfl ?_
      refine z_iaN dX6_closePairs_18 hM.a9 (by omega) (by decide) ?_
      refine z_top ((hP.2 p h9).1) ?_
      refine z_callS1p dX6_closePairs_19 mX6_76 (m_ones I L _ (bm_lt 14 _)) (by decide) (Nat.le_of_ble_eq_true rfl) ⟨Nat.le_refl _, Nat.le_refl _⟩ ?_
      refine z_iaddN dX6_closePairs_22 ?_
      refine z_ist1 dX6_closePairs_23 rfl ?_
      refine z_iincN2 (n := 1) dX6_closePairs_24 rfl ?_
      refine z_goto (tgt := 4) dX6_closePairs_27 (by decide) ?_
      exact ih (p + 1) (by omega) (by omega)
set_option maxRecDepth 100000 in
set_option maxHeartbeats 4000000 in
theorem m_closePairs {S : zS} {R : zMR} (I : zMI) (L : zML) {ps : List Pc} {D : Nat} (hM : zMO S R) (ho : psOk ps) (hP : zPM I ps D) : zM0 yX6_closePairs cX6_closePairs 3 (some .int) 1 [.ref 96] S I L R (zPure I L (nI (sm ps.length (fun p => popc 14 (bm 14 (clb ps D p))) / 2))) := by
  refine zM0_of (own := RX6) (lv := [some (.ref 96), none, none]) rfl (by decide) rfl rfl ?_
  refine z_iconst (nI 0) dX6_closePairs_0 (by decide) ?_
  refine z_ist1 dX6_closePairs_1 rfl ?_
  refine z_iconst (nI 0) dX6_closePairs_2 (by decide) ?_
  refine z_ist2 dX6_closePairs_3 rfl ?_
  exact m_cp_l I L hM ho hP (ps.length + 1) 0 (by omega) (by omega)
theorem z_rl2 {g : zG} {Post : zPost} {u : Nat × Nat} {S : zS} {I : zMI} {L : zML} {R : zMR} {pc : Nat} {a0 a2 : Option Value} {x y : Nat} (h : y = x) (k : zV g Post u S I L R pc [a0, some (.int (nI y)), a2] []) : zV g Post u S I L R pc [a0, some (.int (nI x)), a2] [] := by rw [← h]; exact k
set_option maxRecDepth 100000 in
set_option maxHeartbeats 4000000 in
theorem m_fs_l {S : zS} {R : zMR} (I : zMI) (L : zML) {v : Ly} (hM : zMO S R) (hv : zMb (I 97) 0 v) (ho : lyOk v) (hP : zPM I (pcs v.1) (lD v)) : ∀ (n : Nat) (p : Nat), (pcs v.1).length + 1 ≤ p + n → p ≤ (pcs v.1).length → zV (zMt RX6 cX6_fixedSet 3 (some .int) 1) (fun S2 I2 L2 R2 rr => S2 = S ∧ R2 = R ∧ (zPure I L (nI (fm (lfx v)))) I2 L2 rr) (0, 0) S I L R 4 [some (.ref 96), some (.int (nI (bm 14 (fun q => decide (q < p) && decide (lfx v q ≠ 0))))), some (.int (nI p))] [] := by
  intro n
  induction n with
  | zero => intro p h1 h2; omega
  | succ n ih =>
    intro p h1 h2
    have hlen := (pcs_ok ho).1
    have hfx := ho.2.2.2.2.2.2.2.2.1 p
    refine z_iload_n dX6_fixedSet_4 rfl ?_
    refine z_aload_n dX6_fixedSet_5 rfl ?_
    refine z_geti dX6_fixedSet_6 fX6_49 hM.o ?_
    refine z_top (hP.1.1) ?_
    refine z_icmp_geNN (tgt := 40) dX6_fixedSet_9 (by decide) (by omega) (by omega) (fun h9 => ?_) (fun h9 => ?_)
    · refine z_iload_n dX6_fixedSet_40 rfl ?_
      have e : p = (pcs v.1).length := by omega
      subst e
      exact z_iret dX6_fixedSet_41 ⟨Nat.le_refl _, Nat.le_refl _⟩ rfl ⟨rfl, rfl, rfl, rfl, congrArg (fun z => some (Value.int z)) (congrArg nI (fm_n ho))⟩
    · refine z_iload_n dX6_fixedSet_12 rfl ?_
      refine z_aload_n dX6_fixedSet_13 rfl ?_
      refine z_getr dX6_fixedSet_14 fX6_7 hM.o hM.r0 ?_
      refine z_bipush (nI 64) dX6_fixedSet_17 (by decide) ?_
      refine z_iload_n dX6_fixedSet_19 rfl ?_
      refine z_iaddN dX6_fixedSet_20 ?_
      refine z_iaN dX6_fixedSet_21 hM.a0 (by omega) (by decide) ?_
      refine z_top ((show _ = nI (lfx v p) from by have := hv.2.2.2.2.2 p (by omega); simpa using this)) ?_
      refine z_if_leN (tgt := 31) dX6_fixedSet_22 (by decide) (by omega) (fun h22 => ?_) (fun h22 => ?_)
      · refine z_iconst (nI 0) dX6_fixedSet_31 (by decide) ?_
        refine z_iorN dX6_fixedSet_32 ?_
        refine z_ist1 dX6_fixedSet_33 rfl ?_
        refine z_iincN2 (n := 1) dX6_fixedSet_34 rfl ?_
        refine z_goto (tgt := 4) dX6_fixedSet_37 (by decide) ?_
        refine z_rl2 ?_ (ih (p + 1) (by omega) (by omega))
        first | exact (bmn_f (f := fun q => decide (lfx v q ≠ 0)) (by simp; omega)).symm | exact (bmn_t (f := fun q => decide (lfx v q ≠ 0)) (by omega) (by simp; omega)).symm
      · refine z_iconst (nI 1) dX6_fixedSet_25 (by decide) ?_
        refine z_iload_n dX6_fixedSet_26 rfl ?_
        refine z_shl1 dX6_fixedSet_27 (by omega) ?_
        refine z_goto (tgt := 32) dX6_fixedSet_28 (by decide) ?_
        refine z_iorN dX6_fixedSet_32 ?_
        refine z_ist1 dX6_fixedSet_33 rfl ?_
        refine z_iincN2 (n := 1) dX6_fixedSet_34 rfl ?_
        refine z_goto (tgt := 4) dX6_fixedSet_37 (by decide) ?_
        refine z_rl2 ?_ (ih (p + 1) (by omega) (by omega))
        first | exact (bmn_f (f := fun q => decide (lfx v q ≠ 0)) (by simp; omega)).symm | exact (bmn_t (f := fun q => decide (lfx v q ≠ 0)) (by omega) (by simp; omega)).symm
set_option maxRecDepth 100000 in
set_option maxHeartbeats 4000000 in
theorem m_fixedSet {S : zS} {R : zMR} (I : zMI) (L : zML) {v : Ly} (hM : zMO S R) (hv : zMb (I 97) 0 v) (ho : lyOk v) (hP : zPM I (pcs v.1) (lD v)) : zM0 yX6_fixedSet cX6_fixedSet 3 (some .int) 1 [.ref 96] S I L R (zPure I L (nI (fm (lfx v)))) := by
  refine zM0_of (own := RX6) (lv := [some (.ref 96), none, none]) rfl (by decide) rfl rfl ?_
  refine z_iconst (nI 0) dX6_fixedSet_0 (by decide) ?_
  refine z_ist1 dX6_fixedSet_1 rfl ?_
  refine z_iconst (nI 0) dX6_fixedSet_2 (by decide) ?_
  refine z_ist2 dX6_fixedSet_3 rfl ?_
  have z := m_fs_l I L hM hv ho hP ((pcs v.1).length + 1) 0 (by omega) (by omega)
  rw [bmn_0] at z
  exact z
