set_option maxRecDepth 100000 in
set_option maxHeartbeats 4000000 in
theorem m_note_a {Post0 : zPost} {S : zS} {R : zMR} (I : zMI) (L : zML) (hM : zMO S R) (hK : ∀ J, cpI I J 98 (fun x => I 98 (x + 78)) 0 546 → zV (zMt RX6 cX6_note 2 none 0) Post0 (0, 0) S J L R 39 [some (.ref 96), some (.int (nI 546))] [])  : ∀ (n : Nat) (k : Nat) (J : zMI), 547 ≤ k + n → k ≤ 546 → cpI I J 98 (fun x => I 98 (x + 78)) 0 k → zV (zMt RX6 cX6_note 2 none 0) Post0 (0, 0) S J L R 11 [some (.ref 96), some (.int (nI k))] [] := by
  intro n
  induction n with
  | zero => intro k J h1 h2 hc; omega
  | succ n ih =>
    intro k J h1 h2 hc
    refine z_iload_n dX6_note_11 rfl ?_
    refine z_sipush (nI 546) dX6_note_12 (by decide) ?_
    refine z_icmp_geNN (tgt := 39) dX6_note_15 (by decide) (by omega) (by omega) (fun h15 => ?_) (fun h15 => ?_)
    · have e : k = 546 := by omega
      subst e
      exact hK J hc
    · refine z_aload_n dX6_note_18 rfl ?_
      refine z_getr dX6_note_19 fX6_13 hM.o hM.r1 ?_
      refine z_iload_n dX6_note_22 rfl ?_
      refine z_aload_n dX6_note_23 rfl ?_
      refine z_getr dX6_note_24 fX6_13 hM.o hM.r1 ?_
      refine z_iload_n dX6_note_27 rfl ?_
      refine z_bipush (nI 78) dX6_note_28 (by decide) ?_
      refine z_iaddN dX6_note_30 ?_
      refine z_iaN dX6_note_31 hM.a1 (by omega) (by decide) ?_
      refine z_isN dX6_note_32 hM.a1 (by omega) (by decide) ?_
      refine z_iincN1 (n := 1) dX6_note_33 rfl ?_
      refine z_goto (tgt := 11) dX6_note_36 (by decide) ?_
      exact ih (k + 1) _ (by omega) (by omega) (cp_s hc (by omega) (by rw [cp_out hc (by omega)]))
set_option maxRecDepth 100000 in
set_option maxHeartbeats 4000000 in
theorem m_note_b {Post0 : zPost} {S : zS} {R : zMR} (I : zMI) (L : zML) (hM : zMO S R) (u : Nat) (hu : u ≤ 7) (h0 : I 96 2 = nI u) (hK : ∀ J, cpI I J 98 (I 97) (78 * u) 78 → zV (zMt RX6 cX6_note 2 none 0) Post0 (0, 0) S J L R 83 [some (.ref 96), some (.int (nI 78))] [])  : ∀ (n : Nat) (k : Nat) (J : zMI), 79 ≤ k + n → k ≤ 78 → cpI I J 98 (I 97) (78 * u) k → zV (zMt RX6 cX6_note 2 none 0) Post0 (0, 0) S J L R 51 [some (.ref 96), some (.int (nI k))] [] := by
  intro n
  induction n with
  | zero => intro k J h1 h2 hc; omega
  | succ n ih =>
    intro k J h1 h2 hc
    refine z_iload_n dX6_note_51 rfl ?_
    refine z_bipush (nI 78) dX6_note_52 (by decide) ?_
    refine z_icmp_geNN (tgt := 83) dX6_note_54 (by decide) (by omega) (by omega) (fun h54 => ?_) (fun h54 => ?_)
    · have e : k = 78 := by omega
      subst e
      exact hK J hc
    · refine z_aload_n dX6_note_57 rfl ?_
      refine z_getr dX6_note_58 fX6_13 hM.o hM.r1 ?_
      refine z_bipush (nI 78) dX6_note_61 (by decide) ?_
      refine z_aload_n dX6_note_63 rfl ?_
      refine z_geti dX6_note_64 fX6_116 hM.o ?_
      refine z_top ((show _ = nI u from by rw [hc.2 96 (by decide)]; exact h0)) ?_
      refine z_imulN dX6_note_67 ?_
      refine z_iload_n dX6_note_68 rfl ?_
      refine z_iaddN dX6_note_69 ?_
      refine z_aload_n dX6_note_70 rfl ?_
      refine z_getr dX6_note_71 fX6_7 hM.o hM.r0 ?_
      refine z_iload_n dX6_note_74 rfl ?_
      refine z_iaN dX6_note_75 hM.a0 (by omega) (by decide) ?_
      refine z_isN dX6_note_76 hM.a1 (by omega) (by decide) ?_
      refine z_iincN1 (n := 1) dX6_note_77 rfl ?_
      refine z_goto (tgt := 51) dX6_note_80 (by decide) ?_
      exact ih (k + 1) _ (by omega) (by omega) (cp_s hc rfl (by rw [hc.2 97 (by decide)]))
set_option maxRecDepth 100000 in
set_option maxHeartbeats 4000000 in
theorem m_note {S : zS} {R : zMR} (I : zMI) (L : zML) {v : Ly} {h : List Ly} {i0 i1 : Option Ly} (hM : zMO S R) (hv : zMb (I 97) 0 v) (ho : lyOk v) (hr : zMR2 I h i0 i1) : zM0 yX6_note cX6_note 2 none 0 [.ref 96] S I L R (zPv L (fun J => zMR2 J (hpush h v) i0 i1 ∧ J 97 = I 97 ∧ ∀ p, p ≠ 96 → p ≠ 98 → J p = I p)) := by
  refine zM0_of (own := RX6) (lv := [some (.ref 96), none]) rfl (by decide) rfl rfl ?_
  have hl8 := hr.2.1
  refine z_aload_n dX6_note_0 rfl ?_
  refine z_geti dX6_note_1 fX6_116 hM.o ?_
  refine z_top (hr.1) ?_
  refine z_bipush (nI 8) dX6_note_4 (by decide) ?_
  refine z_icmp_neNN (tgt := 49) dX6_note_6 (by decide) (by omega) (by omega) (fun h6 => ?_) (fun h6 => ?_)
  · refine z_iconst (nI 0) dX6_note_49 (by decide) ?_
    refine z_ist1 dX6_note_50 rfl ?_
    refine m_note_b I L hM h.length (by omega) hr.1 ?_ 79 0 _ (by omega) (by omega) (cp_0 _ _ _ _)
    intro K hK
    have e96 : K 96 2 = nI h.length := by rw [hK.2 96 (by decide)]; exact hr.1
    have hp := zMR2_push hr hv ho (Or.inr ⟨by omega, rfl, rfl⟩) (fun q q1 q2 => rfl) hK rfl
    refine z_aload_n dX6_note_83 rfl ?_
    refine z_dup dX6_note_84 rfl ?_
    refine z_geti dX6_note_85 fX6_116 hM.o ?_
    refine z_top (e96) ?_
    refine z_iconst (nI 1) dX6_note_88 (by decide) ?_
    refine z_iaddN dX6_note_89 ?_
    refine z_puti dX6_note_90 fX6_116 hM.o ?_
    exact z_ret dX6_note_93 ⟨Nat.le_refl _, Nat.le_refl _⟩ rfl ⟨rfl, rfl, rfl, ⟨hp, by rw [zu_ne (by decide), hK.2 97 (by decide)], fun p p1 p2 => by rw [zu_ne p1, hK.2 p p2]⟩, rfl⟩
  · refine z_iconst (nI 0) dX6_note_9 (by decide) ?_
    refine z_ist1 dX6_note_10 rfl ?_
    refine m_note_a I L hM ?_ 547 0 _ (by omega) (by omega) (cp_0 _ _ _ _)
    intro J hJ
    refine z_aload_n dX6_note_39 rfl ?_
    refine z_dup dX6_note_40 rfl ?_
    refine z_geti dX6_note_41 fX6_116 hM.o ?_
    refine z_top ((show _ = nI h.length from by rw [hJ.2 96 (by decide)]; exact hr.1)) ?_
    refine z_iconst (nI 1) dX6_note_44 (by decide) ?_
    refine z_isubN dX6_note_45 (by omega) ?_
    refine z_top (y := nI 7) (congrArg nI (by omega)) ?_
    refine z_puti dX6_note_46 fX6_116 hM.o ?_
    refine z_iconst (nI 0) dX6_note_49 (by decide) ?_
    refine z_ist1 dX6_note_50 rfl ?_
    refine m_note_b (zu J 96 2 (nI 7)) L hM 7 (by omega) (by rw [zu_same]) ?_ 79 0 _ (by omega) (by omega) (cp_0 _ _ _ _)
    intro K hK
    have e96 : K 96 2 = nI 7 := by rw [hK.2 96 (by decide), zu_same]
    have hp := zMR2_push hr hv ho (Or.inl ⟨by omega, rfl, fun x hx => by rw [zu_ne (by decide)]; have := cp_in hJ hx; rwa [Nat.zero_add] at this⟩) (fun q q1 q2 => by rw [zu_ne q2, hJ.2 q q1]) hK rfl
    refine z_aload_n dX6_note_83 rfl ?_
    refine z_dup dX6_note_84 rfl ?_
    refine z_geti dX6_note_85 fX6_116 hM.o ?_
    refine z_top (e96) ?_
    refine z_iconst (nI 1) dX6_note_88 (by decide) ?_
    refine z_iaddN dX6_note_89 ?_
    refine z_puti dX6_note_90 fX6_116 hM.o ?_
    exact z_ret dX6_note_93 ⟨Nat.le_refl _, Nat.le_refl _⟩ rfl ⟨rfl, rfl, rfl, ⟨hp, by rw [zu_ne (by decide), hK.2 97 (by decide), zu_ne (by decide), hJ.2 97 (by decide)], fun p p1 p2 => by rw [zu_ne p1, hK.2 p p2, zu_ne p1, hJ.2 p p2]⟩, rfl⟩
set_option maxRecDepth 100000 in
set_option maxHeartbeats 4000000 in
theorem m_free_l {S : zS} {R : zMR} (I : zMI) (L : zML) {v : Ly} (hM : zMO S R) (hv : zMb (I 97) 0 v) (hl : v.1.length ≤ 10) : ∀ (n : Nat) (k : Nat) (J : zMI), 15 ≤ k + n → k ≤ 14 → cpI I J 97 (fun _ => nI 0) 64 k → zV (zMt RX6 cX6_free 2 none 0) (fun S2 I2 L2 R2 rr => S2 = S ∧ R2 = R ∧ (zPv L (fun J => zMb (J 97) 0 (lyZ v) ∧ stF I J)) I2 L2 rr) (0, 0) S J L R 2 [some (.ref 96), some (.int (nI k))] [] := by
  intro n
  induction n with
  | zero => intro k J h1 h2 hc; omega
  | succ n ih =>
    intro k J h1 h2 hc
    refine z_iload_n dX6_free_2 rfl ?_
    refine z_bipush (nI 14) dX6_free_3 (by decide) ?_
    refine z_icmp_geNN (tgt := 24) dX6_free_5 (by decide) (by omega) (by omega) (fun h5 => ?_) (fun h5 => ?_)
    · have e : k = 14 := by omega
      subst e
      exact z_ret dX6_free_24 ⟨Nat.le_refl _, Nat.le_refl _⟩ rfl ⟨rfl, rfl, rfl, ⟨hv.free hl (fun x hx => cp_out hc (by omega)) (fun p hp => cp_in hc hp), fun q hq => hc.2 q hq⟩, rfl⟩
    · refine z_aload_n dX6_free_8 rfl ?_
      refine z_getr dX6_free_9 fX6_7 hM.o hM.r0 ?_
      refine z_bipush (nI 64) dX6_free_12 (by decide) ?_
      refine z_iload_n dX6_free_14 rfl ?_
      refine z_iaddN dX6_free_15 ?_
      refine z_iconst (nI 0) dX6_free_16 (by decide) ?_
      refine z_isN dX6_free_17 hM.a0 (by omega) (by decide) ?_
      refine z_iincN1 (n := 1) dX6_free_18 rfl ?_
      refine z_goto (tgt := 2) dX6_free_21 (by decide) ?_
      exact ih (k + 1) _ (by omega) (by omega) (cp_s hc rfl rfl)
set_option maxRecDepth 100000 in
set_option maxHeartbeats 4000000 in
theorem m_free {S : zS} {R : zMR} (I : zMI) (L : zML) {v : Ly} (hM : zMO S R) (hv : zMb (I 97) 0 v) (hl : v.1.length ≤ 10) : zM0 yX6_free cX6_free 2 none 0 [.ref 96] S I L R (zPv L (fun J => zMb (J 97) 0 (lyZ v) ∧ stF I J)) := by
  refine zM0_of (own := RX6) (lv := [some (.ref 96), none]) rfl (by decide) rfl rfl ?_
  refine z_iconst (nI 0) dX6_free_0 (by decide) ?_
  refine z_ist1 dX6_free_1 rfl ?_
  exact m_free_l I L hM hv hl 15 0 I (by omega) (by omega) (cp_0 _ _ _ _)
set_option maxRecDepth 100000 in
set_option maxHeartbeats 4000000 in
theorem m_isFree_l {S : zS} {R : zMR} (I : zMI) (L : zML) {v : Ly} (hM : zMO S R) (hv : zMb (I 97) 0 v) (ho : lyOk v) (x y x2 y2 : Nat) (but : Int32) (hx : x ≤ x2) (hy : y ≤ y2) (hx2 : x2 ≤ 15) (hy2 : y2 ≤ 15) : ∀ (n : Nat) (i : Nat) (a8 : Option Value), v.1.length + 1 ≤ i + n → i ≤ v.1.length → zCat [a8] = true → zV (zMt RX6 cX6_isFree 9 (some .boolean) 1) (fun S2 I2 L2 R2 rr => S2 = S ∧ R2 = R ∧ (zPure I L (zb (isFr v.1 x y x2 y2 but.toInt))) I2 L2 rr) (0, 0) S I L R 6 [some (.ref 96), some (.int (nI x)), some (.int (nI y)), some (.int (nI x2)), some (.int (nI y2)), some (.int but), some (.int (zb (isFrI v.1 x y x2 y2 but.toInt i))), some (.int (nI i)), a8] [] := by
  intro n
  induction n with
  | zero => intro i a8 h1 h2 h8; omega
  | succ n ih =>
    intro i a8 h1 h2 h8
    have hl := ho.1
    refine z_iload dX6_isFree_6 rfl ?_
    refine z_aload_n dX6_isFree_8 rfl ?_
    refine z_getr dX6_isFree_9 fX6_7 hM.o hM.r0 ?_
    refine z_iconst (nI 0) dX6_isFree_12 (by decide) ?_
    refine z_iaN dX6_isFree_13 hM.a0 (by omega) (by decide) ?_
    refine z_top (hv.1) ?_
    refine z_icmp_geNN (tgt := 99) dX6_isFree_14 (by decide) (by omega) (by omega) (fun h14 => ?_) (fun h14 => ?_)
    · refine z_iload dX6_isFree_99 rfl ?_
      exact z_iret dX6_isFree_101 ⟨Nat.le_refl _, Nat.le_refl _⟩ (by first | exact zb_nar _ | rfl) ⟨rfl, rfl, rfl, rfl, congrArg (fun z => some (Value.int z)) (by first | exact zb_1 (by exact isFrI_e (by omega)) | exact zb_0 (by exact isFrI_e (by omega)) | exact zb_c (by exact isFrI_e (by omega)))⟩
    · obtain ⟨sh, hsh⟩ := getS h14
      obtain ⟨o1, o2, o3, o4, o5⟩ := id (ho.sh hsh)
      obtain ⟨e0, e1, e2, e3, e4, e5⟩ := mSh0 (hv.2.1 i sh hsh)
      have q1 := apt_z hx o1
      have q2 := apt_z hy o3
      have q3 := apt_le (a := x) (a2 := x2) (b := sx sh) (b2 := sx2 sh) (by omega) (by omega)
      have q4 := apt_le (a := y) (a2 := y2) (b := sy sh) (b2 := sy2 sh) (by omega) (by omega)
      refine z_iload_n dX6_isFree_17 rfl ?_
      refine z_iload_n dX6_isFree_18 rfl ?_
      refine z_aload_n dX6_isFree_19 rfl ?_
      refine z_iload dX6_isFree_20 rfl ?_
      refine z_iconst (nI 0) dX6_isFree_22 (by decide) ?_
      refine z_callV2p dX6_isFree_23 mX6_45 hM.o (m_part I L hM i 0 (by omega) (by omega)) (by decide) (Nat.le_of_ble_eq_true rfl) ⟨Nat.le_refl _, Nat.le_refl _⟩ ?_
      refine z_top (e0) ?_
      refine z_aload_n dX6_isFree_26 rfl ?_
      refine z_iload dX6_isFree_27 rfl ?_
      refine z_iconst (nI 2) dX6_isFree_29 (by decide) ?_
      refine z_callV2p dX6_isFree_30 mX6_45 hM.o (m_part I L hM i 2 (by omega) (by omega)) (by decide) (Nat.le_of_ble_eq_true rfl) ⟨Nat.le_refl _, Nat.le_refl _⟩ ?_
      refine z_top (e2) ?_
      refine z_callS4p dX6_isFree_33 mX6_53 (m_apart I L _ _ _ _ (by omega) (by omega) (by omega) (by omega)) (by decide) (Nat.le_of_ble_eq_true rfl) ⟨Nat.le_refl _, Nat.le_refl _⟩ ?_
      refine z_if_neN (tgt := 66) dX6_isFree_36 (by decide) (by omega) (fun h36 => ?_) (fun h36 => ?_)
      · refine z_iconst (nI 0) dX6_isFree_66 (by decide) ?_
        refine z_ist8 dX6_isFree_67 (by repeat first | rfl | assumption | refine zCat_s ?_ | refine zCat_a ?_ ?_) ?_
        refine z_iload dX6_isFree_69 rfl ?_
        refine z_if_eqB (tgt := 90) dX6_isFree_71 (by decide) (fun h71 => ?_) (fun h71 => ?_)
        · refine z_iconst (nI 0) dX6_isFree_90 (by decide) ?_
          refine z_ist6 dX6_isFree_91 (by repeat first | rfl | assumption | refine zCat_s ?_ | refine zCat_a ?_ ?_) ?_
          refine z_iincN7 (n := 1) dX6_isFree_93 (by repeat first | rfl | assumption | refine zCat_s ?_ | refine zCat_a ?_ ?_) ?_
          refine z_goto (tgt := 6) dX6_isFree_96 (by decide) ?_
          have z := ih (i + 1) (some (.int (nI 0))) (by omega) (by omega) rfl
          first | (rw [← zb_0 (P := isFrI v.1 x y x2 y2 but.toInt (i + 1)) (fun q => h71 ((isFrI_s hsh).mp q).1)] at z; exact z) | (rw [← zb_1 (P := isFrI v.1 x y x2 y2 but.toInt (i + 1)) ((isFrI_s hsh).mpr ⟨h71, Or.inl (by rw [← h78]; exact (nI_T (by omega)).symm)⟩)] at z; exact z) | (rw [← zb_1 (P := isFrI v.1 x y x2 y2 but.toInt (i + 1)) ((isFrI_s hsh).mpr ⟨h71, Or.inr (fun q => by omega)⟩)] at z; exact z) | (rw [← zb_0 (P := isFrI v.1 x y x2 y2 but.toInt (i + 1)) (fun q => ((isFrI_s hsh).mp q).2.elim (fun e => h78 (by rw [nI_zi, toInt_eq e.symm])) (fun e => e (by omega)))] at z; exact z)
        · refine z_iload dX6_isFree_74 rfl ?_
          refine z_iload dX6_isFree_76 rfl ?_
          refine z_icmp_eq (tgt := 86) dX6_isFree_78 (by decide) (fun h78 => ?_) (fun h78 => ?_)
          · refine z_iconst (nI 1) dX6_isFree_86 (by decide) ?_
            refine z_goto (tgt := 91) dX6_isFree_87 (by decide) ?_
            refine z_ist6 dX6_isFree_91 (by repeat first | rfl | assumption | refine zCat_s ?_ | refine zCat_a ?_ ?_) ?_
            refine z_iincN7 (n := 1) dX6_isFree_93 (by repeat first | rfl | assumption | refine zCat_s ?_ | refine zCat_a ?_ ?_) ?_
            refine z_goto (tgt := 6) dX6_isFree_96 (by decide) ?_
            have z := ih (i + 1) (some (.int (nI 0))) (by omega) (by omega) rfl
            first | (rw [← zb_0 (P := isFrI v.1 x y x2 y2 but.toInt (i + 1)) (fun q => h71 ((isFrI_s hsh).mp q).1)] at z; exact z) | (rw [← zb_1 (P := isFrI v.1 x y x2 y2 but.toInt (i + 1)) ((isFrI_s hsh).mpr ⟨h71, Or.inl (by rw [← h78]; exact (nI_T (by omega)).symm)⟩)] at z; exact z) | (rw [← zb_1 (P := isFrI v.1 x y x2 y2 but.toInt (i + 1)) ((isFrI_s hsh).mpr ⟨h71, Or.inr (fun q => by omega)⟩)] at z; exact z) | (rw [← zb_0 (P := isFrI v.1 x y x2 y2 but.toInt (i + 1)) (fun q => ((isFrI_s hsh).mp q).2.elim (fun e => h78 (by rw [nI_zi, toInt_eq e.symm])) (fun e => e (by omega)))] at z; exact z)
          · refine z_iload dX6_isFree_81 rfl ?_
            refine z_if_neN (tgt := 90) dX6_isFree_83 (by decide) (by omega) (fun h83 => absurd h83 (by decide)) (fun _ => ?_)
            refine z_iconst (nI 1) dX6_isFree_86 (by decide) ?_
            refine z_goto (tgt := 91) dX6_isFree_87 (by decide) ?_
            refine z_ist6 dX6_isFree_91 (by repeat first | rfl | assumption | refine zCat_s ?_ | refine zCat_a ?_ ?_) ?_
            refine z_iincN7 (n := 1) dX6_isFree_93 (by repeat first | rfl | assumption | refine zCat_s ?_ | refine zCat_a ?_ ?_) ?_
            refine z_goto (tgt := 6) dX6_isFree_96 (by decide) ?_
            have z := ih (i + 1) (some (.int (nI 0))) (by omega) (by omega) rfl
            first | (rw [← zb_0 (P := isFrI v.1 x y x2 y2 but.toInt (i + 1)) (fun q => h71 ((isFrI_s hsh).mp q).1)] at z; exact z) | (rw [← zb_1 (P := isFrI v.1 x y x2 y2 but.toInt (i + 1)) ((isFrI_s hsh).mpr ⟨h71, Or.inl (by rw [← h78]; exact (nI_T (by omega)).symm)⟩)] at z; exact z) | (rw [← zb_1 (P := isFrI v.1 x y x2 y2 but.toInt (i + 1)) ((isFrI_s hsh).mpr ⟨h71, Or.inr (fun q => by omega)⟩)] at z; exact z) | (rw [← zb_0 (P := isFrI v.1 x y x2 y2 but.toInt (i + 1)) (fun q => ((isFrI_s hsh).mp q).2.elim (fun e => h78 (by rw [nI_zi, toInt_eq e.symm])) (fun e => e (by omega)))] at z; exact z)
      · refine z_iload_n dX6_isFree_39 rfl ?_
        refine z_iload dX6_isFree_40 rfl ?_
        refine z_aload_n dX6_isFree_42 rfl ?_
        refine z_iload dX6_isFree_43 rfl ?_
        refine z_iconst (nI 1) dX6_isFree_45 (by decide) ?_
        refine z_callV2p dX6_isFree_46 mX6_45 hM.o (m_part I L hM i 1 (by omega) (by omega)) (by decide) (Nat.le_of_ble_eq_true rfl) ⟨Nat.le_refl _, Nat.le_refl _⟩ ?_
        refine z_top (e1) ?_
        refine z_aload_n dX6_isFree_49 rfl ?_
        refine z_iload dX6_isFree_50 rfl ?_
        refine z_iconst (nI 3) dX6_isFree_52 (by decide) ?_
        refine z_callV2p dX6_isFree_53 mX6_45 hM.o (m_part I L hM i 3 (by omega) (by omega)) (by decide) (Nat.le_of_ble_eq_true rfl) ⟨Nat.le_refl _, Nat.le_refl _⟩ ?_
        refine z_top (e3) ?_
        refine z_callS4p dX6_isFree_56 mX6_53 (m_apart I L _ _ _ _ (by omega) (by omega) (by omega) (by omega)) (by decide) (Nat.le_of_ble_eq_true rfl) ⟨Nat.le_refl _, Nat.le_refl _⟩ ?_
        refine z_if_neN (tgt := 66) dX6_isFree_59 (by decide) (by omega) (fun h59 => ?_) (fun h59 => ?_)
        · refine z_iconst (nI 0) dX6_isFree_66 (by decide) ?_
          refine z_ist8 dX6_isFree_67 (by repeat first | rfl | assumption | refine zCat_s ?_ | refine zCat_a ?_ ?_) ?_
          refine z_iload dX6_isFree_69 rfl ?_
          refine z_if_eqB (tgt := 90) dX6_isFree_71 (by decide) (fun h71 => ?_) (fun h71 => ?_)
          · refine z_iconst (nI 0) dX6_isFree_90 (by decide) ?_
            refine z_ist6 dX6_isFree_91 (by repeat first | rfl | assumption | refine zCat_s ?_ | refine zCat_a ?_ ?_) ?_
            refine z_iincN7 (n := 1) dX6_isFree_93 (by repeat first | rfl | assumption | refine zCat_s ?_ | refine zCat_a ?_ ?_) ?_
            refine z_goto (tgt := 6) dX6_isFree_96 (by decide) ?_
            have z := ih (i + 1) (some (.int (nI 0))) (by omega) (by omega) rfl
            first | (rw [← zb_0 (P := isFrI v.1 x y x2 y2 but.toInt (i + 1)) (fun q => h71 ((isFrI_s hsh).mp q).1)] at z; exact z) | (rw [← zb_1 (P := isFrI v.1 x y x2 y2 but.toInt (i + 1)) ((isFrI_s hsh).mpr ⟨h71, Or.inl (by rw [← h78]; exact (nI_T (by omega)).symm)⟩)] at z; exact z) | (rw [← zb_1 (P := isFrI v.1 x y x2 y2 but.toInt (i + 1)) ((isFrI_s hsh).mpr ⟨h71, Or.inr (fun q => by omega)⟩)] at z; exact z) | (rw [← zb_0 (P := isFrI v.1 x y x2 y2 but.toInt (i + 1)) (fun q => ((isFrI_s hsh).mp q).2.elim (fun e => h78 (by rw [nI_zi, toInt_eq e.symm])) (fun e => e (by omega)))] at z; exact z)
          · refine z_iload dX6_isFree_74 rfl ?_
            refine z_iload dX6_isFree_76 rfl ?_
            refine z_icmp_eq (tgt := 86) dX6_isFree_78 (by decide) (fun h78 => ?_) (fun h78 => ?_)
            · refine z_iconst (nI 1) dX6_isFree_86 (by decide) ?_
              refine z_goto (tgt := 91) dX6_isFree_87 (by decide) ?_
              refine z_ist6 dX6_isFree_91 (by repeat first | rfl | assumption | refine zCat_s ?_ | refine zCat_a ?_ ?_) ?_
              refine z_iincN7 (n := 1) dX6_isFree_93 (by repeat first | rfl | assumption | refine zCat_s ?_ | refine zCat_a ?_ ?_) ?_
              refine z_goto (tgt := 6) dX6_isFree_96 (by decide) ?_
              have z := ih (i + 1) (some (.int (nI 0))) (by omega) (by omega) rfl
              first | (rw [← zb_0 (P := isFrI v.1 x y x2 y2 but.toInt (i + 1)) (fun q => h71 ((isFrI_s hsh).mp q).1)] at z; exact z) | (rw [← zb_1 (P := isFrI v.1 x y x2 y2 but.toInt (i + 1)) ((isFrI_s hsh).mpr ⟨h71, Or.inl (by rw [← h78]; exact (nI_T (by omega)).symm)⟩)] at z; exact z) | (rw [← zb_1 (P := isFrI v.1 x y x2 y2 but.toInt (i + 1)) ((isFrI_s hsh).mpr ⟨h71, Or.inr (fun q => by omega)⟩)] at z; exact z) | (rw [← zb_0 (P := isFrI v.1 x y x2 y2 but.toInt (i + 1)) (fun q => ((isFrI_s hsh).mp q).2.elim (fun e => h78 (by rw [nI_zi, toInt_eq e.symm])) (fun e => e (by omega)))] at z; exact z)
            · refine z_iload dX6_isFree_81 rfl ?_
              refine z_if_neN (tgt := 90) dX6_isFree_83 (by decide) (by omega) (fun h83 => absurd h83 (by decide)) (fun _ => ?_)
              refine z_iconst (nI 1) dX6_isFree_86 (by decide) ?_
              refine z_goto (tgt := 91) dX6_isFree_87 (by decide) ?_
              refine z_ist6 dX6_isFree_91 (by repeat first | rfl | assumption | refine zCat_s ?_ | refine zCat_a ?_ ?_) ?_
              refine z_iincN7 (n := 1) dX6_isFree_93 (by repeat first | rfl | assumption | refine zCat_s ?_ | refine zCat_a ?_ ?_) ?_
              refine z_goto (tgt := 6) dX6_isFree_96 (by decide) ?_
              have z := ih (i + 1) (some (.int (nI 0))) (by omega) (by omega) rfl
              first | (rw [← zb_0 (P := isFrI v.1 x y x2 y2 but.toInt (i + 1)) (fun q => h71 ((isFrI_s hsh).mp q).1)] at z; exact z) | (rw [← zb_1 (P := isFrI v.1 x y x2 y2 but.toInt (i + 1)) ((isFrI_s hsh).mpr ⟨h71, Or.inl (by rw [← h78]; exact (nI_T (by omega)).symm)⟩)] at z; exact z) | (rw [← zb_1 (P := isFrI v.1 x y x2 y2 but.toInt (i + 1)) ((isFrI_s hsh).mpr ⟨h71, Or.inr (fun q => by omega)⟩)] at z; exact z) | (rw [← zb_0 (P := isFrI v.1 x y x2 y2 but.toInt (i + 1)) (fun q => ((isFrI_s hsh).mp q).2.elim (fun e => h78 (by rw [nI_zi, toInt_eq e.symm])) (fun e => e (by omega)))] at z; exact z)
        · refine z_iconst (nI 1) dX6_isFree_62 (by decide) ?_
          refine z_goto (tgt := 67) dX6_isFree_63 (by decide) ?_
          refine z_ist8 dX6_isFree_67 (by repeat first | rfl | assumption | refine zCat_s ?_ | refine zCat_a ?_ ?_) ?_
          refine z_iload dX6_isFree_69 rfl ?_
          refine z_if_eqB (tgt := 90) dX6_isFree_71 (by decide) (fun h71 => ?_) (fun h71 => ?_)
          · refine z_iconst (nI 0) dX6_isFree_90 (by decide) ?_
            refine z_ist6 dX6_isFree_91 (by repeat first | rfl | assumption | refine zCat_s ?_ | refine zCat_a ?_ ?_) ?_
            refine z_iincN7 (n := 1) dX6_isFree_93 (by repeat first | rfl | assumption | refine zCat_s ?_ | refine zCat_a ?_ ?_) ?_
            refine z_goto (tgt := 6) dX6_isFree_96 (by decide) ?_
            have z := ih (i + 1) (some (.int (nI 1))) (by omega) (by omega) rfl
            first | (rw [← zb_0 (P := isFrI v.1 x y x2 y2 but.toInt (i + 1)) (fun q => h71 ((isFrI_s hsh).mp q).1)] at z; exact z) | (rw [← zb_1 (P := isFrI v.1 x y x2 y2 but.toInt (i + 1)) ((isFrI_s hsh).mpr ⟨h71, Or.inl (by rw [← h78]; exact (nI_T (by omega)).symm)⟩)] at z; exact z) | (rw [← zb_1 (P := isFrI v.1 x y x2 y2 but.toInt (i + 1)) ((isFrI_s hsh).mpr ⟨h71, Or.inr (fun q => by omega)⟩)] at z; exact z) | (rw [← zb_0 (P := isFrI v.1 x y x2 y2 but.toInt (i + 1)) (fun q => ((isFrI_s hsh).mp q).2.elim (fun e => h78 (by rw [nI_zi, toInt_eq e.symm])) (fun e => e (by omega)))] at z; exact z)
          · refine z_iload dX6_isFree_74 rfl ?_
            refine z_iload dX6_isFree_76 rfl ?_
            refine z_icmp_eq (tgt := 86) dX6_isFree_78 (by decide) (fun h78 => ?_) (fun h78 => ?_)
            · refine z_iconst (nI 1) dX6_isFree_86 (by decide) ?_
              refine z_goto (tgt := 91) dX6_isFree_87 (by decide) ?_
              refine z_ist6 dX6_isFree_91 (by repeat first | rfl | assumption | refine zCat_s ?_ | refine zCat_a ?_ ?_) ?_
              refine z_iincN7 (n := 1) dX6_isFree_93 (by repeat first | rfl | assumption | refine zCat_s ?_ | refine zCat_a ?_ ?_) ?_
              refine z_goto (tgt := 6) dX6_isFree_96 (by decide) ?_
              have z := ih (i + 1) (some (.int (nI 1))) (by omega) (by omega) rfl
              first | (rw [← zb_0 (P := isFrI v.1 x y x2 y2 but.toInt (i + 1)) (fun q => h71 ((isFrI_s hsh).mp q).1)] at z; exact z) | (rw [← zb_1 (P := isFrI v.1 x y x2 y2 but.toInt (i + 1)) ((isFrI_s hsh).mpr ⟨h71, Or.inl (by rw [← h78]; exact (nI_T (by omega)).symm)⟩)] at z; exact z) | (rw [← zb_1 (P := isFrI v.1 x y x2 y2 but.toInt (i + 1)) ((isFrI_s hsh).mpr ⟨h71, Or.inr (fun q => by omega)⟩)] at z; exact z) | (rw [← zb_0 (P := isFrI v.1 x y x2 y2 but.toInt (i + 1)) (fun q => ((isFrI_s hsh).mp q).2.elim (fun e => h78 (by rw [nI_zi, toInt_eq e.symm])) (fun e => e (by omega)))] at z; exact z)
            · refine z_iload dX6_isFree_81 rfl ?_
              refine z_if_neN (tgt := 90) dX6_isFree_83 (by decide) (by omega) (fun _ => ?_) (fun h83 => absurd h83 (by decide))
              refine z_iconst (nI 0) dX6_isFree_90 (by decide) ?_
              refine z_ist6 dX6_isFree_91 (by repeat first | rfl | assumption | refine zCat_s ?_ | refine zCat_a ?_ ?_) ?_
              refine z_iincN7 (n := 1) dX6_isFree_93 (by repeat first | rfl | assumption | refine zCat_s ?_ | refine zCat_a ?_ ?_) ?_
              refine z_goto (tgt := 6) dX6_isFree_96 (by decide) ?_
              have z := ih (i + 1) (some (.int (nI 1))) (by omega) (by omega) rfl
              first | (rw [← zb_0 (P := isFrI v.1 x y x2 y2 but.toInt (i + 1)) (fun q => h71 ((isFrI_s hsh).mp q).1)] at z; exact z) | (rw [← zb_1 (P := isFrI v.1 x y x2 y2 but.toInt (i + 1)) ((isFrI_s hsh).mpr ⟨h71, Or.inl (by rw [← h78]; exact (nI_T (by omega)).symm)⟩)] at z; exact z) | (rw [← zb_1 (P := isFrI v.1 x y x2 y2 but.toInt (i + 1)) ((isFrI_s hsh).mpr ⟨h71, Or.inr (fun q => by omega)⟩)] at z; exact z) | (rw [← zb_0 (P := isFrI v.1 x y x2 y2 but.toInt (i + 1)) (fun q => ((isFrI_s hsh).mp q).2.elim (fun e => h78 (by rw [nI_zi, toInt_eq e.symm])) (fun e => e (by omega)))] at z; exact z)
set_option maxRecDepth 100000 in
set_option maxHeartbeats 4000000 in
theorem m_isFree {S : zS} {R : zMR} (I : zMI) (L : zML) {v : Ly} (hM : zMO S R) (hv : zMb (I 97) 0 v) (ho : lyOk v) (x y x2 y2 : Nat) (but : Int32) (hx : x ≤ x2) (hy : y ≤ y2) (hx2 : x2 ≤ 15) (hy2 : y2 ≤ 15) : zM0 yX6_isFree cX6_isFree 9 (some .boolean) 1 [.ref 96, .int (nI x), .int (nI y), .int (nI x2), .int (nI y2), .int but] S I L R (zPure I L (zb (isFr v.1 x y x2 y2 but.toInt))) := by
  refine zM0_of (own := RX6) (lv := [some (.ref 96), some (.int (nI x)), some (.int (nI y)), some (.int (nI x2)), some (.int (nI y2)), some (.int but), none, none, none]) rfl (by decide) rfl rfl ?_
  refine z_iconst (nI 1) dX6_isFree_0 (by decide) ?_
  refine z_ist6 dX6_isFree_1 rfl ?_
  refine z_iconst (nI 0) dX6_isFree_3 (by decide) ?_
  refine z_ist7 dX6_isFree_4 rfl ?_
  have z := m_isFree_l I L hM hv ho x y x2 y2 but hx hy hx2 hy2 (v.1.length + 1) 0 none (by omega) (by omega) rfl
  rw [← zb_1 (show isFrI v.1 x y x2 y2 but.toInt 0 from fun k s hk => absurd hk (by omega))] at z
  exact z
set_option maxRecDepth 100000 in
set_option maxHeartbeats 4000000 in
theorem m_isFull {S : zS} {R : zMR} (I : zMI) (L : zML) {v : Ly} (hM : zMO S R) (hv : zMb (I 97) 0 v) (ho : lyOk v) : zM0 yX6_isFull cX6_isFull 1 (some .boolean) 3 [.ref 96] S I L R (zPure I L (zb (full v.1))) := by
  refine zM0_of (own := RX6) (lv := [some (.ref 96)]) rfl (by decide) rfl rfl ?_
  have hl := ho.1
  have hn := ho.2.2.1
  refine z_aload_n dX6_isFull_0 rfl ?_
  refine z_getr dX6_isFull_1 fX6_7 hM.o hM.r0 ?_
  refine z_iconst (nI 0) dX6_isFull_4 (by decide) ?_
  refine z_iaN dX6_isFull_5 hM.a0 (by omega) (by decide) ?_
  refine z_top (hv.1) ?_
  refine z_bipush (nI 10) dX6_isFull_6 (by decide) ?_
  refine z_icmp_eqNN (tgt := 20) dX6_isFull_8 (by decide) (by omega) (by omega) (fun h8 => ?_) (fun h8 => ?_)
  · refine z_iconst (nI 1) dX6_isFull_20 (by decide) ?_
    refine z_goto (tgt := 25) dX6_isFull_21 (by decide) ?_
    exact z_iret dX6_isFull_25 ⟨Nat.le_refl _, Nat.le_refl _⟩ (by first | exact zb_nar _ | rfl) ⟨rfl, rfl, rfl, rfl, congrArg (fun z => some (Value.int z)) (by first | exact zb_1 (by unfold full; omega) | exact zb_0 (by unfold full; omega) | exact zb_c (by unfold full; omega))⟩
  · refine z_aload_n dX6_isFull_11 rfl ?_
    refine z_callV0p dX6_isFull_12 mX6_121 hM.o (m_manyPieces I L hM hv ho) (by decide) (Nat.le_of_ble_eq_true rfl) ⟨Nat.le_refl _, Nat.le_refl _⟩ ?_
    refine z_bipush (nI 14) dX6_isFull_15 (by decide) ?_
    refine z_icmp_neNN (tgt := 24) dX6_isFull_17 (by decide) (by omega) (by omega) (fun h17 => ?_) (fun h17 => ?_)
    · refine z_iconst (nI 0) dX6_isFull_24 (by decide) ?_
      exact z_iret dX6_isFull_25 ⟨Nat.le_refl _, Nat.le_refl _⟩ (by first | exact zb_nar _ | rfl) ⟨rfl, rfl, rfl, rfl, congrArg (fun z => some (Value.int z)) (by first | exact zb_1 (by unfold full; omega) | exact zb_0 (by unfold full; omega) | exact zb_c (by unfold full; omega))⟩
    · refine z_iconst (nI 1) dX6_isFull_20 (by decide) ?_
      refine z_goto (tgt := 25) dX6_isFull_21 (by decide) ?_
      exact z_iret dX6_isFull_25 ⟨Nat.le_refl _, Nat.le_refl _⟩ (by first | exact zb_nar _ | rfl) ⟨rfl, rfl, rfl, rfl, congrArg (fun z => some (Value.int z)) (by first | exact zb_1 (by unfold full; omega) | exact zb_0 (by unfold full; omega) | exact zb_c (by unfold full; omega))⟩
set_option maxRecDepth 100000 in
set_option maxHeartbeats 4000000 in
theorem m_put {S : zS} {R : zMR} (I : zMI) (L : zML) (hM : zMO S R) (k : Nat) (hk : k < 10) (x y x2 y2 : Int32) : zM0 yX6_put cX6_put 7 none 0 [.ref 96, .int (nI k), .int x, .int y, .int x2, .int y2] S I L R (zPv L (fun J => J = zu (zu (zu (zu I 97 (1 + 6 * k) x) 97 (1 + 6 * k + 1) y) 97 (1 + 6 * k + 2) x2) 97 (1 + 6 * k + 3) y2)) := by
  refine zM0_of (own := RX6) (lv := [some (.ref 96), some (.int (nI k)), some (.int x), some (.int y), some (.int x2), some (.int y2), none]) rfl (by decide) rfl rfl ?_
  refine z_iconst (nI 1) dX6_put_0 (by decide) ?_
  refine z_bipush (nI 6) dX6_put_1 (by decide) ?_
  refine z_iload_n dX6_put_3 rfl ?_
  refine z_imulN dX6_put_4 ?_
  refine z_iaddN dX6_put_5 ?_
  refine z_ist6 dX6_put_6 rfl ?_
  refine z_aload_n dX6_put_8 rfl ?_
  refine z_getr dX6_put_9 fX6_7 hM.o hM.r0 ?_
  refine z_iload dX6_put_12 rfl ?_
  refine z_iload_n dX6_put_14 rfl ?_
  refine z_isN dX6_put_15 hM.a0 (by omega) (by decide) ?_
  refine z_aload_n dX6_put_16 rfl ?_
  refine z_getr dX6_put_17 fX6_7 hM.o hM.r0 ?_
  refine z_iload dX6_put_20 rfl ?_
  refine z_iconst (nI 1) dX6_put_22 (by decide) ?_
  refine z_iaddN dX6_put_23 ?_
  refine z_iload_n dX6_put_24 rfl ?_
  refine z_isN dX6_put_25 hM.a0 (by omega) (by decide) ?_
  refine z_aload_n dX6_put_26 rfl ?_
  refine z_getr dX6_put_27 fX6_7 hM.o hM.r0 ?_
  refine z_iload dX6_put_30 rfl ?_
  refine z_iconst (nI 2) dX6_put_32 (by decide) ?_
  refine z_iaddN dX6_put_33 ?_
  refine z_iload dX6_put_34 rfl ?_
  refine z_isN dX6_put_36 hM.a0 (by omega) (by decide) ?_
  refine z_aload_n dX6_put_37 rfl ?_
  refine z_getr dX6_put_38 fX6_7 hM.o hM.r0 ?_
  refine z_iload dX6_put_41 rfl ?_
  refine z_iconst (nI 3) dX6_put_43 (by decide) ?_
  refine z_iaddN dX6_put_44 ?_
  refine z_iload dX6_put_45 rfl ?_
  refine z_isN dX6_put_47 hM.a0 (by omega) (by decide) ?_
  exact z_ret dX6_put_48 ⟨Nat.le_refl _, Nat.le_refl _⟩ rfl ⟨rfl, rfl, rfl, rfl, rfl⟩
theorem addS_ok {I : zMI} {v : Ly} (hv : zMb (I 97) 0 v) (hl : v.1.length < 10) (x y x2 y2 : Nat) :
    zMb (zu (zu (zu (zu (zu (zu (zu I 97 (1 + 6 * v.1.length) (nI x)) 97 (1 + 6 * v.1.length + 1) (nI y)) 97 (1 + 6 * v.1.length + 2) (nI x2)) 97 (1 + 6 * v.1.length + 3) (nI y2)) 97 (1 + 6 * v.1.length + 4) (nI 0)) 97 (1 + 6 * v.1.length + 5) (nI 0)) 97 0 (nI (v.1.length + 1)) 97) 0 (lyS v (v.1 ++ [(x, y, x2, y2, [])])) := by
  refine hv.app hl zu_same ?_ (fun z z0 hz => ?_)
  · refine ⟨?_, ?_, ?_, ?_, ?_, ?_⟩
    · rw [Nat.zero_add, zu_nk (Or.inr (by omega)), zu_nk (Or.inr (by omega)), zu_nk (Or.inr (by omega)), zu_nk (Or.inr (by omega)), zu_nk (Or.inr (by omega)), zu_nk (Or.inr (by omega))]; exact zu_same
    · rw [Nat.zero_add, zu_nk (Or.inr (by omega)), zu_nk (Or.inr (by omega)), zu_nk (Or.inr (by omega)), zu_nk (Or.inr (by omega)), zu_nk (Or.inr (by omega))]; exact zu_same
    · rw [Nat.zero_add, zu_nk (Or.inr (by omega)), zu_nk (Or.inr (by omega)), zu_nk (Or.inr (by omega)), zu_nk (Or.inr (by omega))]; exact zu_same
    · rw [Nat.zero_add, zu_nk (Or.inr (by omega)), zu_nk (Or.inr (by omega)), zu_nk (Or.inr (by omega))]; exact zu_same
    · rw [Nat.zero_add, zu_nk (Or.inr (by omega)), zu_nk (Or.inr (by omega))]; exact zu_same
    · rw [Nat.zero_add, zu_nk (Or.inr (by omega))]; exact zu_same
  · rw [zu_nk (Or.inr z0), zu_nk (Or.inr (by omega)), zu_nk (Or.inr (by omega)), zu_nk (Or.inr (by omega)), zu_nk (Or.inr (by omega)), zu_nk (Or.inr (by omega)), zu_nk (Or.inr (by omega))]
set_option maxRecDepth 100000 in
set_option maxHeartbeats 4000000 in
theorem m_addShape {S : zS} {R : zMR} (I : zMI) (L : zML) {v : Ly} (hM : zMO S R) (hv : zMb (I 97) 0 v) (hl : v.1.length < 10) (x y x2 y2 : Nat) : zM0 yX6_addShape cX6_addShape 6 none 1 [.ref 96, .int (nI x), .int (nI y), .int (nI x2), .int (nI y2)] S I L R (zPv L (fun J => zMb (J 97) 0 (lyS v (v.1 ++ [(x, y, x2, y2, [])])) ∧ stF I J)) := by
  refine zM0_of (own := RX6) (lv := [some (.ref 96), some (.int (nI x)), some (.int (nI y)), some (.int (nI x2)), some (.int (nI y2)), none]) rfl (by decide) rfl rfl ?_
  refine z_aload_n dX6_addShape_0 rfl ?_
  refine z_getr dX6_addShape_1 fX6_7 hM.o hM.r0 ?_
  refine z_iconst (nI 0) dX6_addShape_4 (by decide) ?_
  refine z_iaN dX6_addShape_5 hM.a0 (by omega) (by decide) ?_
  refine z_top (hv.1) ?_
  refine z_ist5 dX6_addShape_6 rfl ?_
  refine z_aload_n dX6_addShape_8 rfl ?_
  refine z_iload dX6_addShape_9 rfl ?_
  refine z_iload_n dX6_addShape_11 rfl ?_
  refine z_iload_n dX6_addShape_12 rfl ?_
  refine z_iload_n dX6_addShape_13 rfl ?_
  refine z_iload dX6_addShape_14 rfl ?_
  refine z_callV5v dX6_addShape_16 mX6_124 hM.o (m_put I L hM v.1.length hl _ _ _ _) (by decide) (Nat.le_of_ble_eq_true rfl) ⟨Nat.le_refl _, Nat.le_refl _⟩ (fun J hJ => ?_)
  refine z_aload_n dX6_addShape_19 rfl ?_
  refine z_getr dX6_addShape_20 fX6_7 hM.o hM.r0 ?_
  refine z_iconst (nI 1) dX6_addShape_23 (by decide) ?_
  refine z_bipush (nI 6) dX6_addShape_24 (by decide) ?_
  refine z_iload dX6_addShape_26 rfl ?_
  refine z_imulN dX6_addShape_28 ?_
  refine z_iaddN dX6_addShape_29 ?_
  refine z_iconst (nI 4) dX6_addShape_30 (by decide) ?_
  refine z_iaddN dX6_addShape_31 ?_
  refine z_iconst (nI 0) dX6_addShape_32 (by decide) ?_
  refine z_isN dX6_addShape_33 hM.a0 (by omega) (by decide) ?_
  refine z_aload_n dX6_addShape_34 rfl ?_
  refine z_getr dX6_addShape_35 fX6_7 hM.o hM.r0 ?_
  refine z_iconst (nI 1) dX6_addShape_38 (by decide) ?_
  refine z_bipush (nI 6) dX6_addShape_39 (by decide) ?_
  refine z_iload dX6_addShape_41 rfl ?_
  refine z_imulN dX6_addShape_43 ?_
  refine z_iaddN dX6_addShape_44 ?_
  refine z_iconst (nI 5) dX6_addShape_45 (by decide) ?_
  refine z_iaddN dX6_addShape_46 ?_
  refine z_iconst (nI 0) dX6_addShape_47 (by decide) ?_
  refine z_isN dX6_addShape_48 hM.a0 (by omega) (by decide) ?_
  refine z_aload_n dX6_addShape_49 rfl ?_
  refine z_getr dX6_addShape_50 fX6_7 hM.o hM.r0 ?_
  refine z_iconst (nI 0) dX6_addShape_53 (by decide) ?_
  refine z_dup2 dX6_addShape_54 rfl rfl ?_
  refine z_iaN dX6_addShape_55 hM.a0 (by omega) (by decide) ?_
  refine z_top ((show _ = nI v.1.length from by rw [zu_nk (Or.inr (by omega)), zu_nk (Or.inr (by omega)), hJ, zu_nk (Or.inr (by omega)), zu_nk (Or.inr (by omega)), zu_nk (Or.inr (by omega)), zu_nk (Or.inr (by omega))]; exact hv.1)) ?_
  refine z_iconst (nI 1) dX6_addShape_56 (by decide) ?_
  refine z_iaddN dX6_addShape_57 ?_
  refine z_isN dX6_addShape_58 hM.a0 (by omega) (by decide) ?_
  exact z_ret dX6_addShape_59 ⟨Nat.le_refl _, Nat.le_refl _⟩ rfl ⟨rfl, rfl, rfl, by subst hJ; exact ⟨addS_ok hv hl x y x2 y2, ((((((stF.rfl.zu).zu).zu).zu).zu).zu).zu⟩, rfl⟩
