set_option maxRecDepth 100000 in
set_option maxHeartbeats 4000000 in
theorem m_putAside_l0 {S : zS} {R : zMR} (I : zMI) (L : zML) (hM : zMO S R) : ∀ (n : Nat) (k : Nat) (J : zMI), 79 ≤ k + n → k ≤ 78 → cpI I J 106 (I 97) 0 k → zV (zMt RX6 cX6_putAside 3 none 0) (fun S2 I2 L2 R2 rr => S2 = S ∧ R2 = R ∧ (zPv L (fun J => cpI I J 106 (I 97) 0 78)) I2 L2 rr) (0, 0) S J L R 2 [some (.ref 96), some (.int (nI 0)), some (.int (nI k))] [] := by
  intro n
  induction n with
  | zero => intro k J h1 h2 hc; omega
  | succ n ih =>
    intro k J h1 h2 hc
    refine z_iload_n dX6_putAside_2 rfl ?_
    refine z_bipush (nI 78) dX6_putAside_3 (by decide) ?_
    refine z_icmp_geNN (tgt := 45) dX6_putAside_5 (by decide) (by omega) (by omega) (fun h5 => ?_) (fun h5 => ?_)
    · have e : k = 78 := by omega
      subst e
      exact z_ret dX6_putAside_45 ⟨Nat.le_refl _, Nat.le_refl _⟩ rfl ⟨rfl, rfl, rfl, hc, rfl⟩
    · refine z_iload_n dX6_putAside_8 rfl ?_
      refine z_if_eqN (tgt := 27) dX6_putAside_9 (by decide) (by omega) (fun _ => ?_) (fun h9 => absurd h9 (by decide))
      refine z_aload_n dX6_putAside_27 rfl ?_
      refine z_getr dX6_putAside_28 fX6_38 hM.o hM.r15 ?_
      refine z_iload_n dX6_putAside_31 rfl ?_
      refine z_aload_n dX6_putAside_32 rfl ?_
      refine z_getr dX6_putAside_33 fX6_7 hM.o hM.r0 ?_
      refine z_iload_n dX6_putAside_36 rfl ?_
      refine z_iaN dX6_putAside_37 hM.a0 (by omega) (by decide) ?_
      refine z_isN dX6_putAside_38 hM.a15 (by omega) (by decide) ?_
      refine z_iincN2 (n := 1) dX6_putAside_39 rfl ?_
      refine z_goto (tgt := 2) dX6_putAside_42 (by decide) ?_
      exact ih (k + 1) _ (by omega) (by omega) (cp_s hc (by omega) (by rw [hc.2 97 (by decide)]))
set_option maxRecDepth 100000 in
set_option maxHeartbeats 4000000 in
theorem m_putAside0 {S : zS} {R : zMR} (I : zMI) (L : zML) (hM : zMO S R) : zM0 yX6_putAside cX6_putAside 3 none 0 [.ref 96, .int (nI 0)] S I L R (zPv L (fun J => cpI I J 106 (I 97) 0 78)) := by
  refine zM0_of (own := RX6) (lv := [some (.ref 96), some (.int (nI 0)), none]) rfl (by decide) rfl rfl ?_
  refine z_iconst (nI 0) dX6_putAside_0 (by decide) ?_
  refine z_ist2 dX6_putAside_1 rfl ?_
  exact m_putAside_l0 I L hM 79 0 I (by omega) (by omega) (cp_0 _ _ _ _)
set_option maxRecDepth 100000 in
set_option maxHeartbeats 4000000 in
theorem m_putAside_l1 {S : zS} {R : zMR} (I : zMI) (L : zML) (hM : zMO S R) : ∀ (n : Nat) (k : Nat) (J : zMI), 79 ≤ k + n → k ≤ 78 → cpI I J 97 (I 106) 0 k → zV (zMt RX6 cX6_putAside 3 none 0) (fun S2 I2 L2 R2 rr => S2 = S ∧ R2 = R ∧ (zPv L (fun J => cpI I J 97 (I 106) 0 78)) I2 L2 rr) (0, 0) S J L R 2 [some (.ref 96), some (.int (nI 1)), some (.int (nI k))] [] := by
  intro n
  induction n with
  | zero => intro k J h1 h2 hc; omega
  | succ n ih =>
    intro k J h1 h2 hc
    refine z_iload_n dX6_putAside_2 rfl ?_
    refine z_bipush (nI 78) dX6_putAside_3 (by decide) ?_
    refine z_icmp_geNN (tgt := 45) dX6_putAside_5 (by decide) (by omega) (by omega) (fun h5 => ?_) (fun h5 => ?_)
    · have e : k = 78 := by omega
      subst e
      exact z_ret dX6_putAside_45 ⟨Nat.le_refl _, Nat.le_refl _⟩ rfl ⟨rfl, rfl, rfl, hc, rfl⟩
    · refine z_iload_n dX6_putAside_8 rfl ?_
      refine z_if_eqN (tgt := 27) dX6_putAside_9 (by decide) (by omega) (fun h9 => absurd h9 (by decide)) (fun _ => ?_)
      refine z_aload_n dX6_putAside_12 rfl ?_
      refine z_getr dX6_putAside_13 fX6_7 hM.o hM.r0 ?_
      refine z_iload_n dX6_putAside_16 rfl ?_
      refine z_aload_n dX6_putAside_17 rfl ?_
      refine z_getr dX6_putAside_18 fX6_38 hM.o hM.r15 ?_
      refine z_iload_n dX6_putAside_21 rfl ?_
      refine z_iaN dX6_putAside_22 hM.a15 (by omega) (by decide) ?_
      refine z_isN dX6_putAside_23 hM.a0 (by omega) (by decide) ?_
      refine z_goto (tgt := 39) dX6_putAside_24 (by decide) ?_
      refine z_iincN2 (n := 1) dX6_putAside_39 rfl ?_
      refine z_goto (tgt := 2) dX6_putAside_42 (by decide) ?_
      exact ih (k + 1) _ (by omega) (by omega) (cp_s hc (by omega) (by rw [hc.2 106 (by decide)]))
set_option maxRecDepth 100000 in
set_option maxHeartbeats 4000000 in
theorem m_putAside1 {S : zS} {R : zMR} (I : zMI) (L : zML) (hM : zMO S R) : zM0 yX6_putAside cX6_putAside 3 none 0 [.ref 96, .int (nI 1)] S I L R (zPv L (fun J => cpI I J 97 (I 106) 0 78)) := by
  refine zM0_of (own := RX6) (lv := [some (.ref 96), some (.int (nI 1)), none]) rfl (by decide) rfl rfl ?_
  refine z_iconst (nI 0) dX6_putAside_0 (by decide) ?_
  refine z_ist2 dX6_putAside_1 rfl ?_
  exact m_putAside_l1 I L hM 79 0 I (by omega) (by omega) (cp_0 _ _ _ _)
theorem aside_ok {I J1 J2 J3 J4 : zMI} {s : St} (hI : zDM I s) (h1 : cpI I J1 106 (I 97) 0 78) (h2 : stF J1 J2) (h3 : zMF J2 J3) (h4 : cpI J3 J4 97 (J3 106) 0 78) : zDM J4 s ∧ ∀ p, p < 96 → J4 p = I p := by
  obtain ⟨hv, ho, hr⟩ := hI
  have f : ∀ q, (q < 96 ∨ (98 ≤ q ∧ q ≤ 100)) → J4 q = I q := fun q hq => by rw [h4.2 q (by omega), h3.1 q (by omega), h2 q (by omega), h1.2 q (by omega)]
  refine ⟨⟨hv.copy ho.1 (fun k hk => ?_), ho, hr.frame ?_ (f 98 (by omega)) (f 99 (by omega)) (f 100 (by omega))⟩, fun p hp => f p (by omega)⟩
  · rw [cp_in h4 hk, h3.1 106 (by omega), h2 106 (by decide)]
    have := cp_in h1 hk
    rw [Nat.zero_add] at this
    rw [this, Nat.zero_add]
  · rw [h4.2 96 (by decide), h3.2, h2 96 (by decide), h1.2 96 (by decide)]
set_option maxRecDepth 100000 in
set_option maxHeartbeats 4000000 in
theorem m_wouldCut {S : zS} {R : zMR} (I : zMI) (L : zML) {s : St} (hM : zMO S R) (hI : zDM I s) (a z : Int32) : zM0 yX6_wouldCut cX6_wouldCut 4 (some .int) 5 [.ref 96, .int a, .int z] S I L R (zPi L (fun I2 r => r = aWCut s a.toInt z.toInt ∧ zDM I2 s ∧ ∀ p, p < 96 → I2 p = I p)) := by
  refine zM0_of (own := RX6) (lv := [some (.ref 96), some (.int a), some (.int z), none]) rfl (by decide) rfl rfl ?_
  obtain ⟨hv, ho, hr⟩ := id hI
  have hl := ho.1
  have hnp := ho.2.2.1
  have h8 := hr.2.1
  refine z_aload_n dX6_wouldCut_0 rfl ?_
  refine z_iload_n dX6_wouldCut_1 rfl ?_
  refine z_callV1p dX6_wouldCut_2 mX6_153 hM.o (m_isShape I L hM hv ho a) (by decide) (Nat.le_of_ble_eq_true rfl) ⟨Nat.le_refl _, Nat.le_refl _⟩ ?_
  refine z_if_neB (tgt := 11) dX6_wouldCut_5 (by decide) (fun h5 => ?_) (fun h5 => ?_)
  · obtain ⟨j, sh, rfl, hsh, hja, hg⟩ := has_nat hl h5
    have hj := getS_lt hsh
    refine z_iload_n dX6_wouldCut_11 rfl ?_
    refine z_i2l dX6_wouldCut_12 ?_
    refine z_lconst 0 dX6_wouldCut_13 (by decide) ?_
    refine z_ldc2 dX6_wouldCut_14 kX6_172 ?_
    refine z_callS3p dX6_wouldCut_17 mX6_41 (m_in I L (l_i z) (l := 0) (by decide) (h := 14) (by decide)) (by decide) (Nat.le_of_ble_eq_true rfl) ⟨Nat.le_refl _, Nat.le_refl _⟩ ?_
    refine z_if_neB (tgt := 26) dX6_wouldCut_20 (by decide) (fun h20 => ?_) (fun h20 => ?_)
    · obtain ⟨x, hx1, rfl⟩ := nI_of3 (x := z) (n := 15) h20.1 (by omega) (by omega)
      have hxa : (nI x).toInt = (x : Int) := nI_T (by omega)
      rw [hxa] at h20
      refine z_aload_n dX6_wouldCut_26 rfl ?_
      refine z_iload_n dX6_wouldCut_27 rfl ?_
      refine z_iload_n dX6_wouldCut_28 rfl ?_
      refine z_callV2p dX6_wouldCut_29 mX6_174 hM.o (m_mayCut I L hM hv ho j hsh x hx1) (by decide) (Nat.le_of_ble_eq_true rfl) ⟨Nat.le_refl _, Nat.le_refl _⟩ ?_
      refine z_if_eqB (tgt := 44) dX6_wouldCut_32 (by decide) (fun h32 => ?_) (fun h32 => ?_)
      · refine z_iconst (-1) dX6_wouldCut_44 (by decide) ?_
        have e9 : rCut s.1.1 (nI j).toInt (nI x).toInt = kNOT ∨ rCut s.1.1 (nI j).toInt (nI x).toInt = kFUL := by first | (left; rw [hxa, rCut, zif_t h5, zif_t h20, hja, zif_f h32]) | (right; rw [hxa, rCut, zif_t h5, zif_t h20, hja, zif_t h32, zif_t (by omega)])
        exact z_iret dX6_wouldCut_45 ⟨Nat.le_refl _, Nat.le_refl _⟩ rfl ⟨rfl, rfl, rfl, _, ⟨by rw [aWCut, zif_t e9], hI, fun p _ => rfl⟩, rfl⟩
      · have hcc := id h32
        unfold canCut at hcc
        rw [hg, Int.toNat_natCast] at hcc
        refine z_aload_n dX6_wouldCut_35 rfl ?_
        refine z_callV0p dX6_wouldCut_36 mX6_121 hM.o (m_manyPieces I L hM hv ho) (by decide) (Nat.le_of_ble_eq_true rfl) ⟨Nat.le_refl _, Nat.le_refl _⟩ ?_
        refine z_bipush (nI 14) dX6_wouldCut_39 (by decide) ?_
        refine z_icmp_neNN (tgt := 46) dX6_wouldCut_41 (by decide) (by omega) (by omega) (fun h41 => ?_) (fun h41 => ?_)
        · refine z_aload_n dX6_wouldCut_46 rfl ?_
          refine z_iconst (nI 0) dX6_wouldCut_47 (by decide) ?_
          refine z_callV1v dX6_wouldCut_48 mX6_261 hM.o (m_putAside0 I L hM) (by decide) (Nat.le_of_ble_eq_true rfl) ⟨Nat.le_refl _, Nat.le_refl _⟩ (fun J1 h1 => ?_)
          have hv1 : zMb (J1 97) 0 s.1 := by rw [h1.2 97 (by decide)]; exact hv
          have hok := cut_len ho hsh (show sx sh ≤ x from by omega) (by omega) hcc.2.2.1 hcc.2.2.2 (by omega)
          refine z_aload_n dX6_wouldCut_51 rfl ?_
          refine z_iload_n dX6_wouldCut_52 rfl ?_
          refine z_iload_n dX6_wouldCut_53 rfl ?_
          refine z_callV2v dX6_wouldCut_54 mX6_177 hM.o (m_doCut J1 L hM hv1 ho j hsh x hx1 hcc.2.2.1 hcc.2.2.2) (by decide) (Nat.le_of_ble_eq_true rfl) ⟨Nat.le_refl _, Nat.le_refl _⟩ (fun J2 h2 => ?_)
          refine z_aload_n dX6_wouldCut_57 rfl ?_
          refine z_callV0i dX6_wouldCut_58 mX6_191 hM.o (m_costOfBest J2 L hM h2.1 hok) (by decide) (Nat.le_of_ble_eq_true rfl) ⟨Nat.le_refl _, Nat.le_refl _⟩ (fun J3 v3 h3 => ?_)
          refine z_ist3 dX6_wouldCut_61 rfl ?_
          refine z_aload_n dX6_wouldCut_62 rfl ?_
          refine z_iconst (nI 1) dX6_wouldCut_63 (by decide) ?_
          refine z_callV1v dX6_wouldCut_64 mX6_261 hM.o (m_putAside1 J3 L hM) (by decide) (Nat.le_of_ble_eq_true rfl) ⟨Nat.le_refl _, Nat.le_refl _⟩ (fun J4 h4 => ?_)
          refine z_iload_n dX6_wouldCut_67 rfl ?_
          have e9 : rCut s.1.1 (nI j).toInt (nI x).toInt = 0 := by rw [hxa, rCut, zif_t h5, zif_t h20, hja, zif_t h32, zif_f (by omega)]
          have hA := aside_ok hI h1 h2.2 h3.2 h4
          exact z_iret dX6_wouldCut_68 ⟨Nat.le_refl _, Nat.le_refl _⟩ rfl ⟨rfl, rfl, rfl, _, ⟨h3.1.trans (by rw [aWCut, e9, zif_f (by decide), zif_t rfl]; unfold shCt; rw [hja, hxa, hg, Int.toNat_natCast, Int.toNat_natCast]), hA.1, hA.2⟩, rfl⟩
        · refine z_iconst (-1) dX6_wouldCut_44 (by decide) ?_
          have e9 : rCut s.1.1 (nI j).toInt (nI x).toInt = kNOT ∨ rCut s.1.1 (nI j).toInt (nI x).toInt = kFUL := by first | (left; rw [hxa, rCut, zif_t h5, zif_t h20, hja, zif_f h32]) | (right; rw [hxa, rCut, zif_t h5, zif_t h20, hja, zif_t h32, zif_t (by omega)])
          exact z_iret dX6_wouldCut_45 ⟨Nat.le_refl _, Nat.le_refl _⟩ rfl ⟨rfl, rfl, rfl, _, ⟨by rw [aWCut, zif_t e9], hI, fun p _ => rfl⟩, rfl⟩
    · refine z_ldc dX6_wouldCut_23 kX6_132 ?_
      have e9 : rCut s.1.1 (nI j).toInt z.toInt = kOUT := by rw [rCut, zif_t h5, zif_f h20]
      exact z_iret dX6_wouldCut_25 ⟨Nat.le_refl _, Nat.le_refl _⟩ rfl ⟨rfl, rfl, rfl, _, ⟨by rw [aWCut, e9, zif_f (by decide), zif_f (by decide)], hI, fun p _ => rfl⟩, rfl⟩
  · refine z_ldc dX6_wouldCut_8 kX6_156 ?_
    have e9 : rCut s.1.1 a.toInt z.toInt = kUNK := by rw [rCut, zif_f h5]
    exact z_iret dX6_wouldCut_10 ⟨Nat.le_refl _, Nat.le_refl _⟩ rfl ⟨rfl, rfl, rfl, _, ⟨by rw [aWCut, e9, zif_f (by decide), zif_f (by decide)], hI, fun p _ => rfl⟩, rfl⟩
set_option maxRecDepth 100000 in
set_option maxHeartbeats 4000000 in
theorem m_wouldMove {S : zS} {R : zMR} (I : zMI) (L : zML) {s : St} (hM : zMO S R) (hI : zDM I s) (a dx dy : Int32) : zM0 yX6_wouldMove cX6_wouldMove 5 (some .int) 5 [.ref 96, .int a, .int dx, .int dy] S I L R (zPi L (fun I2 r => r = aWMove s a.toInt dx.toInt dy.toInt ∧ zDM I2 s ∧ ∀ p, p < 96 → I2 p = I p)) := by
  refine zM0_of (own := RX6) (lv := [some (.ref 96), some (.int a), some (.int dx), some (.int dy), none]) rfl (by decide) rfl rfl ?_
  obtain ⟨hv, ho, hr⟩ := id hI
  have hl := ho.1
  have hnp := ho.2.2.1
  have h8 := hr.2.1
  refine z_aload_n dX6_wouldMove_0 rfl ?_
  refine z_iload_n dX6_wouldMove_1 rfl ?_
  refine z_callV1p dX6_wouldMove_2 mX6_153 hM.o (m_isShape I L hM hv ho a) (by decide) (Nat.le_of_ble_eq_true rfl) ⟨Nat.le_refl _, Nat.le_refl _⟩ ?_
  refine z_if_neB (tgt := 11) dX6_wouldMove_5 (by decide) (fun h5 => ?_) (fun h5 => ?_)
  · obtain ⟨j, sh, rfl, hsh, hja, hg⟩ := has_nat hl h5
    have hj := getS_lt hsh
    refine z_iload_n dX6_wouldMove_11 rfl ?_
    refine z_iload_n dX6_wouldMove_12 rfl ?_
    refine z_callS2p dX6_wouldMove_13 mX6_159 (m_areSteps I L dx dy) (by decide) (Nat.le_of_ble_eq_true rfl) ⟨Nat.le_refl _, Nat.le_refl _⟩ ?_
    refine z_if_neB (tgt := 22) dX6_wouldMove_16 (by decide) (fun h16 => ?_) (fun h16 => ?_)
    · refine z_aload_n dX6_wouldMove_22 rfl ?_
      refine z_iload_n dX6_wouldMove_23 rfl ?_
      refine z_iload_n dX6_wouldMove_24 rfl ?_
      refine z_iload_n dX6_wouldMove_25 rfl ?_
      refine z_callV3p dX6_wouldMove_26 mX6_162 hM.o (m_mayMove I L hM hv ho j hsh dx dy h16) (by decide) (Nat.le_of_ble_eq_true rfl) ⟨Nat.le_refl _, Nat.le_refl _⟩ ?_
      refine z_if_neB (tgt := 34) dX6_wouldMove_29 (by decide) (fun h29 => ?_) (fun h29 => ?_)
      · have hcs := id h29
        unfold canStep at hcs
        rw [hg] at hcs
        have hok := ho.move hsh hcs.1 hcs.2
        have hF := hcs.1
        unfold onF at hF
        refine z_aload_n dX6_wouldMove_34 rfl ?_
        refine z_iconst (nI 0) dX6_wouldMove_35 (by decide) ?_
        refine z_callV1v dX6_wouldMove_36 mX6_261 hM.o (m_putAside0 I L hM) (by decide) (Nat.le_of_ble_eq_true rfl) ⟨Nat.le_refl _, Nat.le_refl _⟩ (fun J1 h1 => ?_)
        have hv1 : zMb (J1 97) 0 s.1 := by rw [h1.2 97 (by decide)]; exact hv
        refine z_aload_n dX6_wouldMove_39 rfl ?_
        refine z_iload_n dX6_wouldMove_40 rfl ?_
        refine z_iload_n dX6_wouldMove_41 rfl ?_
        refine z_iload_n dX6_wouldMove_42 rfl ?_
        refine z_callV3v dX6_wouldMove_43 mX6_166 hM.o (m_doMove J1 L hM hv1 ho j hsh dx dy (by omega) (by omega)) (by decide) (Nat.le_of_ble_eq_true rfl) ⟨Nat.le_refl _, Nat.le_refl _⟩ (fun J2 h2 => ?_)
        refine z_aload_n dX6_wouldMove_46 rfl ?_
        refine z_callV0i dX6_wouldMove_47 mX6_191 hM.o (m_costOfBest J2 L hM h2.1 hok) (by decide) (Nat.le_of_ble_eq_true rfl) ⟨Nat.le_refl _, Nat.le_refl _⟩ (fun J3 v3 h3 => ?_)
        refine z_ist4 dX6_wouldMove_50 rfl ?_
        refine z_aload_n dX6_wouldMove_52 rfl ?_
        refine z_iconst (nI 1) dX6_wouldMove_53 (by decide) ?_
        refine z_callV1v dX6_wouldMove_54 mX6_261 hM.o (m_putAside1 J3 L hM) (by decide) (Nat.le_of_ble_eq_true rfl) ⟨Nat.le_refl _, Nat.le_refl _⟩ (fun J4 h4 => ?_)
        refine z_iload dX6_wouldMove_57 rfl ?_
        have e9 : rStep s.1.1 (nI j).toInt dx.toInt dy.toInt = 0 := by rw [rStep, zif_t h5, zif_t h16, hja, zif_t h29]
        have hA := aside_ok hI h1 h2.2 h3.2 h4
        exact z_iret dX6_wouldMove_59 ⟨Nat.le_refl _, Nat.le_refl _⟩ rfl ⟨rfl, rfl, rfl, _, ⟨h3.1.trans (by rw [aWMove, e9, zif_f (by decide), zif_t rfl]; unfold shMv; rw [hja, hg, Int.toNat_natCast]), hA.1, hA.2⟩, rfl⟩
      · refine z_iconst (-1) dX6_wouldMove_32 (by decide) ?_
        have e9 : rStep s.1.1 (nI j).toInt dx.toInt dy.toInt = kNOT := by rw [rStep, zif_t h5, zif_t h16, hja, zif_f h29]
        exact z_iret dX6_wouldMove_33 ⟨Nat.le_refl _, Nat.le_refl _⟩ rfl ⟨rfl, rfl, rfl, _, ⟨by rw [aWMove, zif_t e9], hI, fun p _ => rfl⟩, rfl⟩
    · refine z_ldc dX6_wouldMove_19 kX6_132 ?_
      have e9 : rStep s.1.1 (nI j).toInt dx.toInt dy.toInt = kOUT := by rw [rStep, zif_t h5, zif_f h16]
      exact z_iret dX6_wouldMove_21 ⟨Nat.le_refl _, Nat.le_refl _⟩ rfl ⟨rfl, rfl, rfl, _, ⟨by rw [aWMove, e9, zif_f (by decide), zif_f (by decide)], hI, fun p _ => rfl⟩, rfl⟩
  · refine z_ldc dX6_wouldMove_8 kX6_156 ?_
    have e9 : rStep s.1.1 a.toInt dx.toInt dy.toInt = kUNK := by rw [rStep, zif_f h5]
    exact z_iret dX6_wouldMove_10 ⟨Nat.le_refl _, Nat.le_refl _⟩ rfl ⟨rfl, rfl, rfl, _, ⟨by rw [aWMove, e9, zif_f (by decide), zif_f (by decide)], hI, fun p _ => rfl⟩, rfl⟩
theorem zuL_same {L : zML} {p k : Nat} {v : Int64} : zuL L p k v p k = v := by simp [zuL]
theorem lN_ne {c : Nat} (h : c ≠ 0) (h2 : c < 100) : ¬ lN c = 0 := by
  have key : ∀ c, c < 100 → c ≠ 0 → ¬ lN c = 0 := by decide +kernel
  exact key c h2 h
set_option maxRecDepth 100000 in
set_option maxHeartbeats 4000000 in
theorem m_lotOf {S : zS} {R : zMR} (I : zMI) (L : zML) (hM : zMO S R) (k c : Nat) (hk : k < 2147483648) (hL : L 96 14 = lN k) (hc : c ≠ 0) (hc2 : c < 100) : zM0 yX6_lotOf cX6_lotOf 2 (some .int) 0 [.ref 96, .int (nI c)] S I L R ((fun I2 L2 r => I = I2 ∧ zuL L 96 14 (lN (nxt k)) = L2 ∧ some (.int (nI (nxt k % c))) = r)) := by
  refine zM0_of (own := RX6) (lv := [some (.ref 96), some (.int (nI c))]) rfl (by decide) rfl rfl ?_
  refine z_aload_n dX6_lotOf_0 rfl ?_
  refine z_aload_n dX6_lotOf_1 rfl ?_
  refine z_getl dX6_lotOf_2 fX6_194 hM.o ?_
  refine z_topl hL ?_
  refine z_ldc2 dX6_lotOf_5 kX6_198 ?_
  refine z_topl (y := lN 16807) (by decide) ?_
  refine z_lmul dX6_lotOf_8 ?_
  refine z_topl (lN_mul _ _) ?_
  refine z_ldc2 dX6_lotOf_9 kX6_200 ?_
  refine z_topl (y := lN 2147483647) (by decide) ?_
  refine z_lrem dX6_lotOf_12 (by decide) ?_
  refine z_topl (show _ = lN (nxt k) from pk_lRem (by omega) (by decide) (by decide)) ?_
  refine z_putl dX6_lotOf_13 fX6_194 hM.o ?_
  refine z_aload_n dX6_lotOf_16 rfl ?_
  refine z_getl dX6_lotOf_17 fX6_194 hM.o ?_
  refine z_topl zuL_same ?_
  refine z_iload_n dX6_lotOf_20 rfl ?_
  refine z_i2l dX6_lotOf_21 ?_
  rw [nI_l (show c < 2 ^ 31 from by omega)]
  refine z_lrem dX6_lotOf_22 (lN_ne (by omega) (by omega)) ?_
  refine z_topl (pk_lRem (by have := nxt_lt k; omega) (by omega) (by omega)) ?_
  refine z_l2i dX6_lotOf_23 ?_
  refine z_top (show _ = nI (nxt k % c) from lN_i _) ?_
  exact z_iret dX6_lotOf_24 ⟨Nat.le_refl _, Nat.le_refl _⟩ rfl ⟨rfl, rfl, rfl, rfl, rfl⟩
set_option maxRecDepth 100000 in
set_option maxHeartbeats 4000000 in
theorem m_drift_l {S : zS} {R : zMR} (I : zMI) (hM : zMO S R) {v : Ly} (N k0 : Nat) (l0 : List Sh) (hN : N ≤ 20) (z0 : Int32) : ∀ (n : Nat) (i : Nat) (J : zMI) (L : zML) (l : List Sh) (kk : Nat) (a4 a5 a6 a7 : Option Value), N + 1 ≤ i + n → i ≤ N → kk < 2147483648 → L 96 14 = lN kk → zMb (J 97) 0 (lyS v l) → lyOk (lyS v l) → stF I J → zCat [a4] = true → zCat [a5] = true → zCat [a6] = true → zCat [a7] = true → drF N k0 l0 = drF (N - i) kk l → zV (zMt RX6 cX6_drift 8 (some .int) 4) (fun S2 I2 L2 R2 rr => S2 = S ∧ R2 = R ∧ (fun I2 L2 rr => ∃ v9, (v9 = nI (drF N k0 l0).length ∧ zMb (I2 97) 0 (lyS v (drF N k0 l0)) ∧ stF I I2) ∧ rr = some (.int v9)) I2 L2 rr) (0, 0) S J L R 43 [some (.ref 96), some (.int (nI N)), some (.int z0), some (.int (nI i)), a4, a5, a6, a7] [] := by
  intro n
  induction n with
  | zero => intro i J L l kk a4 a5 a6 a7 h1 h2 hk hL hv hok hF q4 q5 q6 q7 hD; omega
  | succ n ih =>
    intro i J L l kk a4 a5 a6 a7 h1 h2 hk hL hv hok hF q4 q5 q6 q7 hD
    have hl := hok.1
    refine z_iload_n dX6_drift_43 rfl ?_
    refine z_iload_n dX6_drift_44 rfl ?_
    refine z_icmp_geNN (tgt := 157) dX6_drift_45 (by decide) (by omega) (by omega) (fun h45 => ?_) (fun h45 => ?_)
    · refine z_aload_n dX6_drift_157 rfl ?_
      refine z_getr dX6_drift_158 fX6_7 hM.o hM.r0 ?_
      refine z_iconst (nI 0) dX6_drift_161 (by decide) ?_
      refine z_iaN dX6_drift_162 hM.a0 (by omega) (by decide) ?_
      refine z_top (hv.1) ?_
      have e : drF N k0 l0 = l := by rw [hD]; first | (rw [show N - i = 0 from by omega]; rfl) | (rw [show N - i = (N - (i + 1)) + 1 from by omega, drF, pif_t h52])
      exact z_iret dX6_drift_163 ⟨Nat.le_refl _, Nat.le_refl _⟩ rfl ⟨rfl, rfl, _, ⟨by rw [e]; rfl, by rw [e]; exact hv, hF⟩, rfl⟩
    · refine z_aload_n dX6_drift_48 rfl ?_
      refine z_callV0p dX6_drift_49 mX6_138 hM.o (m_isFull J _ hM hv hok) (by decide) (Nat.le_of_ble_eq_true rfl) ⟨Nat.le_refl _, Nat.le_refl _⟩ ?_
      refine z_if_neB (tgt := 157) dX6_drift_52 (by decide) (fun h52 => ?_) (fun h52 => ?_)
      · have h52 : full l := h52
        refine z_aload_n dX6_drift_157 rfl ?_
        refine z_getr dX6_drift_158 fX6_7 hM.o hM.r0 ?_
        refine z_iconst (nI 0) dX6_drift_161 (by decide) ?_
        refine z_iaN dX6_drift_162 hM.a0 (by omega) (by decide) ?_
        refine z_top (hv.1) ?_
        have e : drF N k0 l0 = l := by rw [hD]; first | (rw [show N - i = 0 from by omega]; rfl) | (rw [show N - i = (N - (i + 1)) + 1 from by omega, drF, pif_t h52])
        exact z_iret dX6_drift_163 ⟨Nat.le_refl _, Nat.le_refl _⟩ rfl ⟨rfl, rfl, _, ⟨by rw [e]; rfl, by rw [e]; exact hv, hF⟩, rfl⟩
      · have h52 : ¬ full l := h52
        refine z_aload_n dX6_drift_55 rfl ?_
        refine z_bipush (nI 16) dX6_drift_56 (by decide) ?_
        refine z_callV1 dX6_drift_58 mX6_206 hM.o (m_lotOf J _ hM kk 16 (by have := nxt_lt kk; have := nxt_lt (nxt kk); have := nxt_lt (nxt (nxt kk)); omega) hL (by decide) (by decide)) (by decide) (Nat.le_of_ble_eq_true rfl) ⟨Nat.le_refl _, Nat.le_refl _⟩ (fun I2 L2 r q => ?_)
        obtain ⟨rfl, rfl, rfl⟩ := q
        simp only [Option.toList_some, List.cons_append, List.nil_append]
        refine z_ist4 dX6_drift_61 (by repeat first | rfl | assumption | refine zCat_s ?_ | refine zCat_a ?_ ?_) ?_
        refine z_aload_n dX6_drift_63 rfl ?_
        refine z_bipush (nI 16) dX6_drift_64 (by decide) ?_
        refine z_callV1 dX6_drift_66 mX6_206 hM.o (m_lotOf J _ hM (nxt kk) 16 (by have := nxt_lt kk; have := nxt_lt (nxt kk); have := nxt_lt (nxt (nxt kk)); omega) zuL_same (by decide) (by decide)) (by decide) (Nat.le_of_ble_eq_true rfl) ⟨Nat.le_refl _, Nat.le_refl _⟩ (fun I2 L2 r q => ?_)
        obtain ⟨rfl, rfl, rfl⟩ := q
        simp only [Option.toList_some, List.cons_append, List.nil_append]
        refine z_ist5 dX6_drift_69 (by repeat first | rfl | assumption | refine zCat_s ?_ | refine zCat_a ?_ ?_) ?_
        refine z_iload dX6_drift_71 rfl ?_
        refine z_aload_n dX6_drift_73 rfl ?_
        refine z_iconst (nI 5) dX6_drift_74 (by decide) ?_
        refine z_callV1 dX6_drift_75 mX6_206 hM.o (m_lotOf J _ hM (nxt (nxt kk)) 5 (by have := nxt_lt kk; have := nxt_lt (nxt kk); have := nxt_lt (nxt (nxt kk)); omega) zuL_same (by decide) (by decide)) (by decide) (Nat.le_of_ble_eq_true rfl) ⟨Nat.le_refl _, Nat.le_refl _⟩ (fun I2 L2 r q => ?_)
        obtain ⟨rfl, rfl, rfl⟩ := q
        simp only [Option.toList_some, List.cons_append, List.nil_append]
        refine z_iaddN dX6_drift_78 ?_
        refine z_ist6 dX6_drift_79 (by repeat first | rfl | assumption | refine zCat_s ?_ | refine zCat_a ?_ ?_) ?_
        refine z_iload dX6_drift_81 rfl ?_
        refine z_aload_n dX6_drift_83 rfl ?_
        refine z_iconst (nI 3) dX6_drift_84 (by decide) ?_
        refine z_callV1 dX6_drift_85 mX6_206 hM.o (m_lotOf J _ hM (nxt (nxt (nxt kk))) 3 (by have := nxt_lt kk; have := nxt_lt (nxt kk); have := nxt_lt (nxt (nxt kk)); omega) zuL_same (by decide) (by decide)) (by decide) (Nat.le_of_ble_eq_true rfl) ⟨Nat.le_refl _, Nat.le_refl _⟩ (fun I2 L2 r q => ?_)
        obtain ⟨rfl, rfl, rfl⟩ := q
        simp only [Option.toList_some, List.cons_append, List.nil_append]
        refine z_iaddN dX6_drift_88 ?_
        refine z_ist7 dX6_drift_89 (by repeat first | rfl | assumption | refine zCat_s ?_ | refine zCat_a ?_ ?_) ?_
        refine z_iload dX6_drift_91 rfl ?_
        refine z_bipush (nI 16) dX6_drift_93 (by decide) ?_
        refine z_icmp_geNN (tgt := 103) dX6_drift_95 (by decide) (by omega) (by omega) (fun h95 => ?_) (fun h95 => ?_)
        · refine z_bipush (nI 15) dX6_drift_103 (by decide) ?_
          refine z_ist6 dX6_drift_105 (by repeat first | rfl | assumption | refine zCat_s ?_ | refine zCat_a ?_ ?_) ?_
          refine z_iload dX6_drift_107 rfl ?_
          refine z_bipush (nI 16) dX6_drift_109 (by decide) ?_
          refine z_icmp_geNN (tgt := 119) dX6_drift_111 (by decide) (by omega) (by omega) (fun h111 => ?_) (fun h111 => ?_)
          · refine z_bipush (nI 15) dX6_drift_119 (by decide) ?_
            refine z_ist7 dX6_drift_121 (by repeat first | rfl | assumption | refine zCat_s ?_ | refine zCat_a ?_ ?_) ?_
            refine z_aload_n dX6_drift_123 rfl ?_
            refine z_iload dX6_drift_124 rfl ?_
            refine z_top ((show _ = nI (dX kk) from rfl)) ?_
            refine z_iload dX6_drift_126 rfl ?_
            refine z_top ((show _ = nI (dY kk) from rfl)) ?_
            refine z_iload dX6_drift_128 rfl ?_
            refine z_top ((show _ = nI (dX2 kk) from congrArg nI (by unfold dX2 dX; omega))) ?_
            refine z_iload dX6_drift_130 rfl ?_
            refine z_top ((show _ = nI (dY2 kk) from congrArg nI (by unfold dY2 dY; omega))) ?_
            refine z_iconst (-1) dX6_drift_132 (by decide) ?_
            refine z_callV5p dX6_drift_133 mX6_133 hM.o (m_isFree J _ hM hv hok _ _ _ _ (-1) (by have := (lot_on kk).2.1; omega) (by have := (lot_on kk).2.2; omega) (by unfold dX2; omega) (by unfold dY2; omega)) (by decide) (Nat.le_of_ble_eq_true rfl) ⟨Nat.le_refl _, Nat.le_refl _⟩ ?_
            refine z_if_eqB (tgt := 151) dX6_drift_136 (by decide) (fun h136 => ?_) (fun h136 => ?_)
            · have h136 : ¬ isFr l (dX kk) (dY kk) (dX2 kk) (dY2 kk) (-1) := h136
              refine z_iincN3 (n := 1) dX6_drift_151 (by repeat first | rfl | assumption | refine zCat_s ?_ | refine zCat_a ?_ ?_) ?_
              refine z_goto (tgt := 43) dX6_drift_154 (by decide) ?_
              refine ih (i + 1) J _ l (nxt (nxt (nxt (nxt kk)))) _ _ _ _ (by omega) (by omega) (by have := nxt_lt (nxt (nxt (nxt kk))); omega) zuL_same hv hok hF rfl rfl rfl rfl ?_
              rw [hD, show N - i = (N - (i + 1)) + 1 from by omega, drF, pif_f h52, pif_f h136]
            · have h136 : isFr l (dX kk) (dY kk) (dX2 kk) (dY2 kk) (-1) := h136
              refine z_aload_n dX6_drift_139 rfl ?_
              refine z_iload dX6_drift_140 rfl ?_
              refine z_top ((show _ = nI (dX kk) from rfl)) ?_
              refine z_iload dX6_drift_142 rfl ?_
              refine z_top ((show _ = nI (dY kk) from rfl)) ?_
              refine z_iload dX6_drift_144 rfl ?_
              refine z_top ((show _ = nI (dX2 kk) from congrArg nI (by unfold dX2 dX; omega))) ?_
              refine z_iload dX6_drift_146 rfl ?_
              refine z_top ((show _ = nI (dY2 kk) from congrArg nI (by unfold dY2 dY; omega))) ?_
              refine z_callV4v dX6_drift_148 mX6_149 hM.o (m_addShape J _ hM hv (by unfold full at h52; show l.length < 10; omega) _ _ _ _) (by decide) (Nat.le_of_ble_eq_true rfl) ⟨Nat.le_refl _, Nat.le_refl _⟩ (fun J9 h9 => ?_)
              refine z_iincN3 (n := 1) dX6_drift_151 (by repeat first | rfl | assumption | refine zCat_s ?_ | refine zCat_a ?_ ?_) ?_
              refine z_goto (tgt := 43) dX6_drift_154 (by decide) ?_
              refine ih (i + 1) J9 _ (l ++ [nSh (dX kk) (dY kk) (dX2 kk) (dY2 kk)]) (nxt (nxt (nxt (nxt kk)))) _ _ _ _ (by omega) (by omega) (by have := nxt_lt (nxt (nxt (nxt kk))); omega) zuL_same h9.1 (hok.lot h136 h52) (hF.trans h9.2) rfl rfl rfl rfl ?_
              rw [hD, show N - i = (N - (i + 1)) + 1 from by omega, drF, pif_f h52, pif_t h136]
          · refine z_iload dX6_drift_114 rfl ?_
            refine z_goto (tgt := 121) dX6_drift_116 (by decide) ?_
            refine z_ist7 dX6_drift_121 (by repeat first | rfl | assumption | refine zCat_s ?_ | refine zCat_a ?_ ?_) ?_
            refine z_aload_n dX6_drift_123 rfl ?_
            refine z_iload dX6_drift_124 rfl ?_
            refine z_top ((show _ = nI (dX kk) from rfl)) ?_
            refine z_iload dX6_drift_126 rfl ?_
            refine z_top ((show _ = nI (dY kk) from rfl)) ?_
            refine z_iload dX6_drift_128 rfl ?_
            refine z_top ((show _ = nI (dX2 kk) from congrArg nI (by unfold dX2 dX; omega))) ?_
            refine z_iload dX6_drift_130 rfl ?_
            refine z_top ((show _ = nI (dY2 kk) from congrArg nI (by unfold dY2 dY; omega))) ?_
            refine z_iconst (-1) dX6_drift_132 (by decide) ?_
            refine z_callV5p dX6_drift_133 mX6_133 hM.o (m_isFree J _ hM hv hok _ _ _ _ (-1) (by have := (lot_on kk).2.1; omega) (by have := (lot_on kk).2.2; omega) (by unfold dX2; omega) (by unfold dY2; omega)) (by decide) (Nat.le_of_ble_eq_true rfl) ⟨Nat.le_refl _, Nat.le_refl _⟩ ?_
            refine z_if_eqB (tgt := 151) dX6_drift_136 (by decide) (fun h136 => ?_) (fun h136 => ?_)
            · have h136 : ¬ isFr l (dX kk) (dY kk) (dX2 kk) (dY2 kk) (-1) := h136
              refine z_iincN3 (n := 1) dX6_drift_151 (by repeat first | rfl | assumption | refine zCat_s ?_ | refine zCat_a ?_ ?_) ?_
              refine z_goto (tgt := 43) dX6_drift_154 (by decide) ?_
              refine ih (i + 1) J _ l (nxt (nxt (nxt (nxt kk)))) _ _ _ _ (by omega) (by omega) (by have := nxt_lt (nxt (nxt (nxt kk))); omega) zuL_same hv hok hF rfl rfl rfl rfl ?_
              rw [hD, show N - i = (N - (i + 1)) + 1 from by omega, drF, pif_f h52, pif_f h136]
            · have h136 : isFr l (dX kk) (dY kk) (dX2 kk) (dY2 kk) (-1) := h136
              refine z_aload_n dX6_drift_139 rfl ?_
              refine z_iload dX6_drift_140 rfl ?_
              refine z_top ((show _ = nI (dX kk) from rfl)) ?_
              refine z_iload dX6_drift_142 rfl ?_
              refine z_top ((show _ = nI (dY kk) from rfl)) ?_
              refine z_iload dX6_drift_144 rfl ?_
              refine z_top ((show _ = nI (dX2 kk) from congrArg nI (by unfold dX2 dX; omega))) ?_
              refine z_iload dX6_drift_146 rfl ?_
              refine z_top ((show _ = nI (dY2 kk) from congrArg nI (by unfold dY2 dY; omega))) ?_
              refine z_callV4v dX6_drift_148 mX6_149 hM.o (m_addShape J _ hM hv (by unfold full at h52; show l.length < 10; omega) _ _ _ _) (by decide) (Nat.le_of_ble_eq_true rfl) ⟨Nat.le_refl _, Nat.le_refl _⟩ (fun J9 h9 => ?_)
              refine z_iincN3 (n := 1) dX6_drift_151 (by repeat first | rfl | assumption | refine zCat_s ?_ | refine zCat_a ?_ ?_) ?_
              refine z_goto (tgt := 43) dX6_drift_154 (by decide) ?_
              refine ih (i + 1) J9 _ (l ++ [nSh (dX kk) (dY kk) (dX2 kk) (dY2 kk)]) (nxt (nxt (nxt (nxt kk)))) _ _ _ _ (by omega) (by omega) (by have := nxt_lt (nxt (nxt (nxt kk))); omega) zuL_same h9.1 (hok.lot h136 h52) (hF.trans h9.2) rfl rfl rfl rfl ?_
              rw [hD, show N - i = (N - (i + 1)) + 1 from by omega, drF, pif_f h52, pif_t h136]
        · refine z_iload dX6_drift_98 rfl ?_
          refine z_goto (tgt := 105) dX6_drift_100 (by decide) ?_
          refine z_ist6 dX6_drift_105 (by repeat first | rfl | assumption | refine zCat_s ?_ | refine zCat_a ?_ ?_) ?_
          refine z_iload dX6_drift_107 rfl ?_
          refine z_bipush (nI 16) dX6_drift_109 (by decide) ?_
          refine z_icmp_geNN (tgt := 119) dX6_drift_111 (by decide) (by omega) (by omega) (fun h111 => ?_) (fun h111 => ?_)
          · refine z_bipush (nI 15) dX6_drift_119 (by decide) ?_
            refine z_ist7 dX6_drift_121 (by repeat first | rfl | assumption | refine zCat_s ?_ | refine zCat_a ?_ ?_) ?_
            refine z_aload_n dX6_drift_123 rfl ?_
            refine z_iload dX6_drift_124 rfl ?_
            refine z_top ((show _ = nI (dX kk) from rfl)) ?_
            refine z_iload dX6_drift_126 rfl ?_
            refine z_top ((show _ = nI (dY kk) from rfl)) ?_
            refine z_iload dX6_drift_128 rfl ?_
            refine z_top ((show _ = nI (dX2 kk) from congrArg nI (by unfold dX2 dX; omega))) ?_
            refine z_iload dX6_drift_130 rfl ?_
            refine z_top ((show _ = nI (dY2 kk) from congrArg nI (by unfold dY2 dY; omega))) ?_
            refine z_iconst (-1) dX6_drift_132 (by decide) ?_
            refine z_callV5p dX6_drift_133 mX6_133 hM.o (m_isFree J _ hM hv hok _ _ _ _ (-1) (by have := (lot_on kk).2.1; omega) (by have := (lot_on kk).2.2; omega) (by unfold dX2; omega) (by unfold dY2; omega)) (by decide) (Nat.le_of_ble_eq_true rfl) ⟨Nat.le_refl _, Nat.le_refl _⟩ ?_
            refine z_if_eqB (tgt := 151) dX6_drift_136 (by decide) (fun h136 => ?_) (fun h136 => ?_)
            · have h136 : ¬ isFr l (dX kk) (dY kk) (dX2 kk) (dY2 kk) (-1) := h136
              refine z_iincN3 (n := 1) dX6_drift_151 (by repeat first | rfl | assumption | refine zCat_s ?_ | refine zCat_a ?_ ?_) ?_
              refine z_goto (tgt := 43) dX6_drift_154 (by decide) ?_
              refine ih (i + 1) J _ l (nxt (nxt (nxt (nxt kk)))) _ _ _ _ (by omega) (by omega) (by have := nxt_lt (nxt (nxt (nxt kk))); omega) zuL_same hv hok hF rfl rfl rfl rfl ?_
              rw [hD, show N - i = (N - (i + 1)) + 1 from by omega, drF, pif_f h52, pif_f h136]
            · have h136 : isFr l (dX kk) (dY kk) (dX2 kk) (dY2 kk) (-1) := h136
              refine z_aload_n dX6_drift_139 rfl ?_
              refine z_iload dX6_drift_140 rfl ?_
              refine z_top ((show _ = nI (dX kk) from rfl)) ?_
              refine z_iload dX6_drift_142 rfl ?_
              refine z_top ((show _ = nI (dY kk) from rfl)) ?_
              refine z_iload dX6_drift_144 rfl ?_
              refine z_top ((show _ = nI (dX2 kk) from congrArg nI (by unfold dX2 dX; omega))) ?_
              refine z_iload dX6_drift_146 rfl ?_
              refine z_top ((show _ = nI (dY2 kk) from congrArg nI (by unfold dY2 dY; omega))) ?_
              refine z_callV4v dX6_drift_148 mX6_149 hM.o (m_addShape J _ hM hv (by unfold full at h52; show l.length < 10; omega) _ _ _ _) (by decide) (Nat.le_of_ble_eq_true rfl) ⟨Nat.le_refl _, Nat.le_refl _⟩ (fun J9 h9 => ?_)
              refine z_iincN3 (n := 1) dX6_drift_151 (by repeat first | rfl | assumption | refine zCat_s ?_ | refine zCat_a ?_ ?_) ?_
              refine z_goto (tgt := 43) dX6_drift_154 (by decide) ?_
              refine ih (i + 1) J9 _ (l ++ [nSh (dX kk) (dY kk) (dX2 kk) (dY2 kk)]) (nxt (nxt (nxt (nxt kk)))) _ _ _ _ (by omega) (by omega) (by have := nxt_lt (nxt (nxt (nxt kk))); omega) zuL_same h9.1 (hok.lot h136 h52) (hF.trans h9.2) rfl rfl rfl rfl ?_
              rw [hD, show N - i = (N - (i + 1)) + 1 from by omega, drF, pif_f h52, pif_t h136]
          · refine z_iload dX6_drift_114 rfl ?_
            refine z_goto (tgt := 121) dX6_drift_116 (by decide) ?_
            refine z_ist7 dX6_drift_121 (by repeat first | rfl | assumption | refine zCat_s ?_ | refine zCat_a ?_ ?_) ?_
            refine z_aload_n dX6_drift_123 rfl ?_
            refine z_iload dX6_drift_124 rfl ?_
            refine z_top ((show _ = nI (dX kk) from rfl)) ?_
            refine z_iload dX6_drift_126 rfl ?_
            refine z_top ((show _ = nI (dY kk) from rfl)) ?_
            refine z_iload dX6_drift_128 rfl ?_
            refine z_top ((show _ = nI (dX2 kk) from congrArg nI (by unfold dX2 dX; omega))) ?_
            refine z_iload dX6_drift_130 rfl ?_
            refine z_top ((show _ = nI (dY2 kk) from congrArg nI (by unfold dY2 dY; omega))) ?_
            refine z_iconst (-1) dX6_drift_132 (by decide) ?_
            refine z_callV5p dX6_drift_133 mX6_133 hM.o (m_isFree J _ hM hv hok _ _ _ _ (-1) (by have := (lot_on kk).2.1; omega) (by have := (lot_on kk).2.2; omega) (by unfold dX2; omega) (by unfold dY2; omega)) (by decide) (Nat.le_of_ble_eq_true rfl) ⟨Nat.le_refl _, Nat.le_refl _⟩ ?_
            refine z_if_eqB (tgt := 151) dX6_drift_136 (by decide) (fun h136 => ?_) (fun h136 => ?_)
            · have h136 : ¬ isFr l (dX kk) (dY kk) (dX2 kk) (dY2 kk) (-1) := h136
              refine z_iincN3 (n := 1) dX6_drift_151 (by repeat first | rfl | assumption | refine zCat_s ?_ | refine zCat_a ?_ ?_) ?_
              refine z_goto (tgt := 43) dX6_drift_154 (by decide) ?_
              refine ih (i + 1) J _ l (nxt (nxt (nxt (nxt kk)))) _ _ _ _ (by omega) (by omega) (by have := nxt_lt (nxt (nxt (nxt kk))); omega) zuL_same hv hok hF rfl rfl rfl rfl ?_
              rw [hD, show N - i = (N - (i + 1)) + 1 from by omega, drF, pif_f h52, pif_f h136]
            · have h136 : isFr l (dX kk) (dY kk) (dX2 kk) (dY2 kk) (-1) := h136
              refine z_aload_n dX6_drift_139 rfl ?_
              refine z_iload dX6_drift_140 rfl ?_
              refine z_top ((show _ = nI (dX kk) from rfl)) ?_
              refine z_iload dX6_drift_142 rfl ?_
              refine z_top ((show _ = nI (dY kk) from rfl)) ?_
              refine z_iload dX6_drift_144 rfl ?_
              refine z_top ((show _ = nI (dX2 kk) from congrArg nI (by unfold dX2 dX; omega))) ?_
              refine z_iload dX6_drift_146 rfl ?_
              refine z_top ((show _ = nI (dY2 kk) from congrArg nI (by unfold dY2 dY; omega))) ?_
              refine z_callV4v dX6_drift_148 mX6_149 hM.o (m_addShape J _ hM hv (by unfold full at h52; show l.length < 10; omega) _ _ _ _) (by decide) (Nat.le_of_ble_eq_true rfl) ⟨Nat.le_refl _, Nat.le_refl _⟩ (fun J9 h9 => ?_)
              refine z_iincN3 (n := 1) dX6_drift_151 (by repeat first | rfl | assumption | refine zCat_s ?_ | refine zCat_a ?_ ?_) ?_
              refine z_goto (tgt := 43) dX6_drift_154 (by decide) ?_
              refine ih (i + 1) J9 _ (l ++ [nSh (dX kk) (dY kk) (dX2 kk) (dY2 kk)]) (nxt (nxt (nxt (nxt kk)))) _ _ _ _ (by omega) (by omega) (by have := nxt_lt (nxt (nxt (nxt kk))); omega) zuL_same h9.1 (hok.lot h136 h52) (hF.trans h9.2) rfl rfl rfl rfl ?_
              rw [hD, show N - i = (N - (i + 1)) + 1 from by omega, drF, pif_f h52, pif_t h136]
theorem drF_ok {v : Ly} {l : List Sh} (h : lyOk (lyS v l)) : ∀ (n k : Nat), lyOk (lyS v (drF n k l)) := by
  intro n
  induction n generalizing l with
  | zero => intro k; exact h
  | succ n ih =>
    intro k
    rw [drF]
    by_cases c : full l
    · rw [pif_t c]; exact h
    · rw [pif_f c]
      by_cases d : isFr l (dX k) (dY k) (dX2 k) (dY2 k) (-1)
      · rw [pif_t d]; exact ih (h.lot d c) _
      · rw [pif_f d]; exact ih h _
set_option maxRecDepth 100000 in
set_option maxHeartbeats 4000000 in
theorem m_drift {S : zS} {R : zMR} (I : zMI) (L : zML) {s : St} (hM : zMO S R) (hI : zDM I s) (a z : Int32) : zM0 yX6_drift cX6_drift 8 (some .int) 4 [.ref 96, .int a, .int z] S I L R ((fun I2 L2 rr => ∃ v9, (v9 = (oDrift s a.toInt z.toInt).1 ∧ zDM I2 (oDrift s a.toInt z.toInt).2 ∧ ∀ p, p < 96 → I2 p = I p) ∧ rr = some (.int v9))) := by
  refine zM0_of (own := RX6) (lv := [some (.ref 96), some (.int a), some (.int z), none, none, none, none, none]) rfl (by decide) rfl rfl ?_
  obtain ⟨hv, ho, hr⟩ := id hI
  have hl := ho.1
  have hnp := ho.2.2.1
  have h8 := hr.2.1
  refine z_iload_n dX6_drift_0 rfl ?_
  refine z_i2l dX6_drift_1 ?_
  refine z_lconst 1 dX6_drift_2 (by decide) ?_
  refine z_ldc2 dX6_drift_3 kX6_202 ?_
  refine z_callS3p dX6_drift_6 mX6_41 (m_in I L (l_i a) (l := 1) (by decide) (h := 20) (by decide)) (by decide) (Nat.le_of_ble_eq_true rfl) ⟨Nat.le_refl _, Nat.le_refl _⟩ ?_
  refine z_if_eqB (tgt := 24) dX6_drift_9 (by decide) (fun h9 => ?_) (fun h9 => ?_)
  · refine z_ldc dX6_drift_24 kX6_132 ?_
    exact z_iret dX6_drift_26 ⟨Nat.le_refl _, Nat.le_refl _⟩ rfl ⟨rfl, rfl, _, ⟨by rw [oDrift, pif_f (by omega)], by rw [oDrift, pif_f (by omega)]; exact hI, fun p _ => rfl⟩, rfl⟩
  · refine z_iload_n dX6_drift_12 rfl ?_
    refine z_i2l dX6_drift_13 ?_
    refine z_lconst 1 dX6_drift_14 (by decide) ?_
    refine z_ldc2 dX6_drift_15 kX6_204 ?_
    refine z_callS3p dX6_drift_18 mX6_41 (m_in I L (l_i z) (l := 1) (by decide) (h := 999999) (by decide)) (by decide) (Nat.le_of_ble_eq_true rfl) ⟨Nat.le_refl _, Nat.le_refl _⟩ ?_
    refine z_if_neB (tgt := 27) dX6_drift_21 (by decide) (fun h21 => ?_) (fun h21 => ?_)
    · obtain ⟨N, hN, rfl⟩ := nI_of3 (x := a) (n := 21) (by omega) (by omega) (by omega)
      obtain ⟨kk, hkk, rfl⟩ := nI_of3 (x := z) (n := 1000000) (by omega) (by omega) (by omega)
      have na : (nI N).toInt = (N : Int) := nI_T (by omega)
      have nz : (nI kk).toInt = (kk : Int) := nI_T (by omega)
      refine z_aload_n dX6_drift_27 rfl ?_
      refine z_callV0v dX6_drift_28 mX6_143 hM.o (m_note I L hM hv ho hr) (by decide) (Nat.le_of_ble_eq_true rfl) ⟨Nat.le_refl _, Nat.le_refl _⟩ (fun J1 h1 => ?_)
      have hv1 : zMb (J1 97) 0 s.1 := by rw [h1.2.1]; exact hv
      refine z_aload_n dX6_drift_31 rfl ?_
      refine z_callV0v dX6_drift_32 mX6_146 hM.o (m_free J1 L hM hv1 hl) (by decide) (Nat.le_of_ble_eq_true rfl) ⟨Nat.le_refl _, Nat.le_refl _⟩ (fun J2 h2 => ?_)
      refine z_aload_n dX6_drift_35 rfl ?_
      refine z_iload_n dX6_drift_36 rfl ?_
      refine z_i2l dX6_drift_37 ?_
      rw [nI_l (show kk < 2 ^ 31 from by omega)]
      refine z_putl dX6_drift_38 fX6_194 hM.o ?_
      refine z_iconst (nI 0) dX6_drift_41 (by decide) ?_
      refine z_ist3 dX6_drift_42 rfl ?_
      refine zV_mono (m_drift_l J2 hM (v := lyZ s.1) N kk s.1.1 (by omega) (nI kk) (N + 1) 0 J2 _ s.1.1 kk none none none none (by omega) (by omega) (by omega) zuL_same h2.1 ho.free stF.rfl rfl rfl rfl rfl rfl) ?_
      rintro S2 I2 L2 R2 r ⟨q1, q2, v9, ⟨q4, q5, q6⟩, q8⟩
      have hc : (1 ≤ (nI N).toInt ∧ (nI N).toInt ≤ 20) ∧ 1 ≤ (nI kk).toInt ∧ (nI kk).toInt ≤ 999999 := ⟨h9, h21⟩
      refine ⟨q1, q2, v9, ⟨?_, ?_, fun p hp => by rw [q6 p (by omega), h2.2 p (by omega), h1.2.2 p (by omega) (by omega)]⟩, q8⟩
      · rw [oDrift, pif_t hc, na, nz]; exact q4
      · rw [oDrift, pif_t hc, na, nz]
        exact ⟨q5, drF_ok (v := lyZ s.1) (l := s.1.1) ho.free N kk, (h1.1.st h2.2).st q6⟩
    · refine z_ldc dX6_drift_24 kX6_132 ?_
      exact z_iret dX6_drift_26 ⟨Nat.le_refl _, Nat.le_refl _⟩ rfl ⟨rfl, rfl, _, ⟨by rw [oDrift, pif_f (by omega)], by rw [oDrift, pif_f (by omega)]; exact hI, fun p _ => rfl⟩, rfl⟩
