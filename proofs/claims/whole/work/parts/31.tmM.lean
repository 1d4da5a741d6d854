set_option maxRecDepth 100000 in
set_option maxHeartbeats 4000000 in
theorem t_shape {S : zS} {R : zMR} (I : zMI) (L : zML) {s : St} (hT : zTM S R) (hI : zCI I s) (a b c d : Int32) : zM0 yX5_shape cX5_shape 6 (some .int) 7 [.ref 0, .int a, .int b, .int c, .int d] S I L R (zPi L (fun I2 r => r = (oShape s a.toInt b.toInt c.toInt d.toInt).1 ∧ zCI I2 (oShape s a.toInt b.toInt c.toInt d.toInt).2 ∧ ∀ p, 96 ≤ p → I2 p = I p)) := by
  refine zM0_of (own := RX5) (lv := [some (.ref 0), some (.int a), some (.int b), some (.int c), some (.int d), none]) rfl (by decide) rfl rfl ?_
  obtain ⟨hv, ho, hP, hk, hr⟩ := id hI
  obtain ⟨nx, hh⟩ := id hr.2.2.1
  have hl := ho.1
  have hnp := ho.2.2.1
  refine z_aload_n dX5_shape_0 rfl ?_
  refine z_getr dX5_shape_1 fX5_10 hT.o hT.r0 ?_
  refine z_iload_n dX5_shape_4 rfl ?_
  refine z_iload_n dX5_shape_5 rfl ?_
  refine z_iload_n dX5_shape_6 rfl ?_
  refine z_iload dX5_shape_7 rfl ?_
  refine z_callV4p dX5_shape_9 mX5_71 hT.q0.o (c_refusalOfNew I L hT.q0 hv ho _ _ _ _) (by decide) (Nat.le_of_ble_eq_true rfl) ⟨Nat.le_refl _, Nat.le_refl _⟩ ?_
  refine z_ist5 dX5_shape_12 rfl ?_
  refine z_iload dX5_shape_14 rfl ?_
  refine z_if_eq (tgt := 22) dX5_shape_16 (by decide) (fun h16 => ?_) (fun h16 => ?_)
  · obtain ⟨⟨hF0, hac, hbd⟩, hfr, hnf⟩ := rNew_0 h16
    have hok := ho.new ⟨hF0, hac, hbd⟩ hfr hnf
    unfold onF at hF0
    obtain ⟨a1, ha, rfl⟩ := nI_of3 (x := a) (n := 16) (by omega) (by omega) (by omega)
    obtain ⟨b1, hb, rfl⟩ := nI_of3 (x := b) (n := 16) (by omega) (by omega) (by omega)
    obtain ⟨c1, hc, rfl⟩ := nI_of3 (x := c) (n := 16) (by omega) (by omega) (by omega)
    obtain ⟨d1, hd, rfl⟩ := nI_of3 (x := d) (n := 16) (by omega) (by omega) (by omega)
    have hS : nSh (nI a1).toInt (nI b1).toInt (nI c1).toInt (nI d1).toInt = (a1, b1, c1, d1, []) := by unfold nSh; rw [nI_T (by omega), nI_T (by omega), nI_T (by omega), nI_T (by omega)]; rfl
    rw [hS] at hok
    refine z_aload_n dX5_shape_22 rfl ?_
    refine z_getr dX5_shape_23 fX5_55 hT.o hT.r8 ?_
    refine z_aload_n dX5_shape_26 rfl ?_
    refine z_getr dX5_shape_27 fX5_10 hT.o hT.r0 ?_
    refine z_callV1v dX5_shape_30 mX5_75 hT.q8.o (c_remember I L hT.q8 hT.q0 (by omega) hh hv ho (by omega)) (by decide) (Nat.le_of_ble_eq_true rfl) ⟨Nat.le_refl _, Nat.le_refl _⟩ (fun J1 h1 => ?_)
    have hv1 : zCLy J1 1 s.1 := hv.frame (fun p p1 p2 => h1.2 p (by omega) (by omega))
    refine z_aload_n dX5_shape_33 rfl ?_
    refine z_getr dX5_shape_34 fX5_10 hT.o hT.r0 ?_
    refine z_iload_n dX5_shape_37 rfl ?_
    refine z_iload_n dX5_shape_38 rfl ?_
    refine z_iload_n dX5_shape_39 rfl ?_
    refine z_iload dX5_shape_40 rfl ?_
    refine z_callV4v dX5_shape_42 mX5_79 hT.q0.o (c_putNew J1 L hT.q0 hv1 ho a1 b1 c1 d1 hnf) (by decide) (Nat.le_of_ble_eq_true rfl) ⟨Nat.le_refl _, Nat.le_refl _⟩ (fun J2 h2 => ?_)
    refine z_aload_n dX5_shape_45 rfl ?_
    refine z_callV0v dX5_shape_46 mX5_83 hT.o (c_layFree J2 L hT h2.1 hok) (by decide) (Nat.le_of_ble_eq_true rfl) ⟨Nat.le_refl _, Nat.le_refl _⟩ (fun J3 h3 => ?_)
    refine z_aload_n dX5_shape_49 rfl ?_
    refine z_getr dX5_shape_50 fX5_10 hT.o hT.r0 ?_
    refine z_geti dX5_shape_53 fX5_86 hT.q0.o ?_
    refine z_top ((show _ = nI (s.1.1.length + 1) from by rw [h3.1.1]; simp [lyZ, lyF, lyS])) ?_
    refine z_iconst (nI 1) dX5_shape_56 (by decide) ?_
    refine z_isubN dX5_shape_57 (by omega) ?_
    exact z_iret dX5_shape_58 ⟨Nat.le_refl _, Nat.le_refl _⟩ rfl ⟨rfl, rfl, rfl, _, ⟨by rw [oShape, pif_t h16]; rfl, by rw [oShape, pif_t h16, hS]; exact zCI_LF (zCR_wr (zCR_rem hr h1) h2) hok h3, fun p hp => by rw [h3.2.2.2.2 p (by omega) (by omega), h2.2 p (by omega), h1.2 p (by omega) (by omega)]⟩, rfl⟩
  · refine z_iload dX5_shape_19 rfl ?_
    exact z_iret dX5_shape_21 ⟨Nat.le_refl _, Nat.le_refl _⟩ rfl ⟨rfl, rfl, rfl, _, ⟨by rw [oShape, pif_f h16], by rw [oShape, pif_f h16]; exact hI, fun p _ => rfl⟩, rfl⟩
set_option maxRecDepth 100000 in
set_option maxHeartbeats 4000000 in
theorem t_drop {S : zS} {R : zMR} (I : zMI) (L : zML) {s : St} (hT : zTM S R) (hI : zCI I s) (a : Int32) : zM0 yX5_drop cX5_drop 2 (some .int) 7 [.ref 0, .int a] S I L R (zPi L (fun I2 r => r = (oDrop s a.toInt).1 ∧ zCI I2 (oDrop s a.toInt).2 ∧ ∀ p, 96 ≤ p → I2 p = I p)) := by
  refine zM0_of (own := RX5) (lv := [some (.ref 0), some (.int a)]) rfl (by decide) rfl rfl ?_
  obtain ⟨hv, ho, hP, hk, hr⟩ := id hI
  obtain ⟨nx, hh⟩ := id hr.2.2.1
  have hl := ho.1
  have hnp := ho.2.2.1
  refine z_aload_n dX5_drop_0 rfl ?_
  refine z_getr dX5_drop_1 fX5_10 hT.o hT.r0 ?_
  refine z_iload_n dX5_drop_4 rfl ?_
  refine z_callV1p dX5_drop_5 mX5_90 hT.q0.o (c_hasShape I L hT.q0 hv ho _) (by decide) (Nat.le_of_ble_eq_true rfl) ⟨Nat.le_refl _, Nat.le_refl _⟩ ?_
  refine z_if_neB (tgt := 14) dX5_drop_8 (by decide) (fun h8 => ?_) (fun h8 => ?_)
  · obtain ⟨j, sh, rfl, hsh, hja, hg⟩ := has_nat hl h8
    have hj := getS_lt hsh
    refine z_aload_n dX5_drop_14 rfl ?_
    refine z_getr dX5_drop_15 fX5_55 hT.o hT.r8 ?_
    refine z_aload_n dX5_drop_18 rfl ?_
    refine z_getr dX5_drop_19 fX5_10 hT.o hT.r0 ?_
    refine z_callV1v dX5_drop_22 mX5_75 hT.q8.o (c_remember I L hT.q8 hT.q0 (by omega) hh hv ho (by omega)) (by decide) (Nat.le_of_ble_eq_true rfl) ⟨Nat.le_refl _, Nat.le_refl _⟩ (fun J1 h1 => ?_)
    have hv1 : zCLy J1 1 s.1 := hv.frame (fun p p1 p2 => h1.2 p (by omega) (by omega))
    refine z_aload_n dX5_drop_25 rfl ?_
    refine z_getr dX5_drop_26 fX5_10 hT.o hT.r0 ?_
    refine z_iload_n dX5_drop_29 rfl ?_
    refine z_callV1v dX5_drop_30 mX5_95 hT.q0.o (c_takeAway J1 L hT.q0 hv1 ho hsh) (by decide) (Nat.le_of_ble_eq_true rfl) ⟨Nat.le_refl _, Nat.le_refl _⟩ (fun J2 h2 => ?_)
    refine z_aload_n dX5_drop_33 rfl ?_
    refine z_callV0v dX5_drop_34 mX5_83 hT.o (c_layFree J2 L hT h2.1 (ho.drop hj)) (by decide) (Nat.le_of_ble_eq_true rfl) ⟨Nat.le_refl _, Nat.le_refl _⟩ (fun J3 h3 => ?_)
    refine z_aload_n dX5_drop_37 rfl ?_
    refine z_getr dX5_drop_38 fX5_10 hT.o hT.r0 ?_
    refine z_geti dX5_drop_41 fX5_86 hT.q0.o ?_
    refine z_top ((show _ = nI (s.1.1.length - 1) from by rw [h3.1.1]; simp [lyZ, lyF, lyS, List.length_eraseIdx_of_lt hj])) ?_
    exact z_iret dX5_drop_44 ⟨Nat.le_refl _, Nat.le_refl _⟩ rfl ⟨rfl, rfl, rfl, _, ⟨by rw [oDrop, pif_t h8], by rw [oDrop, pif_t h8, hja, Int.toNat_natCast]; exact zCI_LF (zCR_wr (zCR_rem hr h1) h2) (ho.drop hj) h3, fun p hp => by rw [h3.2.2.2.2 p (by omega) (by omega), h2.2 p (by omega), h1.2 p (by omega) (by omega)]⟩, rfl⟩
  · refine z_ldc dX5_drop_11 kX5_94 ?_
    exact z_iret dX5_drop_13 ⟨Nat.le_refl _, Nat.le_refl _⟩ rfl ⟨rfl, rfl, rfl, _, ⟨by rw [oDrop, pif_f h8], by rw [oDrop, pif_f h8]; exact hI, fun p _ => rfl⟩, rfl⟩
set_option maxRecDepth 100000 in
set_option maxHeartbeats 4000000 in
theorem t_move {S : zS} {R : zMR} (I : zMI) (L : zML) {s : St} (hT : zTM S R) (hI : zCI I s) (a dx dy : Int32) : zM0 yX5_move cX5_move 5 (some .int) 7 [.ref 0, .int a, .int dx, .int dy] S I L R (zPi L (fun I2 r => r = (oMove s a.toInt dx.toInt dy.toInt).1 ∧ zCI I2 (oMove s a.toInt dx.toInt dy.toInt).2 ∧ ∀ p, 96 ≤ p → I2 p = I p)) := by
  refine zM0_of (own := RX5) (lv := [some (.ref 0), some (.int a), some (.int dx), some (.int dy), none]) rfl (by decide) rfl rfl ?_
  obtain ⟨hv, ho, hP, hk, hr⟩ := id hI
  obtain ⟨nx, hh⟩ := id hr.2.2.1
  have hl := ho.1
  have hnp := ho.2.2.1
  refine z_aload_n dX5_move_0 rfl ?_
  refine z_getr dX5_move_1 fX5_10 hT.o hT.r0 ?_
  refine z_iload_n dX5_move_4 rfl ?_
  refine z_iload_n dX5_move_5 rfl ?_
  refine z_iload_n dX5_move_6 rfl ?_
  refine z_callV3p dX5_move_7 mX5_99 hT.q0.o (c_refusalOfStep I L hT.q0 hv ho _ _ _) (by decide) (Nat.le_of_ble_eq_true rfl) ⟨Nat.le_refl _, Nat.le_refl _⟩ ?_
  refine z_ist4 dX5_move_10 rfl ?_
  refine z_iload dX5_move_12 rfl ?_
  refine z_if_eq (tgt := 20) dX5_move_14 (by decide) (fun h14 => ?_) (fun h14 => ?_)
  · obtain ⟨hha, hst, hcs⟩ := rStep_0 h14
    obtain ⟨j, sh, rfl, hsh, hja, hg⟩ := has_nat hl hha
    have hj := getS_lt hsh
    unfold canStep at hcs
    rw [hja, hg] at hcs
    unfold steps at hst
    have hok := ho.move hsh hcs.1 hcs.2
    have hF := hcs.1
    unfold onF at hF
    refine z_aload_n dX5_move_20 rfl ?_
    refine z_getr dX5_move_21 fX5_55 hT.o hT.r8 ?_
    refine z_aload_n dX5_move_24 rfl ?_
    refine z_getr dX5_move_25 fX5_10 hT.o hT.r0 ?_
    refine z_callV1v dX5_move_28 mX5_75 hT.q8.o (c_remember I L hT.q8 hT.q0 (by omega) hh hv ho (by omega)) (by decide) (Nat.le_of_ble_eq_true rfl) ⟨Nat.le_refl _, Nat.le_refl _⟩ (fun J1 h1 => ?_)
    have hv1 : zCLy J1 1 s.1 := hv.frame (fun p p1 p2 => h1.2 p (by omega) (by omega))
    refine z_aload_n dX5_move_31 rfl ?_
    refine z_getr dX5_move_32 fX5_10 hT.o hT.r0 ?_
    refine z_iload_n dX5_move_35 rfl ?_
    refine z_iload_n dX5_move_36 rfl ?_
    refine z_iload_n dX5_move_37 rfl ?_
    refine z_callV3v dX5_move_38 mX5_103 hT.q0.o (c_step J1 L hT.q0 hv1 ho hsh dx dy (by omega) (by omega) (by omega) (by omega) (by omega) (by omega)) (by decide) (Nat.le_of_ble_eq_true rfl) ⟨Nat.le_refl _, Nat.le_refl _⟩ (fun J2 h2 => ?_)
    refine z_aload_n dX5_move_41 rfl ?_
    refine z_callV0v dX5_move_42 mX5_83 hT.o (c_layFree J2 L hT h2.1 hok) (by decide) (Nat.le_of_ble_eq_true rfl) ⟨Nat.le_refl _, Nat.le_refl _⟩ (fun J3 h3 => ?_)
    refine z_aload_n dX5_move_45 rfl ?_
    refine z_getr dX5_move_46 fX5_10 hT.o hT.r0 ?_
    refine z_iload_n dX5_move_49 rfl ?_
    refine z_callV1p dX5_move_50 mX5_107 hT.q0.o (c_areaOf J3 L hT.q0 h3.1 hok (show (s.1.1.set j (mv sh dx.toInt dy.toInt))[j]? = some (mv sh dx.toInt dy.toInt) from List.getElem?_set_self hj)) (by decide) (Nat.le_of_ble_eq_true rfl) ⟨Nat.le_refl _, Nat.le_refl _⟩ ?_
    exact z_iret dX5_move_53 ⟨Nat.le_refl _, Nat.le_refl _⟩ rfl ⟨rfl, rfl, rfl, _, ⟨by rw [oMove, pif_t h14, hja, hg], by rw [oMove, pif_t h14]; unfold shMv; rw [hja, hg, Int.toNat_natCast]; exact zCI_LF (zCR_wr (zCR_rem hr h1) h2) hok h3, fun p hp => by rw [h3.2.2.2.2 p (by omega) (by omega), h2.2 p (by omega), h1.2 p (by omega) (by omega)]⟩, rfl⟩
  · refine z_iload dX5_move_17 rfl ?_
    exact z_iret dX5_move_19 ⟨Nat.le_refl _, Nat.le_refl _⟩ rfl ⟨rfl, rfl, rfl, _, ⟨by rw [oMove, pif_f h14], by rw [oMove, pif_f h14]; exact hI, fun p _ => rfl⟩, rfl⟩
set_option maxRecDepth 100000 in
set_option maxHeartbeats 4000000 in
theorem t_cut {S : zS} {R : zMR} (I : zMI) (L : zML) {s : St} (hT : zTM S R) (hI : zCI I s) (a z : Int32) : zM0 yX5_cut cX5_cut 4 (some .int) 7 [.ref 0, .int a, .int z] S I L R (zPi L (fun I2 r => r = (oCut s a.toInt z.toInt).1 ∧ zCI I2 (oCut s a.toInt z.toInt).2 ∧ ∀ p, 96 ≤ p → I2 p = I p)) := by
  refine zM0_of (own := RX5) (lv := [some (.ref 0), some (.int a), some (.int z), none]) rfl (by decide) rfl rfl ?_
  obtain ⟨hv, ho, hP, hk, hr⟩ := id hI
  obtain ⟨nx, hh⟩ := id hr.2.2.1
  have hl := ho.1
  have hnp := ho.2.2.1
  refine z_aload_n dX5_cut_0 rfl ?_
  refine z_getr dX5_cut_1 fX5_10 hT.o hT.r0 ?_
  refine z_iload_n dX5_cut_4 rfl ?_
  refine z_iload_n dX5_cut_5 rfl ?_
  refine z_callV2p dX5_cut_6 mX5_111 hT.q0.o (c_refusalOfCut I L hT.q0 hv ho _ _) (by decide) (Nat.le_of_ble_eq_true rfl) ⟨Nat.le_refl _, Nat.le_refl _⟩ ?_
  refine z_ist3 dX5_cut_9 rfl ?_
  refine z_iload_n dX5_cut_10 rfl ?_
  refine z_if_eq (tgt := 16) dX5_cut_11 (by decide) (fun h11 => ?_) (fun h11 => ?_)
  · obtain ⟨hha, hx, hcc, hn14⟩ := rCut_0 h11
    obtain ⟨j, sh, rfl, hsh, hja, hg⟩ := has_nat hl hha
    have hj := getS_lt hsh
    obtain ⟨x, hx1, rfl⟩ := nI_of3 (x := z) (n := 15) hx.1 (by omega) (by omega)
    have hxa : (nI x).toInt = (x : Int) := nI_T (by omega)
    unfold canCut at hcc
    rw [hja, hg, hxa, Int.toNat_natCast] at hcc
    have hok := cut_len ho hsh (show sx sh ≤ x from by omega) (by omega) hcc.2.2.1 hcc.2.2.2 hn14
    refine z_aload_n dX5_cut_16 rfl ?_
    refine z_getr dX5_cut_17 fX5_55 hT.o hT.r8 ?_
    refine z_aload_n dX5_cut_20 rfl ?_
    refine z_getr dX5_cut_21 fX5_10 hT.o hT.r0 ?_
    refine z_callV1v dX5_cut_24 mX5_75 hT.q8.o (c_remember I L hT.q8 hT.q0 (by omega) hh hv ho (by omega)) (by decide) (Nat.le_of_ble_eq_true rfl) ⟨Nat.le_refl _, Nat.le_refl _⟩ (fun J1 h1 => ?_)
    have hv1 : zCLy J1 1 s.1 := hv.frame (fun p p1 p2 => h1.2 p (by omega) (by omega))
    refine z_aload_n dX5_cut_27 rfl ?_
    refine z_getr dX5_cut_28 fX5_10 hT.o hT.r0 ?_
    refine z_getr dX5_cut_31 fX5_115 hT.q0.o hT.q0.r4 ?_
    refine z_iload_n dX5_cut_34 rfl ?_
    refine z_dup2 dX5_cut_35 rfl rfl ?_
    refine z_iaN dX5_cut_36 hT.q0.a4 (by omega) (by decide) ?_
    refine z_top ((hv1.2.1 j sh hsh).2.2.2.2) ?_
    refine z_iconst (nI 1) dX5_cut_37 (by decide) ?_
    refine z_iload_n dX5_cut_38 rfl ?_
    refine z_shl1 dX5_cut_39 (by omega) ?_
    refine z_iorN dX5_cut_40 ?_
    rw [cm_ins (show x < 15 from hx1)]
    refine z_isN dX5_cut_41 hT.q0.a4 (by omega) (by decide) ?_
    have h2 := cuts_ok hv1 hsh (insC x (sc sh))
    refine z_aload_n dX5_cut_42 rfl ?_
    refine z_callV0v dX5_cut_43 mX5_83 hT.o (c_layFree _ L hT h2.1 hok) (by decide) (Nat.le_of_ble_eq_true rfl) ⟨Nat.le_refl _, Nat.le_refl _⟩ (fun J3 h3 => ?_)
    refine z_aload_n dX5_cut_46 rfl ?_
    refine z_getr dX5_cut_47 fX5_19 hT.o hT.r1 ?_
    refine z_geti dX5_cut_50 fX5_119 hT.q1.o ?_
    refine z_top ((show _ = nI (np (s.1.1.set j (shC sh (insC x (sc sh))))) from by rw [h3.2.1.1.1, pcs_len]; rfl)) ?_
    exact z_iret dX5_cut_53 ⟨Nat.le_refl _, Nat.le_refl _⟩ rfl ⟨rfl, rfl, rfl, _, ⟨by rw [oCut, pif_t h11]; unfold shCt; rw [hja, hg, hxa, Int.toNat_natCast, Int.toNat_natCast], by rw [oCut, pif_t h11]; unfold shCt; rw [hja, hg, hxa, Int.toNat_natCast, Int.toNat_natCast]; exact zCI_LF (zCR_wr (zCR_rem hr h1) h2) hok h3, fun p hp => by rw [h3.2.2.2.2 p (by omega) (by omega), h2.2 p (by omega), h1.2 p (by omega) (by omega)]⟩, rfl⟩
  · refine z_iload_n dX5_cut_14 rfl ?_
    exact z_iret dX5_cut_15 ⟨Nat.le_refl _, Nat.le_refl _⟩ rfl ⟨rfl, rfl, rfl, _, ⟨by rw [oCut, pif_f h11], by rw [oCut, pif_f h11]; exact hI, fun p _ => rfl⟩, rfl⟩
set_option maxRecDepth 100000 in
set_option maxHeartbeats 4000000 in
theorem t_heal {S : zS} {R : zMR} (I : zMI) (L : zML) {s : St} (hT : zTM S R) (hI : zCI I s) (a z : Int32) : zM0 yX5_heal cX5_heal 4 (some .int) 7 [.ref 0, .int a, .int z] S I L R (zPi L (fun I2 r => r = (oHeal s a.toInt z.toInt).1 ∧ zCI I2 (oHeal s a.toInt z.toInt).2 ∧ ∀ p, 96 ≤ p → I2 p = I p)) := by
  refine zM0_of (own := RX5) (lv := [some (.ref 0), some (.int a), some (.int z), none]) rfl (by decide) rfl rfl ?_
  obtain ⟨hv, ho, hP, hk, hr⟩ := id hI
  obtain ⟨nx, hh⟩ := id hr.2.2.1
  have hl := ho.1
  have hnp := ho.2.2.1
  refine z_aload_n dX5_heal_0 rfl ?_
  refine z_getr dX5_heal_1 fX5_10 hT.o hT.r0 ?_
  refine z_iload_n dX5_heal_4 rfl ?_
  refine z_iload_n dX5_heal_5 rfl ?_
  refine z_callV2p dX5_heal_6 mX5_122 hT.q0.o (c_refusalOfHealing I L hT.q0 hv ho _ _) (by decide) (Nat.le_of_ble_eq_true rfl) ⟨Nat.le_refl _, Nat.le_refl _⟩ ?_
  refine z_ist3 dX5_heal_9 rfl ?_
  refine z_iload_n dX5_heal_10 rfl ?_
  refine z_if_eq (tgt := 16) dX5_heal_11 (by decide) (fun h11 => ?_) (fun h11 => ?_)
  · obtain ⟨hha, hx, hcc⟩ := rHeal_0 h11
    obtain ⟨j, sh, rfl, hsh, hja, hg⟩ := has_nat hl hha
    have hj := getS_lt hsh
    obtain ⟨x, hx1, rfl⟩ := nI_of3 (x := z) (n := 15) hx.1 (by omega) (by omega)
    have hxa : (nI x).toInt = (x : Int) := nI_T (by omega)
    have hok := heal_len ho hsh x
    refine z_aload_n dX5_heal_16 rfl ?_
    refine z_getr dX5_heal_17 fX5_55 hT.o hT.r8 ?_
    refine z_aload_n dX5_heal_20 rfl ?_
    refine z_getr dX5_heal_21 fX5_10 hT.o hT.r0 ?_
    refine z_callV1v dX5_heal_24 mX5_75 hT.q8.o (c_remember I L hT.q8 hT.q0 (by omega) hh hv ho (by omega)) (by decide) (Nat.le_of_ble_eq_true rfl) ⟨Nat.le_refl _, Nat.le_refl _⟩ (fun J1 h1 => ?_)
    have hv1 : zCLy J1 1 s.1 := hv.frame (fun p p1 p2 => h1.2 p (by omega) (by omega))
    refine z_aload_n dX5_heal_27 rfl ?_
    refine z_getr dX5_heal_28 fX5_10 hT.o hT.r0 ?_
    refine z_getr dX5_heal_31 fX5_115 hT.q0.o hT.q0.r4 ?_
    refine z_iload_n dX5_heal_34 rfl ?_
    refine z_dup2 dX5_heal_35 rfl rfl ?_
    refine z_iaN dX5_heal_36 hT.q0.a4 (by omega) (by decide) ?_
    refine z_top ((hv1.2.1 j sh hsh).2.2.2.2) ?_
    refine z_iconst (nI 1) dX5_heal_37 (by decide) ?_
    refine z_iload_n dX5_heal_38 rfl ?_
    refine z_shl1 dX5_heal_39 (by omega) ?_
    refine z_iconst (-1) dX5_heal_40 (by decide) ?_
    refine z_ixor dX5_heal_41 ?_
    refine z_iand dX5_heal_42 (z_top (nI_andn _ _) ?_)
    rw [cm_rem]
    refine z_isN dX5_heal_43 hT.q0.a4 (by omega) (by decide) ?_
    have h2 := cuts_ok hv1 hsh (remC x (sc sh))
    refine z_aload_n dX5_heal_44 rfl ?_
    refine z_callV0v dX5_heal_45 mX5_83 hT.o (c_layFree _ L hT h2.1 hok) (by decide) (Nat.le_of_ble_eq_true rfl) ⟨Nat.le_refl _, Nat.le_refl _⟩ (fun J3 h3 => ?_)
    refine z_aload_n dX5_heal_48 rfl ?_
    refine z_getr dX5_heal_49 fX5_19 hT.o hT.r1 ?_
    refine z_geti dX5_heal_52 fX5_119 hT.q1.o ?_
    refine z_top ((show _ = nI (np (s.1.1.set j (shC sh (remC x (sc sh))))) from by rw [h3.2.1.1.1, pcs_len]; rfl)) ?_
    exact z_iret dX5_heal_55 ⟨Nat.le_refl _, Nat.le_refl _⟩ rfl ⟨rfl, rfl, rfl, _, ⟨by rw [oHeal, pif_t h11]; unfold shHl; rw [hja, hg, hxa, Int.toNat_natCast, Int.toNat_natCast], by rw [oHeal, pif_t h11]; unfold shHl; rw [hja, hg, hxa, Int.toNat_natCast, Int.toNat_natCast]; exact zCI_LF (zCR_wr (zCR_rem hr h1) h2) hok h3, fun p hp => by rw [h3.2.2.2.2 p (by omega) (by omega), h2.2 p (by omega), h1.2 p (by omega) (by omega)]⟩, rfl⟩
  · refine z_iload_n dX5_heal_14 rfl ?_
    exact z_iret dX5_heal_15 ⟨Nat.le_refl _, Nat.le_refl _⟩ rfl ⟨rfl, rfl, rfl, _, ⟨by rw [oHeal, pif_f h11], by rw [oHeal, pif_f h11]; exact hI, fun p _ => rfl⟩, rfl⟩
set_option maxRecDepth 100000 in
set_option maxHeartbeats 4000000 in
theorem t_bound {S : zS} {R : zMR} (I : zMI) (L : zML) {s : St} (hT : zTM S R) (hI : zCI I s) (w z : Int32) : zM0 yX5_bound cX5_bound 4 (some .int) 7 [.ref 0, .int w, .int z] S I L R (zPi L (fun I2 r => r = (oBound s w.toInt z.toInt).1 ∧ zCI I2 (oBound s w.toInt z.toInt).2 ∧ ∀ p, 96 ≤ p → I2 p = I p)) := by
  refine zM0_of (own := RX5) (lv := [some (.ref 0), some (.int w), some (.int z), none]) rfl (by decide) rfl rfl ?_
  obtain ⟨hv, ho, hP, hk, hr⟩ := id hI
  obtain ⟨nx, hh⟩ := id hr.2.2.1
  have hl := ho.1
  have hnp := ho.2.2.1
  refine z_iload_n dX5_bound_0 rfl ?_
  refine z_iload_n dX5_bound_1 rfl ?_
  refine z_callS2p dX5_bound_2 mX5_125 (c_isBound I L _ _) (by decide) (Nat.le_of_ble_eq_true rfl) ⟨Nat.le_refl _, Nat.le_refl _⟩ ?_
  refine z_if_neB (tgt := 11) dX5_bound_5 (by decide) (fun h5 => ?_) (fun h5 => ?_)
  · have hib := h5
    unfold inB at hib
    obtain ⟨x, hx1, rfl⟩ := nI_of3 (x := z) (n := 100) (by omega) (by omega) (by omega)
    have hxa : (nI x).toInt = (x : Int) := nI_T (by omega)
    rw [hxa] at h5 hib
    have hok := ho.bound h5
    refine z_aload_n dX5_bound_11 rfl ?_
    refine z_getr dX5_bound_12 fX5_55 hT.o hT.r8 ?_
    refine z_aload_n dX5_bound_15 rfl ?_
    refine z_getr dX5_bound_16 fX5_10 hT.o hT.r0 ?_
    refine z_callV1v dX5_bound_19 mX5_75 hT.q8.o (c_remember I L hT.q8 hT.q0 (by omega) hh hv ho (by omega)) (by decide) (Nat.le_of_ble_eq_true rfl) ⟨Nat.le_refl _, Nat.le_refl _⟩ (fun J1 h1 => ?_)
    have hv1 : zCLy J1 1 s.1 := hv.frame (fun p p1 p2 => h1.2 p (by omega) (by omega))
    refine z_aload_n dX5_bound_22 rfl ?_
    refine z_getr dX5_bound_23 fX5_10 hT.o hT.r0 ?_
    refine z_iload_n dX5_bound_26 rfl ?_
    refine z_callV1p dX5_bound_27 mX5_130 hT.q0.o (c_boundOf J1 L hT.q0 hv1 ho w (by omega) (by omega)) (by decide) (Nat.le_of_ble_eq_true rfl) ⟨Nat.le_refl _, Nat.le_refl _⟩ ?_
    refine z_ist3 dX5_bound_30 rfl ?_
    refine z_aload_n dX5_bound_31 rfl ?_
    refine z_getr dX5_bound_32 fX5_10 hT.o hT.r0 ?_
    refine z_iload_n dX5_bound_35 rfl ?_
    refine z_iload_n dX5_bound_36 rfl ?_
    refine z_callV2v dX5_bound_37 mX5_133 hT.q0.o (c_setBound J1 L hT.q0 hv1 ho w x (by omega) (by omega)) (by decide) (Nat.le_of_ble_eq_true rfl) ⟨Nat.le_refl _, Nat.le_refl _⟩ (fun J2 h2 => ?_)
    refine z_aload_n dX5_bound_40 rfl ?_
    refine z_callV0v dX5_bound_41 mX5_137 hT.o (c_layAnew J2 L hT h2.1 hok) (by decide) (Nat.le_of_ble_eq_true rfl) ⟨Nat.le_refl _, Nat.le_refl _⟩ (fun J3 h3 => ?_)
    refine z_iload_n dX5_bound_44 rfl ?_
    exact z_iret dX5_bound_45 ⟨Nat.le_refl _, Nat.le_refl _⟩ rfl ⟨rfl, rfl, rfl, _, ⟨by rw [oBound, pif_t (by rw [hxa]; exact h5)], by rw [oBound, pif_t (by rw [hxa]; exact h5), hxa, Int.toNat_natCast]; exact zCI_LA (zCR_wr (zCR_rem hr h1) h2) hok h2.1 h3, fun p hp => by rw [h3.2.2.2 p (by omega) (by omega), h2.2 p (by omega), h1.2 p (by omega) (by omega)]⟩, rfl⟩
  · refine z_ldc dX5_bound_8 kX5_129 ?_
    exact z_iret dX5_bound_10 ⟨Nat.le_refl _, Nat.le_refl _⟩ rfl ⟨rfl, rfl, rfl, _, ⟨by rw [oBound, pif_f h5], by rw [oBound, pif_f h5]; exact hI, fun p _ => rfl⟩, rfl⟩
theorem fxv_of {m : Int32} (h1 : -1 ≤ m.toInt) (h2 : m.toInt ≤ 1) : m = fxv (m.toInt + 1).toNat := by
  rw [zi_of m]
  have e := zi_T (z := m.toInt) (by omega) (by omega)
  rw [e]
  rcases (show m.toInt = -1 ∨ m.toInt = 0 ∨ m.toInt = 1 from by omega) with q | q | q <;> rw [q] <;> decide
theorem fxv_inj {a k : Nat} (ha : a ≤ 2) (hk : k ≤ 2) : fxv a = fxv k ↔ a = k := by
  rcases (show a = 0 ∨ a = 1 ∨ a = 2 from by omega) with rfl | rfl | rfl <;> rcases (show k = 0 ∨ k = 1 ∨ k = 2 from by omega) with rfl | rfl | rfl <;> decide
theorem z_topV {g : zG} {Post : zPost} {u : Nat × Nat} {S : zS} {I : zMI} {L : zML} {R : zMR} {pc : Nat} {lv : List (Option Value)} {st : List Value} {x y : Int32} (h : x = y) (k : zV g Post u S I L R pc lv (.int y :: st)) : zV g Post u S I L R pc lv (.int x :: st) := by rw [h]; exact k
set_option maxRecDepth 100000 in
set_option maxHeartbeats 4000000 in
theorem t_fix {S : zS} {R : zMR} (I : zMI) (L : zML) {s : St} (hT : zTM S R) (hI : zCI I s) (a m : Int32) : zM0 yX5_fix cX5_fix 3 (some .int) 22 [.ref 0, .int a, .int m] S I L R (zPi L (fun I2 r => r = (oFix s a.toInt m.toInt).1 ∧ zCI I2 (oFix s a.toInt m.toInt).2 ∧ ∀ p, 96 ≤ p → I2 p = I p)) := by
  refine zM0_of (own := RX5) (lv := [some (.ref 0), some (.int a), some (.int m)]) rfl (by decide) rfl rfl ?_
  obtain ⟨hv, ho, hP, hk, hr⟩ := id hI
  obtain ⟨nx, hh⟩ := id hr.2.2.1
  have hl := ho.1
  have hnp := ho.2.2.1
  have qm1 : ((-1 : Int32)).toInt = -1 := by decide
  refine z_aload_n dX5_fix_0 rfl ?_
  refine z_getr dX5_fix_1 fX5_19 hT.o hT.r1 ?_
  refine z_iload_n dX5_fix_4 rfl ?_
  refine z_callV1p dX5_fix_5 mX5_140 hT.q1.o (c_has I L hT.q1 hP.1 (pcs_ok ho) _) (by decide) (Nat.le_of_ble_eq_true rfl) ⟨Nat.le_refl _, Nat.le_refl _⟩ ?_
  refine z_if_neB (tgt := 14) dX5_fix_8 (by decide) (fun h8 => ?_) (fun h8 => ?_)
  · obtain ⟨p, hp, rfl⟩ := nI_of3 (x := a) (n := (pcs s.1.1).length) h8.1 h8.2 (by rw [pcs_len]; omega)
    rw [pcs_len] at h8 hp
    have hpa : (nI p).toInt = (p : Int) := nI_T (by omega)
    refine z_iload_n dX5_fix_14 rfl ?_
    refine z_iconst (-1) dX5_fix_15 (by decide) ?_
    refine z_icmp_lt (tgt := 24) dX5_fix_16 (by decide) (fun h16 => ?_) (fun h16 => ?_)
    · refine z_ldc dX5_fix_24 kX5_129 ?_
      exact z_iret dX5_fix_26 ⟨Nat.le_refl _, Nat.le_refl _⟩ rfl ⟨rfl, rfl, rfl, _, ⟨by rw [oFix, pif_t h8, pif_f (by omega)], by rw [oFix, pif_t h8, pif_f (by omega)]; exact hI, fun p _ => rfl⟩, rfl⟩
    · refine z_iload_n dX5_fix_19 rfl ?_
      refine z_iconst (nI 1) dX5_fix_20 (by decide) ?_
      refine z_icmp_leIN (tgt := 27) dX5_fix_21 (by decide) (by omega) (fun h21 => ?_) (fun h21 => ?_)
      · refine z_aload_n dX5_fix_27 rfl ?_
        refine z_getr dX5_fix_28 fX5_10 hT.o hT.r0 ?_
        refine z_iload_n dX5_fix_31 rfl ?_
        refine z_callV1p dX5_fix_32 mX5_143 hT.q0.o (c_fixedMaskOf I L hT.q0 hv ho p (by omega)) (by decide) (Nat.le_of_ble_eq_true rfl) ⟨Nat.le_refl _, Nat.le_refl _⟩ ?_
        refine z_iload_n dX5_fix_35 rfl ?_
        refine z_icmp_ne (tgt := 42) dX5_fix_36 (by decide) (fun h36 => ?_) (fun h36 => ?_)
        · refine z_aload_n dX5_fix_42 rfl ?_
          refine z_getr dX5_fix_43 fX5_55 hT.o hT.r8 ?_
          refine z_aload_n dX5_fix_46 rfl ?_
          refine z_getr dX5_fix_47 fX5_10 hT.o hT.r0 ?_
          refine z_callV1v dX5_fix_50 mX5_75 hT.q8.o (c_remember I L hT.q8 hT.q0 (by omega) hh hv ho (by omega)) (by decide) (Nat.le_of_ble_eq_true rfl) ⟨Nat.le_refl _, Nat.le_refl _⟩ (fun J1 h1 => ?_)
          have hv1 : zCLy J1 1 s.1 := hv.frame (fun p p1 p2 => h1.2 p (by omega) (by omega))
          have hk2 : (m.toInt + 1).toNat ≤ 2 := by omega
          have hok := ho.fix (p := p) (k := (m.toInt + 1).toNat) hp hk2
          refine z_aload_n dX5_fix_53 rfl ?_
          refine z_getr dX5_fix_54 fX5_10 hT.o hT.r0 ?_
          refine z_iload_n dX5_fix_57 rfl ?_
          refine z_iload_n dX5_fix_58 rfl ?_
          refine z_topV (fxv_of (m := m) (by omega) (by omega)) ?_
          refine z_callV2v dX5_fix_59 mX5_147 hT.q0.o (c_setFixed J1 L hT.q0 hv1 ho p _ (by omega) hk2) (by decide) (Nat.le_of_ble_eq_true rfl) ⟨Nat.le_refl _, Nat.le_refl _⟩ (fun J2 h2 => ?_)
          refine z_aload_n dX5_fix_62 rfl ?_
          refine z_callV0v dX5_fix_63 mX5_137 hT.o (c_layAnew J2 L hT h2.1 hok) (by decide) (Nat.le_of_ble_eq_true rfl) ⟨Nat.le_refl _, Nat.le_refl _⟩ (fun J3 h3 => ?_)
          refine z_aload_n dX5_fix_66 rfl ?_
          refine z_callV0r dX5_fix_67 mX5_150 hT.o (c_bestNow J3 L hT (zCI_LA (zCR_wr (zCR_rem hr h1) h2) hok h2.1 h3)) (by decide) (Nat.le_of_ble_eq_true rfl) ⟨Nat.le_refl _, Nat.le_refl _⟩ (fun J4 h4 => ?_)
          refine z_geti dX5_fix_70 fX5_154 hT.q3.o ?_
          refine z_top (h4.2.1) ?_
          have ev : vFix s.1 (nI p).toInt m.toInt = lyF s.1 (fxs (lfx s.1) p (m.toInt + 1).toNat) := by unfold vFix; rw [hpa, Int.toNat_natCast]
          exact z_iret dX5_fix_73 ⟨Nat.le_refl _, Nat.le_refl _⟩ rfl ⟨rfl, rfl, rfl, _, ⟨by rw [oFix, pif_t h8, pif_t ⟨by omega, by omega⟩, pif_f (by rw [hpa, Int.toNat_natCast]; exact fun q => h36 (((fxv_inj (ho.2.2.2.2.2.2.2.2.1 p) (by omega)).mpr q).trans (fxv_of (by omega) (by omega)).symm)), ev], by rw [oFix, pif_t h8, pif_t ⟨by omega, by omega⟩, pif_f (by rw [hpa, Int.toNat_natCast]; exact fun q => h36 (((fxv_inj (ho.2.2.2.2.2.2.2.2.1 p) (by omega)).mpr q).trans (fxv_of (by omega) (by omega)).symm)), ev]; exact h4.1, fun p hp => by rw [h4.2.2.2.2 p (by omega) (by omega), h3.2.2.2 p (by omega) (by omega), h2.2 p (by omega), h1.2 p (by omega) (by omega)]⟩, rfl⟩
        · refine z_ldc dX5_fix_39 kX5_146 ?_
          exact z_iret dX5_fix_41 ⟨Nat.le_refl _, Nat.le_refl _⟩ rfl ⟨rfl, rfl, rfl, _, ⟨by rw [oFix, pif_t h8, pif_t ⟨by omega, by omega⟩, pif_t (by rw [hpa, Int.toNat_natCast]; exact (fxv_inj (ho.2.2.2.2.2.2.2.2.1 p) (by omega)).mp (h36.trans (fxv_of (by omega) (by omega))))], by rw [oFix, pif_t h8, pif_t ⟨by omega, by omega⟩, pif_t (by rw [hpa, Int.toNat_natCast]; exact (fxv_inj (ho.2.2.2.2.2.2.2.2.1 p) (by omega)).mp (h36.trans (fxv_of (by omega) (by omega))))]; exact hI, fun p _ => rfl⟩, rfl⟩
      · refine z_ldc dX5_fix_24 kX5_129 ?_
        exact z_iret dX5_fix_26 ⟨Nat.le_refl _, Nat.le_refl _⟩ rfl ⟨rfl, rfl, rfl, _, ⟨by rw [oFix, pif_t h8, pif_f (by omega)], by rw [oFix, pif_t h8, pif_f (by omega)]; exact hI, fun p _ => rfl⟩, rfl⟩
  · refine z_ldc dX5_fix_11 kX5_94 ?_
    exact z_iret dX5_fix_13 ⟨Nat.le_refl _, Nat.le_refl _⟩ rfl ⟨rfl, rfl, rfl, _, ⟨by rw [oFix, pif_f (by rw [← pcs_len]; exact h8)], by rw [oFix, pif_f (by rw [← pcs_len]; exact h8)]; exact hI, fun p _ => rfl⟩, rfl⟩
set_option maxRecDepth 100000 in
set_option maxHeartbeats 4000000 in
theorem t_turn {S : zS} {R : zMR} (I : zMI) (L : zML) {s : St} (hT : zTM S R) (hI : zCI I s) : zM0 yX5_turn cX5_turn 1 (some .int) 22 [.ref 0] S I L R (zPi L (fun I2 r => r = (oTurn s).1 ∧ zCI I2 (oTurn s).2 ∧ ∀ p, 96 ≤ p → I2 p = I p)) := by
  refine zM0_of (own := RX5) (lv := [some (.ref 0)]) rfl (by decide) rfl rfl ?_
  obtain ⟨hv, ho, hP, hk, hr⟩ := id hI
  obtain ⟨nx, hh⟩ := id hr.2.2.1
  have hl := ho.1
  have hnp := ho.2.2.1
  refine z_aload_n dX5_turn_0 rfl ?_
  refine z_getr dX5_turn_1 fX5_55 hT.o hT.r8 ?_
  refine z_aload_n dX5_turn_4 rfl ?_
  refine z_getr dX5_turn_5 fX5_10 hT.o hT.r0 ?_
  refine z_callV1v dX5_turn_8 mX5_75 hT.q8.o (c_remember I L hT.q8 hT.q0 (by omega) hh hv ho (by omega)) (by decide) (Nat.le_of_ble_eq_true rfl) ⟨Nat.le_refl _, Nat.le_refl _⟩ (fun J1 h1 => ?_)
  have hv1 : zCLy J1 1 s.1 := hv.frame (fun p p1 p2 => h1.2 p (by omega) (by omega))
  refine z_aload_n dX5_turn_11 rfl ?_
  refine z_getr dX5_turn_12 fX5_10 hT.o hT.r0 ?_
  refine z_callV0v dX5_turn_15 mX5_157 hT.q0.o (c_mirror J1 L hT.q0 hv1 ho) (by decide) (Nat.le_of_ble_eq_true rfl) ⟨Nat.le_refl _, Nat.le_refl _⟩ (fun J2 h2 => ?_)
  refine z_aload_n dX5_turn_18 rfl ?_
  refine z_callV0v dX5_turn_19 mX5_83 hT.o (c_layFree J2 L hT h2.1 ho.mirror) (by decide) (Nat.le_of_ble_eq_true rfl) ⟨Nat.le_refl _, Nat.le_refl _⟩ (fun J3 h3 => ?_)
  refine z_aload_n dX5_turn_22 rfl ?_
  refine z_callV0r dX5_turn_23 mX5_150 hT.o (c_bestNow J3 L hT (s := sPush s (vTurn s.1)) (zCI_LF (zCR_wr (zCR_rem hr h1) h2) ho.mirror h3)) (by decide) (Nat.le_of_ble_eq_true rfl) ⟨Nat.le_refl _, Nat.le_refl _⟩ (fun J4 h4 => ?_)
  refine z_geti dX5_turn_26 fX5_154 hT.q3.o ?_
  refine z_top ((show _ = nI (bst (vTurn s.1)).1 from h4.2.1)) ?_
  exact z_iret dX5_turn_29 ⟨Nat.le_refl _, Nat.le_refl _⟩ rfl ⟨rfl, rfl, rfl, _, ⟨rfl, h4.1, fun p hp => by rw [h4.2.2.2.2 p (by omega) (by omega), h3.2.2.2.2 p (by omega) (by omega), h2.2 p (by omega), h1.2 p (by omega) (by omega)]⟩, rfl⟩
theorem zCR_pop {I J : zMI} {h : List Ly} {v : Ly} {i0 i1 : Option Ly} {nx nx2 : Nat} (hr : zCR I h i0 i1) (hJ : zCLy J 1 v ∧ zHi J 34 36 h.dropLast nx2 ∧ ∀ p, p ≠ 34 → (p < 1 ∨ 1 + 5 < p) → J p = I p) : zCR J h.dropLast i0 i1 := by
  obtain ⟨g1, g2, g3, g4, g5⟩ := hr
  have e0 : J 0 = I 0 := hJ.2.2 0 (by decide) (by omega)
  exact ⟨by rw [hJ.2.2 17 (by decide) (by omega)]; exact g1, by rw [hJ.2.2 33 (by decide) (by omega)]; exact g2, ⟨nx2, hJ.2.1⟩, g4.frame (by rw [e0]) (fun p p1 p2 => hJ.2.2 p (by omega) (by omega)), g5.frame (by rw [e0]) (fun p p1 p2 => hJ.2.2 p (by omega) (by omega))⟩
set_option maxRecDepth 100000 in
set_option maxHeartbeats 4000000 in
theorem t_undo {S : zS} {R : zMR} (I : zMI) (L : zML) {s : St} (hT : zTM S R) (hI : zCI I s) : zM0 yX5_undo cX5_undo 1 (some .int) 7 [.ref 0] S I L R (zPi L (fun I2 r => r = (oUndo s).1 ∧ zCI I2 (oUndo s).2 ∧ ∀ p, 96 ≤ p → I2 p = I p)) := by
  refine zM0_of (own := RX5) (lv := [some (.ref 0)]) rfl (by decide) rfl rfl ?_
  obtain ⟨hv, ho, hP, hk, hr⟩ := id hI
  obtain ⟨nx, hh⟩ := id hr.2.2.1
  have hl := ho.1
  have hnp := ho.2.2.1
  have hh8 := hh.2.2.2.1
  refine z_aload_n dX5_undo_0 rfl ?_
  refine z_getr dX5_undo_1 fX5_55 hT.o hT.r8 ?_
  refine z_geti dX5_undo_4 fX5_173 hT.q8.o ?_
  refine z_top (hh.2.2.1) ?_
  refine z_if_neN (tgt := 13) dX5_undo_7 (by decide) (by omega) (fun h7 => ?_) (fun h7 => ?_)
  · have hne : s.2.1 ≠ [] := fun q => by rw [q] at h7; exact absurd h7 (by decide)
    have hdl : s.2.1.dropLast ++ [s.2.1.getLastD s.1] = s.2.1 := by
      rw [List.getLastD_eq_getLast?, List.getLast?_eq_some_getLast hne]
      exact List.dropLast_concat_getLast hne
    have hh2 := hh
    rw [← hdl] at hh2
    have hz := (zHi_last hh2).2
    refine z_aload_n dX5_undo_13 rfl ?_
    refine z_getr dX5_undo_14 fX5_55 hT.o hT.r8 ?_
    refine z_aload_n dX5_undo_17 rfl ?_
    refine z_getr dX5_undo_18 fX5_10 hT.o hT.r0 ?_
    refine z_callV1v dX5_undo_21 mX5_174 hT.q8.o (c_recall I L hT.q8 hT.q0 (by omega) hh2 (by omega) (by omega)) (by decide) (Nat.le_of_ble_eq_true rfl) ⟨Nat.le_refl _, Nat.le_refl _⟩ (fun J2 h2 => ?_)
    refine z_aload_n dX5_undo_24 rfl ?_
    refine z_callV0v dX5_undo_25 mX5_137 hT.o (c_layAnew J2 L hT h2.1 hz) (by decide) (Nat.le_of_ble_eq_true rfl) ⟨Nat.le_refl _, Nat.le_refl _⟩ (fun J3 h3 => ?_)
    refine z_aload_n dX5_undo_28 rfl ?_
    refine z_getr dX5_undo_29 fX5_55 hT.o hT.r8 ?_
    refine z_geti dX5_undo_32 fX5_173 hT.q8.o ?_
    refine z_top ((show _ = nI s.2.1.dropLast.length from by rw [h3.2.2.2 34 (by omega) (by omega)]; exact h2.2.1.2.2.1)) ?_
    exact z_iret dX5_undo_35 ⟨Nat.le_refl _, Nat.le_refl _⟩ rfl ⟨rfl, rfl, rfl, _, ⟨by rw [oUndo, pif_f hne]; exact congrArg nI (List.length_dropLast), by rw [oUndo, pif_f hne]; exact zCI_LA (zCR_pop (nx := nx) hr h2) hz h2.1 h3, fun p hp => by rw [h3.2.2.2 p (by omega) (by omega), h2.2.2 p (by omega) (by omega)]⟩, rfl⟩
  · refine z_ldc dX5_undo_10 kX5_146 ?_
    have he : s.2.1 = [] := List.length_eq_zero_iff.mp h7
    exact z_iret dX5_undo_12 ⟨Nat.le_refl _, Nat.le_refl _⟩ rfl ⟨rfl, rfl, rfl, _, ⟨by rw [oUndo, pif_t he], by rw [oUndo, pif_t he]; exact hI, fun p _ => rfl⟩, rfl⟩
theorem zCR_keep0 {I J K : zMI} {h : List Ly} {v : Ly} {i0 i1 : Option Ly} {nx : Nat} (hr : zCR I h i0 i1) (hv : lyOk v) (hJ : zWr I J 84 v) (hK : zHi K 34 36 [] nx ∧ ∀ p, p ≠ 34 → K p = zu J 0 11 (nI 1) p) : zCR K [] (some v) i1 := by
  obtain ⟨g1, g2, g3, g4, g5⟩ := hr
  have hf : ∀ p, p ≠ 34 → p ≠ 0 → (p < 84 ∨ 84 + 5 < p) → K p = I p := fun p p1 p2 p3 => by rw [hK.2 p p1, zu_ne p2]; exact hJ.2 p p3
  have e12 : K 0 12 = I 0 12 := by rw [hK.2 0 (by decide), zu_nk (Or.inr (by decide)), hJ.2 0 (by omega)]
  refine ⟨by rw [hf 17 (by decide) (by decide) (by omega)]; exact g1, by rw [hf 33 (by decide) (by decide) (by omega)]; exact g2, ⟨nx, hK.1⟩, Or.inr ⟨v, rfl, by rw [hK.2 0 (by decide), zu_same], hJ.1.frame (fun p p1 p2 => by rw [hK.2 p (by omega), zu_ne (by omega)]), hv⟩, g5.frame e12 (fun p p1 p2 => hf p (by omega) (by omega) (by omega))⟩
theorem zCR_keep1 {I J K : zMI} {h : List Ly} {v : Ly} {i0 i1 : Option Ly} {nx : Nat} (hr : zCR I h i0 i1) (hv : lyOk v) (hJ : zWr I J 90 v) (hK : zHi K 34 36 [] nx ∧ ∀ p, p ≠ 34 → K p = zu J 0 12 (nI 1) p) : zCR K [] i0 (some v) := by
  obtain ⟨g1, g2, g3, g4, g5⟩ := hr
  have hf : ∀ p, p ≠ 34 → p ≠ 0 → (p < 90 ∨ 90 + 5 < p) → K p = I p := fun p p1 p2 p3 => by rw [hK.2 p p1, zu_ne p2]; exact hJ.2 p p3
  have e11 : K 0 11 = I 0 11 := by rw [hK.2 0 (by decide), zu_nk (Or.inr (by decide)), hJ.2 0 (by omega)]
  refine ⟨by rw [hf 17 (by decide) (by decide) (by omega)]; exact g1, by rw [hf 33 (by decide) (by decide) (by omega)]; exact g2, ⟨nx, hK.1⟩, g4.frame e11 (fun p p1 p2 => hf p (by omega) (by omega) (by omega)), Or.inr ⟨v, rfl, by rw [hK.2 0 (by decide), zu_same], hJ.1.frame (fun p p1 p2 => by rw [hK.2 p (by omega), zu_ne (by omega)]), hv⟩⟩
theorem zCI_keep {I K : zMI} {v : Ly} {h : List Ly} {i0 i1 : Option Ly} (hv : zCLy I 1 v) (ho : lyOk v) (hP : zPC I 7 (pcs v.1) (lD v) (lST v) (lCL v)) (hk : zKn I v) (hr : zCR K h i0 i1) (h4 : K 0 4 = I 0 4) (hf : ∀ p, 1 ≤ p → p ≤ 17 → K p = I p) : zCI K (v, h, i0, i1) := by
  refine ⟨hv.frame (fun p p1 p2 => hf p (by omega) (by omega)), ho, hP.frame (fun p p1 p2 => hf p (by omega) (by omega)), ?_, hr⟩
  rcases hk with hk | ⟨k0, k1, k2, k3⟩
  · exact Or.inl (h4.trans hk)
  · exact Or.inr ⟨h4.trans k0, by show K 17 5 = _; rw [hf 17 (by omega) (by omega)]; exact k1, by show K 17 6 = _; rw [hf 17 (by omega) (by omega)]; exact k2, by show K 17 7 = _; rw [hf 17 (by omega) (by omega)]; exact k3⟩
set_option maxRecDepth 100000 in
set_option maxHeartbeats 4000000 in
theorem t_keep {S : zS} {R : zMR} (I : zMI) (L : zML) {s : St} (hT : zTM S R) (hI : zCI I s) (i : Int32) : zM0 yX5_keep cX5_keep 2 (some .int) 2 [.ref 0, .int i] S I L R (zPi L (fun I2 r => r = (oKeep s i.toInt).1 ∧ zCI I2 (oKeep s i.toInt).2 ∧ ∀ p, 96 ≤ p → I2 p = I p)) := by
  refine zM0_of (own := RX5) (lv := [some (.ref 0), some (.int i)]) rfl (by decide) rfl rfl ?_
  obtain ⟨hv, ho, hP, hk, hr⟩ := id hI
  obtain ⟨nx, hh⟩ := id hr.2.2.1
  have hl := ho.1
  have hnp := ho.2.2.1
  refine z_iload_n dX5_keep_0 rfl ?_
  refine z_if_ne (tgt := 23) dX5_keep_1 (by decide) (fun h1 => ?_) (fun h1 => ?_)
  · refine z_iload_n dX5_keep_23 rfl ?_
    refine z_iconst (nI 1) dX5_keep_24 (by decide) ?_
    refine z_icmp_ne (tgt := 47) dX5_keep_25 (by decide) (fun h25 => ?_) (fun h25 => ?_)
    · refine z_ldc dX5_keep_47 kX5_94 ?_
      have n0 : ¬ i.toInt = 0 := fun q => h1 (by rw [toInt_eq q]; decide)
      have n1 : ¬ i.toInt = 1 := fun q => h25 (by rw [toInt_eq q]; decide)
      exact z_iret dX5_keep_49 ⟨Nat.le_refl _, Nat.le_refl _⟩ rfl ⟨rfl, rfl, rfl, _, ⟨by rw [oKeep, pif_f n0, pif_f n1], by rw [oKeep, pif_f n0, pif_f n1]; exact hI, fun p _ => rfl⟩, rfl⟩
    · refine z_aload_n dX5_keep_28 rfl ?_
      refine z_getr dX5_keep_29 fX5_62 hT.o hT.r10 ?_
      refine z_aload_n dX5_keep_32 rfl ?_
      refine z_getr dX5_keep_33 fX5_10 hT.o hT.r0 ?_
      refine z_callV1v dX5_keep_36 mX5_276 hT.q10.o (c_become I L hT.q10 hT.q0 hv hl (by omega)) (by decide) (Nat.le_of_ble_eq_true rfl) ⟨Nat.le_refl _, Nat.le_refl _⟩ (fun J2 h2 => ?_)
      refine z_aload_n dX5_keep_39 rfl ?_
      refine z_iconst (nI 1) dX5_keep_40 (by decide) ?_
      refine z_putz dX5_keep_41 fX5_68 hT.o (by first | exact Or.inl rfl | exact Or.inr rfl | exact zb_01 _) ?_
      refine z_goto (tgt := 50) dX5_keep_44 (by decide) ?_
      refine z_aload_n dX5_keep_50 rfl ?_
      refine z_getr dX5_keep_51 fX5_55 hT.o hT.r8 ?_
      refine z_callV0v dX5_keep_54 mX5_285 hT.q8.o (c_forget _ L hT.q8 (hh.frame (by rw [zu_ne (by decide)]; exact h2.2 34 (by omega)) (fun p hp => by rw [zu_ne (by omega)]; exact h2.2 p (by omega)))) (by decide) (Nat.le_of_ble_eq_true rfl) ⟨Nat.le_refl _, Nat.le_refl _⟩ (fun J3 h3 => ?_)
      refine z_aload_n dX5_keep_57 rfl ?_
      refine z_getr dX5_keep_58 fX5_10 hT.o hT.r0 ?_
      refine z_geti dX5_keep_61 fX5_86 hT.q0.o ?_
      refine z_top ((show _ = nI s.1.1.length from by rw [h3.2 1 (by decide), zu_nk (Or.inl (by decide)), h2.2 1 (by omega)]; exact hv.1)) ?_
      first
      | (have n0 : i.toInt = 0 := by rw [h1]; decide
         exact z_iret dX5_keep_64 ⟨Nat.le_refl _, Nat.le_refl _⟩ rfl ⟨rfl, rfl, rfl, _, ⟨by rw [oKeep, pif_t n0], by rw [oKeep, pif_t n0]; exact zCI_keep hv ho hP hk (zCR_keep0 hr ho h2 h3) (by rw [h3.2 0 (by decide), zu_nk (Or.inr (by decide)), h2.2 0 (by omega)]) (fun p p1 p2 => by rw [h3.2 p (by omega), zu_ne (by omega)]; exact h2.2 p (by omega)), fun p hp => by rw [h3.2 p (by omega), zu_ne (by omega)]; exact h2.2 p (by omega)⟩, rfl⟩)
      | (have n0 : ¬ i.toInt = 0 := by rw [h25]; decide
         have n1 : i.toInt = 1 := by rw [h25]; decide
         exact z_iret dX5_keep_64 ⟨Nat.le_refl _, Nat.le_refl _⟩ rfl ⟨rfl, rfl, rfl, _, ⟨by rw [oKeep, pif_f n0, pif_t n1], by rw [oKeep, pif_f n0, pif_t n1]; exact zCI_keep hv ho hP hk (zCR_keep1 hr ho h2 h3) (by rw [h3.2 0 (by decide), zu_nk (Or.inr (by decide)), h2.2 0 (by omega)]) (fun p p1 p2 => by rw [h3.2 p (by omega), zu_ne (by omega)]; exact h2.2 p (by omega)), fun p hp => by rw [h3.2 p (by omega), zu_ne (by omega)]; exact h2.2 p (by omega)⟩, rfl⟩)
  · refine z_aload_n dX5_keep_4 rfl ?_
    refine z_getr dX5_keep_5 fX5_59 hT.o hT.r9 ?_
    refine z_aload_n dX5_keep_8 rfl ?_
    refine z_getr dX5_keep_9 fX5_10 hT.o hT.r0 ?_
    refine z_callV1v dX5_keep_12 mX5_276 hT.q9.o (c_become I L hT.q9 hT.q0 hv hl (by omega)) (by decide) (Nat.le_of_ble_eq_true rfl) ⟨Nat.le_refl _, Nat.le_refl _⟩ (fun J2 h2 => ?_)
    refine z_aload_n dX5_keep_15 rfl ?_
    refine z_iconst (nI 1) dX5_keep_16 (by decide) ?_
    refine z_putz dX5_keep_17 fX5_65 hT.o (by first | exact Or.inl rfl | exact Or.inr rfl | exact zb_01 _) ?_
    refine z_goto (tgt := 50) dX5_keep_20 (by decide) ?_
    refine z_aload_n dX5_keep_50 rfl ?_
    refine z_getr dX5_keep_51 fX5_55 hT.o hT.r8 ?_
    refine z_callV0v dX5_keep_54 mX5_285 hT.q8.o (c_forget _ L hT.q8 (hh.frame (by rw [zu_ne (by decide)]; exact h2.2 34 (by omega)) (fun p hp => by rw [zu_ne (by omega)]; exact h2.2 p (by omega)))) (by decide) (Nat.le_of_ble_eq_true rfl) ⟨Nat.le_refl _, Nat.le_refl _⟩ (fun J3 h3 => ?_)
    refine z_aload_n dX5_keep_57 rfl ?_
    refine z_getr dX5_keep_58 fX5_10 hT.o hT.r0 ?_
    refine z_geti dX5_keep_61 fX5_86 hT.q0.o ?_
    refine z_top ((show _ = nI s.1.1.length from by rw [h3.2 1 (by decide), zu_nk (Or.inl (by decide)), h2.2 1 (by omega)]; exact hv.1)) ?_
    first
    | (have n0 : i.toInt = 0 := by rw [h1]; decide
       exact z_iret dX5_keep_64 ⟨Nat.le_refl _, Nat.le_refl _⟩ rfl ⟨rfl, rfl, rfl, _, ⟨by rw [oKeep, pif_t n0], by rw [oKeep, pif_t n0]; exact zCI_keep hv ho hP hk (zCR_keep0 hr ho h2 h3) (by rw [h3.2 0 (by decide), zu_nk (Or.inr (by decide)), h2.2 0 (by omega)]) (fun p p1 p2 => by rw [h3.2 p (by omega), zu_ne (by omega)]; exact h2.2 p (by omega)), fun p hp => by rw [h3.2 p (by omega), zu_ne (by omega)]; exact h2.2 p (by omega)⟩, rfl⟩)
    | (have n0 : ¬ i.toInt = 0 := by rw [h25]; decide
       have n1 : i.toInt = 1 := by rw [h25]; decide
       exact z_iret dX5_keep_64 ⟨Nat.le_refl _, Nat.le_refl _⟩ rfl ⟨rfl, rfl, rfl, _, ⟨by rw [oKeep, pif_f n0, pif_t n1], by rw [oKeep, pif_f n0, pif_t n1]; exact zCI_keep hv ho hP hk (zCR_keep1 hr ho h2 h3) (by rw [h3.2 0 (by decide), zu_nk (Or.inr (by decide)), h2.2 0 (by omega)]) (fun p p1 p2 => by rw [h3.2 p (by omega), zu_ne (by omega)]; exact h2.2 p (by omega)), fun p hp => by rw [h3.2 p (by omega), zu_ne (by omega)]; exact h2.2 p (by omega)⟩, rfl⟩)
