theorem tld_B {s : St} {w : Int} (h : (5 ≤ w ∧ w ≤ 10) ∨ w = 19) : tld s w = tB s.1 w := by
  rcases (show w = 5 ∨ w = 6 ∨ w = 7 ∨ w = 8 ∨ w = 9 ∨ w = 10 ∨ w = 19 from by omega) with rfl | rfl | rfl | rfl | rfl | rfl | rfl <;> rfl
theorem tB_19 (v : Ly) : tB v (nI 19).toInt = nI (bst v).2.2.2 := by
  have e : (nI 19).toInt = 19 := by decide
  rw [e]
  unfold tB
  rw [zif_f (by omega), zif_f (by omega), zif_f (by omega), zif_f (by omega), zif_f (by omega), zif_f (by omega)]
theorem nI_mns (k : Nat) : nI (k + 1) - nI 1 = nI k := by rw [nI_subI, nI_zi]; congr 1; omega
theorem loC_c1 (c : List Nat) : nI (c1 c) - nI 1 = loC c := by
  cases c with
  | nil => decide
  | cons a t => exact nI_mns a
theorem fxv_sub (k : Nat) : nI k - nI 1 = fxv k := by
  unfold fxv
  cases k with
  | zero => decide
  | succ k => rw [if_neg (by omega), nI_mns]; rfl
theorem lkb_of_clb {ps : List Pc} {D : Nat} : ∀ a b, clb ps D a b = true → lkb ps D a b = true := fun a b h => by unfold lkb; rw [h]; rfl
set_option maxRecDepth 100000 in
set_option maxHeartbeats 4000000 in
theorem m_toldBest {S : zS} {R : zMR} (I : zMI) (L : zML) {v : Ly} (hM : zMO S R) (hv : zMb (I 97) 0 v) (ho : lyOk v) (w : Int32) : zM0 yX6_toldBest cX6_toldBest 2 (some .int) 4 [.ref 96, .int w] S I L R (zPi L (fun I2 r => r = tB v w.toInt ∧ zPM I2 (pcs v.1) (lD v) ∧ zMF I I2)) := by
  refine zM0_of (own := RX6) (lv := [some (.ref 96), some (.int w)]) rfl (by decide) rfl rfl ?_
  have hps := pcs_ok ho
  have hm := (bst_m ho).2
  refine z_aload_n dX6_toldBest_0 rfl ?_
  refine z_callV0v dX6_toldBest_1 mX6_113 hM.o (m_judgeAll I L hM hv ho) (by decide) (Nat.le_of_ble_eq_true rfl) ⟨Nat.le_refl _, Nat.le_refl _⟩ (fun J hJ => ?_)
  have hvJ : zMb (J 97) 0 v := by rw [hJ.2.2.1 97 (by omega)]; exact hv
  refine z_iload_n dX6_toldBest_4 rfl ?_
  rcases (show (w.toInt < 5 ∨ 10 < w.toInt) ∨ w.toInt = 5 ∨ w.toInt = 6 ∨ w.toInt = 7 ∨ w.toInt = 8 ∨ w.toInt = 9 ∨ w.toInt = 10 from by omega) with hq | hq | hq | hq | hq | hq | hq
  · refine z_tOut (tgt := 97) dX6_toldBest_5 hq (by decide) ?_
    refine z_aload_n dX6_toldBest_97 rfl ?_
    refine z_geti dX6_toldBest_98 fX6_91 hM.o ?_
    exact z_iret dX6_toldBest_101 ⟨Nat.le_refl _, Nat.le_refl _⟩ rfl ⟨rfl, rfl, rfl, _, ⟨hJ.1.1.trans (by unfold tB; rw [zif_f (by omega), zif_f (by omega), zif_f (by omega), zif_f (by omega), zif_f (by omega), zif_f (by omega)]), hJ.2.1, hJ.2.2⟩, rfl⟩
  · refine z_tIn (tgt := 44) dX6_toldBest_5 (by omega) (by omega) (by rw [hq]; rfl) (by decide) ?_
    refine z_aload_n dX6_toldBest_44 rfl ?_
    refine z_geti dX6_toldBest_45 fX6_94 hM.o ?_
    exact z_iret dX6_toldBest_48 ⟨Nat.le_refl _, Nat.le_refl _⟩ rfl ⟨rfl, rfl, rfl, _, ⟨hJ.1.2.1.trans (by unfold tB; rw [zif_t (by omega)]), hJ.2.1, hJ.2.2⟩, rfl⟩
  · refine z_tIn (tgt := 49) dX6_toldBest_5 (by omega) (by omega) (by rw [hq]; rfl) (by decide) ?_
    refine z_aload_n dX6_toldBest_49 rfl ?_
    refine z_aload_n dX6_toldBest_50 rfl ?_
    refine z_geti dX6_toldBest_51 fX6_91 hM.o ?_
    refine z_top (hJ.1.1) ?_
    refine z_callV1p dX6_toldBest_54 mX6_82 hM.o (m_stitchesOf J L hM hvJ ho hJ.2.1 _ hm) (by decide) (Nat.le_of_ble_eq_true rfl) ⟨Nat.le_refl _, Nat.le_refl _⟩ ?_
    exact z_iret dX6_toldBest_57 ⟨Nat.le_refl _, Nat.le_refl _⟩ rfl ⟨rfl, rfl, rfl, _, ⟨by unfold tB; rw [zif_f (by omega), zif_t (by omega)], hJ.2.1, hJ.2.2⟩, rfl⟩
  · refine z_tIn (tgt := 58) dX6_toldBest_5 (by omega) (by omega) (by rw [hq]; rfl) (by decide) ?_
    refine z_aload_n dX6_toldBest_58 rfl ?_
    refine z_aload_n dX6_toldBest_59 rfl ?_
    refine z_geti dX6_toldBest_60 fX6_91 hM.o ?_
    refine z_top (hJ.1.1) ?_
    refine z_callV1p dX6_toldBest_63 mX6_79 hM.o (m_clashesOf J L hM hvJ ho hJ.2.1 _ hm) (by decide) (Nat.le_of_ble_eq_true rfl) ⟨Nat.le_refl _, Nat.le_refl _⟩ ?_
    exact z_iret dX6_toldBest_66 ⟨Nat.le_refl _, Nat.le_refl _⟩ rfl ⟨rfl, rfl, rfl, _, ⟨by unfold tB; rw [zif_f (by omega), zif_f (by omega), zif_t (by omega)], hJ.2.1, hJ.2.2⟩, rfl⟩
  · refine z_tIn (tgt := 67) dX6_toldBest_5 (by omega) (by omega) (by rw [hq]; rfl) (by decide) ?_
    refine z_aload_n dX6_toldBest_67 rfl ?_
    refine z_aload_n dX6_toldBest_68 rfl ?_
    refine z_geti dX6_toldBest_69 fX6_91 hM.o ?_
    refine z_top (hJ.1.1) ?_
    refine z_iconst (-1) dX6_toldBest_72 (by decide) ?_
    refine z_ixor dX6_toldBest_73 ?_
    refine z_aload_n dX6_toldBest_74 rfl ?_
    refine z_callV0p dX6_toldBest_75 mX6_72 hM.o (m_all J L hM _ hps.1 hJ.2.1.1.1) (by decide) (Nat.le_of_ble_eq_true rfl) ⟨Nat.le_refl _, Nat.le_refl _⟩ ?_
    refine z_iand dX6_toldBest_78 (z_top (nI_andn2 _ _) ?_)
    refine z_callV1p dX6_toldBest_79 mX6_100 hM.o (m_areaOn J L hM hvJ ho hJ.2.1 _ (by have := andn_le (2 ^ (pcs v.1).length - 1) (bst v).2.2.2; have := all_lt hps.1; omega)) (by decide) (Nat.le_of_ble_eq_true rfl) ⟨Nat.le_refl _, Nat.le_refl _⟩ ?_
    exact z_iret dX6_toldBest_82 ⟨Nat.le_refl _, Nat.le_refl _⟩ rfl ⟨rfl, rfl, rfl, _, ⟨by unfold tB; rw [zif_f (by omega), zif_f (by omega), zif_f (by omega), zif_t (by omega)], hJ.2.1, hJ.2.2⟩, rfl⟩
  · refine z_tIn (tgt := 83) dX6_toldBest_5 (by omega) (by omega) (by rw [hq]; rfl) (by decide) ?_
    refine z_aload_n dX6_toldBest_83 rfl ?_
    refine z_aload_n dX6_toldBest_84 rfl ?_
    refine z_geti dX6_toldBest_85 fX6_91 hM.o ?_
    refine z_top (hJ.1.1) ?_
    refine z_callV1p dX6_toldBest_88 mX6_100 hM.o (m_areaOn J L hM hvJ ho hJ.2.1 _ hm) (by decide) (Nat.le_of_ble_eq_true rfl) ⟨Nat.le_refl _, Nat.le_refl _⟩ ?_
    exact z_iret dX6_toldBest_91 ⟨Nat.le_refl _, Nat.le_refl _⟩ rfl ⟨rfl, rfl, rfl, _, ⟨by unfold tB; rw [zif_f (by omega), zif_f (by omega), zif_f (by omega), zif_f (by omega), zif_t (by omega)], hJ.2.1, hJ.2.2⟩, rfl⟩
  · refine z_tIn (tgt := 92) dX6_toldBest_5 (by omega) (by omega) (by rw [hq]; rfl) (by decide) ?_
    refine z_aload_n dX6_toldBest_92 rfl ?_
    refine z_geti dX6_toldBest_93 fX6_97 hM.o ?_
    exact z_iret dX6_toldBest_96 ⟨Nat.le_refl _, Nat.le_refl _⟩ rfl ⟨rfl, rfl, rfl, _, ⟨hJ.1.2.2.trans (by unfold tB; rw [zif_f (by omega), zif_f (by omega), zif_f (by omega), zif_f (by omega), zif_f (by omega), zif_t (by omega)]), hJ.2.1, hJ.2.2⟩, rfl⟩
set_option maxRecDepth 100000 in
set_option maxHeartbeats 4000000 in
theorem m_toldParts {S : zS} {R : zMR} (I : zMI) (L : zML) {s : St} (hM : zMO S R) (hI : zDM I s) (w : Int32) (hw : 11 ≤ w.toInt ∧ w.toInt ≤ 18) : zM0 yX6_toldParts cX6_toldParts 2 (some .int) 4 [.ref 96, .int w] S I L R (zPi L (fun I2 r => r = tld s w.toInt ∧ zMF I I2)) := by
  refine zM0_of (own := RX6) (lv := [some (.ref 96), some (.int w)]) rfl (by decide) rfl rfl ?_
  obtain ⟨hv, ho, hr⟩ := id hI
  have hl := ho.1
  have hnp := ho.2.2.1
  have h8 := hr.2.1
  have hps := pcs_ok ho
  refine z_aload_n dX6_toldParts_0 rfl ?_
  refine z_callV0v dX6_toldParts_1 mX6_88 hM.o (m_lay I L hM hv ho) (by decide) (Nat.le_of_ble_eq_true rfl) ⟨Nat.le_refl _, Nat.le_refl _⟩ (fun J hJ => ?_)
  have hvJ : zMb (J 97) 0 s.1 := by rw [hJ.2.1 97 (by omega) (by omega)]; exact hv
  refine z_iload_n dX6_toldParts_4 rfl ?_
  rcases (show (w.toInt < 11 ∨ 17 < w.toInt) ∨ w.toInt = 11 ∨ w.toInt = 12 ∨ w.toInt = 13 ∨ w.toInt = 14 ∨ w.toInt = 15 ∨ w.toInt = 16 ∨ w.toInt = 17 from by omega) with hq | hq | hq | hq | hq | hq | hq | hq
  · refine z_tOut (tgt := 82) dX6_toldParts_5 hq (by decide) ?_
    refine z_aload_n dX6_toldParts_82 rfl ?_
    refine z_callV0p dX6_toldParts_83 mX6_236 hM.o (m_fixedSet J L hM hvJ ho hJ.1) (by decide) (Nat.le_of_ble_eq_true rfl) ⟨Nat.le_refl _, Nat.le_refl _⟩ ?_
    have hq : w.toInt = 18 := by omega
    exact z_iret dX6_toldParts_86 ⟨Nat.le_refl _, Nat.le_refl _⟩ rfl ⟨rfl, rfl, rfl, _, ⟨by rw [hq]; rfl, hJ.2.mf⟩, rfl⟩
  · refine z_tIn (tgt := 48) dX6_toldParts_5 (by omega) (by omega) (by rw [hq]; rfl) (by decide) ?_
    refine z_aload_n dX6_toldParts_48 rfl ?_
    refine z_callV0p dX6_toldParts_49 mX6_218 hM.o (m_parts J L hM hps hJ.1) (by decide) (Nat.le_of_ble_eq_true rfl) ⟨Nat.le_refl _, Nat.le_refl _⟩ ?_
    exact z_iret dX6_toldParts_52 ⟨Nat.le_refl _, Nat.le_refl _⟩ rfl ⟨rfl, rfl, rfl, _, ⟨by rw [hq]; rfl, hJ.2.mf⟩, rfl⟩
  · refine z_tIn (tgt := 53) dX6_toldParts_5 (by omega) (by omega) (by rw [hq]; rfl) (by decide) ?_
    refine z_aload_n dX6_toldParts_53 rfl ?_
    refine z_iload_n dX6_toldParts_54 rfl ?_
    refine z_bipush (nI 12) dX6_toldParts_55 (by decide) ?_
    refine z_isub dX6_toldParts_57 ?_
    refine z_callV1p dX6_toldParts_58 mX6_221 hM.o (m_odd J L hM hps hJ.1 _) (by decide) (Nat.le_of_ble_eq_true rfl) ⟨Nat.le_refl _, Nat.le_refl _⟩ ?_
    have hlen := hps.1
    rcases (show w.toInt = 12 ∨ w.toInt = 13 from by omega) with hq | hq
    · have hw : w = nI 12 := Int32.toInt_inj.mp (hq.trans (by decide))
      exact z_iret dX6_toldParts_61 ⟨Nat.le_refl _, Nat.le_refl _⟩ rfl ⟨rfl, rfl, rfl, _, ⟨by rw [zif_t (by rw [hw]; decide), odd_eq hlen (clb_adj _ _) (lkb_adj _ _) (lkb_comm _ _) lkb_of_clb, hq]; rfl, hJ.2.mf⟩, rfl⟩
    · have hw : w = nI 13 := Int32.toInt_inj.mp (hq.trans (by decide))
      exact z_iret dX6_toldParts_61 ⟨Nat.le_refl _, Nat.le_refl _⟩ rfl ⟨rfl, rfl, rfl, _, ⟨by rw [zif_f (by rw [hw]; decide), sho_eq hlen (clb_adj _ _) (lkb_adj _ _) lkb_of_clb, hq]; rfl, hJ.2.mf⟩, rfl⟩
  · refine z_tIn (tgt := 53) dX6_toldParts_5 (by omega) (by omega) (by rw [hq]; rfl) (by decide) ?_
    refine z_aload_n dX6_toldParts_53 rfl ?_
    refine z_iload_n dX6_toldParts_54 rfl ?_
    refine z_bipush (nI 12) dX6_toldParts_55 (by decide) ?_
    refine z_isub dX6_toldParts_57 ?_
    refine z_callV1p dX6_toldParts_58 mX6_221 hM.o (m_odd J L hM hps hJ.1 _) (by decide) (Nat.le_of_ble_eq_true rfl) ⟨Nat.le_refl _, Nat.le_refl _⟩ ?_
    have hlen := hps.1
    rcases (show w.toInt = 12 ∨ w.toInt = 13 from by omega) with hq | hq
    · have hw : w = nI 12 := Int32.toInt_inj.mp (hq.trans (by decide))
      exact z_iret dX6_toldParts_61 ⟨Nat.le_refl _, Nat.le_refl _⟩ rfl ⟨rfl, rfl, rfl, _, ⟨by rw [zif_t (by rw [hw]; decide), odd_eq hlen (clb_adj _ _) (lkb_adj _ _) (lkb_comm _ _) lkb_of_clb, hq]; rfl, hJ.2.mf⟩, rfl⟩
    · have hw : w = nI 13 := Int32.toInt_inj.mp (hq.trans (by decide))
      exact z_iret dX6_toldParts_61 ⟨Nat.le_refl _, Nat.le_refl _⟩ rfl ⟨rfl, rfl, rfl, _, ⟨by rw [zif_f (by rw [hw]; decide), sho_eq hlen (clb_adj _ _) (lkb_adj _ _) lkb_of_clb, hq]; rfl, hJ.2.mf⟩, rfl⟩
  · refine z_tIn (tgt := 62) dX6_toldParts_5 (by omega) (by omega) (by rw [hq]; rfl) (by decide) ?_
    refine z_aload_n dX6_toldParts_62 rfl ?_
    refine z_callV0p dX6_toldParts_63 mX6_224 hM.o (m_core J L hM hps hJ.1) (by decide) (Nat.le_of_ble_eq_true rfl) ⟨Nat.le_refl _, Nat.le_refl _⟩ ?_
    exact z_iret dX6_toldParts_66 ⟨Nat.le_refl _, Nat.le_refl _⟩ rfl ⟨rfl, rfl, rfl, _, ⟨by rw [hq]; rfl, hJ.2.mf⟩, rfl⟩
  · refine z_tIn (tgt := 67) dX6_toldParts_5 (by omega) (by omega) (by rw [hq]; rfl) (by decide) ?_
    refine z_aload_n dX6_toldParts_67 rfl ?_
    refine z_callV0p dX6_toldParts_68 mX6_227 hM.o (m_bridges J L hM hps hJ.1) (by decide) (Nat.le_of_ble_eq_true rfl) ⟨Nat.le_refl _, Nat.le_refl _⟩ ?_
    exact z_iret dX6_toldParts_71 ⟨Nat.le_refl _, Nat.le_refl _⟩ rfl ⟨rfl, rfl, rfl, _, ⟨by rw [hq]; rfl, hJ.2.mf⟩, rfl⟩
  · refine z_tIn (tgt := 72) dX6_toldParts_5 (by omega) (by omega) (by rw [hq]; rfl) (by decide) ?_
    refine z_aload_n dX6_toldParts_72 rfl ?_
    refine z_callV0p dX6_toldParts_73 mX6_230 hM.o (m_hinges J L hM hps hJ.1) (by decide) (Nat.le_of_ble_eq_true rfl) ⟨Nat.le_refl _, Nat.le_refl _⟩ ?_
    exact z_iret dX6_toldParts_76 ⟨Nat.le_refl _, Nat.le_refl _⟩ rfl ⟨rfl, rfl, rfl, _, ⟨by rw [hq]; rfl, hJ.2.mf⟩, rfl⟩
  · refine z_tIn (tgt := 77) dX6_toldParts_5 (by omega) (by omega) (by rw [hq]; rfl) (by decide) ?_
    refine z_aload_n dX6_toldParts_77 rfl ?_
    refine z_callV0p dX6_toldParts_78 mX6_233 hM.o (m_closePairs J L hM hps hJ.1) (by decide) (Nat.le_of_ble_eq_true rfl) ⟨Nat.le_refl _, Nat.le_refl _⟩ ?_
    exact z_iret dX6_toldParts_81 ⟨Nat.le_refl _, Nat.le_refl _⟩ rfl ⟨rfl, rfl, rfl, _, ⟨by rw [hq]; rfl, hJ.2.mf⟩, rfl⟩
set_option maxRecDepth 100000 in
set_option maxHeartbeats 4000000 in
theorem m_told {S : zS} {R : zMR} (I : zMI) (L : zML) {s : St} (hM : zMO S R) (hI : zDM I s) (w : Int32) : zM0 yX6_told cX6_told 2 (some .int) 5 [.ref 96, .int w] S I L R (zPi L (fun I2 r => r = aTold s w.toInt ∧ zDM I2 s ∧ ∀ p, p < 96 → I2 p = I p)) := by
  refine zM0_of (own := RX6) (lv := [some (.ref 96), some (.int w)]) rfl (by decide) rfl rfl ?_
  obtain ⟨hv, ho, hr⟩ := id hI
  have hl := ho.1
  have hnp := ho.2.2.1
  have h8 := hr.2.1
  refine z_iload_n dX6_told_0 rfl ?_
  refine z_if_eq (tgt := 9) dX6_told_1 (by decide) (fun h1 => ?_) (fun h1 => ?_)
  · obtain rfl : w = nI 0 := h1.trans (by decide)
    refine z_iload_n dX6_told_9 rfl ?_
    refine z_if_neN (tgt := 22) dX6_told_10 (by decide) (by omega) (fun h10 => absurd h10 (by decide)) (fun _ => ?_)
    refine z_aload_n dX6_told_13 rfl ?_
    refine z_getr dX6_told_14 fX6_7 hM.o hM.r0 ?_
    refine z_iconst (nI 0) dX6_told_17 (by decide) ?_
    refine z_iaN dX6_told_18 hM.a0 (by omega) (by decide) ?_
    refine z_goto (tgt := 26) dX6_told_19 (by decide) ?_
    have e0 : (nI 0).toInt = 0 := by decide
    exact z_iret dX6_told_26 ⟨Nat.le_refl _, Nat.le_refl _⟩ rfl ⟨rfl, rfl, rfl, _, ⟨hv.1.trans (by rw [aTold, zif_t (by decide), e0]; rfl), hI, fun p _ => rfl⟩, rfl⟩
  · have hw0 : w.toInt ≠ 0 := fun e => h1 (Int32.toInt_inj.mp (e.trans (by decide)))
    refine z_iload_n dX6_told_4 rfl ?_
    refine z_iconst (nI 1) dX6_told_5 (by decide) ?_
    refine z_icmp_ne (tgt := 27) dX6_told_6 (by decide) (fun h6 => ?_) (fun h6 => ?_)
    · have hw1 : w.toInt ≠ 1 := fun e => h6 (Int32.toInt_inj.mp (e.trans (by decide)))
      refine z_iload_n dX6_told_27 rfl ?_
      refine z_i2l dX6_told_28 ?_
      refine z_ldc2 dX6_told_29 kX6_181 ?_
      refine z_ldc2 dX6_told_32 kX6_239 ?_
      refine z_callS3p dX6_told_35 mX6_41 (m_in I L (l_i w) (l := 2) (by decide) (h := 4) (by decide)) (by decide) (Nat.le_of_ble_eq_true rfl) ⟨Nat.le_refl _, Nat.le_refl _⟩ ?_
      refine z_if_eqB (tgt := 53) dX6_told_38 (by decide) (fun h38 => ?_) (fun h38 => ?_)
      · refine z_iload_n dX6_told_53 rfl ?_
        refine z_i2l dX6_told_54 ?_
        refine z_ldc2 dX6_told_55 kX6_241 ?_
        refine z_ldc2 dX6_told_58 kX6_243 ?_
        refine z_callS3p dX6_told_61 mX6_41 (m_in I L (l_i w) (l := 5) (by decide) (h := 10) (by decide)) (by decide) (Nat.le_of_ble_eq_true rfl) ⟨Nat.le_refl _, Nat.le_refl _⟩ ?_
        refine z_if_neB (tgt := 73) dX6_told_64 (by decide) (fun h64 => ?_) (fun h64 => ?_)
        · refine z_aload_n dX6_told_73 rfl ?_
          refine z_iload_n dX6_told_74 rfl ?_
          refine z_callV1i dX6_told_75 mX6_245 hM.o (m_toldBest I L hM hv ho w) (by decide) (Nat.le_of_ble_eq_true rfl) ⟨Nat.le_refl _, Nat.le_refl _⟩ (fun J v9 hT9 => ?_)
          exact z_iret dX6_told_78 ⟨Nat.le_refl _, Nat.le_refl _⟩ rfl ⟨rfl, rfl, rfl, _, ⟨hT9.1.trans (by rw [aTold, zif_t (by omega), tld_B (by omega)]), hI.frame hT9.2.2, fun p hp => hT9.2.2.1 p (by omega)⟩, rfl⟩
        · refine z_iload_n dX6_told_67 rfl ?_
          refine z_bipush (nI 19) dX6_told_68 (by decide) ?_
          refine z_icmp_ne (tgt := 79) dX6_told_70 (by decide) (fun h70 => ?_) (fun h70 => ?_)
          · have hw19 : w.toInt ≠ 19 := fun e => h70 (Int32.toInt_inj.mp (e.trans (by decide)))
            refine z_iload_n dX6_told_79 rfl ?_
            refine z_i2l dX6_told_80 ?_
            refine z_ldc2 dX6_told_81 kX6_248 ?_
            refine z_ldc2 dX6_told_84 kX6_250 ?_
            refine z_callS3p dX6_told_87 mX6_41 (m_in I L (l_i w) (l := 11) (by decide) (h := 18) (by decide)) (by decide) (Nat.le_of_ble_eq_true rfl) ⟨Nat.le_refl _, Nat.le_refl _⟩ ?_
            refine z_if_eqB (tgt := 101) dX6_told_90 (by decide) (fun h90 => ?_) (fun h90 => ?_)
            · refine z_iload_n dX6_told_101 rfl ?_
              refine z_bipush (nI 20) dX6_told_102 (by decide) ?_
              refine z_icmp_ne (tgt := 114) dX6_told_104 (by decide) (fun h104 => ?_) (fun h104 => ?_)
              · have hw20 : w.toInt ≠ 20 := fun e => h104 (Int32.toInt_inj.mp (e.trans (by decide)))
                refine z_ldc dX6_told_114 kX6_132 ?_
                exact z_iret dX6_told_116 ⟨Nat.le_refl _, Nat.le_refl _⟩ rfl ⟨rfl, rfl, rfl, _, ⟨by rw [aTold, zif_f (by omega)], hI, fun p _ => rfl⟩, rfl⟩
              · have hw20 : w.toInt = 20 := by rw [h104]; decide
                refine z_aload_n dX6_told_107 rfl ?_
                refine z_geti dX6_told_108 fX6_116 hM.o ?_
                refine z_top (hr.1) ?_
                refine z_goto (tgt := 116) dX6_told_111 (by decide) ?_
                exact z_iret dX6_told_116 ⟨Nat.le_refl _, Nat.le_refl _⟩ rfl ⟨rfl, rfl, rfl, _, ⟨by rw [aTold, zif_t (by omega), hw20]; rfl, hI, fun p _ => rfl⟩, rfl⟩
            · refine z_aload_n dX6_told_93 rfl ?_
              refine z_iload_n dX6_told_94 rfl ?_
              refine z_callV1i dX6_told_95 mX6_252 hM.o (m_toldParts I L hM hI w h90) (by decide) (Nat.le_of_ble_eq_true rfl) ⟨Nat.le_refl _, Nat.le_refl _⟩ (fun J v9 hT9 => ?_)
              refine z_goto (tgt := 116) dX6_told_98 (by decide) ?_
              exact z_iret dX6_told_116 ⟨Nat.le_refl _, Nat.le_refl _⟩ rfl ⟨rfl, rfl, rfl, _, ⟨hT9.1.trans (by rw [aTold, zif_t (by omega)]), hI.frame hT9.2, fun p hp => hT9.2.1 p (by omega)⟩, rfl⟩
          · have hw19 : w.toInt = 19 := by rw [h70]; decide
            refine z_aload_n dX6_told_73 rfl ?_
            refine z_iload_n dX6_told_74 rfl ?_
            refine z_callV1i dX6_told_75 mX6_245 hM.o (m_toldBest I L hM hv ho w) (by decide) (Nat.le_of_ble_eq_true rfl) ⟨Nat.le_refl _, Nat.le_refl _⟩ (fun J v9 hT9 => ?_)
            exact z_iret dX6_told_78 ⟨Nat.le_refl _, Nat.le_refl _⟩ rfl ⟨rfl, rfl, rfl, _, ⟨hT9.1.trans (by rw [aTold, zif_t (by omega), tld_B (by omega)]), hI.frame hT9.2.2, fun p hp => hT9.2.2.1 p (by omega)⟩, rfl⟩
      · obtain ⟨j, hj, rfl⟩ := nI_of3 (x := w) (n := 5) (by omega) (by omega) (by omega)
        have hja : (nI j).toInt = (j : Int) := nI_T (by omega)
        refine z_aload_n dX6_told_41 rfl ?_
        refine z_getr dX6_told_42 fX6_7 hM.o hM.r0 ?_
        refine z_bipush (nI 61) dX6_told_45 (by decide) ?_
        refine z_iload_n dX6_told_47 rfl ?_
        refine z_iaddN dX6_told_48 ?_
        refine z_iconst (nI 2) dX6_told_49 (by decide) ?_
        refine z_isubN dX6_told_50 (by omega) ?_
        refine z_iaN dX6_told_51 hM.a0 (by omega) (by decide) ?_
        have e9 : I 97 (61 + j - 2) = aTold s (nI j).toInt := by
          rw [aTold, zif_t (by omega), hja]
          rcases (show j = 2 ∨ j = 3 ∨ j = 4 from by omega) with rfl | rfl | rfl
          · exact hv.2.2.1
          · exact hv.2.2.2.1
          · exact hv.2.2.2.2.1
        exact z_iret dX6_told_52 ⟨Nat.le_refl _, Nat.le_refl _⟩ rfl ⟨rfl, rfl, rfl, _, ⟨e9, hI, fun p _ => rfl⟩, rfl⟩
    · obtain rfl : w = nI 1 := h6
      refine z_iload_n dX6_told_9 rfl ?_
      refine z_if_neN (tgt := 22) dX6_told_10 (by decide) (by omega) (fun _ => ?_) (fun h10 => absurd h10 (by decide))
      refine z_aload_n dX6_told_22 rfl ?_
      refine z_callV0p dX6_told_23 mX6_121 hM.o (m_manyPieces I L hM hv ho) (by decide) (Nat.le_of_ble_eq_true rfl) ⟨Nat.le_refl _, Nat.le_refl _⟩ ?_
      have e1 : (nI 1).toInt = 1 := by decide
      exact z_iret dX6_told_26 ⟨Nat.le_refl _, Nat.le_refl _⟩ rfl ⟨rfl, rfl, rfl, _, ⟨by rw [aTold, zif_t (by decide), e1]; rfl, hI, fun p _ => rfl⟩, rfl⟩
set_option maxRecDepth 100000 in
set_option maxHeartbeats 4000000 in
theorem m_ofShape {S : zS} {R : zMR} (I : zMI) (L : zML) {s : St} (hM : zMO S R) (hI : zDM I s) (a w : Int32) : zM0 yX6_ofShape cX6_ofShape 3 (some .int) 3 [.ref 96, .int a, .int w] S I L R (zPi L (fun I2 r => r = aOfShape s a.toInt w.toInt ∧ zDM I2 s ∧ ∀ p, p < 96 → I2 p = I p)) := by
  refine zM0_of (own := RX6) (lv := [some (.ref 96), some (.int a), some (.int w)]) rfl (by decide) rfl rfl ?_
  obtain ⟨hv, ho, hr⟩ := id hI
  have hl := ho.1
  have hnp := ho.2.2.1
  have h8 := hr.2.1
  refine z_aload_n dX6_ofShape_0 rfl ?_
  refine z_iload_n dX6_ofShape_1 rfl ?_
  refine z_callV1p dX6_ofShape_2 mX6_153 hM.o (m_isShape I L hM hv ho a) (by decide) (Nat.le_of_ble_eq_true rfl) ⟨Nat.le_refl _, Nat.le_refl _⟩ ?_
  refine z_if_neB (tgt := 11) dX6_ofShape_5 (by decide) (fun h5 => ?_) (fun h5 => ?_)
  · obtain ⟨j, sh, rfl, hsh, hja, hg⟩ := has_nat hl h5
    have hj := getS_lt hsh
    obtain ⟨e0, e1, e2, e3, e4, e5⟩ := mSh0 (hv.2.1 j sh hsh)
    have htk : s.1.1.take (nI j).toInt.toNat = s.1.1.take j := by rw [hja]; rfl
    refine z_iload_n dX6_ofShape_11 rfl ?_
    rcases (show (w.toInt < 0 ∨ 8 < w.toInt) ∨ w.toInt = 0 ∨ w.toInt = 1 ∨ w.toInt = 2 ∨ w.toInt = 3 ∨ w.toInt = 4 ∨ w.toInt = 5 ∨ w.toInt = 6 ∨ w.toInt = 7 ∨ w.toInt = 8 from by omega) with hq | hq | hq | hq | hq | hq | hq | hq | hq | hq
    · refine z_tOut (tgt := 100) dX6_ofShape_12 hq (by decide) ?_
      refine z_ldc dX6_ofShape_100 kX6_132 ?_
      exact z_iret dX6_ofShape_102 ⟨Nat.le_refl _, Nat.le_refl _⟩ rfl ⟨rfl, rfl, rfl, _, ⟨by rw [aOfShape, zif_t h5, zif_f (by omega)], hI, fun p _ => rfl⟩, rfl⟩
    · refine z_tIn (tgt := 64) dX6_ofShape_12 (by omega) (by omega) (by rw [hq]; rfl) (by decide) ?_
      obtain rfl : w = nI 0 := Int32.toInt_inj.mp (hq.trans (by decide))
      refine z_aload_n dX6_ofShape_64 rfl ?_
      refine z_iload_n dX6_ofShape_65 rfl ?_
      refine z_iload_n dX6_ofShape_66 rfl ?_
      refine z_callV2p dX6_ofShape_67 mX6_45 hM.o (m_part I L hM j _ (by omega) (by omega)) (by decide) (Nat.le_of_ble_eq_true rfl) ⟨Nat.le_refl _, Nat.le_refl _⟩ ?_
      first
      | exact z_iret dX6_ofShape_70 ⟨Nat.le_refl _, Nat.le_refl _⟩ rfl ⟨rfl, rfl, rfl, _, ⟨e0.trans (by rw [aOfShape, zif_t h5, zif_t (by omega), hq]; unfold ofS; rw [hja, hg]; rfl), hI, fun p _ => rfl⟩, rfl⟩
      | exact z_iret dX6_ofShape_70 ⟨Nat.le_refl _, Nat.le_refl _⟩ rfl ⟨rfl, rfl, rfl, _, ⟨e1.trans (by rw [aOfShape, zif_t h5, zif_t (by omega), hq]; unfold ofS; rw [hja, hg]; rfl), hI, fun p _ => rfl⟩, rfl⟩
      | exact z_iret dX6_ofShape_70 ⟨Nat.le_refl _, Nat.le_refl _⟩ rfl ⟨rfl, rfl, rfl, _, ⟨e2.trans (by rw [aOfShape, zif_t h5, zif_t (by omega), hq]; unfold ofS; rw [hja, hg]; rfl), hI, fun p _ => rfl⟩, rfl⟩
      | exact z_iret dX6_ofShape_70 ⟨Nat.le_refl _, Nat.le_refl _⟩ rfl ⟨rfl, rfl, rfl, _, ⟨e3.trans (by rw [aOfShape, zif_t h5, zif_t (by omega), hq]; unfold ofS; rw [hja, hg]; rfl), hI, fun p _ => rfl⟩, rfl⟩
    · refine z_tIn (tgt := 64) dX6_ofShape_12 (by omega) (by omega) (by rw [hq]; rfl) (by decide) ?_
      obtain rfl : w = nI 1 := Int32.toInt_inj.mp (hq.trans (by decide))
      refine z_aload_n dX6_ofShape_64 rfl ?_
      refine z_iload_n dX6_ofShape_65 rfl ?_
      refine z_iload_n dX6_ofShape_66 rfl ?_
      refine z_callV2p dX6_ofShape_67 mX6_45 hM.o (m_part I L hM j _ (by omega) (by omega)) (by decide) (Nat.le_of_ble_eq_true rfl) ⟨Nat.le_refl _, Nat.le_refl _⟩ ?_
      first
      | exact z_iret dX6_ofShape_70 ⟨Nat.le_refl _, Nat.le_refl _⟩ rfl ⟨rfl, rfl, rfl, _, ⟨e0.trans (by rw [aOfShape, zif_t h5, zif_t (by omega), hq]; unfold ofS; rw [hja, hg]; rfl), hI, fun p _ => rfl⟩, rfl⟩
      | exact z_iret dX6_ofShape_70 ⟨Nat.le_refl _, Nat.le_refl _⟩ rfl ⟨rfl, rfl, rfl, _, ⟨e1.trans (by rw [aOfShape, zif_t h5, zif_t (by omega), hq]; unfold ofS; rw [hja, hg]; rfl), hI, fun p _ => rfl⟩, rfl⟩
      | exact z_iret dX6_ofShape_70 ⟨Nat.le_refl _, Nat.le_refl _⟩ rfl ⟨rfl, rfl, rfl, _, ⟨e2.trans (by rw [aOfShape, zif_t h5, zif_t (by omega), hq]; unfold ofS; rw [hja, hg]; rfl), hI, fun p _ => rfl⟩, rfl⟩
      | exact z_iret dX6_ofShape_70 ⟨Nat.le_refl _, Nat.le_refl _⟩ rfl ⟨rfl, rfl, rfl, _, ⟨e3.trans (by rw [aOfShape, zif_t h5, zif_t (by omega), hq]; unfold ofS; rw [hja, hg]; rfl), hI, fun p _ => rfl⟩, rfl⟩
    · refine z_tIn (tgt := 64) dX6_ofShape_12 (by omega) (by omega) (by rw [hq]; rfl) (by decide) ?_
      obtain rfl : w = nI 2 := Int32.toInt_inj.mp (hq.trans (by decide))
      refine z_aload_n dX6_ofShape_64 rfl ?_
      refine z_iload_n dX6_ofShape_65 rfl ?_
      refine z_iload_n dX6_ofShape_66 rfl ?_
      refine z_callV2p dX6_ofShape_67 mX6_45 hM.o (m_part I L hM j _ (by omega) (by omega)) (by decide) (Nat.le_of_ble_eq_true rfl) ⟨Nat.le_refl _, Nat.le_refl _⟩ ?_
      first
      | exact z_iret dX6_ofShape_70 ⟨Nat.le_refl _, Nat.le_refl _⟩ rfl ⟨rfl, rfl, rfl, _, ⟨e0.trans (by rw [aOfShape, zif_t h5, zif_t (by omega), hq]; unfold ofS; rw [hja, hg]; rfl), hI, fun p _ => rfl⟩, rfl⟩
      | exact z_iret dX6_ofShape_70 ⟨Nat.le_refl _, Nat.le_refl _⟩ rfl ⟨rfl, rfl, rfl, _, ⟨e1.trans (by rw [aOfShape, zif_t h5, zif_t (by omega), hq]; unfold ofS; rw [hja, hg]; rfl), hI, fun p _ => rfl⟩, rfl⟩
      | exact z_iret dX6_ofShape_70 ⟨Nat.le_refl _, Nat.le_refl _⟩ rfl ⟨rfl, rfl, rfl, _, ⟨e2.trans (by rw [aOfShape, zif_t h5, zif_t (by omega), hq]; unfold ofS; rw [hja, hg]; rfl), hI, fun p _ => rfl⟩, rfl⟩
      | exact z_iret dX6_ofShape_70 ⟨Nat.le_refl _, Nat.le_refl _⟩ rfl ⟨rfl, rfl, rfl, _, ⟨e3.trans (by rw [aOfShape, zif_t h5, zif_t (by omega), hq]; unfold ofS; rw [hja, hg]; rfl), hI, fun p _ => rfl⟩, rfl⟩
    · refine z_tIn (tgt := 64) dX6_ofShape_12 (by omega) (by omega) (by rw [hq]; rfl) (by decide) ?_
      obtain rfl : w = nI 3 := Int32.toInt_inj.mp (hq.trans (by decide))
      refine z_aload_n dX6_ofShape_64 rfl ?_
      refine z_iload_n dX6_ofShape_65 rfl ?_
      refine z_iload_n dX6_ofShape_66 rfl ?_
      refine z_callV2p dX6_ofShape_67 mX6_45 hM.o (m_part I L hM j _ (by omega) (by omega)) (by decide) (Nat.le_of_ble_eq_true rfl) ⟨Nat.le_refl _, Nat.le_refl _⟩ ?_
      first
      | exact z_iret dX6_ofShape_70 ⟨Nat.le_refl _, Nat.le_refl _⟩ rfl ⟨rfl, rfl, rfl, _, ⟨e0.trans (by rw [aOfShape, zif_t h5, zif_t (by omega), hq]; unfold ofS; rw [hja, hg]; rfl), hI, fun p _ => rfl⟩, rfl⟩
      | exact z_iret dX6_ofShape_70 ⟨Nat.le_refl _, Nat.le_refl _⟩ rfl ⟨rfl, rfl, rfl, _, ⟨e1.trans (by rw [aOfShape, zif_t h5, zif_t (by omega), hq]; unfold ofS; rw [hja, hg]; rfl), hI, fun p _ => rfl⟩, rfl⟩
      | exact z_iret dX6_ofShape_70 ⟨Nat.le_refl _, Nat.le_refl _⟩ rfl ⟨rfl, rfl, rfl, _, ⟨e2.trans (by rw [aOfShape, zif_t h5, zif_t (by omega), hq]; unfold ofS; rw [hja, hg]; rfl), hI, fun p _ => rfl⟩, rfl⟩
      | exact z_iret dX6_ofShape_70 ⟨Nat.le_refl _, Nat.le_refl _⟩ rfl ⟨rfl, rfl, rfl, _, ⟨e3.trans (by rw [aOfShape, zif_t h5, zif_t (by omega), hq]; unfold ofS; rw [hja, hg]; rfl), hI, fun p _ => rfl⟩, rfl⟩
    · refine z_tIn (tgt := 71) dX6_ofShape_12 (by omega) (by omega) (by rw [hq]; rfl) (by decide) ?_
      refine z_aload_n dX6_ofShape_71 rfl ?_
      refine z_iload_n dX6_ofShape_72 rfl ?_
      refine z_callV1p dX6_ofShape_73 mX6_169 hM.o (m_shapeArea I L hM hv ho j hsh) (by decide) (Nat.le_of_ble_eq_true rfl) ⟨Nat.le_refl _, Nat.le_refl _⟩ ?_
      exact z_iret dX6_ofShape_76 ⟨Nat.le_refl _, Nat.le_refl _⟩ rfl ⟨rfl, rfl, rfl, _, ⟨by rw [aOfShape, zif_t h5, zif_t (by omega), hq]; unfold ofS; rw [hja, hg]; rfl, hI, fun p _ => rfl⟩, rfl⟩
    · refine z_tIn (tgt := 77) dX6_ofShape_12 (by omega) (by omega) (by rw [hq]; rfl) (by decide) ?_
      refine z_aload_n dX6_ofShape_77 rfl ?_
      refine z_iload_n dX6_ofShape_78 rfl ?_
      refine z_callV1p dX6_ofShape_79 mX6_64 hM.o (m_cutsOf I L hM hv ho j hsh) (by decide) (Nat.le_of_ble_eq_true rfl) ⟨Nat.le_refl _, Nat.le_refl _⟩ ?_
      exact z_iret dX6_ofShape_82 ⟨Nat.le_refl _, Nat.le_refl _⟩ rfl ⟨rfl, rfl, rfl, _, ⟨by rw [aOfShape, zif_t h5, zif_t (by omega), hq]; unfold ofS; rw [hja, hg]; rfl, hI, fun p _ => rfl⟩, rfl⟩
    · refine z_tIn (tgt := 83) dX6_ofShape_12 (by omega) (by omega) (by rw [hq]; rfl) (by decide) ?_
      refine z_aload_n dX6_ofShape_83 rfl ?_
      refine z_iload_n dX6_ofShape_84 rfl ?_
      refine z_callV1p dX6_ofShape_85 mX6_255 hM.o (m_firstPiece I L hM hv ho j hj) (by decide) (Nat.le_of_ble_eq_true rfl) ⟨Nat.le_refl _, Nat.le_refl _⟩ ?_
      exact z_iret dX6_ofShape_88 ⟨Nat.le_refl _, Nat.le_refl _⟩ rfl ⟨rfl, rfl, rfl, _, ⟨by rw [aOfShape, zif_t h5, zif_t (by omega), hq]; unfold ofS; rw [hja, hg]; rfl, hI, fun p _ => rfl⟩, rfl⟩
    · refine z_tIn (tgt := 89) dX6_ofShape_12 (by omega) (by omega) (by rw [hq]; rfl) (by decide) ?_
      obtain rfl : w = nI 7 := Int32.toInt_inj.mp (hq.trans (by decide))
      refine z_aload_n dX6_ofShape_89 rfl ?_
      refine z_iload_n dX6_ofShape_90 rfl ?_
      refine z_iload_n dX6_ofShape_91 rfl ?_
      refine z_iconst (nI 3) dX6_ofShape_92 (by decide) ?_
      refine z_isub dX6_ofShape_93 ?_
      first
      | refine z_top (show nI 7 - nI 3 = nI 4 from by decide) ?_
      | refine z_top (show nI 8 - nI 3 = nI 5 from by decide) ?_
      refine z_callV2p dX6_ofShape_94 mX6_45 hM.o (m_part I L hM j _ (by omega) (by omega)) (by decide) (Nat.le_of_ble_eq_true rfl) ⟨Nat.le_refl _, Nat.le_refl _⟩ ?_
      refine z_iconst (nI 1) dX6_ofShape_97 (by decide) ?_
      refine z_isub dX6_ofShape_98 ?_
      first
      | exact z_iret dX6_ofShape_99 ⟨Nat.le_refl _, Nat.le_refl _⟩ rfl ⟨rfl, rfl, rfl, _, ⟨(by rw [e4, loC_c1] : _ = loC (sc sh)).trans (by rw [aOfShape, zif_t h5, zif_t (by omega), hq]; unfold ofS; rw [hja, hg]; rfl), hI, fun p _ => rfl⟩, rfl⟩
      | exact z_iret dX6_ofShape_99 ⟨Nat.le_refl _, Nat.le_refl _⟩ rfl ⟨rfl, rfl, rfl, _, ⟨(by rw [e5]; exact loC_c1 (sc sh).tail : _ = loC (sc sh).tail).trans (by rw [aOfShape, zif_t h5, zif_t (by omega), hq]; unfold ofS; rw [hja, hg]; rfl), hI, fun p _ => rfl⟩, rfl⟩
    · refine z_tIn (tgt := 89) dX6_ofShape_12 (by omega) (by omega) (by rw [hq]; rfl) (by decide) ?_
      obtain rfl : w = nI 8 := Int32.toInt_inj.mp (hq.trans (by decide))
      refine z_aload_n dX6_ofShape_89 rfl ?_
      refine z_iload_n dX6_ofShape_90 rfl ?_
      refine z_iload_n dX6_ofShape_91 rfl ?_
      refine z_iconst (nI 3) dX6_ofShape_92 (by decide) ?_
      refine z_isub dX6_ofShape_93 ?_
      first
      | refine z_top (show nI 7 - nI 3 = nI 4 from by decide) ?_
      | refine z_top (show nI 8 - nI 3 = nI 5 from by decide) ?_
      refine z_callV2p dX6_ofShape_94 mX6_45 hM.o (m_part I L hM j _ (by omega) (by omega)) (by decide) (Nat.le_of_ble_eq_true rfl) ⟨Nat.le_refl _, Nat.le_refl _⟩ ?_
      refine z_iconst (nI 1) dX6_ofShape_97 (by decide) ?_
      refine z_isub dX6_ofShape_98 ?_
      first
      | exact z_iret dX6_ofShape_99 ⟨Nat.le_refl _, Nat.le_refl _⟩ rfl ⟨rfl, rfl, rfl, _, ⟨(by rw [e4, loC_c1] : _ = loC (sc sh)).trans (by rw [aOfShape, zif_t h5, zif_t (by omega), hq]; unfold ofS; rw [hja, hg]; rfl), hI, fun p _ => rfl⟩, rfl⟩
      | exact z_iret dX6_ofShape_99 ⟨Nat.le_refl _, Nat.le_refl _⟩ rfl ⟨rfl, rfl, rfl, _, ⟨(by rw [e5]; exact loC_c1 (sc sh).tail : _ = loC (sc sh).tail).trans (by rw [aOfShape, zif_t h5, zif_t (by omega), hq]; unfold ofS; rw [hja, hg]; rfl), hI, fun p _ => rfl⟩, rfl⟩
  · refine z_ldc dX6_ofShape_8 kX6_156 ?_
    exact z_iret dX6_ofShape_10 ⟨Nat.le_refl _, Nat.le_refl _⟩ rfl ⟨rfl, rfl, rfl, _, ⟨by rw [aOfShape, zif_f h5], hI, fun p _ => rfl⟩, rfl⟩
set_option maxRecDepth 100000 in
set_option maxHeartbeats 4000000 in
theorem m_ofPiece {S : zS} {R : zMR} (I : zMI) (L : zML) {s : St} (hM : zMO S R) (hI : zDM I s) (a w : Int32) : zM0 yX6_ofPiece cX6_ofPiece 3 (some .int) 5 [.ref 96, .int a, .int w] S I L R (zPi L (fun I2 r => r = aOfPiece s a.toInt w.toInt ∧ zDM I2 s ∧ ∀ p, p < 96 → I2 p = I p)) := by
  refine zM0_of (own := RX6) (lv := [some (.ref 96), some (.int a), some (.int w)]) rfl (by decide) rfl rfl ?_
  obtain ⟨hv, ho, hr⟩ := id hI
  have hl := ho.1
  have hnp := ho.2.2.1
  have h8 := hr.2.1
  have hps := pcs_ok ho
  have hpl := pcs_len s.1.1
  have hm9 := (bst_m ho).2
  refine z_aload_n dX6_ofPiece_0 rfl ?_
  refine z_callV0v dX6_ofPiece_1 mX6_88 hM.o (m_lay I L hM hv ho) (by decide) (Nat.le_of_ble_eq_true rfl) ⟨Nat.le_refl _, Nat.le_refl _⟩ (fun J hJ => ?_)
  have hIJ := hI.frame hJ.2.mf
  have hvJ := hIJ.1
  refine z_iload_n dX6_ofPiece_4 rfl ?_
  refine z_i2l dX6_ofPiece_5 ?_
  refine z_lconst 0 dX6_ofPiece_6 (by decide) ?_
  refine z_aload_n dX6_ofPiece_7 rfl ?_
  refine z_geti dX6_ofPiece_8 fX6_49 hM.o ?_
  refine z_top (hJ.1.1.1) ?_
  refine z_iconst (nI 1) dX6_ofPiece_11 (by decide) ?_
  refine z_isub dX6_ofPiece_12 (z_top (nI_subI _ _) ?_)
  refine z_i2l dX6_ofPiece_13 ?_
  refine z_callS3p dX6_ofPiece_14 mX6_41 (m_in J L (l_i a) (l := 0) (by decide) (l_z (by omega) (by omega))) (by decide) (Nat.le_of_ble_eq_true rfl) ⟨Nat.le_refl _, Nat.le_refl _⟩ ?_
  refine z_if_neB (tgt := 23) dX6_ofPiece_17 (by decide) (fun h17 => ?_) (fun h17 => ?_)
  · obtain ⟨p, hp, rfl⟩ := nI_of3 (x := a) (n := (pcs s.1.1).length) (by omega) (by omega) (by omega)
    have hpa : (nI p).toInt = (p : Int) := nI_T (by omega)
    have h8p : isP s.1 (nI p).toInt := ⟨by omega, by omega⟩
    have hc := hJ.1.1.2 p _ (getP hp)
    refine z_iload_n dX6_ofPiece_23 rfl ?_
    rcases (show (w.toInt < 0 ∨ 7 < w.toInt) ∨ w.toInt = 0 ∨ w.toInt = 1 ∨ w.toInt = 2 ∨ w.toInt = 3 ∨ w.toInt = 4 ∨ w.toInt = 5 ∨ w.toInt = 6 ∨ w.toInt = 7 from by omega) with hq | hq | hq | hq | hq | hq | hq | hq | hq
    · refine z_tOut (tgt := 135) dX6_ofPiece_24 hq (by decide) ?_
      refine z_ldc dX6_ofPiece_135 kX6_132 ?_
      exact z_iret dX6_ofPiece_137 ⟨Nat.le_refl _, Nat.le_refl _⟩ rfl ⟨rfl, rfl, rfl, _, ⟨by rw [aOfPiece, zif_t h8p, zif_f (by omega)], hIJ, fun p hp => hJ.2.1 p (by omega) (by omega)⟩, rfl⟩
    · refine z_tIn (tgt := 72) dX6_ofPiece_24 (by omega) (by omega) (by rw [hq]; rfl) (by decide) ?_
      refine z_aload_n dX6_ofPiece_72 rfl ?_
      refine z_getr dX6_ofPiece_73 fX6_23 hM.o hM.r6 ?_
      refine z_iload_n dX6_ofPiece_76 rfl ?_
      refine z_iaN dX6_ofPiece_77 hM.a6 (by omega) (by decide) ?_
      exact z_iret dX6_ofPiece_78 ⟨Nat.le_refl _, Nat.le_refl _⟩ rfl ⟨rfl, rfl, rfl, _, ⟨(hc.1).trans (by rw [aOfPiece, zif_t h8p, zif_t (by omega), hq]; unfold ofP; rw [hpa]; rfl), hIJ, fun p hp => hJ.2.1 p (by omega) (by omega)⟩, rfl⟩
    · refine z_tIn (tgt := 79) dX6_ofPiece_24 (by omega) (by omega) (by rw [hq]; rfl) (by decide) ?_
      refine z_aload_n dX6_ofPiece_79 rfl ?_
      refine z_getr dX6_ofPiece_80 fX6_26 hM.o hM.r7 ?_
      refine z_iload_n dX6_ofPiece_83 rfl ?_
      refine z_iaN dX6_ofPiece_84 hM.a7 (by omega) (by decide) ?_
      exact z_iret dX6_ofPiece_85 ⟨Nat.le_refl _, Nat.le_refl _⟩ rfl ⟨rfl, rfl, rfl, _, ⟨(hc.2.1).trans (by rw [aOfPiece, zif_t h8p, zif_t (by omega), hq]; unfold ofP; rw [hpa]; rfl), hIJ, fun p hp => hJ.2.1 p (by omega) (by omega)⟩, rfl⟩
    · refine z_tIn (tgt := 86) dX6_ofPiece_24 (by omega) (by omega) (by rw [hq]; rfl) (by decide) ?_
      refine z_aload_n dX6_ofPiece_86 rfl ?_
      refine z_getr dX6_ofPiece_87 fX6_29 hM.o hM.r8 ?_
      refine z_iload_n dX6_ofPiece_90 rfl ?_
      refine z_iaN dX6_ofPiece_91 hM.a8 (by omega) (by decide) ?_
      exact z_iret dX6_ofPiece_92 ⟨Nat.le_refl _, Nat.le_refl _⟩ rfl ⟨rfl, rfl, rfl, _, ⟨(hc.2.2).trans (by rw [aOfPiece, zif_t h8p, zif_t (by omega), hq]; unfold ofP; rw [hpa]; rfl), hIJ, fun p hp => hJ.2.1 p (by omega) (by omega)⟩, rfl⟩
    · refine z_tIn (tgt := 93) dX6_ofPiece_24 (by omega) (by omega) (by rw [hq]; rfl) (by decide) ?_
      refine z_aload_n dX6_ofPiece_93 rfl ?_
      refine z_iload_n dX6_ofPiece_94 rfl ?_
      refine z_callV1p dX6_ofPiece_95 mX6_85 hM.o (m_areaOf J L hM hvJ ho hJ.1.1 p hp) (by decide) (Nat.le_of_ble_eq_true rfl) ⟨Nat.le_refl _, Nat.le_refl _⟩ ?_
      exact z_iret dX6_ofPiece_98 ⟨Nat.le_refl _, Nat.le_refl _⟩ rfl ⟨rfl, rfl, rfl, _, ⟨by rw [aOfPiece, zif_t h8p, zif_t (by omega), hq]; unfold ofP; rw [hpa]; rfl, hIJ, fun p hp => hJ.2.1 p (by omega) (by omega)⟩, rfl⟩
    · refine z_tIn (tgt := 99) dX6_ofPiece_24 (by omega) (by omega) (by rw [hq]; rfl) (by decide) ?_
      refine z_aload_n dX6_ofPiece_99 rfl ?_
      refine z_bipush (nI 19) dX6_ofPiece_100 (by decide) ?_
      refine z_callV1i dX6_ofPiece_102 mX6_245 hM.o (m_toldBest J L hM hvJ ho _) (by decide) (Nat.le_of_ble_eq_true rfl) ⟨Nat.le_refl _, Nat.le_refl _⟩ (fun K v9 hT9 => ?_)
      refine z_top (hT9.1.trans (tB_19 s.1)) ?_
      refine z_iload_n dX6_ofPiece_105 rfl ?_
      refine z_bit dX6_ofPiece_106 dX6_ofPiece_107 (by decide) dX6_ofPiece_108 (by omega) (by omega) ?_
      exact z_iret dX6_ofPiece_109 ⟨Nat.le_refl _, Nat.le_refl _⟩ rfl ⟨rfl, rfl, rfl, _, ⟨by rw [aOfPiece, zif_t h8p, zif_t (by omega), hq]; unfold ofP; rw [hpa]; rfl, hIJ.frame hT9.2.2, fun p hp => by rw [hT9.2.2.1 p (by omega)]; exact hJ.2.1 p (by omega) (by omega)⟩, rfl⟩
    · refine z_tIn (tgt := 110) dX6_ofPiece_24 (by omega) (by omega) (by rw [hq]; rfl) (by decide) ?_
      refine z_aload_n dX6_ofPiece_110 rfl ?_
      refine z_getr dX6_ofPiece_111 fX6_7 hM.o hM.r0 ?_
      refine z_bipush (nI 64) dX6_ofPiece_114 (by decide) ?_
      refine z_iload_n dX6_ofPiece_116 rfl ?_
      refine z_iaddN dX6_ofPiece_117 ?_
      refine z_iaN dX6_ofPiece_118 hM.a0 (by omega) (by decide) ?_
      refine z_top ((show _ = nI (lfx s.1 p) from by have := hvJ.2.2.2.2.2 p (by omega); simpa using this)) ?_
      refine z_iconst (nI 1) dX6_ofPiece_119 (by decide) ?_
      refine z_isub dX6_ofPiece_120 ?_
      exact z_iret dX6_ofPiece_121 ⟨Nat.le_refl _, Nat.le_refl _⟩ rfl ⟨rfl, rfl, rfl, _, ⟨(fxv_sub _).trans (by rw [aOfPiece, zif_t h8p, zif_t (by omega), hq]; unfold ofP; rw [hpa]; rfl), hIJ, fun p hp => hJ.2.1 p (by omega) (by omega)⟩, rfl⟩
    · refine z_tIn (tgt := 122) dX6_ofPiece_24 (by omega) (by omega) (by rw [hq]; rfl) (by decide) ?_
      refine z_aload_n dX6_ofPiece_122 rfl ?_
      refine z_getr dX6_ofPiece_123 fX6_32 hM.o hM.r9 ?_
      refine z_iload_n dX6_ofPiece_126 rfl ?_
      refine z_iaN dX6_ofPiece_127 hM.a9 (by omega) (by decide) ?_
      exact z_iret dX6_ofPiece_128 ⟨Nat.le_refl _, Nat.le_refl _⟩ rfl ⟨rfl, rfl, rfl, _, ⟨((hJ.1.2 p hp).1).trans (by rw [aOfPiece, zif_t h8p, zif_t (by omega), hq]; unfold ofP; rw [hpa]; rfl), hIJ, fun p hp => hJ.2.1 p (by omega) (by omega)⟩, rfl⟩
    · refine z_tIn (tgt := 129) dX6_ofPiece_24 (by omega) (by omega) (by rw [hq]; rfl) (by decide) ?_
      refine z_aload_n dX6_ofPiece_129 rfl ?_
      refine z_iload_n dX6_ofPiece_130 rfl ?_
      refine z_callV1p dX6_ofPiece_131 mX6_212 hM.o (m_partOf J L hM hps hJ.1 p hp) (by decide) (Nat.le_of_ble_eq_true rfl) ⟨Nat.le_refl _, Nat.le_refl _⟩ ?_
      exact z_iret dX6_ofPiece_134 ⟨Nat.le_refl _, Nat.le_refl _⟩ rfl ⟨rfl, rfl, rfl, _, ⟨by rw [aOfPiece, zif_t h8p, zif_t (by omega), hq]; unfold ofP; rw [hpa]; rfl, hIJ, fun p hp => hJ.2.1 p (by omega) (by omega)⟩, rfl⟩
  · refine z_ldc dX6_ofPiece_20 kX6_156 ?_
    exact z_iret dX6_ofPiece_22 ⟨Nat.le_refl _, Nat.le_refl _⟩ rfl ⟨rfl, rfl, rfl, _, ⟨by rw [aOfPiece, zif_f (fun q : isP _ _ => h17 ⟨q.1, by have := q.2; omega⟩)], hIJ, fun p hp => hJ.2.1 p (by omega) (by omega)⟩, rfl⟩
set_option maxRecDepth 100000 in
set_option maxHeartbeats 4000000 in
theorem m_areTwo {S : zS} {R : zMR} (I : zMI) (L : zML) {v : Ly} (hM : zMO S R) (hv : zMb (I 97) 0 v) (ho : lyOk v) (a c : Int32) : zM0 yX6_areTwo cX6_areTwo 3 (some .boolean) 3 [.ref 96, .int a, .int c] S I L R (zPi L (fun J r => r = zb (two v a.toInt c.toInt) ∧ zPM J (pcs v.1) (lD v) ∧ mLF I J)) := by
  refine zM0_of (own := RX6) (lv := [some (.ref 96), some (.int a), some (.int c)]) rfl (by decide) rfl rfl ?_
  have hps := pcs_ok ho
  have hpl := pcs_len v.1
  have hnp := ho.2.2.1
  refine z_aload_n dX6_areTwo_0 rfl ?_
  refine z_callV0v dX6_areTwo_1 mX6_88 hM.o (m_lay I L hM hv ho) (by decide) (Nat.le_of_ble_eq_true rfl) ⟨Nat.le_refl _, Nat.le_refl _⟩ (fun J hJ => ?_)
  refine z_iload_n dX6_areTwo_4 rfl ?_
  refine z_i2l dX6_areTwo_5 ?_
  refine z_lconst 0 dX6_areTwo_6 (by decide) ?_
  refine z_aload_n dX6_areTwo_7 rfl ?_
  refine z_geti dX6_areTwo_8 fX6_49 hM.o ?_
  refine z_top (hJ.1.1.1) ?_
  refine z_iconst (nI 1) dX6_areTwo_11 (by decide) ?_
  refine z_isub dX6_areTwo_12 (z_top (nI_subI _ _) ?_)
  refine z_i2l dX6_areTwo_13 ?_
  refine z_callS3p dX6_areTwo_14 mX6_41 (m_in J L (l_i a) (l := 0) (by decide) (l_z (by omega) (by omega))) (by decide) (Nat.le_of_ble_eq_true rfl) ⟨Nat.le_refl _, Nat.le_refl _⟩ ?_
  refine z_if_eqB (tgt := 45) dX6_areTwo_17 (by decide) (fun h17 => ?_) (fun h17 => ?_)
  · refine z_iconst (nI 0) dX6_areTwo_45 (by decide) ?_
    exact z_iret dX6_areTwo_46 ⟨Nat.le_refl _, Nat.le_refl _⟩ rfl ⟨rfl, rfl, rfl, _, ⟨(by first | exact zb_1 (by unfold two isP; omega) | exact zb_0 (by unfold two isP; omega)), hJ.1, hJ.2⟩, rfl⟩
  · refine z_iload_n dX6_areTwo_20 rfl ?_
    refine z_i2l dX6_areTwo_21 ?_
    refine z_lconst 0 dX6_areTwo_22 (by decide) ?_
    refine z_aload_n dX6_areTwo_23 rfl ?_
    refine z_geti dX6_areTwo_24 fX6_49 hM.o ?_
    refine z_top (hJ.1.1.1) ?_
    refine z_iconst (nI 1) dX6_areTwo_27 (by decide) ?_
    refine z_isub dX6_areTwo_28 (z_top (nI_subI _ _) ?_)
    refine z_i2l dX6_areTwo_29 ?_
    refine z_callS3p dX6_areTwo_30 mX6_41 (m_in J L (l_i c) (l := 0) (by decide) (l_z (by omega) (by omega))) (by decide) (Nat.le_of_ble_eq_true rfl) ⟨Nat.le_refl _, Nat.le_refl _⟩ ?_
    refine z_if_eqB (tgt := 45) dX6_areTwo_33 (by decide) (fun h33 => ?_) (fun h33 => ?_)
    · refine z_iconst (nI 0) dX6_areTwo_45 (by decide) ?_
      exact z_iret dX6_areTwo_46 ⟨Nat.le_refl _, Nat.le_refl _⟩ rfl ⟨rfl, rfl, rfl, _, ⟨(by first | exact zb_1 (by unfold two isP; omega) | exact zb_0 (by unfold two isP; omega)), hJ.1, hJ.2⟩, rfl⟩
    · refine z_iload_n dX6_areTwo_36 rfl ?_
      refine z_iload_n dX6_areTwo_37 rfl ?_
      refine z_icmp_eq (tgt := 45) dX6_areTwo_38 (by decide) (fun h38 => ?_) (fun h38 => ?_)
      · have h38 : a.toInt = c.toInt := by rw [h38]
        refine z_iconst (nI 0) dX6_areTwo_45 (by decide) ?_
        exact z_iret dX6_areTwo_46 ⟨Nat.le_refl _, Nat.le_refl _⟩ rfl ⟨rfl, rfl, rfl, _, ⟨(by first | exact zb_1 (by unfold two isP; omega) | exact zb_0 (by unfold two isP; omega)), hJ.1, hJ.2⟩, rfl⟩
      · have h38 : a.toInt ≠ c.toInt := fun q => h38 (Int32.toInt_inj.mp q)
        refine z_iconst (nI 1) dX6_areTwo_41 (by decide) ?_
        refine z_goto (tgt := 46) dX6_areTwo_42 (by decide) ?_
        exact z_iret dX6_areTwo_46 ⟨Nat.le_refl _, Nat.le_refl _⟩ rfl ⟨rfl, rfl, rfl, _, ⟨(by first | exact zb_1 (by unfold two isP; omega) | exact zb_0 (by unfold two isP; omega)), hJ.1, hJ.2⟩, rfl⟩
set_option maxRecDepth 100000 in
set_option maxHeartbeats 4000000 in
theorem m_gap {S : zS} {R : zMR} (I : zMI) (L : zML) {s : St} (hM : zMO S R) (hI : zDM I s) (a c : Int32) : zM0 yX6_gap cX6_gap 3 (some .int) 4 [.ref 96, .int a, .int c] S I L R (zPi L (fun I2 r => r = aGap s a.toInt c.toInt ∧ zDM I2 s ∧ ∀ p, p < 96 → I2 p = I p)) := by
  refine zM0_of (own := RX6) (lv := [some (.ref 96), some (.int a), some (.int c)]) rfl (by decide) rfl rfl ?_
  obtain ⟨hv, ho, hr⟩ := id hI
  have hl := ho.1
  have hnp := ho.2.2.1
  have h8 := hr.2.1
  refine z_aload_n dX6_gap_0 rfl ?_
  refine z_iload_n dX6_gap_1 rfl ?_
  refine z_iload_n dX6_gap_2 rfl ?_
  refine z_callV2i dX6_gap_3 mX6_258 hM.o (m_areTwo I L hM hv ho a c) (by decide) (Nat.le_of_ble_eq_true rfl) ⟨Nat.le_refl _, Nat.le_refl _⟩ (fun J v9 h9 => ?_)
  refine z_top h9.1 ?_
  have hIJ := hI.frame h9.2.2.mf
  have hvJ := hIJ.1
  refine z_if_eqB (tgt := 18) dX6_gap_6 (by decide) (fun h6 => ?_) (fun h6 => ?_)
  · refine z_ldc dX6_gap_18 kX6_156 ?_
    exact z_iret dX6_gap_20 ⟨Nat.le_refl _, Nat.le_refl _⟩ rfl ⟨rfl, rfl, rfl, _, ⟨by rw [aGap, zif_f h6], hIJ, fun p hp => h9.2.2.1 p (by omega) (by omega)⟩, rfl⟩
  · have hpl := pcs_len s.1.1
    obtain ⟨p, hp, rfl⟩ := nI_of3 (x := a) (n := (pcs s.1.1).length) h6.1.1 h6.1.2 (by omega)
    obtain ⟨q, hq, rfl⟩ := nI_of3 (x := c) (n := (pcs s.1.1).length) h6.2.1.1 h6.2.1.2 (by omega)
    have hpa : (nI p).toInt = (p : Int) := nI_T (by omega)
    have hqa : (nI q).toInt = (q : Int) := nI_T (by omega)
    refine z_aload_n dX6_gap_9 rfl ?_
    refine z_iload_n dX6_gap_10 rfl ?_
    refine z_iload_n dX6_gap_11 rfl ?_
    refine z_callV2p dX6_gap_12 mX6_61 hM.o (m_gapOf J L hM hvJ ho h9.2.1.1 p q hp hq) (by decide) (Nat.le_of_ble_eq_true rfl) ⟨Nat.le_refl _, Nat.le_refl _⟩ ?_
    refine z_goto (tgt := 20) dX6_gap_15 (by decide) ?_
    exact z_iret dX6_gap_20 ⟨Nat.le_refl _, Nat.le_refl _⟩ rfl ⟨rfl, rfl, rfl, _, ⟨by rw [aGap, zif_t h6, hpa, hqa]; rfl, hIJ, fun p hp => h9.2.2.1 p (by omega) (by omega)⟩, rfl⟩
set_option maxRecDepth 100000 in
set_option maxHeartbeats 4000000 in
theorem m_judge {S : zS} {R : zMR} (I : zMI) (L : zML) {s : St} (hM : zMO S R) (hI : zDM I s) (a : Int32) : zM0 yX6_judge cX6_judge 2 (some .int) 3 [.ref 96, .int a] S I L R (zPi L (fun I2 r => r = aJudge s a.toInt ∧ zDM I2 s ∧ ∀ p, p < 96 → I2 p = I p)) := by
  refine zM0_of (own := RX6) (lv := [some (.ref 96), some (.int a)]) rfl (by decide) rfl rfl ?_
  obtain ⟨hv, ho, hr⟩ := id hI
  have hl := ho.1
  have hnp := ho.2.2.1
  have h8 := hr.2.1
  have hps := pcs_ok ho
  have hall := all_lt hps.1
  have h2p : 0 < 2 ^ (pcs s.1.1).length := Nat.two_pow_pos _
  have h2i : ((2 ^ (pcs s.1.1).length : Nat) : Int) = 2 ^ (pcs s.1.1).length := by simp
  refine z_aload_n dX6_judge_0 rfl ?_
  refine z_callV0v dX6_judge_1 mX6_88 hM.o (m_lay I L hM hv ho) (by decide) (Nat.le_of_ble_eq_true rfl) ⟨Nat.le_refl _, Nat.le_refl _⟩ (fun J hJ => ?_)
  have hIJ := hI.frame hJ.2.mf
  have hvJ := hIJ.1
  refine z_iload_n dX6_judge_4 rfl ?_
  refine z_i2l dX6_judge_5 ?_
  refine z_lconst 0 dX6_judge_6 (by decide) ?_
  refine z_aload_n dX6_judge_7 rfl ?_
  refine z_callV0p dX6_judge_8 mX6_72 hM.o (m_all J L hM _ hps.1 hJ.1.1.1) (by decide) (Nat.le_of_ble_eq_true rfl) ⟨Nat.le_refl _, Nat.le_refl _⟩ ?_
  refine z_i2l dX6_judge_11 ?_
  refine z_callS3p dX6_judge_12 mX6_41 (m_in J L (l_i a) (l := 0) (by decide) (l_n (by omega))) (by decide) (Nat.le_of_ble_eq_true rfl) ⟨Nat.le_refl _, Nat.le_refl _⟩ ?_
  refine z_if_eqB (tgt := 26) dX6_judge_15 (by decide) (fun h15 => ?_) (fun h15 => ?_)
  · refine z_ldc dX6_judge_26 kX6_132 ?_
    exact z_iret dX6_judge_28 ⟨Nat.le_refl _, Nat.le_refl _⟩ rfl ⟨rfl, rfl, rfl, _, ⟨by rw [aJudge, zif_f (by omega)], hIJ, fun p hp => hJ.2.1 p (by omega) (by omega)⟩, rfl⟩
  · obtain ⟨m, hm, rfl⟩ := nI_of3 (x := a) (n := 16384) (by omega) (by omega) (by omega)
    have hma : (nI m).toInt = (m : Int) := nI_T (by omega)
    refine z_aload_n dX6_judge_18 rfl ?_
    refine z_iload_n dX6_judge_19 rfl ?_
    refine z_callV1p dX6_judge_20 mX6_107 hM.o (m_costOf J L hM hvJ ho hJ.1 m (by omega)) (by decide) (Nat.le_of_ble_eq_true rfl) ⟨Nat.le_refl _, Nat.le_refl _⟩ ?_
    refine z_goto (tgt := 28) dX6_judge_23 (by decide) ?_
    exact z_iret dX6_judge_28 ⟨Nat.le_refl _, Nat.le_refl _⟩ rfl ⟨rfl, rfl, rfl, _, ⟨by rw [aJudge, zif_t (by omega), hma]; rfl, hIJ, fun p hp => hJ.2.1 p (by omega) (by omega)⟩, rfl⟩
