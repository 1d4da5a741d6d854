def zLA (I I2 : zMI) (v : Ly) : Prop := zPC I2 7 (pcs v.1) (lD v) (lST v) (lCL v) ∧ I2 0 4 = nI 0 ∧ (∀ k, k ≠ 4 → I2 0 k = I 0 k) ∧ ∀ p, p ≠ 0 → (p < 7 ∨ 15 < p) → I2 p = I p
def zLF (I I2 : zMI) (v : Ly) : Prop := zCLy I2 1 (lyZ v) ∧ zPC I2 7 (pcs v.1) (lD v) (lST v) (lCL v) ∧ I2 0 4 = nI 0 ∧ (∀ k, k ≠ 4 → I2 0 k = I 0 k) ∧ ∀ p, p ≠ 0 → 15 < p → I2 p = I p
theorem zCR_LF {I I2 : zMI} {v : Ly} {h : List Ly} {i0 i1 : Option Ly} (hr : zCR I h i0 i1) (hl : zLF I I2 v) : zCR I2 h i0 i1 := hr.frame (hl.2.2.2.1 11 (by decide)) (hl.2.2.2.1 12 (by decide)) (fun p hp => hl.2.2.2.2 p (by omega) (by omega))
theorem zCR_LA {I I2 : zMI} {v : Ly} {h : List Ly} {i0 i1 : Option Ly} (hr : zCR I h i0 i1) (hl : zLA I I2 v) : zCR I2 h i0 i1 := hr.frame (hl.2.2.1 11 (by decide)) (hl.2.2.1 12 (by decide)) (fun p hp => hl.2.2.2 p (by omega) (by omega))
theorem zCI_LF {I I2 : zMI} {v : Ly} {h : List Ly} {i0 i1 : Option Ly} (hr : zCR I h i0 i1) (ho : lyOk (lyZ v)) (hl : zLF I I2 v) : zCI I2 (lyZ v, h, i0, i1) := ⟨hl.1, ho, hl.2.1, Or.inl hl.2.2.1, zCR_LF hr hl⟩
theorem zCI_LA {I I2 : zMI} {v : Ly} {h : List Ly} {i0 i1 : Option Ly} (hr : zCR I h i0 i1) (ho : lyOk v) (hv : zCLy I 1 v) (hl : zLA I I2 v) : zCI I2 (v, h, i0, i1) := ⟨hv.frame (fun p p1 p2 => hl.2.2.2 p (by omega) (by omega)), ho, hl.1, Or.inl hl.2.1, zCR_LA hr hl⟩
/-- behind remember -/
theorem zCR_rem {I J : zMI} {h : List Ly} {v : Ly} {i0 i1 : Option Ly} {nx : Nat} (hr : zCR I h i0 i1) (hJ : zHi J 34 36 (hpush h v) nx ∧ ∀ p, p ≠ 34 → (p < 36 ∨ 36 + 47 < p) → J p = I p) : zCR J (hpush h v) i0 i1 := by
  obtain ⟨g1, g2, g3, g4, g5⟩ := hr
  have e0 : J 0 = I 0 := hJ.2 0 (by decide) (by omega)
  refine ⟨by rw [hJ.2 17 (by decide) (by omega)]; exact g1, by rw [hJ.2 33 (by decide) (by omega)]; exact g2, ⟨nx, hJ.1⟩, g4.frame (by rw [e0]) (fun p p1 p2 => hJ.2 p (by omega) (by omega)), g5.frame (by rw [e0]) (fun p p1 p2 => hJ.2 p (by omega) (by omega))⟩
theorem zCR_wr {I J : zMI} {h : List Ly} {v : Ly} {i0 i1 : Option Ly} (hr : zCR I h i0 i1) (hJ : zWr I J 1 v) : zCR J h i0 i1 := by
  have e0 : J 0 = I 0 := hJ.2 0 (by omega)
  exact hr.frame (by rw [e0]) (by rw [e0]) (fun p hp => hJ.2 p (by omega))
set_option maxRecDepth 100000 in
set_option maxHeartbeats 4000000 in
theorem c_layAnew {S : zS} {R : zMR} (I : zMI) (L : zML) {v : Ly} (hT : zTM S R) (hv : zCLy I 1 v) (ho : lyOk v) : zM0 yX5_layAnew cX5_layAnew 1 none 5 [.ref 0] S I L R (zPv L (fun I2 => zLA I I2 v)) := by
  refine zM0_of (own := RX5) (lv := [some (.ref 0)]) rfl (by decide) rfl rfl ?_
  refine z_aload_n dX5_layAnew_0 rfl ?_
  refine z_getr dX5_layAnew_1 fX5_19 hT.o hT.r1 ?_
  refine z_aload_n dX5_layAnew_4 rfl ?_
  refine z_getr dX5_layAnew_5 fX5_10 hT.o hT.r0 ?_
  refine z_callV1v dX5_layAnew_8 mX5_291 hT.q1.o (c_lay I L hT.q1 hT.q0 hv ho (by omega)) (by decide) (Nat.le_of_ble_eq_true rfl) ⟨Nat.le_refl _, Nat.le_refl _⟩ (fun J hJ => ?_)
  refine z_aload_n dX5_layAnew_11 rfl ?_
  refine z_iconst (nI 0) dX5_layAnew_12 (by decide) ?_
  refine z_putz dX5_layAnew_13 fX5_39 hT.o (by first | exact Or.inl rfl | exact Or.inr rfl | exact zb_01 _) ?_
  exact z_ret dX5_layAnew_16 ⟨Nat.le_refl _, Nat.le_refl _⟩ rfl ⟨rfl, rfl, rfl, ⟨hJ.1.frame (fun p p1 p2 => zu_ne (by omega)), zu_same, fun k hk => by rw [zu_nk (Or.inr hk), hJ.2 0 (by omega)], fun p p1 p2 => by rw [zu_ne p1]; exact hJ.2 p (by omega)⟩, rfl⟩
set_option maxRecDepth 100000 in
set_option maxHeartbeats 4000000 in
theorem c_layFree {S : zS} {R : zMR} (I : zMI) (L : zML) {v : Ly} (hT : zTM S R) (hv : zCLy I 1 v) (ho : lyOk (lyZ v)) : zM0 yX5_layFree cX5_layFree 1 none 6 [.ref 0] S I L R (zPv L (fun I2 => zLF I I2 v)) := by
  refine zM0_of (own := RX5) (lv := [some (.ref 0)]) rfl (by decide) rfl rfl ?_
  refine z_aload_n dX5_layFree_0 rfl ?_
  refine z_getr dX5_layFree_1 fX5_10 hT.o hT.r0 ?_
  refine z_callV0v dX5_layFree_4 mX5_288 hT.q0.o (c_freeAll I L hT.q0 hv) (by decide) (Nat.le_of_ble_eq_true rfl) ⟨Nat.le_refl _, Nat.le_refl _⟩ (fun J hJ => ?_)
  refine z_aload_n dX5_layFree_7 rfl ?_
  refine z_callV0v dX5_layFree_8 mX5_137 hT.o (c_layAnew J L hT hJ.1 ho) (by decide) (Nat.le_of_ble_eq_true rfl) ⟨Nat.le_refl _, Nat.le_refl _⟩ (fun K hK => ?_)
  exact z_ret dX5_layFree_11 ⟨Nat.le_refl _, Nat.le_refl _⟩ rfl ⟨rfl, rfl, rfl, ⟨hJ.1.frame (fun p p1 p2 => hK.2.2.2 p (by omega) (by omega)), hK.1, hK.2.1, fun k hk => by rw [hK.2.2.1 k hk, hJ.2 0 (by omega)], fun p p1 p2 => by rw [hK.2.2.2 p p1 (by omega)]; exact hJ.2 p (by omega)⟩, rfl⟩
set_option maxRecDepth 100000 in
set_option maxHeartbeats 4000000 in
theorem c_bestNow {S : zS} {R : zMR} (I : zMI) (L : zML) {s : St} (hT : zTM S R) (hI : zCI I s) : zM0 yX5_bestNow cX5_bestNow 1 (some (.object "TwoMasks$Best")) 21 [.ref 0] S I L R (zPr L (fun I2 => zCI I2 s ∧ I2 17 5 = nI (bst s.1).1 ∧ I2 17 6 = nI (bst s.1).2.1 ∧ I2 17 7 = nI (bst s.1).2.2.2 ∧ ∀ p, p ≠ 0 → p ≠ 17 → I2 p = I p) 17) := by
  refine zM0_of (own := RX5) (lv := [some (.ref 0)]) rfl (by decide) rfl rfl ?_
  obtain ⟨hv, ho, hP, hk, hr⟩ := id hI
  rcases hk with hk | ⟨hk, k1, k2, k3⟩
  · obtain ⟨u, hu1, hu2⟩ := id hr.1
    refine z_aload_n dX5_bestNow_0 rfl ?_
    refine z_getz dX5_bestNow_1 fX5_39 hT.o ?_
    refine z_top (hk) ?_
    refine z_if_neN (tgt := 33) dX5_bestNow_4 (by decide) (by omega) (fun h4 => absurd h4 (by decide)) (fun _ => ?_)
    refine z_aload_n dX5_bestNow_7 rfl ?_
    refine z_getr dX5_bestNow_8 fX5_35 hT.o hT.r3 ?_
    refine z_aload_n dX5_bestNow_11 rfl ?_
    refine z_getr dX5_bestNow_12 fX5_10 hT.o hT.r0 ?_
    refine z_geti dX5_bestNow_15 fX5_208 hT.q0.o ?_
    refine z_top (hv.2.2.2.2.2.1) ?_
    refine z_aload_n dX5_bestNow_18 rfl ?_
    refine z_getr dX5_bestNow_19 fX5_10 hT.o hT.r0 ?_
    refine z_geti dX5_bestNow_22 fX5_294 hT.q0.o ?_
    refine z_top (hv.2.2.2.2.2.2) ?_
    refine z_callV2v dX5_bestNow_25 mX5_297 hT.q3.o (c_find I L hT.q3 (pcs_ok ho) ho.2.2.2.2.2.2.1 ho.2.2.2.2.2.2.2.1 ho.2.2.2.2.2.2.2.2.1 (by omega) hP hu2 hu1) (by decide) (Nat.le_of_ble_eq_true rfl) ⟨Nat.le_refl _, Nat.le_refl _⟩ (fun J hJ => ?_)
    refine z_aload_n dX5_bestNow_28 rfl ?_
    refine z_iconst (nI 1) dX5_bestNow_29 (by decide) ?_
    refine z_putz dX5_bestNow_30 fX5_39 hT.o (by first | exact Or.inl rfl | exact Or.inr rfl | exact zb_01 _) ?_
    have hb := srU_bst ho u
    have z5 : zu J 0 4 (nI 1) 17 5 = nI (bst s.1).1 := by rw [zu_nk (Or.inl (by omega)), hJ.1.2.2.2.1, ← hb.1]; rfl
    have z6 : zu J 0 4 (nI 1) 17 6 = nI (bst s.1).2.1 := by rw [zu_nk (Or.inl (by omega)), hJ.1.2.2.2.2.1, ← hb.2.1]; rfl
    have z7 : zu J 0 4 (nI 1) 17 7 = nI (bst s.1).2.2.2 := by rw [zu_nk (Or.inl (by omega)), hJ.1.2.2.2.2.2.2, ← hb.2.2]; rfl
    have hr2 : zCR (zu J 0 4 (nI 1)) s.2.1 s.2.2.1 s.2.2.2 := by
      obtain ⟨g1, g2, ⟨nx, g3⟩, g4, g5⟩ := hr
      have hf : ∀ p, p ≠ 0 → p ≠ 17 → zu J 0 4 (nI 1) p = I p := fun p p1 p2 => by rw [zu_ne p1]; exact hJ.2 p p2
      have h0 : ∀ k, k ≠ 4 → zu J 0 4 (nI 1) 0 k = I 0 k := fun k hk => by rw [zu_nk (Or.inr hk), hJ.2 0 (by decide)]
      refine ⟨⟨_, srU_u ho hu1, ?_⟩, ?_, ⟨nx, g3.frame (hf 34 (by decide) (by decide)) (fun p hp => hf p (by omega) (by omega))⟩, g4.frame (h0 11 (by decide)) (fun p p1 p2 => hf p (by omega) (by omega)), g5.frame (h0 12 (by decide)) (fun p p1 p2 => hf p (by omega) (by omega))⟩
      · rw [zu_nk (Or.inl (by omega)), hJ.1.2.2.2.2.2.1]; rfl
      · rw [hf 33 (by decide) (by decide)]; exact g2
    refine z_aload_n dX5_bestNow_33 rfl ?_
    refine z_getr dX5_bestNow_34 fX5_35 hT.o hT.r3 ?_
    exact z_aret dX5_bestNow_37 ⟨Nat.le_refl _, Nat.le_refl _⟩ trivial ⟨rfl, rfl, rfl, ⟨⟨hv.frame (fun p p1 p2 => by rw [zu_ne (by omega)]; exact hJ.2 p (by omega)), ho, hP.frame (fun p p1 p2 => by rw [zu_ne (by omega)]; exact hJ.2 p (by omega)), Or.inr ⟨zu_same, z5, z6, z7⟩, hr2⟩, z5, z6, z7, fun p p1 p2 => by rw [zu_ne p1]; exact hJ.2 p p2⟩, rfl⟩
  · refine z_aload_n dX5_bestNow_0 rfl ?_
    refine z_getz dX5_bestNow_1 fX5_39 hT.o ?_
    refine z_top (hk) ?_
    refine z_if_neN (tgt := 33) dX5_bestNow_4 (by decide) (by omega) (fun _ => ?_) (fun h4 => absurd h4 (by decide))
    refine z_aload_n dX5_bestNow_33 rfl ?_
    refine z_getr dX5_bestNow_34 fX5_35 hT.o hT.r3 ?_
    exact z_aret dX5_bestNow_37 ⟨Nat.le_refl _, Nat.le_refl _⟩ trivial ⟨rfl, rfl, rfl, ⟨hI, k1, k2, k3, fun p _ _ => rfl⟩, rfl⟩
noncomputable def tB (v : Ly) (w : Int) : Int32 :=
  zif (w = 5) (nI (bst v).1) (zif (w = 6) (nI (stitches (pcs v.1) (bst v).2.2.2)) (zif (w = 7) (nI (clashes (pcs v.1) (lD v) (bst v).2.2.2)) (zif (w = 8) (nI (areaM (pcs v.1) (andn (2 ^ (pcs v.1).length - 1) (bst v).2.2.2))) (zif (w = 9) (nI (areaM (pcs v.1) (bst v).2.2.2)) (zif (w = 10) (nI (bst v).2.1) (nI (bst v).2.2.2))))))
set_option maxRecDepth 100000 in
set_option maxHeartbeats 4000000 in
theorem c_toldOfBest {S : zS} {R : zMR} (I : zMI) (L : zML) {s : St} (hT : zTM S R) (hI : zCI I s) (w : Int32) : zM0 yX5_toldOfBest cX5_toldOfBest 3 (some .int) 22 [.ref 0, .int w] S I L R (zPi L (fun I2 r => r = tB s.1 w.toInt ∧ zCI I2 s ∧ ∀ p, p ≠ 0 → p ≠ 17 → I2 p = I p)) := by
  refine zM0_of (own := RX5) (lv := [some (.ref 0), some (.int w), none]) rfl (by decide) rfl rfl ?_
  have hps := pcs_ok hI.2.1
  have hm : (bst s.1).2.2.2 < 2147483648 := by have := (bst_m hI.2.1).2; omega
  refine z_aload_n dX5_toldOfBest_0 rfl ?_
  refine z_callV0r dX5_toldOfBest_1 mX5_150 hT.o (c_bestNow I L hT hI) (by decide) (Nat.le_of_ble_eq_true rfl) ⟨Nat.le_refl _, Nat.le_refl _⟩ (fun J hJ => ?_)
  refine z_geti dX5_toldOfBest_4 fX5_248 hT.q3.o ?_
  refine z_top (hJ.2.2.2.1) ?_
  refine z_ist2 dX5_toldOfBest_7 rfl ?_
  refine z_iload_n dX5_toldOfBest_8 rfl ?_
  rcases (show (w.toInt < 5 ∨ 10 < w.toInt) ∨ w.toInt = 5 ∨ w.toInt = 6 ∨ w.toInt = 7 ∨ w.toInt = 8 ∨ w.toInt = 9 ∨ w.toInt = 10 from by omega) with hq | hq | hq | hq | hq | hq | hq
  · refine z_tOut (tgt := 110) dX5_toldOfBest_9 hq (by decide) ?_
    refine z_iload_n dX5_toldOfBest_110 rfl ?_
    exact z_iret dX5_toldOfBest_111 ⟨Nat.le_refl _, Nat.le_refl _⟩ rfl ⟨rfl, rfl, rfl, _, ⟨by unfold tB; rw [zif_f (by omega), zif_f (by omega), zif_f (by omega), zif_f (by omega), zif_f (by omega), zif_f (by omega)], hJ.1, hJ.2.2.2.2⟩, rfl⟩
  · refine z_tIn (tgt := 48) dX5_toldOfBest_9 (by omega) (by omega) (by rw [hq]; rfl) (by decide) ?_
    refine z_aload_n dX5_toldOfBest_48 rfl ?_
    refine z_getr dX5_toldOfBest_49 fX5_35 hT.o hT.r3 ?_
    refine z_geti dX5_toldOfBest_52 fX5_154 hT.q3.o ?_
    exact z_iret dX5_toldOfBest_55 ⟨Nat.le_refl _, Nat.le_refl _⟩ rfl ⟨rfl, rfl, rfl, _, ⟨hJ.2.1.trans (by unfold tB; rw [zif_t (by omega)]), hJ.1, hJ.2.2.2.2⟩, rfl⟩
  · refine z_tIn (tgt := 56) dX5_toldOfBest_9 (by omega) (by omega) (by rw [hq]; rfl) (by decide) ?_
    refine z_aload_n dX5_toldOfBest_56 rfl ?_
    refine z_getr dX5_toldOfBest_57 fX5_19 hT.o hT.r1 ?_
    refine z_iload_n dX5_toldOfBest_60 rfl ?_
    refine z_callV1p dX5_toldOfBest_61 mX5_300 hT.q1.o (c_stitchesOf J L hT.q1 hJ.1.2.2.1 hps _ hm) (by decide) (Nat.le_of_ble_eq_true rfl) ⟨Nat.le_refl _, Nat.le_refl _⟩ ?_
    exact z_iret dX5_toldOfBest_64 ⟨Nat.le_refl _, Nat.le_refl _⟩ rfl ⟨rfl, rfl, rfl, _, ⟨by unfold tB; rw [zif_f (by omega), zif_t (by omega)], hJ.1, hJ.2.2.2.2⟩, rfl⟩
  · refine z_tIn (tgt := 65) dX5_toldOfBest_9 (by omega) (by omega) (by rw [hq]; rfl) (by decide) ?_
    refine z_aload_n dX5_toldOfBest_65 rfl ?_
    refine z_getr dX5_toldOfBest_66 fX5_19 hT.o hT.r1 ?_
    refine z_iload_n dX5_toldOfBest_69 rfl ?_
    refine z_callV1p dX5_toldOfBest_70 mX5_303 hT.q1.o (c_clashesOf J L hT.q1 hJ.1.2.2.1 hps _ hm) (by decide) (Nat.le_of_ble_eq_true rfl) ⟨Nat.le_refl _, Nat.le_refl _⟩ ?_
    exact z_iret dX5_toldOfBest_73 ⟨Nat.le_refl _, Nat.le_refl _⟩ rfl ⟨rfl, rfl, rfl, _, ⟨by unfold tB; rw [zif_f (by omega), zif_f (by omega), zif_t (by omega)], hJ.1, hJ.2.2.2.2⟩, rfl⟩
  · refine z_tIn (tgt := 74) dX5_toldOfBest_9 (by omega) (by omega) (by rw [hq]; rfl) (by decide) ?_
    refine z_aload_n dX5_toldOfBest_74 rfl ?_
    refine z_getr dX5_toldOfBest_75 fX5_19 hT.o hT.r1 ?_
    refine z_aload_n dX5_toldOfBest_78 rfl ?_
    refine z_getr dX5_toldOfBest_79 fX5_19 hT.o hT.r1 ?_
    refine z_callV0p dX5_toldOfBest_82 mX5_269 hT.q1.o (c_all J L hT.q1 hJ.1.2.2.1.1 hps) (by decide) (Nat.le_of_ble_eq_true rfl) ⟨Nat.le_refl _, Nat.le_refl _⟩ ?_
    refine z_iload_n dX5_toldOfBest_85 rfl ?_
    refine z_iconst (-1) dX5_toldOfBest_86 (by decide) ?_
    refine z_ixor dX5_toldOfBest_87 ?_
    refine z_iand dX5_toldOfBest_88 (z_top (nI_andn _ _) ?_)
    refine z_callV1p dX5_toldOfBest_89 mX5_306 hT.q1.o (c_pcArea J L hT.q1 hJ.1.2.2.1 hps _ (by have := andn_le (2 ^ (pcs s.1.1).length - 1) (bst s.1).2.2.2; have := all_lt hps.1; omega)) (by decide) (Nat.le_of_ble_eq_true rfl) ⟨Nat.le_refl _, Nat.le_refl _⟩ ?_
    exact z_iret dX5_toldOfBest_92 ⟨Nat.le_refl _, Nat.le_refl _⟩ rfl ⟨rfl, rfl, rfl, _, ⟨by unfold tB; rw [zif_f (by omega), zif_f (by omega), zif_f (by omega), zif_t (by omega)], hJ.1, hJ.2.2.2.2⟩, rfl⟩
  · refine z_tIn (tgt := 93) dX5_toldOfBest_9 (by omega) (by omega) (by rw [hq]; rfl) (by decide) ?_
    refine z_aload_n dX5_toldOfBest_93 rfl ?_
    refine z_getr dX5_toldOfBest_94 fX5_19 hT.o hT.r1 ?_
    refine z_iload_n dX5_toldOfBest_97 rfl ?_
    refine z_callV1p dX5_toldOfBest_98 mX5_306 hT.q1.o (c_pcArea J L hT.q1 hJ.1.2.2.1 hps _ hm) (by decide) (Nat.le_of_ble_eq_true rfl) ⟨Nat.le_refl _, Nat.le_refl _⟩ ?_
    exact z_iret dX5_toldOfBest_101 ⟨Nat.le_refl _, Nat.le_refl _⟩ rfl ⟨rfl, rfl, rfl, _, ⟨by unfold tB; rw [zif_f (by omega), zif_f (by omega), zif_f (by omega), zif_f (by omega), zif_t (by omega)], hJ.1, hJ.2.2.2.2⟩, rfl⟩
  · refine z_tIn (tgt := 102) dX5_toldOfBest_9 (by omega) (by omega) (by rw [hq]; rfl) (by decide) ?_
    refine z_aload_n dX5_toldOfBest_102 rfl ?_
    refine z_getr dX5_toldOfBest_103 fX5_35 hT.o hT.r3 ?_
    refine z_geti dX5_toldOfBest_106 fX5_307 hT.q3.o ?_
    exact z_iret dX5_toldOfBest_109 ⟨Nat.le_refl _, Nat.le_refl _⟩ rfl ⟨rfl, rfl, rfl, _, ⟨hJ.2.2.1.trans (by unfold tB; rw [zif_f (by omega), zif_f (by omega), zif_f (by omega), zif_f (by omega), zif_f (by omega), zif_t (by omega)]), hJ.1, hJ.2.2.2.2⟩, rfl⟩
