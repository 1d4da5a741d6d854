set_option maxRecDepth 100000 in
set_option maxHeartbeats 4000000 in
theorem c_remember {S : zS} {R : zMR} (I : zMI) (L : zML) {b rb lb nx o : Nat} {h : List Ly} {v : Ly} (hb : zHis S R b rb lb) (hob : zLay S R o) (hd : b < lb ∨ lb + 47 < b) (hh : zHi I b lb h nx) (hw : zCLy I o v) (ho : lyOk v) (hdo : o + 5 < lb ∨ lb + 47 < o) : zM0 yX1_remember cX1_remember 2 none 2 [.ref b, .ref o] S I L R (zPv L (fun I2 => zHi I2 b lb (hpush h v) ((nx + 1) % 8) ∧ ∀ p, p ≠ b → (p < lb ∨ lb + 47 < p) → I2 p = I p)) := by
  refine zM0_of (own := RX1) (lv := [some (.ref b), some (.ref o)]) rfl (by decide) rfl rfl ?_
  have h0 := hh.1
  have h3 := hh.2.2.2.1
  refine z_aload_n dX1_remember_0 rfl ?_
  refine z_getr dX1_remember_1 fX1_11 hb.o hb.r0 ?_
  refine z_aload_n dX1_remember_4 rfl ?_
  refine z_geti dX1_remember_5 fX1_17 hb.o ?_
  refine z_top (hh.2.1) ?_
  refine z_aaN dX1_remember_8 hb.ra (by omega) (by decide) (hb.rr nx hh.1) ?_
  refine z_aload_n dX1_remember_9 rfl ?_
  refine z_callV1v dX1_remember_10 mX1_25 (hb.ly nx hh.1).o (c_become I L (hb.ly nx hh.1) hob hw ho.1 (by omega)) (by decide) (Nat.le_of_ble_eq_true rfl) ⟨Nat.le_refl _, Nat.le_refl _⟩ (fun J hJ => ?_)
  refine z_aload_n dX1_remember_13 rfl ?_
  refine z_aload_n dX1_remember_14 rfl ?_
  refine z_geti dX1_remember_15 fX1_17 hb.o ?_
  refine z_top ((show _ = nI nx from by rw [hJ.2 b (by omega)]; exact hh.2.1)) ?_
  refine z_iconst (nI 1) dX1_remember_18 (by decide) ?_
  refine z_iaddN dX1_remember_19 ?_
  refine z_bipush (nI 8) dX1_remember_20 (by decide) ?_
  refine z_icmp_geNN (tgt := 34) dX1_remember_22 (by decide) (by omega) (by omega) (fun h22 => ?_) (fun h22 => ?_)
  · refine z_iconst (nI 0) dX1_remember_34 (by decide) ?_
    refine z_puti dX1_remember_35 fX1_17 hb.o ?_
    refine z_aload_n dX1_remember_38 rfl ?_
    refine z_bipush (nI 8) dX1_remember_39 (by decide) ?_
    refine z_aload_n dX1_remember_41 rfl ?_
    refine z_geti dX1_remember_42 fX1_21 hb.o ?_
    refine z_top ((show _ = nI h.length from by rw [zu_nk (Or.inr (by omega)), hJ.2 b (by omega)]; exact hh.2.2.1)) ?_
    refine z_iconst (nI 1) dX1_remember_45 (by decide) ?_
    refine z_iaddN dX1_remember_46 ?_
    refine z_mmin dX1_remember_47 mX1_29_l zMath_s_min zMath_i zMath_c_min (by decide) (Nat.le_of_ble_eq_true rfl) ⟨Nat.le_refl _, Nat.le_refl _⟩ ?_
    refine z_top (nmin_eq (by omega) (by omega)) ?_
    refine z_puti dX1_remember_50 fX1_21 hb.o ?_
    exact z_ret dX1_remember_53 ⟨Nat.le_refl _, Nat.le_refl _⟩ rfl ⟨rfl, rfl, rfl, ⟨zHi_push hh ho hJ hd (by congr 1; omega) rfl, fun p p1 p2 => by rw [zu_ne p1, zu_ne p1]; exact hJ.2 p (by omega)⟩, rfl⟩
  · refine z_aload_n dX1_remember_25 rfl ?_
    refine z_geti dX1_remember_26 fX1_17 hb.o ?_
    refine z_top ((show _ = nI nx from by rw [hJ.2 b (by omega)]; exact hh.2.1)) ?_
    refine z_iconst (nI 1) dX1_remember_29 (by decide) ?_
    refine z_iaddN dX1_remember_30 ?_
    refine z_goto (tgt := 35) dX1_remember_31 (by decide) ?_
    refine z_puti dX1_remember_35 fX1_17 hb.o ?_
    refine z_aload_n dX1_remember_38 rfl ?_
    refine z_bipush (nI 8) dX1_remember_39 (by decide) ?_
    refine z_aload_n dX1_remember_41 rfl ?_
    refine z_geti dX1_remember_42 fX1_21 hb.o ?_
    refine z_top ((show _ = nI h.length from by rw [zu_nk (Or.inr (by omega)), hJ.2 b (by omega)]; exact hh.2.2.1)) ?_
    refine z_iconst (nI 1) dX1_remember_45 (by decide) ?_
    refine z_iaddN dX1_remember_46 ?_
    refine z_mmin dX1_remember_47 mX1_29_l zMath_s_min zMath_i zMath_c_min (by decide) (Nat.le_of_ble_eq_true rfl) ⟨Nat.le_refl _, Nat.le_refl _⟩ ?_
    refine z_top (nmin_eq (by omega) (by omega)) ?_
    refine z_puti dX1_remember_50 fX1_21 hb.o ?_
    exact z_ret dX1_remember_53 ⟨Nat.le_refl _, Nat.le_refl _⟩ rfl ⟨rfl, rfl, rfl, ⟨zHi_push hh ho hJ hd (by congr 1; omega) rfl, fun p p1 p2 => by rw [zu_ne p1, zu_ne p1]; exact hJ.2 p (by omega)⟩, rfl⟩
set_option maxRecDepth 100000 in
set_option maxHeartbeats 4000000 in
theorem c_recall {S : zS} {R : zMR} (I : zMI) (L : zML) {b rb lb nx o : Nat} {h : List Ly} {v : Ly} (hb : zHis S R b rb lb) (hob : zLay S R o) (hd : b < lb ∨ lb + 47 < b) (hh : zHi I b lb (h ++ [v]) nx) (hdo : o + 5 < lb ∨ lb + 47 < o) (hbo : b < o ∨ o + 5 < b) : zM0 yX1_recall cX1_recall 2 none 2 [.ref b, .ref o] S I L R (zPv L (fun I2 => zCLy I2 o v ∧ zHi I2 b lb h ((nx + 7) % 8) ∧ ∀ p, p ≠ b → (p < o ∨ o + 5 < p) → I2 p = I p)) := by
  refine zM0_of (own := RX1) (lv := [some (.ref b), some (.ref o)]) rfl (by decide) rfl rfl ?_
  have h0 := hh.1
  have h3 : h.length + 1 ≤ 8 := by have := hh.2.2.2.1; rw [List.length_append] at this; exact this
  have hz := (zHi_last hh).2
  refine z_aload_n dX1_recall_0 rfl ?_
  refine z_geti dX1_recall_1 fX1_21 hb.o ?_
  refine z_top ((show _ = nI (h.length + 1) from by rw [hh.2.2.1, List.length_append]; rfl)) ?_
  refine z_if_neN (tgt := 8) dX1_recall_4 (by decide) (by omega) (fun h4 => ?_) (fun h4 => absurd h4 (by omega))
  refine z_aload_n dX1_recall_8 rfl ?_
  refine z_aload_n dX1_recall_9 rfl ?_
  refine z_geti dX1_recall_10 fX1_17 hb.o ?_
  refine z_top (hh.2.1) ?_
  refine z_if_leN (tgt := 25) dX1_recall_13 (by decide) (by omega) (fun h13 => ?_) (fun h13 => ?_)
  · refine z_bipush (nI 7) dX1_recall_25 (by decide) ?_
    refine z_top ((show nI 7 = nI ((nx + 7) % 8) from by congr 1; omega)) ?_
    refine z_puti dX1_recall_27 fX1_17 hb.o ?_
    refine z_aload_n dX1_recall_30 rfl ?_
    refine z_aload_n dX1_recall_31 rfl ?_
    refine z_getr dX1_recall_32 fX1_11 hb.o hb.r0 ?_
    refine z_aload_n dX1_recall_35 rfl ?_
    refine z_geti dX1_recall_36 fX1_17 hb.o ?_
    refine z_top (zu_same) ?_
    refine z_aaN dX1_recall_39 hb.ra (by omega) (by decide) (hb.rr _ (by omega)) ?_
    refine z_callV1v dX1_recall_40 mX1_25 hob.o (c_become (zu I b 1 (nI ((nx + 7) % 8))) L hob (hb.ly ((nx + 7) % 8) (by omega)) ((zHi_last hh).1.frame (fun p p1 p2 => zu_ne (by omega))) hz.1 (by omega)) (by decide) (Nat.le_of_ble_eq_true rfl) ⟨Nat.le_refl _, Nat.le_refl _⟩ (fun J hJ => ?_)
    refine z_aload_n dX1_recall_43 rfl ?_
    refine z_dup dX1_recall_44 rfl ?_
    refine z_geti dX1_recall_45 fX1_21 hb.o ?_
    refine z_top ((show _ = nI (h.length + 1) from by rw [hJ.2 b (by omega), zu_nk (Or.inr (by omega)), hh.2.2.1, List.length_append]; rfl)) ?_
    refine z_iconst (nI 1) dX1_recall_48 (by decide) ?_
    refine z_isubN dX1_recall_49 (by omega) ?_
    refine z_top ((show _ = nI h.length from rfl)) ?_
    refine z_puti dX1_recall_50 fX1_21 hb.o ?_
    exact z_ret dX1_recall_53 ⟨Nat.le_refl _, Nat.le_refl _⟩ rfl ⟨rfl, rfl, rfl, ⟨hJ.1.frame (fun p p1 p2 => zu_ne (by omega)), zHi_pop hh (fun p hp => by rw [zu_ne (by omega), hJ.2 p (by omega), zu_ne (by omega)]) hd (by rw [zu_nk (Or.inr (by omega)), hJ.2 b (by omega), zu_same]) zu_same, fun p p1 p2 => by rw [zu_ne p1, hJ.2 p p2, zu_ne p1]⟩, rfl⟩
  · refine z_aload_n dX1_recall_16 rfl ?_
    refine z_geti dX1_recall_17 fX1_17 hb.o ?_
    refine z_top (hh.2.1) ?_
    refine z_iconst (nI 1) dX1_recall_20 (by decide) ?_
    refine z_isubN dX1_recall_21 (by omega) ?_
    refine z_top ((show nI (nx - 1) = nI ((nx + 7) % 8) from by congr 1; omega)) ?_
    refine z_goto (tgt := 27) dX1_recall_22 (by decide) ?_
    refine z_puti dX1_recall_27 fX1_17 hb.o ?_
    refine z_aload_n dX1_recall_30 rfl ?_
    refine z_aload_n dX1_recall_31 rfl ?_
    refine z_getr dX1_recall_32 fX1_11 hb.o hb.r0 ?_
    refine z_aload_n dX1_recall_35 rfl ?_
    refine z_geti dX1_recall_36 fX1_17 hb.o ?_
    refine z_top (zu_same) ?_
    refine z_aaN dX1_recall_39 hb.ra (by omega) (by decide) (hb.rr _ (by omega)) ?_
    refine z_callV1v dX1_recall_40 mX1_25 hob.o (c_become (zu I b 1 (nI ((nx + 7) % 8))) L hob (hb.ly ((nx + 7) % 8) (by omega)) ((zHi_last hh).1.frame (fun p p1 p2 => zu_ne (by omega))) hz.1 (by omega)) (by decide) (Nat.le_of_ble_eq_true rfl) ⟨Nat.le_refl _, Nat.le_refl _⟩ (fun J hJ => ?_)
    refine z_aload_n dX1_recall_43 rfl ?_
    refine z_dup dX1_recall_44 rfl ?_
    refine z_geti dX1_recall_45 fX1_21 hb.o ?_
    refine z_top ((show _ = nI (h.length + 1) from by rw [hJ.2 b (by omega), zu_nk (Or.inr (by omega)), hh.2.2.1, List.length_append]; rfl)) ?_
    refine z_iconst (nI 1) dX1_recall_48 (by decide) ?_
    refine z_isubN dX1_recall_49 (by omega) ?_
    refine z_top ((show _ = nI h.length from rfl)) ?_
    refine z_puti dX1_recall_50 fX1_21 hb.o ?_
    exact z_ret dX1_recall_53 ⟨Nat.le_refl _, Nat.le_refl _⟩ rfl ⟨rfl, rfl, rfl, ⟨hJ.1.frame (fun p p1 p2 => zu_ne (by omega)), zHi_pop hh (fun p hp => by rw [zu_ne (by omega), hJ.2 p (by omega), zu_ne (by omega)]) hd (by rw [zu_nk (Or.inr (by omega)), hJ.2 b (by omega), zu_same]) zu_same, fun p p1 p2 => by rw [zu_ne p1, hJ.2 p p2, zu_ne p1]⟩, rfl⟩
set_option maxRecDepth 100000 in
set_option maxHeartbeats 4000000 in
theorem c_forget {S : zS} {R : zMR} (I : zMI) (L : zML) {b rb lb nx : Nat} {h : List Ly} (hb : zHis S R b rb lb) (hh : zHi I b lb h nx) : zM0 yX1_forget cX1_forget 1 none 1 [.ref b] S I L R (zPv L (fun I2 => zHi I2 b lb [] nx ∧ ∀ p, p ≠ b → I2 p = I p)) := by
  refine zM0_of (own := RX1) (lv := [some (.ref b)]) rfl (by decide) rfl rfl ?_
  refine z_aload_n dX1_forget_0 rfl ?_
  refine z_iconst (nI 0) dX1_forget_1 (by decide) ?_
  refine z_puti dX1_forget_2 fX1_21 hb.o ?_
  exact z_ret dX1_forget_5 ⟨Nat.le_refl _, Nat.le_refl _⟩ rfl ⟨rfl, rfl, rfl, ⟨zHi_nil hh (zu_nk (Or.inr (by omega))) zu_same, fun p p1 => zu_ne p1⟩, rfl⟩
