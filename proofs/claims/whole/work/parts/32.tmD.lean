set_option maxRecDepth 100000 in
set_option maxHeartbeats 4000000 in
theorem t_goBack {S : zS} {R : zMR} (I : zMI) (L : zML) {s : St} (hT : zTM S R) (hI : zCI I s) (i : Int32) : zM0 yX5_goBack cX5_goBack 2 (some .int) 6 [.ref 0, .int i] S I L R (zPi L (fun I2 r => r = (oGoBack s i.toInt).1 ∧ zCI I2 (oGoBack s i.toInt).2 ∧ ∀ p, 96 ≤ p → I2 p = I p)) := by
  obtain ⟨hv, ho, hP, hk, hr⟩ := id hI
  obtain ⟨nx, hh⟩ := id hr.2.2.1
  have hl := ho.1
  have hnp := ho.2.2.1
  by_cases h0 : i = nI 0
  · subst h0
    rcases id hr.2.2.2.1 with ⟨z0, z1⟩ | ⟨w, z0, z1, z2, z3⟩
    · refine zM0_of (own := RX5) (lv := [some (.ref 0), some (.int (nI 0))]) rfl (by decide) rfl rfl ?_
      refine z_iload_n dX5_goBack_0 rfl ?_
      refine z_if_eqN (tgt := 12) dX5_goBack_1 (by decide) (by omega) (fun _ => ?_) (fun h1 => absurd h1 (by decide))
      refine z_iload_n dX5_goBack_12 rfl ?_
      refine z_if_neN (tgt := 26) dX5_goBack_13 (by decide) (by omega) (fun h13 => absurd h13 (by decide)) (fun _ => ?_)
      refine z_aload_n dX5_goBack_16 rfl ?_
      refine z_getz dX5_goBack_17 fX5_65 hT.o ?_
      refine z_top (z1) ?_
      refine z_if_neN (tgt := 36) dX5_goBack_20 (by decide) (by omega) (fun h20 => absurd h20 (by decide)) (fun _ => ?_)
      refine z_goto (tgt := 33) dX5_goBack_23 (by decide) ?_
      refine z_ldc dX5_goBack_33 kX5_146 ?_
      exact z_iret dX5_goBack_35 ⟨Nat.le_refl _, Nat.le_refl _⟩ rfl ⟨rfl, rfl, rfl, _, ⟨by rw [oGoBack, pif_t (by decide), z0]; rfl, by rw [oGoBack, pif_t (by decide), z0]; exact hI, fun p _ => rfl⟩, rfl⟩
    · refine zM0_of (own := RX5) (lv := [some (.ref 0), some (.int (nI 0))]) rfl (by decide) rfl rfl ?_
      refine z_iload_n dX5_goBack_0 rfl ?_
      refine z_if_eqN (tgt := 12) dX5_goBack_1 (by decide) (by omega) (fun _ => ?_) (fun h1 => absurd h1 (by decide))
      refine z_iload_n dX5_goBack_12 rfl ?_
      refine z_if_neN (tgt := 26) dX5_goBack_13 (by decide) (by omega) (fun h13 => absurd h13 (by decide)) (fun _ => ?_)
      refine z_aload_n dX5_goBack_16 rfl ?_
      refine z_getz dX5_goBack_17 fX5_65 hT.o ?_
      refine z_top (z1) ?_
      refine z_if_neN (tgt := 36) dX5_goBack_20 (by decide) (by omega) (fun _ => ?_) (fun h20 => absurd h20 (by decide))
      refine z_aload_n dX5_goBack_36 rfl ?_
      refine z_getr dX5_goBack_37 fX5_10 hT.o hT.r0 ?_
      refine z_iload_n dX5_goBack_40 rfl ?_
      refine z_if_neN (tgt := 51) dX5_goBack_41 (by decide) (by omega) (fun h41 => absurd h41 (by decide)) (fun _ => ?_)
      refine z_aload_n dX5_goBack_44 rfl ?_
      refine z_getr dX5_goBack_45 fX5_59 hT.o hT.r9 ?_
      refine z_goto (tgt := 55) dX5_goBack_48 (by decide) ?_
      refine z_callV1v dX5_goBack_55 mX5_276 hT.q0.o (c_become I L hT.q0 hT.q9 z2 z3.1 (by omega)) (by decide) (Nat.le_of_ble_eq_true rfl) ⟨Nat.le_refl _, Nat.le_refl _⟩ (fun J1 h1 => ?_)
      refine z_aload_n dX5_goBack_58 rfl ?_
      refine z_getr dX5_goBack_59 fX5_55 hT.o hT.r8 ?_
      refine z_callV0v dX5_goBack_62 mX5_285 hT.q8.o (c_forget J1 L hT.q8 (hh.frame (h1.2 34 (by omega)) (fun p hp => h1.2 p (by omega)))) (by decide) (Nat.le_of_ble_eq_true rfl) ⟨Nat.le_refl _, Nat.le_refl _⟩ (fun J2 h2 => ?_)
      have hv2 : zCLy J2 1 w := h1.1.frame (fun p p1 p2 => h2.2 p (by omega))
      have hr2 : zCR J2 [] s.2.2.1 s.2.2.2 := by
        obtain ⟨g1, g2, g3, g4, g5⟩ := hr
        have hf : ∀ p, p ≠ 34 → (p < 1 ∨ 1 + 5 < p) → J2 p = I p := fun p p1 p2 => by rw [h2.2 p p1]; exact h1.2 p p2
        exact ⟨by rw [hf 17 (by decide) (by omega)]; exact g1, by rw [hf 33 (by decide) (by omega)]; exact g2, ⟨nx, h2.1⟩, g4.frame (by rw [hf 0 (by decide) (by omega)]) (fun p p1 p2 => hf p (by omega) (by omega)), g5.frame (by rw [hf 0 (by decide) (by omega)]) (fun p p1 p2 => hf p (by omega) (by omega))⟩
      refine z_aload_n dX5_goBack_65 rfl ?_
      refine z_callV0v dX5_goBack_66 mX5_137 hT.o (c_layAnew J2 L hT hv2 z3) (by decide) (Nat.le_of_ble_eq_true rfl) ⟨Nat.le_refl _, Nat.le_refl _⟩ (fun J3 h3 => ?_)
      refine z_aload_n dX5_goBack_69 rfl ?_
      refine z_getr dX5_goBack_70 fX5_10 hT.o hT.r0 ?_
      refine z_geti dX5_goBack_73 fX5_86 hT.q0.o ?_
      refine z_top ((show _ = nI w.1.length from by rw [h3.2.2.2 1 (by decide) (by omega), h2.2 1 (by decide)]; exact h1.1.1)) ?_
      exact z_iret dX5_goBack_76 ⟨Nat.le_refl _, Nat.le_refl _⟩ rfl ⟨rfl, rfl, rfl, _, ⟨by rw [oGoBack, pif_t (by decide), z0]; rfl, by rw [oGoBack, pif_t (by decide), z0]; exact zCI_LA hr2 z3 hv2 h3, fun p hp => by rw [h3.2.2.2 p (by omega) (by omega), h2.2 p (by omega), h1.2 p (by omega)]⟩, rfl⟩
  · by_cases h9 : i = nI 1
    · subst h9
      rcases id hr.2.2.2.2 with ⟨z0, z1⟩ | ⟨w, z0, z1, z2, z3⟩
      · refine zM0_of (own := RX5) (lv := [some (.ref 0), some (.int (nI 1))]) rfl (by decide) rfl rfl ?_
        refine z_iload_n dX5_goBack_0 rfl ?_
        refine z_if_eqN (tgt := 12) dX5_goBack_1 (by decide) (by omega) (fun h1 => absurd h1 (by decide)) (fun _ => ?_)
        refine z_iload_n dX5_goBack_4 rfl ?_
        refine z_iconst (nI 1) dX5_goBack_5 (by decide) ?_
        refine z_icmp_eq (tgt := 12) dX5_goBack_6 (by decide) (fun _ => ?_) (fun h6 => absurd rfl h6)
        refine z_iload_n dX5_goBack_12 rfl ?_
        refine z_if_neN (tgt := 26) dX5_goBack_13 (by decide) (by omega) (fun _ => ?_) (fun h13 => absurd h13 (by decide))
        refine z_aload_n dX5_goBack_26 rfl ?_
        refine z_getz dX5_goBack_27 fX5_68 hT.o ?_
        refine z_top (z1) ?_
        refine z_if_neN (tgt := 36) dX5_goBack_30 (by decide) (by omega) (fun h30 => absurd h30 (by decide)) (fun _ => ?_)
        refine z_ldc dX5_goBack_33 kX5_146 ?_
        exact z_iret dX5_goBack_35 ⟨Nat.le_refl _, Nat.le_refl _⟩ rfl ⟨rfl, rfl, rfl, _, ⟨by rw [oGoBack, pif_f (by decide), pif_t (by decide), z0]; rfl, by rw [oGoBack, pif_f (by decide), pif_t (by decide), z0]; exact hI, fun p _ => rfl⟩, rfl⟩
      · refine zM0_of (own := RX5) (lv := [some (.ref 0), some (.int (nI 1))]) rfl (by decide) rfl rfl ?_
        refine z_iload_n dX5_goBack_0 rfl ?_
        refine z_if_eqN (tgt := 12) dX5_goBack_1 (by decide) (by omega) (fun h1 => absurd h1 (by decide)) (fun _ => ?_)
        refine z_iload_n dX5_goBack_4 rfl ?_
        refine z_iconst (nI 1) dX5_goBack_5 (by decide) ?_
        refine z_icmp_eq (tgt := 12) dX5_goBack_6 (by decide) (fun _ => ?_) (fun h6 => absurd rfl h6)
        refine z_iload_n dX5_goBack_12 rfl ?_
        refine z_if_neN (tgt := 26) dX5_goBack_13 (by decide) (by omega) (fun _ => ?_) (fun h13 => absurd h13 (by decide))
        refine z_aload_n dX5_goBack_26 rfl ?_
        refine z_getz dX5_goBack_27 fX5_68 hT.o ?_
        refine z_top (z1) ?_
        refine z_if_neN (tgt := 36) dX5_goBack_30 (by decide) (by omega) (fun _ => ?_) (fun h30 => absurd h30 (by decide))
        refine z_aload_n dX5_goBack_36 rfl ?_
        refine z_getr dX5_goBack_37 fX5_10 hT.o hT.r0 ?_
        refine z_iload_n dX5_goBack_40 rfl ?_
        refine z_if_neN (tgt := 51) dX5_goBack_41 (by decide) (by omega) (fun _ => ?_) (fun h41 => absurd h41 (by decide))
        refine z_aload_n dX5_goBack_51 rfl ?_
        refine z_getr dX5_goBack_52 fX5_62 hT.o hT.r10 ?_
        refine z_callV1v dX5_goBack_55 mX5_276 hT.q0.o (c_become I L hT.q0 hT.q10 z2 z3.1 (by omega)) (by decide) (Nat.le_of_ble_eq_true rfl) ⟨Nat.le_refl _, Nat.le_refl _⟩ (fun J1 h1 => ?_)
        refine z_aload_n dX5_goBack_58 rfl ?_
        refine z_getr dX5_goBack_59 fX5_55 hT.o hT.r8 ?_
        refine z_callV0v dX5_goBack_62 mX5_285 hT.q8.o (c_forget J1 L hT.q8 (hh.frame (h1.2 34 (by omega)) (fun p hp => h1.2 p (by omega)))) (by decide) (Nat.le_of_ble_eq_true rfl) ⟨Nat.le_refl _, Nat.le_refl _⟩ (fun J2 h2 => ?_)
        have hv2 : zCLy J2 1 w := h1.1.frame (fun p p1 p2 => h2.2 p (by omega))
        have hr2 : zCR J2 [] s.2.2.1 s.2.2.2 := by
          obtain ⟨g1, g2, g3, g4, g5⟩ := hr
          have hf : ∀ p, p ≠ 34 → (p < 1 ∨ 1 + 5 < p) → J2 p = I p := fun p p1 p2 => by rw [h2.2 p p1]; exact h1.2 p p2
          exact ⟨by rw [hf 17 (by decide) (by omega)]; exact g1, by rw [hf 33 (by decide) (by omega)]; exact g2, ⟨nx, h2.1⟩, g4.frame (by rw [hf 0 (by decide) (by omega)]) (fun p p1 p2 => hf p (by omega) (by omega)), g5.frame (by rw [hf 0 (by decide) (by omega)]) (fun p p1 p2 => hf p (by omega) (by omega))⟩
        refine z_aload_n dX5_goBack_65 rfl ?_
        refine z_callV0v dX5_goBack_66 mX5_137 hT.o (c_layAnew J2 L hT hv2 z3) (by decide) (Nat.le_of_ble_eq_true rfl) ⟨Nat.le_refl _, Nat.le_refl _⟩ (fun J3 h3 => ?_)
        refine z_aload_n dX5_goBack_69 rfl ?_
        refine z_getr dX5_goBack_70 fX5_10 hT.o hT.r0 ?_
        refine z_geti dX5_goBack_73 fX5_86 hT.q0.o ?_
        refine z_top ((show _ = nI w.1.length from by rw [h3.2.2.2 1 (by decide) (by omega), h2.2 1 (by decide)]; exact h1.1.1)) ?_
        exact z_iret dX5_goBack_76 ⟨Nat.le_refl _, Nat.le_refl _⟩ rfl ⟨rfl, rfl, rfl, _, ⟨by rw [oGoBack, pif_f (by decide), pif_t (by decide), z0]; rfl, by rw [oGoBack, pif_f (by decide), pif_t (by decide), z0]; exact zCI_LA hr2 z3 hv2 h3, fun p hp => by rw [h3.2.2.2 p (by omega) (by omega), h2.2 p (by omega), h1.2 p (by omega)]⟩, rfl⟩
    · refine zM0_of (own := RX5) (lv := [some (.ref 0), some (.int i)]) rfl (by decide) rfl rfl ?_
      refine z_iload_n dX5_goBack_0 rfl ?_
      refine z_if_eq (tgt := 12) dX5_goBack_1 (by decide) (fun h1 => absurd h1 h0) (fun h1 => ?_)
      refine z_iload_n dX5_goBack_4 rfl ?_
      refine z_iconst (nI 1) dX5_goBack_5 (by decide) ?_
      refine z_icmp_eq (tgt := 12) dX5_goBack_6 (by decide) (fun h6 => absurd h6 h9) (fun h6 => ?_)
      refine z_ldc dX5_goBack_9 kX5_94 ?_
      have n0 : ¬ i.toInt = 0 := fun q => h0 (by rw [toInt_eq q]; decide)
      have n1 : ¬ i.toInt = 1 := fun q => h9 (by rw [toInt_eq q]; decide)
      exact z_iret dX5_goBack_11 ⟨Nat.le_refl _, Nat.le_refl _⟩ rfl ⟨rfl, rfl, rfl, _, ⟨by rw [oGoBack, pif_f n0, pif_f n1], by rw [oGoBack, pif_f n0, pif_f n1]; exact hI, fun p _ => rfl⟩, rfl⟩
def nxt (k : Nat) : Nat := k * 16807 % 2147483647
theorem nxt_lt (k : Nat) : nxt k < 2147483647 := Nat.mod_lt _ (by decide)
set_option maxRecDepth 100000 in
set_option maxHeartbeats 4000000 in
theorem c_nextLot {S : zS} {R : zMR} (I : zMI) (L : zML) (k : Nat) (hk : k < 2147483648) : zM0 yX5_nextLot cX5_nextLot 1 (some .int) 1 [.int (nI k)] S I L R (zPure I L (nI (nxt k))) := by
  refine zM0_of (own := RX5) (lv := [some (.int (nI k))]) rfl (by decide) rfl rfl ?_
  refine z_iload_n dX5_nextLot_0 rfl ?_
  refine z_i2l dX5_nextLot_1 ?_
  rw [nI_l (show k < 2 ^ 31 from by omega)]
  refine z_topl (y := lN k) rfl ?_
  refine z_ldc2 dX5_nextLot_2 kX5_313 ?_
  refine z_topl (y := lN 16807) (by decide) ?_
  refine z_lmul dX5_nextLot_5 ?_
  refine z_topl (lN_mul _ _) ?_
  refine z_ldc2 dX5_nextLot_6 kX5_315 ?_
  refine z_topl (y := lN 2147483647) (by decide) ?_
  refine z_lrem dX5_nextLot_9 (by decide) ?_
  refine z_topl (pk_lRem (by omega) (by decide) (by decide)) ?_
  refine z_l2i dX5_nextLot_10 ?_
  refine z_top ((show _ = nI (nxt k) from lN_i _)) ?_
  exact z_iret dX5_nextLot_11 ⟨Nat.le_refl _, Nat.le_refl _⟩ rfl ⟨rfl, rfl, rfl, rfl, congrArg (fun z => some (Value.int z)) (rfl)⟩
def dX (k : Nat) : Nat := nxt k % 16
def dY (k : Nat) : Nat := nxt (nxt k) % 16
def dX2 (k : Nat) : Nat := min 15 (dX k + nxt (nxt (nxt k)) % 5)
def dY2 (k : Nat) : Nat := min 15 (dY k + nxt (nxt (nxt (nxt k))) % 3)
noncomputable def drF : Nat → Nat → List Sh → List Sh
  | 0, _, l => l
  | n + 1, k, l => pif (full l) l (drF n (nxt (nxt (nxt (nxt k)))) (pif (isFr l (dX k) (dY k) (dX2 k) (dY2 k) (-1)) (l ++ [nSh (dX k) (dY k) (dX2 k) (dY2 k)]) l))
noncomputable def oDrift (s : St) (n k : Int) : Int32 × St := pif ((1 ≤ n ∧ n ≤ 20) ∧ 1 ≤ k ∧ k ≤ 999999) (nI (drF n.toNat k.toNat s.1.1).length, sPush s (lyZ (lyS s.1 (drF n.toNat k.toNat s.1.1)))) (kOUT, s)
theorem lyOk.unfree {w : Ly} (h : lyOk (lyZ w)) (h1 : ∀ p, lfx w p ≤ 2) (h2 : ∀ p, np w.1 ≤ p → lfx w p = 0) : lyOk w := by
  obtain ⟨g1, g2, g3, g4, g5, g6, g7, g8, -, -⟩ := h
  exact ⟨g1, g2, g3, g4, g5, g6, g7, g8, h1, h2⟩
theorem lot_on (k : Nat) : onF (dX k) (dY k) (dX2 k) (dY2 k) ∧ (dX k : Int) ≤ dX2 k ∧ (dY k : Int) ≤ dY2 k := by
  have h1 : dX k < 16 := Nat.mod_lt _ (by decide)
  have h2 : dY k < 16 := Nat.mod_lt _ (by decide)
  have h3 : dX2 k = min 15 (dX k + nxt (nxt (nxt k)) % 5) := rfl
  have h4 : dY2 k = min 15 (dY k + nxt (nxt (nxt (nxt k))) % 3) := rfl
  unfold onF
  omega
theorem nSh_nat (a b c d : Nat) : nSh a b c d = (a, b, c, d, []) := rfl
theorem lyOk.lot {v : Ly} {l : List Sh} (h : lyOk (lyS v l)) {k : Nat} (hf : isFr l (dX k) (dY k) (dX2 k) (dY2 k) (-1)) (hn : ¬ full l) : lyOk (lyS v (l ++ [nSh (dX k) (dY k) (dX2 k) (dY2 k)])) := by
  have h2 := lyOk.new h (lot_on k) hf hn
  refine lyOk.unfree h2 h.2.2.2.2.2.2.2.2.1 (fun p hp => h.2.2.2.2.2.2.2.2.2 p ?_)
  have : np (l ++ [nSh (dX k) (dY k) (dX2 k) (dY2 k)]) = np l + 1 := by rw [np_append]; rfl
  simp only [lyS] at hp ⊢
  omega
theorem rNew_lot {l : List Sh} {k : Nat} (hn : ¬ full l) : rNew l (dX k) (dY k) (dX2 k) (dY2 k) = 0 ↔ isFr l (dX k) (dY k) (dX2 k) (dY2 k) (-1) := by
  unfold rNew
  rw [zif_t (lot_on k)]
  constructor
  · intro h
    by_cases q : isFr l (dX k) (dY k) (dX2 k) (dY2 k) (-1)
    · exact q
    · rw [zif_f q] at h; exact absurd h (by decide)
  · intro q
    rw [zif_t q, zif_f hn]
theorem zWr.then {I J K : zMI} {b : Nat} {v w : Ly} (h1 : zWr I J b v) (h2 : zWr J K b w) : zWr I K b w := ⟨h2.1, fun p hp => (h2.2 p hp).trans (h1.2 p hp)⟩
theorem zCat_q5 {x0 x1 x2 x3 x4 : Value} {b0 b1 b2 b3 b4 b5 b6 b7 : Option Value} (h : zCat [b0, b1, b2, b3, b4, b5, b6, b7] = true) (hx0 : x0.category = 1 := by rfl) (hx1 : x1.category = 1 := by rfl) (hx2 : x2.category = 1 := by rfl) (hx3 : x3.category = 1 := by rfl) (hx4 : x4.category = 1 := by rfl) : zCat [some x0, some x1, some x2, some x3, some x4, b0, b1, b2, b3, b4, b5, b6, b7] = true := by
  simp only [zCat, List.all_cons, List.all_nil, Bool.and_eq_true, Bool.and_true] at h ⊢
  obtain ⟨g0, g1, g2, g3, g4, g5, g6, g7⟩ := h
  exact ⟨by rw [hx0]; rfl, by rw [hx1]; rfl, by rw [hx2]; rfl, by rw [hx3]; rfl, by rw [hx4]; rfl, g0, g1, g2, g3, g4, g5, g6, g7⟩
theorem zCat_q6 {x0 x1 x2 x3 x4 x5 : Value} {b0 b1 b2 b3 b4 b5 b6 b7 : Option Value} (h : zCat [b0, b1, b2, b3, b4, b5, b6, b7] = true) (hx0 : x0.category = 1 := by rfl) (hx1 : x1.category = 1 := by rfl) (hx2 : x2.category = 1 := by rfl) (hx3 : x3.category = 1 := by rfl) (hx4 : x4.category = 1 := by rfl) (hx5 : x5.category = 1 := by rfl) : zCat [some x0, some x1, some x2, some x3, some x4, some x5, b1, b2, b3, b4, b5, b6, b7] = true := by
  simp only [zCat, List.all_cons, List.all_nil, Bool.and_eq_true, Bool.and_true] at h ⊢
  obtain ⟨g0, g1, g2, g3, g4, g5, g6, g7⟩ := h
  exact ⟨by rw [hx0]; rfl, by rw [hx1]; rfl, by rw [hx2]; rfl, by rw [hx3]; rfl, by rw [hx4]; rfl, by rw [hx5]; rfl, g1, g2, g3, g4, g5, g6, g7⟩
theorem zCat_q7 {x0 x1 x2 x3 x4 x5 x6 : Value} {b0 b1 b2 b3 b4 b5 b6 b7 : Option Value} (h : zCat [b0, b1, b2, b3, b4, b5, b6, b7] = true) (hx0 : x0.category = 1 := by rfl) (hx1 : x1.category = 1 := by rfl) (hx2 : x2.category = 1 := by rfl) (hx3 : x3.category = 1 := by rfl) (hx4 : x4.category = 1 := by rfl) (hx5 : x5.category = 1 := by rfl) (hx6 : x6.category = 1 := by rfl) : zCat [some x0, some x1, some x2, some x3, some x4, some x5, some x6, b2, b3, b4, b5, b6, b7] = true := by
  simp only [zCat, List.all_cons, List.all_nil, Bool.and_eq_true, Bool.and_true] at h ⊢
  obtain ⟨g0, g1, g2, g3, g4, g5, g6, g7⟩ := h
  exact ⟨by rw [hx0]; rfl, by rw [hx1]; rfl, by rw [hx2]; rfl, by rw [hx3]; rfl, by rw [hx4]; rfl, by rw [hx5]; rfl, by rw [hx6]; rfl, g2, g3, g4, g5, g6, g7⟩
theorem zCat_q8 {x0 x1 x2 x3 x4 x5 x6 x7 : Value} {b0 b1 b2 b3 b4 b5 b6 b7 : Option Value} (h : zCat [b0, b1, b2, b3, b4, b5, b6, b7] = true) (hx0 : x0.category = 1 := by rfl) (hx1 : x1.category = 1 := by rfl) (hx2 : x2.category = 1 := by rfl) (hx3 : x3.category = 1 := by rfl) (hx4 : x4.category = 1 := by rfl) (hx5 : x5.category = 1 := by rfl) (hx6 : x6.category = 1 := by rfl) (hx7 : x7.category = 1 := by rfl) : zCat [some x0, some x1, some x2, some x3, some x4, some x5, some x6, some x7, b3, b4, b5, b6, b7] = true := by
  simp only [zCat, List.all_cons, List.all_nil, Bool.and_eq_true, Bool.and_true] at h ⊢
  obtain ⟨g0, g1, g2, g3, g4, g5, g6, g7⟩ := h
  exact ⟨by rw [hx0]; rfl, by rw [hx1]; rfl, by rw [hx2]; rfl, by rw [hx3]; rfl, by rw [hx4]; rfl, by rw [hx5]; rfl, by rw [hx6]; rfl, by rw [hx7]; rfl, g3, g4, g5, g6, g7⟩
theorem zCat_q9 {x0 x1 x2 x3 x4 x5 x6 x7 x8 : Value} {b0 b1 b2 b3 b4 b5 b6 b7 : Option Value} (h : zCat [b0, b1, b2, b3, b4, b5, b6, b7] = true) (hx0 : x0.category = 1 := by rfl) (hx1 : x1.category = 1 := by rfl) (hx2 : x2.category = 1 := by rfl) (hx3 : x3.category = 1 := by rfl) (hx4 : x4.category = 1 := by rfl) (hx5 : x5.category = 1 := by rfl) (hx6 : x6.category = 1 := by rfl) (hx7 : x7.category = 1 := by rfl) (hx8 : x8.category = 1 := by rfl) : zCat [some x0, some x1, some x2, some x3, some x4, some x5, some x6, some x7, some x8, b4, b5, b6, b7] = true := by
  simp only [zCat, List.all_cons, List.all_nil, Bool.and_eq_true, Bool.and_true] at h ⊢
  obtain ⟨g0, g1, g2, g3, g4, g5, g6, g7⟩ := h
  exact ⟨by rw [hx0]; rfl, by rw [hx1]; rfl, by rw [hx2]; rfl, by rw [hx3]; rfl, by rw [hx4]; rfl, by rw [hx5]; rfl, by rw [hx6]; rfl, by rw [hx7]; rfl, by rw [hx8]; rfl, g4, g5, g6, g7⟩
theorem zCat_q10 {x0 x1 x2 x3 x4 x5 x6 x7 x8 x9 : Value} {b0 b1 b2 b3 b4 b5 b6 b7 : Option Value} (h : zCat [b0, b1, b2, b3, b4, b5, b6, b7] = true) (hx0 : x0.category = 1 := by rfl) (hx1 : x1.category = 1 := by rfl) (hx2 : x2.category = 1 := by rfl) (hx3 : x3.category = 1 := by rfl) (hx4 : x4.category = 1 := by rfl) (hx5 : x5.category = 1 := by rfl) (hx6 : x6.category = 1 := by rfl) (hx7 : x7.category = 1 := by rfl) (hx8 : x8.category = 1 := by rfl) (hx9 : x9.category = 1 := by rfl) : zCat [some x0, some x1, some x2, some x3, some x4, some x5, some x6, some x7, some x8, some x9, b5, b6, b7] = true := by
  simp only [zCat, List.all_cons, List.all_nil, Bool.and_eq_true, Bool.and_true] at h ⊢
  obtain ⟨g0, g1, g2, g3, g4, g5, g6, g7⟩ := h
  exact ⟨by rw [hx0]; rfl, by rw [hx1]; rfl, by rw [hx2]; rfl, by rw [hx3]; rfl, by rw [hx4]; rfl, by rw [hx5]; rfl, by rw [hx6]; rfl, by rw [hx7]; rfl, by rw [hx8]; rfl, by rw [hx9]; rfl, g5, g6, g7⟩
theorem zCat_q11 {x0 x1 x2 x3 x4 x5 x6 x7 x8 x9 x10 : Value} {b0 b1 b2 b3 b4 b5 b6 b7 : Option Value} (h : zCat [b0, b1, b2, b3, b4, b5, b6, b7] = true) (hx0 : x0.category = 1 := by rfl) (hx1 : x1.category = 1 := by rfl) (hx2 : x2.category = 1 := by rfl) (hx3 : x3.category = 1 := by rfl) (hx4 : x4.category = 1 := by rfl) (hx5 : x5.category = 1 := by rfl) (hx6 : x6.category = 1 := by rfl) (hx7 : x7.category = 1 := by rfl) (hx8 : x8.category = 1 := by rfl) (hx9 : x9.category = 1 := by rfl) (hx10 : x10.category = 1 := by rfl) : zCat [some x0, some x1, some x2, some x3, some x4, some x5, some x6, some x7, some x8, some x9, some x10, b6, b7] = true := by
  simp only [zCat, List.all_cons, List.all_nil, Bool.and_eq_true, Bool.and_true] at h ⊢
  obtain ⟨g0, g1, g2, g3, g4, g5, g6, g7⟩ := h
  exact ⟨by rw [hx0]; rfl, by rw [hx1]; rfl, by rw [hx2]; rfl, by rw [hx3]; rfl, by rw [hx4]; rfl, by rw [hx5]; rfl, by rw [hx6]; rfl, by rw [hx7]; rfl, by rw [hx8]; rfl, by rw [hx9]; rfl, by rw [hx10]; rfl, g6, g7⟩
theorem zCat_q12 {x0 x1 x2 x3 x4 x5 x6 x7 x8 x9 x10 x11 : Value} {b0 b1 b2 b3 b4 b5 b6 b7 : Option Value} (h : zCat [b0, b1, b2, b3, b4, b5, b6, b7] = true) (hx0 : x0.category = 1 := by rfl) (hx1 : x1.category = 1 := by rfl) (hx2 : x2.category = 1 := by rfl) (hx3 : x3.category = 1 := by rfl) (hx4 : x4.category = 1 := by rfl) (hx5 : x5.category = 1 := by rfl) (hx6 : x6.category = 1 := by rfl) (hx7 : x7.category = 1 := by rfl) (hx8 : x8.category = 1 := by rfl) (hx9 : x9.category = 1 := by rfl) (hx10 : x10.category = 1 := by rfl) (hx11 : x11.category = 1 := by rfl) : zCat [some x0, some x1, some x2, some x3, some x4, some x5, some x6, some x7, some x8, some x9, some x10, some x11, b7] = true := by
  simp only [zCat, List.all_cons, List.all_nil, Bool.and_eq_true, Bool.and_true] at h ⊢
  obtain ⟨g0, g1, g2, g3, g4, g5, g6, g7⟩ := h
  exact ⟨by rw [hx0]; rfl, by rw [hx1]; rfl, by rw [hx2]; rfl, by rw [hx3]; rfl, by rw [hx4]; rfl, by rw [hx5]; rfl, by rw [hx6]; rfl, by rw [hx7]; rfl, by rw [hx8]; rfl, by rw [hx9]; rfl, by rw [hx10]; rfl, by rw [hx11]; rfl, g7⟩
set_option maxRecDepth 100000 in
set_option maxHeartbeats 4000000 in
theorem drift_loop {S : zS} {R : zMR} (I : zMI) (L : zML) {s : St} (hT : zTM S R) {J1 : zMI} {N k0 : Nat} {sd : Int32} (hN20 : N ≤ 20) (hr1 : zCR J1 (hpush s.2.1 s.1) s.2.2.1 s.2.2.2) (hf1 : ∀ p, 96 ≤ p → J1 p = I p) : ∀ (n : Nat) (i k : Nat) (J : zMI) (l : List Sh) (a5 a6 a7 a8 a9 a10 a11 a12 : Option Value), N + 1 ≤ i + n → i ≤ N → k < 2147483648 → zCat [a5, a6, a7, a8, a9, a10, a11, a12] = true → lyOk (lyS s.1 l) → zWr J1 J 1 (lyS s.1 l) → drF N k0 s.1.1 = drF (N - i) k l → zV (zMt RX5 cX5_drift 13 (some .int) 7) (fun S2 I2 L2 R2 rr => S2 = S ∧ R2 = R ∧ (zPi L (fun I2 r => r = nI (drF N k0 s.1.1).length ∧ zCI I2 (sPush s (lyZ (lyS s.1 (drF N k0 s.1.1)))) ∧ ∀ p, 96 ≤ p → I2 p = I p)) I2 L2 rr) (0, 0) S J L R 41 [some (.ref 0), some (.int (nI N)), some (.int sd), some (.int (nI k)), some (.int (nI i)), a5, a6, a7, a8, a9, a10, a11, a12] [] := by
  intro n
  induction n with
  | zero => intro i k J l a5 a6 a7 a8 a9 a10 a11 a12 h1 h2 hk9 hcat hok hJ hi; omega
  | succ n ih =>
    intro i k J l a5 a6 a7 a8 a9 a10 a11 a12 h1 h2 hk9 hcat hok hJ hi
    refine z_iload dX5_drift_41 rfl ?_
    refine z_iload_n dX5_drift_43 rfl ?_
    refine z_icmp_geNN (tgt := 168) dX5_drift_44 (by decide) (by omega) (by omega) (fun h44 => ?_) (fun h44 => ?_)
    · refine z_aload_n dX5_drift_168 rfl ?_
      refine z_callV0v dX5_drift_169 mX5_83 hT.o (c_layFree J L hT hJ.1 hok.free) (by decide) (Nat.le_of_ble_eq_true rfl) ⟨Nat.le_refl _, Nat.le_refl _⟩ (fun J3 h3 => ?_)
      refine z_aload_n dX5_drift_172 rfl ?_
      refine z_getr dX5_drift_173 fX5_10 hT.o hT.r0 ?_
      refine z_geti dX5_drift_176 fX5_86 hT.q0.o ?_
      refine z_top ((show _ = nI l.length from h3.1.1)) ?_
      have hend : drF N k0 s.1.1 = l := by
        first | (rw [hi, show N - i = 0 from by omega, drF]; done) | (rw [hi, show N - i = (N - (i + 1)) + 1 from by omega, drF, pif_t h54])
      exact z_iret dX5_drift_179 ⟨Nat.le_refl _, Nat.le_refl _⟩ rfl ⟨rfl, rfl, rfl, _, ⟨by rw [hend], by rw [hend]; exact zCI_LF (zCR_wr hr1 hJ) hok.free h3, fun p hp => by rw [h3.2.2.2.2 p (by omega) (by omega), hJ.2 p (by omega)]; exact hf1 p hp⟩, rfl⟩
    · refine z_aload_n dX5_drift_47 rfl ?_
      refine z_getr dX5_drift_48 fX5_10 hT.o hT.r0 ?_
      refine z_callV0p dX5_drift_51 mX5_161 hT.q0.o (c_isFull J L hT.q0 hJ.1 hok) (by decide) (Nat.le_of_ble_eq_true rfl) ⟨Nat.le_refl _, Nat.le_refl _⟩ ?_
      refine z_if_neB (tgt := 168) dX5_drift_54 (by decide) (fun h54 => ?_) (fun h54 => ?_)
      · replace h54 : full l := h54
        refine z_aload_n dX5_drift_168 rfl ?_
        refine z_callV0v dX5_drift_169 mX5_83 hT.o (c_layFree J L hT hJ.1 hok.free) (by decide) (Nat.le_of_ble_eq_true rfl) ⟨Nat.le_refl _, Nat.le_refl _⟩ (fun J3 h3 => ?_)
        refine z_aload_n dX5_drift_172 rfl ?_
        refine z_getr dX5_drift_173 fX5_10 hT.o hT.r0 ?_
        refine z_geti dX5_drift_176 fX5_86 hT.q0.o ?_
        refine z_top ((show _ = nI l.length from h3.1.1)) ?_
        have hend : drF N k0 s.1.1 = l := by
          first | (rw [hi, show N - i = 0 from by omega, drF]; done) | (rw [hi, show N - i = (N - (i + 1)) + 1 from by omega, drF, pif_t h54])
        exact z_iret dX5_drift_179 ⟨Nat.le_refl _, Nat.le_refl _⟩ rfl ⟨rfl, rfl, rfl, _, ⟨by rw [hend], by rw [hend]; exact zCI_LF (zCR_wr hr1 hJ) hok.free h3, fun p hp => by rw [h3.2.2.2.2 p (by omega) (by omega), hJ.2 p (by omega)]; exact hf1 p hp⟩, rfl⟩
      · replace h54 : ¬ full l := h54
        refine z_iload_n dX5_drift_57 rfl ?_
        refine z_callS1p dX5_drift_58 mX5_165 (c_nextLot J L (k) (by first | exact hk9 | (have := nxt_lt k; have := nxt_lt (nxt k); have := nxt_lt (nxt (nxt k)); omega))) (by decide) (Nat.le_of_ble_eq_true rfl) ⟨Nat.le_refl _, Nat.le_refl _⟩ ?_
        refine z_ist5 dX5_drift_61 (zCat_q5 hcat) ?_
        refine z_iload dX5_drift_63 rfl ?_
        refine z_callS1p dX5_drift_65 mX5_165 (c_nextLot J L (nxt k) (by first | exact hk9 | (have := nxt_lt k; have := nxt_lt (nxt k); have := nxt_lt (nxt (nxt k)); omega))) (by decide) (Nat.le_of_ble_eq_true rfl) ⟨Nat.le_refl _, Nat.le_refl _⟩ ?_
        refine z_ist6 dX5_drift_68 (zCat_q6 hcat) ?_
        refine z_iload dX5_drift_70 rfl ?_
        refine z_callS1p dX5_drift_72 mX5_165 (c_nextLot J L (nxt (nxt k)) (by first | exact hk9 | (have := nxt_lt k; have := nxt_lt (nxt k); have := nxt_lt (nxt (nxt k)); omega))) (by decide) (Nat.le_of_ble_eq_true rfl) ⟨Nat.le_refl _, Nat.le_refl _⟩ ?_
        refine z_ist7 dX5_drift_75 (zCat_q7 hcat) ?_
        refine z_iload dX5_drift_77 rfl ?_
        refine z_callS1p dX5_drift_79 mX5_165 (c_nextLot J L (nxt (nxt (nxt k))) (by first | exact hk9 | (have := nxt_lt k; have := nxt_lt (nxt k); have := nxt_lt (nxt (nxt k)); omega))) (by decide) (Nat.le_of_ble_eq_true rfl) ⟨Nat.le_refl _, Nat.le_refl _⟩ ?_
        have hb1 := nxt_lt k
        have hb2 := nxt_lt (nxt k)
        have hb3 := nxt_lt (nxt (nxt k))
        have hb4 := nxt_lt (nxt (nxt (nxt k)))
        have hx16 : dX k < 16 := Nat.mod_lt _ (by decide)
        have hy16 : dY k < 16 := Nat.mod_lt _ (by decide)
        have hx15 : dX2 k ≤ 15 := Nat.min_le_left _ _
        have hy15 : dY2 k ≤ 15 := Nat.min_le_left _ _
        refine z_ist8 dX5_drift_82 (zCat_q8 hcat) ?_
        refine z_iload dX5_drift_84 rfl ?_
        refine z_ist3 dX5_drift_86 (zCat_q9 hcat) ?_
        refine z_iload dX5_drift_87 rfl ?_
        refine z_bipush (nI 16) dX5_drift_89 (by decide) ?_
        refine z_iremN dX5_drift_91 (by omega) (by omega) (by omega) ?_
        refine z_top ((show nI (nxt k % 16) = nI (dX k) from rfl)) ?_
        refine z_ist9 dX5_drift_92 (zCat_q9 hcat) ?_
        refine z_iload dX5_drift_94 rfl ?_
        refine z_bipush (nI 16) dX5_drift_96 (by decide) ?_
        refine z_iremN dX5_drift_98 (by omega) (by omega) (by omega) ?_
        refine z_top ((show nI (nxt (nxt k) % 16) = nI (dY k) from rfl)) ?_
        refine z_ist10 dX5_drift_99 (zCat_q10 hcat) ?_
        refine z_bipush (nI 15) dX5_drift_101 (by decide) ?_
        refine z_iload dX5_drift_103 rfl ?_
        refine z_iload dX5_drift_105 rfl ?_
        refine z_iconst (nI 5) dX5_drift_107 (by decide) ?_
        refine z_iremN dX5_drift_108 (by omega) (by omega) (by omega) ?_
        refine z_iaddN dX5_drift_109 ?_
        refine z_mmin dX5_drift_110 mX5_168_l zMath_s_min zMath_i zMath_c_min (by decide) (Nat.le_of_ble_eq_true rfl) ⟨Nat.le_refl _, Nat.le_refl _⟩ ?_
        refine z_top ((show _ = nI (dX2 k) from nmin_eq (by decide) (by omega))) ?_
        refine z_ist11 dX5_drift_113 (zCat_q11 hcat) ?_
        refine z_bipush (nI 15) dX5_drift_115 (by decide) ?_
        refine z_iload dX5_drift_117 rfl ?_
        refine z_iload dX5_drift_119 rfl ?_
        refine z_iconst (nI 3) dX5_drift_121 (by decide) ?_
        refine z_iremN dX5_drift_122 (by omega) (by omega) (by omega) ?_
        refine z_iaddN dX5_drift_123 ?_
        refine z_mmin dX5_drift_124 mX5_168_l zMath_s_min zMath_i zMath_c_min (by decide) (Nat.le_of_ble_eq_true rfl) ⟨Nat.le_refl _, Nat.le_refl _⟩ ?_
        refine z_top ((show _ = nI (dY2 k) from nmin_eq (by decide) (by omega))) ?_
        refine z_ist12 dX5_drift_127 (zCat_q12 hcat) ?_
        refine z_aload_n dX5_drift_129 rfl ?_
        refine z_getr dX5_drift_130 fX5_10 hT.o hT.r0 ?_
        refine z_iload dX5_drift_133 rfl ?_
        refine z_iload dX5_drift_135 rfl ?_
        refine z_iload dX5_drift_137 rfl ?_
        refine z_iload dX5_drift_139 rfl ?_
        refine z_callV4p dX5_drift_141 mX5_71 hT.q0.o (c_refusalOfNew J L hT.q0 hJ.1 hok _ _ _ _) (by decide) (Nat.le_of_ble_eq_true rfl) ⟨Nat.le_refl _, Nat.le_refl _⟩ ?_
        rw [nI_T (show dX k < 2147483648 from by omega), nI_T (show dY k < 2147483648 from by omega), nI_T (show dX2 k < 2147483648 from by omega), nI_T (show dY2 k < 2147483648 from by omega)]
        refine z_if_ne (tgt := 162) dX5_drift_144 (by decide) (fun h144 => ?_) (fun h144 => ?_)
        · replace h144 : ¬ rNew l (dX k) (dY k) (dX2 k) (dY2 k) = 0 := h144
          refine z_iincN4 (n := 1) dX5_drift_162 rfl ?_
          refine z_goto (tgt := 41) dX5_drift_165 (by decide) ?_
          have hN : N - i = (N - (i + 1)) + 1 := by omega
          first
          | exact ih (i + 1) (nxt (nxt (nxt (nxt k)))) K (l ++ [nSh (dX k) (dY k) (dX2 k) (dY2 k)]) _ _ _ _ _ _ _ _ (by omega) (by omega) (by omega) rfl (hok.lot ((rNew_lot h54).mp h144) h54) (hJ.then hK) (by rw [hi, hN, drF, pif_f h54, pif_t ((rNew_lot h54).mp h144)])
          | exact ih (i + 1) (nxt (nxt (nxt (nxt k)))) J l _ _ _ _ _ _ _ _ (by omega) (by omega) (by omega) rfl hok hJ (by rw [hi, hN, drF, pif_f h54, pif_f (fun q => h144 ((rNew_lot h54).mpr q))])
        · replace h144 : rNew l (dX k) (dY k) (dX2 k) (dY2 k) = 0 := h144
          refine z_aload_n dX5_drift_147 rfl ?_
          refine z_getr dX5_drift_148 fX5_10 hT.o hT.r0 ?_
          refine z_iload dX5_drift_151 rfl ?_
          refine z_iload dX5_drift_153 rfl ?_
          refine z_iload dX5_drift_155 rfl ?_
          refine z_iload dX5_drift_157 rfl ?_
          refine z_callV4v dX5_drift_159 mX5_79 hT.q0.o (c_putNew J L hT.q0 hJ.1 hok (dX k) (dY k) (dX2 k) (dY2 k) h54) (by decide) (Nat.le_of_ble_eq_true rfl) ⟨Nat.le_refl _, Nat.le_refl _⟩ (fun K hK => ?_)
          refine z_iincN4 (n := 1) dX5_drift_162 rfl ?_
          refine z_goto (tgt := 41) dX5_drift_165 (by decide) ?_
          have hN : N - i = (N - (i + 1)) + 1 := by omega
          first
          | exact ih (i + 1) (nxt (nxt (nxt (nxt k)))) K (l ++ [nSh (dX k) (dY k) (dX2 k) (dY2 k)]) _ _ _ _ _ _ _ _ (by omega) (by omega) (by omega) rfl (hok.lot ((rNew_lot h54).mp h144) h54) (hJ.then hK) (by rw [hi, hN, drF, pif_f h54, pif_t ((rNew_lot h54).mp h144)])
          | exact ih (i + 1) (nxt (nxt (nxt (nxt k)))) J l _ _ _ _ _ _ _ _ (by omega) (by omega) (by omega) rfl hok hJ (by rw [hi, hN, drF, pif_f h54, pif_f (fun q => h144 ((rNew_lot h54).mpr q))])
set_option maxRecDepth 100000 in
set_option maxHeartbeats 4000000 in
theorem t_drift {S : zS} {R : zMR} (I : zMI) (L : zML) {s : St} (hT : zTM S R) (hI : zCI I s) (n sd : Int32) : zM0 yX5_drift cX5_drift 13 (some .int) 7 [.ref 0, .int n, .int sd] S I L R (zPi L (fun I2 r => r = (oDrift s n.toInt sd.toInt).1 ∧ zCI I2 (oDrift s n.toInt sd.toInt).2 ∧ ∀ p, 96 ≤ p → I2 p = I p)) := by
  refine zM0_of (own := RX5) (lv := [some (.ref 0), some (.int n), some (.int sd), none, none, none, none, none, none, none, none, none, none]) rfl (by decide) rfl rfl ?_
  obtain ⟨hv, ho, hP, hk, hr⟩ := id hI
  obtain ⟨nx, hh⟩ := id hr.2.2.1
  have hl := ho.1
  have hnp := ho.2.2.1
  refine z_iload_n dX5_drift_0 rfl ?_
  refine z_iconst (nI 1) dX5_drift_1 (by decide) ?_
  refine z_icmp_ltIN (tgt := 22) dX5_drift_2 (by decide) (by omega) (fun h2 => ?_) (fun h2 => ?_)
  · refine z_ldc dX5_drift_22 kX5_129 ?_
    exact z_iret dX5_drift_24 ⟨Nat.le_refl _, Nat.le_refl _⟩ rfl ⟨rfl, rfl, rfl, _, ⟨by rw [oDrift, pif_f (by omega)], by rw [oDrift, pif_f (by omega)]; exact hI, fun p _ => rfl⟩, rfl⟩
  · refine z_iload_n dX5_drift_5 rfl ?_
    refine z_bipush (nI 20) dX5_drift_6 (by decide) ?_
    refine z_icmp_gtIN (tgt := 22) dX5_drift_8 (by decide) (by omega) (fun h8 => ?_) (fun h8 => ?_)
    · refine z_ldc dX5_drift_22 kX5_129 ?_
      exact z_iret dX5_drift_24 ⟨Nat.le_refl _, Nat.le_refl _⟩ rfl ⟨rfl, rfl, rfl, _, ⟨by rw [oDrift, pif_f (by omega)], by rw [oDrift, pif_f (by omega)]; exact hI, fun p _ => rfl⟩, rfl⟩
    · refine z_iload_n dX5_drift_11 rfl ?_
      refine z_iconst (nI 1) dX5_drift_12 (by decide) ?_
      refine z_icmp_ltIN (tgt := 22) dX5_drift_13 (by decide) (by omega) (fun h13 => ?_) (fun h13 => ?_)
      · refine z_ldc dX5_drift_22 kX5_129 ?_
        exact z_iret dX5_drift_24 ⟨Nat.le_refl _, Nat.le_refl _⟩ rfl ⟨rfl, rfl, rfl, _, ⟨by rw [oDrift, pif_f (by omega)], by rw [oDrift, pif_f (by omega)]; exact hI, fun p _ => rfl⟩, rfl⟩
      · refine z_iload_n dX5_drift_16 rfl ?_
        refine z_ldc dX5_drift_17 kX5_160 ?_
        refine z_top (y := nI 999999) (by decide) ?_
        refine z_icmp_leIN (tgt := 25) dX5_drift_19 (by decide) (by omega) (fun h19 => ?_) (fun h19 => ?_)
        · obtain ⟨N, hN, rfl⟩ := nI_of3 (x := n) (n := 21) (by omega) (by omega) (by omega)
          obtain ⟨k0, hk0, rfl⟩ := nI_of3 (x := sd) (n := 1000000) (by omega) (by omega) (by omega)
          have e1 : (nI N).toInt = (N : Int) := nI_T (by omega)
          have e2 : (nI k0).toInt = (k0 : Int) := nI_T (by omega)
          have eo : oDrift s (nI N).toInt (nI k0).toInt = (nI (drF N k0 s.1.1).length, sPush s (lyZ (lyS s.1 (drF N k0 s.1.1)))) := by rw [oDrift, pif_t (by omega), e1, e2, Int.toNat_natCast, Int.toNat_natCast]
          rw [eo]
          refine z_aload_n dX5_drift_25 rfl ?_
          refine z_getr dX5_drift_26 fX5_55 hT.o hT.r8 ?_
          refine z_aload_n dX5_drift_29 rfl ?_
          refine z_getr dX5_drift_30 fX5_10 hT.o hT.r0 ?_
          refine z_callV1v dX5_drift_33 mX5_75 hT.q8.o (c_remember I L hT.q8 hT.q0 (by omega) hh hv ho (by omega)) (by decide) (Nat.le_of_ble_eq_true rfl) ⟨Nat.le_refl _, Nat.le_refl _⟩ (fun J1 h1 => ?_)
          have hv1 : zCLy J1 1 s.1 := hv.frame (fun p p1 p2 => h1.2 p (by omega) (by omega))
          refine z_iload_n dX5_drift_36 rfl ?_
          refine z_ist3 dX5_drift_37 rfl ?_
          refine z_iconst (nI 0) dX5_drift_38 (by decide) ?_
          refine z_ist4 dX5_drift_39 rfl ?_
          exact drift_loop I L hT (by omega) (zCR_rem hr h1) (fun p hp => h1.2 p (by omega) (by omega)) (N + 1) 0 k0 J1 s.1.1 none none none none none none none none (by omega) (by omega) (by omega) rfl ho ⟨hv1, fun p _ => rfl⟩ rfl
        · refine z_ldc dX5_drift_22 kX5_129 ?_
          exact z_iret dX5_drift_24 ⟨Nat.le_refl _, Nat.le_refl _⟩ rfl ⟨rfl, rfl, rfl, _, ⟨by rw [oDrift, pif_f (by omega)], by rw [oDrift, pif_f (by omega)]; exact hI, fun p _ => rfl⟩, rfl⟩
