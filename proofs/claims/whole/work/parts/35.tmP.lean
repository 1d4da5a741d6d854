set_option maxRecDepth 100000 in
set_option maxHeartbeats 4000000 in
theorem c_costWith {S : zS} {R : zMR} (I : zMI) (L : zML) {s : St} (hT : zTM S R) (hI : zCI I s) (p a q b : Nat) (hp : p < np s.1.1) (ha : a ≤ 1) (hq : q < np s.1.1) (hb : b ≤ 1) : zM0 yX5_costWith cX5_costWith 5 (some .int) 21 [.ref 0, .int (nI p), .int (nI a), .int (nI q), .int (nI b)] S I L R (zPi L (fun I2 r => r = cW s.1 p a q b ∧ zCI I2 s ∧ ∀ p, 96 ≤ p → I2 p = I p)) := by
  refine zM0_of (own := RX5) (lv := [some (.ref 0), some (.int (nI p)), some (.int (nI a)), some (.int (nI q)), some (.int (nI b))]) rfl (by decide) rfl rfl ?_
  obtain ⟨hv, ho, hP, hk, hr⟩ := id hI
  obtain ⟨nx, hh⟩ := id hr.2.2.1
  have hl := ho.1
  have hnp := ho.2.2.1
  have hps := pcs_ok ho
  have hpl := pcs_len s.1.1
  obtain ⟨u, hu1, hu2⟩ := id hr.2.1
  refine z_aload_n dX5_costWith_0 rfl ?_
  refine z_getr dX5_costWith_1 fX5_43 hT.o hT.r5 ?_
  refine z_aload_n dX5_costWith_4 rfl ?_
  refine z_getr dX5_costWith_5 fX5_10 hT.o hT.r0 ?_
  refine z_callV1v dX5_costWith_8 mX5_276 hT.q5.o (c_become I L hT.q5 hT.q0 hv hl (by omega)) (by decide) (Nat.le_of_ble_eq_true rfl) ⟨Nat.le_refl _, Nat.le_refl _⟩ (fun J1 h1 => ?_)
  refine z_aload_n dX5_costWith_11 rfl ?_
  refine z_getr dX5_costWith_12 fX5_43 hT.o hT.r5 ?_
  refine z_iload_n dX5_costWith_15 rfl ?_
  refine z_iload_n dX5_costWith_16 rfl ?_
  refine z_callV2p dX5_costWith_17 mX5_310 hT.q5.o (c_canBeOn J1 L hT.q5 h1.1 ho p a (by omega) (by omega)) (by decide) (Nat.le_of_ble_eq_true rfl) ⟨Nat.le_refl _, Nat.le_refl _⟩ ?_
  refine z_if_eqB (tgt := 36) dX5_costWith_20 (by decide) (fun h20 => ?_) (fun h20 => ?_)
  · refine z_iconst (-1) dX5_costWith_36 (by decide) ?_
    exact z_iret dX5_costWith_37 ⟨Nat.le_refl _, Nat.le_refl _⟩ rfl ⟨rfl, rfl, rfl, _, ⟨by rw [cW, zif_f (fun c => by first | exact h20 c.1 | exact h33 c.2)], zCI_tr hI (fun p hp => h1.2 p (by omega)) (by rw [h1.2 33 (by omega)]; exact hr.2.1), fun p hp => h1.2 p (by omega)⟩, rfl⟩
  · refine z_aload_n dX5_costWith_23 rfl ?_
    refine z_getr dX5_costWith_24 fX5_43 hT.o hT.r5 ?_
    refine z_iload_n dX5_costWith_27 rfl ?_
    refine z_iload dX5_costWith_28 rfl ?_
    refine z_callV2p dX5_costWith_30 mX5_310 hT.q5.o (c_canBeOn J1 L hT.q5 h1.1 ho q b (by omega) (by omega)) (by decide) (Nat.le_of_ble_eq_true rfl) ⟨Nat.le_refl _, Nat.le_refl _⟩ ?_
    refine z_if_neB (tgt := 38) dX5_costWith_33 (by decide) (fun h33 => ?_) (fun h33 => ?_)
    · refine z_aload_n dX5_costWith_38 rfl ?_
      refine z_getr dX5_costWith_39 fX5_43 hT.o hT.r5 ?_
      refine z_iload_n dX5_costWith_42 rfl ?_
      refine z_iload_n dX5_costWith_43 rfl ?_
      refine z_topV (show nI a = fxv (a + 1) from rfl) ?_
      refine z_callV2v dX5_costWith_44 mX5_147 hT.q5.o (c_setFixed J1 L hT.q5 h1.1 ho p (a + 1) (by omega) (by omega)) (by decide) (Nat.le_of_ble_eq_true rfl) ⟨Nat.le_refl _, Nat.le_refl _⟩ (fun J2 h2 => ?_)
      have ok2 := ho.fix (p := p) (k := a + 1) (by omega) (by omega)
      refine z_aload_n dX5_costWith_47 rfl ?_
      refine z_getr dX5_costWith_48 fX5_43 hT.o hT.r5 ?_
      refine z_iload_n dX5_costWith_51 rfl ?_
      refine z_iload dX5_costWith_52 rfl ?_
      refine z_topV (show nI b = fxv (b + 1) from rfl) ?_
      refine z_callV2v dX5_costWith_54 mX5_147 hT.q5.o (c_setFixed J2 L hT.q5 h2.1 ok2 q (b + 1) (by omega) (by omega)) (by decide) (Nat.le_of_ble_eq_true rfl) ⟨Nat.le_refl _, Nat.le_refl _⟩ (fun J3 h3 => ?_)
      have ok3 : lyOk (lyF s.1 (fxs (fxs (lfx s.1) p (a + 1)) q (b + 1))) := ok2.fix (p := q) (k := b + 1) (by show q < np s.1.1; omega) (by omega)
      refine z_aload_n dX5_costWith_57 rfl ?_
      refine z_getr dX5_costWith_58 fX5_46 hT.o hT.r6 ?_
      refine z_aload_n dX5_costWith_61 rfl ?_
      refine z_getr dX5_costWith_62 fX5_43 hT.o hT.r5 ?_
      refine z_callV1v dX5_costWith_65 mX5_291 hT.q6.o (c_lay J3 L hT.q6 hT.q5 (v := (lyF s.1 (fxs (fxs (lfx s.1) p (a + 1)) q (b + 1)))) h3.1 ok3 (by omega)) (by decide) (Nat.le_of_ble_eq_true rfl) ⟨Nat.le_refl _, Nat.le_refl _⟩ (fun J4 h4 => ?_)
      have e18 : J4 18 = J3 18 := h4.2 18 (by omega)
      have hu3 : J4 33 3 = nI u := by rw [h4.2 33 (by omega), h3.2 33 (by omega), h2.2 33 (by omega), h1.2 33 (by omega)]; exact hu2
      refine z_aload_n dX5_costWith_68 rfl ?_
      refine z_getr dX5_costWith_69 fX5_49 hT.o hT.r7 ?_
      refine z_aload_n dX5_costWith_72 rfl ?_
      refine z_getr dX5_costWith_73 fX5_43 hT.o hT.r5 ?_
      refine z_geti dX5_costWith_76 fX5_208 hT.q5.o ?_
      refine z_top ((show _ = nI (fm (lfx (lyF s.1 (fxs (fxs (lfx s.1) p (a + 1)) q (b + 1))))) from by rw [e18]; exact h3.1.2.2.2.2.2.1)) ?_
      refine z_aload_n dX5_costWith_79 rfl ?_
      refine z_getr dX5_costWith_80 fX5_43 hT.o hT.r5 ?_
      refine z_geti dX5_costWith_83 fX5_294 hT.q5.o ?_
      refine z_top ((show _ = nI (fo (lfx (lyF s.1 (fxs (fxs (lfx s.1) p (a + 1)) q (b + 1))))) from by rw [e18]; exact h3.1.2.2.2.2.2.2)) ?_
      refine z_callV2v dX5_costWith_86 mX5_297 hT.q7.o (c_find J4 L (fx := lfx (lyF s.1 (fxs (fxs (lfx s.1) p (a + 1)) q (b + 1)))) hT.q7 (pcs_ok ok3) ok3.2.2.2.2.2.2.1 ok3.2.2.2.2.2.2.2.1 ok3.2.2.2.2.2.2.2.2.1 (by omega) h4.1 hu3 hu1) (by decide) (Nat.le_of_ble_eq_true rfl) ⟨Nat.le_refl _, Nat.le_refl _⟩ (fun J5 h5 => ?_)
      refine z_aload_n dX5_costWith_89 rfl ?_
      refine z_getr dX5_costWith_90 fX5_49 hT.o hT.r7 ?_
      refine z_geti dX5_costWith_93 fX5_154 hT.q7.o ?_
      refine z_top ((show _ = nI (bst (lyF s.1 (fxs (fxs (lfx s.1) p (a + 1)) q (b + 1)))).1 from by rw [h5.1.2.2.2.1]; exact congrArg nI (srU_bst ok3 u).1)) ?_
      exact z_iret dX5_costWith_96 ⟨Nat.le_refl _, Nat.le_refl _⟩ rfl ⟨rfl, rfl, rfl, _, ⟨by rw [cW, zif_t ⟨h20, h33⟩], zCI_tr hI (fun p hp => by rw [h5.2 p (by omega), h4.2 p (by omega), h3.2 p (by omega), h2.2 p (by omega), h1.2 p (by omega)]) ⟨_, srU_u ok3 hu1, h5.1.2.2.2.2.2.1⟩, fun p hp => by rw [h5.2 p (by omega), h4.2 p (by omega), h3.2 p (by omega), h2.2 p (by omega), h1.2 p (by omega)]⟩, rfl⟩
    · refine z_iconst (-1) dX5_costWith_36 (by decide) ?_
      exact z_iret dX5_costWith_37 ⟨Nat.le_refl _, Nat.le_refl _⟩ rfl ⟨rfl, rfl, rfl, _, ⟨by rw [cW, zif_f (fun c => by first | exact h20 c.1 | exact h33 c.2)], zCI_tr hI (fun p hp => h1.2 p (by omega)) (by rw [h1.2 33 (by omega)]; exact hr.2.1), fun p hp => h1.2 p (by omega)⟩, rfl⟩
set_option maxRecDepth 100000 in
set_option maxHeartbeats 4000000 in
theorem t_pair0 {S : zS} {R : zMR} (I : zMI) (L : zML) {s : St} (hT : zTM S R) (hI : zCI I s) (a c : Int32) : zM0 yX5_pair cX5_pair 7 (some .int) 22 [.ref 0, .int a, .int c, .int (nI 0)] S I L R (zPi L (fun I2 r => r = aPair s a.toInt c.toInt 0 ∧ zCI I2 s ∧ ∀ p, 96 ≤ p → I2 p = I p)) := by
  refine zM0_of (own := RX5) (lv := [some (.ref 0), some (.int a), some (.int c), some (.int (nI 0)), none, none, none]) rfl (by decide) rfl rfl ?_
  obtain ⟨hv, ho, hP, hk, hr⟩ := id hI
  obtain ⟨nx, hh⟩ := id hr.2.2.1
  have hl := ho.1
  have hnp := ho.2.2.1
  have hps := pcs_ok ho
  have hpl := pcs_len s.1.1
  refine z_aload_n dX5_pair_0 rfl ?_
  refine z_iload_n dX5_pair_1 rfl ?_
  refine z_iload_n dX5_pair_2 rfl ?_
  refine z_callV2p dX5_pair_3 mX5_257 hT.o (c_areTwo I L hT hI _ _) (by decide) (Nat.le_of_ble_eq_true rfl) ⟨Nat.le_refl _, Nat.le_refl _⟩ ?_
  refine z_if_neB (tgt := 12) dX5_pair_6 (by decide) (fun h6 => ?_) (fun h6 => ?_)
  · obtain ⟨p, hp, rfl⟩ := nI_of3 (x := a) (n := (pcs s.1.1).length) h6.1.1 h6.1.2 (by omega)
    obtain ⟨q, hq, rfl⟩ := nI_of3 (x := c) (n := (pcs s.1.1).length) h6.2.1.1 h6.2.1.2 (by omega)
    have hpa : (nI p).toInt = (p : Int) := nI_T (by omega)
    have hqa : (nI q).toInt = (q : Int) := nI_T (by omega)
    refine z_iconst (-1) dX5_pair_12 (by decide) ?_
    refine z_ist4 dX5_pair_13 rfl ?_
    refine z_iconst (nI 0) dX5_pair_15 (by decide) ?_
    refine z_ist5 dX5_pair_16 rfl ?_
    refine z_iload dX5_pair_18 rfl ?_
    refine z_iconst (nI 1) dX5_pair_20 (by decide) ?_
    refine z_icmp_gtNN (tgt := 76) dX5_pair_21 (by decide) (by omega) (by omega) (fun h21 => absurd h21 (by decide)) (fun _ => ?_)
    refine z_aload_n dX5_pair_24 rfl ?_
    refine z_iload_n dX5_pair_25 rfl ?_
    refine z_iload dX5_pair_26 rfl ?_
    refine z_iload_n dX5_pair_28 rfl ?_
    refine z_iload_n dX5_pair_29 rfl ?_
    refine z_if_eqN (tgt := 38) dX5_pair_30 (by decide) (by omega) (fun _ => ?_) (fun h30 => absurd h30 (by decide))
    refine z_iconst (nI 1) dX5_pair_38 (by decide) ?_
    refine z_iload dX5_pair_39 rfl ?_
    refine z_isubN dX5_pair_41 (by omega) ?_
    refine z_callV4i dX5_pair_42 mX5_282 hT.o (c_costWith I L hT hI p 0 q 1 (by omega) (by omega) (by omega) (by omega)) (by decide) (Nat.le_of_ble_eq_true rfl) ⟨Nat.le_refl _, Nat.le_refl _⟩ (fun J1 v1 h1 => ?_)
    refine z_ist6 dX5_pair_45 rfl ?_
    refine z_iload dX5_pair_47 rfl ?_
    refine z_iconst (-1) dX5_pair_49 (by decide) ?_
    refine z_icmp_eq (tgt := 70) dX5_pair_50 (by decide) (fun h50 => ?_) (fun h50 => ?_)
    · have e1 : lst (-1) v1 = (-1) := by rw [lst, zif_t h50]
      refine z_iincN5 (n := 1) dX5_pair_70 rfl ?_
      refine z_goto (tgt := 18) dX5_pair_73 (by decide) ?_
      refine z_iload dX5_pair_18 rfl ?_
      refine z_iconst (nI 1) dX5_pair_20 (by decide) ?_
      refine z_icmp_gtNN (tgt := 76) dX5_pair_21 (by decide) (by omega) (by omega) (fun h21 => absurd h21 (by decide)) (fun _ => ?_)
      refine z_aload_n dX5_pair_24 rfl ?_
      refine z_iload_n dX5_pair_25 rfl ?_
      refine z_iload dX5_pair_26 rfl ?_
      refine z_iload_n dX5_pair_28 rfl ?_
      refine z_iload_n dX5_pair_29 rfl ?_
      refine z_if_eqN (tgt := 38) dX5_pair_30 (by decide) (by omega) (fun _ => ?_) (fun h30 => absurd h30 (by decide))
      refine z_iconst (nI 1) dX5_pair_38 (by decide) ?_
      refine z_iload dX5_pair_39 rfl ?_
      refine z_isubN dX5_pair_41 (by omega) ?_
      refine z_callV4i dX5_pair_42 mX5_282 hT.o (c_costWith J1 L hT h1.2.1 p 1 q 0 (by omega) (by omega) (by omega) (by omega)) (by decide) (Nat.le_of_ble_eq_true rfl) ⟨Nat.le_refl _, Nat.le_refl _⟩ (fun J2 v2 h2 => ?_)
      refine z_ist6 dX5_pair_45 rfl ?_
      refine z_iload dX5_pair_47 rfl ?_
      refine z_iconst (-1) dX5_pair_49 (by decide) ?_
      refine z_icmp_eq (tgt := 70) dX5_pair_50 (by decide) (fun h50 => ?_) (fun h50 => ?_)
      · have e2 : ∀ x, lst x v2 = x := fun x => by rw [lst, zif_t h50]
        refine z_iincN5 (n := 1) dX5_pair_70 rfl ?_
        refine z_goto (tgt := 18) dX5_pair_73 (by decide) ?_
        refine z_iload dX5_pair_18 rfl ?_
        refine z_iconst (nI 1) dX5_pair_20 (by decide) ?_
        refine z_icmp_gtNN (tgt := 76) dX5_pair_21 (by decide) (by omega) (by omega) (fun _ => ?_) (fun h21 => absurd h21 (by decide))
        refine z_iload dX5_pair_76 rfl ?_
        exact z_iret dX5_pair_78 ⟨Nat.le_refl _, Nat.le_refl _⟩ rfl ⟨rfl, rfl, rfl, _, ⟨by rw [aPair, zif_t h6, hpa, hqa, Int.toNat_natCast, Int.toNat_natCast]; show _ = lst (lst (-1) (cW s.1 p 0 q 1)) (cW s.1 p 1 q 0); rw [← h1.1, ← h2.1, e1, e2], h2.2.1, fun p hp => by rw [h2.2.2 p (by omega), h1.2.2 p (by omega)]⟩, rfl⟩
      · have e2 : lst (-1) v2 = v2 := by rw [lst, zif_f h50, zif_t (Or.inl rfl)]
        refine z_iload dX5_pair_53 rfl ?_
        refine z_iconst (-1) dX5_pair_55 (by decide) ?_
        refine z_icmp_eq (tgt := 66) dX5_pair_56 (by decide) (fun _ => ?_) (fun h56 => absurd rfl h56)
        refine z_iload dX5_pair_66 rfl ?_
        refine z_ist4 dX5_pair_68 rfl ?_
        refine z_iincN5 (n := 1) dX5_pair_70 rfl ?_
        refine z_goto (tgt := 18) dX5_pair_73 (by decide) ?_
        refine z_iload dX5_pair_18 rfl ?_
        refine z_iconst (nI 1) dX5_pair_20 (by decide) ?_
        refine z_icmp_gtNN (tgt := 76) dX5_pair_21 (by decide) (by omega) (by omega) (fun _ => ?_) (fun h21 => absurd h21 (by decide))
        refine z_iload dX5_pair_76 rfl ?_
        exact z_iret dX5_pair_78 ⟨Nat.le_refl _, Nat.le_refl _⟩ rfl ⟨rfl, rfl, rfl, _, ⟨by rw [aPair, zif_t h6, hpa, hqa, Int.toNat_natCast, Int.toNat_natCast]; show _ = lst (lst (-1) (cW s.1 p 0 q 1)) (cW s.1 p 1 q 0); rw [← h1.1, ← h2.1, e1, e2], h2.2.1, fun p hp => by rw [h2.2.2 p (by omega), h1.2.2 p (by omega)]⟩, rfl⟩
    · have e1 : lst (-1) v1 = v1 := by rw [lst, zif_f h50, zif_t (Or.inl rfl)]
      refine z_iload dX5_pair_53 rfl ?_
      refine z_iconst (-1) dX5_pair_55 (by decide) ?_
      refine z_icmp_eq (tgt := 66) dX5_pair_56 (by decide) (fun _ => ?_) (fun h56 => absurd rfl h56)
      refine z_iload dX5_pair_66 rfl ?_
      refine z_ist4 dX5_pair_68 rfl ?_
      refine z_iincN5 (n := 1) dX5_pair_70 rfl ?_
      refine z_goto (tgt := 18) dX5_pair_73 (by decide) ?_
      refine z_iload dX5_pair_18 rfl ?_
      refine z_iconst (nI 1) dX5_pair_20 (by decide) ?_
      refine z_icmp_gtNN (tgt := 76) dX5_pair_21 (by decide) (by omega) (by omega) (fun h21 => absurd h21 (by decide)) (fun _ => ?_)
      refine z_aload_n dX5_pair_24 rfl ?_
      refine z_iload_n dX5_pair_25 rfl ?_
      refine z_iload dX5_pair_26 rfl ?_
      refine z_iload_n dX5_pair_28 rfl ?_
      refine z_iload_n dX5_pair_29 rfl ?_
      refine z_if_eqN (tgt := 38) dX5_pair_30 (by decide) (by omega) (fun _ => ?_) (fun h30 => absurd h30 (by decide))
      refine z_iconst (nI 1) dX5_pair_38 (by decide) ?_
      refine z_iload dX5_pair_39 rfl ?_
      refine z_isubN dX5_pair_41 (by omega) ?_
      refine z_callV4i dX5_pair_42 mX5_282 hT.o (c_costWith J1 L hT h1.2.1 p 1 q 0 (by omega) (by omega) (by omega) (by omega)) (by decide) (Nat.le_of_ble_eq_true rfl) ⟨Nat.le_refl _, Nat.le_refl _⟩ (fun J2 v2 h2 => ?_)
      refine z_ist6 dX5_pair_45 rfl ?_
      refine z_iload dX5_pair_47 rfl ?_
      refine z_iconst (-1) dX5_pair_49 (by decide) ?_
      refine z_icmp_eq (tgt := 70) dX5_pair_50 (by decide) (fun h50 => ?_) (fun h50 => ?_)
      · have e2 : ∀ x, lst x v2 = x := fun x => by rw [lst, zif_t h50]
        refine z_iincN5 (n := 1) dX5_pair_70 rfl ?_
        refine z_goto (tgt := 18) dX5_pair_73 (by decide) ?_
        refine z_iload dX5_pair_18 rfl ?_
        refine z_iconst (nI 1) dX5_pair_20 (by decide) ?_
        refine z_icmp_gtNN (tgt := 76) dX5_pair_21 (by decide) (by omega) (by omega) (fun _ => ?_) (fun h21 => absurd h21 (by decide))
        refine z_iload dX5_pair_76 rfl ?_
        exact z_iret dX5_pair_78 ⟨Nat.le_refl _, Nat.le_refl _⟩ rfl ⟨rfl, rfl, rfl, _, ⟨by rw [aPair, zif_t h6, hpa, hqa, Int.toNat_natCast, Int.toNat_natCast]; show _ = lst (lst (-1) (cW s.1 p 0 q 1)) (cW s.1 p 1 q 0); rw [← h1.1, ← h2.1, e1, e2], h2.2.1, fun p hp => by rw [h2.2.2 p (by omega), h1.2.2 p (by omega)]⟩, rfl⟩
      · refine z_iload dX5_pair_53 rfl ?_
        refine z_iconst (-1) dX5_pair_55 (by decide) ?_
        refine z_icmp_eq (tgt := 66) dX5_pair_56 (by decide) (fun h56 => ?_) (fun h56 => ?_)
        · have e2 : lst v1 v2 = v2 := by rw [lst, zif_f h50, zif_t (Or.inl h56)]
          refine z_iload dX5_pair_66 rfl ?_
          refine z_ist4 dX5_pair_68 rfl ?_
          refine z_iincN5 (n := 1) dX5_pair_70 rfl ?_
          refine z_goto (tgt := 18) dX5_pair_73 (by decide) ?_
          refine z_iload dX5_pair_18 rfl ?_
          refine z_iconst (nI 1) dX5_pair_20 (by decide) ?_
          refine z_icmp_gtNN (tgt := 76) dX5_pair_21 (by decide) (by omega) (by omega) (fun _ => ?_) (fun h21 => absurd h21 (by decide))
          refine z_iload dX5_pair_76 rfl ?_
          exact z_iret dX5_pair_78 ⟨Nat.le_refl _, Nat.le_refl _⟩ rfl ⟨rfl, rfl, rfl, _, ⟨by rw [aPair, zif_t h6, hpa, hqa, Int.toNat_natCast, Int.toNat_natCast]; show _ = lst (lst (-1) (cW s.1 p 0 q 1)) (cW s.1 p 1 q 0); rw [← h1.1, ← h2.1, e1, e2], h2.2.1, fun p hp => by rw [h2.2.2 p (by omega), h1.2.2 p (by omega)]⟩, rfl⟩
        · refine z_iload dX5_pair_59 rfl ?_
          refine z_iload dX5_pair_61 rfl ?_
          refine z_icmp_ge (tgt := 70) dX5_pair_63 (by decide) (fun h63 => ?_) (fun h63 => ?_)
          · have e2 : lst v1 v2 = v1 := by rw [lst, zif_f h50, zif_f (fun q => q.elim h56 (by omega))]
            refine z_iincN5 (n := 1) dX5_pair_70 rfl ?_
            refine z_goto (tgt := 18) dX5_pair_73 (by decide) ?_
            refine z_iload dX5_pair_18 rfl ?_
            refine z_iconst (nI 1) dX5_pair_20 (by decide) ?_
            refine z_icmp_gtNN (tgt := 76) dX5_pair_21 (by decide) (by omega) (by omega) (fun _ => ?_) (fun h21 => absurd h21 (by decide))
            refine z_iload dX5_pair_76 rfl ?_
            exact z_iret dX5_pair_78 ⟨Nat.le_refl _, Nat.le_refl _⟩ rfl ⟨rfl, rfl, rfl, _, ⟨by rw [aPair, zif_t h6, hpa, hqa, Int.toNat_natCast, Int.toNat_natCast]; show _ = lst (lst (-1) (cW s.1 p 0 q 1)) (cW s.1 p 1 q 0); rw [← h1.1, ← h2.1, e1, e2], h2.2.1, fun p hp => by rw [h2.2.2 p (by omega), h1.2.2 p (by omega)]⟩, rfl⟩
          · have e2 : lst v1 v2 = v2 := by rw [lst, zif_f h50, zif_t (Or.inr (by omega))]
            refine z_iload dX5_pair_66 rfl ?_
            refine z_ist4 dX5_pair_68 rfl ?_
            refine z_iincN5 (n := 1) dX5_pair_70 rfl ?_
            refine z_goto (tgt := 18) dX5_pair_73 (by decide) ?_
            refine z_iload dX5_pair_18 rfl ?_
            refine z_iconst (nI 1) dX5_pair_20 (by decide) ?_
            refine z_icmp_gtNN (tgt := 76) dX5_pair_21 (by decide) (by omega) (by omega) (fun _ => ?_) (fun h21 => absurd h21 (by decide))
            refine z_iload dX5_pair_76 rfl ?_
            exact z_iret dX5_pair_78 ⟨Nat.le_refl _, Nat.le_refl _⟩ rfl ⟨rfl, rfl, rfl, _, ⟨by rw [aPair, zif_t h6, hpa, hqa, Int.toNat_natCast, Int.toNat_natCast]; show _ = lst (lst (-1) (cW s.1 p 0 q 1)) (cW s.1 p 1 q 0); rw [← h1.1, ← h2.1, e1, e2], h2.2.1, fun p hp => by rw [h2.2.2 p (by omega), h1.2.2 p (by omega)]⟩, rfl⟩
  · refine z_ldc dX5_pair_9 kX5_94 ?_
    exact z_iret dX5_pair_11 ⟨Nat.le_refl _, Nat.le_refl _⟩ rfl ⟨rfl, rfl, rfl, _, ⟨by rw [aPair, zif_f h6], hI, fun p _ => rfl⟩, rfl⟩
set_option maxRecDepth 100000 in
set_option maxHeartbeats 4000000 in
theorem t_pair1 {S : zS} {R : zMR} (I : zMI) (L : zML) {s : St} (hT : zTM S R) (hI : zCI I s) (a c : Int32) : zM0 yX5_pair cX5_pair 7 (some .int) 22 [.ref 0, .int a, .int c, .int (nI 1)] S I L R (zPi L (fun I2 r => r = aPair s a.toInt c.toInt 1 ∧ zCI I2 s ∧ ∀ p, 96 ≤ p → I2 p = I p)) := by
  refine zM0_of (own := RX5) (lv := [some (.ref 0), some (.int a), some (.int c), some (.int (nI 1)), none, none, none]) rfl (by decide) rfl rfl ?_
  obtain ⟨hv, ho, hP, hk, hr⟩ := id hI
  obtain ⟨nx, hh⟩ := id hr.2.2.1
  have hl := ho.1
  have hnp := ho.2.2.1
  have hps := pcs_ok ho
  have hpl := pcs_len s.1.1
  refine z_aload_n dX5_pair_0 rfl ?_
  refine z_iload_n dX5_pair_1 rfl ?_
  refine z_iload_n dX5_pair_2 rfl ?_
  refine z_callV2p dX5_pair_3 mX5_257 hT.o (c_areTwo I L hT hI _ _) (by decide) (Nat.le_of_ble_eq_true rfl) ⟨Nat.le_refl _, Nat.le_refl _⟩ ?_
  refine z_if_neB (tgt := 12) dX5_pair_6 (by decide) (fun h6 => ?_) (fun h6 => ?_)
  · obtain ⟨p, hp, rfl⟩ := nI_of3 (x := a) (n := (pcs s.1.1).length) h6.1.1 h6.1.2 (by omega)
    obtain ⟨q, hq, rfl⟩ := nI_of3 (x := c) (n := (pcs s.1.1).length) h6.2.1.1 h6.2.1.2 (by omega)
    have hpa : (nI p).toInt = (p : Int) := nI_T (by omega)
    have hqa : (nI q).toInt = (q : Int) := nI_T (by omega)
    refine z_iconst (-1) dX5_pair_12 (by decide) ?_
    refine z_ist4 dX5_pair_13 rfl ?_
    refine z_iconst (nI 0) dX5_pair_15 (by decide) ?_
    refine z_ist5 dX5_pair_16 rfl ?_
    refine z_iload dX5_pair_18 rfl ?_
    refine z_iconst (nI 1) dX5_pair_20 (by decide) ?_
    refine z_icmp_gtNN (tgt := 76) dX5_pair_21 (by decide) (by omega) (by omega) (fun h21 => absurd h21 (by decide)) (fun _ => ?_)
    refine z_aload_n dX5_pair_24 rfl ?_
    refine z_iload_n dX5_pair_25 rfl ?_
    refine z_iload dX5_pair_26 rfl ?_
    refine z_iload_n dX5_pair_28 rfl ?_
    refine z_iload_n dX5_pair_29 rfl ?_
    refine z_if_eqN (tgt := 38) dX5_pair_30 (by decide) (by omega) (fun h30 => absurd h30 (by decide)) (fun _ => ?_)
    refine z_iload dX5_pair_33 rfl ?_
    refine z_goto (tgt := 42) dX5_pair_35 (by decide) ?_
    refine z_callV4i dX5_pair_42 mX5_282 hT.o (c_costWith I L hT hI p 0 q 0 (by omega) (by omega) (by omega) (by omega)) (by decide) (Nat.le_of_ble_eq_true rfl) ⟨Nat.le_refl _, Nat.le_refl _⟩ (fun J1 v1 h1 => ?_)
    refine z_ist6 dX5_pair_45 rfl ?_
    refine z_iload dX5_pair_47 rfl ?_
    refine z_iconst (-1) dX5_pair_49 (by decide) ?_
    refine z_icmp_eq (tgt := 70) dX5_pair_50 (by decide) (fun h50 => ?_) (fun h50 => ?_)
    · have e1 : lst (-1) v1 = (-1) := by rw [lst, zif_t h50]
      refine z_iincN5 (n := 1) dX5_pair_70 rfl ?_
      refine z_goto (tgt := 18) dX5_pair_73 (by decide) ?_
      refine z_iload dX5_pair_18 rfl ?_
      refine z_iconst (nI 1) dX5_pair_20 (by decide) ?_
      refine z_icmp_gtNN (tgt := 76) dX5_pair_21 (by decide) (by omega) (by omega) (fun h21 => absurd h21 (by decide)) (fun _ => ?_)
      refine z_aload_n dX5_pair_24 rfl ?_
      refine z_iload_n dX5_pair_25 rfl ?_
      refine z_iload dX5_pair_26 rfl ?_
      refine z_iload_n dX5_pair_28 rfl ?_
      refine z_iload_n dX5_pair_29 rfl ?_
      refine z_if_eqN (tgt := 38) dX5_pair_30 (by decide) (by omega) (fun h30 => absurd h30 (by decide)) (fun _ => ?_)
      refine z_iload dX5_pair_33 rfl ?_
      refine z_goto (tgt := 42) dX5_pair_35 (by decide) ?_
      refine z_callV4i dX5_pair_42 mX5_282 hT.o (c_costWith J1 L hT h1.2.1 p 1 q 1 (by omega) (by omega) (by omega) (by omega)) (by decide) (Nat.le_of_ble_eq_true rfl) ⟨Nat.le_refl _, Nat.le_refl _⟩ (fun J2 v2 h2 => ?_)
      refine z_ist6 dX5_pair_45 rfl ?_
      refine z_iload dX5_pair_47 rfl ?_
      refine z_iconst (-1) dX5_pair_49 (by decide) ?_
      refine z_icmp_eq (tgt := 70) dX5_pair_50 (by decide) (fun h50 => ?_) (fun h50 => ?_)
      · have e2 : ∀ x, lst x v2 = x := fun x => by rw [lst, zif_t h50]
        refine z_iincN5 (n := 1) dX5_pair_70 rfl ?_
        refine z_goto (tgt := 18) dX5_pair_73 (by decide) ?_
        refine z_iload dX5_pair_18 rfl ?_
        refine z_iconst (nI 1) dX5_pair_20 (by decide) ?_
        refine z_icmp_gtNN (tgt := 76) dX5_pair_21 (by decide) (by omega) (by omega) (fun _ => ?_) (fun h21 => absurd h21 (by decide))
        refine z_iload dX5_pair_76 rfl ?_
        exact z_iret dX5_pair_78 ⟨Nat.le_refl _, Nat.le_refl _⟩ rfl ⟨rfl, rfl, rfl, _, ⟨by rw [aPair, zif_t h6, hpa, hqa, Int.toNat_natCast, Int.toNat_natCast]; show _ = lst (lst (-1) (cW s.1 p 0 q 0)) (cW s.1 p 1 q 1); rw [← h1.1, ← h2.1, e1, e2], h2.2.1, fun p hp => by rw [h2.2.2 p (by omega), h1.2.2 p (by omega)]⟩, rfl⟩
      · have e2 : lst (-1) v2 = v2 := by rw [lst, zif_f h50, zif_t (Or.inl rfl)]
        refine z_iload dX5_pair_53 rfl ?_
        refine z_iconst (-1) dX5_pair_55 (by decide) ?_
        refine z_icmp_eq (tgt := 66) dX5_pair_56 (by decide) (fun _ => ?_) (fun h56 => absurd rfl h56)
        refine z_iload dX5_pair_66 rfl ?_
        refine z_ist4 dX5_pair_68 rfl ?_
        refine z_iincN5 (n := 1) dX5_pair_70 rfl ?_
        refine z_goto (tgt := 18) dX5_pair_73 (by decide) ?_
        refine z_iload dX5_pair_18 rfl ?_
        refine z_iconst (nI 1) dX5_pair_20 (by decide) ?_
        refine z_icmp_gtNN (tgt := 76) dX5_pair_21 (by decide) (by omega) (by omega) (fun _ => ?_) (fun h21 => absurd h21 (by decide))
        refine z_iload dX5_pair_76 rfl ?_
        exact z_iret dX5_pair_78 ⟨Nat.le_refl _, Nat.le_refl _⟩ rfl ⟨rfl, rfl, rfl, _, ⟨by rw [aPair, zif_t h6, hpa, hqa, Int.toNat_natCast, Int.toNat_natCast]; show _ = lst (lst (-1) (cW s.1 p 0 q 0)) (cW s.1 p 1 q 1); rw [← h1.1, ← h2.1, e1, e2], h2.2.1, fun p hp => by rw [h2.2.2 p (by omega), h1.2.2 p (by omega)]⟩, rfl⟩
    · have e1 : lst (-1) v1 = v1 := by rw [lst, zif_f h50, zif_t (Or.inl rfl)]
      refine z_iload dX5_pair_53 rfl ?_
      refine z_iconst (-1) dX5_pair_55 (by decide) ?_
      refine z_icmp_eq (tgt := 66) dX5_pair_56 (by decide) (fun _ => ?_) (fun h56 => absurd rfl h56)
      refine z_iload dX5_pair_66 rfl ?_
      refine z_ist4 dX5_pair_68 rfl ?_
      refine z_iincN5 (n := 1) dX5_pair_70 rfl ?_
      refine z_goto (tgt := 18) dX5_pair_73 (by decide) ?_
      refine z_iload dX5_pair_18 rfl ?_
      refine z_iconst (nI 1) dX5_pair_20 (by decide) ?_
      refine z_icmp_gtNN (tgt := 76) dX5_pair_21 (by decide) (by omega) (by omega) (fun h21 => absurd h21 (by decide)) (fun _ => ?_)
      refine z_aload_n dX5_pair_24 rfl ?_
      refine z_iload_n dX5_pair_25 rfl ?_
      refine z_iload dX5_pair_26 rfl ?_
      refine z_iload_n dX5_pair_28 rfl ?_
      refine z_iload_n dX5_pair_29 rfl ?_
      refine z_if_eqN (tgt := 38) dX5_pair_30 (by decide) (by omega) (fun h30 => absurd h30 (by decide)) (fun _ => ?_)
      refine z_iload dX5_pair_33 rfl ?_
      refine z_goto (tgt := 42) dX5_pair_35 (by decide) ?_
      refine z_callV4i dX5_pair_42 mX5_282 hT.o (c_costWith J1 L hT h1.2.1 p 1 q 1 (by omega) (by omega) (by omega) (by omega)) (by decide) (Nat.le_of_ble_eq_true rfl) ⟨Nat.le_refl _, Nat.le_refl _⟩ (fun J2 v2 h2 => ?_)
      refine z_ist6 dX5_pair_45 rfl ?_
      refine z_iload dX5_pair_47 rfl ?_
      refine z_iconst (-1) dX5_pair_49 (by decide) ?_
      refine z_icmp_eq (tgt := 70) dX5_pair_50 (by decide) (fun h50 => ?_) (fun h50 => ?_)
      · have e2 : ∀ x, lst x v2 = x := fun x => by rw [lst, zif_t h50]
        refine z_iincN5 (n := 1) dX5_pair_70 rfl ?_
        refine z_goto (tgt := 18) dX5_pair_73 (by decide) ?_
        refine z_iload dX5_pair_18 rfl ?_
        refine z_iconst (nI 1) dX5_pair_20 (by decide) ?_
        refine z_icmp_gtNN (tgt := 76) dX5_pair_21 (by decide) (by omega) (by omega) (fun _ => ?_) (fun h21 => absurd h21 (by decide))
        refine z_iload dX5_pair_76 rfl ?_
        exact z_iret dX5_pair_78 ⟨Nat.le_refl _, Nat.le_refl _⟩ rfl ⟨rfl, rfl, rfl, _, ⟨by rw [aPair, zif_t h6, hpa, hqa, Int.toNat_natCast, Int.toNat_natCast]; show _ = lst (lst (-1) (cW s.1 p 0 q 0)) (cW s.1 p 1 q 1); rw [← h1.1, ← h2.1, e1, e2], h2.2.1, fun p hp => by rw [h2.2.2 p (by omega), h1.2.2 p (by omega)]⟩, rfl⟩
      · refine z_iload dX5_pair_53 rfl ?_
        refine z_iconst (-1) dX5_pair_55 (by decide) ?_
        refine z_icmp_eq (tgt := 66) dX5_pair_56 (by decide) (fun h56 => ?_) (fun h56 => ?_)
        · have e2 : lst v1 v2 = v2 := by rw [lst, zif_f h50, zif_t (Or.inl h56)]
          refine z_iload dX5_pair_66 rfl ?_
          refine z_ist4 dX5_pair_68 rfl ?_
          refine z_iincN5 (n := 1) dX5_pair_70 rfl ?_
          refine z_goto (tgt := 18) dX5_pair_73 (by decide) ?_
          refine z_iload dX5_pair_18 rfl ?_
          refine z_iconst (nI 1) dX5_pair_20 (by decide) ?_
          refine z_icmp_gtNN (tgt := 76) dX5_pair_21 (by decide) (by omega) (by omega) (fun _ => ?_) (fun h21 => absurd h21 (by decide))
          refine z_iload dX5_pair_76 rfl ?_
          exact z_iret dX5_pair_78 ⟨Nat.le_refl _, Nat.le_refl _⟩ rfl ⟨rfl, rfl, rfl, _, ⟨by rw [aPair, zif_t h6, hpa, hqa, Int.toNat_natCast, Int.toNat_natCast]; show _ = lst (lst (-1) (cW s.1 p 0 q 0)) (cW s.1 p 1 q 1); rw [← h1.1, ← h2.1, e1, e2], h2.2.1, fun p hp => by rw [h2.2.2 p (by omega), h1.2.2 p (by omega)]⟩, rfl⟩
        · refine z_iload dX5_pair_59 rfl ?_
          refine z_iload dX5_pair_61 rfl ?_
          refine z_icmp_ge (tgt := 70) dX5_pair_63 (by decide) (fun h63 => ?_) (fun h63 => ?_)
          · have e2 : lst v1 v2 = v1 := by rw [lst, zif_f h50, zif_f (fun q => q.elim h56 (by omega))]
            refine z_iincN5 (n := 1) dX5_pair_70 rfl ?_
            refine z_goto (tgt := 18) dX5_pair_73 (by decide) ?_
            refine z_iload dX5_pair_18 rfl ?_
            refine z_iconst (nI 1) dX5_pair_20 (by decide) ?_
            refine z_icmp_gtNN (tgt := 76) dX5_pair_21 (by decide) (by omega) (by omega) (fun _ => ?_) (fun h21 => absurd h21 (by decide))
            refine z_iload dX5_pair_76 rfl ?_
            exact z_iret dX5_pair_78 ⟨Nat.le_refl _, Nat.le_refl _⟩ rfl ⟨rfl, rfl, rfl, _, ⟨by rw [aPair, zif_t h6, hpa, hqa, Int.toNat_natCast, Int.toNat_natCast]; show _ = lst (lst (-1) (cW s.1 p 0 q 0)) (cW s.1 p 1 q 1); rw [← h1.1, ← h2.1, e1, e2], h2.2.1, fun p hp => by rw [h2.2.2 p (by omega), h1.2.2 p (by omega)]⟩, rfl⟩
          · have e2 : lst v1 v2 = v2 := by rw [lst, zif_f h50, zif_t (Or.inr (by omega))]
            refine z_iload dX5_pair_66 rfl ?_
            refine z_ist4 dX5_pair_68 rfl ?_
            refine z_iincN5 (n := 1) dX5_pair_70 rfl ?_
            refine z_goto (tgt := 18) dX5_pair_73 (by decide) ?_
            refine z_iload dX5_pair_18 rfl ?_
            refine z_iconst (nI 1) dX5_pair_20 (by decide) ?_
            refine z_icmp_gtNN (tgt := 76) dX5_pair_21 (by decide) (by omega) (by omega) (fun _ => ?_) (fun h21 => absurd h21 (by decide))
            refine z_iload dX5_pair_76 rfl ?_
            exact z_iret dX5_pair_78 ⟨Nat.le_refl _, Nat.le_refl _⟩ rfl ⟨rfl, rfl, rfl, _, ⟨by rw [aPair, zif_t h6, hpa, hqa, Int.toNat_natCast, Int.toNat_natCast]; show _ = lst (lst (-1) (cW s.1 p 0 q 0)) (cW s.1 p 1 q 1); rw [← h1.1, ← h2.1, e1, e2], h2.2.1, fun p hp => by rw [h2.2.2 p (by omega), h1.2.2 p (by omega)]⟩, rfl⟩
  · refine z_ldc dX5_pair_9 kX5_94 ?_
    exact z_iret dX5_pair_11 ⟨Nat.le_refl _, Nat.le_refl _⟩ rfl ⟨rfl, rfl, rfl, _, ⟨by rw [aPair, zif_f h6], hI, fun p _ => rfl⟩, rfl⟩
