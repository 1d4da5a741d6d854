set_option maxRecDepth 100000 in
set_option maxHeartbeats 4000000 in
theorem m_turn {S : zS} {R : zMR} (I : zMI) (L : zML) {s : St} (hM : zMO S R) (hI : zDM I s) : zM0 yX6_turn cX6_turn 5 (some .int) 5 [.ref 96] S I L R (zPi L (fun I2 r => r = (oTurn s).1 ∧ zDM I2 (oTurn s).2 ∧ ∀ p, p < 96 → I2 p = I p)) := by
  refine zM0_of (own := RX6) (lv := [some (.ref 96), none, none, none, none]) rfl (by decide) rfl rfl ?_
  obtain ⟨hv, ho, hr⟩ := id hI
  have hl := ho.1
  have hnp := ho.2.2.1
  have h8 := hr.2.1
  refine z_aload_n dX6_turn_0 rfl ?_
  refine z_callV0v dX6_turn_1 mX6_143 hM.o (m_note I L hM hv ho hr) (by decide) (Nat.le_of_ble_eq_true rfl) ⟨Nat.le_refl _, Nat.le_refl _⟩ (fun J1 h1 => ?_)
  have hv1 : zMb (J1 97) 0 s.1 := by rw [h1.2.1]; exact hv
  refine z_aload_n dX6_turn_4 rfl ?_
  refine z_callV0v dX6_turn_5 mX6_146 hM.o (m_free J1 L hM hv1 hl) (by decide) (Nat.le_of_ble_eq_true rfl) ⟨Nat.le_refl _, Nat.le_refl _⟩ (fun J2 h2 => ?_)
  refine z_iconst (nI 0) dX6_turn_8 (by decide) ?_
  refine z_ist1 dX6_turn_9 rfl ?_
  have hok : lyOk (lyS (lyZ s.1) ((lyZ s.1).1.map mir)) := ho.mirror
  refine zV_mono (m_turn_l J2 L hM (v := lyZ s.1) hl ho.2.1 hok (s.1.1.length + 1) 0 J2 none none none (by show s.1.1.length + 1 ≤ _; omega) (by omega) rfl rfl rfl ⟨h2.1, stF.rfl⟩) ?_
  rintro S2 I2 L2 R2 r ⟨q1, q2, q3, v9, ⟨q4, J, q5, q6, q7⟩, q8⟩
  exact ⟨q1, q2, q3, v9, ⟨q4, zDM.frame (s := sPush s _) ⟨q5, hok, (h1.1.st h2.2).st q6⟩ q7, fun p hp => by rw [q7.1 p (by omega), q6 p (by omega), h2.2 p (by omega), h1.2.2 p (by omega) (by omega)]⟩, q8⟩
set_option maxRecDepth 100000 in
set_option maxHeartbeats 4000000 in
theorem m_undo_l {S : zS} {R : zMR} (I : zMI) (L : zML) (hM : zMO S R) {Post0 : zPost} (u : Nat) (hu : u ≤ 7) (h0 : I 96 2 = nI u) (hK : ∀ J, cpI I J 97 (fun k => I 98 (78 * u + k)) 0 78 → zV (zMt RX6 cX6_undo 2 (some .int) 0) Post0 (0, 0) S J L R 54 [some (.ref 96), some (.int (nI 78))] [])  : ∀ (n : Nat) (k : Nat) (J : zMI), 79 ≤ k + n → k ≤ 78 → cpI I J 97 (fun k => I 98 (78 * u + k)) 0 k → zV (zMt RX6 cX6_undo 2 (some .int) 0) Post0 (0, 0) S J L R 22 [some (.ref 96), some (.int (nI k))] [] := by
  intro n
  induction n with
  | zero => intro k J h1 h2 hc; omega
  | succ n ih =>
    intro k J h1 h2 hc
    refine z_iload_n dX6_undo_22 rfl ?_
    refine z_bipush (nI 78) dX6_undo_23 (by decide) ?_
    refine z_icmp_geNN (tgt := 54) dX6_undo_25 (by decide) (by omega) (by omega) (fun h25 => ?_) (fun h25 => ?_)
    · have e : k = 78 := by omega
      subst e
      exact hK J hc
    · refine z_aload_n dX6_undo_28 rfl ?_
      refine z_getr dX6_undo_29 fX6_7 hM.o hM.r0 ?_
      refine z_iload_n dX6_undo_32 rfl ?_
      refine z_aload_n dX6_undo_33 rfl ?_
      refine z_getr dX6_undo_34 fX6_13 hM.o hM.r1 ?_
      refine z_bipush (nI 78) dX6_undo_37 (by decide) ?_
      refine z_aload_n dX6_undo_39 rfl ?_
      refine z_geti dX6_undo_40 fX6_116 hM.o ?_
      refine z_top ((show _ = nI u from by rw [hc.2 96 (by decide)]; exact h0)) ?_
      refine z_imulN dX6_undo_43 ?_
      refine z_iload_n dX6_undo_44 rfl ?_
      refine z_iaddN dX6_undo_45 ?_
      refine z_iaN dX6_undo_46 hM.a1 (by omega) (by decide) ?_
      refine z_isN dX6_undo_47 hM.a0 (by omega) (by decide) ?_
      refine z_iincN1 (n := 1) dX6_undo_48 rfl ?_
      refine z_goto (tgt := 22) dX6_undo_51 (by decide) ?_
      exact ih (k + 1) _ (by omega) (by omega) (cp_s hc (by omega) (by rw [hc.2 98 (by decide)]))
theorem pop_ok {I J : zMI} {s : St} (hI : zDM I s) (hne : s.2.1 ≠ []) (h2 : J 96 2 = nI (s.2.1.length - 1)) (hc : cpI (zu I 96 2 (nI (s.2.1.length - 1))) J 97 (fun k => zu I 96 2 (nI (s.2.1.length - 1)) 98 (78 * (s.2.1.length - 1) + k)) 0 78) : zDM J (s.2.1.getLastD s.1, s.2.1.dropLast, s.2.2) := by
  obtain ⟨hv, ho, g1, g2, g3, g4, g5⟩ := hI
  have hlen : 0 < s.2.1.length := List.length_pos_iff.mpr hne
  have e : s.2.1[s.2.1.length - 1]? = some (s.2.1.getLastD s.1) := by
    rw [List.getLastD_eq_getLast?, ← List.getLast?_eq_getElem?]
    rw [List.getLast?_eq_some_getLast hne]
    rfl
  obtain ⟨z1, z2⟩ := g3 _ _ e
  have f : ∀ q, q ≠ 96 → q ≠ 97 → J q = I q := fun q a b => by rw [hc.2 q b, zu_ne a]
  refine ⟨?_, z2, ?_, by rw [List.length_dropLast]; omega, fun i v hi => ?_, g4.frame (f 100 (by decide) (by decide)) (f 99 (by decide) (by decide)), g5.frame (f 100 (by decide) (by decide)) (f 99 (by decide) (by decide))⟩
  · refine z1.copy z2.1 (fun k hk => ?_)
    rw [cp_in hc hk, zu_ne (by decide)]
  · rw [h2, List.length_dropLast]
  · have hi2 := getL_lt hi
    rw [List.getElem?_dropLast, if_pos (by rw [List.length_dropLast] at hi2; omega)] at hi
    rw [f 98 (by decide) (by decide)]
    exact g3 i v hi
set_option maxRecDepth 100000 in
set_option maxHeartbeats 4000000 in
theorem m_undo {S : zS} {R : zMR} (I : zMI) (L : zML) {s : St} (hM : zMO S R) (hI : zDM I s) : zM0 yX6_undo cX6_undo 2 (some .int) 0 [.ref 96] S I L R (zPi L (fun I2 r => r = (oUndo s).1 ∧ zDM I2 (oUndo s).2 ∧ ∀ p, p < 96 → I2 p = I p)) := by
  refine zM0_of (own := RX6) (lv := [some (.ref 96), none]) rfl (by decide) rfl rfl ?_
  obtain ⟨hv, ho, hr⟩ := id hI
  have hl := ho.1
  have hnp := ho.2.2.1
  have h8 := hr.2.1
  refine z_aload_n dX6_undo_0 rfl ?_
  refine z_geti dX6_undo_1 fX6_116 hM.o ?_
  refine z_top (hr.1) ?_
  refine z_if_neN (tgt := 10) dX6_undo_4 (by decide) (by omega) (fun h4 => ?_) (fun h4 => ?_)
  · have hne : s.2.1 ≠ [] := fun e => by rw [e] at h4; simp at h4
    refine z_aload_n dX6_undo_10 rfl ?_
    refine z_dup dX6_undo_11 rfl ?_
    refine z_geti dX6_undo_12 fX6_116 hM.o ?_
    refine z_top (hr.1) ?_
    refine z_iconst (nI 1) dX6_undo_15 (by decide) ?_
    refine z_isubN dX6_undo_16 (by omega) ?_
    refine z_puti dX6_undo_17 fX6_116 hM.o ?_
    refine z_iconst (nI 0) dX6_undo_20 (by decide) ?_
    refine z_ist1 dX6_undo_21 rfl ?_
    refine m_undo_l (zu I 96 2 (nI (s.2.1.length - 1))) L hM (s.2.1.length - 1) (by omega) zu_same ?_ 79 0 _ (by omega) (by omega) (cp_0 _ _ _ _)
    intro J hc
    refine z_aload_n dX6_undo_54 rfl ?_
    refine z_geti dX6_undo_55 fX6_116 hM.o ?_
    refine z_top ((show _ = nI (s.2.1.length - 1) from by rw [hc.2 96 (by decide), zu_same])) ?_
    exact z_iret dX6_undo_58 ⟨Nat.le_refl _, Nat.le_refl _⟩ rfl ⟨rfl, rfl, rfl, _, ⟨by rw [oUndo, pif_f hne], by rw [oUndo, pif_f hne]; exact pop_ok hI hne (by rw [hc.2 96 (by decide), zu_same]) hc, fun p hp => by rw [hc.2 p (by omega), zu_ne (by omega)]⟩, rfl⟩
  · refine z_ldc dX6_undo_7 kX6_137 ?_
    exact z_iret dX6_undo_9 ⟨Nat.le_refl _, Nat.le_refl _⟩ rfl ⟨rfl, rfl, rfl, _, ⟨by rw [oUndo, pif_t (List.length_eq_zero_iff.mp h4)], by rw [oUndo, pif_t (List.length_eq_zero_iff.mp h4)]; exact hI, fun p _ => rfl⟩, rfl⟩
set_option maxRecDepth 100000 in
set_option maxHeartbeats 4000000 in
theorem m_keep_l0 {S : zS} {R : zMR} (I : zMI) (L : zML) (hM : zMO S R) {Post0 : zPost} (hK : ∀ J, cpI I J 99 (I 97) (78 * 0) 78 → zV (zMt RX6 cX6_keep 3 (some .int) 1) Post0 (0, 0) S J L R 44 [some (.ref 96), some (.int (nI 0)), some (.int (nI 78))] [])  : ∀ (n : Nat) (k : Nat) (J : zMI), 79 ≤ k + n → k ≤ 78 → cpI I J 99 (I 97) (78 * 0) k → zV (zMt RX6 cX6_keep 3 (some .int) 1) Post0 (0, 0) S J L R 15 [some (.ref 96), some (.int (nI 0)), some (.int (nI k))] [] := by
  intro n
  induction n with
  | zero => intro k J h1 h2 hc; omega
  | succ n ih =>
    intro k J h1 h2 hc
    refine z_iload_n dX6_keep_15 rfl ?_
    refine z_bipush (nI 78) dX6_keep_16 (by decide) ?_
    refine z_icmp_geNN (tgt := 44) dX6_keep_18 (by decide) (by omega) (by omega) (fun h18 => ?_) (fun h18 => ?_)
    · have e : k = 78 := by omega
      subst e
      exact hK J hc
    · refine z_aload_n dX6_keep_21 rfl ?_
      refine z_getr dX6_keep_22 fX6_16 hM.o hM.r3 ?_
      refine z_bipush (nI 78) dX6_keep_25 (by decide) ?_
      refine z_iload_n dX6_keep_27 rfl ?_
      refine z_imulN dX6_keep_28 ?_
      refine z_iload_n dX6_keep_29 rfl ?_
      refine z_iaddN dX6_keep_30 ?_
      refine z_aload_n dX6_keep_31 rfl ?_
      refine z_getr dX6_keep_32 fX6_7 hM.o hM.r0 ?_
      refine z_iload_n dX6_keep_35 rfl ?_
      refine z_iaN dX6_keep_36 hM.a0 (by omega) (by decide) ?_
      refine z_isN dX6_keep_37 hM.a3 (by omega) (by decide) ?_
      refine z_iincN2 (n := 1) dX6_keep_38 rfl ?_
      refine z_goto (tgt := 15) dX6_keep_41 (by decide) ?_
      exact ih (k + 1) _ (by omega) (by omega) (cp_s hc rfl (by rw [hc.2 97 (by decide)]))
set_option maxRecDepth 100000 in
set_option maxHeartbeats 4000000 in
theorem m_goBack_l0 {S : zS} {R : zMR} (I : zMI) (L : zML) (hM : zMO S R) {Post0 : zPost} (hK : ∀ J, cpI I J 97 (fun k => I 99 (78 * 0 + k)) 0 78 → zV (zMt RX6 cX6_goBack 3 (some .int) 1) Post0 (0, 0) S J L R 56 [some (.ref 96), some (.int (nI 0)), some (.int (nI 78))] [])  : ∀ (n : Nat) (k : Nat) (J : zMI), 79 ≤ k + n → k ≤ 78 → cpI I J 97 (fun k => I 99 (78 * 0 + k)) 0 k → zV (zMt RX6 cX6_goBack 3 (some .int) 1) Post0 (0, 0) S J L R 27 [some (.ref 96), some (.int (nI 0)), some (.int (nI k))] [] := by
  intro n
  induction n with
  | zero => intro k J h1 h2 hc; omega
  | succ n ih =>
    intro k J h1 h2 hc
    refine z_iload_n dX6_goBack_27 rfl ?_
    refine z_bipush (nI 78) dX6_goBack_28 (by decide) ?_
    refine z_icmp_geNN (tgt := 56) dX6_goBack_30 (by decide) (by omega) (by omega) (fun h30 => ?_) (fun h30 => ?_)
    · have e : k = 78 := by omega
      subst e
      exact hK J hc
    · refine z_aload_n dX6_goBack_33 rfl ?_
      refine z_getr dX6_goBack_34 fX6_7 hM.o hM.r0 ?_
      refine z_iload_n dX6_goBack_37 rfl ?_
      refine z_aload_n dX6_goBack_38 rfl ?_
      refine z_getr dX6_goBack_39 fX6_16 hM.o hM.r3 ?_
      refine z_bipush (nI 78) dX6_goBack_42 (by decide) ?_
      refine z_iload_n dX6_goBack_44 rfl ?_
      refine z_imulN dX6_goBack_45 ?_
      refine z_iload_n dX6_goBack_46 rfl ?_
      refine z_iaddN dX6_goBack_47 ?_
      refine z_iaN dX6_goBack_48 hM.a3 (by omega) (by decide) ?_
      refine z_isN dX6_goBack_49 hM.a0 (by omega) (by decide) ?_
      refine z_iincN2 (n := 1) dX6_goBack_50 rfl ?_
      refine z_goto (tgt := 27) dX6_goBack_53 (by decide) ?_
      exact ih (k + 1) _ (by omega) (by omega) (cp_s hc (by omega) (by rw [hc.2 99 (by decide)]))
set_option maxRecDepth 100000 in
set_option maxHeartbeats 4000000 in
theorem m_keep_l1 {S : zS} {R : zMR} (I : zMI) (L : zML) (hM : zMO S R) {Post0 : zPost} (hK : ∀ J, cpI I J 99 (I 97) (78 * 1) 78 → zV (zMt RX6 cX6_keep 3 (some .int) 1) Post0 (0, 0) S J L R 44 [some (.ref 96), some (.int (nI 1)), some (.int (nI 78))] [])  : ∀ (n : Nat) (k : Nat) (J : zMI), 79 ≤ k + n → k ≤ 78 → cpI I J 99 (I 97) (78 * 1) k → zV (zMt RX6 cX6_keep 3 (some .int) 1) Post0 (0, 0) S J L R 15 [some (.ref 96), some (.int (nI 1)), some (.int (nI k))] [] := by
  intro n
  induction n with
  | zero => intro k J h1 h2 hc; omega
  | succ n ih =>
    intro k J h1 h2 hc
    refine z_iload_n dX6_keep_15 rfl ?_
    refine z_bipush (nI 78) dX6_keep_16 (by decide) ?_
    refine z_icmp_geNN (tgt := 44) dX6_keep_18 (by decide) (by omega) (by omega) (fun h18 => ?_) (fun h18 => ?_)
    · have e : k = 78 := by omega
      subst e
      exact hK J hc
    · refine z_aload_n dX6_keep_21 rfl ?_
      refine z_getr dX6_keep_22 fX6_16 hM.o hM.r3 ?_
      refine z_bipush (nI 78) dX6_keep_25 (by decide) ?_
      refine z_iload_n dX6_keep_27 rfl ?_
      refine z_imulN dX6_keep_28 ?_
      refine z_iload_n dX6_keep_29 rfl ?_
      refine z_iaddN dX6_keep_30 ?_
      refine z_aload_n dX6_keep_31 rfl ?_
      refine z_getr dX6_keep_32 fX6_7 hM.o hM.r0 ?_
      refine z_iload_n dX6_keep_35 rfl ?_
      refine z_iaN dX6_keep_36 hM.a0 (by omega) (by decide) ?_
      refine z_isN dX6_keep_37 hM.a3 (by omega) (by decide) ?_
      refine z_iincN2 (n := 1) dX6_keep_38 rfl ?_
      refine z_goto (tgt := 15) dX6_keep_41 (by decide) ?_
      exact ih (k + 1) _ (by omega) (by omega) (cp_s hc rfl (by rw [hc.2 97 (by decide)]))
set_option maxRecDepth 100000 in
set_option maxHeartbeats 4000000 in
theorem m_goBack_l1 {S : zS} {R : zMR} (I : zMI) (L : zML) (hM : zMO S R) {Post0 : zPost} (hK : ∀ J, cpI I J 97 (fun k => I 99 (78 * 1 + k)) 0 78 → zV (zMt RX6 cX6_goBack 3 (some .int) 1) Post0 (0, 0) S J L R 56 [some (.ref 96), some (.int (nI 1)), some (.int (nI 78))] [])  : ∀ (n : Nat) (k : Nat) (J : zMI), 79 ≤ k + n → k ≤ 78 → cpI I J 97 (fun k => I 99 (78 * 1 + k)) 0 k → zV (zMt RX6 cX6_goBack 3 (some .int) 1) Post0 (0, 0) S J L R 27 [some (.ref 96), some (.int (nI 1)), some (.int (nI k))] [] := by
  intro n
  induction n with
  | zero => intro k J h1 h2 hc; omega
  | succ n ih =>
    intro k J h1 h2 hc
    refine z_iload_n dX6_goBack_27 rfl ?_
    refine z_bipush (nI 78) dX6_goBack_28 (by decide) ?_
    refine z_icmp_geNN (tgt := 56) dX6_goBack_30 (by decide) (by omega) (by omega) (fun h30 => ?_) (fun h30 => ?_)
    · have e : k = 78 := by omega
      subst e
      exact hK J hc
    · refine z_aload_n dX6_goBack_33 rfl ?_
      refine z_getr dX6_goBack_34 fX6_7 hM.o hM.r0 ?_
      refine z_iload_n dX6_goBack_37 rfl ?_
      refine z_aload_n dX6_goBack_38 rfl ?_
      refine z_getr dX6_goBack_39 fX6_16 hM.o hM.r3 ?_
      refine z_bipush (nI 78) dX6_goBack_42 (by decide) ?_
      refine z_iload_n dX6_goBack_44 rfl ?_
      refine z_imulN dX6_goBack_45 ?_
      refine z_iload_n dX6_goBack_46 rfl ?_
      refine z_iaddN dX6_goBack_47 ?_
      refine z_iaN dX6_goBack_48 hM.a3 (by omega) (by decide) ?_
      refine z_isN dX6_goBack_49 hM.a0 (by omega) (by decide) ?_
      refine z_iincN2 (n := 1) dX6_goBack_50 rfl ?_
      refine z_goto (tgt := 27) dX6_goBack_53 (by decide) ?_
      exact ih (k + 1) _ (by omega) (by omega) (cp_s hc (by omega) (by rw [hc.2 99 (by decide)]))
theorem keep_ok0 {I J : zMI} {s : St} (hI : zDM I s) (hc : cpI I J 99 (I 97) (78 * 0) 78) : zDM (zu (zu J 100 0 (nI 1)) 96 2 (nI 0)) (s.1, [], some s.1, s.2.2.2) := by
  obtain ⟨hv, ho, g1, g2, g3, g4, g5⟩ := hI
  refine ⟨by rw [zu_ne (by decide), zu_ne (by decide), hc.2 97 (by decide)]; exact hv, ho, zu_same, by simp, fun i v hi => by simp at hi, Or.inr ⟨s.1, rfl, by rw [zu_ne (by decide), zu_same], ?_, ho⟩, ?_⟩
  · rw [zu_ne (by decide), zu_ne (by decide)]
    exact hv.copy ho.1 (fun k hk => by rw [cp_in hc hk, Nat.zero_add])
  · have e0 : zu (zu J 100 0 (nI 1)) 96 2 (nI 0) 100 1 = I 100 1 := by rw [zu_ne (by decide), zu_nk (Or.inr (by decide)), hc.2 100 (by decide)]
    rcases g5 with ⟨q1, q2⟩ | ⟨w, q1, q2, q3, q4⟩
    · exact Or.inl ⟨q1, e0.trans q2⟩
    · refine Or.inr ⟨w, q1, e0.trans q2, ?_, q4⟩
      rw [zu_ne (by decide), zu_ne (by decide)]
      exact q3.copy q4.1 (fun k hk => cp_out hc (by omega))
theorem keep_ok1 {I J : zMI} {s : St} (hI : zDM I s) (hc : cpI I J 99 (I 97) (78 * 1) 78) : zDM (zu (zu J 100 1 (nI 1)) 96 2 (nI 0)) (s.1, [], s.2.2.1, some s.1) := by
  obtain ⟨hv, ho, g1, g2, g3, g4, g5⟩ := hI
  refine ⟨by rw [zu_ne (by decide), zu_ne (by decide), hc.2 97 (by decide)]; exact hv, ho, zu_same, by simp, fun i v hi => by simp at hi, ?_, Or.inr ⟨s.1, rfl, by rw [zu_ne (by decide), zu_same], ?_, ho⟩⟩
  · have e0 : zu (zu J 100 1 (nI 1)) 96 2 (nI 0) 100 0 = I 100 0 := by rw [zu_ne (by decide), zu_nk (Or.inr (by decide)), hc.2 100 (by decide)]
    rcases g4 with ⟨q1, q2⟩ | ⟨w, q1, q2, q3, q4⟩
    · exact Or.inl ⟨q1, e0.trans q2⟩
    · refine Or.inr ⟨w, q1, e0.trans q2, ?_, q4⟩
      rw [zu_ne (by decide), zu_ne (by decide)]
      exact q3.copy q4.1 (fun k hk => cp_out hc (by omega))
  · rw [zu_ne (by decide), zu_ne (by decide)]
    exact hv.copy ho.1 (fun k hk => by rw [cp_in hc hk, Nat.zero_add])
theorem back_ok {I J : zMI} {s : St} {w : Ly} {i : Nat} (hI : zDM I s) (hw : zMb (I 99) (78 * i) w) (hok : lyOk w) (hc : cpI I J 97 (fun k => I 99 (78 * i + k)) 0 78) : zDM (zu J 96 2 (nI 0)) (w, [], s.2.2) := by
  obtain ⟨hv, ho, g1, g2, g3, g4, g5⟩ := hI
  have f : ∀ q, q ≠ 96 → q ≠ 97 → zu J 96 2 (nI 0) q = I q := fun q a b => by rw [zu_ne a, hc.2 q b]
  refine ⟨?_, hok, zu_same, by simp, fun i v hi => by simp at hi, g4.frame (f 100 (by decide) (by decide)) (f 99 (by decide) (by decide)), g5.frame (f 100 (by decide) (by decide)) (f 99 (by decide) (by decide))⟩
  rw [zu_ne (by decide)]
  exact hw.copy hok.1 (fun k hk => cp_in hc hk)
set_option maxRecDepth 100000 in
set_option maxHeartbeats 4000000 in
theorem m_keep {S : zS} {R : zMR} (I : zMI) (L : zML) {s : St} (hM : zMO S R) (hI : zDM I s) (i : Int32) : zM0 yX6_keep cX6_keep 3 (some .int) 1 [.ref 96, .int i] S I L R (zPi L (fun I2 r => r = (oKeep s i.toInt).1 ∧ zDM I2 (oKeep s i.toInt).2 ∧ ∀ p, p < 96 → I2 p = I p)) := by
  refine zM0_of (own := RX6) (lv := [some (.ref 96), some (.int i), none]) rfl (by decide) rfl rfl ?_
  obtain ⟨hv, ho, hr⟩ := id hI
  have hl := ho.1
  have hnp := ho.2.2.1
  have h8 := hr.2.1
  by_cases hi0 : i = nI 0
  · subst hi0
    refine z_iload_n dX6_keep_0 rfl ?_
    refine z_i2l dX6_keep_1 ?_
    refine z_lconst 0 dX6_keep_2 (by decide) ?_
    refine z_lconst 1 dX6_keep_3 (by decide) ?_
    refine z_callS3p dX6_keep_4 mX6_41 (m_in I L (l_i _) (l := 0) (by decide) (h := 1) (by decide)) (by decide) (Nat.le_of_ble_eq_true rfl) ⟨Nat.le_refl _, Nat.le_refl _⟩ ?_
    refine z_if_neB (tgt := 13) dX6_keep_7 (by decide) (fun h7 => ?_) (fun h7 => absurd h7 (fun q => q (by decide)))
    refine z_iconst (nI 0) dX6_keep_13 (by decide) ?_
    refine z_ist2 dX6_keep_14 rfl ?_
    refine m_keep_l0 I L hM ?_ 79 0 I (by omega) (by omega) (cp_0 _ _ _ _)
    intro J hc
    refine z_aload_n dX6_keep_44 rfl ?_
    refine z_getr dX6_keep_45 fX6_19 hM.o hM.r4 ?_
    refine z_iload_n dX6_keep_48 rfl ?_
    refine z_iconst (nI 1) dX6_keep_49 (by decide) ?_
    refine z_zsN dX6_keep_50 hM.a4 (by omega) (by decide) (by first | exact Or.inl rfl | exact Or.inr rfl | exact zb_01 _) ?_
    refine z_aload_n dX6_keep_51 rfl ?_
    refine z_iconst (nI 0) dX6_keep_52 (by decide) ?_
    refine z_puti dX6_keep_53 fX6_116 hM.o ?_
    refine z_aload_n dX6_keep_56 rfl ?_
    refine z_getr dX6_keep_57 fX6_7 hM.o hM.r0 ?_
    refine z_iconst (nI 0) dX6_keep_60 (by decide) ?_
    refine z_iaN dX6_keep_61 hM.a0 (by omega) (by decide) ?_
    refine z_top ((show _ = nI s.1.1.length from by rw [zu_ne (by decide), zu_ne (by decide), hc.2 97 (by decide)]; exact hv.1)) ?_
    exact z_iret dX6_keep_62 ⟨Nat.le_refl _, Nat.le_refl _⟩ rfl ⟨rfl, rfl, rfl, _, ⟨by rw [oKeep, pif_t (by decide)], by rw [oKeep, pif_t (by decide)]; exact keep_ok0 hI hc, fun p hp => by rw [zu_ne (by omega), zu_ne (by omega), hc.2 p (by omega)]⟩, rfl⟩
  by_cases hi1 : i = nI 1
  · subst hi1
    refine z_iload_n dX6_keep_0 rfl ?_
    refine z_i2l dX6_keep_1 ?_
    refine z_lconst 0 dX6_keep_2 (by decide) ?_
    refine z_lconst 1 dX6_keep_3 (by decide) ?_
    refine z_callS3p dX6_keep_4 mX6_41 (m_in I L (l_i _) (l := 0) (by decide) (h := 1) (by decide)) (by decide) (Nat.le_of_ble_eq_true rfl) ⟨Nat.le_refl _, Nat.le_refl _⟩ ?_
    refine z_if_neB (tgt := 13) dX6_keep_7 (by decide) (fun h7 => ?_) (fun h7 => absurd h7 (fun q => q (by decide)))
    refine z_iconst (nI 0) dX6_keep_13 (by decide) ?_
    refine z_ist2 dX6_keep_14 rfl ?_
    refine m_keep_l1 I L hM ?_ 79 0 I (by omega) (by omega) (cp_0 _ _ _ _)
    intro J hc
    refine z_aload_n dX6_keep_44 rfl ?_
    refine z_getr dX6_keep_45 fX6_19 hM.o hM.r4 ?_
    refine z_iload_n dX6_keep_48 rfl ?_
    refine z_iconst (nI 1) dX6_keep_49 (by decide) ?_
    refine z_zsN dX6_keep_50 hM.a4 (by omega) (by decide) (by first | exact Or.inl rfl | exact Or.inr rfl | exact zb_01 _) ?_
    refine z_aload_n dX6_keep_51 rfl ?_
    refine z_iconst (nI 0) dX6_keep_52 (by decide) ?_
    refine z_puti dX6_keep_53 fX6_116 hM.o ?_
    refine z_aload_n dX6_keep_56 rfl ?_
    refine z_getr dX6_keep_57 fX6_7 hM.o hM.r0 ?_
    refine z_iconst (nI 0) dX6_keep_60 (by decide) ?_
    refine z_iaN dX6_keep_61 hM.a0 (by omega) (by decide) ?_
    refine z_top ((show _ = nI s.1.1.length from by rw [zu_ne (by decide), zu_ne (by decide), hc.2 97 (by decide)]; exact hv.1)) ?_
    exact z_iret dX6_keep_62 ⟨Nat.le_refl _, Nat.le_refl _⟩ rfl ⟨rfl, rfl, rfl, _, ⟨by rw [oKeep, pif_f (by decide), pif_t (by decide)], by rw [oKeep, pif_f (by decide), pif_t (by decide)]; exact keep_ok1 hI hc, fun p hp => by rw [zu_ne (by omega), zu_ne (by omega), hc.2 p (by omega)]⟩, rfl⟩
  have hir : ¬ (0 ≤ i.toInt ∧ i.toInt ≤ 1) := by
    intro q
    rcases (show i.toInt = (0 : Nat) ∨ i.toInt = (1 : Nat) from by omega) with e | e
    · exact hi0 (by rw [nI_zi]; exact toInt_eq e)
    · exact hi1 (by rw [nI_zi]; exact toInt_eq e)
  refine z_iload_n dX6_keep_0 rfl ?_
  refine z_i2l dX6_keep_1 ?_
  refine z_lconst 0 dX6_keep_2 (by decide) ?_
  refine z_lconst 1 dX6_keep_3 (by decide) ?_
  refine z_callS3p dX6_keep_4 mX6_41 (m_in I L (l_i _) (l := 0) (by decide) (h := 1) (by decide)) (by decide) (Nat.le_of_ble_eq_true rfl) ⟨Nat.le_refl _, Nat.le_refl _⟩ ?_
  refine z_if_neB (tgt := 13) dX6_keep_7 (by decide) (fun h7 => absurd h7 (by omega)) (fun h7 => ?_)
  refine z_ldc dX6_keep_10 kX6_156 ?_
  exact z_iret dX6_keep_12 ⟨Nat.le_refl _, Nat.le_refl _⟩ rfl ⟨rfl, rfl, rfl, _, ⟨by rw [oKeep, pif_f (fun q => hi0 (by rw [nI_zi]; exact toInt_eq q)), pif_f (fun q => hi1 (by rw [nI_zi]; exact toInt_eq q))], by rw [oKeep, pif_f (fun q => hi0 (by rw [nI_zi]; exact toInt_eq q)), pif_f (fun q => hi1 (by rw [nI_zi]; exact toInt_eq q))]; exact hI, fun p _ => rfl⟩, rfl⟩
set_option maxRecDepth 100000 in
set_option maxHeartbeats 4000000 in
theorem m_goBack {S : zS} {R : zMR} (I : zMI) (L : zML) {s : St} (hM : zMO S R) (hI : zDM I s) (i : Int32) : zM0 yX6_goBack cX6_goBack 3 (some .int) 1 [.ref 96, .int i] S I L R (zPi L (fun I2 r => r = (oGoBack s i.toInt).1 ∧ zDM I2 (oGoBack s i.toInt).2 ∧ ∀ p, p < 96 → I2 p = I p)) := by
  refine zM0_of (own := RX6) (lv := [some (.ref 96), some (.int i), none]) rfl (by decide) rfl rfl ?_
  obtain ⟨hv, ho, hr⟩ := id hI
  have hl := ho.1
  have hnp := ho.2.2.1
  have h8 := hr.2.1
  by_cases hi0 : i = nI 0
  · subst hi0
    rcases id hr.2.2.2.1 with ⟨z0, z1⟩ | ⟨w, z0, z1, z2, z3⟩
    · refine z_iload_n dX6_goBack_0 rfl ?_
      refine z_i2l dX6_goBack_1 ?_
      refine z_lconst 0 dX6_goBack_2 (by decide) ?_
      refine z_lconst 1 dX6_goBack_3 (by decide) ?_
      refine z_callS3p dX6_goBack_4 mX6_41 (m_in I L (l_i _) (l := 0) (by decide) (h := 1) (by decide)) (by decide) (Nat.le_of_ble_eq_true rfl) ⟨Nat.le_refl _, Nat.le_refl _⟩ ?_
      refine z_if_neB (tgt := 13) dX6_goBack_7 (by decide) (fun h7 => ?_) (fun h7 => absurd h7 (fun q => q (by decide)))
      refine z_aload_n dX6_goBack_13 rfl ?_
      refine z_getr dX6_goBack_14 fX6_19 hM.o hM.r4 ?_
      refine z_iload_n dX6_goBack_17 rfl ?_
      refine z_zaN dX6_goBack_18 hM.a4 (by omega) (by decide) ?_
      refine z_top (z1) ?_
      refine z_if_neN (tgt := 25) dX6_goBack_19 (by decide) (by omega) (fun h19 => absurd h19 (by decide)) (fun h19 => ?_)
      refine z_ldc dX6_goBack_22 kX6_137 ?_
      exact z_iret dX6_goBack_24 ⟨Nat.le_refl _, Nat.le_refl _⟩ rfl ⟨rfl, rfl, rfl, _, ⟨by rw [oGoBack, pif_t (by decide), z0]; rfl, by rw [oGoBack, pif_t (by decide), z0]; exact hI, fun p _ => rfl⟩, rfl⟩
    · refine z_iload_n dX6_goBack_0 rfl ?_
      refine z_i2l dX6_goBack_1 ?_
      refine z_lconst 0 dX6_goBack_2 (by decide) ?_
      refine z_lconst 1 dX6_goBack_3 (by decide) ?_
      refine z_callS3p dX6_goBack_4 mX6_41 (m_in I L (l_i _) (l := 0) (by decide) (h := 1) (by decide)) (by decide) (Nat.le_of_ble_eq_true rfl) ⟨Nat.le_refl _, Nat.le_refl _⟩ ?_
      refine z_if_neB (tgt := 13) dX6_goBack_7 (by decide) (fun h7 => ?_) (fun h7 => absurd h7 (fun q => q (by decide)))
      refine z_aload_n dX6_goBack_13 rfl ?_
      refine z_getr dX6_goBack_14 fX6_19 hM.o hM.r4 ?_
      refine z_iload_n dX6_goBack_17 rfl ?_
      refine z_zaN dX6_goBack_18 hM.a4 (by omega) (by decide) ?_
      refine z_top (z1) ?_
      refine z_if_neN (tgt := 25) dX6_goBack_19 (by decide) (by omega) (fun h19 => ?_) (fun h19 => absurd h19 (by decide))
      refine z_iconst (nI 0) dX6_goBack_25 (by decide) ?_
      refine z_ist2 dX6_goBack_26 rfl ?_
      refine m_goBack_l0 I L hM ?_ 79 0 I (by omega) (by omega) (cp_0 _ _ _ _)
      intro J hc
      refine z_aload_n dX6_goBack_56 rfl ?_
      refine z_iconst (nI 0) dX6_goBack_57 (by decide) ?_
      refine z_puti dX6_goBack_58 fX6_116 hM.o ?_
      refine z_aload_n dX6_goBack_61 rfl ?_
      refine z_getr dX6_goBack_62 fX6_7 hM.o hM.r0 ?_
      refine z_iconst (nI 0) dX6_goBack_65 (by decide) ?_
      refine z_iaN dX6_goBack_66 hM.a0 (by omega) (by decide) ?_
      refine z_top ((show _ = nI w.1.length from by rw [zu_ne (by decide)]; have := cp_in hc (show 0 < 78 by decide); rw [Nat.add_zero] at this; rw [this]; exact z2.1)) ?_
      exact z_iret dX6_goBack_67 ⟨Nat.le_refl _, Nat.le_refl _⟩ rfl ⟨rfl, rfl, rfl, _, ⟨by rw [oGoBack, pif_t (by decide), z0]; rfl, by rw [oGoBack, pif_t (by decide), z0]; exact back_ok hI z2 z3 hc, fun p hp => by rw [zu_ne (by omega), hc.2 p (by omega)]⟩, rfl⟩
  by_cases hi1 : i = nI 1
  · subst hi1
    rcases id hr.2.2.2.2 with ⟨z0, z1⟩ | ⟨w, z0, z1, z2, z3⟩
    · refine z_iload_n dX6_goBack_0 rfl ?_
      refine z_i2l dX6_goBack_1 ?_
      refine z_lconst 0 dX6_goBack_2 (by decide) ?_
      refine z_lconst 1 dX6_goBack_3 (by decide) ?_
      refine z_callS3p dX6_goBack_4 mX6_41 (m_in I L (l_i _) (l := 0) (by decide) (h := 1) (by decide)) (by decide) (Nat.le_of_ble_eq_true rfl) ⟨Nat.le_refl _, Nat.le_refl _⟩ ?_
      refine z_if_neB (tgt := 13) dX6_goBack_7 (by decide) (fun h7 => ?_) (fun h7 => absurd h7 (fun q => q (by decide)))
      refine z_aload_n dX6_goBack_13 rfl ?_
      refine z_getr dX6_goBack_14 fX6_19 hM.o hM.r4 ?_
      refine z_iload_n dX6_goBack_17 rfl ?_
      refine z_zaN dX6_goBack_18 hM.a4 (by omega) (by decide) ?_
      refine z_top (z1) ?_
      refine z_if_neN (tgt := 25) dX6_goBack_19 (by decide) (by omega) (fun h19 => absurd h19 (by decide)) (fun h19 => ?_)
      refine z_ldc dX6_goBack_22 kX6_137 ?_
      exact z_iret dX6_goBack_24 ⟨Nat.le_refl _, Nat.le_refl _⟩ rfl ⟨rfl, rfl, rfl, _, ⟨by rw [oGoBack, pif_f (by decide), pif_t (by decide), z0]; rfl, by rw [oGoBack, pif_f (by decide), pif_t (by decide), z0]; exact hI, fun p _ => rfl⟩, rfl⟩
    · refine z_iload_n dX6_goBack_0 rfl ?_
      refine z_i2l dX6_goBack_1 ?_
      refine z_lconst 0 dX6_goBack_2 (by decide) ?_
      refine z_lconst 1 dX6_goBack_3 (by decide) ?_
      refine z_callS3p dX6_goBack_4 mX6_41 (m_in I L (l_i _) (l := 0) (by decide) (h := 1) (by decide)) (by decide) (Nat.le_of_ble_eq_true rfl) ⟨Nat.le_refl _, Nat.le_refl _⟩ ?_
      refine z_if_neB (tgt := 13) dX6_goBack_7 (by decide) (fun h7 => ?_) (fun h7 => absurd h7 (fun q => q (by decide)))
      refine z_aload_n dX6_goBack_13 rfl ?_
      refine z_getr dX6_goBack_14 fX6_19 hM.o hM.r4 ?_
      refine z_iload_n dX6_goBack_17 rfl ?_
      refine z_zaN dX6_goBack_18 hM.a4 (by omega) (by decide) ?_
      refine z_top (z1) ?_
      refine z_if_neN (tgt := 25) dX6_goBack_19 (by decide) (by omega) (fun h19 => ?_) (fun h19 => absurd h19 (by decide))
      refine z_iconst (nI 0) dX6_goBack_25 (by decide) ?_
      refine z_ist2 dX6_goBack_26 rfl ?_
      refine m_goBack_l1 I L hM ?_ 79 0 I (by omega) (by omega) (cp_0 _ _ _ _)
      intro J hc
      refine z_aload_n dX6_goBack_56 rfl ?_
      refine z_iconst (nI 0) dX6_goBack_57 (by decide) ?_
      refine z_puti dX6_goBack_58 fX6_116 hM.o ?_
      refine z_aload_n dX6_goBack_61 rfl ?_
      refine z_getr dX6_goBack_62 fX6_7 hM.o hM.r0 ?_
      refine z_iconst (nI 0) dX6_goBack_65 (by decide) ?_
      refine z_iaN dX6_goBack_66 hM.a0 (by omega) (by decide) ?_
      refine z_top ((show _ = nI w.1.length from by rw [zu_ne (by decide)]; have := cp_in hc (show 0 < 78 by decide); rw [Nat.add_zero] at this; rw [this]; exact z2.1)) ?_
      exact z_iret dX6_goBack_67 ⟨Nat.le_refl _, Nat.le_refl _⟩ rfl ⟨rfl, rfl, rfl, _, ⟨by rw [oGoBack, pif_f (by decide), pif_t (by decide), z0]; rfl, by rw [oGoBack, pif_f (by decide), pif_t (by decide), z0]; exact back_ok hI z2 z3 hc, fun p hp => by rw [zu_ne (by omega), hc.2 p (by omega)]⟩, rfl⟩
  have hir : ¬ (0 ≤ i.toInt ∧ i.toInt ≤ 1) := by
    intro q
    rcases (show i.toInt = (0 : Nat) ∨ i.toInt = (1 : Nat) from by omega) with e | e
    · exact hi0 (by rw [nI_zi]; exact toInt_eq e)
    · exact hi1 (by rw [nI_zi]; exact toInt_eq e)
  refine z_iload_n dX6_goBack_0 rfl ?_
  refine z_i2l dX6_goBack_1 ?_
  refine z_lconst 0 dX6_goBack_2 (by decide) ?_
  refine z_lconst 1 dX6_goBack_3 (by decide) ?_
  refine z_callS3p dX6_goBack_4 mX6_41 (m_in I L (l_i _) (l := 0) (by decide) (h := 1) (by decide)) (by decide) (Nat.le_of_ble_eq_true rfl) ⟨Nat.le_refl _, Nat.le_refl _⟩ ?_
  refine z_if_neB (tgt := 13) dX6_goBack_7 (by decide) (fun h7 => absurd h7 (by omega)) (fun h7 => ?_)
  refine z_ldc dX6_goBack_10 kX6_156 ?_
  exact z_iret dX6_goBack_12 ⟨Nat.le_refl _, Nat.le_refl _⟩ rfl ⟨rfl, rfl, rfl, _, ⟨by rw [oGoBack, pif_f (fun q => hi0 (by rw [nI_zi]; exact toInt_eq q)), pif_f (fun q => hi1 (by rw [nI_zi]; exact toInt_eq q))], by rw [oGoBack, pif_f (fun q => hi0 (by rw [nI_zi]; exact toInt_eq q)), pif_f (fun q => hi1 (by rw [nI_zi]; exact toInt_eq q))]; exact hI, fun p _ => rfl⟩, rfl⟩
