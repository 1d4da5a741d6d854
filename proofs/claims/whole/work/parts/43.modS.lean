set_option maxRecDepth 100000 in
set_option maxHeartbeats 4000000 in
theorem m_shape {S : zS} {R : zMR} (I : zMI) (L : zML) {s : St} (hM : zMO S R) (hI : zDM I s) (a b c d : Int32) : zM0 yX6_shape cX6_shape 5 (some .int) 4 [.ref 96, .int a, .int b, .int c, .int d] S I L R (zPi L (fun I2 r => r = (oShape s a.toInt b.toInt c.toInt d.toInt).1 ∧ zDM I2 (oShape s a.toInt b.toInt c.toInt d.toInt).2 ∧ ∀ p, p < 96 → I2 p = I p)) := by
  refine zM0_of (own := RX6) (lv := [some (.ref 96), some (.int a), some (.int b), some (.int c), some (.int d)]) rfl (by decide) rfl rfl ?_
  obtain ⟨hv, ho, hr⟩ := id hI
  have hl := ho.1
  have hnp := ho.2.2.1
  have h8 := hr.2.1
  refine z_iload_n dX6_shape_0 rfl ?_
  refine z_iload_n dX6_shape_1 rfl ?_
  refine z_iload_n dX6_shape_2 rfl ?_
  refine z_iload dX6_shape_3 rfl ?_
  refine z_callS4p dX6_shape_5 mX6_128 (m_areBounds I L a b c d) (by decide) (Nat.le_of_ble_eq_true rfl) ⟨Nat.le_refl _, Nat.le_refl _⟩ ?_
  refine z_if_neB (tgt := 14) dX6_shape_8 (by decide) (fun h8 => ?_) (fun h8 => ?_)
  · obtain ⟨hF, hxx, hyy⟩ := id h8
    unfold onF at hF
    obtain ⟨x, hx, rfl⟩ := nI_of3 (x := a) (n := 16) (by omega) (by omega) (by omega)
    have tx : (nI x).toInt = (x : Int) := nI_T (by omega)
    obtain ⟨y, hy, rfl⟩ := nI_of3 (x := b) (n := 16) (by omega) (by omega) (by omega)
    have ty : (nI y).toInt = (y : Int) := nI_T (by omega)
    obtain ⟨x2, hx2, rfl⟩ := nI_of3 (x := c) (n := 16) (by omega) (by omega) (by omega)
    have tx2 : (nI x2).toInt = (x2 : Int) := nI_T (by omega)
    obtain ⟨y2, hy2, rfl⟩ := nI_of3 (x := d) (n := 16) (by omega) (by omega) (by omega)
    have ty2 : (nI y2).toInt = (y2 : Int) := nI_T (by omega)
    rw [tx, ty, tx2, ty2] at h8
    refine z_aload_n dX6_shape_14 rfl ?_
    refine z_iload_n dX6_shape_15 rfl ?_
    refine z_iload_n dX6_shape_16 rfl ?_
    refine z_iload_n dX6_shape_17 rfl ?_
    refine z_iload dX6_shape_18 rfl ?_
    refine z_iconst (-1) dX6_shape_20 (by decide) ?_
    refine z_callV5p dX6_shape_21 mX6_133 hM.o (m_isFree I L hM hv ho x y x2 y2 (-1) (by omega) (by omega) (by omega) (by omega)) (by decide) (Nat.le_of_ble_eq_true rfl) ⟨Nat.le_refl _, Nat.le_refl _⟩ ?_
    refine z_if_neB (tgt := 30) dX6_shape_24 (by decide) (fun h24 => ?_) (fun h24 => ?_)
    · have h24 : isFr s.1.1 (x : Int) y x2 y2 (-1) := h24
      refine z_aload_n dX6_shape_30 rfl ?_
      refine z_callV0p dX6_shape_31 mX6_138 hM.o (m_isFull I L hM hv ho) (by decide) (Nat.le_of_ble_eq_true rfl) ⟨Nat.le_refl _, Nat.le_refl _⟩ ?_
      refine z_if_eqB (tgt := 40) dX6_shape_34 (by decide) (fun h34 => ?_) (fun h34 => ?_)
      · have hfl : s.1.1.length < 10 := by unfold full at h34; omega
        refine z_aload_n dX6_shape_40 rfl ?_
        refine z_callV0v dX6_shape_41 mX6_143 hM.o (m_note I L hM hv ho hr) (by decide) (Nat.le_of_ble_eq_true rfl) ⟨Nat.le_refl _, Nat.le_refl _⟩ (fun J1 h1 => ?_)
        have hv1 : zMb (J1 97) 0 s.1 := by rw [h1.2.1]; exact hv
        refine z_aload_n dX6_shape_44 rfl ?_
        refine z_callV0v dX6_shape_45 mX6_146 hM.o (m_free J1 L hM hv1 hl) (by decide) (Nat.le_of_ble_eq_true rfl) ⟨Nat.le_refl _, Nat.le_refl _⟩ (fun J2 h2 => ?_)
        refine z_aload_n dX6_shape_48 rfl ?_
        refine z_iload_n dX6_shape_49 rfl ?_
        refine z_iload_n dX6_shape_50 rfl ?_
        refine z_iload_n dX6_shape_51 rfl ?_
        refine z_iload dX6_shape_52 rfl ?_
        refine z_callV4v dX6_shape_54 mX6_149 hM.o (m_addShape J2 L hM h2.1 (by show s.1.1.length < 10; omega) x y x2 y2) (by decide) (Nat.le_of_ble_eq_true rfl) ⟨Nat.le_refl _, Nat.le_refl _⟩ (fun J3 h3 => ?_)
        refine z_aload_n dX6_shape_57 rfl ?_
        refine z_getr dX6_shape_58 fX6_7 hM.o hM.r0 ?_
        refine z_iconst (nI 0) dX6_shape_61 (by decide) ?_
        refine z_iaN dX6_shape_62 hM.a0 (by omega) (by decide) ?_
        refine z_top ((show _ = nI (s.1.1.length + 1) from by have := h3.1.1; rw [this]; exact congrArg nI (by simp [lyS, lyZ, lyF]))) ?_
        refine z_iconst (nI 1) dX6_shape_63 (by decide) ?_
        refine z_isubN dX6_shape_64 (by omega) ?_
        have e9 : rNew s.1.1 (nI x).toInt (nI y).toInt (nI x2).toInt (nI y2).toInt = 0 := by rw [tx, ty, tx2, ty2, rNew, zif_t h8, zif_t h24, zif_f h34]
        have hok := ho.new h8 h24 h34
        exact z_iret dX6_shape_65 ⟨Nat.le_refl _, Nat.le_refl _⟩ rfl ⟨rfl, rfl, rfl, _, ⟨by rw [oShape, pif_t e9]; rfl, by rw [oShape, pif_t e9, tx, ty, tx2, ty2]; exact ⟨h3.1, hok, ((h1.1.st h2.2).st h3.2)⟩, fun p hp => by rw [h3.2 p (by omega), h2.2 p (by omega), h1.2.2 p (by omega) (by omega)]⟩, rfl⟩
      · refine z_ldc dX6_shape_37 kX6_142 ?_
        have e9 : rNew s.1.1 (nI x).toInt (nI y).toInt (nI x2).toInt (nI y2).toInt = kFUL := by rw [tx, ty, tx2, ty2, rNew, zif_t h8, zif_t h24, zif_t h34]
        exact z_iret dX6_shape_39 ⟨Nat.le_refl _, Nat.le_refl _⟩ rfl ⟨rfl, rfl, rfl, _, ⟨by rw [oShape, pif_f (by rw [e9]; decide), e9], by rw [oShape, pif_f (by rw [e9]; decide)]; exact hI, fun p _ => rfl⟩, rfl⟩
    · have h24 : ¬ isFr s.1.1 (x : Int) y x2 y2 (-1) := h24
      refine z_ldc dX6_shape_27 kX6_137 ?_
      have e9 : rNew s.1.1 (nI x).toInt (nI y).toInt (nI x2).toInt (nI y2).toInt = kNOT := by rw [tx, ty, tx2, ty2, rNew, zif_t h8, zif_f h24]
      exact z_iret dX6_shape_29 ⟨Nat.le_refl _, Nat.le_refl _⟩ rfl ⟨rfl, rfl, rfl, _, ⟨by rw [oShape, pif_f (by rw [e9]; decide), e9], by rw [oShape, pif_f (by rw [e9]; decide)]; exact hI, fun p _ => rfl⟩, rfl⟩
  · refine z_ldc dX6_shape_11 kX6_132 ?_
    have e9 : rNew s.1.1 a.toInt b.toInt c.toInt d.toInt = kOUT := by rw [rNew, zif_f h8]
    exact z_iret dX6_shape_13 ⟨Nat.le_refl _, Nat.le_refl _⟩ rfl ⟨rfl, rfl, rfl, _, ⟨by rw [oShape, pif_f (by rw [e9]; decide), e9], by rw [oShape, pif_f (by rw [e9]; decide)]; exact hI, fun p _ => rfl⟩, rfl⟩
set_option maxRecDepth 100000 in
set_option maxHeartbeats 4000000 in
theorem m_drop_a {S : zS} {R : zMR} (I : zMI) (L : zML) (hM : zMO S R) {Post0 : zPost} (j m : Nat) (hj : j ≤ m) (hm : m < 10) (h0 : I 97 0 = nI m) (hK : ∀ J k, 1 + 6 * j + k = 1 + 6 * m → cpI I J 97 (fun i => I 97 (1 + 6 * j + i + 6)) (1 + 6 * j) k → zV (zMt RX6 cX6_drop 3 (some .int) 4) Post0 (0, 0) S J L R 72 [some (.ref 96), some (.int (nI j)), some (.int (nI (1 + 6 * j + k)))] [])  : ∀ (n : Nat) (k : Nat) (J : zMI), 6 * m + 1 ≤ 6 * j + k + n → 6 * j + k ≤ 6 * m → cpI I J 97 (fun i => I 97 (1 + 6 * j + i + 6)) (1 + 6 * j) k → zV (zMt RX6 cX6_drop 3 (some .int) 4) Post0 (0, 0) S J L R 36 [some (.ref 96), some (.int (nI j)), some (.int (nI (1 + 6 * j + k)))] [] := by
  intro n
  induction n with
  | zero => intro k J h1 h2 hc; omega
  | succ n ih =>
    intro k J h1 h2 hc
    refine z_iload_n dX6_drop_36 rfl ?_
    refine z_iconst (nI 1) dX6_drop_37 (by decide) ?_
    refine z_bipush (nI 6) dX6_drop_38 (by decide) ?_
    refine z_aload_n dX6_drop_40 rfl ?_
    refine z_getr dX6_drop_41 fX6_7 hM.o hM.r0 ?_
    refine z_iconst (nI 0) dX6_drop_44 (by decide) ?_
    refine z_iaN dX6_drop_45 hM.a0 (by omega) (by decide) ?_
    refine z_top ((show _ = nI m from by rw [cp_out hc (by omega)]; exact h0)) ?_
    refine z_imulN dX6_drop_46 ?_
    refine z_iaddN dX6_drop_47 ?_
    refine z_icmp_geNN (tgt := 72) dX6_drop_48 (by decide) (by omega) (by omega) (fun h48 => ?_) (fun h48 => ?_)
    · have e : 1 + 6 * j + k = 1 + 6 * m := by omega
      exact hK J k e hc
    · refine z_aload_n dX6_drop_51 rfl ?_
      refine z_getr dX6_drop_52 fX6_7 hM.o hM.r0 ?_
      refine z_iload_n dX6_drop_55 rfl ?_
      refine z_aload_n dX6_drop_56 rfl ?_
      refine z_getr dX6_drop_57 fX6_7 hM.o hM.r0 ?_
      refine z_iload_n dX6_drop_60 rfl ?_
      refine z_bipush (nI 6) dX6_drop_61 (by decide) ?_
      refine z_iaddN dX6_drop_63 ?_
      refine z_iaN dX6_drop_64 hM.a0 (by omega) (by decide) ?_
      refine z_isN dX6_drop_65 hM.a0 (by omega) (by decide) ?_
      refine z_iincN2 (n := 1) dX6_drop_66 rfl ?_
      refine z_goto (tgt := 36) dX6_drop_69 (by decide) ?_
      refine ih (k + 1) _ (by omega) (by omega) (cp_s hc (by omega) ?_)
      rw [cp_out hc (by omega)]
set_option maxRecDepth 100000 in
set_option maxHeartbeats 4000000 in
theorem m_drop_b {S : zS} {R : zMR} (I : zMI) (L : zML) (hM : zMO S R) {Post0 : zPost} (j m : Nat) (hm : m < 10) (hK : ∀ J k, 1 + 6 * m + k = 61 → cpI I J 97 (fun _ => nI 0) (1 + 6 * m) k → zV (zMt RX6 cX6_drop 3 (some .int) 4) Post0 (0, 0) S J L R 103 [some (.ref 96), some (.int (nI j)), some (.int (nI (1 + 6 * m + k)))] [])  : ∀ (n : Nat) (k : Nat) (J : zMI), 61 ≤ 6 * m + k + n → 6 * m + k ≤ 60 → cpI I J 97 (fun _ => nI 0) (1 + 6 * m) k → zV (zMt RX6 cX6_drop 3 (some .int) 4) Post0 (0, 0) S J L R 84 [some (.ref 96), some (.int (nI j)), some (.int (nI (1 + 6 * m + k)))] [] := by
  intro n
  induction n with
  | zero => intro k J h1 h2 hc; omega
  | succ n ih =>
    intro k J h1 h2 hc
    refine z_iload_n dX6_drop_84 rfl ?_
    refine z_bipush (nI 61) dX6_drop_85 (by decide) ?_
    refine z_icmp_geNN (tgt := 103) dX6_drop_87 (by decide) (by omega) (by omega) (fun h87 => ?_) (fun h87 => ?_)
    · exact hK J k (by omega) hc
    · refine z_aload_n dX6_drop_90 rfl ?_
      refine z_getr dX6_drop_91 fX6_7 hM.o hM.r0 ?_
      refine z_iload_n dX6_drop_94 rfl ?_
      refine z_iconst (nI 0) dX6_drop_95 (by decide) ?_
      refine z_isN dX6_drop_96 hM.a0 (by omega) (by decide) ?_
      refine z_iincN2 (n := 1) dX6_drop_97 rfl ?_
      refine z_goto (tgt := 84) dX6_drop_100 (by decide) ?_
      exact ih (k + 1) _ (by omega) (by omega) (cp_s hc rfl rfl)
set_option maxRecDepth 100000 in
set_option maxHeartbeats 4000000 in
theorem m_drop {S : zS} {R : zMR} (I : zMI) (L : zML) {s : St} (hM : zMO S R) (hI : zDM I s) (a : Int32) : zM0 yX6_drop cX6_drop 3 (some .int) 4 [.ref 96, .int a] S I L R (zPi L (fun I2 r => r = (oDrop s a.toInt).1 ∧ zDM I2 (oDrop s a.toInt).2 ∧ ∀ p, p < 96 → I2 p = I p)) := by
  refine zM0_of (own := RX6) (lv := [some (.ref 96), some (.int a), none]) rfl (by decide) rfl rfl ?_
  obtain ⟨hv, ho, hr⟩ := id hI
  have hl := ho.1
  have hnp := ho.2.2.1
  have h8 := hr.2.1
  refine z_aload_n dX6_drop_0 rfl ?_
  refine z_iload_n dX6_drop_1 rfl ?_
  refine z_callV1p dX6_drop_2 mX6_153 hM.o (m_isShape I L hM hv ho a) (by decide) (Nat.le_of_ble_eq_true rfl) ⟨Nat.le_refl _, Nat.le_refl _⟩ ?_
  refine z_if_neB (tgt := 11) dX6_drop_5 (by decide) (fun h5 => ?_) (fun h5 => ?_)
  · obtain ⟨j, sh, rfl, hsh, hja, hg⟩ := has_nat hl h5
    have hj := getS_lt hsh
    refine z_aload_n dX6_drop_11 rfl ?_
    refine z_callV0v dX6_drop_12 mX6_143 hM.o (m_note I L hM hv ho hr) (by decide) (Nat.le_of_ble_eq_true rfl) ⟨Nat.le_refl _, Nat.le_refl _⟩ (fun J1 h1 => ?_)
    have hv1 : zMb (J1 97) 0 s.1 := by rw [h1.2.1]; exact hv
    refine z_aload_n dX6_drop_15 rfl ?_
    refine z_callV0v dX6_drop_16 mX6_146 hM.o (m_free J1 L hM hv1 hl) (by decide) (Nat.le_of_ble_eq_true rfl) ⟨Nat.le_refl _, Nat.le_refl _⟩ (fun J2 h2 => ?_)
    refine z_aload_n dX6_drop_19 rfl ?_
    refine z_getr dX6_drop_20 fX6_7 hM.o hM.r0 ?_
    refine z_iconst (nI 0) dX6_drop_23 (by decide) ?_
    refine z_dup2 dX6_drop_24 rfl rfl ?_
    refine z_iaN dX6_drop_25 hM.a0 (by omega) (by decide) ?_
    refine z_top ((show _ = nI s.1.1.length from h2.1.1)) ?_
    refine z_iconst (nI 1) dX6_drop_26 (by decide) ?_
    refine z_isubN dX6_drop_27 (by omega) ?_
    refine z_isN dX6_drop_28 hM.a0 (by omega) (by decide) ?_
    refine z_iconst (nI 1) dX6_drop_29 (by decide) ?_
    refine z_bipush (nI 6) dX6_drop_30 (by decide) ?_
    refine z_iload_n dX6_drop_32 rfl ?_
    refine z_imulN dX6_drop_33 ?_
    refine z_iaddN dX6_drop_34 ?_
    refine z_ist2 dX6_drop_35 rfl ?_
    refine m_drop_a (zu J2 97 0 (nI (s.1.1.length - 1))) L hM j (s.1.1.length - 1) (by omega) (by omega) zu_same ?_ 61 0 _ (by omega) (by omega) (cp_0 _ _ _ _)
    intro J3 k3 hk3 hc
    refine z_iconst (nI 1) dX6_drop_72 (by decide) ?_
    refine z_bipush (nI 6) dX6_drop_73 (by decide) ?_
    refine z_aload_n dX6_drop_75 rfl ?_
    refine z_getr dX6_drop_76 fX6_7 hM.o hM.r0 ?_
    refine z_iconst (nI 0) dX6_drop_79 (by decide) ?_
    refine z_iaN dX6_drop_80 hM.a0 (by omega) (by decide) ?_
    refine z_top ((show _ = nI (s.1.1.length - 1) from by rw [cp_out hc (by omega), zu_same])) ?_
    refine z_imulN dX6_drop_81 ?_
    refine z_iaddN dX6_drop_82 ?_
    refine z_ist2 dX6_drop_83 rfl ?_
    refine m_drop_b J3 L hM j (s.1.1.length - 1) (by omega) ?_ 61 0 J3 (by omega) (by omega) (cp_0 _ _ _ _)
    intro J4 k4 hk4 hd
    have hE : zMb (J4 97) 0 (lyS (lyZ s.1) (s.1.1.eraseIdx j)) := h2.1.erase hj hl (by rw [cp_out hd (by omega), cp_out hc (by omega), zu_same]; rfl) (fun x x1 x2 => by rw [cp_out hd (by omega), cp_out hc (by omega), zu_nk (Or.inr (by omega))]) (fun x x1 x2 => by have x2 : x < 1 + 6 * (s.1.1.length - 1) := x2; obtain ⟨i, rfl⟩ : ∃ i, x = 1 + 6 * j + i := ⟨x - (1 + 6 * j), by omega⟩; rw [cp_out hd (by omega), cp_in hc (by omega), zu_nk (Or.inr (by omega))]) (fun x x1 => by rw [cp_out hd (by omega), cp_out hc (by omega), zu_nk (Or.inr (by omega))])
    refine z_aload_n dX6_drop_103 rfl ?_
    refine z_getr dX6_drop_104 fX6_7 hM.o hM.r0 ?_
    refine z_iconst (nI 0) dX6_drop_107 (by decide) ?_
    refine z_iaN dX6_drop_108 hM.a0 (by omega) (by decide) ?_
    refine z_top ((show _ = nI (s.1.1.length - 1) from by rw [cp_out hd (by omega), cp_out hc (by omega), zu_same])) ?_
    exact z_iret dX6_drop_109 ⟨Nat.le_refl _, Nat.le_refl _⟩ rfl ⟨rfl, rfl, rfl, _, ⟨by rw [oDrop, pif_t h5], by rw [oDrop, pif_t h5, hja]; exact ⟨hE, ho.drop hj, (((h1.1.st h2.2).st (stF.zu stF.rfl)).st hc.2).st hd.2⟩, fun p hp => by rw [hd.2 p (by omega), hc.2 p (by omega), zu_ne (by omega), h2.2 p (by omega), h1.2.2 p (by omega) (by omega)]⟩, rfl⟩
  · refine z_ldc dX6_drop_8 kX6_156 ?_
    exact z_iret dX6_drop_10 ⟨Nat.le_refl _, Nat.le_refl _⟩ rfl ⟨rfl, rfl, rfl, _, ⟨by rw [oDrop, pif_f h5], by rw [oDrop, pif_f h5]; exact hI, fun p _ => rfl⟩, rfl⟩
set_option maxRecDepth 100000 in
set_option maxHeartbeats 4000000 in
theorem m_mayMove {S : zS} {R : zMR} (I : zMI) (L : zML) {v : Ly} (hM : zMO S R) (hv : zMb (I 97) 0 v) (ho : lyOk v) (k : Nat) {sh : Sh} (hsh : v.1[k]? = some sh) (dx dy : Int32) (hst : steps dx.toInt dy.toInt) : zM0 yX6_mayMove cX6_mayMove 8 (some .boolean) 2 [.ref 96, .int (nI k), .int dx, .int dy] S I L R (zPure I L (zb (canStep v.1 k dx.toInt dy.toInt))) := by
  refine zM0_of (own := RX6) (lv := [some (.ref 96), some (.int (nI k)), some (.int dx), some (.int dy), none, none, none, none]) rfl (by decide) rfl rfl ?_
  have hl := ho.1
  have hk := getS_lt hsh
  obtain ⟨o1, o2, o3, o4, o5⟩ := id (ho.sh hsh)
  obtain ⟨e0, e1, e2, e3, e4, e5⟩ := mSh0 (hv.2.1 k sh hsh)
  unfold steps at hst
  have hg := gt_nat hsh
  have z0 := zi_T (z := sx sh + dx.toInt) (by omega) (by omega)
  have z1 := zi_T (z := sy sh + dy.toInt) (by omega) (by omega)
  have z2 := zi_T (z := sx2 sh + dx.toInt) (by omega) (by omega)
  have z3 := zi_T (z := sy2 sh + dy.toInt) (by omega) (by omega)
  refine z_aload_n dX6_mayMove_0 rfl ?_
  refine z_iload_n dX6_mayMove_1 rfl ?_
  refine z_iconst (nI 0) dX6_mayMove_2 (by decide) ?_
  refine z_callV2p dX6_mayMove_3 mX6_45 hM.o (m_part I L hM k 0 (by omega) (by omega)) (by decide) (Nat.le_of_ble_eq_true rfl) ⟨Nat.le_refl _, Nat.le_refl _⟩ ?_
  refine z_top (e0) ?_
  refine z_iload_n dX6_mayMove_6 rfl ?_
  refine z_iadd dX6_mayMove_7 ?_
  refine z_top ((nI_addI _ _)) ?_
  refine z_ist4 dX6_mayMove_8 rfl ?_
  refine z_aload_n dX6_mayMove_10 rfl ?_
  refine z_iload_n dX6_mayMove_11 rfl ?_
  refine z_iconst (nI 1) dX6_mayMove_12 (by decide) ?_
  refine z_callV2p dX6_mayMove_13 mX6_45 hM.o (m_part I L hM k 1 (by omega) (by omega)) (by decide) (Nat.le_of_ble_eq_true rfl) ⟨Nat.le_refl _, Nat.le_refl _⟩ ?_
  refine z_top (e1) ?_
  refine z_iload_n dX6_mayMove_16 rfl ?_
  refine z_iadd dX6_mayMove_17 ?_
  refine z_top ((nI_addI _ _)) ?_
  refine z_ist5 dX6_mayMove_18 rfl ?_
  refine z_aload_n dX6_mayMove_20 rfl ?_
  refine z_iload_n dX6_mayMove_21 rfl ?_
  refine z_iconst (nI 2) dX6_mayMove_22 (by decide) ?_
  refine z_callV2p dX6_mayMove_23 mX6_45 hM.o (m_part I L hM k 2 (by omega) (by omega)) (by decide) (Nat.le_of_ble_eq_true rfl) ⟨Nat.le_refl _, Nat.le_refl _⟩ ?_
  refine z_top (e2) ?_
  refine z_iload_n dX6_mayMove_26 rfl ?_
  refine z_iadd dX6_mayMove_27 ?_
  refine z_top ((nI_addI _ _)) ?_
  refine z_ist6 dX6_mayMove_28 rfl ?_
  refine z_aload_n dX6_mayMove_30 rfl ?_
  refine z_iload_n dX6_mayMove_31 rfl ?_
  refine z_iconst (nI 3) dX6_mayMove_32 (by decide) ?_
  refine z_callV2p dX6_mayMove_33 mX6_45 hM.o (m_part I L hM k 3 (by omega) (by omega)) (by decide) (Nat.le_of_ble_eq_true rfl) ⟨Nat.le_refl _, Nat.le_refl _⟩ ?_
  refine z_top (e3) ?_
  refine z_iload_n dX6_mayMove_36 rfl ?_
  refine z_iadd dX6_mayMove_37 ?_
  refine z_top ((nI_addI _ _)) ?_
  refine z_ist7 dX6_mayMove_38 rfl ?_
  refine z_iload dX6_mayMove_40 rfl ?_
  refine z_iload dX6_mayMove_42 rfl ?_
  refine z_iload dX6_mayMove_44 rfl ?_
  refine z_iload dX6_mayMove_46 rfl ?_
  refine z_callS4p dX6_mayMove_48 mX6_128 (m_areBounds I L _ _ _ _) (by decide) (Nat.le_of_ble_eq_true rfl) ⟨Nat.le_refl _, Nat.le_refl _⟩ ?_
  refine z_if_eqB (tgt := 74) dX6_mayMove_51 (by decide) (fun h51 => ?_) (fun h51 => ?_)
  · rw [z0, z1, z2, z3] at h51
    refine z_iconst (nI 0) dX6_mayMove_74 (by decide) ?_
    exact z_iret dX6_mayMove_75 ⟨Nat.le_refl _, Nat.le_refl _⟩ (by first | exact zb_nar _ | rfl) ⟨rfl, rfl, rfl, rfl, congrArg (fun z => some (Value.int z)) (by first | exact zb_1 (by unfold canStep; rw [hg]; first | exact fun q => h51 ⟨q.1, by omega, by omega⟩ | (rw [n0, n1, n2, n3, nI_T (by omega)] at h67; first | exact ⟨hF, h67⟩ | exact fun q => h67 q.2)) | exact zb_0 (by unfold canStep; rw [hg]; first | exact fun q => h51 ⟨q.1, by omega, by omega⟩ | (rw [n0, n1, n2, n3, nI_T (by omega)] at h67; first | exact ⟨hF, h67⟩ | exact fun q => h67 q.2)) | exact zb_c (by unfold canStep; rw [hg]; first | exact fun q => h51 ⟨q.1, by omega, by omega⟩ | (rw [n0, n1, n2, n3, nI_T (by omega)] at h67; first | exact ⟨hF, h67⟩ | exact fun q => h67 q.2)))⟩
  · rw [z0, z1, z2, z3] at h51
    obtain ⟨hF, -, -⟩ := id h51
    have hF2 := hF
    unfold onF at hF2
    have n0 := Int.toNat_of_nonneg hF2.1
    have n1 := Int.toNat_of_nonneg hF2.2.2.1
    have n2 := Int.toNat_of_nonneg hF2.2.2.2.2.1
    have n3 := Int.toNat_of_nonneg hF2.2.2.2.2.2.2.1
    refine z_aload_n dX6_mayMove_54 rfl ?_
    refine z_iload dX6_mayMove_55 rfl ?_
    refine z_top ((zi_nat hF2.1)) ?_
    refine z_iload dX6_mayMove_57 rfl ?_
    refine z_top ((zi_nat hF2.2.2.1)) ?_
    refine z_iload dX6_mayMove_59 rfl ?_
    refine z_top ((zi_nat hF2.2.2.2.2.1)) ?_
    refine z_iload dX6_mayMove_61 rfl ?_
    refine z_top ((zi_nat hF2.2.2.2.2.2.2.1)) ?_
    refine z_iload_n dX6_mayMove_63 rfl ?_
    refine z_callV5p dX6_mayMove_64 mX6_133 hM.o (m_isFree I L hM hv ho _ _ _ _ _ (by omega) (by omega) (by omega) (by omega)) (by decide) (Nat.le_of_ble_eq_true rfl) ⟨Nat.le_refl _, Nat.le_refl _⟩ ?_
    refine z_if_eqB (tgt := 74) dX6_mayMove_67 (by decide) (fun h67 => ?_) (fun h67 => ?_)
    · refine z_iconst (nI 0) dX6_mayMove_74 (by decide) ?_
      exact z_iret dX6_mayMove_75 ⟨Nat.le_refl _, Nat.le_refl _⟩ (by first | exact zb_nar _ | rfl) ⟨rfl, rfl, rfl, rfl, congrArg (fun z => some (Value.int z)) (by first | exact zb_1 (by unfold canStep; rw [hg]; first | exact fun q => h51 ⟨q.1, by omega, by omega⟩ | (rw [n0, n1, n2, n3, nI_T (by omega)] at h67; first | exact ⟨hF, h67⟩ | exact fun q => h67 q.2)) | exact zb_0 (by unfold canStep; rw [hg]; first | exact fun q => h51 ⟨q.1, by omega, by omega⟩ | (rw [n0, n1, n2, n3, nI_T (by omega)] at h67; first | exact ⟨hF, h67⟩ | exact fun q => h67 q.2)) | exact zb_c (by unfold canStep; rw [hg]; first | exact fun q => h51 ⟨q.1, by omega, by omega⟩ | (rw [n0, n1, n2, n3, nI_T (by omega)] at h67; first | exact ⟨hF, h67⟩ | exact fun q => h67 q.2)))⟩
    · refine z_iconst (nI 1) dX6_mayMove_70 (by decide) ?_
      refine z_goto (tgt := 75) dX6_mayMove_71 (by decide) ?_
      exact z_iret dX6_mayMove_75 ⟨Nat.le_refl _, Nat.le_refl _⟩ (by first | exact zb_nar _ | rfl) ⟨rfl, rfl, rfl, rfl, congrArg (fun z => some (Value.int z)) (by first | exact zb_1 (by unfold canStep; rw [hg]; first | exact fun q => h51 ⟨q.1, by omega, by omega⟩ | (rw [n0, n1, n2, n3, nI_T (by omega)] at h67; first | exact ⟨hF, h67⟩ | exact fun q => h67 q.2)) | exact zb_0 (by unfold canStep; rw [hg]; first | exact fun q => h51 ⟨q.1, by omega, by omega⟩ | (rw [n0, n1, n2, n3, nI_T (by omega)] at h67; first | exact ⟨hF, h67⟩ | exact fun q => h67 q.2)) | exact zb_c (by unfold canStep; rw [hg]; first | exact fun q => h51 ⟨q.1, by omega, by omega⟩ | (rw [n0, n1, n2, n3, nI_T (by omega)] at h67; first | exact ⟨hF, h67⟩ | exact fun q => h67 q.2)))⟩
