set_option maxRecDepth 100000 in
set_option maxHeartbeats 4000000 in
theorem m_clashesOf_l {S : zS} {R : zMR} (I : zMI) (L : zML) {v : Ly} (hM : zMO S R) (hv : zMb (I 97) 0 v) (ho : lyOk v) (hP : zPM I (pcs v.1) (lD v)) (m : Nat) (hm : m < 16384) : ∀ (n : Nat) (i a : Nat) (a4 : Option Value), (pcs v.1).length + 1 ≤ i + n → i ≤ (pcs v.1).length → zCat [a4] = true → a = sm i (cS (pcs v.1) (lD v) m) → zV (zMt RX6 cX6_clashesOf 5 (some .int) 1) (fun S2 I2 L2 R2 rr => S2 = S ∧ R2 = R ∧ (zPure I L (nI (clashes (pcs v.1) (lD v) m))) I2 L2 rr) (0, 0) S I L R 4 [some (.ref 96), some (.int (nI m)), some (.int (nI a)), some (.int (nI i)), a4] [] := by
  intro n
  induction n with
  | zero => intro i a a4 h1 h2 h4 ha; omega
  | succ n ih =>
    intro i a a4 h1 h2 h4 ha
    have hl := ho.1
    have hps := pcs_ok ho
    have hlen := hps.1
    have hall := all_lt hlen
    have hac := sm_le (n := i) (f := cS (pcs v.1) (lD v) m) (k := 14) (fun j _ => Nat.le_trans (cS_le _ _ _ _) hlen)
    have hac2 := Nat.mul_le_mul_right 14 (show i ≤ 14 from by omega)
    refine z_iload_n dX6_clashesOf_4 rfl ?_
    refine z_aload_n dX6_clashesOf_5 rfl ?_
    refine z_geti dX6_clashesOf_6 fX6_49 hM.o ?_
    refine z_top (hP.1.1) ?_
    refine z_icmp_geNN (tgt := 55) dX6_clashesOf_9 (by decide) (by omega) (by omega) (fun h9 => ?_) (fun h9 => ?_)
    · have e : i = (pcs v.1).length := by omega
      subst e
      have hsum := cS_sum (pcs v.1) (lD v) m
      refine z_iload_n dX6_clashesOf_55 rfl ?_
      refine z_iconst (nI 2) dX6_clashesOf_56 (by decide) ?_
      refine z_idivN dX6_clashesOf_57 (by omega) (by omega) (by omega) ?_
      exact z_iret dX6_clashesOf_58 ⟨Nat.le_refl _, Nat.le_refl _⟩ rfl ⟨rfl, rfl, rfl, rfl, congrArg (fun z => some (Value.int z)) (congrArg nI (by omega))⟩
    · refine z_iload_n dX6_clashesOf_12 rfl ?_
      refine z_iload_n dX6_clashesOf_13 rfl ?_
      refine z_callS2p dX6_clashesOf_14 mX6_68 (m_has I L m i (by omega) (by omega)) (by decide) (Nat.le_of_ble_eq_true rfl) ⟨Nat.le_refl _, Nat.le_refl _⟩ ?_
      refine z_if_eqB (tgt := 24) dX6_clashesOf_17 (by decide) (fun h17 => ?_) (fun h17 => ?_)
      · refine z_iload_n dX6_clashesOf_24 rfl ?_
        refine z_iconst (-1) dX6_clashesOf_25 (by decide) ?_
        refine z_ixor dX6_clashesOf_26 ?_
        refine z_aload_n dX6_clashesOf_27 rfl ?_
        refine z_callV0p dX6_clashesOf_28 mX6_72 hM.o (m_all I L hM _ hlen hP.1.1) (by decide) (Nat.le_of_ble_eq_true rfl) ⟨Nat.le_refl _, Nat.le_refl _⟩ ?_
        refine z_iand dX6_clashesOf_31 (z_top (nI_andn2 _ _) ?_)
        refine z_ist4 dX6_clashesOf_32 (by repeat first | rfl | assumption | refine zCat_s ?_ | refine zCat_a ?_ ?_) ?_
        refine z_iload_n dX6_clashesOf_34 rfl ?_
        refine z_aload_n dX6_clashesOf_35 rfl ?_
        refine z_getr dX6_clashesOf_36 fX6_32 hM.o hM.r9 ?_
        refine z_iload_n dX6_clashesOf_39 rfl ?_
        refine z_iaN dX6_clashesOf_40 hM.a9 (by omega) (by decide) ?_
        refine z_top ((hP.2 i h9).1) ?_
        refine z_iload dX6_clashesOf_41 rfl ?_
        refine z_iandN dX6_clashesOf_43 ?_
        refine z_callS1p dX6_clashesOf_44 mX6_76 (m_ones I L _ (and_lt (bm_lt 14 _))) (by decide) (Nat.le_of_ble_eq_true rfl) ⟨Nat.le_refl _, Nat.le_refl _⟩ ?_
        refine z_iaddN dX6_clashesOf_47 ?_
        refine z_ist2 dX6_clashesOf_48 (by repeat first | rfl | assumption | refine zCat_s ?_ | refine zCat_a ?_ ?_) ?_
        refine z_iincN3 (n := 1) dX6_clashesOf_49 (by repeat first | rfl | assumption | refine zCat_s ?_ | refine zCat_a ?_ ?_) ?_
        refine z_goto (tgt := 4) dX6_clashesOf_52 (by decide) ?_
        refine ih (i + 1) _ _ (by omega) (by omega) rfl ?_
        rw [sm, ← ha]
        first | rw [cS_t hlen h17] | rw [cS_f hlen (by simpa using h17)]
      · refine z_iload_n dX6_clashesOf_20 rfl ?_
        refine z_goto (tgt := 32) dX6_clashesOf_21 (by decide) ?_
        refine z_ist4 dX6_clashesOf_32 (by repeat first | rfl | assumption | refine zCat_s ?_ | refine zCat_a ?_ ?_) ?_
        refine z_iload_n dX6_clashesOf_34 rfl ?_
        refine z_aload_n dX6_clashesOf_35 rfl ?_
        refine z_getr dX6_clashesOf_36 fX6_32 hM.o hM.r9 ?_
        refine z_iload_n dX6_clashesOf_39 rfl ?_
        refine z_iaN dX6_clashesOf_40 hM.a9 (by omega) (by decide) ?_
        refine z_top ((hP.2 i h9).1) ?_
        refine z_iload dX6_clashesOf_41 rfl ?_
        refine z_iandN dX6_clashesOf_43 ?_
        refine z_callS1p dX6_clashesOf_44 mX6_76 (m_ones I L _ (and_lt (bm_lt 14 _))) (by decide) (Nat.le_of_ble_eq_true rfl) ⟨Nat.le_refl _, Nat.le_refl _⟩ ?_
        refine z_iaddN dX6_clashesOf_47 ?_
        refine z_ist2 dX6_clashesOf_48 (by repeat first | rfl | assumption | refine zCat_s ?_ | refine zCat_a ?_ ?_) ?_
        refine z_iincN3 (n := 1) dX6_clashesOf_49 (by repeat first | rfl | assumption | refine zCat_s ?_ | refine zCat_a ?_ ?_) ?_
        refine z_goto (tgt := 4) dX6_clashesOf_52 (by decide) ?_
        refine ih (i + 1) _ _ (by omega) (by omega) rfl ?_
        rw [sm, ← ha]
        first | rw [cS_t hlen h17] | rw [cS_f hlen (by simpa using h17)]
set_option maxRecDepth 100000 in
set_option maxHeartbeats 4000000 in
theorem m_clashesOf {S : zS} {R : zMR} (I : zMI) (L : zML) {v : Ly} (hM : zMO S R) (hv : zMb (I 97) 0 v) (ho : lyOk v) (hP : zPM I (pcs v.1) (lD v)) (m : Nat) (hm : m < 16384) : zM0 yX6_clashesOf cX6_clashesOf 5 (some .int) 1 [.ref 96, .int (nI m)] S I L R (zPure I L (nI (clashes (pcs v.1) (lD v) m))) := by
  refine zM0_of (own := RX6) (lv := [some (.ref 96), some (.int (nI m)), none, none, none]) rfl (by decide) rfl rfl ?_
  refine z_iconst (nI 0) dX6_clashesOf_0 (by decide) ?_
  refine z_ist2 dX6_clashesOf_1 rfl ?_
  refine z_iconst (nI 0) dX6_clashesOf_2 (by decide) ?_
  refine z_ist3 dX6_clashesOf_3 rfl ?_
  exact m_clashesOf_l I L hM hv ho hP m hm ((pcs v.1).length + 1) 0 0 none (by omega) (by omega) rfl rfl
set_option maxRecDepth 100000 in
set_option maxHeartbeats 4000000 in
theorem m_stitchesOf_l {S : zS} {R : zMR} (I : zMI) (L : zML) {v : Ly} (hM : zMO S R) (hv : zMb (I 97) 0 v) (ho : lyOk v) (hP : zPM I (pcs v.1) (lD v)) (m : Nat) (hm : m < 16384) : ∀ (n : Nat) (i a : Nat) (a4 : Option Value), (pcs v.1).length + 1 ≤ i + n → i ≤ (pcs v.1).length → zCat [a4] = true → a = sm i (sS (pcs v.1) m) → zV (zMt RX6 cX6_stitchesOf 5 (some .int) 1) (fun S2 I2 L2 R2 rr => S2 = S ∧ R2 = R ∧ (zPure I L (nI (stitches (pcs v.1) m))) I2 L2 rr) (0, 0) S I L R 4 [some (.ref 96), some (.int (nI m)), some (.int (nI a)), some (.int (nI i)), a4] [] := by
  intro n
  induction n with
  | zero => intro i a a4 h1 h2 h4 ha; omega
  | succ n ih =>
    intro i a a4 h1 h2 h4 ha
    have hl := ho.1
    have hps := pcs_ok ho
    have hlen := hps.1
    have hall := all_lt hlen
    have hac := sm_le (n := i) (f := sS (pcs v.1) m) (k := 14) (fun j _ => Nat.le_trans (sS_le _ _ _) hlen)
    have hac2 := Nat.mul_le_mul_right 14 (show i ≤ 14 from by omega)
    refine z_iload_n dX6_stitchesOf_4 rfl ?_
    refine z_aload_n dX6_stitchesOf_5 rfl ?_
    refine z_geti dX6_stitchesOf_6 fX6_49 hM.o ?_
    refine z_top (hP.1.1) ?_
    refine z_icmp_geNN (tgt := 55) dX6_stitchesOf_9 (by decide) (by omega) (by omega) (fun h9 => ?_) (fun h9 => ?_)
    · have e : i = (pcs v.1).length := by omega
      subst e
      have hsum := sS_sum (pcs v.1) m
      refine z_iload_n dX6_stitchesOf_55 rfl ?_
      refine z_iconst (nI 2) dX6_stitchesOf_56 (by decide) ?_
      refine z_idivN dX6_stitchesOf_57 (by omega) (by omega) (by omega) ?_
      exact z_iret dX6_stitchesOf_58 ⟨Nat.le_refl _, Nat.le_refl _⟩ rfl ⟨rfl, rfl, rfl, rfl, congrArg (fun z => some (Value.int z)) (congrArg nI (by omega))⟩
    · refine z_iload_n dX6_stitchesOf_12 rfl ?_
      refine z_iload_n dX6_stitchesOf_13 rfl ?_
      refine z_callS2p dX6_stitchesOf_14 mX6_68 (m_has I L m i (by omega) (by omega)) (by decide) (Nat.le_of_ble_eq_true rfl) ⟨Nat.le_refl _, Nat.le_refl _⟩ ?_
      refine z_if_eqB (tgt := 31) dX6_stitchesOf_17 (by decide) (fun h17 => ?_) (fun h17 => ?_)
      · refine z_iload_n dX6_stitchesOf_31 rfl ?_
        refine z_ist4 dX6_stitchesOf_32 (by repeat first | rfl | assumption | refine zCat_s ?_ | refine zCat_a ?_ ?_) ?_
        refine z_iload_n dX6_stitchesOf_34 rfl ?_
        refine z_aload_n dX6_stitchesOf_35 rfl ?_
        refine z_getr dX6_stitchesOf_36 fX6_35 hM.o hM.r10 ?_
        refine z_iload_n dX6_stitchesOf_39 rfl ?_
        refine z_iaN dX6_stitchesOf_40 hM.a10 (by omega) (by decide) ?_
        refine z_top ((hP.2 i h9).2) ?_
        refine z_iload dX6_stitchesOf_41 rfl ?_
        refine z_iandN dX6_stitchesOf_43 ?_
        refine z_callS1p dX6_stitchesOf_44 mX6_76 (m_ones I L _ (and_lt (bm_lt 14 _))) (by decide) (Nat.le_of_ble_eq_true rfl) ⟨Nat.le_refl _, Nat.le_refl _⟩ ?_
        refine z_iaddN dX6_stitchesOf_47 ?_
        refine z_ist2 dX6_stitchesOf_48 (by repeat first | rfl | assumption | refine zCat_s ?_ | refine zCat_a ?_ ?_) ?_
        refine z_iincN3 (n := 1) dX6_stitchesOf_49 (by repeat first | rfl | assumption | refine zCat_s ?_ | refine zCat_a ?_ ?_) ?_
        refine z_goto (tgt := 4) dX6_stitchesOf_52 (by decide) ?_
        refine ih (i + 1) _ _ (by omega) (by omega) rfl ?_
        rw [sm, ← ha]
        first | rw [sS_t hlen h17] | rw [sS_f hlen (by simpa using h17)]
      · refine z_iload_n dX6_stitchesOf_20 rfl ?_
        refine z_iconst (-1) dX6_stitchesOf_21 (by decide) ?_
        refine z_ixor dX6_stitchesOf_22 ?_
        refine z_aload_n dX6_stitchesOf_23 rfl ?_
        refine z_callV0p dX6_stitchesOf_24 mX6_72 hM.o (m_all I L hM _ hlen hP.1.1) (by decide) (Nat.le_of_ble_eq_true rfl) ⟨Nat.le_refl _, Nat.le_refl _⟩ ?_
        refine z_iand dX6_stitchesOf_27 (z_top (nI_andn2 _ _) ?_)
        refine z_goto (tgt := 32) dX6_stitchesOf_28 (by decide) ?_
        refine z_ist4 dX6_stitchesOf_32 (by repeat first | rfl | assumption | refine zCat_s ?_ | refine zCat_a ?_ ?_) ?_
        refine z_iload_n dX6_stitchesOf_34 rfl ?_
        refine z_aload_n dX6_stitchesOf_35 rfl ?_
        refine z_getr dX6_stitchesOf_36 fX6_35 hM.o hM.r10 ?_
        refine z_iload_n dX6_stitchesOf_39 rfl ?_
        refine z_iaN dX6_stitchesOf_40 hM.a10 (by omega) (by decide) ?_
        refine z_top ((hP.2 i h9).2) ?_
        refine z_iload dX6_stitchesOf_41 rfl ?_
        refine z_iandN dX6_stitchesOf_43 ?_
        refine z_callS1p dX6_stitchesOf_44 mX6_76 (m_ones I L _ (and_lt (bm_lt 14 _))) (by decide) (Nat.le_of_ble_eq_true rfl) ⟨Nat.le_refl _, Nat.le_refl _⟩ ?_
        refine z_iaddN dX6_stitchesOf_47 ?_
        refine z_ist2 dX6_stitchesOf_48 (by repeat first | rfl | assumption | refine zCat_s ?_ | refine zCat_a ?_ ?_) ?_
        refine z_iincN3 (n := 1) dX6_stitchesOf_49 (by repeat first | rfl | assumption | refine zCat_s ?_ | refine zCat_a ?_ ?_) ?_
        refine z_goto (tgt := 4) dX6_stitchesOf_52 (by decide) ?_
        refine ih (i + 1) _ _ (by omega) (by omega) rfl ?_
        rw [sm, ← ha]
        first | rw [sS_t hlen h17] | rw [sS_f hlen (by simpa using h17)]
set_option maxRecDepth 100000 in
set_option maxHeartbeats 4000000 in
theorem m_stitchesOf {S : zS} {R : zMR} (I : zMI) (L : zML) {v : Ly} (hM : zMO S R) (hv : zMb (I 97) 0 v) (ho : lyOk v) (hP : zPM I (pcs v.1) (lD v)) (m : Nat) (hm : m < 16384) : zM0 yX6_stitchesOf cX6_stitchesOf 5 (some .int) 1 [.ref 96, .int (nI m)] S I L R (zPure I L (nI (stitches (pcs v.1) m))) := by
  refine zM0_of (own := RX6) (lv := [some (.ref 96), some (.int (nI m)), none, none, none]) rfl (by decide) rfl rfl ?_
  refine z_iconst (nI 0) dX6_stitchesOf_0 (by decide) ?_
  refine z_ist2 dX6_stitchesOf_1 rfl ?_
  refine z_iconst (nI 0) dX6_stitchesOf_2 (by decide) ?_
  refine z_ist3 dX6_stitchesOf_3 rfl ?_
  exact m_stitchesOf_l I L hM hv ho hP m hm ((pcs v.1).length + 1) 0 0 none (by omega) (by omega) rfl rfl
set_option maxRecDepth 100000 in
set_option maxHeartbeats 4000000 in
theorem m_costOf {S : zS} {R : zMR} (I : zMI) (L : zML) {v : Ly} (hM : zMO S R) (hv : zMb (I 97) 0 v) (ho : lyOk v) (hP : zPM I (pcs v.1) (lD v)) (m : Nat) (hm : m < 16384) : zM0 yX6_costOf cX6_costOf 2 (some .int) 2 [.ref 96, .int (nI m)] S I L R (zPure I L (nI (cost (pcs v.1) (lD v) (lST v) (lCL v) m))) := by
  refine zM0_of (own := RX6) (lv := [some (.ref 96), some (.int (nI m))]) rfl (by decide) rfl rfl ?_
  refine z_aload_n dX6_costOf_0 rfl ?_
  refine z_getr dX6_costOf_1 fX6_7 hM.o hM.r0 ?_
  refine z_bipush (nI 63) dX6_costOf_4 (by decide) ?_
  refine z_iaN dX6_costOf_6 hM.a0 (by omega) (by decide) ?_
  refine z_top ((show _ = nI (lCL v) from by simpa using hv.2.2.2.2.1)) ?_
  refine z_aload_n dX6_costOf_7 rfl ?_
  refine z_iload_n dX6_costOf_8 rfl ?_
  refine z_callV1p dX6_costOf_9 mX6_79 hM.o (m_clashesOf I L hM hv ho hP m hm) (by decide) (Nat.le_of_ble_eq_true rfl) ⟨Nat.le_refl _, Nat.le_refl _⟩ ?_
  refine z_imulN dX6_costOf_12 ?_
  refine z_aload_n dX6_costOf_13 rfl ?_
  refine z_getr dX6_costOf_14 fX6_7 hM.o hM.r0 ?_
  refine z_bipush (nI 62) dX6_costOf_17 (by decide) ?_
  refine z_iaN dX6_costOf_19 hM.a0 (by omega) (by decide) ?_
  refine z_top ((show _ = nI (lST v) from by simpa using hv.2.2.2.1)) ?_
  refine z_aload_n dX6_costOf_20 rfl ?_
  refine z_iload_n dX6_costOf_21 rfl ?_
  refine z_callV1p dX6_costOf_22 mX6_82 hM.o (m_stitchesOf I L hM hv ho hP m hm) (by decide) (Nat.le_of_ble_eq_true rfl) ⟨Nat.le_refl _, Nat.le_refl _⟩ ?_
  refine z_imulN dX6_costOf_25 ?_
  refine z_iaddN dX6_costOf_26 ?_
  exact z_iret dX6_costOf_27 ⟨Nat.le_refl _, Nat.le_refl _⟩ rfl ⟨rfl, rfl, rfl, rfl, congrArg (fun z => some (Value.int z)) (rfl)⟩
set_option maxRecDepth 100000 in
set_option maxHeartbeats 4000000 in
theorem m_areaOn_l {S : zS} {R : zMR} (I : zMI) (L : zML) {v : Ly} (hM : zMO S R) (hv : zMb (I 97) 0 v) (ho : lyOk v) (hP : zPM I (pcs v.1) (lD v)) (m : Nat) (hm : m < 16384) : ∀ (n : Nat) (i a : Nat), (pcs v.1).length + 1 ≤ i + n → i ≤ (pcs v.1).length → a = sm i (fun p => if m.testBit p then qa (pg (pcs v.1) p) else 0) → zV (zMt RX6 cX6_areaOn 4 (some .int) 2) (fun S2 I2 L2 R2 rr => S2 = S ∧ R2 = R ∧ (zPure I L (nI (areaM (pcs v.1) m))) I2 L2 rr) (0, 0) S I L R 4 [some (.ref 96), some (.int (nI m)), some (.int (nI a)), some (.int (nI i))] [] := by
  intro n
  induction n with
  | zero => intro i a h1 h2 ha; omega
  | succ n ih =>
    intro i a h1 h2 ha
    have hl := ho.1
    have hps := pcs_ok ho
    have hlen := hps.1
    have hall := all_lt hlen
    refine z_iload_n dX6_areaOn_4 rfl ?_
    refine z_aload_n dX6_areaOn_5 rfl ?_
    refine z_geti dX6_areaOn_6 fX6_49 hM.o ?_
    refine z_top (hP.1.1) ?_
    refine z_icmp_geNN (tgt := 38) dX6_areaOn_9 (by decide) (by omega) (by omega) (fun h9 => ?_) (fun h9 => ?_)
    · refine z_iload_n dX6_areaOn_38 rfl ?_
      have e : i = (pcs v.1).length := by omega
      subst e
      exact z_iret dX6_areaOn_39 ⟨Nat.le_refl _, Nat.le_refl _⟩ rfl ⟨rfl, rfl, rfl, rfl, congrArg (fun z => some (Value.int z)) (congrArg nI ha)⟩
    · refine z_iload_n dX6_areaOn_12 rfl ?_
      refine z_iload_n dX6_areaOn_13 rfl ?_
      refine z_iload_n dX6_areaOn_14 rfl ?_
      refine z_callS2p dX6_areaOn_15 mX6_68 (m_has I L m i (by omega) (by omega)) (by decide) (Nat.le_of_ble_eq_true rfl) ⟨Nat.le_refl _, Nat.le_refl _⟩ ?_
      refine z_if_eqB (tgt := 29) dX6_areaOn_18 (by decide) (fun h18 => ?_) (fun h18 => ?_)
      · refine z_iconst (nI 0) dX6_areaOn_29 (by decide) ?_
        refine z_iaddN dX6_areaOn_30 ?_
        refine z_ist2 dX6_areaOn_31 rfl ?_
        refine z_iincN3 (n := 1) dX6_areaOn_32 rfl ?_
        refine z_goto (tgt := 4) dX6_areaOn_35 (by decide) ?_
        refine ih (i + 1) _ (by omega) (by omega) ?_
        rw [sm, ← ha]
        first | rw [if_pos h18] | rw [if_neg h18]
      · refine z_aload_n dX6_areaOn_21 rfl ?_
        refine z_iload_n dX6_areaOn_22 rfl ?_
        refine z_callV1p dX6_areaOn_23 mX6_85 hM.o (m_areaOf I L hM hv ho hP.1 i h9) (by decide) (Nat.le_of_ble_eq_true rfl) ⟨Nat.le_refl _, Nat.le_refl _⟩ ?_
        refine z_goto (tgt := 30) dX6_areaOn_26 (by decide) ?_
        refine z_iaddN dX6_areaOn_30 ?_
        refine z_ist2 dX6_areaOn_31 rfl ?_
        refine z_iincN3 (n := 1) dX6_areaOn_32 rfl ?_
        refine z_goto (tgt := 4) dX6_areaOn_35 (by decide) ?_
        refine ih (i + 1) _ (by omega) (by omega) ?_
        rw [sm, ← ha]
        first | rw [if_pos h18] | rw [if_neg h18]
set_option maxRecDepth 100000 in
set_option maxHeartbeats 4000000 in
theorem m_areaOn {S : zS} {R : zMR} (I : zMI) (L : zML) {v : Ly} (hM : zMO S R) (hv : zMb (I 97) 0 v) (ho : lyOk v) (hP : zPM I (pcs v.1) (lD v)) (m : Nat) (hm : m < 16384) : zM0 yX6_areaOn cX6_areaOn 4 (some .int) 2 [.ref 96, .int (nI m)] S I L R (zPure I L (nI (areaM (pcs v.1) m))) := by
  refine zM0_of (own := RX6) (lv := [some (.ref 96), some (.int (nI m)), none, none]) rfl (by decide) rfl rfl ?_
  refine z_iconst (nI 0) dX6_areaOn_0 (by decide) ?_
  refine z_ist2 dX6_areaOn_1 rfl ?_
  refine z_iconst (nI 0) dX6_areaOn_2 (by decide) ?_
  refine z_ist3 dX6_areaOn_3 rfl ?_
  exact m_areaOn_l I L hM hv ho hP m hm ((pcs v.1).length + 1) 0 0 (by omega) (by omega) rfl
theorem bit_2 {b : Bool} {k : Nat} (e : k = b.toNat + 1) (h : k = 2) : b = true := by
  cases b
  · simp at e; omega
  · rfl
theorem bit_n2 {b : Bool} {k : Nat} (e : k = b.toNat + 1) (h : k ≠ 2) : ¬ b = true := by
  cases b
  · simp
  · simp at e; omega
set_option maxRecDepth 100000 in
set_option maxHeartbeats 4000000 in
theorem m_areFixed_l {S : zS} {R : zMR} (I : zMI) (L : zML) {v : Ly} (hM : zMO S R) (hv : zMb (I 97) 0 v) (ho : lyOk v) (hP : zPM I (pcs v.1) (lD v)) (m : Nat) (hm : m < 16384) : ∀ (n : Nat) (i : Nat), (pcs v.1).length + 1 ≤ i + n → i ≤ (pcs v.1).length → zV (zMt RX6 cX6_areFixed 4 (some .boolean) 1) (fun S2 I2 L2 R2 rr => S2 = S ∧ R2 = R ∧ (zPure I L (zb (fxI (lfx v) m (pcs v.1).length))) I2 L2 rr) (0, 0) S I L R 4 [some (.ref 96), some (.int (nI m)), some (.int (zb (fxI (lfx v) m i))), some (.int (nI i))] [] := by
  intro n
  induction n with
  | zero => intro i h1 h2; omega
  | succ n ih =>
    intro i h1 h2
    have hl := ho.1
    have hps := pcs_ok ho
    have hlen := hps.1
    have hall := all_lt hlen
    have hfx := ho.2.2.2.2.2.2.2.2.1 i
    refine z_iload_n dX6_areFixed_4 rfl ?_
    refine z_aload_n dX6_areFixed_5 rfl ?_
    refine z_geti dX6_areFixed_6 fX6_49 hM.o ?_
    refine z_top (hP.1.1) ?_
    refine z_icmp_geNN (tgt := 66) dX6_areFixed_9 (by decide) (by omega) (by omega) (fun h9 => ?_) (fun h9 => ?_)
    · refine z_iload_n dX6_areFixed_66 rfl ?_
      have e : i = (pcs v.1).length := by omega
      subst e
      exact z_iret dX6_areFixed_67 ⟨Nat.le_refl _, Nat.le_refl _⟩ (by first | exact zb_nar _ | rfl) ⟨rfl, rfl, rfl, rfl, congrArg (fun z => some (Value.int z)) (by first | exact zb_1 (by exact Iff.rfl) | exact zb_0 (by exact Iff.rfl) | exact zb_c (by exact Iff.rfl))⟩
    · refine z_iload_n dX6_areFixed_12 rfl ?_
      refine z_if_eqB (tgt := 58) dX6_areFixed_13 (by decide) (fun h13 => ?_) (fun h13 => ?_)
      · refine z_iconst (nI 0) dX6_areFixed_58 (by decide) ?_
        refine z_ist2 dX6_areFixed_59 rfl ?_
        refine z_iincN3 (n := 1) dX6_areFixed_60 rfl ?_
        refine z_goto (tgt := 4) dX6_areFixed_63 (by decide) ?_
        have z := ih (i + 1) (by omega) (by omega)
        first
        | (rw [← zb_1 (fxI_s.mpr ⟨h13, Or.inl h25⟩)] at z; exact z)
        | (rw [← zb_0 (P := fxI (lfx v) m (i + 1)) (fun q => h13 (fxI_s.mp q).1)] at z; exact z)
        | (rw [← zb_1 (fxI_s.mpr ⟨h13, Or.inr (by rw [zb_eq1.mp h51, h43]; rfl)⟩)] at z; exact z)
        | (rw [← zb_1 (fxI_s.mpr ⟨h13, Or.inr (by rw [show m.testBit i = false from by simpa using zb_eq0.mp h51, Bool.toNat_false]; omega)⟩)] at z; exact z)
        | (rw [← zb_0 (P := fxI (lfx v) m (i + 1)) (fun q => (fxI_s.mp q).2.elim (fun e => absurd e (by omega)) (fun e => h51 (zb_t (bit_2 e h43))))] at z; exact z)
        | (rw [← zb_0 (P := fxI (lfx v) m (i + 1)) (fun q => (fxI_s.mp q).2.elim (fun e => absurd e (by omega)) (fun e => h51 (zb_f (bit_n2 e h43))))] at z; exact z)
      · refine z_aload_n dX6_areFixed_16 rfl ?_
        refine z_getr dX6_areFixed_17 fX6_7 hM.o hM.r0 ?_
        refine z_bipush (nI 64) dX6_areFixed_20 (by decide) ?_
        refine z_iload_n dX6_areFixed_22 rfl ?_
        refine z_iaddN dX6_areFixed_23 ?_
        refine z_iaN dX6_areFixed_24 hM.a0 (by omega) (by decide) ?_
        refine z_top ((show _ = nI (lfx v i) from by have := hv.2.2.2.2.2 i (by omega); simpa using this)) ?_
        refine z_if_eqN (tgt := 54) dX6_areFixed_25 (by decide) (by omega) (fun h25 => ?_) (fun h25 => ?_)
        · refine z_iconst (nI 1) dX6_areFixed_54 (by decide) ?_
          refine z_goto (tgt := 59) dX6_areFixed_55 (by decide) ?_
          refine z_ist2 dX6_areFixed_59 rfl ?_
          refine z_iincN3 (n := 1) dX6_areFixed_60 rfl ?_
          refine z_goto (tgt := 4) dX6_areFixed_63 (by decide) ?_
          have z := ih (i + 1) (by omega) (by omega)
          first
          | (rw [← zb_1 (fxI_s.mpr ⟨h13, Or.inl h25⟩)] at z; exact z)
          | (rw [← zb_0 (P := fxI (lfx v) m (i + 1)) (fun q => h13 (fxI_s.mp q).1)] at z; exact z)
          | (rw [← zb_1 (fxI_s.mpr ⟨h13, Or.inr (by rw [zb_eq1.mp h51, h43]; rfl)⟩)] at z; exact z)
          | (rw [← zb_1 (fxI_s.mpr ⟨h13, Or.inr (by rw [show m.testBit i = false from by simpa using zb_eq0.mp h51, Bool.toNat_false]; omega)⟩)] at z; exact z)
          | (rw [← zb_0 (P := fxI (lfx v) m (i + 1)) (fun q => (fxI_s.mp q).2.elim (fun e => absurd e (by omega)) (fun e => h51 (zb_t (bit_2 e h43))))] at z; exact z)
          | (rw [← zb_0 (P := fxI (lfx v) m (i + 1)) (fun q => (fxI_s.mp q).2.elim (fun e => absurd e (by omega)) (fun e => h51 (zb_f (bit_n2 e h43))))] at z; exact z)
        · refine z_iload_n dX6_areFixed_28 rfl ?_
          refine z_iload_n dX6_areFixed_29 rfl ?_
          refine z_callS2p dX6_areFixed_30 mX6_68 (m_has I L m i (by omega) (by omega)) (by decide) (Nat.le_of_ble_eq_true rfl) ⟨Nat.le_refl _, Nat.le_refl _⟩ ?_
          refine z_aload_n dX6_areFixed_33 rfl ?_
          refine z_getr dX6_areFixed_34 fX6_7 hM.o hM.r0 ?_
          refine z_bipush (nI 64) dX6_areFixed_37 (by decide) ?_
          refine z_iload_n dX6_areFixed_39 rfl ?_
          refine z_iaddN dX6_areFixed_40 ?_
          refine z_iaN dX6_areFixed_41 hM.a0 (by omega) (by decide) ?_
          refine z_top ((show _ = nI (lfx v i) from by have := hv.2.2.2.2.2 i (by omega); simpa using this)) ?_
          refine z_iconst (nI 2) dX6_areFixed_42 (by decide) ?_
          refine z_icmp_neNN (tgt := 50) dX6_areFixed_43 (by decide) (by omega) (by omega) (fun h43 => ?_) (fun h43 => ?_)
          · refine z_iconst (nI 0) dX6_areFixed_50 (by decide) ?_
            refine z_icmp_ne (tgt := 58) dX6_areFixed_51 (by decide) (fun h51 => ?_) (fun h51 => ?_)
            · refine z_iconst (nI 0) dX6_areFixed_58 (by decide) ?_
              refine z_ist2 dX6_areFixed_59 rfl ?_
              refine z_iincN3 (n := 1) dX6_areFixed_60 rfl ?_
              refine z_goto (tgt := 4) dX6_areFixed_63 (by decide) ?_
              have z := ih (i + 1) (by omega) (by omega)
              first
              | (rw [← zb_1 (fxI_s.mpr ⟨h13, Or.inl h25⟩)] at z; exact z)
              | (rw [← zb_0 (P := fxI (lfx v) m (i + 1)) (fun q => h13 (fxI_s.mp q).1)] at z; exact z)
              | (rw [← zb_1 (fxI_s.mpr ⟨h13, Or.inr (by rw [zb_eq1.mp h51, h43]; rfl)⟩)] at z; exact z)
              | (rw [← zb_1 (fxI_s.mpr ⟨h13, Or.inr (by rw [show m.testBit i = false from by simpa using zb_eq0.mp h51, Bool.toNat_false]; omega)⟩)] at z; exact z)
              | (rw [← zb_0 (P := fxI (lfx v) m (i + 1)) (fun q => (fxI_s.mp q).2.elim (fun e => absurd e (by omega)) (fun e => h51 (zb_t (bit_2 e h43))))] at z; exact z)
              | (rw [← zb_0 (P := fxI (lfx v) m (i + 1)) (fun q => (fxI_s.mp q).2.elim (fun e => absurd e (by omega)) (fun e => h51 (zb_f (bit_n2 e h43))))] at z; exact z)
            · refine z_iconst (nI 1) dX6_areFixed_54 (by decide) ?_
              refine z_goto (tgt := 59) dX6_areFixed_55 (by decide) ?_
              refine z_ist2 dX6_areFixed_59 rfl ?_
              refine z_iincN3 (n := 1) dX6_areFixed_60 rfl ?_
              refine z_goto (tgt := 4) dX6_areFixed_63 (by decide) ?_
              have z := ih (i + 1) (by omega) (by omega)
              first
              | (rw [← zb_1 (fxI_s.mpr ⟨h13, Or.inl h25⟩)] at z; exact z)
              | (rw [← zb_0 (P := fxI (lfx v) m (i + 1)) (fun q => h13 (fxI_s.mp q).1)] at z; exact z)
              | (rw [← zb_1 (fxI_s.mpr ⟨h13, Or.inr (by rw [zb_eq1.mp h51, h43]; rfl)⟩)] at z; exact z)
              | (rw [← zb_1 (fxI_s.mpr ⟨h13, Or.inr (by rw [show m.testBit i = false from by simpa using zb_eq0.mp h51, Bool.toNat_false]; omega)⟩)] at z; exact z)
              | (rw [← zb_0 (P := fxI (lfx v) m (i + 1)) (fun q => (fxI_s.mp q).2.elim (fun e => absurd e (by omega)) (fun e => h51 (zb_t (bit_2 e h43))))] at z; exact z)
              | (rw [← zb_0 (P := fxI (lfx v) m (i + 1)) (fun q => (fxI_s.mp q).2.elim (fun e => absurd e (by omega)) (fun e => h51 (zb_f (bit_n2 e h43))))] at z; exact z)
          · refine z_iconst (nI 1) dX6_areFixed_46 (by decide) ?_
            refine z_goto (tgt := 51) dX6_areFixed_47 (by decide) ?_
            refine z_icmp_ne (tgt := 58) dX6_areFixed_51 (by decide) (fun h51 => ?_) (fun h51 => ?_)
            · refine z_iconst (nI 0) dX6_areFixed_58 (by decide) ?_
              refine z_ist2 dX6_areFixed_59 rfl ?_
              refine z_iincN3 (n := 1) dX6_areFixed_60 rfl ?_
              refine z_goto (tgt := 4) dX6_areFixed_63 (by decide) ?_
              have z := ih (i + 1) (by omega) (by omega)
              first
              | (rw [← zb_1 (fxI_s.mpr ⟨h13, Or.inl h25⟩)] at z; exact z)
              | (rw [← zb_0 (P := fxI (lfx v) m (i + 1)) (fun q => h13 (fxI_s.mp q).1)] at z; exact z)
              | (rw [← zb_1 (fxI_s.mpr ⟨h13, Or.inr (by rw [zb_eq1.mp h51, h43]; rfl)⟩)] at z; exact z)
              | (rw [← zb_1 (fxI_s.mpr ⟨h13, Or.inr (by rw [show m.testBit i = false from by simpa using zb_eq0.mp h51, Bool.toNat_false]; omega)⟩)] at z; exact z)
              | (rw [← zb_0 (P := fxI (lfx v) m (i + 1)) (fun q => (fxI_s.mp q).2.elim (fun e => absurd e (by omega)) (fun e => h51 (zb_t (bit_2 e h43))))] at z; exact z)
              | (rw [← zb_0 (P := fxI (lfx v) m (i + 1)) (fun q => (fxI_s.mp q).2.elim (fun e => absurd e (by omega)) (fun e => h51 (zb_f (bit_n2 e h43))))] at z; exact z)
            · refine z_iconst (nI 1) dX6_areFixed_54 (by decide) ?_
              refine z_goto (tgt := 59) dX6_areFixed_55 (by decide) ?_
              refine z_ist2 dX6_areFixed_59 rfl ?_
              refine z_iincN3 (n := 1) dX6_areFixed_60 rfl ?_
              refine z_goto (tgt := 4) dX6_areFixed_63 (by decide) ?_
              have z := ih (i + 1) (by omega) (by omega)
              first
              | (rw [← zb_1 (fxI_s.mpr ⟨h13, Or.inl h25⟩)] at z; exact z)
              | (rw [← zb_0 (P := fxI (lfx v) m (i + 1)) (fun q => h13 (fxI_s.mp q).1)] at z; exact z)
              | (rw [← zb_1 (fxI_s.mpr ⟨h13, Or.inr (by rw [zb_eq1.mp h51, h43]; rfl)⟩)] at z; exact z)
              | (rw [← zb_1 (fxI_s.mpr ⟨h13, Or.inr (by rw [show m.testBit i = false from by simpa using zb_eq0.mp h51, Bool.toNat_false]; omega)⟩)] at z; exact z)
              | (rw [← zb_0 (P := fxI (lfx v) m (i + 1)) (fun q => (fxI_s.mp q).2.elim (fun e => absurd e (by omega)) (fun e => h51 (zb_t (bit_2 e h43))))] at z; exact z)
              | (rw [← zb_0 (P := fxI (lfx v) m (i + 1)) (fun q => (fxI_s.mp q).2.elim (fun e => absurd e (by omega)) (fun e => h51 (zb_f (bit_n2 e h43))))] at z; exact z)
set_option maxRecDepth 100000 in
set_option maxHeartbeats 4000000 in
theorem m_areFixed {S : zS} {R : zMR} (I : zMI) (L : zML) {v : Ly} (hM : zMO S R) (hv : zMb (I 97) 0 v) (ho : lyOk v) (hP : zPM I (pcs v.1) (lD v)) (m : Nat) (hm : m < 16384) : zM0 yX6_areFixed cX6_areFixed 4 (some .boolean) 1 [.ref 96, .int (nI m)] S I L R (zPure I L (zb (fxI (lfx v) m (pcs v.1).length))) := by
  refine zM0_of (own := RX6) (lv := [some (.ref 96), some (.int (nI m)), none, none]) rfl (by decide) rfl rfl ?_
  refine z_iconst (nI 1) dX6_areFixed_0 (by decide) ?_
  refine z_ist2 dX6_areFixed_1 rfl ?_
  refine z_iconst (nI 0) dX6_areFixed_2 (by decide) ?_
  refine z_ist3 dX6_areFixed_3 rfl ?_
  have z := m_areFixed_l I L hM hv ho hP m hm ((pcs v.1).length + 1) 0 (by omega) (by omega)
  rw [← zb_1 (show fxI (lfx v) m 0 from fun p hp => absurd hp (by omega))] at z
  exact z
set_option maxRecDepth 100000 in
set_option maxHeartbeats 4000000 in
theorem m_isFirst {S : zS} {R : zMR} (I : zMI) (L : zML) (a b : Nat) (ha : a < 16384) (hb : b < 16384) : zM0 yX6_isFirst cX6_isFirst 3 (some .boolean) 0 [.int (nI a), .int (nI b)] S I L R (zPure I L (zb (lxl a b))) := by
  refine zM0_of (own := RX6) (lv := [some (.int (nI a)), some (.int (nI b)), none]) rfl (by decide) rfl rfl ?_
  have hx : a ^^^ b < 16384 := Nat.xor_lt_two_pow (n := 14) ha hb
  have hy : a &&& lowb (a ^^^ b) < 16384 := and_lt ha
  refine z_iload_n dX6_isFirst_0 rfl ?_
  refine z_iload_n dX6_isFirst_1 rfl ?_
  refine z_ixorN dX6_isFirst_2 ?_
  refine z_ist2 dX6_isFirst_3 rfl ?_
  refine z_iload_n dX6_isFirst_4 rfl ?_
  refine z_if_eqN (tgt := 21) dX6_isFirst_5 (by decide) (by omega) (fun h5 => ?_) (fun h5 => ?_)
  · refine z_iconst (nI 0) dX6_isFirst_21 (by decide) ?_
    exact z_iret dX6_isFirst_22 ⟨Nat.le_refl _, Nat.le_refl _⟩ (by first | exact zb_nar _ | rfl) ⟨rfl, rfl, rfl, rfl, congrArg (fun z => some (Value.int z)) (by first | exact zb_1 (by first | exact (fst_lxl (by omega)).mp h14 | exact fun q => absurd ((fst_lxl (by omega)).mpr q) (by omega) | (rw [xor_0 h5]; exact lxl_irr b)) | exact zb_0 (by first | exact (fst_lxl (by omega)).mp h14 | exact fun q => absurd ((fst_lxl (by omega)).mpr q) (by omega) | (rw [xor_0 h5]; exact lxl_irr b)) | exact zb_c (by first | exact (fst_lxl (by omega)).mp h14 | exact fun q => absurd ((fst_lxl (by omega)).mpr q) (by omega) | (rw [xor_0 h5]; exact lxl_irr b)))⟩
  · refine z_iload_n dX6_isFirst_8 rfl ?_
    refine z_iload_n dX6_isFirst_9 rfl ?_
    refine z_iandN dX6_isFirst_10 ?_
    refine z_iload_n dX6_isFirst_11 rfl ?_
    refine z_ineg dX6_isFirst_12 ?_
    refine z_iand dX6_isFirst_13 (z_top (low_and hx) ?_)
    refine z_if_neN (tgt := 21) dX6_isFirst_14 (by decide) (by omega) (fun h14 => ?_) (fun h14 => ?_)
    · refine z_iconst (nI 0) dX6_isFirst_21 (by decide) ?_
      exact z_iret dX6_isFirst_22 ⟨Nat.le_refl _, Nat.le_refl _⟩ (by first | exact zb_nar _ | rfl) ⟨rfl, rfl, rfl, rfl, congrArg (fun z => some (Value.int z)) (by first | exact zb_1 (by first | exact (fst_lxl (by omega)).mp h14 | exact fun q => absurd ((fst_lxl (by omega)).mpr q) (by omega) | (rw [xor_0 h5]; exact lxl_irr b)) | exact zb_0 (by first | exact (fst_lxl (by omega)).mp h14 | exact fun q => absurd ((fst_lxl (by omega)).mpr q) (by omega) | (rw [xor_0 h5]; exact lxl_irr b)) | exact zb_c (by first | exact (fst_lxl (by omega)).mp h14 | exact fun q => absurd ((fst_lxl (by omega)).mpr q) (by omega) | (rw [xor_0 h5]; exact lxl_irr b)))⟩
    · refine z_iconst (nI 1) dX6_isFirst_17 (by decide) ?_
      refine z_goto (tgt := 22) dX6_isFirst_18 (by decide) ?_
      exact z_iret dX6_isFirst_22 ⟨Nat.le_refl _, Nat.le_refl _⟩ (by first | exact zb_nar _ | rfl) ⟨rfl, rfl, rfl, rfl, congrArg (fun z => some (Value.int z)) (by first | exact zb_1 (by first | exact (fst_lxl (by omega)).mp h14 | exact fun q => absurd ((fst_lxl (by omega)).mpr q) (by omega) | (rw [xor_0 h5]; exact lxl_irr b)) | exact zb_0 (by first | exact (fst_lxl (by omega)).mp h14 | exact fun q => absurd ((fst_lxl (by omega)).mpr q) (by omega) | (rw [xor_0 h5]; exact lxl_irr b)) | exact zb_c (by first | exact (fst_lxl (by omega)).mp h14 | exact fun q => absurd ((fst_lxl (by omega)).mpr q) (by omega) | (rw [xor_0 h5]; exact lxl_irr b)))⟩
def jF (I J : zMI) : Prop := (∀ x, x ≠ 96 → J x = I x) ∧ ∀ k, (k < 11 ∨ 13 < k) → J 96 k = I 96 k
theorem jF.rfl {I : zMI} : jF I I := ⟨fun _ _ => Eq.refl _, fun _ _ => Eq.refl _⟩
theorem jF.zu {I J : zMI} (h : jF I J) {k : Nat} {x : Int32} (hk : 11 ≤ k ∧ k ≤ 13) : jF I (zu J 96 k x) := ⟨fun a h1 => by rw [zu_ne h1]; exact h.1 a h1, fun a h1 => by rw [zu_nk (Or.inr (by omega))]; exact h.2 a h1⟩
theorem jF.pm {I J : zMI} (h : jF I J) {ps : List Pc} {D : Nat} (hP : zPM I ps D) : zPM J ps D := hP.frame (h.2 5 (by omega)) (fun p p1 p2 => h.1 p (by omega))
theorem jF.mf {I J : zMI} (h : jF I J) : zMF I J := ⟨fun p hp => h.1 p (by omega), h.2 2 (by omega)⟩
noncomputable def jb (v : Ly) (J : zMI) : Prop := J 96 11 = nI (bst v).2.2.2 ∧ J 96 12 = nI (bst v).1 ∧ J 96 13 = nI (bst v).2.1
theorem bIv_bd {cs un : Nat → Nat} {B : Nat → Bool} {s : Bs} (h : bIv cs un B s) (hx : ∃ x, B x = true) : s.1 < 1000000000 ∧ s.2.1 ≤ 16384 ∧ s.2.2.2 < 16384 ∧ s.2.2.1 = un s.2.2.2 := by
  obtain ⟨h1, h2, h3, h4⟩ := h
  obtain ⟨x, hx⟩ := hx
  rcases h4 with ⟨h4, -⟩ | ⟨h4, h5, h6, -⟩
  · rw [h4 x] at hx; cases hx
  · exact ⟨by have := (h1 _ h4).2; omega, by rw [h3]; exact cnt_le _ _, (h1 _ h4).1, h6⟩
theorem jS_end {v : Ly} (ho : lyOk v) {m : Nat} (hm : 2 ^ (pcs v.1).length ≤ m) {b c w l : Int32} (h : jS (cost (pcs v.1) (lD v) (lST v) (lCL v)) (fun m => unev (whl v) (areaM (pcs v.1) m)) (pcs v.1).length (lfx v) m b c w l) : b = nI (bst v).2.2.2 ∧ c = nI (bst v).1 ∧ w = nI (bst v).2.1 := by
  rcases h with ⟨h1, h2⟩ | ⟨s, h1, h2, h3, h4, h5, h6⟩
  · obtain ⟨x, hx⟩ := ok_ex ho
    rw [← blw_all hm x, h2 x] at hx
    cases hx
  · obtain ⟨e1, e2, e3⟩ := bIv_uniq (ok_ex ho) (bIv_congr h1 (blw_all hm)) (srU_inv ho 0)
    rw [h3, h4, h5, e1, e2, e3]
    exact ⟨rfl, rfl, rfl⟩
set_option maxRecDepth 100000 in
set_option maxHeartbeats 4000000 in
theorem m_judge_l {S : zS} {R : zMR} (I : zMI) (L : zML) {v : Ly} (hM : zMO S R) (hv : zMb (I 97) 0 v) (ho : lyOk v) (hP : zPM I (pcs v.1) (lD v)) {I0 : zMI} (h0 : zMF I0 I) : ∀ (n : Nat) (m : Nat) (J : zMI) (l : Int32) (a4 a5 a6 : Option Value), 2 ^ (pcs v.1).length + 1 ≤ m + n → m ≤ 2 ^ (pcs v.1).length → zCat [a4] = true → zCat [a5] = true → zCat [a6] = true → jF I J → jS (cost (pcs v.1) (lD v) (lST v) (lCL v)) (fun m => unev (whl v) (areaM (pcs v.1) m)) (pcs v.1).length (lfx v) m (J 96 11) (J 96 12) (J 96 13) l → zV (zMt RX6 cX6_judgeAll 7 none 3) (fun S2 I2 L2 R2 rr => S2 = S ∧ R2 = R ∧ (zPv L (fun I2 => jb v I2 ∧ zPM I2 (pcs v.1) (lD v) ∧ zMF I0 I2)) I2 L2 rr) (0, 0) S J L R 32 [some (.ref 96), some (.int l), some (.int (nI (whl v))), some (.int (nI m)), a4, a5, a6] [] := by
  intro n
  induction n with
  | zero => intro m J l a4 a5 a6 h1 h2 h4 h5 h6 hF hJ; omega
  | succ n ih =>
    intro m J l a4 a5 a6 h1 h2 h4 h5 h6 hF hJ
    have hl := ho.1
    have hps := pcs_ok ho
    have hlen := hps.1
    have hall := all_lt hlen
    have hvJ : zMb (J 97) 0 v := by rw [hF.1 97 (by decide)]; exact hv
    have hPJ := hF.pm hP
    have h2n := Nat.pow_le_pow_right (show 0 < 2 by decide) hlen
    have h2p : 0 < 2 ^ (pcs v.1).length := Nat.two_pow_pos _
    have hwh : whl v ≤ 4000 := Nat.le_trans (areaM_le hps _) (by decide)
    rcases id hJ with ⟨g1, g2⟩ | ⟨s, g1, g2, g3, g4, g5, g6⟩
    · refine z_iload_n dX6_judgeAll_32 rfl ?_
      refine z_aload_n dX6_judgeAll_33 rfl ?_
      refine z_callV0p dX6_judgeAll_34 mX6_72 hM.o (m_all J L hM _ hlen hPJ.1.1) (by decide) (Nat.le_of_ble_eq_true rfl) ⟨Nat.le_refl _, Nat.le_refl _⟩ ?_
      refine z_icmp_gtNN (tgt := 196) dX6_judgeAll_37 (by decide) (by omega) (by omega) (fun h37 => ?_) (fun h37 => ?_)
      · exact z_ret dX6_judgeAll_196 ⟨Nat.le_refl _, Nat.le_refl _⟩ rfl ⟨rfl, rfl, rfl, ⟨jS_end ho (by omega) hJ, hPJ, h0.trans hF.mf⟩, rfl⟩
      · refine z_aload_n dX6_judgeAll_40 rfl ?_
        refine z_iload_n dX6_judgeAll_41 rfl ?_
        refine z_callV1p dX6_judgeAll_42 mX6_103 hM.o (m_areFixed J L hM hvJ ho hPJ m (by omega)) (by decide) (Nat.le_of_ble_eq_true rfl) ⟨Nat.le_refl _, Nat.le_refl _⟩ ?_
        refine z_if_eqB (tgt := 56) dX6_judgeAll_45 (by decide) (fun h45 => ?_) (fun h45 => ?_)
        · have hok : okB (pcs v.1).length (lfx v) m = false := Bool.eq_false_iff.mpr (fun q => h45 ((okB_i (by omega)).mp q))
          refine z_iconst (-1) dX6_judgeAll_56 (by decide) ?_
          refine z_ist4 dX6_judgeAll_57 (by repeat first | rfl | assumption | refine zCat_s ?_ | refine zCat_a ?_ ?_) ?_
          refine z_iload dX6_judgeAll_59 rfl ?_
          refine z_if_lt (tgt := 190) dX6_judgeAll_61 (by decide) (fun h61 => ?_) (fun h61 => absurd h61 (by decide))
          refine z_iincN3 (n := 1) dX6_judgeAll_190 (by repeat first | rfl | assumption | refine zCat_s ?_ | refine zCat_a ?_ ?_) ?_
          refine z_goto (tgt := 32) dX6_judgeAll_193 (by decide) ?_
          refine ih (m + 1) J _ _ _ _ (by omega) (by omega) rfl h5 h6 hF ?_
          exact Or.inl ⟨g1, fun x => by rw [blw_no hok]; exact g2 x⟩
        · have hok : okB (pcs v.1).length (lfx v) m = true := (okB_i (by omega)).mpr h45
          have hcl := cost_lt (D := lD v) (m := m) hlen ho.2.2.2.2.2.2.1 ho.2.2.2.2.2.2.2.1
          refine z_aload_n dX6_judgeAll_48 rfl ?_
          refine z_iload_n dX6_judgeAll_49 rfl ?_
          refine z_callV1p dX6_judgeAll_50 mX6_107 hM.o (m_costOf J L hM hvJ ho hPJ m (by omega)) (by decide) (Nat.le_of_ble_eq_true rfl) ⟨Nat.le_refl _, Nat.le_refl _⟩ ?_
          refine z_goto (tgt := 57) dX6_judgeAll_53 (by decide) ?_
          refine z_ist4 dX6_judgeAll_57 (by repeat first | rfl | assumption | refine zCat_s ?_ | refine zCat_a ?_ ?_) ?_
          refine z_iload dX6_judgeAll_59 rfl ?_
          refine z_if_ltN (tgt := 190) dX6_judgeAll_61 (by decide) (by omega) ?_
          refine z_aload_n dX6_judgeAll_64 rfl ?_
          refine z_geti dX6_judgeAll_65 fX6_91 hM.o ?_
          refine z_top (g1) ?_
          refine z_if_lt (tgt := 80) dX6_judgeAll_68 (by decide) (fun h68 => ?_) (fun h68 => absurd h68 (by decide))
          refine z_iload_n dX6_judgeAll_80 rfl ?_
          refine z_iconst (nI 2) dX6_judgeAll_81 (by decide) ?_
          refine z_aload_n dX6_judgeAll_82 rfl ?_
          refine z_iload_n dX6_judgeAll_83 rfl ?_
          refine z_callV1p dX6_judgeAll_84 mX6_100 hM.o (m_areaOn J L hM hvJ ho hPJ m (by omega)) (by decide) (Nat.le_of_ble_eq_true rfl) ⟨Nat.le_refl _, Nat.le_refl _⟩ ?_
          have har := Nat.le_trans (areaM_le hps m) (show 3584 ≤ 4000 by decide)
          have hun := unev_z (a := areaM (pcs v.1) m) hwh har
          have hub := unev_le (a := areaM (pcs v.1) m) hwh har
          refine z_imulN dX6_judgeAll_87 ?_
          refine z_isub dX6_judgeAll_88 (z_top (nI_subI _ _) ?_)
          refine z_ist5 dX6_judgeAll_89 (by repeat first | rfl | assumption | refine zCat_s ?_ | refine zCat_a ?_ ?_) ?_
          refine z_iload dX6_judgeAll_91 rfl ?_
          refine z_if_ge (tgt := 102) dX6_judgeAll_93 (by decide) (fun h93 => ?_) (fun h93 => ?_)
          · refine z_iload dX6_judgeAll_102 rfl ?_
            refine z_top (hun.1 h93) ?_
            refine z_ist5 dX6_judgeAll_104 (by repeat first | rfl | assumption | refine zCat_s ?_ | refine zCat_a ?_ ?_) ?_
            refine z_aload_n dX6_judgeAll_106 rfl ?_
            refine z_geti dX6_judgeAll_107 fX6_91 hM.o ?_
            refine z_top (g1) ?_
            refine z_if_lt (tgt := 122) dX6_judgeAll_110 (by decide) (fun h110 => ?_) (fun h110 => absurd h110 (by decide))
            refine z_iconst (nI 1) dX6_judgeAll_122 (by decide) ?_
            refine z_goto (tgt := 127) dX6_judgeAll_123 (by decide) ?_
            refine z_ist6 dX6_judgeAll_127 (by repeat first | rfl | assumption | refine zCat_s ?_ | refine zCat_a ?_ ?_) ?_
            refine z_aload_n dX6_judgeAll_129 rfl ?_
            refine z_iload dX6_judgeAll_130 rfl ?_
            refine z_if_eqN (tgt := 139) dX6_judgeAll_132 (by decide) (by omega) (fun h132 => absurd h132 (by decide)) (fun _ => ?_)
            refine z_iconst (nI 1) dX6_judgeAll_135 (by decide) ?_
            refine z_goto (tgt := 145) dX6_judgeAll_136 (by decide) ?_
            refine z_puti dX6_judgeAll_145 fX6_97 hM.o ?_
            refine z_iload dX6_judgeAll_148 rfl ?_
            refine z_if_neN (tgt := 176) dX6_judgeAll_150 (by decide) (by omega) (fun _ => ?_) (fun h150 => absurd h150 (by decide))
            refine z_aload_n dX6_judgeAll_176 rfl ?_
            refine z_iload_n dX6_judgeAll_177 rfl ?_
            refine z_puti dX6_judgeAll_178 fX6_91 hM.o ?_
            refine z_iload dX6_judgeAll_181 rfl ?_
            refine z_ist1 dX6_judgeAll_183 (by repeat first | rfl | assumption | refine zCat_s ?_ | refine zCat_a ?_ ?_) ?_
            refine z_aload_n dX6_judgeAll_184 rfl ?_
            refine z_iload dX6_judgeAll_185 rfl ?_
            refine z_puti dX6_judgeAll_187 fX6_94 hM.o ?_
            refine z_iincN3 (n := 1) dX6_judgeAll_190 (by repeat first | rfl | assumption | refine zCat_s ?_ | refine zCat_a ?_ ?_) ?_
            refine z_goto (tgt := 32) dX6_judgeAll_193 (by decide) ?_
            refine ih (m + 1) _ _ _ _ _ (by omega) (by omega) rfl rfl rfl (((hF.zu (by omega)).zu (by omega)).zu (by omega)) (Or.inr ⟨(cost (pcs v.1) (lD v) (lST v) (lCL v) m, 1, unev (whl v) (areaM (pcs v.1) m), m), bIv_congr (bIv_less (un := (fun m => unev (whl v) (areaM (pcs v.1) m))) (fun x hx => ⟨blw_lt hlen hx, Nat.lt_of_lt_of_le (cost_lt hlen ho.2.2.2.2.2.2.1 ho.2.2.2.2.2.2.2.1) (by decide)⟩) (fun x hx => by rw [g2 x] at hx; cases hx) (by omega) (by omega)) (blw_yes hok), ⟨m, by rw [← blw_yes hok, blw_self]; simp⟩, (show zu (zu (zu J 96 13 _) 96 11 _) 96 12 _ 96 11 = _ from by rw [zu_nk (Or.inr (by decide)), zu_same]), zu_same, (show zu (zu (zu J 96 13 _) 96 11 _) 96 12 _ 96 13 = _ from by rw [zu_nk (Or.inr (by decide)), zu_nk (Or.inr (by decide)), zu_same]), rfl⟩)
          · refine z_iload dX6_judgeAll_96 rfl ?_
            refine z_ineg dX6_judgeAll_98 ?_
            refine z_top (hun.2 h93) ?_
            refine z_goto (tgt := 104) dX6_judgeAll_99 (by decide) ?_
            refine z_ist5 dX6_judgeAll_104 (by repeat first | rfl | assumption | refine zCat_s ?_ | refine zCat_a ?_ ?_) ?_
            refine z_aload_n dX6_judgeAll_106 rfl ?_
            refine z_geti dX6_judgeAll_107 fX6_91 hM.o ?_
            refine z_top (g1) ?_
            refine z_if_lt (tgt := 122) dX6_judgeAll_110 (by decide) (fun h110 => ?_) (fun h110 => absurd h110 (by decide))
            refine z_iconst (nI 1) dX6_judgeAll_122 (by decide) ?_
            refine z_goto (tgt := 127) dX6_judgeAll_123 (by decide) ?_
            refine z_ist6 dX6_judgeAll_127 (by repeat first | rfl | assumption | refine zCat_s ?_ | refine zCat_a ?_ ?_) ?_
            refine z_aload_n dX6_judgeAll_129 rfl ?_
            refine z_iload dX6_judgeAll_130 rfl ?_
            refine z_if_eqN (tgt := 139) dX6_judgeAll_132 (by decide) (by omega) (fun h132 => absurd h132 (by decide)) (fun _ => ?_)
            refine z_iconst (nI 1) dX6_judgeAll_135 (by decide) ?_
            refine z_goto (tgt := 145) dX6_judgeAll_136 (by decide) ?_
            refine z_puti dX6_judgeAll_145 fX6_97 hM.o ?_
            refine z_iload dX6_judgeAll_148 rfl ?_
            refine z_if_neN (tgt := 176) dX6_judgeAll_150 (by decide) (by omega) (fun _ => ?_) (fun h150 => absurd h150 (by decide))
            refine z_aload_n dX6_judgeAll_176 rfl ?_
            refine z_iload_n dX6_judgeAll_177 rfl ?_
            refine z_puti dX6_judgeAll_178 fX6_91 hM.o ?_
            refine z_iload dX6_judgeAll_181 rfl ?_
            refine z_ist1 dX6_judgeAll_183 (by repeat first | rfl | assumption | refine zCat_s ?_ | refine zCat_a ?_ ?_) ?_
            refine z_aload_n dX6_judgeAll_184 rfl ?_
            refine z_iload dX6_judgeAll_185 rfl ?_
            refine z_puti dX6_judgeAll_187 fX6_94 hM.o ?_
            refine z_iincN3 (n := 1) dX6_judgeAll_190 (by repeat first | rfl | assumption | refine zCat_s ?_ | refine zCat_a ?_ ?_) ?_
            refine z_goto (tgt := 32) dX6_judgeAll_193 (by decide) ?_
            refine ih (m + 1) _ _ _ _ _ (by omega) (by omega) rfl rfl rfl (((hF.zu (by omega)).zu (by omega)).zu (by omega)) (Or.inr ⟨(cost (pcs v.1) (lD v) (lST v) (lCL v) m, 1, unev (whl v) (areaM (pcs v.1) m), m), bIv_congr (bIv_less (un := (fun m => unev (whl v) (areaM (pcs v.1) m))) (fun x hx => ⟨blw_lt hlen hx, Nat.lt_of_lt_of_le (cost_lt hlen ho.2.2.2.2.2.2.1 ho.2.2.2.2.2.2.2.1) (by decide)⟩) (fun x hx => by rw [g2 x] at hx; cases hx) (by omega) (by omega)) (blw_yes hok), ⟨m, by rw [← blw_yes hok, blw_self]; simp⟩, (show zu (zu (zu J 96 13 _) 96 11 _) 96 12 _ 96 11 = _ from by rw [zu_nk (Or.inr (by decide)), zu_same]), zu_same, (show zu (zu (zu J 96 13 _) 96 11 _) 96 12 _ 96 13 = _ from by rw [zu_nk (Or.inr (by decide)), zu_nk (Or.inr (by decide)), zu_same]), rfl⟩)
    · obtain ⟨i1, i2, i3, i4⟩ := bIv_bd g1 g2
      have i5 : s.2.2.1 ≤ 8000 := by rw [i4]; exact unev_le hwh (Nat.le_trans (areaM_le hps _) (by decide))
      subst g6
      refine z_iload_n dX6_judgeAll_32 rfl ?_
      refine z_aload_n dX6_judgeAll_33 rfl ?_
      refine z_callV0p dX6_judgeAll_34 mX6_72 hM.o (m_all J L hM _ hlen hPJ.1.1) (by decide) (Nat.le_of_ble_eq_true rfl) ⟨Nat.le_refl _, Nat.le_refl _⟩ ?_
      refine z_icmp_gtNN (tgt := 196) dX6_judgeAll_37 (by decide) (by omega) (by omega) (fun h37 => ?_) (fun h37 => ?_)
      · exact z_ret dX6_judgeAll_196 ⟨Nat.le_refl _, Nat.le_refl _⟩ rfl ⟨rfl, rfl, rfl, ⟨jS_end ho (by omega) hJ, hPJ, h0.trans hF.mf⟩, rfl⟩
      · refine z_aload_n dX6_judgeAll_40 rfl ?_
        refine z_iload_n dX6_judgeAll_41 rfl ?_
        refine z_callV1p dX6_judgeAll_42 mX6_103 hM.o (m_areFixed J L hM hvJ ho hPJ m (by omega)) (by decide) (Nat.le_of_ble_eq_true rfl) ⟨Nat.le_refl _, Nat.le_refl _⟩ ?_
        refine z_if_eqB (tgt := 56) dX6_judgeAll_45 (by decide) (fun h45 => ?_) (fun h45 => ?_)
        · have hok : okB (pcs v.1).length (lfx v) m = false := Bool.eq_false_iff.mpr (fun q => h45 ((okB_i (by omega)).mp q))
          refine z_iconst (-1) dX6_judgeAll_56 (by decide) ?_
          refine z_ist4 dX6_judgeAll_57 (by repeat first | rfl | assumption | refine zCat_s ?_ | refine zCat_a ?_ ?_) ?_
          refine z_iload dX6_judgeAll_59 rfl ?_
          refine z_if_lt (tgt := 190) dX6_judgeAll_61 (by decide) (fun h61 => ?_) (fun h61 => absurd h61 (by decide))
          refine z_iincN3 (n := 1) dX6_judgeAll_190 (by repeat first | rfl | assumption | refine zCat_s ?_ | refine zCat_a ?_ ?_) ?_
          refine z_goto (tgt := 32) dX6_judgeAll_193 (by decide) ?_
          refine ih (m + 1) J _ _ _ _ (by omega) (by omega) rfl h5 h6 hF ?_
          exact Or.inr ⟨s, bIv_congr g1 (fun x => (blw_no hok x).symm), by obtain ⟨x, hx⟩ := g2; exact ⟨x, by rw [blw_no hok]; exact hx⟩, g3, g4, g5, rfl⟩
        · have hok : okB (pcs v.1).length (lfx v) m = true := (okB_i (by omega)).mpr h45
          have hcl := cost_lt (D := lD v) (m := m) hlen ho.2.2.2.2.2.2.1 ho.2.2.2.2.2.2.2.1
          refine z_aload_n dX6_judgeAll_48 rfl ?_
          refine z_iload_n dX6_judgeAll_49 rfl ?_
          refine z_callV1p dX6_judgeAll_50 mX6_107 hM.o (m_costOf J L hM hvJ ho hPJ m (by omega)) (by decide) (Nat.le_of_ble_eq_true rfl) ⟨Nat.le_refl _, Nat.le_refl _⟩ ?_
          refine z_goto (tgt := 57) dX6_judgeAll_53 (by decide) ?_
          refine z_ist4 dX6_judgeAll_57 (by repeat first | rfl | assumption | refine zCat_s ?_ | refine zCat_a ?_ ?_) ?_
          refine z_iload dX6_judgeAll_59 rfl ?_
          refine z_if_ltN (tgt := 190) dX6_judgeAll_61 (by decide) (by omega) ?_
          refine z_aload_n dX6_judgeAll_64 rfl ?_
          refine z_geti dX6_judgeAll_65 fX6_91 hM.o ?_
          refine z_top (g3) ?_
          refine z_if_ltN (tgt := 80) dX6_judgeAll_68 (by decide) (by omega) ?_
          refine z_iload dX6_judgeAll_71 rfl ?_
          refine z_aload_n dX6_judgeAll_73 rfl ?_
          refine z_geti dX6_judgeAll_74 fX6_94 hM.o ?_
          refine z_top (g4) ?_
          refine z_icmp_gtNN (tgt := 190) dX6_judgeAll_77 (by decide) (by omega) (by omega) (fun h77 => ?_) (fun h77 => ?_)
          · refine z_iincN3 (n := 1) dX6_judgeAll_190 (by repeat first | rfl | assumption | refine zCat_s ?_ | refine zCat_a ?_ ?_) ?_
            refine z_goto (tgt := 32) dX6_judgeAll_193 (by decide) ?_
            refine ih (m + 1) J _ _ _ _ (by omega) (by omega) rfl h5 h6 hF (Or.inr ⟨s, bIv_congr (bIv_skip g1 (X := fun x => decide (x = m)) (fun x hx => ?_)) (blw_yes hok), by obtain ⟨x, hx⟩ := g2; exact ⟨x, by rw [← blw_yes hok, hx]; rfl⟩, g3, g4, g5, rfl⟩)
            have e := of_decide_eq_true hx
            subst e
            exact ⟨by omega, by omega, h77⟩
          · refine z_iload_n dX6_judgeAll_80 rfl ?_
            refine z_iconst (nI 2) dX6_judgeAll_81 (by decide) ?_
            refine z_aload_n dX6_judgeAll_82 rfl ?_
            refine z_iload_n dX6_judgeAll_83 rfl ?_
            refine z_callV1p dX6_judgeAll_84 mX6_100 hM.o (m_areaOn J L hM hvJ ho hPJ m (by omega)) (by decide) (Nat.le_of_ble_eq_true rfl) ⟨Nat.le_refl _, Nat.le_refl _⟩ ?_
            have har := Nat.le_trans (areaM_le hps m) (show 3584 ≤ 4000 by decide)
            have hun := unev_z (a := areaM (pcs v.1) m) hwh har
            have hub := unev_le (a := areaM (pcs v.1) m) hwh har
            refine z_imulN dX6_judgeAll_87 ?_
            refine z_isub dX6_judgeAll_88 (z_top (nI_subI _ _) ?_)
            refine z_ist5 dX6_judgeAll_89 (by repeat first | rfl | assumption | refine zCat_s ?_ | refine zCat_a ?_ ?_) ?_
            refine z_iload dX6_judgeAll_91 rfl ?_
            refine z_if_ge (tgt := 102) dX6_judgeAll_93 (by decide) (fun h93 => ?_) (fun h93 => ?_)
            · refine z_iload dX6_judgeAll_102 rfl ?_
              refine z_top (hun.1 h93) ?_
              refine z_ist5 dX6_judgeAll_104 (by repeat first | rfl | assumption | refine zCat_s ?_ | refine zCat_a ?_ ?_) ?_
              refine z_aload_n dX6_judgeAll_106 rfl ?_
              refine z_geti dX6_judgeAll_107 fX6_91 hM.o ?_
              refine z_top (g3) ?_
              refine z_if_ltN (tgt := 122) dX6_judgeAll_110 (by decide) (by omega) ?_
              refine z_iload dX6_judgeAll_113 rfl ?_
              refine z_aload_n dX6_judgeAll_115 rfl ?_
              refine z_geti dX6_judgeAll_116 fX6_94 hM.o ?_
              refine z_top (g4) ?_
              refine z_icmp_geNN (tgt := 126) dX6_judgeAll_119 (by decide) (by omega) (by omega) (fun h119 => ?_) (fun h119 => ?_)
              · refine z_iconst (nI 0) dX6_judgeAll_126 (by decide) ?_
                refine z_ist6 dX6_judgeAll_127 (by repeat first | rfl | assumption | refine zCat_s ?_ | refine zCat_a ?_ ?_) ?_
                refine z_aload_n dX6_judgeAll_129 rfl ?_
                refine z_iload dX6_judgeAll_130 rfl ?_
                refine z_if_eqN (tgt := 139) dX6_judgeAll_132 (by decide) (by omega) (fun _ => ?_) (fun h132 => absurd h132 (by decide))
                refine z_aload_n dX6_judgeAll_139 rfl ?_
                refine z_geti dX6_judgeAll_140 fX6_97 hM.o ?_
                refine z_top (g5) ?_
                refine z_iconst (nI 1) dX6_judgeAll_143 (by decide) ?_
                refine z_iaddN dX6_judgeAll_144 ?_
                refine z_puti dX6_judgeAll_145 fX6_97 hM.o ?_
                refine z_iload dX6_judgeAll_148 rfl ?_
                refine z_if_neN (tgt := 176) dX6_judgeAll_150 (by decide) (by omega) (fun h150 => absurd h150 (by decide)) (fun _ => ?_)
                refine z_iload dX6_judgeAll_153 rfl ?_
                refine z_iload_n dX6_judgeAll_155 rfl ?_
                refine z_icmp_ltNN (tgt := 176) dX6_judgeAll_156 (by decide) (by omega) (by omega) (fun h156 => ?_) (fun h156 => ?_)
                · refine z_aload_n dX6_judgeAll_176 rfl ?_
                  refine z_iload_n dX6_judgeAll_177 rfl ?_
                  refine z_puti dX6_judgeAll_178 fX6_91 hM.o ?_
                  refine z_iload dX6_judgeAll_181 rfl ?_
                  refine z_ist1 dX6_judgeAll_183 (by repeat first | rfl | assumption | refine zCat_s ?_ | refine zCat_a ?_ ?_) ?_
                  refine z_aload_n dX6_judgeAll_184 rfl ?_
                  refine z_iload dX6_judgeAll_185 rfl ?_
                  refine z_puti dX6_judgeAll_187 fX6_94 hM.o ?_
                  refine z_iincN3 (n := 1) dX6_judgeAll_190 (by repeat first | rfl | assumption | refine zCat_s ?_ | refine zCat_a ?_ ?_) ?_
                  refine z_goto (tgt := 32) dX6_judgeAll_193 (by decide) ?_
                  have ec : cost (pcs v.1) (lD v) (lST v) (lCL v) m = s.1 := by omega
                  refine ih (m + 1) _ _ _ _ _ (by omega) (by omega) rfl rfl rfl (((hF.zu (by omega)).zu (by omega)).zu (by omega)) (Or.inr ⟨(s.1, s.2.1 + 1, unev (whl v) (areaM (pcs v.1) m), m), bIv_congr ((bIv_tie (m := m) g1 g2 (blw_self _ _ _) (by omega) (by omega) (by omega)).1 (Or.inl h156)) (blw_yes hok), ⟨m, by rw [← blw_yes hok, blw_self]; simp⟩, (show zu (zu (zu J 96 13 _) 96 11 _) 96 12 _ 96 11 = _ from by rw [zu_nk (Or.inr (by decide)), zu_same]), (zu_same.trans (congrArg nI ec)), (show zu (zu (zu J 96 13 _) 96 11 _) 96 12 _ 96 13 = _ from by rw [zu_nk (Or.inr (by decide)), zu_nk (Or.inr (by decide)), zu_same]), rfl⟩)
                · refine z_iload dX6_judgeAll_159 rfl ?_
                  refine z_iload_n dX6_judgeAll_161 rfl ?_
                  refine z_icmp_neNN (tgt := 184) dX6_judgeAll_162 (by decide) (by omega) (by omega) (fun h162 => ?_) (fun h162 => ?_)
                  · refine z_aload_n dX6_judgeAll_184 rfl ?_
                    refine z_iload dX6_judgeAll_185 rfl ?_
                    refine z_puti dX6_judgeAll_187 fX6_94 hM.o ?_
                    refine z_iincN3 (n := 1) dX6_judgeAll_190 (by repeat first | rfl | assumption | refine zCat_s ?_ | refine zCat_a ?_ ?_) ?_
                    refine z_goto (tgt := 32) dX6_judgeAll_193 (by decide) ?_
                    have ec : cost (pcs v.1) (lD v) (lST v) (lCL v) m = s.1 := by omega
                    refine ih (m + 1) _ _ _ _ _ (by omega) (by omega) rfl rfl rfl ((hF.zu (by omega)).zu (by omega)) (Or.inr ⟨(s.1, s.2.1 + 1, s.2.2.1, s.2.2.2), bIv_congr ((bIv_tie (m := m) g1 g2 (blw_self _ _ _) (by omega) (by omega) (by omega)).2 (fun q => q.elim (fun q => absurd q (by show ¬ unev _ _ < _; omega)) (fun q => h162 q.1))) (blw_yes hok), ⟨m, by rw [← blw_yes hok, blw_self]; simp⟩, (show zu (zu J 96 13 _) 96 12 _ 96 11 = _ from by rw [zu_nk (Or.inr (by decide)), zu_nk (Or.inr (by decide))]; exact g3), (zu_same.trans (congrArg nI ec)), (show zu (zu J 96 13 _) 96 12 _ 96 13 = _ from by rw [zu_nk (Or.inr (by decide)), zu_same]), rfl⟩)
                  · refine z_iload_n dX6_judgeAll_165 rfl ?_
                    refine z_aload_n dX6_judgeAll_166 rfl ?_
                    refine z_geti dX6_judgeAll_167 fX6_91 hM.o ?_
                    refine z_top ((show _ = nI s.2.2.2 from by rw [zu_nk (Or.inr (by decide))]; exact g3)) ?_
                    refine z_callS2p dX6_judgeAll_170 mX6_110 (m_isFirst _ L m s.2.2.2 (by omega) (by omega)) (by decide) (Nat.le_of_ble_eq_true rfl) ⟨Nat.le_refl _, Nat.le_refl _⟩ ?_
                    refine z_if_eqB (tgt := 184) dX6_judgeAll_173 (by decide) (fun h173 => ?_) (fun h173 => ?_)
                    · refine z_aload_n dX6_judgeAll_184 rfl ?_
                      refine z_iload dX6_judgeAll_185 rfl ?_
                      refine z_puti dX6_judgeAll_187 fX6_94 hM.o ?_
                      refine z_iincN3 (n := 1) dX6_judgeAll_190 (by repeat first | rfl | assumption | refine zCat_s ?_ | refine zCat_a ?_ ?_) ?_
                      refine z_goto (tgt := 32) dX6_judgeAll_193 (by decide) ?_
                      have ec : cost (pcs v.1) (lD v) (lST v) (lCL v) m = s.1 := by omega
                      refine ih (m + 1) _ _ _ _ _ (by omega) (by omega) rfl rfl rfl ((hF.zu (by omega)).zu (by omega)) (Or.inr ⟨(s.1, s.2.1 + 1, s.2.2.1, s.2.2.2), bIv_congr ((bIv_tie (m := m) g1 g2 (blw_self _ _ _) (by omega) (by omega) (by omega)).2 (fun q => q.elim (fun q => absurd q (by show ¬ unev _ _ < _; omega)) (fun q => h173 q.2))) (blw_yes hok), ⟨m, by rw [← blw_yes hok, blw_self]; simp⟩, (show zu (zu J 96 13 _) 96 12 _ 96 11 = _ from by rw [zu_nk (Or.inr (by decide)), zu_nk (Or.inr (by decide))]; exact g3), (zu_same.trans (congrArg nI ec)), (show zu (zu J 96 13 _) 96 12 _ 96 13 = _ from by rw [zu_nk (Or.inr (by decide)), zu_same]), rfl⟩)
                    · refine z_aload_n dX6_judgeAll_176 rfl ?_
                      refine z_iload_n dX6_judgeAll_177 rfl ?_
                      refine z_puti dX6_judgeAll_178 fX6_91 hM.o ?_
                      refine z_iload dX6_judgeAll_181 rfl ?_
                      refine z_ist1 dX6_judgeAll_183 (by repeat first | rfl | assumption | refine zCat_s ?_ | refine zCat_a ?_ ?_) ?_
                      refine z_aload_n dX6_judgeAll_184 rfl ?_
                      refine z_iload dX6_judgeAll_185 rfl ?_
                      refine z_puti dX6_judgeAll_187 fX6_94 hM.o ?_
                      refine z_iincN3 (n := 1) dX6_judgeAll_190 (by repeat first | rfl | assumption | refine zCat_s ?_ | refine zCat_a ?_ ?_) ?_
                      refine z_goto (tgt := 32) dX6_judgeAll_193 (by decide) ?_
                      have ec : cost (pcs v.1) (lD v) (lST v) (lCL v) m = s.1 := by omega
                      refine ih (m + 1) _ _ _ _ _ (by omega) (by omega) rfl rfl rfl (((hF.zu (by omega)).zu (by omega)).zu (by omega)) (Or.inr ⟨(s.1, s.2.1 + 1, unev (whl v) (areaM (pcs v.1) m), m), bIv_congr ((bIv_tie (m := m) g1 g2 (blw_self _ _ _) (by omega) (by omega) (by omega)).1 (Or.inr ⟨h162, h173⟩)) (blw_yes hok), ⟨m, by rw [← blw_yes hok, blw_self]; simp⟩, (show zu (zu (zu J 96 13 _) 96 11 _) 96 12 _ 96 11 = _ from by rw [zu_nk (Or.inr (by decide)), zu_same]), (zu_same.trans (congrArg nI ec)), (show zu (zu (zu J 96 13 _) 96 11 _) 96 12 _ 96 13 = _ from by rw [zu_nk (Or.inr (by decide)), zu_nk (Or.inr (by decide)), zu_same]), rfl⟩)
              · refine z_iconst (nI 1) dX6_judgeAll_122 (by decide) ?_
                refine z_goto (tgt := 127) dX6_judgeAll_123 (by decide) ?_
                refine z_ist6 dX6_judgeAll_127 (by repeat first | rfl | assumption | refine zCat_s ?_ | refine zCat_a ?_ ?_) ?_
                refine z_aload_n dX6_judgeAll_129 rfl ?_
                refine z_iload dX6_judgeAll_130 rfl ?_
                refine z_if_eqN (tgt := 139) dX6_judgeAll_132 (by decide) (by omega) (fun h132 => absurd h132 (by decide)) (fun _ => ?_)
                refine z_iconst (nI 1) dX6_judgeAll_135 (by decide) ?_
                refine z_goto (tgt := 145) dX6_judgeAll_136 (by decide) ?_
                refine z_puti dX6_judgeAll_145 fX6_97 hM.o ?_
                refine z_iload dX6_judgeAll_148 rfl ?_
                refine z_if_neN (tgt := 176) dX6_judgeAll_150 (by decide) (by omega) (fun _ => ?_) (fun h150 => absurd h150 (by decide))
                refine z_aload_n dX6_judgeAll_176 rfl ?_
                refine z_iload_n dX6_judgeAll_177 rfl ?_
                refine z_puti dX6_judgeAll_178 fX6_91 hM.o ?_
                refine z_iload dX6_judgeAll_181 rfl ?_
                refine z_ist1 dX6_judgeAll_183 (by repeat first | rfl | assumption | refine zCat_s ?_ | refine zCat_a ?_ ?_) ?_
                refine z_aload_n dX6_judgeAll_184 rfl ?_
                refine z_iload dX6_judgeAll_185 rfl ?_
                refine z_puti dX6_judgeAll_187 fX6_94 hM.o ?_
                refine z_iincN3 (n := 1) dX6_judgeAll_190 (by repeat first | rfl | assumption | refine zCat_s ?_ | refine zCat_a ?_ ?_) ?_
                refine z_goto (tgt := 32) dX6_judgeAll_193 (by decide) ?_
                refine ih (m + 1) _ _ _ _ _ (by omega) (by omega) rfl rfl rfl (((hF.zu (by omega)).zu (by omega)).zu (by omega)) (Or.inr ⟨(cost (pcs v.1) (lD v) (lST v) (lCL v) m, 1, unev (whl v) (areaM (pcs v.1) m), m), bIv_congr (bIv_less (un := (fun m => unev (whl v) (areaM (pcs v.1) m))) (fun x hx => ⟨blw_lt hlen hx, Nat.lt_of_lt_of_le (cost_lt hlen ho.2.2.2.2.2.2.1 ho.2.2.2.2.2.2.2.1) (by decide)⟩) (fun x hx => Nat.lt_of_lt_of_le h119 (g1.2.1 x hx)) (by omega) (by omega)) (blw_yes hok), ⟨m, by rw [← blw_yes hok, blw_self]; simp⟩, (show zu (zu (zu J 96 13 _) 96 11 _) 96 12 _ 96 11 = _ from by rw [zu_nk (Or.inr (by decide)), zu_same]), zu_same, (show zu (zu (zu J 96 13 _) 96 11 _) 96 12 _ 96 13 = _ from by rw [zu_nk (Or.inr (by decide)), zu_nk (Or.inr (by decide)), zu_same]), rfl⟩)
            · refine z_iload dX6_judgeAll_96 rfl ?_
              refine z_ineg dX6_judgeAll_98 ?_
              refine z_top (hun.2 h93) ?_
              refine z_goto (tgt := 104) dX6_judgeAll_99 (by decide) ?_
              refine z_ist5 dX6_judgeAll_104 (by repeat first | rfl | assumption | refine zCat_s ?_ | refine zCat_a ?_ ?_) ?_
              refine z_aload_n dX6_judgeAll_106 rfl ?_
              refine z_geti dX6_judgeAll_107 fX6_91 hM.o ?_
              refine z_top (g3) ?_
              refine z_if_ltN (tgt := 122) dX6_judgeAll_110 (by decide) (by omega) ?_
              refine z_iload dX6_judgeAll_113 rfl ?_
              refine z_aload_n dX6_judgeAll_115 rfl ?_
              refine z_geti dX6_judgeAll_116 fX6_94 hM.o ?_
              refine z_top (g4) ?_
              refine z_icmp_geNN (tgt := 126) dX6_judgeAll_119 (by decide) (by omega) (by omega) (fun h119 => ?_) (fun h119 => ?_)
              · refine z_iconst (nI 0) dX6_judgeAll_126 (by decide) ?_
                refine z_ist6 dX6_judgeAll_127 (by repeat first | rfl | assumption | refine zCat_s ?_ | refine zCat_a ?_ ?_) ?_
                refine z_aload_n dX6_judgeAll_129 rfl ?_
                refine z_iload dX6_judgeAll_130 rfl ?_
                refine z_if_eqN (tgt := 139) dX6_judgeAll_132 (by decide) (by omega) (fun _ => ?_) (fun h132 => absurd h132 (by decide))
                refine z_aload_n dX6_judgeAll_139 rfl ?_
                refine z_geti dX6_judgeAll_140 fX6_97 hM.o ?_
                refine z_top (g5) ?_
                refine z_iconst (nI 1) dX6_judgeAll_143 (by decide) ?_
                refine z_iaddN dX6_judgeAll_144 ?_
                refine z_puti dX6_judgeAll_145 fX6_97 hM.o ?_
                refine z_iload dX6_judgeAll_148 rfl ?_
                refine z_if_neN (tgt := 176) dX6_judgeAll_150 (by decide) (by omega) (fun h150 => absurd h150 (by decide)) (fun _ => ?_)
                refine z_iload dX6_judgeAll_153 rfl ?_
                refine z_iload_n dX6_judgeAll_155 rfl ?_
                refine z_icmp_ltNN (tgt := 176) dX6_judgeAll_156 (by decide) (by omega) (by omega) (fun h156 => ?_) (fun h156 => ?_)
                · refine z_aload_n dX6_judgeAll_176 rfl ?_
                  refine z_iload_n dX6_judgeAll_177 rfl ?_
                  refine z_puti dX6_judgeAll_178 fX6_91 hM.o ?_
                  refine z_iload dX6_judgeAll_181 rfl ?_
                  refine z_ist1 dX6_judgeAll_183 (by repeat first | rfl | assumption | refine zCat_s ?_ | refine zCat_a ?_ ?_) ?_
                  refine z_aload_n dX6_judgeAll_184 rfl ?_
                  refine z_iload dX6_judgeAll_185 rfl ?_
                  refine z_puti dX6_judgeAll_187 fX6_94 hM.o ?_
                  refine z_iincN3 (n := 1) dX6_judgeAll_190 (by repeat first | rfl | assumption | refine zCat_s ?_ | refine zCat_a ?_ ?_) ?_
                  refine z_goto (tgt := 32) dX6_judgeAll_193 (by decide) ?_
                  have ec : cost (pcs v.1) (lD v) (lST v) (lCL v) m = s.1 := by omega
                  refine ih (m + 1) _ _ _ _ _ (by omega) (by omega) rfl rfl rfl (((hF.zu (by omega)).zu (by omega)).zu (by omega)) (Or.inr ⟨(s.1, s.2.1 + 1, unev (whl v) (areaM (pcs v.1) m), m), bIv_congr ((bIv_tie (m := m) g1 g2 (blw_self _ _ _) (by omega) (by omega) (by omega)).1 (Or.inl h156)) (blw_yes hok), ⟨m, by rw [← blw_yes hok, blw_self]; simp⟩, (show zu (zu (zu J 96 13 _) 96 11 _) 96 12 _ 96 11 = _ from by rw [zu_nk (Or.inr (by decide)), zu_same]), (zu_same.trans (congrArg nI ec)), (show zu (zu (zu J 96 13 _) 96 11 _) 96 12 _ 96 13 = _ from by rw [zu_nk (Or.inr (by decide)), zu_nk (Or.inr (by decide)), zu_same]), rfl⟩)
                · refine z_iload dX6_judgeAll_159 rfl ?_
                  refine z_iload_n dX6_judgeAll_161 rfl ?_
                  refine z_icmp_neNN (tgt := 184) dX6_judgeAll_162 (by decide) (by omega) (by omega) (fun h162 => ?_) (fun h162 => ?_)
                  · refine z_aload_n dX6_judgeAll_184 rfl ?_
                    refine z_iload dX6_judgeAll_185 rfl ?_
                    refine z_puti dX6_judgeAll_187 fX6_94 hM.o ?_
                    refine z_iincN3 (n := 1) dX6_judgeAll_190 (by repeat first | rfl | assumption | refine zCat_s ?_ | refine zCat_a ?_ ?_) ?_
                    refine z_goto (tgt := 32) dX6_judgeAll_193 (by decide) ?_
                    have ec : cost (pcs v.1) (lD v) (lST v) (lCL v) m = s.1 := by omega
                    refine ih (m + 1) _ _ _ _ _ (by omega) (by omega) rfl rfl rfl ((hF.zu (by omega)).zu (by omega)) (Or.inr ⟨(s.1, s.2.1 + 1, s.2.2.1, s.2.2.2), bIv_congr ((bIv_tie (m := m) g1 g2 (blw_self _ _ _) (by omega) (by omega) (by omega)).2 (fun q => q.elim (fun q => absurd q (by show ¬ unev _ _ < _; omega)) (fun q => h162 q.1))) (blw_yes hok), ⟨m, by rw [← blw_yes hok, blw_self]; simp⟩, (show zu (zu J 96 13 _) 96 12 _ 96 11 = _ from by rw [zu_nk (Or.inr (by decide)), zu_nk (Or.inr (by decide))]; exact g3), (zu_same.trans (congrArg nI ec)), (show zu (zu J 96 13 _) 96 12 _ 96 13 = _ from by rw [zu_nk (Or.inr (by decide)), zu_same]), rfl⟩)
                  · refine z_iload_n dX6_judgeAll_165 rfl ?_
                    refine z_aload_n dX6_judgeAll_166 rfl ?_
                    refine z_geti dX6_judgeAll_167 fX6_91 hM.o ?_
                    refine z_top ((show _ = nI s.2.2.2 from by rw [zu_nk (Or.inr (by decide))]; exact g3)) ?_
                    refine z_callS2p dX6_judgeAll_170 mX6_110 (m_isFirst _ L m s.2.2.2 (by omega) (by omega)) (by decide) (Nat.le_of_ble_eq_true rfl) ⟨Nat.le_refl _, Nat.le_refl _⟩ ?_
                    refine z_if_eqB (tgt := 184) dX6_judgeAll_173 (by decide) (fun h173 => ?_) (fun h173 => ?_)
                    · refine z_aload_n dX6_judgeAll_184 rfl ?_
                      refine z_iload dX6_judgeAll_185 rfl ?_
                      refine z_puti dX6_judgeAll_187 fX6_94 hM.o ?_
                      refine z_iincN3 (n := 1) dX6_judgeAll_190 (by repeat first | rfl | assumption | refine zCat_s ?_ | refine zCat_a ?_ ?_) ?_
                      refine z_goto (tgt := 32) dX6_judgeAll_193 (by decide) ?_
                      have ec : cost (pcs v.1) (lD v) (lST v) (lCL v) m = s.1 := by omega
                      refine ih (m + 1) _ _ _ _ _ (by omega) (by omega) rfl rfl rfl ((hF.zu (by omega)).zu (by omega)) (Or.inr ⟨(s.1, s.2.1 + 1, s.2.2.1, s.2.2.2), bIv_congr ((bIv_tie (m := m) g1 g2 (blw_self _ _ _) (by omega) (by omega) (by omega)).2 (fun q => q.elim (fun q => absurd q (by show ¬ unev _ _ < _; omega)) (fun q => h173 q.2))) (blw_yes hok), ⟨m, by rw [← blw_yes hok, blw_self]; simp⟩, (show zu (zu J 96 13 _) 96 12 _ 96 11 = _ from by rw [zu_nk (Or.inr (by decide)), zu_nk (Or.inr (by decide))]; exact g3), (zu_same.trans (congrArg nI ec)), (show zu (zu J 96 13 _) 96 12 _ 96 13 = _ from by rw [zu_nk (Or.inr (by decide)), zu_same]), rfl⟩)
                    · refine z_aload_n dX6_judgeAll_176 rfl ?_
                      refine z_iload_n dX6_judgeAll_177 rfl ?_
                      refine z_puti dX6_judgeAll_178 fX6_91 hM.o ?_
                      refine z_iload dX6_judgeAll_181 rfl ?_
                      refine z_ist1 dX6_judgeAll_183 (by repeat first | rfl | assumption | refine zCat_s ?_ | refine zCat_a ?_ ?_) ?_
                      refine z_aload_n dX6_judgeAll_184 rfl ?_
                      refine z_iload dX6_judgeAll_185 rfl ?_
                      refine z_puti dX6_judgeAll_187 fX6_94 hM.o ?_
                      refine z_iincN3 (n := 1) dX6_judgeAll_190 (by repeat first | rfl | assumption | refine zCat_s ?_ | refine zCat_a ?_ ?_) ?_
                      refine z_goto (tgt := 32) dX6_judgeAll_193 (by decide) ?_
                      have ec : cost (pcs v.1) (lD v) (lST v) (lCL v) m = s.1 := by omega
                      refine ih (m + 1) _ _ _ _ _ (by omega) (by omega) rfl rfl rfl (((hF.zu (by omega)).zu (by omega)).zu (by omega)) (Or.inr ⟨(s.1, s.2.1 + 1, unev (whl v) (areaM (pcs v.1) m), m), bIv_congr ((bIv_tie (m := m) g1 g2 (blw_self _ _ _) (by omega) (by omega) (by omega)).1 (Or.inr ⟨h162, h173⟩)) (blw_yes hok), ⟨m, by rw [← blw_yes hok, blw_self]; simp⟩, (show zu (zu (zu J 96 13 _) 96 11 _) 96 12 _ 96 11 = _ from by rw [zu_nk (Or.inr (by decide)), zu_same]), (zu_same.trans (congrArg nI ec)), (show zu (zu (zu J 96 13 _) 96 11 _) 96 12 _ 96 13 = _ from by rw [zu_nk (Or.inr (by decide)), zu_nk (Or.inr (by decide)), zu_same]), rfl⟩)
              · refine z_iconst (nI 1) dX6_judgeAll_122 (by decide) ?_
                refine z_goto (tgt := 127) dX6_judgeAll_123 (by decide) ?_
                refine z_ist6 dX6_judgeAll_127 (by repeat first | rfl | assumption | refine zCat_s ?_ | refine zCat_a ?_ ?_) ?_
                refine z_aload_n dX6_judgeAll_129 rfl ?_
                refine z_iload dX6_judgeAll_130 rfl ?_
                refine z_if_eqN (tgt := 139) dX6_judgeAll_132 (by decide) (by omega) (fun h132 => absurd h132 (by decide)) (fun _ => ?_)
                refine z_iconst (nI 1) dX6_judgeAll_135 (by decide) ?_
                refine z_goto (tgt := 145) dX6_judgeAll_136 (by decide) ?_
                refine z_puti dX6_judgeAll_145 fX6_97 hM.o ?_
                refine z_iload dX6_judgeAll_148 rfl ?_
                refine z_if_neN (tgt := 176) dX6_judgeAll_150 (by decide) (by omega) (fun _ => ?_) (fun h150 => absurd h150 (by decide))
                refine z_aload_n dX6_judgeAll_176 rfl ?_
                refine z_iload_n dX6_judgeAll_177 rfl ?_
                refine z_puti dX6_judgeAll_178 fX6_91 hM.o ?_
                refine z_iload dX6_judgeAll_181 rfl ?_
                refine z_ist1 dX6_judgeAll_183 (by repeat first | rfl | assumption | refine zCat_s ?_ | refine zCat_a ?_ ?_) ?_
                refine z_aload_n dX6_judgeAll_184 rfl ?_
                refine z_iload dX6_judgeAll_185 rfl ?_
                refine z_puti dX6_judgeAll_187 fX6_94 hM.o ?_
                refine z_iincN3 (n := 1) dX6_judgeAll_190 (by repeat first | rfl | assumption | refine zCat_s ?_ | refine zCat_a ?_ ?_) ?_
                refine z_goto (tgt := 32) dX6_judgeAll_193 (by decide) ?_
                refine ih (m + 1) _ _ _ _ _ (by omega) (by omega) rfl rfl rfl (((hF.zu (by omega)).zu (by omega)).zu (by omega)) (Or.inr ⟨(cost (pcs v.1) (lD v) (lST v) (lCL v) m, 1, unev (whl v) (areaM (pcs v.1) m), m), bIv_congr (bIv_less (un := (fun m => unev (whl v) (areaM (pcs v.1) m))) (fun x hx => ⟨blw_lt hlen hx, Nat.lt_of_lt_of_le (cost_lt hlen ho.2.2.2.2.2.2.1 ho.2.2.2.2.2.2.2.1) (by decide)⟩) (fun x hx => Nat.lt_of_lt_of_le h119 (g1.2.1 x hx)) (by omega) (by omega)) (blw_yes hok), ⟨m, by rw [← blw_yes hok, blw_self]; simp⟩, (show zu (zu (zu J 96 13 _) 96 11 _) 96 12 _ 96 11 = _ from by rw [zu_nk (Or.inr (by decide)), zu_same]), zu_same, (show zu (zu (zu J 96 13 _) 96 11 _) 96 12 _ 96 13 = _ from by rw [zu_nk (Or.inr (by decide)), zu_nk (Or.inr (by decide)), zu_same]), rfl⟩)
set_option maxRecDepth 100000 in
set_option maxHeartbeats 4000000 in
theorem m_judgeAll {S : zS} {R : zMR} (I : zMI) (L : zML) {v : Ly} (hM : zMO S R) (hv : zMb (I 97) 0 v) (ho : lyOk v) : zM0 yX6_judgeAll cX6_judgeAll 7 none 3 [.ref 96] S I L R (zPv L (fun I2 => jb v I2 ∧ zPM I2 (pcs v.1) (lD v) ∧ zMF I I2)) := by
  refine zM0_of (own := RX6) (lv := [some (.ref 96), none, none, none, none, none, none]) rfl (by decide) rfl rfl ?_
  have hl := ho.1
  have hps := pcs_ok ho
  have hlen := hps.1
  have hall := all_lt hlen
  refine z_aload_n dX6_judgeAll_0 rfl ?_
  refine z_callV0v dX6_judgeAll_1 mX6_88 hM.o (m_lay I L hM hv ho) (by decide) (Nat.le_of_ble_eq_true rfl) ⟨Nat.le_refl _, Nat.le_refl _⟩ (fun J0 h0 => ?_)
  refine z_aload_n dX6_judgeAll_4 rfl ?_
  refine z_iconst (-1) dX6_judgeAll_5 (by decide) ?_
  refine z_puti dX6_judgeAll_6 fX6_91 hM.o ?_
  refine z_aload_n dX6_judgeAll_9 rfl ?_
  refine z_iconst (nI 0) dX6_judgeAll_10 (by decide) ?_
  refine z_puti dX6_judgeAll_11 fX6_94 hM.o ?_
  refine z_aload_n dX6_judgeAll_14 rfl ?_
  refine z_iconst (nI 0) dX6_judgeAll_15 (by decide) ?_
  refine z_puti dX6_judgeAll_16 fX6_97 hM.o ?_
  have hF : jF J0 (zu (zu (zu J0 96 11 (-1)) 96 12 (nI 0)) 96 13 (nI 0)) := (((jF.rfl (I := J0)).zu (k := 11) (x := -1) (by omega)).zu (k := 12) (x := nI 0) (by omega)).zu (k := 13) (x := nI 0) (by omega)
  have hK := hF.pm h0.1
  have hvK : zMb ((zu (zu (zu J0 96 11 (-1)) 96 12 (nI 0)) 96 13 (nI 0)) 97) 0 v := by rw [hF.1 97 (by decide), h0.2.1 97 (by decide) (by omega)]; exact hv
  refine z_iconst (nI 0) dX6_judgeAll_19 (by decide) ?_
  refine z_ist1 dX6_judgeAll_20 rfl ?_
  refine z_aload_n dX6_judgeAll_21 rfl ?_
  refine z_aload_n dX6_judgeAll_22 rfl ?_
  refine z_callV0p dX6_judgeAll_23 mX6_72 hM.o (m_all _ L hM _ hlen hK.1.1) (by decide) (Nat.le_of_ble_eq_true rfl) ⟨Nat.le_refl _, Nat.le_refl _⟩ ?_
  refine z_callV1p dX6_judgeAll_26 mX6_100 hM.o (m_areaOn _ L hM hvK ho hK _ hall) (by decide) (Nat.le_of_ble_eq_true rfl) ⟨Nat.le_refl _, Nat.le_refl _⟩ ?_
  refine z_ist2 dX6_judgeAll_29 rfl ?_
  refine z_iconst (nI 0) dX6_judgeAll_30 (by decide) ?_
  refine z_ist3 dX6_judgeAll_31 rfl ?_
  exact m_judge_l (zu (zu (zu J0 96 11 (-1)) 96 12 (nI 0)) 96 13 (nI 0)) L hM hvK ho hK (h0.2.mf.trans hF.mf) (2 ^ (pcs v.1).length + 1) 0 _ _ none none none (by omega) (Nat.zero_le _) rfl rfl rfl jF.rfl (Or.inl ⟨by rw [zu_nk (Or.inr (by decide)), zu_nk (Or.inr (by decide)), zu_same], fun x => by simp [blw]⟩)
set_option maxRecDepth 100000 in
set_option maxHeartbeats 4000000 in
theorem m_costOfBest {S : zS} {R : zMR} (I : zMI) (L : zML) {v : Ly} (hM : zMO S R) (hv : zMb (I 97) 0 v) (ho : lyOk v) : zM0 yX6_costOfBest cX6_costOfBest 1 (some .int) 4 [.ref 96] S I L R (zPi L (fun I2 r => r = nI (bst v).1 ∧ zMF I I2)) := by
  refine zM0_of (own := RX6) (lv := [some (.ref 96)]) rfl (by decide) rfl rfl ?_
  refine z_aload_n dX6_costOfBest_0 rfl ?_
  refine z_callV0v dX6_costOfBest_1 mX6_113 hM.o (m_judgeAll I L hM hv ho) (by decide) (Nat.le_of_ble_eq_true rfl) ⟨Nat.le_refl _, Nat.le_refl _⟩ (fun J1 h1 => ?_)
  refine z_aload_n dX6_costOfBest_4 rfl ?_
  refine z_geti dX6_costOfBest_5 fX6_94 hM.o ?_
  refine z_top (h1.1.2.1) ?_
  exact z_iret dX6_costOfBest_8 ⟨Nat.le_refl _, Nat.le_refl _⟩ rfl ⟨rfl, rfl, rfl, _, ⟨rfl, h1.2.2⟩, rfl⟩
