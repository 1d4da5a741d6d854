set_option maxRecDepth 100000 in
set_option maxHeartbeats 4000000 in
theorem c_isPlace {S : zS} {R : zMR} (I : zMI) (L : zML) (v : Int32) : zM0 yX5_isPlace cX5_isPlace 1 (some .boolean) 1 [.int v] S I L R (zPure I L (zb (0 ≤ v.toInt ∧ v.toInt ≤ 15))) := by
  refine zM0_of (own := RX5) (lv := [some (.int v)]) rfl (by decide) rfl rfl ?_
  refine z_iload_n dX5_isPlace_0 rfl ?_
  refine z_if_lt (tgt := 14) dX5_isPlace_1 (by decide) (fun h1 => ?_) (fun h1 => ?_)
  · refine z_iconst (nI 0) dX5_isPlace_14 (by decide) ?_
    exact z_iret dX5_isPlace_15 ⟨Nat.le_refl _, Nat.le_refl _⟩ (by first | exact zb_nar _ | rfl) ⟨rfl, rfl, rfl, rfl, congrArg (fun z => some (Value.int z)) (by first | exact zb_1 (by omega) | exact zb_0 (by omega) | exact zb_c (by omega))⟩
  · refine z_iload_n dX5_isPlace_4 rfl ?_
    refine z_bipush (nI 15) dX5_isPlace_5 (by decide) ?_
    refine z_icmp_gtIN (tgt := 14) dX5_isPlace_7 (by decide) (by omega) (fun h7 => ?_) (fun h7 => ?_)
    · refine z_iconst (nI 0) dX5_isPlace_14 (by decide) ?_
      exact z_iret dX5_isPlace_15 ⟨Nat.le_refl _, Nat.le_refl _⟩ (by first | exact zb_nar _ | rfl) ⟨rfl, rfl, rfl, rfl, congrArg (fun z => some (Value.int z)) (by first | exact zb_1 (by omega) | exact zb_0 (by omega) | exact zb_c (by omega))⟩
    · refine z_iconst (nI 1) dX5_isPlace_10 (by decide) ?_
      refine z_goto (tgt := 15) dX5_isPlace_11 (by decide) ?_
      exact z_iret dX5_isPlace_15 ⟨Nat.le_refl _, Nat.le_refl _⟩ (by first | exact zb_nar _ | rfl) ⟨rfl, rfl, rfl, rfl, congrArg (fun z => some (Value.int z)) (by first | exact zb_1 (by omega) | exact zb_0 (by omega) | exact zb_c (by omega))⟩
set_option maxRecDepth 100000 in
set_option maxHeartbeats 4000000 in
theorem c_isStep {S : zS} {R : zMR} (I : zMI) (L : zML) (v : Int32) : zM0 yX2_isStep cX2_isStep 1 (some .boolean) 1 [.int v] S I L R (zPure I L (zb (-15 ≤ v.toInt ∧ v.toInt ≤ 15))) := by
  refine zM0_of (own := RX2) (lv := [some (.int v)]) rfl (by decide) rfl rfl ?_
  have q15 : ((-15 : Int32)).toInt = -15 := by decide
  refine z_iload_n dX2_isStep_0 rfl ?_
  refine z_bipush (-15) dX2_isStep_1 (by decide) ?_
  refine z_icmp_lt (tgt := 16) dX2_isStep_3 (by decide) (fun h3 => ?_) (fun h3 => ?_)
  · refine z_iconst (nI 0) dX2_isStep_16 (by decide) ?_
    exact z_iret dX2_isStep_17 ⟨Nat.le_refl _, Nat.le_refl _⟩ (by first | exact zb_nar _ | rfl) ⟨rfl, rfl, rfl, rfl, congrArg (fun z => some (Value.int z)) (by first | exact zb_1 (by omega) | exact zb_0 (by omega) | exact zb_c (by omega))⟩
  · refine z_iload_n dX2_isStep_6 rfl ?_
    refine z_bipush (nI 15) dX2_isStep_7 (by decide) ?_
    refine z_icmp_gtIN (tgt := 16) dX2_isStep_9 (by decide) (by omega) (fun h9 => ?_) (fun h9 => ?_)
    · refine z_iconst (nI 0) dX2_isStep_16 (by decide) ?_
      exact z_iret dX2_isStep_17 ⟨Nat.le_refl _, Nat.le_refl _⟩ (by first | exact zb_nar _ | rfl) ⟨rfl, rfl, rfl, rfl, congrArg (fun z => some (Value.int z)) (by first | exact zb_1 (by omega) | exact zb_0 (by omega) | exact zb_c (by omega))⟩
    · refine z_iconst (nI 1) dX2_isStep_12 (by decide) ?_
      refine z_goto (tgt := 17) dX2_isStep_13 (by decide) ?_
      exact z_iret dX2_isStep_17 ⟨Nat.le_refl _, Nat.le_refl _⟩ (by first | exact zb_nar _ | rfl) ⟨rfl, rfl, rfl, rfl, congrArg (fun z => some (Value.int z)) (by first | exact zb_1 (by omega) | exact zb_0 (by omega) | exact zb_c (by omega))⟩
set_option maxRecDepth 100000 in
set_option maxHeartbeats 4000000 in
theorem c_isCutPlace {S : zS} {R : zMR} (I : zMI) (L : zML) (v : Int32) : zM0 yX2_isCutPlace cX2_isCutPlace 1 (some .boolean) 1 [.int v] S I L R (zPure I L (zb (0 ≤ v.toInt ∧ v.toInt ≤ 14))) := by
  refine zM0_of (own := RX2) (lv := [some (.int v)]) rfl (by decide) rfl rfl ?_
  refine z_iload_n dX2_isCutPlace_0 rfl ?_
  refine z_if_lt (tgt := 14) dX2_isCutPlace_1 (by decide) (fun h1 => ?_) (fun h1 => ?_)
  · refine z_iconst (nI 0) dX2_isCutPlace_14 (by decide) ?_
    exact z_iret dX2_isCutPlace_15 ⟨Nat.le_refl _, Nat.le_refl _⟩ (by first | exact zb_nar _ | rfl) ⟨rfl, rfl, rfl, rfl, congrArg (fun z => some (Value.int z)) (by first | exact zb_1 (by omega) | exact zb_0 (by omega) | exact zb_c (by omega))⟩
  · refine z_iload_n dX2_isCutPlace_4 rfl ?_
    refine z_bipush (nI 14) dX2_isCutPlace_5 (by decide) ?_
    refine z_icmp_gtIN (tgt := 14) dX2_isCutPlace_7 (by decide) (by omega) (fun h7 => ?_) (fun h7 => ?_)
    · refine z_iconst (nI 0) dX2_isCutPlace_14 (by decide) ?_
      exact z_iret dX2_isCutPlace_15 ⟨Nat.le_refl _, Nat.le_refl _⟩ (by first | exact zb_nar _ | rfl) ⟨rfl, rfl, rfl, rfl, congrArg (fun z => some (Value.int z)) (by first | exact zb_1 (by omega) | exact zb_0 (by omega) | exact zb_c (by omega))⟩
    · refine z_iconst (nI 1) dX2_isCutPlace_10 (by decide) ?_
      refine z_goto (tgt := 15) dX2_isCutPlace_11 (by decide) ?_
      exact z_iret dX2_isCutPlace_15 ⟨Nat.le_refl _, Nat.le_refl _⟩ (by first | exact zb_nar _ | rfl) ⟨rfl, rfl, rfl, rfl, congrArg (fun z => some (Value.int z)) (by first | exact zb_1 (by omega) | exact zb_0 (by omega) | exact zb_c (by omega))⟩
set_option maxRecDepth 100000 in
set_option maxHeartbeats 4000000 in
theorem c_bitCount0 {S : zS} {R : zMR} (I : zMI) (L : zML) (a : Nat) (ha : a < 32768) : zM0 yJ6_bitCount_0f7a4 cJ6_bitCount_0f7a4 1 (some .int) 1 [.int (nI a)] S I L R (zPure I L (nI (bcN a))) := by
  refine zM0_of (own := RJ6) (lv := [some (.int (nI a))]) rfl (by decide) rfl rfl ?_
  have h1 : (a / 2 ^ 1 &&& 1431655765) ≤ a := Nat.le_trans Nat.and_le_left (Nat.div_le_self _ _)
  obtain ⟨r, hr⟩ : ∃ r, r = bcN a := ⟨_, rfl⟩
  rw [← hr]
  unfold bcN at hr
  refine z_iload_n dJ6_bitCount_0f7a4_0 rfl ?_
  refine z_iload_n dJ6_bitCount_0f7a4_1 rfl ?_
  refine z_iconst (nI 1) dJ6_bitCount_0f7a4_2 (by decide) ?_
  refine z_iushr (nI (a / 2 ^ 1)) dJ6_bitCount_0f7a4_3 (nI_ushr (by omega) (by decide)) ?_
  refine z_ldcw dJ6_bitCount_0f7a4_4 kJ6_265 (z_top (y := nI 1431655765) (by decide) ?_)
  refine z_iandN dJ6_bitCount_0f7a4_7 ?_
  refine z_isubN dJ6_bitCount_0f7a4_8 h1 ?_
  have b1 : bc1 a ≤ a := Nat.sub_le _ _
  change zV _ _ _ _ _ _ _ _ _ (.int (nI (bc1 a)) :: []) 
  generalize bc1 a = a1 at b1 hr ⊢
  refine z_ist0 dJ6_bitCount_0f7a4_9 rfl ?_
  refine z_iload_n dJ6_bitCount_0f7a4_10 rfl ?_
  refine z_ldcw dJ6_bitCount_0f7a4_11 kJ6_266 (z_top (y := nI 858993459) (by decide) ?_)
  refine z_iandN dJ6_bitCount_0f7a4_14 ?_
  refine z_iload_n dJ6_bitCount_0f7a4_15 rfl ?_
  refine z_iconst (nI 2) dJ6_bitCount_0f7a4_16 (by decide) ?_
  refine z_iushr (nI (a1 / 2 ^ 2)) dJ6_bitCount_0f7a4_17 (nI_ushr (by omega) (by decide)) ?_
  refine z_ldcw dJ6_bitCount_0f7a4_18 kJ6_266 (z_top (y := nI 858993459) (by decide) ?_)
  refine z_iandN dJ6_bitCount_0f7a4_21 ?_
  refine z_iaddN dJ6_bitCount_0f7a4_22 ?_
  have b2 : bc2 a1 ≤ a1 + a1 := Nat.add_le_add Nat.and_le_left (Nat.le_trans Nat.and_le_left (Nat.div_le_self _ _))
  change zV _ _ _ _ _ _ _ _ _ (.int (nI (bc2 a1)) :: []) 
  generalize bc2 a1 = a2 at b2 hr ⊢
  refine z_ist0 dJ6_bitCount_0f7a4_23 rfl ?_
  refine z_iload_n dJ6_bitCount_0f7a4_24 rfl ?_
  refine z_iload_n dJ6_bitCount_0f7a4_25 rfl ?_
  refine z_iconst (nI 4) dJ6_bitCount_0f7a4_26 (by decide) ?_
  refine z_iushr (nI (a2 / 2 ^ 4)) dJ6_bitCount_0f7a4_27 (nI_ushr (by omega) (by decide)) ?_
  refine z_iaddN dJ6_bitCount_0f7a4_28 ?_
  refine z_ldcw dJ6_bitCount_0f7a4_29 kJ6_267 (z_top (y := nI 252645135) (by decide) ?_)
  refine z_iandN dJ6_bitCount_0f7a4_32 ?_
  have b3 : bc3 a2 ≤ a2 + a2 := Nat.le_trans Nat.and_le_left (Nat.add_le_add_left (Nat.div_le_self _ _) _)
  change zV _ _ _ _ _ _ _ _ _ (.int (nI (bc3 a2)) :: []) 
  generalize bc3 a2 = a3 at b3 hr ⊢
  refine z_ist0 dJ6_bitCount_0f7a4_33 rfl ?_
  refine z_iload_n dJ6_bitCount_0f7a4_34 rfl ?_
  refine z_iload_n dJ6_bitCount_0f7a4_35 rfl ?_
  refine z_bipush (nI 8) dJ6_bitCount_0f7a4_36 (by decide) ?_
  refine z_iushr (nI (a3 / 2 ^ 8)) dJ6_bitCount_0f7a4_38 (nI_ushr (by omega) (by decide)) ?_
  refine z_iaddN dJ6_bitCount_0f7a4_39 ?_
  have b4 : bc4 a3 ≤ a3 + a3 := Nat.add_le_add_left (Nat.div_le_self _ _) _
  change zV _ _ _ _ _ _ _ _ _ (.int (nI (bc4 a3)) :: []) 
  generalize bc4 a3 = a4 at b4 hr ⊢
  refine z_ist0 dJ6_bitCount_0f7a4_40 rfl ?_
  refine z_iload_n dJ6_bitCount_0f7a4_41 rfl ?_
  refine z_iload_n dJ6_bitCount_0f7a4_42 rfl ?_
  refine z_bipush (nI 16) dJ6_bitCount_0f7a4_43 (by decide) ?_
  refine z_iushr (nI (a4 / 2 ^ 16)) dJ6_bitCount_0f7a4_45 (nI_ushr (by omega) (by decide)) ?_
  refine z_iaddN dJ6_bitCount_0f7a4_46 ?_
  refine z_ist0 dJ6_bitCount_0f7a4_47 rfl ?_
  refine z_iload_n dJ6_bitCount_0f7a4_48 rfl ?_
  refine z_bipush (nI 63) dJ6_bitCount_0f7a4_49 (by decide) ?_
  refine z_iandN dJ6_bitCount_0f7a4_51 ?_
  exact z_iret dJ6_bitCount_0f7a4_52 ⟨Nat.le_refl _, Nat.le_refl _⟩ rfl ⟨rfl, rfl, rfl, rfl, congrArg (fun z => some (Value.int z)) (congrArg nI hr.symm)⟩
theorem c_bitCount {S : zS} {R : zMR} (I : zMI) (L : zML) (a : Nat) (ha : a < 16384) : zM0 yJ6_bitCount_0f7a4 cJ6_bitCount_0f7a4 1 (some .int) 1 [.int (nI a)] S I L R (zPure I L (nI (popc 14 a))) := by
  rw [← bcN_eq ha]
  exact c_bitCount0 I L a (by omega)
theorem c_bitCountC {S : zS} {R : zMR} (I : zMI) (L : zML) {x x2 : Nat} {c : List Nat} (h : cOk x x2 c) (hx : x2 ≤ 15) : zM0 yJ6_bitCount_0f7a4 cJ6_bitCount_0f7a4 1 (some .int) 1 [.int (nI (cm c))] S I L R (zPure I L (nI c.length)) := by
  rw [← bcN_cm h hx]
  exact c_bitCount0 I L _ (cm_lt c)
set_option maxRecDepth 100000 in
set_option maxHeartbeats 4000000 in
theorem c_hasShape {S : zS} {R : zMR} (I : zMI) (L : zML) {b : Nat} {v : Ly} (hb : zLay S R b) (hv : zCLy I b v) (ho : lyOk v) (s : Int32) : zM0 yX2_hasShape cX2_hasShape 2 (some .boolean) 1 [.ref b, .int s] S I L R (zPure I L (zb (has v.1 s.toInt))) := by
  refine zM0_of (own := RX2) (lv := [some (.ref b), some (.int s)]) rfl (by decide) rfl rfl ?_
  have hl := ho.1
  refine z_iload_n dX2_hasShape_0 rfl ?_
  refine z_if_lt (tgt := 22) dX2_hasShape_1 (by decide) (fun h1 => ?_) (fun h1 => ?_)
  · refine z_iconst (nI 0) dX2_hasShape_22 (by decide) ?_
    exact z_iret dX2_hasShape_23 ⟨Nat.le_refl _, Nat.le_refl _⟩ (by first | exact zb_nar _ | rfl) ⟨rfl, rfl, rfl, rfl, congrArg (fun z => some (Value.int z)) (by first | exact zb_1 (by unfold has; omega) | exact zb_0 (by unfold has; omega) | exact zb_c (by unfold has; omega))⟩
  · refine z_iload_n dX2_hasShape_4 rfl ?_
    refine z_aload_n dX2_hasShape_5 rfl ?_
    refine z_geti dX2_hasShape_6 fX2_27 hb.o ?_
    refine z_top (hv.1) ?_
    refine z_icmp_geIN (tgt := 22) dX2_hasShape_9 (by decide) (by omega) (fun h9 => ?_) (fun h9 => ?_)
    · refine z_iconst (nI 0) dX2_hasShape_22 (by decide) ?_
      exact z_iret dX2_hasShape_23 ⟨Nat.le_refl _, Nat.le_refl _⟩ (by first | exact zb_nar _ | rfl) ⟨rfl, rfl, rfl, rfl, congrArg (fun z => some (Value.int z)) (by first | exact zb_1 (by unfold has; omega) | exact zb_0 (by unfold has; omega) | exact zb_c (by unfold has; omega))⟩
    · refine z_iload_n dX2_hasShape_12 rfl ?_
      refine z_bipush (nI 10) dX2_hasShape_13 (by decide) ?_
      refine z_icmp_geIN (tgt := 22) dX2_hasShape_15 (by decide) (by omega) (fun h15 => ?_) (fun h15 => ?_)
      · refine z_iconst (nI 0) dX2_hasShape_22 (by decide) ?_
        exact z_iret dX2_hasShape_23 ⟨Nat.le_refl _, Nat.le_refl _⟩ (by first | exact zb_nar _ | rfl) ⟨rfl, rfl, rfl, rfl, congrArg (fun z => some (Value.int z)) (by first | exact zb_1 (by unfold has; omega) | exact zb_0 (by unfold has; omega) | exact zb_c (by unfold has; omega))⟩
      · refine z_iconst (nI 1) dX2_hasShape_18 (by decide) ?_
        refine z_goto (tgt := 23) dX2_hasShape_19 (by decide) ?_
        exact z_iret dX2_hasShape_23 ⟨Nat.le_refl _, Nat.le_refl _⟩ (by first | exact zb_nar _ | rfl) ⟨rfl, rfl, rfl, rfl, congrArg (fun z => some (Value.int z)) (by first | exact zb_1 (by unfold has; omega) | exact zb_0 (by unfold has; omega) | exact zb_c (by unfold has; omega))⟩
set_option maxRecDepth 100000 in
set_option maxHeartbeats 4000000 in
theorem c_isOnField {S : zS} {R : zMR} (I : zMI) (L : zML) (a b c d : Int32) : zM0 yX2_isOnField cX2_isOnField 4 (some .boolean) 2 [.int a, .int b, .int c, .int d] S I L R (zPure I L (zb (onF a.toInt b.toInt c.toInt d.toInt))) := by
  refine zM0_of (own := RX2) (lv := [some (.int a), some (.int b), some (.int c), some (.int d)]) rfl (by decide) rfl rfl ?_
  refine z_iload_n dX2_isOnField_0 rfl ?_
  refine z_callSN1p dX2_isOnField_1 mX2_97 mX2_97_s (c_isPlace I L _) (by decide) (Nat.le_of_ble_eq_true rfl) ⟨Nat.le_refl _, Nat.le_refl _⟩ ?_
  refine z_if_eqB (tgt := 32) dX2_isOnField_4 (by decide) (fun h4 => ?_) (fun h4 => ?_)
  · refine z_iconst (nI 0) dX2_isOnField_32 (by decide) ?_
    exact z_iret dX2_isOnField_33 ⟨Nat.le_refl _, Nat.le_refl _⟩ (by first | exact zb_nar _ | rfl) ⟨rfl, rfl, rfl, rfl, congrArg (fun z => some (Value.int z)) (by first | exact zb_1 (by unfold onF; omega) | exact zb_0 (by unfold onF; omega) | exact zb_c (by unfold onF; omega))⟩
  · refine z_iload_n dX2_isOnField_7 rfl ?_
    refine z_callSN1p dX2_isOnField_8 mX2_97 mX2_97_s (c_isPlace I L _) (by decide) (Nat.le_of_ble_eq_true rfl) ⟨Nat.le_refl _, Nat.le_refl _⟩ ?_
    refine z_if_eqB (tgt := 32) dX2_isOnField_11 (by decide) (fun h11 => ?_) (fun h11 => ?_)
    · refine z_iconst (nI 0) dX2_isOnField_32 (by decide) ?_
      exact z_iret dX2_isOnField_33 ⟨Nat.le_refl _, Nat.le_refl _⟩ (by first | exact zb_nar _ | rfl) ⟨rfl, rfl, rfl, rfl, congrArg (fun z => some (Value.int z)) (by first | exact zb_1 (by unfold onF; omega) | exact zb_0 (by unfold onF; omega) | exact zb_c (by unfold onF; omega))⟩
    · refine z_iload_n dX2_isOnField_14 rfl ?_
      refine z_callSN1p dX2_isOnField_15 mX2_97 mX2_97_s (c_isPlace I L _) (by decide) (Nat.le_of_ble_eq_true rfl) ⟨Nat.le_refl _, Nat.le_refl _⟩ ?_
      refine z_if_eqB (tgt := 32) dX2_isOnField_18 (by decide) (fun h18 => ?_) (fun h18 => ?_)
      · refine z_iconst (nI 0) dX2_isOnField_32 (by decide) ?_
        exact z_iret dX2_isOnField_33 ⟨Nat.le_refl _, Nat.le_refl _⟩ (by first | exact zb_nar _ | rfl) ⟨rfl, rfl, rfl, rfl, congrArg (fun z => some (Value.int z)) (by first | exact zb_1 (by unfold onF; omega) | exact zb_0 (by unfold onF; omega) | exact zb_c (by unfold onF; omega))⟩
      · refine z_iload_n dX2_isOnField_21 rfl ?_
        refine z_callSN1p dX2_isOnField_22 mX2_97 mX2_97_s (c_isPlace I L _) (by decide) (Nat.le_of_ble_eq_true rfl) ⟨Nat.le_refl _, Nat.le_refl _⟩ ?_
        refine z_if_eqB (tgt := 32) dX2_isOnField_25 (by decide) (fun h25 => ?_) (fun h25 => ?_)
        · refine z_iconst (nI 0) dX2_isOnField_32 (by decide) ?_
          exact z_iret dX2_isOnField_33 ⟨Nat.le_refl _, Nat.le_refl _⟩ (by first | exact zb_nar _ | rfl) ⟨rfl, rfl, rfl, rfl, congrArg (fun z => some (Value.int z)) (by first | exact zb_1 (by unfold onF; omega) | exact zb_0 (by unfold onF; omega) | exact zb_c (by unfold onF; omega))⟩
        · refine z_iconst (nI 1) dX2_isOnField_28 (by decide) ?_
          refine z_goto (tgt := 33) dX2_isOnField_29 (by decide) ?_
          exact z_iret dX2_isOnField_33 ⟨Nat.le_refl _, Nat.le_refl _⟩ (by first | exact zb_nar _ | rfl) ⟨rfl, rfl, rfl, rfl, congrArg (fun z => some (Value.int z)) (by first | exact zb_1 (by unfold onF; omega) | exact zb_0 (by unfold onF; omega) | exact zb_c (by unfold onF; omega))⟩
set_option maxRecDepth 100000 in
set_option maxHeartbeats 4000000 in
theorem piecesAhead_loop {S : zS} {R : zMR} (I : zMI) (L : zML) {b : Nat} {v : Ly} (hb : zLay S R b) (hv : zCLy I b v) (ho : lyOk v) (s : Int32) : ∀ (n i : Nat), v.1.length + 1 ≤ i + n → i ≤ v.1.length → ((i : Int) ≤ s.toInt ∨ i = 0) → zV (zMt RX2 cX2_piecesAhead 4 (some .int) 2) (fun S2 I2 L2 R2 r => S2 = S ∧ R2 = R ∧ (zPure I L (nI (np (v.1.take s.toInt.toNat)))) I2 L2 r) (0, 0) S I L R 4 [some (.ref b), some (.int s), some (.int (nI (np (v.1.take i)))), some (.int (nI i))] [] := by
  intro n
  induction n with
  | zero => intro i h1 h2; omega
  | succ n ih =>
    intro i h1 h2 h3
    have hl := ho.1
    have hnp := np_take_le v.1 i
    have hn14 := ho.2.2.1
    refine z_iload_n dX2_piecesAhead_4 rfl ?_
    refine z_iload_n dX2_piecesAhead_5 rfl ?_
    refine z_icmp_geNI (tgt := 37) dX2_piecesAhead_6 (by decide) (by omega) (fun h6 => ?_) (fun h6 => ?_)
    · refine z_iload_n dX2_piecesAhead_37 rfl ?_
      have e : v.1.take i = v.1.take s.toInt.toNat := by
        by_cases q : v.1.length ≤ i
        · rw [List.take_of_length_le q, List.take_of_length_le (by omega)]
        · congr 1; omega
      exact z_iret dX2_piecesAhead_38 ⟨Nat.le_refl _, Nat.le_refl _⟩ rfl ⟨rfl, rfl, rfl, rfl, congrArg (fun z => some (Value.int z)) (by rw [e])⟩
    · refine z_iload_n dX2_piecesAhead_9 rfl ?_
      refine z_aload_n dX2_piecesAhead_10 rfl ?_
      refine z_geti dX2_piecesAhead_11 fX2_27 hb.o ?_
      refine z_top (hv.1) ?_
      refine z_icmp_geNN (tgt := 37) dX2_piecesAhead_14 (by decide) (by omega) (by omega) (fun h14 => ?_) (fun h14 => ?_)
      · refine z_iload_n dX2_piecesAhead_37 rfl ?_
        have e : v.1.take i = v.1.take s.toInt.toNat := by
          by_cases q : v.1.length ≤ i
          · rw [List.take_of_length_le q, List.take_of_length_le (by omega)]
          · congr 1; omega
        exact z_iret dX2_piecesAhead_38 ⟨Nat.le_refl _, Nat.le_refl _⟩ rfl ⟨rfl, rfl, rfl, rfl, congrArg (fun z => some (Value.int z)) (by rw [e])⟩
      · obtain ⟨sh, hsh⟩ := getS h14
        have hso := ho.sh hsh
        refine z_iload_n dX2_piecesAhead_17 rfl ?_
        refine z_iconst (nI 1) dX2_piecesAhead_18 (by decide) ?_
        refine z_aload_n dX2_piecesAhead_19 rfl ?_
        refine z_getr dX2_piecesAhead_20 fX2_24 hb.o hb.r4 ?_
        refine z_iload_n dX2_piecesAhead_23 rfl ?_
        refine z_iaN dX2_piecesAhead_24 hb.a4 (by omega) (by decide) ?_
        refine z_top ((hv.2.1 i sh hsh).2.2.2.2) ?_
        refine z_callS1p dX2_piecesAhead_25 mX2_52 (c_bitCountC I L hso.2.2.2.2 hso.2.1) (by decide) (Nat.le_of_ble_eq_true rfl) ⟨Nat.le_refl _, Nat.le_refl _⟩ ?_
        refine z_iaddN dX2_piecesAhead_28 ?_
        refine z_iaddN dX2_piecesAhead_29 ?_
        refine z_ist2 dX2_piecesAhead_30 rfl ?_
        refine z_iincN3 (n := 1) dX2_piecesAhead_31 rfl ?_
        refine z_goto (tgt := 4) dX2_piecesAhead_34 (by decide) ?_
        rw [← np_take_succ hsh]
        exact ih (i + 1) (by omega) (by omega) (by omega)
set_option maxRecDepth 100000 in
set_option maxHeartbeats 4000000 in
theorem c_piecesAhead {S : zS} {R : zMR} (I : zMI) (L : zML) {b : Nat} {v : Ly} (hb : zLay S R b) (hv : zCLy I b v) (ho : lyOk v) (s : Int32) : zM0 yX2_piecesAhead cX2_piecesAhead 4 (some .int) 2 [.ref b, .int s] S I L R (zPure I L (nI (np (v.1.take s.toInt.toNat)))) := by
  refine zM0_of (own := RX2) (lv := [some (.ref b), some (.int s), none, none]) rfl (by decide) rfl rfl ?_
  refine z_iconst (nI 0) dX2_piecesAhead_0 (by decide) ?_
  refine z_ist2 dX2_piecesAhead_1 rfl ?_
  refine z_iconst (nI 0) dX2_piecesAhead_2 (by decide) ?_
  refine z_ist3 dX2_piecesAhead_3 rfl ?_
  exact piecesAhead_loop I L hb hv ho s (v.1.length + 1) 0 (by omega) (by omega) (Or.inr rfl)
set_option maxRecDepth 100000 in
set_option maxHeartbeats 4000000 in
theorem c_isFull {S : zS} {R : zMR} (I : zMI) (L : zML) {b : Nat} {v : Ly} (hb : zLay S R b) (hv : zCLy I b v) (ho : lyOk v) : zM0 yX2_isFull cX2_isFull 1 (some .boolean) 3 [.ref b] S I L R (zPure I L (zb (full v.1))) := by
  refine zM0_of (own := RX2) (lv := [some (.ref b)]) rfl (by decide) rfl rfl ?_
  have hl := ho.1
  have hn := ho.2.2.1
  have e : v.1.take (nI v.1.length).toInt.toNat = v.1 := by
    rw [nI_T (by omega)]
    exact List.take_of_length_le (by omega)
  refine z_aload_n dX2_isFull_0 rfl ?_
  refine z_geti dX2_isFull_1 fX2_27 hb.o ?_
  refine z_top (hv.1) ?_
  refine z_bipush (nI 10) dX2_isFull_4 (by decide) ?_
  refine z_icmp_geNN (tgt := 22) dX2_isFull_6 (by decide) (by omega) (by omega) (fun h6 => ?_) (fun h6 => ?_)
  · refine z_iconst (nI 1) dX2_isFull_22 (by decide) ?_
    refine z_goto (tgt := 27) dX2_isFull_23 (by decide) ?_
    exact z_iret dX2_isFull_27 ⟨Nat.le_refl _, Nat.le_refl _⟩ (by first | exact zb_nar _ | rfl) ⟨rfl, rfl, rfl, rfl, congrArg (fun z => some (Value.int z)) (by first | exact zb_1 (by unfold full; omega) | exact zb_0 (by unfold full; omega) | exact zb_c (by unfold full; omega))⟩
  · refine z_aload_n dX2_isFull_9 rfl ?_
    refine z_aload_n dX2_isFull_10 rfl ?_
    refine z_geti dX2_isFull_11 fX2_27 hb.o ?_
    refine z_top (hv.1) ?_
    refine z_callV1p dX2_isFull_14 mX2_58 hb.o (c_piecesAhead I L hb hv ho _) (by decide) (Nat.le_of_ble_eq_true rfl) ⟨Nat.le_refl _, Nat.le_refl _⟩ ?_
    rw [e]
    refine z_bipush (nI 14) dX2_isFull_17 (by decide) ?_
    refine z_icmp_ltNN (tgt := 26) dX2_isFull_19 (by decide) (by omega) (by omega) (fun h19 => ?_) (fun h19 => ?_)
    · refine z_iconst (nI 0) dX2_isFull_26 (by decide) ?_
      exact z_iret dX2_isFull_27 ⟨Nat.le_refl _, Nat.le_refl _⟩ (by first | exact zb_nar _ | rfl) ⟨rfl, rfl, rfl, rfl, congrArg (fun z => some (Value.int z)) (by first | exact zb_1 (by unfold full; omega) | exact zb_0 (by unfold full; omega) | exact zb_c (by unfold full; omega))⟩
    · refine z_iconst (nI 1) dX2_isFull_22 (by decide) ?_
      refine z_goto (tgt := 27) dX2_isFull_23 (by decide) ?_
      exact z_iret dX2_isFull_27 ⟨Nat.le_refl _, Nat.le_refl _⟩ (by first | exact zb_nar _ | rfl) ⟨rfl, rfl, rfl, rfl, congrArg (fun z => some (Value.int z)) (by first | exact zb_1 (by unfold full; omega) | exact zb_0 (by unfold full; omega) | exact zb_c (by unfold full; omega))⟩
