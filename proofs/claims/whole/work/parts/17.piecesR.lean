noncomputable def ptF (x y : Int) : List Pc → Nat → Int32
  | [], _ => -1
  | c :: t, i => zif ((qx c : Int) ≤ x ∧ x ≤ qx2 c ∧ (qy c : Int) ≤ y ∧ y ≤ qy2 c) (nI i) (ptF x y t (i + 1))
theorem ptF_at {x y : Int} {ps : List Pc} {i : Nat} (h : i < ps.length) : ptF x y (ps.drop i) i = zif ((qx (pg ps i) : Int) ≤ x ∧ x ≤ qx2 (pg ps i) ∧ (qy (pg ps i) : Int) ≤ y ∧ y ≤ qy2 (pg ps i)) (nI i) (ptF x y (ps.drop (i + 1)) (i + 1)) := by
  have e : ps.drop i = pg ps i :: ps.drop (i + 1) := by
    rw [List.drop_eq_getElem_cons h]
    congr 1
    have := getP h
    rw [List.getElem?_eq_getElem h] at this
    exact Option.some.inj this
  rw [e, ptF]
theorem ptF_end {x y : Int} {ps : List Pc} {i : Nat} (h : ps.length ≤ i) : ptF x y (ps.drop i) i = -1 := by
  rw [List.drop_of_length_le h, ptF]
set_option maxRecDepth 100000 in
set_option maxHeartbeats 4000000 in
theorem c_lowestOf {S : zS} {R : zMR} (I : zMI) (L : zML) {c : List Nat} (h : cL c) : zM0 yX5_lowestOf cX5_lowestOf 1 (some .int) 2 [.int (nI (cm c))] S I L R (zPure I L (loC c)) := by
  rcases h with rfl | ⟨a, rfl, h1⟩ | ⟨a, b, rfl, h1, h2⟩
  · refine zM0_of (own := RX5) (lv := [some (.int (nI (cm [])))]) rfl (by decide) rfl rfl ?_
    have hz : cm [] = 0 := cm_nil
    rw [hz]
    refine z_iload_n dX5_lowestOf_0 rfl ?_
    refine z_if_neN (tgt := 8) dX5_lowestOf_1 (by decide) (by omega) (fun h1 => absurd h1 (by decide)) (fun _ => ?_)
    refine z_iconst (-1) dX5_lowestOf_4 (by decide) ?_
    refine z_goto (tgt := 17) dX5_lowestOf_5 (by decide) ?_
    exact z_iret dX5_lowestOf_17 ⟨Nat.le_refl _, Nat.le_refl _⟩ rfl ⟨rfl, rfl, rfl, rfl, congrArg (fun z => some (Value.int z)) (rfl)⟩
  · refine zM0_of (own := RX5) (lv := [some (.int (nI (cm [a])))]) rfl (by decide) rfl rfl ?_
    have hc := cm_lt [a]
    refine z_iload_n dX5_lowestOf_0 rfl ?_
    refine z_if_neN (tgt := 8) dX5_lowestOf_1 (by decide) (by omega) (fun h1 => ?_) (fun h1 => absurd h1 (cm_ne0_1 a (by omega)))
    refine z_iload_n dX5_lowestOf_8 rfl ?_
    refine z_iload_n dX5_lowestOf_9 rfl ?_
    refine z_ineg dX5_lowestOf_10 ?_
    refine z_iand dX5_lowestOf_11 ?_
    refine z_iconst (nI 1) dX5_lowestOf_12 (by decide) ?_
    refine z_isub dX5_lowestOf_13 (z_top (low_cm1 a (by omega)) ?_)
    refine z_callS1p dX5_lowestOf_14 mX5_226 (c_bitCount I L (2 ^ a - 1) (by have := pow_lt31 (n := a) (by omega); have h3 : 2 ^ a ≤ 2 ^ 14 := Nat.pow_le_pow_right (by decide) (by omega); omega)) (by decide) (Nat.le_of_ble_eq_true rfl) ⟨Nat.le_refl _, Nat.le_refl _⟩ ?_
    exact z_iret dX5_lowestOf_17 ⟨Nat.le_refl _, Nat.le_refl _⟩ rfl ⟨rfl, rfl, rfl, rfl, congrArg (fun z => some (Value.int z)) (by rw [popc_low a (by omega)]; rfl)⟩
  · refine zM0_of (own := RX5) (lv := [some (.int (nI (cm [a, b])))]) rfl (by decide) rfl rfl ?_
    have hc := cm_lt [a, b]
    refine z_iload_n dX5_lowestOf_0 rfl ?_
    refine z_if_neN (tgt := 8) dX5_lowestOf_1 (by decide) (by omega) (fun h1 => ?_) (fun h1 => absurd h1 (cm_ne0_2 b (by omega) a (by omega)))
    refine z_iload_n dX5_lowestOf_8 rfl ?_
    refine z_iload_n dX5_lowestOf_9 rfl ?_
    refine z_ineg dX5_lowestOf_10 ?_
    refine z_iand dX5_lowestOf_11 ?_
    refine z_iconst (nI 1) dX5_lowestOf_12 (by decide) ?_
    refine z_isub dX5_lowestOf_13 (z_top (low_cm2 b (by omega) a (by omega)) ?_)
    refine z_callS1p dX5_lowestOf_14 mX5_226 (c_bitCount I L (2 ^ a - 1) (by have := pow_lt31 (n := a) (by omega); have h3 : 2 ^ a ≤ 2 ^ 14 := Nat.pow_le_pow_right (by decide) (by omega); omega)) (by decide) (Nat.le_of_ble_eq_true rfl) ⟨Nat.le_refl _, Nat.le_refl _⟩ ?_
    exact z_iret dX5_lowestOf_17 ⟨Nat.le_refl _, Nat.le_refl _⟩ rfl ⟨rfl, rfl, rfl, rfl, congrArg (fun z => some (Value.int z)) (by rw [popc_low a (by omega)]; rfl)⟩
set_option maxRecDepth 100000 in
set_option maxHeartbeats 4000000 in
theorem c_withoutLowest {S : zS} {R : zMR} (I : zMI) (L : zML) {c : List Nat} (h : cL c) : zM0 yX5_withoutLowest cX5_withoutLowest 1 (some .int) 1 [.int (nI (cm c))] S I L R (zPure I L (nI (cm c.tail))) := by
  rcases h with rfl | ⟨a, rfl, h1⟩ | ⟨a, b, rfl, h1, h2⟩
  · refine zM0_of (own := RX5) (lv := [some (.int (nI (cm [])))]) rfl (by decide) rfl rfl ?_
    refine z_iload_n dX5_withoutLowest_0 rfl ?_
    refine z_iload_n dX5_withoutLowest_1 rfl ?_
    refine z_iconst (nI 1) dX5_withoutLowest_2 (by decide) ?_
    refine z_isub dX5_withoutLowest_3 ?_
    refine z_iand dX5_withoutLowest_4 ?_
    exact z_iret dX5_withoutLowest_5 ⟨Nat.le_refl _, Nat.le_refl _⟩ rfl ⟨rfl, rfl, rfl, rfl, congrArg (fun z => some (Value.int z)) (by rw [cm_nil]; decide)⟩
  · refine zM0_of (own := RX5) (lv := [some (.int (nI (cm [a])))]) rfl (by decide) rfl rfl ?_
    refine z_iload_n dX5_withoutLowest_0 rfl ?_
    refine z_iload_n dX5_withoutLowest_1 rfl ?_
    refine z_iconst (nI 1) dX5_withoutLowest_2 (by decide) ?_
    refine z_isub dX5_withoutLowest_3 ?_
    refine z_iand dX5_withoutLowest_4 ?_
    exact z_iret dX5_withoutLowest_5 ⟨Nat.le_refl _, Nat.le_refl _⟩ rfl ⟨rfl, rfl, rfl, rfl, congrArg (fun z => some (Value.int z)) (wlow_cm1 a (by omega))⟩
  · refine zM0_of (own := RX5) (lv := [some (.int (nI (cm [a, b])))]) rfl (by decide) rfl rfl ?_
    refine z_iload_n dX5_withoutLowest_0 rfl ?_
    refine z_iload_n dX5_withoutLowest_1 rfl ?_
    refine z_iconst (nI 1) dX5_withoutLowest_2 (by decide) ?_
    refine z_isub dX5_withoutLowest_3 ?_
    refine z_iand dX5_withoutLowest_4 ?_
    exact z_iret dX5_withoutLowest_5 ⟨Nat.le_refl _, Nat.le_refl _⟩ rfl ⟨rfl, rfl, rfl, rfl, congrArg (fun z => some (Value.int z)) (wlow_cm2 b (by omega) a (by omega))⟩
set_option maxRecDepth 100000 in
set_option maxHeartbeats 4000000 in
theorem c_has {S : zS} {R : zMR} (I : zMI) (L : zML) {b : Nat} {ps : List Pc} (hb : zPcs S R b) (hB : zPB I b ps) (ho : psOk ps) (p : Int32) : zM0 yX4_has cX4_has 2 (some .boolean) 1 [.ref b, .int p] S I L R (zPure I L (zb (0 ≤ p.toInt ∧ p.toInt < ps.length))) := by
  refine zM0_of (own := RX4) (lv := [some (.ref b), some (.int p)]) rfl (by decide) rfl rfl ?_
  have hl := ho.1
  refine z_iload_n dX4_has_0 rfl ?_
  refine z_if_lt (tgt := 22) dX4_has_1 (by decide) (fun h1 => ?_) (fun h1 => ?_)
  · refine z_iconst (nI 0) dX4_has_22 (by decide) ?_
    exact z_iret dX4_has_23 ⟨Nat.le_refl _, Nat.le_refl _⟩ (by first | exact zb_nar _ | rfl) ⟨rfl, rfl, rfl, rfl, congrArg (fun z => some (Value.int z)) (by first | exact zb_1 (by omega) | exact zb_0 (by omega) | exact zb_c (by omega))⟩
  · refine z_iload_n dX4_has_4 rfl ?_
    refine z_aload_n dX4_has_5 rfl ?_
    refine z_geti dX4_has_6 fX4_36 hb.o ?_
    refine z_top (hB.1) ?_
    refine z_icmp_geIN (tgt := 22) dX4_has_9 (by decide) (by omega) (fun h9 => ?_) (fun h9 => ?_)
    · refine z_iconst (nI 0) dX4_has_22 (by decide) ?_
      exact z_iret dX4_has_23 ⟨Nat.le_refl _, Nat.le_refl _⟩ (by first | exact zb_nar _ | rfl) ⟨rfl, rfl, rfl, rfl, congrArg (fun z => some (Value.int z)) (by first | exact zb_1 (by omega) | exact zb_0 (by omega) | exact zb_c (by omega))⟩
    · refine z_iload_n dX4_has_12 rfl ?_
      refine z_bipush (nI 14) dX4_has_13 (by decide) ?_
      refine z_icmp_geIN (tgt := 22) dX4_has_15 (by decide) (by omega) (fun h15 => ?_) (fun h15 => ?_)
      · refine z_iconst (nI 0) dX4_has_22 (by decide) ?_
        exact z_iret dX4_has_23 ⟨Nat.le_refl _, Nat.le_refl _⟩ (by first | exact zb_nar _ | rfl) ⟨rfl, rfl, rfl, rfl, congrArg (fun z => some (Value.int z)) (by first | exact zb_1 (by omega) | exact zb_0 (by omega) | exact zb_c (by omega))⟩
      · refine z_iconst (nI 1) dX4_has_18 (by decide) ?_
        refine z_goto (tgt := 23) dX4_has_19 (by decide) ?_
        exact z_iret dX4_has_23 ⟨Nat.le_refl _, Nat.le_refl _⟩ (by first | exact zb_nar _ | rfl) ⟨rfl, rfl, rfl, rfl, congrArg (fun z => some (Value.int z)) (by first | exact zb_1 (by omega) | exact zb_0 (by omega) | exact zb_c (by omega))⟩
set_option maxRecDepth 100000 in
set_option maxHeartbeats 4000000 in
theorem c_all {S : zS} {R : zMR} (I : zMI) (L : zML) {b : Nat} {ps : List Pc} (hb : zPcs S R b) (hB : zPB I b ps) (ho : psOk ps) : zM0 yX4_all cX4_all 1 (some .int) 1 [.ref b] S I L R (zPure I L (nI (2 ^ ps.length - 1))) := by
  refine zM0_of (own := RX4) (lv := [some (.ref b)]) rfl (by decide) rfl rfl ?_
  have hl := ho.1
  have h1 : 1 ≤ 2 ^ ps.length := Nat.one_le_two_pow
  refine z_iconst (nI 1) dX4_all_0 (by decide) ?_
  refine z_aload_n dX4_all_1 rfl ?_
  refine z_geti dX4_all_2 fX4_36 hb.o ?_
  refine z_top (hB.1) ?_
  refine z_shl1 dX4_all_5 (by omega) ?_
  refine z_iconst (nI 1) dX4_all_6 (by decide) ?_
  refine z_isubN dX4_all_7 (by omega) ?_
  exact z_iret dX4_all_8 ⟨Nat.le_refl _, Nat.le_refl _⟩ rfl ⟨rfl, rfl, rfl, rfl, congrArg (fun z => some (Value.int z)) (rfl)⟩
set_option maxRecDepth 100000 in
set_option maxHeartbeats 4000000 in
theorem c_stepsBetween {S : zS} {R : zMR} (I : zMI) (L : zML) (a a2 c c2 : Nat) (ha : a ≤ 15) (ha2 : a2 ≤ 15) (hc : c ≤ 15) (hc2 : c2 ≤ 15) : zM0 yX4_stepsBetween cX4_stepsBetween 4 (some .int) 1 [.int (nI a), .int (nI a2), .int (nI c), .int (nI c2)] S I L R (zPure I L (nI (apt a a2 c c2))) := by
  refine zM0_of (own := RX4) (lv := [some (.int (nI a)), some (.int (nI a2)), some (.int (nI c)), some (.int (nI c2))]) rfl (by decide) rfl rfl ?_
  refine z_iconst (nI 0) dX4_stepsBetween_0 (by decide) ?_
  refine z_iload_n dX4_stepsBetween_1 rfl ?_
  refine z_iload_n dX4_stepsBetween_2 rfl ?_
  refine z_isub dX4_stepsBetween_3 (z_top (nI_subI _ _) ?_)
  refine z_iload_n dX4_stepsBetween_4 rfl ?_
  refine z_iload_n dX4_stepsBetween_5 rfl ?_
  refine z_isub dX4_stepsBetween_6 (z_top (nI_subI _ _) ?_)
  refine z_mmax dX4_stepsBetween_7 mX4_110_l zMath_s_max zMath_i zMath_c_max (by decide) (Nat.le_of_ble_eq_true rfl) ⟨Nat.le_refl _, Nat.le_refl _⟩ ?_
  refine z_top (zmax_eq (by omega) (by omega) (by omega) (by omega)) ?_
  refine z_mmax dX4_stepsBetween_10 mX4_110_l zMath_s_max zMath_i zMath_c_max (by decide) (Nat.le_of_ble_eq_true rfl) ⟨Nat.le_refl _, Nat.le_refl _⟩ ?_
  refine z_top ((show _ = nI (apt a a2 c c2) from by rw [nI_zi 0, zmax_eq (by omega) (by omega) (by omega) (by omega), nI_zi]; congr 1; unfold apt; omega)) ?_
  exact z_iret dX4_stepsBetween_13 ⟨Nat.le_refl _, Nat.le_refl _⟩ rfl ⟨rfl, rfl, rfl, rfl, congrArg (fun z => some (Value.int z)) (rfl)⟩
set_option maxRecDepth 100000 in
set_option maxHeartbeats 4000000 in
theorem c_gapOf {S : zS} {R : zMR} (I : zMI) (L : zML) {b : Nat} {ps : List Pc} (hb : zPcs S R b) (hB : zPB I b ps) (ho : psOk ps) (p q : Nat) (hp : p < ps.length) (hq : q < ps.length) : zM0 yX4_gapOf cX4_gapOf 5 (some .int) 2 [.ref b, .int (nI p), .int (nI q)] S I L R (zPure I L (nI (gap (pg ps p) (pg ps q)))) := by
  refine zM0_of (own := RX4) (lv := [some (.ref b), some (.int (nI p)), some (.int (nI q)), none, none]) rfl (by decide) rfl rfl ?_
  have hl := ho.1
  obtain ⟨p0, p1, p2, p3, p4⟩ := ho.at hp
  obtain ⟨q0, q1, q2, q3, q4⟩ := ho.at hq
  have hp2 : 0 ≤ (nI p).toInt ∧ (nI p).toInt < ps.length := by rw [nI_T (by omega)]; omega
  have hq2 : 0 ≤ (nI q).toInt ∧ (nI q).toInt < ps.length := by rw [nI_T (by omega)]; omega
  refine z_aload_n dX4_gapOf_0 rfl ?_
  refine z_iload_n dX4_gapOf_1 rfl ?_
  refine z_callV1p dX4_gapOf_2 mX4_76 hb.o (c_has I L hb hB ho _) (by decide) (Nat.le_of_ble_eq_true rfl) ⟨Nat.le_refl _, Nat.le_refl _⟩ ?_
  refine z_if_eqB (tgt := 16) dX4_gapOf_5 (by decide) (fun h5 => absurd h5 (fun z => z hp2)) (fun h5 => ?_)
  refine z_aload_n dX4_gapOf_8 rfl ?_
  refine z_iload_n dX4_gapOf_9 rfl ?_
  refine z_callV1p dX4_gapOf_10 mX4_76 hb.o (c_has I L hb hB ho _) (by decide) (Nat.le_of_ble_eq_true rfl) ⟨Nat.le_refl _, Nat.le_refl _⟩ ?_
  refine z_if_neB (tgt := 18) dX4_gapOf_13 (by decide) (fun h13 => ?_) (fun h13 => absurd h13 (fun z => z hq2))
  refine z_aload_n dX4_gapOf_18 rfl ?_
  refine z_getr dX4_gapOf_19 fX4_15 hb.o hb.r1 ?_
  refine z_iload_n dX4_gapOf_22 rfl ?_
  refine z_iaN dX4_gapOf_23 hb.a1 (by omega) (by decide) ?_
  refine z_top ((hB.2 p _ (getP hp)).2.1) ?_
  refine z_aload_n dX4_gapOf_24 rfl ?_
  refine z_getr dX4_gapOf_25 fX4_18 hb.o hb.r2 ?_
  refine z_iload_n dX4_gapOf_28 rfl ?_
  refine z_iaN dX4_gapOf_29 hb.a2 (by omega) (by decide) ?_
  refine z_top ((hB.2 p _ (getP hp)).2.2.1) ?_
  refine z_aload_n dX4_gapOf_30 rfl ?_
  refine z_getr dX4_gapOf_31 fX4_15 hb.o hb.r1 ?_
  refine z_iload_n dX4_gapOf_34 rfl ?_
  refine z_iaN dX4_gapOf_35 hb.a1 (by omega) (by decide) ?_
  refine z_top ((hB.2 q _ (getP hq)).2.1) ?_
  refine z_aload_n dX4_gapOf_36 rfl ?_
  refine z_getr dX4_gapOf_37 fX4_18 hb.o hb.r2 ?_
  refine z_iload_n dX4_gapOf_40 rfl ?_
  refine z_iaN dX4_gapOf_41 hb.a2 (by omega) (by decide) ?_
  refine z_top ((hB.2 q _ (getP hq)).2.2.1) ?_
  refine z_callS4p dX4_gapOf_42 mX4_80 (c_stepsBetween I L _ _ _ _ (by omega) (by omega) (by omega) (by omega)) (by decide) (Nat.le_of_ble_eq_true rfl) ⟨Nat.le_refl _, Nat.le_refl _⟩ ?_
  refine z_ist3 dX4_gapOf_45 rfl ?_
  refine z_aload_n dX4_gapOf_46 rfl ?_
  refine z_getr dX4_gapOf_47 fX4_30 hb.o hb.r6 ?_
  refine z_iload_n dX4_gapOf_50 rfl ?_
  refine z_iaN dX4_gapOf_51 hb.a6 (by omega) (by decide) ?_
  refine z_top ((hB.2 p _ (getP hp)).2.2.2.2.1) ?_
  refine z_aload_n dX4_gapOf_52 rfl ?_
  refine z_getr dX4_gapOf_53 fX4_33 hb.o hb.r7 ?_
  refine z_iload_n dX4_gapOf_56 rfl ?_
  refine z_iaN dX4_gapOf_57 hb.a7 (by omega) (by decide) ?_
  refine z_top ((hB.2 p _ (getP hp)).2.2.2.2.2) ?_
  refine z_aload_n dX4_gapOf_58 rfl ?_
  refine z_getr dX4_gapOf_59 fX4_30 hb.o hb.r6 ?_
  refine z_iload_n dX4_gapOf_62 rfl ?_
  refine z_iaN dX4_gapOf_63 hb.a6 (by omega) (by decide) ?_
  refine z_top ((hB.2 q _ (getP hq)).2.2.2.2.1) ?_
  refine z_aload_n dX4_gapOf_64 rfl ?_
  refine z_getr dX4_gapOf_65 fX4_33 hb.o hb.r7 ?_
  refine z_iload_n dX4_gapOf_68 rfl ?_
  refine z_iaN dX4_gapOf_69 hb.a7 (by omega) (by decide) ?_
  refine z_top ((hB.2 q _ (getP hq)).2.2.2.2.2) ?_
  refine z_callS4p dX4_gapOf_70 mX4_80 (c_stepsBetween I L _ _ _ _ (by omega) (by omega) (by omega) (by omega)) (by decide) (Nat.le_of_ble_eq_true rfl) ⟨Nat.le_refl _, Nat.le_refl _⟩ ?_
  refine z_ist4 dX4_gapOf_73 rfl ?_
  refine z_iload_n dX4_gapOf_75 rfl ?_
  refine z_iload_n dX4_gapOf_76 rfl ?_
  refine z_imulN dX4_gapOf_77 ?_
  refine z_iload dX4_gapOf_78 rfl ?_
  refine z_iload dX4_gapOf_80 rfl ?_
  refine z_imulN dX4_gapOf_82 ?_
  refine z_iaddN dX4_gapOf_83 ?_
  exact z_iret dX4_gapOf_84 ⟨Nat.le_refl _, Nat.le_refl _⟩ rfl ⟨rfl, rfl, rfl, rfl, congrArg (fun z => some (Value.int z)) (rfl)⟩
set_option maxRecDepth 100000 in
set_option maxHeartbeats 4000000 in
theorem pieceAt_loop {S : zS} {R : zMR} (I : zMI) (L : zML) {b : Nat} {ps : List Pc} (hb : zPcs S R b) (hB : zPB I b ps) (ho : psOk ps) (x y : Int32) : ∀ (n : Nat) (i : Nat), ps.length + 1 ≤ i + n → i ≤ ps.length → ptF x.toInt y.toInt ps 0 = ptF x.toInt y.toInt (ps.drop i) i → zV (zMt RX4 cX4_pieceAt 4 (some .int) 1) (fun S2 I2 L2 R2 rr => S2 = S ∧ R2 = R ∧ (zPure I L (ptF x.toInt y.toInt ps 0)) I2 L2 rr) (0, 0) S I L R 2 [some (.ref b), some (.int x), some (.int y), some (.int (nI i))] [] := by
  intro n
  induction n with
  | zero => intro i h1 h2 hi; omega
  | succ n ih =>
    intro i h1 h2 hi
    have hl := ho.1
    refine z_iload_n dX4_pieceAt_2 rfl ?_
    refine z_aload_n dX4_pieceAt_3 rfl ?_
    refine z_geti dX4_pieceAt_4 fX4_36 hb.o ?_
    refine z_top (hB.1) ?_
    refine z_icmp_geNN (tgt := 58) dX4_pieceAt_7 (by decide) (by omega) (by omega) (fun h7 => ?_) (fun h7 => ?_)
    · refine z_iconst (-1) dX4_pieceAt_58 (by decide) ?_
      exact z_iret dX4_pieceAt_59 ⟨Nat.le_refl _, Nat.le_refl _⟩ rfl ⟨rfl, rfl, rfl, rfl, congrArg (fun z => some (Value.int z)) (by rw [hi, ptF_end h7])⟩
    · obtain ⟨p0, p1, p2, p3, p4⟩ := ho.at h7
      refine z_aload_n dX4_pieceAt_10 rfl ?_
      refine z_getr dX4_pieceAt_11 fX4_15 hb.o hb.r1 ?_
      refine z_iload_n dX4_pieceAt_14 rfl ?_
      refine z_iaN dX4_pieceAt_15 hb.a1 (by omega) (by decide) ?_
      refine z_top ((hB.2 i _ (getP h7)).2.1) ?_
      refine z_iload_n dX4_pieceAt_16 rfl ?_
      refine z_icmp_gtNI (tgt := 52) dX4_pieceAt_17 (by decide) (by omega) (fun h17 => ?_) (fun h17 => ?_)
      · refine z_iincN3 (n := 1) dX4_pieceAt_52 rfl ?_
        refine z_goto (tgt := 2) dX4_pieceAt_55 (by decide) ?_
        exact ih (i + 1) (by omega) (by omega) (by rw [hi, ptF_at h7, zif_f (by omega)])
      · refine z_iload_n dX4_pieceAt_20 rfl ?_
        refine z_aload_n dX4_pieceAt_21 rfl ?_
        refine z_getr dX4_pieceAt_22 fX4_18 hb.o hb.r2 ?_
        refine z_iload_n dX4_pieceAt_25 rfl ?_
        refine z_iaN dX4_pieceAt_26 hb.a2 (by omega) (by decide) ?_
        refine z_top ((hB.2 i _ (getP h7)).2.2.1) ?_
        refine z_icmp_gtIN (tgt := 52) dX4_pieceAt_27 (by decide) (by omega) (fun h27 => ?_) (fun h27 => ?_)
        · refine z_iincN3 (n := 1) dX4_pieceAt_52 rfl ?_
          refine z_goto (tgt := 2) dX4_pieceAt_55 (by decide) ?_
          exact ih (i + 1) (by omega) (by omega) (by rw [hi, ptF_at h7, zif_f (by omega)])
        · refine z_aload_n dX4_pieceAt_30 rfl ?_
          refine z_getr dX4_pieceAt_31 fX4_30 hb.o hb.r6 ?_
          refine z_iload_n dX4_pieceAt_34 rfl ?_
          refine z_iaN dX4_pieceAt_35 hb.a6 (by omega) (by decide) ?_
          refine z_top ((hB.2 i _ (getP h7)).2.2.2.2.1) ?_
          refine z_iload_n dX4_pieceAt_36 rfl ?_
          refine z_icmp_gtNI (tgt := 52) dX4_pieceAt_37 (by decide) (by omega) (fun h37 => ?_) (fun h37 => ?_)
          · refine z_iincN3 (n := 1) dX4_pieceAt_52 rfl ?_
            refine z_goto (tgt := 2) dX4_pieceAt_55 (by decide) ?_
            exact ih (i + 1) (by omega) (by omega) (by rw [hi, ptF_at h7, zif_f (by omega)])
          · refine z_iload_n dX4_pieceAt_40 rfl ?_
            refine z_aload_n dX4_pieceAt_41 rfl ?_
            refine z_getr dX4_pieceAt_42 fX4_33 hb.o hb.r7 ?_
            refine z_iload_n dX4_pieceAt_45 rfl ?_
            refine z_iaN dX4_pieceAt_46 hb.a7 (by omega) (by decide) ?_
            refine z_top ((hB.2 i _ (getP h7)).2.2.2.2.2) ?_
            refine z_icmp_gtIN (tgt := 52) dX4_pieceAt_47 (by decide) (by omega) (fun h47 => ?_) (fun h47 => ?_)
            · refine z_iincN3 (n := 1) dX4_pieceAt_52 rfl ?_
              refine z_goto (tgt := 2) dX4_pieceAt_55 (by decide) ?_
              exact ih (i + 1) (by omega) (by omega) (by rw [hi, ptF_at h7, zif_f (by omega)])
            · refine z_iload_n dX4_pieceAt_50 rfl ?_
              exact z_iret dX4_pieceAt_51 ⟨Nat.le_refl _, Nat.le_refl _⟩ rfl ⟨rfl, rfl, rfl, rfl, congrArg (fun z => some (Value.int z)) (by rw [hi, ptF_at h7, zif_t ⟨by omega, by omega, by omega, by omega⟩])⟩
set_option maxRecDepth 100000 in
set_option maxHeartbeats 4000000 in
theorem c_pieceAt {S : zS} {R : zMR} (I : zMI) (L : zML) {b : Nat} {ps : List Pc} (hb : zPcs S R b) (hB : zPB I b ps) (ho : psOk ps) (x y : Int32) : zM0 yX4_pieceAt cX4_pieceAt 4 (some .int) 1 [.ref b, .int x, .int y] S I L R (zPure I L (ptF x.toInt y.toInt ps 0)) := by
  refine zM0_of (own := RX4) (lv := [some (.ref b), some (.int x), some (.int y), none]) rfl (by decide) rfl rfl ?_
  refine z_iconst (nI 0) dX4_pieceAt_0 (by decide) ?_
  refine z_ist3 dX4_pieceAt_1 rfl ?_
  exact pieceAt_loop I L hb hB ho x y (ps.length + 1) 0 (by omega) (by omega) rfl
set_option maxRecDepth 100000 in
set_option maxHeartbeats 4000000 in
theorem closePairs_loop {S : zS} {R : zMR} (I : zMI) (L : zML) {b D st cl : Nat} {ps : List Pc} (hb : zPcs S R b) (hv : zPC I b ps D st cl) (ho : psOk ps) : ∀ (n : Nat) (i : Nat), ps.length + 1 ≤ i + n → i ≤ ps.length → zV (zMt RX4 cX4_closePairs 3 (some .int) 2) (fun S2 I2 L2 R2 rr => S2 = S ∧ R2 = R ∧ (zPure I L (nI (sm ps.length (fun p => popc 14 (bm 14 (clb ps D p))) / 2))) I2 L2 rr) (0, 0) S I L R 4 [some (.ref b), some (.int (nI (sm i (fun p => popc 14 (bm 14 (clb ps D p)))))), some (.int (nI i))] [] := by
  intro n
  induction n with
  | zero => intro i h1 h2; omega
  | succ n ih =>
    intro i h1 h2
    have hl := ho.1
    have hsb : sm i (fun p => popc 14 (bm 14 (clb ps D p))) ≤ i * 14 := sm_le (fun q hq => popc_le _ _)
    have hsb2 : i * 14 ≤ 14 * 14 := Nat.mul_le_mul_right _ (by omega)
    refine z_iload_n dX4_closePairs_4 rfl ?_
    refine z_aload_n dX4_closePairs_5 rfl ?_
    refine z_geti dX4_closePairs_6 fX4_36 hb.o ?_
    refine z_top (hv.1.1) ?_
    refine z_icmp_geNN (tgt := 30) dX4_closePairs_9 (by decide) (by omega) (by omega) (fun h9 => ?_) (fun h9 => ?_)
    · have e : i = ps.length := by omega
      subst e
      refine z_iload_n dX4_closePairs_30 rfl ?_
      refine z_iconst (nI 2) dX4_closePairs_31 (by decide) ?_
      refine z_idivN dX4_closePairs_32 (by omega) (by omega) (by omega) ?_
      exact z_iret dX4_closePairs_33 ⟨Nat.le_refl _, Nat.le_refl _⟩ rfl ⟨rfl, rfl, rfl, rfl, congrArg (fun z => some (Value.int z)) (rfl)⟩
    · refine z_iload_n dX4_closePairs_12 rfl ?_
      refine z_aload_n dX4_closePairs_13 rfl ?_
      refine z_getr dX4_closePairs_14 fX4_24 hb.o hb.r4 ?_
      refine z_iload_n dX4_closePairs_17 rfl ?_
      refine z_iaN dX4_closePairs_18 hb.a4 (by omega) (by decide) ?_
      refine z_top ((hv.2.2.2 i h9).1) ?_
      refine z_callS1p dX4_closePairs_19 mX4_84 (c_bitCount I L _ (bm_lt 14 _)) (by decide) (Nat.le_of_ble_eq_true rfl) ⟨Nat.le_refl _, Nat.le_refl _⟩ ?_
      refine z_iaddN dX4_closePairs_22 ?_
      refine z_ist1 dX4_closePairs_23 rfl ?_
      refine z_iincN2 (n := 1) dX4_closePairs_24 rfl ?_
      refine z_goto (tgt := 4) dX4_closePairs_27 (by decide) ?_
      exact ih (i + 1) (by omega) (by omega)
set_option maxRecDepth 100000 in
set_option maxHeartbeats 4000000 in
theorem c_closePairs {S : zS} {R : zMR} (I : zMI) (L : zML) {b D st cl : Nat} {ps : List Pc} (hb : zPcs S R b) (hv : zPC I b ps D st cl) (ho : psOk ps) : zM0 yX4_closePairs cX4_closePairs 3 (some .int) 2 [.ref b] S I L R (zPure I L (nI (sm ps.length (fun p => popc 14 (bm 14 (clb ps D p))) / 2))) := by
  refine zM0_of (own := RX4) (lv := [some (.ref b), none, none]) rfl (by decide) rfl rfl ?_
  refine z_iconst (nI 0) dX4_closePairs_0 (by decide) ?_
  refine z_ist1 dX4_closePairs_1 rfl ?_
  refine z_iconst (nI 0) dX4_closePairs_2 (by decide) ?_
  refine z_ist2 dX4_closePairs_3 rfl ?_
  exact closePairs_loop I L hb hv ho (ps.length + 1) 0 (by omega) (by omega)
set_option maxRecDepth 100000 in
set_option maxHeartbeats 4000000 in
theorem pcArea_loop {S : zS} {R : zMR} (I : zMI) (L : zML) {b D st cl : Nat} {ps : List Pc} (hb : zPcs S R b) (hv : zPC I b ps D st cl) (ho : psOk ps) (m : Nat) (hm : m < 2147483648) : ∀ (n : Nat) (i : Nat), ps.length + 1 ≤ i + n → i ≤ ps.length → zV (zMt RX4 cX4_areaOf 4 (some .int) 1) (fun S2 I2 L2 R2 rr => S2 = S ∧ R2 = R ∧ (zPure I L (nI (areaM ps m))) I2 L2 rr) (0, 0) S I L R 4 [some (.ref b), some (.int (nI m)), some (.int (nI (sm i (fun p => if m.testBit p then qa (pg ps p) else 0)))), some (.int (nI i))] [] := by
  intro n
  induction n with
  | zero => intro i h1 h2; omega
  | succ n ih =>
    intro i h1 h2
    have hl := ho.1
    have hsb : sm i (fun p => if m.testBit p then qa (pg ps p) else 0) ≤ i * 256 := sm_le (fun q hq => by split; exact qa_le (ho.at (by omega)); omega)
    have hsb2 : i * 256 ≤ 14 * 256 := Nat.mul_le_mul_right _ (by omega)
    refine z_iload_n dX4_areaOf_4 rfl ?_
    refine z_aload_n dX4_areaOf_5 rfl ?_
    refine z_geti dX4_areaOf_6 fX4_36 hb.o ?_
    refine z_top (hv.1.1) ?_
    refine z_icmp_geNN (tgt := 35) dX4_areaOf_9 (by decide) (by omega) (by omega) (fun h9 => ?_) (fun h9 => ?_)
    · have e : i = ps.length := by omega
      subst e
      refine z_iload_n dX4_areaOf_35 rfl ?_
      exact z_iret dX4_areaOf_36 ⟨Nat.le_refl _, Nat.le_refl _⟩ rfl ⟨rfl, rfl, rfl, rfl, congrArg (fun z => some (Value.int z)) (rfl)⟩
    · refine z_iload_n dX4_areaOf_12 rfl ?_
      refine z_iload_n dX4_areaOf_13 rfl ?_
      refine z_bit dX4_areaOf_14 dX4_areaOf_15 (by decide) dX4_areaOf_16 (by omega) (by omega) ?_
      refine z_if_eqT (tgt := 29) dX4_areaOf_17 (by decide) (fun h17 => ?_) (fun h17 => ?_)
      · refine z_iincN3 (n := 1) dX4_areaOf_29 rfl ?_
        refine z_goto (tgt := 4) dX4_areaOf_32 (by decide) ?_
        have e : sm (i + 1) (fun p => if m.testBit p then qa (pg ps p) else 0) = sm i (fun p => if m.testBit p then qa (pg ps p) else 0) + (if m.testBit i then qa (pg ps i) else 0) := rfl
        rw [h17] at e
        have e2 := ih (i + 1) (by omega) (by omega)
        rw [e] at e2
        exact e2
      · refine z_iload_n dX4_areaOf_20 rfl ?_
        refine z_aload_n dX4_areaOf_21 rfl ?_
        refine z_getr dX4_areaOf_22 fX4_21 hb.o hb.r3 ?_
        refine z_iload_n dX4_areaOf_25 rfl ?_
        refine z_iaN dX4_areaOf_26 hb.a3 (by omega) (by decide) ?_
        refine z_top ((hv.1.2 i _ (getP h9)).2.2.2.1) ?_
        refine z_iaddN dX4_areaOf_27 ?_
        refine z_ist2 dX4_areaOf_28 rfl ?_
        refine z_iincN3 (n := 1) dX4_areaOf_29 rfl ?_
        refine z_goto (tgt := 4) dX4_areaOf_32 (by decide) ?_
        have e : sm (i + 1) (fun p => if m.testBit p then qa (pg ps p) else 0) = sm i (fun p => if m.testBit p then qa (pg ps p) else 0) + (if m.testBit i then qa (pg ps i) else 0) := rfl
        rw [h17] at e
        have e2 := ih (i + 1) (by omega) (by omega)
        rw [e] at e2
        exact e2
set_option maxRecDepth 100000 in
set_option maxHeartbeats 4000000 in
theorem c_pcArea {S : zS} {R : zMR} (I : zMI) (L : zML) {b D st cl : Nat} {ps : List Pc} (hb : zPcs S R b) (hv : zPC I b ps D st cl) (ho : psOk ps) (m : Nat) (hm : m < 2147483648) : zM0 yX4_areaOf cX4_areaOf 4 (some .int) 1 [.ref b, .int (nI m)] S I L R (zPure I L (nI (areaM ps m))) := by
  refine zM0_of (own := RX4) (lv := [some (.ref b), some (.int (nI m)), none, none]) rfl (by decide) rfl rfl ?_
  refine z_iconst (nI 0) dX4_areaOf_0 (by decide) ?_
  refine z_ist2 dX4_areaOf_1 rfl ?_
  refine z_iconst (nI 0) dX4_areaOf_2 (by decide) ?_
  refine z_ist3 dX4_areaOf_3 rfl ?_
  exact pcArea_loop I L hb hv ho m hm (ps.length + 1) 0 (by omega) (by omega)
set_option maxRecDepth 100000 in
set_option maxHeartbeats 4000000 in
theorem c_cwe {S : zS} {R : zMR} (I : zMI) (L : zML) {b D st cl : Nat} {ps : List Pc} (hb : zPcs S R b) (hv : zPC I b ps D st cl) (ho : psOk ps) (p m : Nat) (hp : p < ps.length) (hm : m < 2147483648) : zM0 yX4_clashesWithEarlier cX4_clashesWithEarlier 5 (some .int) 2 [.ref b, .int (nI p), .int (nI m)] S I L R (zPure I L (nI (cE ps D m p))) := by
  refine zM0_of (own := RX4) (lv := [some (.ref b), some (.int (nI p)), some (.int (nI m)), none, none]) rfl (by decide) rfl rfl ?_
  have hl := ho.1
  have h1 : 1 ≤ 2 ^ p := Nat.one_le_two_pow
  have hc := bm_lt 14 (clb ps D p)
  refine z_iload_n dX4_clashesWithEarlier_0 rfl ?_
  refine z_if_ltN (tgt := 12) dX4_clashesWithEarlier_1 (by decide) (by omega) ?_
  refine z_iload_n dX4_clashesWithEarlier_4 rfl ?_
  refine z_aload_n dX4_clashesWithEarlier_5 rfl ?_
  refine z_geti dX4_clashesWithEarlier_6 fX4_36 hb.o ?_
  refine z_top (hv.1.1) ?_
  refine z_icmp_ltNN (tgt := 14) dX4_clashesWithEarlier_9 (by decide) (by omega) (by omega) (fun h9 => ?_) (fun h9 => absurd h9 (by omega))
  refine z_iload_n dX4_clashesWithEarlier_14 rfl ?_
  refine z_iload_n dX4_clashesWithEarlier_15 rfl ?_
  refine z_bit dX4_clashesWithEarlier_16 dX4_clashesWithEarlier_17 (by decide) dX4_clashesWithEarlier_18 (by omega) (by omega) ?_
  refine z_if_eqT (tgt := 26) dX4_clashesWithEarlier_19 (by decide) (fun h19 => ?_) (fun h19 => ?_)
  · refine z_iload_n dX4_clashesWithEarlier_26 rfl ?_
    refine z_iconst (-1) dX4_clashesWithEarlier_27 (by decide) ?_
    refine z_ixor dX4_clashesWithEarlier_28 ?_
    refine z_ist3 dX4_clashesWithEarlier_29 rfl ?_
    refine z_iconst (nI 1) dX4_clashesWithEarlier_30 (by decide) ?_
    refine z_iload_n dX4_clashesWithEarlier_31 rfl ?_
    refine z_shl1 dX4_clashesWithEarlier_32 (by omega) ?_
    refine z_iconst (nI 1) dX4_clashesWithEarlier_33 (by decide) ?_
    refine z_isubN dX4_clashesWithEarlier_34 (by omega) ?_
    refine z_ist4 dX4_clashesWithEarlier_35 rfl ?_
    refine z_aload_n dX4_clashesWithEarlier_37 rfl ?_
    refine z_getr dX4_clashesWithEarlier_38 fX4_24 hb.o hb.r4 ?_
    refine z_iload_n dX4_clashesWithEarlier_41 rfl ?_
    refine z_iaN dX4_clashesWithEarlier_42 hb.a4 (by omega) (by decide) ?_
    refine z_top ((hv.2.2.2 p hp).1) ?_
    refine z_iload dX4_clashesWithEarlier_43 rfl ?_
    refine z_iandN dX4_clashesWithEarlier_45 ?_
    refine z_iload_n dX4_clashesWithEarlier_46 rfl ?_
    refine z_iand dX4_clashesWithEarlier_47 (z_top (nI_andn _ _) ?_)
    refine z_callS1p dX4_clashesWithEarlier_48 mX4_84 (c_bitCount I L _ (by first | exact and_lt (and_lt hc) | exact Nat.lt_of_le_of_lt (andn_le _ _) (and_lt hc))) (by decide) (Nat.le_of_ble_eq_true rfl) ⟨Nat.le_refl _, Nat.le_refl _⟩ ?_
    exact z_iret dX4_clashesWithEarlier_51 ⟨Nat.le_refl _, Nat.le_refl _⟩ rfl ⟨rfl, rfl, rfl, rfl, congrArg (fun z => some (Value.int z)) (by first | rw [cE_t hp hl h19] | rw [cE_f hp hl h19])⟩
  · refine z_iload_n dX4_clashesWithEarlier_22 rfl ?_
    refine z_goto (tgt := 29) dX4_clashesWithEarlier_23 (by decide) ?_
    refine z_ist3 dX4_clashesWithEarlier_29 rfl ?_
    refine z_iconst (nI 1) dX4_clashesWithEarlier_30 (by decide) ?_
    refine z_iload_n dX4_clashesWithEarlier_31 rfl ?_
    refine z_shl1 dX4_clashesWithEarlier_32 (by omega) ?_
    refine z_iconst (nI 1) dX4_clashesWithEarlier_33 (by decide) ?_
    refine z_isubN dX4_clashesWithEarlier_34 (by omega) ?_
    refine z_ist4 dX4_clashesWithEarlier_35 rfl ?_
    refine z_aload_n dX4_clashesWithEarlier_37 rfl ?_
    refine z_getr dX4_clashesWithEarlier_38 fX4_24 hb.o hb.r4 ?_
    refine z_iload_n dX4_clashesWithEarlier_41 rfl ?_
    refine z_iaN dX4_clashesWithEarlier_42 hb.a4 (by omega) (by decide) ?_
    refine z_top ((hv.2.2.2 p hp).1) ?_
    refine z_iload dX4_clashesWithEarlier_43 rfl ?_
    refine z_iandN dX4_clashesWithEarlier_45 ?_
    refine z_iload_n dX4_clashesWithEarlier_46 rfl ?_
    refine z_iandN dX4_clashesWithEarlier_47 ?_
    refine z_callS1p dX4_clashesWithEarlier_48 mX4_84 (c_bitCount I L _ (by first | exact and_lt (and_lt hc) | exact Nat.lt_of_le_of_lt (andn_le _ _) (and_lt hc))) (by decide) (Nat.le_of_ble_eq_true rfl) ⟨Nat.le_refl _, Nat.le_refl _⟩ ?_
    exact z_iret dX4_clashesWithEarlier_51 ⟨Nat.le_refl _, Nat.le_refl _⟩ rfl ⟨rfl, rfl, rfl, rfl, congrArg (fun z => some (Value.int z)) (by first | rw [cE_t hp hl h19] | rw [cE_f hp hl h19])⟩
set_option maxRecDepth 100000 in
set_option maxHeartbeats 4000000 in
theorem c_swe {S : zS} {R : zMR} (I : zMI) (L : zML) {b D st cl : Nat} {ps : List Pc} (hb : zPcs S R b) (hv : zPC I b ps D st cl) (ho : psOk ps) (p m : Nat) (hp : p < ps.length) (hm : m < 2147483648) : zM0 yX4_stitchWithEarlier cX4_stitchWithEarlier 3 (some .int) 1 [.ref b, .int (nI p), .int (nI m)] S I L R (zPure I L (nI (sE ps m p))) := by
  refine zM0_of (own := RX4) (lv := [some (.ref b), some (.int (nI p)), some (.int (nI m))]) rfl (by decide) rfl rfl ?_
  have hl := ho.1
  have ho1 := ho.at hp
  refine z_iload_n dX4_stitchWithEarlier_0 rfl ?_
  refine z_iconst (nI 1) dX4_stitchWithEarlier_1 (by decide) ?_
  refine z_icmp_ltNN (tgt := 30) dX4_stitchWithEarlier_2 (by decide) (by omega) (by omega) (fun h2 => ?_) (fun h2 => ?_)
  · refine z_iconst (nI 0) dX4_stitchWithEarlier_30 (by decide) ?_
    exact z_iret dX4_stitchWithEarlier_31 ⟨Nat.le_refl _, Nat.le_refl _⟩ rfl ⟨rfl, rfl, rfl, rfl, congrArg (fun z => some (Value.int z)) (by unfold sE; first | rw [if_neg (by omega)] | rw [if_neg (fun z => h27 z.2)])⟩
  · have hp1 : p - 1 < ps.length := by omega
    have ho2 := ho.at hp1
    have z1 := ho1.1
    have z2 := ho2.1
    refine z_iload_n dX4_stitchWithEarlier_5 rfl ?_
    refine z_aload_n dX4_stitchWithEarlier_6 rfl ?_
    refine z_geti dX4_stitchWithEarlier_7 fX4_36 hb.o ?_
    refine z_top (hv.1.1) ?_
    refine z_icmp_geNN (tgt := 30) dX4_stitchWithEarlier_10 (by decide) (by omega) (by omega) (fun h10 => absurd h10 (by omega)) (fun h10 => ?_)
    refine z_aload_n dX4_stitchWithEarlier_13 rfl ?_
    refine z_getr dX4_stitchWithEarlier_14 fX4_9 hb.o hb.r0 ?_
    refine z_iload_n dX4_stitchWithEarlier_17 rfl ?_
    refine z_iconst (nI 1) dX4_stitchWithEarlier_18 (by decide) ?_
    refine z_isubN dX4_stitchWithEarlier_19 (by omega) ?_
    refine z_iaN dX4_stitchWithEarlier_20 hb.a0 (by omega) (by decide) ?_
    refine z_top ((hv.1.2 (p - 1) _ (getP hp1)).1) ?_
    refine z_aload_n dX4_stitchWithEarlier_21 rfl ?_
    refine z_getr dX4_stitchWithEarlier_22 fX4_9 hb.o hb.r0 ?_
    refine z_iload_n dX4_stitchWithEarlier_25 rfl ?_
    refine z_iaN dX4_stitchWithEarlier_26 hb.a0 (by omega) (by decide) ?_
    refine z_top ((hv.1.2 p _ (getP hp)).1) ?_
    refine z_icmp_eqNN (tgt := 32) dX4_stitchWithEarlier_27 (by decide) (by omega) (by omega) (fun h27 => ?_) (fun h27 => ?_)
    · refine z_iload_n dX4_stitchWithEarlier_32 rfl ?_
      refine z_iload_n dX4_stitchWithEarlier_33 rfl ?_
      refine z_ishrN dX4_stitchWithEarlier_34 (by omega) (by omega) ?_
      refine z_iload_n dX4_stitchWithEarlier_35 rfl ?_
      refine z_iload_n dX4_stitchWithEarlier_36 rfl ?_
      refine z_iconst (nI 1) dX4_stitchWithEarlier_37 (by decide) ?_
      refine z_isubN dX4_stitchWithEarlier_38 (by omega) ?_
      refine z_ishrN dX4_stitchWithEarlier_39 (by omega) (by omega) ?_
      refine z_ixorN dX4_stitchWithEarlier_40 ?_
      refine z_iconst (nI 1) dX4_stitchWithEarlier_41 (by decide) ?_
      refine z_iandN dX4_stitchWithEarlier_42 ?_
      exact z_iret dX4_stitchWithEarlier_43 ⟨Nat.le_refl _, Nat.le_refl _⟩ rfl ⟨rfl, rfl, rfl, rfl, congrArg (fun z => some (Value.int z)) (by unfold sE; rw [if_pos ⟨by omega, h27⟩, xor_bit1])⟩
    · refine z_iconst (nI 0) dX4_stitchWithEarlier_30 (by decide) ?_
      exact z_iret dX4_stitchWithEarlier_31 ⟨Nat.le_refl _, Nat.le_refl _⟩ rfl ⟨rfl, rfl, rfl, rfl, congrArg (fun z => some (Value.int z)) (by unfold sE; first | rw [if_neg (by omega)] | rw [if_neg (fun z => h27 z.2)])⟩
set_option maxRecDepth 100000 in
set_option maxHeartbeats 4000000 in
theorem c_cost1 {S : zS} {R : zMR} (I : zMI) (L : zML) {b D st cl : Nat} {ps : List Pc} (hb : zPcs S R b) (hv : zPC I b ps D st cl) (ho : psOk ps) (p m : Nat) (hp : p < ps.length) (hm : m < 2147483648) : zM0 yX4_costWithEarlier cX4_costWithEarlier 3 (some .int) 3 [.ref b, .int (nI p), .int (nI m)] S I L R (zPure I L (nI (cl * cE ps D m p + st * sE ps m p))) := by
  refine zM0_of (own := RX4) (lv := [some (.ref b), some (.int (nI p)), some (.int (nI m))]) rfl (by decide) rfl rfl ?_
  have hne : ps ≠ [] := fun e => by rw [e] at hp; simp at hp
  refine z_aload_n dX4_costWithEarlier_0 rfl ?_
  refine z_geti dX4_costWithEarlier_1 fX4_43 hb.o ?_
  refine z_top (hv.2.2.1 hne) ?_
  refine z_aload_n dX4_costWithEarlier_4 rfl ?_
  refine z_iload_n dX4_costWithEarlier_5 rfl ?_
  refine z_iload_n dX4_costWithEarlier_6 rfl ?_
  refine z_callV2p dX4_costWithEarlier_7 mX4_95 hb.o (c_cwe I L hb hv ho p m hp hm) (by decide) (Nat.le_of_ble_eq_true rfl) ⟨Nat.le_refl _, Nat.le_refl _⟩ ?_
  refine z_imulN dX4_costWithEarlier_10 ?_
  refine z_aload_n dX4_costWithEarlier_11 rfl ?_
  refine z_geti dX4_costWithEarlier_12 fX4_40 hb.o ?_
  refine z_top (hv.2.1 hne) ?_
  refine z_aload_n dX4_costWithEarlier_15 rfl ?_
  refine z_iload_n dX4_costWithEarlier_16 rfl ?_
  refine z_iload_n dX4_costWithEarlier_17 rfl ?_
  refine z_callV2p dX4_costWithEarlier_18 mX4_99 hb.o (c_swe I L hb hv ho p m hp hm) (by decide) (Nat.le_of_ble_eq_true rfl) ⟨Nat.le_refl _, Nat.le_refl _⟩ ?_
  refine z_imulN dX4_costWithEarlier_21 ?_
  refine z_iaddN dX4_costWithEarlier_22 ?_
  exact z_iret dX4_costWithEarlier_23 ⟨Nat.le_refl _, Nat.le_refl _⟩ rfl ⟨rfl, rfl, rfl, rfl, congrArg (fun z => some (Value.int z)) (rfl)⟩
set_option maxRecDepth 100000 in
set_option maxHeartbeats 4000000 in
theorem clashesOf_loop {S : zS} {R : zMR} (I : zMI) (L : zML) {b D st cl : Nat} {ps : List Pc} (hb : zPcs S R b) (hv : zPC I b ps D st cl) (ho : psOk ps) (m : Nat) (hm : m < 2147483648) : ∀ (n : Nat) (i : Nat), ps.length + 1 ≤ i + n → i ≤ ps.length → zV (zMt RX4 cX4_clashesOf 4 (some .int) 3) (fun S2 I2 L2 R2 rr => S2 = S ∧ R2 = R ∧ (zPure I L (nI (clashes ps D m))) I2 L2 rr) (0, 0) S I L R 4 [some (.ref b), some (.int (nI m)), some (.int (nI (sm i (cE ps D m)))), some (.int (nI i))] [] := by
  intro n
  induction n with
  | zero => intro i h1 h2; omega
  | succ n ih =>
    intro i h1 h2
    have hl := ho.1
    have hsb : sm i (cE ps D m) ≤ i * 14 := sm_le (fun q hq => Nat.le_trans (cE_le _ _ _ _) (by omega))
    have hsb2 : i * 14 ≤ 14 * 14 := Nat.mul_le_mul_right _ (by omega)
    refine z_iload_n dX4_clashesOf_4 rfl ?_
    refine z_aload_n dX4_clashesOf_5 rfl ?_
    refine z_geti dX4_clashesOf_6 fX4_36 hb.o ?_
    refine z_top (hv.1.1) ?_
    refine z_icmp_geNN (tgt := 27) dX4_clashesOf_9 (by decide) (by omega) (by omega) (fun h9 => ?_) (fun h9 => ?_)
    · have e : i = ps.length := by omega
      subst e
      refine z_iload_n dX4_clashesOf_27 rfl ?_
      exact z_iret dX4_clashesOf_28 ⟨Nat.le_refl _, Nat.le_refl _⟩ rfl ⟨rfl, rfl, rfl, rfl, congrArg (fun z => some (Value.int z)) (rfl)⟩
    · refine z_iload_n dX4_clashesOf_12 rfl ?_
      refine z_aload_n dX4_clashesOf_13 rfl ?_
      refine z_iload_n dX4_clashesOf_14 rfl ?_
      refine z_iload_n dX4_clashesOf_15 rfl ?_
      refine z_callV2p dX4_clashesOf_16 mX4_95 hb.o (c_cwe I L hb hv ho i m h9 hm) (by decide) (Nat.le_of_ble_eq_true rfl) ⟨Nat.le_refl _, Nat.le_refl _⟩ ?_
      refine z_iaddN dX4_clashesOf_19 ?_
      refine z_ist2 dX4_clashesOf_20 rfl ?_
      refine z_iincN3 (n := 1) dX4_clashesOf_21 rfl ?_
      refine z_goto (tgt := 4) dX4_clashesOf_24 (by decide) ?_
      exact ih (i + 1) (by omega) (by omega)
set_option maxRecDepth 100000 in
set_option maxHeartbeats 4000000 in
theorem c_clashesOf {S : zS} {R : zMR} (I : zMI) (L : zML) {b D st cl : Nat} {ps : List Pc} (hb : zPcs S R b) (hv : zPC I b ps D st cl) (ho : psOk ps) (m : Nat) (hm : m < 2147483648) : zM0 yX4_clashesOf cX4_clashesOf 4 (some .int) 3 [.ref b, .int (nI m)] S I L R (zPure I L (nI (clashes ps D m))) := by
  refine zM0_of (own := RX4) (lv := [some (.ref b), some (.int (nI m)), none, none]) rfl (by decide) rfl rfl ?_
  refine z_iconst (nI 0) dX4_clashesOf_0 (by decide) ?_
  refine z_ist2 dX4_clashesOf_1 rfl ?_
  refine z_iconst (nI 0) dX4_clashesOf_2 (by decide) ?_
  refine z_ist3 dX4_clashesOf_3 rfl ?_
  exact clashesOf_loop I L hb hv ho m hm (ps.length + 1) 0 (by omega) (by omega)
set_option maxRecDepth 100000 in
set_option maxHeartbeats 4000000 in
theorem stitchesOf_loop {S : zS} {R : zMR} (I : zMI) (L : zML) {b D st cl : Nat} {ps : List Pc} (hb : zPcs S R b) (hv : zPC I b ps D st cl) (ho : psOk ps) (m : Nat) (hm : m < 2147483648) : ∀ (n : Nat) (i : Nat), ps.length + 1 ≤ i + n → i ≤ ps.length → zV (zMt RX4 cX4_stitchesOf 4 (some .int) 2) (fun S2 I2 L2 R2 rr => S2 = S ∧ R2 = R ∧ (zPure I L (nI (stitches ps m))) I2 L2 rr) (0, 0) S I L R 4 [some (.ref b), some (.int (nI m)), some (.int (nI (sm i (sE ps m)))), some (.int (nI i))] [] := by
  intro n
  induction n with
  | zero => intro i h1 h2; omega
  | succ n ih =>
    intro i h1 h2
    have hl := ho.1
    have hsb : sm i (sE ps m) ≤ i * 1 := sm_le (fun q hq => sE_le _ _ _)
    have hsb2 : i * 1 ≤ 14 * 1 := Nat.mul_le_mul_right _ (by omega)
    refine z_iload_n dX4_stitchesOf_4 rfl ?_
    refine z_aload_n dX4_stitchesOf_5 rfl ?_
    refine z_geti dX4_stitchesOf_6 fX4_36 hb.o ?_
    refine z_top (hv.1.1) ?_
    refine z_icmp_geNN (tgt := 27) dX4_stitchesOf_9 (by decide) (by omega) (by omega) (fun h9 => ?_) (fun h9 => ?_)
    · have e : i = ps.length := by omega
      subst e
      refine z_iload_n dX4_stitchesOf_27 rfl ?_
      exact z_iret dX4_stitchesOf_28 ⟨Nat.le_refl _, Nat.le_refl _⟩ rfl ⟨rfl, rfl, rfl, rfl, congrArg (fun z => some (Value.int z)) (rfl)⟩
    · refine z_iload_n dX4_stitchesOf_12 rfl ?_
      refine z_aload_n dX4_stitchesOf_13 rfl ?_
      refine z_iload_n dX4_stitchesOf_14 rfl ?_
      refine z_iload_n dX4_stitchesOf_15 rfl ?_
      refine z_callV2p dX4_stitchesOf_16 mX4_99 hb.o (c_swe I L hb hv ho i m h9 hm) (by decide) (Nat.le_of_ble_eq_true rfl) ⟨Nat.le_refl _, Nat.le_refl _⟩ ?_
      refine z_iaddN dX4_stitchesOf_19 ?_
      refine z_ist2 dX4_stitchesOf_20 rfl ?_
      refine z_iincN3 (n := 1) dX4_stitchesOf_21 rfl ?_
      refine z_goto (tgt := 4) dX4_stitchesOf_24 (by decide) ?_
      exact ih (i + 1) (by omega) (by omega)
set_option maxRecDepth 100000 in
set_option maxHeartbeats 4000000 in
theorem c_stitchesOf {S : zS} {R : zMR} (I : zMI) (L : zML) {b D st cl : Nat} {ps : List Pc} (hb : zPcs S R b) (hv : zPC I b ps D st cl) (ho : psOk ps) (m : Nat) (hm : m < 2147483648) : zM0 yX4_stitchesOf cX4_stitchesOf 4 (some .int) 2 [.ref b, .int (nI m)] S I L R (zPure I L (nI (stitches ps m))) := by
  refine zM0_of (own := RX4) (lv := [some (.ref b), some (.int (nI m)), none, none]) rfl (by decide) rfl rfl ?_
  refine z_iconst (nI 0) dX4_stitchesOf_0 (by decide) ?_
  refine z_ist2 dX4_stitchesOf_1 rfl ?_
  refine z_iconst (nI 0) dX4_stitchesOf_2 (by decide) ?_
  refine z_ist3 dX4_stitchesOf_3 rfl ?_
  exact stitchesOf_loop I L hb hv ho m hm (ps.length + 1) 0 (by omega) (by omega)
set_option maxRecDepth 100000 in
set_option maxHeartbeats 4000000 in
theorem c_costOf {S : zS} {R : zMR} (I : zMI) (L : zML) {b D st cl : Nat} {ps : List Pc} (hb : zPcs S R b) (hv : zPC I b ps D st cl) (ho : psOk ps) (m : Nat) (hm : m < 2147483648) : zM0 yX4_costOf cX4_costOf 2 (some .int) 4 [.ref b, .int (nI m)] S I L R (zPure I L (nI (cost ps D st cl m))) := by
  refine zM0_of (own := RX4) (lv := [some (.ref b), some (.int (nI m))]) rfl (by decide) rfl rfl ?_
  refine z_aload_n dX4_costOf_0 rfl ?_
  refine z_geti dX4_costOf_1 fX4_43 hb.o ?_
  refine z_aload_n dX4_costOf_4 rfl ?_
  refine z_iload_n dX4_costOf_5 rfl ?_
  refine z_callV1p dX4_costOf_6 mX4_89 hb.o (c_clashesOf I L hb hv ho m hm) (by decide) (Nat.le_of_ble_eq_true rfl) ⟨Nat.le_refl _, Nat.le_refl _⟩ ?_
  refine z_imul dX4_costOf_9 ?_
  refine z_aload_n dX4_costOf_10 rfl ?_
  refine z_geti dX4_costOf_11 fX4_40 hb.o ?_
  refine z_aload_n dX4_costOf_14 rfl ?_
  refine z_iload_n dX4_costOf_15 rfl ?_
  refine z_callV1p dX4_costOf_16 mX4_92 hb.o (c_stitchesOf I L hb hv ho m hm) (by decide) (Nat.le_of_ble_eq_true rfl) ⟨Nat.le_refl _, Nat.le_refl _⟩ ?_
  refine z_imul dX4_costOf_19 ?_
  refine z_iadd dX4_costOf_20 ?_
  exact z_iret dX4_costOf_21 ⟨Nat.le_refl _, Nat.le_refl _⟩ rfl ⟨rfl, rfl, rfl, rfl, congrArg (fun z => some (Value.int z)) (cost_val hv m)⟩
