theorem zcp_hI {I : zMI} {a b : Nat} : zcp I a b b = va_cpy (I a) (I b) (nI 0).toNatClampNeg (nI 0).toNatClampNeg (nI 10).toNatClampNeg := by
  rw [show (nI 0).toNatClampNeg = 0 from by decide, show (nI 10).toNatClampNeg = 10 from by decide]
  unfold zcp
  rw [if_pos rfl]
theorem shl15 {a d : Nat} (ha : a < 32768) (hd : d ≤ 15) : a * 2 ^ d < 4294967296 := by
  have h2 : 2 ^ d ≤ 2 ^ 15 := Nat.pow_le_pow_right (by decide) hd
  have h3 : a * 2 ^ d ≤ 32768 * 2 ^ 15 := Nat.mul_le_mul (by omega) h2
  omega
set_option maxRecDepth 100000 in
set_option maxHeartbeats 4000000 in
theorem c_putNew {S : zS} {R : zMR} (I : zMI) (L : zML) {b : Nat} {v : Ly} (hb : zLay S R b) (hv : zCLy I b v) (ho : lyOk v) (x y x2 y2 : Nat) (hf : ¬ full v.1) : zM0 yX2_putNew cX2_putNew 5 none 4 [.ref b, .int (nI x), .int (nI y), .int (nI x2), .int (nI y2)] S I L R (zPv L (fun I2 => zWr I I2 b (lyS v (v.1 ++ [(x, y, x2, y2, [])])))) := by
  refine zM0_of (own := RX2) (lv := [some (.ref b), some (.int (nI x)), some (.int (nI y)), some (.int (nI x2)), some (.int (nI y2))]) rfl (by decide) rfl rfl ?_
  have hlt : v.1.length < 10 := by unfold full at hf; omega
  refine z_aload_n dX2_putNew_0 rfl ?_
  refine z_callV0p dX2_putNew_1 mX2_75 hb.o (c_isFull I L hb hv ho) (by decide) (Nat.le_of_ble_eq_true rfl) ⟨Nat.le_refl _, Nat.le_refl _⟩ ?_
  refine z_if_eqB (tgt := 8) dX2_putNew_4 (by decide) (fun h4 => ?_) (fun h4 => absurd h4 hf)
  refine z_aload_n dX2_putNew_8 rfl ?_
  refine z_getr dX2_putNew_9 fX2_9 hb.o hb.r0 ?_
  refine z_aload_n dX2_putNew_12 rfl ?_
  refine z_geti dX2_putNew_13 fX2_27 hb.o ?_
  refine z_top ((show _ = nI v.1.length from by simp [zu, hv.1])) ?_
  refine z_iload_n dX2_putNew_16 rfl ?_
  refine z_isN dX2_putNew_17 hb.a0 (by omega) (by decide) ?_
  refine z_aload_n dX2_putNew_18 rfl ?_
  refine z_getr dX2_putNew_19 fX2_15 hb.o hb.r1 ?_
  refine z_aload_n dX2_putNew_22 rfl ?_
  refine z_geti dX2_putNew_23 fX2_27 hb.o ?_
  refine z_top ((show _ = nI v.1.length from by simp [zu, hv.1])) ?_
  refine z_iload_n dX2_putNew_26 rfl ?_
  refine z_isN dX2_putNew_27 hb.a1 (by omega) (by decide) ?_
  refine z_aload_n dX2_putNew_28 rfl ?_
  refine z_getr dX2_putNew_29 fX2_18 hb.o hb.r2 ?_
  refine z_aload_n dX2_putNew_32 rfl ?_
  refine z_geti dX2_putNew_33 fX2_27 hb.o ?_
  refine z_top ((show _ = nI v.1.length from by simp [zu, hv.1])) ?_
  refine z_iload_n dX2_putNew_36 rfl ?_
  refine z_isN dX2_putNew_37 hb.a2 (by omega) (by decide) ?_
  refine z_aload_n dX2_putNew_38 rfl ?_
  refine z_getr dX2_putNew_39 fX2_21 hb.o hb.r3 ?_
  refine z_aload_n dX2_putNew_42 rfl ?_
  refine z_geti dX2_putNew_43 fX2_27 hb.o ?_
  refine z_top ((show _ = nI v.1.length from by simp [zu, hv.1])) ?_
  refine z_iload dX2_putNew_46 rfl ?_
  refine z_isN dX2_putNew_48 hb.a3 (by omega) (by decide) ?_
  refine z_aload_n dX2_putNew_49 rfl ?_
  refine z_getr dX2_putNew_50 fX2_24 hb.o hb.r4 ?_
  refine z_aload_n dX2_putNew_53 rfl ?_
  refine z_geti dX2_putNew_54 fX2_27 hb.o ?_
  refine z_top ((show _ = nI v.1.length from by simp [zu, hv.1])) ?_
  refine z_iconst (nI 0) dX2_putNew_57 (by decide) ?_
  refine z_isN dX2_putNew_58 hb.a4 (by omega) (by decide) ?_
  refine z_aload_n dX2_putNew_59 rfl ?_
  refine z_dup dX2_putNew_60 rfl ?_
  refine z_geti dX2_putNew_61 fX2_27 hb.o ?_
  refine z_top ((show _ = nI v.1.length from by simp [zu, hv.1])) ?_
  refine z_iconst (nI 1) dX2_putNew_64 (by decide) ?_
  refine z_iaddN dX2_putNew_65 ?_
  refine z_puti dX2_putNew_66 fX2_27 hb.o ?_
  exact z_ret dX2_putNew_69 ⟨Nat.le_refl _, Nat.le_refl _⟩ rfl ⟨rfl, rfl, rfl, putNew_ok hv x y x2 y2, rfl⟩
set_option maxRecDepth 100000 in
set_option maxHeartbeats 4000000 in
theorem takeAway_loop {S : zS} {R : zMR} (I : zMI) (L : zML) {b : Nat} {v : Ly} (hb : zLay S R b) (hv : zCLy I b v) (ho : lyOk v) {j : Nat} (hj : j < v.1.length) : ∀ (n : Nat) (i : Nat) (J : zMI), v.1.length ≤ i + n → i + 1 ≤ v.1.length → j ≤ i → tkI I J b j i → zV (zMt RX2 cX2_takeAway 3 none 2) (fun S2 I2 L2 R2 rr => S2 = S ∧ R2 = R ∧ (zPv L (fun I2 => zWr I I2 b (lyS v (v.1.eraseIdx j)))) I2 L2 rr) (0, 0) S J L R 11 [some (.ref b), some (.int (nI j)), some (.int (nI i))] [] := by
  intro n
  induction n with
  | zero => intro i J h1 h2 h3 hJ; omega
  | succ n ih =>
    intro i J h1 h2 h3 hJ
    have hl := ho.1
    refine z_iload_n dX2_takeAway_11 rfl ?_
    refine z_iconst (nI 1) dX2_takeAway_12 (by decide) ?_
    refine z_iaddN dX2_takeAway_13 ?_
    refine z_aload_n dX2_takeAway_14 rfl ?_
    refine z_geti dX2_takeAway_15 fX2_27 hb.o ?_
    refine z_top ((show _ = nI v.1.length from by rw [hJ.1]; exact hv.1)) ?_
    refine z_icmp_geNN (tgt := 97) dX2_takeAway_18 (by decide) (by omega) (by omega) (fun h18 => ?_) (fun h18 => ?_)
    · refine z_aload_n dX2_takeAway_97 rfl ?_
      refine z_dup dX2_takeAway_98 rfl ?_
      refine z_geti dX2_takeAway_99 fX2_27 hb.o ?_
      refine z_top ((show _ = nI v.1.length from by rw [hJ.1]; exact hv.1)) ?_
      refine z_iconst (nI 1) dX2_takeAway_102 (by decide) ?_
      refine z_isubN dX2_takeAway_103 (by omega) ?_
      refine z_puti dX2_takeAway_104 fX2_27 hb.o ?_
      have e : i = v.1.length - 1 := by omega
      subst e
      exact z_ret dX2_takeAway_107 ⟨Nat.le_refl _, Nat.le_refl _⟩ rfl ⟨rfl, rfl, rfl, tkI_end hv hj hJ, rfl⟩
    · refine z_aload_n dX2_takeAway_21 rfl ?_
      refine z_getr dX2_takeAway_22 fX2_9 hb.o hb.r0 ?_
      refine z_iload_n dX2_takeAway_25 rfl ?_
      refine z_aload_n dX2_takeAway_26 rfl ?_
      refine z_getr dX2_takeAway_27 fX2_9 hb.o hb.r0 ?_
      refine z_iload_n dX2_takeAway_30 rfl ?_
      refine z_iconst (nI 1) dX2_takeAway_31 (by decide) ?_
      refine z_iaddN dX2_takeAway_32 ?_
      refine z_iaN dX2_takeAway_33 hb.a0 (by omega) (by decide) ?_
      refine z_isN dX2_takeAway_34 hb.a0 (by omega) (by decide) ?_
      refine z_aload_n dX2_takeAway_35 rfl ?_
      refine z_getr dX2_takeAway_36 fX2_15 hb.o hb.r1 ?_
      refine z_iload_n dX2_takeAway_39 rfl ?_
      refine z_aload_n dX2_takeAway_40 rfl ?_
      refine z_getr dX2_takeAway_41 fX2_15 hb.o hb.r1 ?_
      refine z_iload_n dX2_takeAway_44 rfl ?_
      refine z_iconst (nI 1) dX2_takeAway_45 (by decide) ?_
      refine z_iaddN dX2_takeAway_46 ?_
      refine z_iaN dX2_takeAway_47 hb.a1 (by omega) (by decide) ?_
      refine z_top ((show _ = J (b + 2) (i + 1) from by simp [zu])) ?_
      refine z_isN dX2_takeAway_48 hb.a1 (by omega) (by decide) ?_
      refine z_aload_n dX2_takeAway_49 rfl ?_
      refine z_getr dX2_takeAway_50 fX2_18 hb.o hb.r2 ?_
      refine z_iload_n dX2_takeAway_53 rfl ?_
      refine z_aload_n dX2_takeAway_54 rfl ?_
      refine z_getr dX2_takeAway_55 fX2_18 hb.o hb.r2 ?_
      refine z_iload_n dX2_takeAway_58 rfl ?_
      refine z_iconst (nI 1) dX2_takeAway_59 (by decide) ?_
      refine z_iaddN dX2_takeAway_60 ?_
      refine z_iaN dX2_takeAway_61 hb.a2 (by omega) (by decide) ?_
      refine z_top ((show _ = J (b + 3) (i + 1) from by simp [zu])) ?_
      refine z_isN dX2_takeAway_62 hb.a2 (by omega) (by decide) ?_
      refine z_aload_n dX2_takeAway_63 rfl ?_
      refine z_getr dX2_takeAway_64 fX2_21 hb.o hb.r3 ?_
      refine z_iload_n dX2_takeAway_67 rfl ?_
      refine z_aload_n dX2_takeAway_68 rfl ?_
      refine z_getr dX2_takeAway_69 fX2_21 hb.o hb.r3 ?_
      refine z_iload_n dX2_takeAway_72 rfl ?_
      refine z_iconst (nI 1) dX2_takeAway_73 (by decide) ?_
      refine z_iaddN dX2_takeAway_74 ?_
      refine z_iaN dX2_takeAway_75 hb.a3 (by omega) (by decide) ?_
      refine z_top ((show _ = J (b + 4) (i + 1) from by simp [zu])) ?_
      refine z_isN dX2_takeAway_76 hb.a3 (by omega) (by decide) ?_
      refine z_aload_n dX2_takeAway_77 rfl ?_
      refine z_getr dX2_takeAway_78 fX2_24 hb.o hb.r4 ?_
      refine z_iload_n dX2_takeAway_81 rfl ?_
      refine z_aload_n dX2_takeAway_82 rfl ?_
      refine z_getr dX2_takeAway_83 fX2_24 hb.o hb.r4 ?_
      refine z_iload_n dX2_takeAway_86 rfl ?_
      refine z_iconst (nI 1) dX2_takeAway_87 (by decide) ?_
      refine z_iaddN dX2_takeAway_88 ?_
      refine z_iaN dX2_takeAway_89 hb.a4 (by omega) (by decide) ?_
      refine z_top ((show _ = J (b + 5) (i + 1) from by simp [zu])) ?_
      refine z_isN dX2_takeAway_90 hb.a4 (by omega) (by decide) ?_
      refine z_iincN2 (n := 1) dX2_takeAway_91 rfl ?_
      refine z_goto (tgt := 11) dX2_takeAway_94 (by decide) ?_
      exact ih (i + 1) _ (by omega) (by omega) (by omega) (tkI_s h3 hJ)
set_option maxRecDepth 100000 in
set_option maxHeartbeats 4000000 in
theorem c_takeAway {S : zS} {R : zMR} (I : zMI) (L : zML) {b : Nat} {v : Ly} (hb : zLay S R b) (hv : zCLy I b v) (ho : lyOk v) {j : Nat} {sh : Sh} (hsh : v.1[j]? = some sh) : zM0 yX2_takeAway cX2_takeAway 3 none 2 [.ref b, .int (nI j)] S I L R (zPv L (fun I2 => zWr I I2 b (lyS v (v.1.eraseIdx j)))) := by
  refine zM0_of (own := RX2) (lv := [some (.ref b), some (.int (nI j)), none]) rfl (by decide) rfl rfl ?_
  have hl := ho.1
  have hj := getS_lt hsh
  have hso := ho.sh hsh
  obtain ⟨o1, o2, o3, o4, o5⟩ := id hso
  have hhas : has v.1 (nI j).toInt := by rw [nI_T (by have := ho.1; have := getS_lt hsh; omega)]; exact ⟨by omega, by have := getS_lt hsh; omega⟩
  refine z_aload_n dX2_takeAway_0 rfl ?_
  refine z_iload_n dX2_takeAway_1 rfl ?_
  refine z_callV1p dX2_takeAway_2 mX2_61 hb.o (c_hasShape I L hb hv ho _) (by decide) (Nat.le_of_ble_eq_true rfl) ⟨Nat.le_refl _, Nat.le_refl _⟩ ?_
  refine z_if_neB (tgt := 9) dX2_takeAway_5 (by decide) (fun h5 => ?_) (fun h5 => absurd h5 (fun q => q hhas))
  refine z_iload_n dX2_takeAway_9 rfl ?_
  refine z_ist2 dX2_takeAway_10 rfl ?_
  exact takeAway_loop I L hb hv ho hj v.1.length j I (by omega) (by omega) (by omega) (tkI_0 I b j)
set_option maxRecDepth 100000 in
set_option maxHeartbeats 4000000 in
theorem c_step {S : zS} {R : zMR} (I : zMI) (L : zML) {b : Nat} {v : Ly} (hb : zLay S R b) (hv : zCLy I b v) (ho : lyOk v) {j : Nat} {sh : Sh} (hsh : v.1[j]? = some sh) (dx dy : Int32) (h1 : 0 ≤ sx sh + dx.toInt) (h2 : sx2 sh + dx.toInt ≤ 15) (h3 : 0 ≤ sy sh + dy.toInt) (h4 : sy2 sh + dy.toInt ≤ 15) (h5 : -15 ≤ dx.toInt) (h6 : dx.toInt ≤ 15) : zM0 yX2_step cX2_step 4 none 2 [.ref b, .int (nI j), .int dx, .int dy] S I L R (zPv L (fun I2 => zWr I I2 b (lyS v (v.1.set j (mv sh dx.toInt dy.toInt))))) := by
  refine zM0_of (own := RX2) (lv := [some (.ref b), some (.int (nI j)), some (.int dx), some (.int dy)]) rfl (by decide) rfl rfl ?_
  have hl := ho.1
  have hj := getS_lt hsh
  have hso := ho.sh hsh
  obtain ⟨o1, o2, o3, o4, o5⟩ := id hso
  have hhas : has v.1 (nI j).toInt := by rw [nI_T (by have := ho.1; have := getS_lt hsh; omega)]; exact ⟨by omega, by have := getS_lt hsh; omega⟩
  have hc := cm_lt (sc sh)
  refine z_aload_n dX2_step_0 rfl ?_
  refine z_iload_n dX2_step_1 rfl ?_
  refine z_callV1p dX2_step_2 mX2_61 hb.o (c_hasShape I L hb hv ho _) (by decide) (Nat.le_of_ble_eq_true rfl) ⟨Nat.le_refl _, Nat.le_refl _⟩ ?_
  refine z_if_neB (tgt := 9) dX2_step_5 (by decide) (fun h5 => ?_) (fun h5 => absurd h5 (fun q => q hhas))
  refine z_aload_n dX2_step_9 rfl ?_
  refine z_getr dX2_step_10 fX2_9 hb.o hb.r0 ?_
  refine z_iload_n dX2_step_13 rfl ?_
  refine z_dup2 dX2_step_14 rfl rfl ?_
  refine z_iaN dX2_step_15 hb.a0 (by omega) (by decide) ?_
  refine z_top ((hv.2.1 j sh hsh).1) ?_
  refine z_iload_n dX2_step_16 rfl ?_
  refine z_iadd dX2_step_17 ?_
  refine z_top (nI_addI _ _) ?_
  refine z_isN dX2_step_18 hb.a0 (by omega) (by decide) ?_
  refine z_aload_n dX2_step_19 rfl ?_
  refine z_getr dX2_step_20 fX2_15 hb.o hb.r1 ?_
  refine z_iload_n dX2_step_23 rfl ?_
  refine z_dup2 dX2_step_24 rfl rfl ?_
  refine z_iaN dX2_step_25 hb.a1 (by omega) (by decide) ?_
  refine z_top ((show _ = nI (sy sh) from by simp [zu, (hv.2.1 j sh hsh).2.1])) ?_
  refine z_iload_n dX2_step_26 rfl ?_
  refine z_iadd dX2_step_27 ?_
  refine z_top (nI_addI _ _) ?_
  refine z_isN dX2_step_28 hb.a1 (by omega) (by decide) ?_
  refine z_aload_n dX2_step_29 rfl ?_
  refine z_getr dX2_step_30 fX2_18 hb.o hb.r2 ?_
  refine z_iload_n dX2_step_33 rfl ?_
  refine z_dup2 dX2_step_34 rfl rfl ?_
  refine z_iaN dX2_step_35 hb.a2 (by omega) (by decide) ?_
  refine z_top ((show _ = nI (sx2 sh) from by simp [zu, (hv.2.1 j sh hsh).2.2.1])) ?_
  refine z_iload_n dX2_step_36 rfl ?_
  refine z_iadd dX2_step_37 ?_
  refine z_top (nI_addI _ _) ?_
  refine z_isN dX2_step_38 hb.a2 (by omega) (by decide) ?_
  refine z_aload_n dX2_step_39 rfl ?_
  refine z_getr dX2_step_40 fX2_21 hb.o hb.r3 ?_
  refine z_iload_n dX2_step_43 rfl ?_
  refine z_dup2 dX2_step_44 rfl rfl ?_
  refine z_iaN dX2_step_45 hb.a3 (by omega) (by decide) ?_
  refine z_top ((show _ = nI (sy2 sh) from by simp [zu, (hv.2.1 j sh hsh).2.2.2.1])) ?_
  refine z_iload_n dX2_step_46 rfl ?_
  refine z_iadd dX2_step_47 ?_
  refine z_top (nI_addI _ _) ?_
  refine z_isN dX2_step_48 hb.a3 (by omega) (by decide) ?_
  refine z_aload_n dX2_step_49 rfl ?_
  refine z_getr dX2_step_50 fX2_24 hb.o hb.r4 ?_
  refine z_iload_n dX2_step_53 rfl ?_
  refine z_iload_n dX2_step_54 rfl ?_
  refine z_if_lt (tgt := 69) dX2_step_55 (by decide) (fun h55 => ?_) (fun h55 => ?_)
  · obtain ⟨d, hd, hd2⟩ : ∃ d : Nat, d ≤ 15 ∧ dx.toInt = -(d : Int) := ⟨(-dx.toInt).toNat, by omega, by omega⟩
    have hneg : -dx = nI d := by rw [nI_zi, zi_of dx, zi_neg, hd2]; congr 1; omega
    refine z_aload_n dX2_step_69 rfl ?_
    refine z_getr dX2_step_70 fX2_24 hb.o hb.r4 ?_
    refine z_iload_n dX2_step_73 rfl ?_
    refine z_iaN dX2_step_74 hb.a4 (by omega) (by decide) ?_
    refine z_top ((show _ = nI (cm (sc sh)) from by simp [zu, (hv.2.1 j sh hsh).2.2.2.2])) ?_
    refine z_iload_n dX2_step_75 rfl ?_
    refine z_ineg dX2_step_76 ?_
    refine z_top (hneg) ?_
    refine z_ishrN dX2_step_77 (by omega) (by omega) ?_
    refine z_isN dX2_step_78 hb.a4 (by omega) (by decide) ?_
    have hcm : ∀ a : Nat, a ∈ sc sh → sx sh ≤ a ∧ a < sx2 sh := fun a ha => cOk_mem o5 ha
    refine z_ret dX2_step_79 ⟨Nat.le_refl _, Nat.le_refl _⟩ rfl ⟨rfl, rfl, rfl, step_ok hv hsh (by omega) (by omega) (by omega) (by omega) ?_, rfl⟩
    first
    | (rw [cm_shl o5 (by rw [nI_T (by omega)] at h2; omega)]; congr 2; apply List.map_congr_left; intro a ha; rw [nI_T (by omega)]; omega)
    | (rw [cm_shr o5 o2 (by omega)]; congr 2; apply List.map_congr_left; intro a ha; have := hcm a ha; omega)
  · obtain ⟨d, hd, rfl⟩ := nI_of3 (n := 16) h55 (by omega) (by omega)
    refine z_aload_n dX2_step_58 rfl ?_
    refine z_getr dX2_step_59 fX2_24 hb.o hb.r4 ?_
    refine z_iload_n dX2_step_62 rfl ?_
    refine z_iaN dX2_step_63 hb.a4 (by omega) (by decide) ?_
    refine z_top ((show _ = nI (cm (sc sh)) from by simp [zu, (hv.2.1 j sh hsh).2.2.2.2])) ?_
    refine z_iload_n dX2_step_64 rfl ?_
    refine z_ishlN dX2_step_65 (by omega) (shl15 hc (by omega)) ?_
    refine z_goto (tgt := 78) dX2_step_66 (by decide) ?_
    refine z_isN dX2_step_78 hb.a4 (by omega) (by decide) ?_
    have hcm : ∀ a : Nat, a ∈ sc sh → sx sh ≤ a ∧ a < sx2 sh := fun a ha => cOk_mem o5 ha
    refine z_ret dX2_step_79 ⟨Nat.le_refl _, Nat.le_refl _⟩ rfl ⟨rfl, rfl, rfl, step_ok hv hsh (by omega) (by omega) (by omega) (by omega) ?_, rfl⟩
    first
    | (rw [cm_shl o5 (by rw [nI_T (by omega)] at h2; omega)]; congr 2; apply List.map_congr_left; intro a ha; rw [nI_T (by omega)]; omega)
    | (rw [cm_shr o5 o2 (by omega)]; congr 2; apply List.map_congr_left; intro a ha; have := hcm a ha; omega)
set_option maxRecDepth 100000 in
set_option maxHeartbeats 4000000 in
theorem mirror_loop {S : zS} {R : zMR} (I : zMI) (L : zML) {b : Nat} {v : Ly} (hb : zLay S R b) (hv : zCLy I b v) (ho : lyOk v) : ∀ (n : Nat) (i : Nat) (J : zMI) (w2 : Option Value), v.1.length + 1 ≤ i + n → i ≤ v.1.length → zCat [w2] = true → mrI I J b v i → zV (zMt RX2 cX2_mirror 3 none 2) (fun S2 I2 L2 R2 rr => S2 = S ∧ R2 = R ∧ (zPv L (fun I2 => zWr I I2 b (lyS v (v.1.map mir)))) I2 L2 rr) (0, 0) S J L R 2 [some (.ref b), some (.int (nI i)), w2] [] := by
  intro n
  induction n with
  | zero => intro i J w2 h1 h2 hw hJ; omega
  | succ n ih =>
    intro i J w2 h1 h2 hw hJ
    have hl := ho.1
    refine z_iload_n dX2_mirror_2 rfl ?_
    refine z_aload_n dX2_mirror_3 rfl ?_
    refine z_geti dX2_mirror_4 fX2_27 hb.o ?_
    refine z_top ((show _ = nI v.1.length from by rw [hJ.1]; exact hv.1)) ?_
    refine z_icmp_geNN (tgt := 63) dX2_mirror_7 (by decide) (by omega) (by omega) (fun h7 => ?_) (fun h7 => ?_)
    · exact z_ret dX2_mirror_63 ⟨Nat.le_refl _, Nat.le_refl _⟩ rfl ⟨rfl, rfl, rfl, mrI_end hv (by omega) hJ, rfl⟩
    · obtain ⟨sh, hsh⟩ := getS h7
      have hso := ho.sh hsh
      obtain ⟨o1, o2, o3, o4, o5⟩ := id hso
      have hq := hJ.2.2.2.1 i sh hsh
      rw [if_neg (by omega)] at hq
      refine z_aload_n dX2_mirror_10 rfl ?_
      refine z_getr dX2_mirror_11 fX2_9 hb.o hb.r0 ?_
      refine z_iload_n dX2_mirror_14 rfl ?_
      refine z_iaN dX2_mirror_15 hb.a0 (by omega) (by decide) ?_
      refine z_top (hq.1) ?_
      refine z_ist2 dX2_mirror_16 hw ?_
      refine z_aload_n dX2_mirror_17 rfl ?_
      refine z_getr dX2_mirror_18 fX2_9 hb.o hb.r0 ?_
      refine z_iload_n dX2_mirror_21 rfl ?_
      refine z_bipush (nI 15) dX2_mirror_22 (by decide) ?_
      refine z_aload_n dX2_mirror_24 rfl ?_
      refine z_getr dX2_mirror_25 fX2_18 hb.o hb.r2 ?_
      refine z_iload_n dX2_mirror_28 rfl ?_
      refine z_iaN dX2_mirror_29 hb.a2 (by omega) (by decide) ?_
      refine z_top (hq.2.1) ?_
      refine z_isubN dX2_mirror_30 (by omega) ?_
      refine z_isN dX2_mirror_31 hb.a0 (by omega) (by decide) ?_
      refine z_aload_n dX2_mirror_32 rfl ?_
      refine z_getr dX2_mirror_33 fX2_18 hb.o hb.r2 ?_
      refine z_iload_n dX2_mirror_36 rfl ?_
      refine z_bipush (nI 15) dX2_mirror_37 (by decide) ?_
      refine z_iload_n dX2_mirror_39 rfl ?_
      refine z_isubN dX2_mirror_40 (by omega) ?_
      refine z_isN dX2_mirror_41 hb.a2 (by omega) (by decide) ?_
      refine z_aload_n dX2_mirror_42 rfl ?_
      refine z_getr dX2_mirror_43 fX2_24 hb.o hb.r4 ?_
      refine z_iload_n dX2_mirror_46 rfl ?_
      refine z_aload_n dX2_mirror_47 rfl ?_
      refine z_getr dX2_mirror_48 fX2_24 hb.o hb.r4 ?_
      refine z_iload_n dX2_mirror_51 rfl ?_
      refine z_iaN dX2_mirror_52 hb.a4 (by omega) (by decide) ?_
      refine z_top ((show _ = nI (cm (sc sh)) from by simp [zu, hq.2.2])) ?_
      refine z_callS1p dX2_mirror_53 mX2_91 (c_mirrored _ L o5 o2) (by decide) (Nat.le_of_ble_eq_true rfl) ⟨Nat.le_refl _, Nat.le_refl _⟩ ?_
      refine z_isN dX2_mirror_56 hb.a4 (by omega) (by decide) ?_
      refine z_iincN1 (n := 1) dX2_mirror_57 rfl ?_
      refine z_goto (tgt := 2) dX2_mirror_60 (by decide) ?_
      exact ih (i + 1) _ _ (by omega) (by omega) rfl (mrI_s hsh hJ)
set_option maxRecDepth 100000 in
set_option maxHeartbeats 4000000 in
theorem c_mirror {S : zS} {R : zMR} (I : zMI) (L : zML) {b : Nat} {v : Ly} (hb : zLay S R b) (hv : zCLy I b v) (ho : lyOk v) : zM0 yX2_mirror cX2_mirror 3 none 2 [.ref b] S I L R (zPv L (fun I2 => zWr I I2 b (lyS v (v.1.map mir)))) := by
  refine zM0_of (own := RX2) (lv := [some (.ref b), none, none]) rfl (by decide) rfl rfl ?_
  refine z_iconst (nI 0) dX2_mirror_0 (by decide) ?_
  refine z_ist1 dX2_mirror_1 rfl ?_
  exact mirror_loop I L hb hv ho (v.1.length + 1) 0 I none (by omega) (by omega) rfl (mrI_0 hv)
set_option maxRecDepth 100000 in
set_option maxHeartbeats 4000000 in
theorem c_setBound {S : zS} {R : zMR} (I : zMI) (L : zML) {b : Nat} {v : Ly} (hb : zLay S R b) (hv : zCLy I b v) (ho : lyOk v) (w : Int32) (x : Nat) (h0 : 0 ≤ w.toInt) (h2 : w.toInt ≤ 2) : zM0 yX2_setBound cX2_setBound 3 none 1 [.ref b, .int w, .int (nI x)] S I L R (zPv L (fun I2 => zWr I I2 b (lyB v w.toInt x))) := by
  refine zM0_of (own := RX2) (lv := [some (.ref b), some (.int w), some (.int (nI x))]) rfl (by decide) rfl rfl ?_
  refine z_iload_n dX2_setBound_0 rfl ?_
  rcases (show (w.toInt ≠ 0 ∧ w.toInt ≠ 1) ∨ w.toInt = 0 ∨ w.toInt = 1 from by omega) with hq | hq | hq
  · refine z_lsw (tgt := 44) (off := 43) dX2_setBound_1 rfl (by show Op.lookupswitch.offset [(0, 27), (1, 35)] 43 _ = _; simp only [Op.lookupswitch.offset_cons]; rw [if_neg (by omega), if_neg (by omega)]; rfl) (by decide) ?_
    refine z_aload_n dX2_setBound_44 rfl ?_
    refine z_iload_n dX2_setBound_45 rfl ?_
    refine z_puti dX2_setBound_46 fX2_37 hb.o ?_
    have e := setBound_ok hv (w := w.toInt) x h0 h2
    first | rw [hq] at e ⊢ | rw [show w.toInt = 2 from by omega] at e ⊢
    exact z_ret dX2_setBound_49 ⟨Nat.le_refl _, Nat.le_refl _⟩ rfl ⟨rfl, rfl, rfl, e, rfl⟩
  · refine z_lsw (tgt := 28) (off := 27) dX2_setBound_1 rfl (by rw [hq]; rfl) (by decide) ?_
    refine z_aload_n dX2_setBound_28 rfl ?_
    refine z_iload_n dX2_setBound_29 rfl ?_
    refine z_puti dX2_setBound_30 fX2_31 hb.o ?_
    refine z_goto (tgt := 49) dX2_setBound_33 (by decide) ?_
    have e := setBound_ok hv (w := w.toInt) x h0 h2
    first | rw [hq] at e ⊢ | rw [show w.toInt = 2 from by omega] at e ⊢
    exact z_ret dX2_setBound_49 ⟨Nat.le_refl _, Nat.le_refl _⟩ rfl ⟨rfl, rfl, rfl, e, rfl⟩
  · refine z_lsw (tgt := 36) (off := 35) dX2_setBound_1 rfl (by rw [hq]; rfl) (by decide) ?_
    refine z_aload_n dX2_setBound_36 rfl ?_
    refine z_iload_n dX2_setBound_37 rfl ?_
    refine z_puti dX2_setBound_38 fX2_34 hb.o ?_
    refine z_goto (tgt := 49) dX2_setBound_41 (by decide) ?_
    have e := setBound_ok hv (w := w.toInt) x h0 h2
    first | rw [hq] at e ⊢ | rw [show w.toInt = 2 from by omega] at e ⊢
    exact z_ret dX2_setBound_49 ⟨Nat.le_refl _, Nat.le_refl _⟩ rfl ⟨rfl, rfl, rfl, e, rfl⟩
set_option maxRecDepth 100000 in
set_option maxHeartbeats 4000000 in
theorem c_setFixed {S : zS} {R : zMR} (I : zMI) (L : zML) {b : Nat} {v : Ly} (hb : zLay S R b) (hv : zCLy I b v) (ho : lyOk v) (p k : Nat) (hp : p < 14) (hk : k ≤ 2) : zM0 yX2_setFixed cX2_setFixed 4 none 1 [.ref b, .int (nI p), .int (fxv k)] S I L R (zPv L (fun I2 => zWr I I2 b (lyF v (fxs (lfx v) p k)))) := by
  rcases (show k = 0 ∨ k = 1 ∨ k = 2 from by omega) with rfl | rfl | rfl
  · change zM0 _ _ _ _ _ [.ref b, .int (nI p), .int (-1)] _ _ _ _ _
    refine zM0_of (own := RX2) (lv := [some (.ref b), some (.int (nI p)), some (.int (-1)), none]) rfl (by decide) rfl rfl ?_
    refine z_iconst (nI 1) dX2_setFixed_0 (by decide) ?_
    refine z_iload_n dX2_setFixed_1 rfl ?_
    refine z_shl1 dX2_setFixed_2 (by omega) ?_
    refine z_ist3 dX2_setFixed_3 rfl ?_
    refine z_aload_n dX2_setFixed_4 rfl ?_
    refine z_iload_n dX2_setFixed_5 rfl ?_
    refine z_iconst (-1) dX2_setFixed_6 (by decide) ?_
    refine z_icmp_ne (tgt := 21) dX2_setFixed_7 (by decide) (fun h7 => absurd rfl h7) (fun _ => ?_)
    refine z_aload_n dX2_setFixed_10 rfl ?_
    refine z_geti dX2_setFixed_11 fX2_40 hb.o ?_
    refine z_top (hv.2.2.2.2.2.1) ?_
    refine z_iload_n dX2_setFixed_14 rfl ?_
    refine z_iconst (-1) dX2_setFixed_15 (by decide) ?_
    refine z_ixor dX2_setFixed_16 ?_
    refine z_iand dX2_setFixed_17 (z_top (nI_andn _ _) ?_)
    refine z_goto (tgt := 27) dX2_setFixed_18 (by decide) ?_
    refine z_puti dX2_setFixed_27 fX2_40 hb.o ?_
    refine z_aload_n dX2_setFixed_30 rfl ?_
    refine z_iload_n dX2_setFixed_31 rfl ?_
    refine z_iconst (nI 1) dX2_setFixed_32 (by decide) ?_
    refine z_icmp_ne (tgt := 45) dX2_setFixed_33 (by decide) (fun _ => ?_) (fun h33 => absurd h33 (by decide))
    refine z_aload_n dX2_setFixed_45 rfl ?_
    refine z_geti dX2_setFixed_46 fX2_43 hb.o ?_
    refine z_top ((show _ = nI (fo (lfx v)) from by simp [zu, hv.2.2.2.2.2.2])) ?_
    refine z_iload_n dX2_setFixed_49 rfl ?_
    refine z_iconst (-1) dX2_setFixed_50 (by decide) ?_
    refine z_ixor dX2_setFixed_51 ?_
    refine z_iand dX2_setFixed_52 (z_top (nI_andn _ _) ?_)
    refine z_puti dX2_setFixed_53 fX2_43 hb.o ?_
    rw [fm_andn hp, fo_andn (k := 0) hp (by decide)]
    exact z_ret dX2_setFixed_56 ⟨Nat.le_refl _, Nat.le_refl _⟩ rfl ⟨rfl, rfl, rfl, setF_ok hv _, rfl⟩
  · change zM0 _ _ _ _ _ [.ref b, .int (nI p), .int (nI 0)] _ _ _ _ _
    refine zM0_of (own := RX2) (lv := [some (.ref b), some (.int (nI p)), some (.int (nI 0)), none]) rfl (by decide) rfl rfl ?_
    refine z_iconst (nI 1) dX2_setFixed_0 (by decide) ?_
    refine z_iload_n dX2_setFixed_1 rfl ?_
    refine z_shl1 dX2_setFixed_2 (by omega) ?_
    refine z_ist3 dX2_setFixed_3 rfl ?_
    refine z_aload_n dX2_setFixed_4 rfl ?_
    refine z_iload_n dX2_setFixed_5 rfl ?_
    refine z_iconst (-1) dX2_setFixed_6 (by decide) ?_
    refine z_icmp_ne (tgt := 21) dX2_setFixed_7 (by decide) (fun _ => ?_) (fun h7 => absurd h7 (by decide))
    refine z_aload_n dX2_setFixed_21 rfl ?_
    refine z_geti dX2_setFixed_22 fX2_40 hb.o ?_
    refine z_top (hv.2.2.2.2.2.1) ?_
    refine z_iload_n dX2_setFixed_25 rfl ?_
    refine z_iorN dX2_setFixed_26 ?_
    refine z_puti dX2_setFixed_27 fX2_40 hb.o ?_
    refine z_aload_n dX2_setFixed_30 rfl ?_
    refine z_iload_n dX2_setFixed_31 rfl ?_
    refine z_iconst (nI 1) dX2_setFixed_32 (by decide) ?_
    refine z_icmp_ne (tgt := 45) dX2_setFixed_33 (by decide) (fun _ => ?_) (fun h33 => absurd h33 (by decide))
    refine z_aload_n dX2_setFixed_45 rfl ?_
    refine z_geti dX2_setFixed_46 fX2_43 hb.o ?_
    refine z_top ((show _ = nI (fo (lfx v)) from by simp [zu, hv.2.2.2.2.2.2])) ?_
    refine z_iload_n dX2_setFixed_49 rfl ?_
    refine z_iconst (-1) dX2_setFixed_50 (by decide) ?_
    refine z_ixor dX2_setFixed_51 ?_
    refine z_iand dX2_setFixed_52 (z_top (nI_andn _ _) ?_)
    refine z_puti dX2_setFixed_53 fX2_43 hb.o ?_
    rw [fm_or (k := 1) hp (by decide), fo_andn (k := 1) hp (by decide)]
    exact z_ret dX2_setFixed_56 ⟨Nat.le_refl _, Nat.le_refl _⟩ rfl ⟨rfl, rfl, rfl, setF_ok hv _, rfl⟩
  · change zM0 _ _ _ _ _ [.ref b, .int (nI p), .int (nI 1)] _ _ _ _ _
    refine zM0_of (own := RX2) (lv := [some (.ref b), some (.int (nI p)), some (.int (nI 1)), none]) rfl (by decide) rfl rfl ?_
    refine z_iconst (nI 1) dX2_setFixed_0 (by decide) ?_
    refine z_iload_n dX2_setFixed_1 rfl ?_
    refine z_shl1 dX2_setFixed_2 (by omega) ?_
    refine z_ist3 dX2_setFixed_3 rfl ?_
    refine z_aload_n dX2_setFixed_4 rfl ?_
    refine z_iload_n dX2_setFixed_5 rfl ?_
    refine z_iconst (-1) dX2_setFixed_6 (by decide) ?_
    refine z_icmp_ne (tgt := 21) dX2_setFixed_7 (by decide) (fun _ => ?_) (fun h7 => absurd h7 (by decide))
    refine z_aload_n dX2_setFixed_21 rfl ?_
    refine z_geti dX2_setFixed_22 fX2_40 hb.o ?_
    refine z_top (hv.2.2.2.2.2.1) ?_
    refine z_iload_n dX2_setFixed_25 rfl ?_
    refine z_iorN dX2_setFixed_26 ?_
    refine z_puti dX2_setFixed_27 fX2_40 hb.o ?_
    refine z_aload_n dX2_setFixed_30 rfl ?_
    refine z_iload_n dX2_setFixed_31 rfl ?_
    refine z_iconst (nI 1) dX2_setFixed_32 (by decide) ?_
    refine z_icmp_ne (tgt := 45) dX2_setFixed_33 (by decide) (fun h33 => absurd rfl h33) (fun _ => ?_)
    refine z_aload_n dX2_setFixed_36 rfl ?_
    refine z_geti dX2_setFixed_37 fX2_43 hb.o ?_
    refine z_top ((show _ = nI (fo (lfx v)) from by simp [zu, hv.2.2.2.2.2.2])) ?_
    refine z_iload_n dX2_setFixed_40 rfl ?_
    refine z_iorN dX2_setFixed_41 ?_
    refine z_goto (tgt := 53) dX2_setFixed_42 (by decide) ?_
    refine z_puti dX2_setFixed_53 fX2_43 hb.o ?_
    rw [fm_or (k := 2) hp (by decide), fo_or hp]
    exact z_ret dX2_setFixed_56 ⟨Nat.le_refl _, Nat.le_refl _⟩ rfl ⟨rfl, rfl, rfl, setF_ok hv _, rfl⟩
set_option maxRecDepth 100000 in
set_option maxHeartbeats 4000000 in
theorem c_freeAll {S : zS} {R : zMR} (I : zMI) (L : zML) {b : Nat} {v : Ly} (hb : zLay S R b) (hv : zCLy I b v) : zM0 yX2_freeAll cX2_freeAll 1 none 1 [.ref b] S I L R (zPv L (fun I2 => zWr I I2 b (lyF v (fun _ => 0)))) := by
  refine zM0_of (own := RX2) (lv := [some (.ref b)]) rfl (by decide) rfl rfl ?_
  refine z_aload_n dX2_freeAll_0 rfl ?_
  refine z_iconst (nI 0) dX2_freeAll_1 (by decide) ?_
  refine z_puti dX2_freeAll_2 fX2_40 hb.o ?_
  refine z_aload_n dX2_freeAll_5 rfl ?_
  refine z_iconst (nI 0) dX2_freeAll_6 (by decide) ?_
  refine z_puti dX2_freeAll_7 fX2_43 hb.o ?_
  have e1 : fm (fun _ => 0) = 0 := by decide +kernel
  have e2 : fo (fun _ => 0) = 0 := by decide +kernel
  have e := setF_ok hv (fun _ => 0)
  rw [e1, e2] at e
  exact z_ret dX2_freeAll_10 ⟨Nat.le_refl _, Nat.le_refl _⟩ rfl ⟨rfl, rfl, rfl, e, rfl⟩
set_option maxRecDepth 100000 in
set_option maxHeartbeats 4000000 in
theorem c_become {S : zS} {R : zMR} (I : zMI) (L : zML) {b o : Nat} {w : Ly} (hb : zLay S R b) (hob : zLay S R o) (hw : zCLy I o w) (hl : w.1.length ≤ 10) (hd : o + 5 < b ∨ b + 5 < o) : zM0 yX2_become cX2_become 2 none 1 [.ref b, .ref o] S I L R (zPv L (fun I2 => zWr I I2 b w)) := by
  refine zM0_of (own := RX2) (lv := [some (.ref b), some (.ref o)]) rfl (by decide) rfl rfl ?_
  refine z_aload_n dX2_become_0 rfl ?_
  refine z_getr dX2_become_1 fX2_9 hob.o hob.r0 ?_
  refine z_iconst (nI 0) dX2_become_4 (by decide) ?_
  refine z_aload_n dX2_become_5 rfl ?_
  refine z_getr dX2_become_6 fX2_9 hb.o hb.r0 ?_
  refine z_iconst (nI 0) dX2_become_9 (by decide) ?_
  refine z_bipush (nI 10) dX2_become_10 (by decide) ?_
  refine z_copy dX2_become_12 mX2_46_l zCopy_n zCopy_s zCopy_i hob.a0 hb.a0 (by decide) (by decide) (by decide) (by decide) (by decide) (by decide) (Nat.le_of_ble_eq_true rfl) (zcp I (o + 1) (b + 1)) zcp_hI (fun q hq => zcp_ne hq) ?_
  refine z_aload_n dX2_become_15 rfl ?_
  refine z_getr dX2_become_16 fX2_15 hob.o hob.r1 ?_
  refine z_iconst (nI 0) dX2_become_19 (by decide) ?_
  refine z_aload_n dX2_become_20 rfl ?_
  refine z_getr dX2_become_21 fX2_15 hb.o hb.r1 ?_
  refine z_iconst (nI 0) dX2_become_24 (by decide) ?_
  refine z_bipush (nI 10) dX2_become_25 (by decide) ?_
  refine z_copy dX2_become_27 mX2_46_l zCopy_n zCopy_s zCopy_i hob.a1 hb.a1 (by decide) (by decide) (by decide) (by decide) (by decide) (by decide) (Nat.le_of_ble_eq_true rfl) (zcp (zcp I (o + 1) (b + 1)) (o + 2) (b + 2)) zcp_hI (fun q hq => zcp_ne hq) ?_
  refine z_aload_n dX2_become_30 rfl ?_
  refine z_getr dX2_become_31 fX2_18 hob.o hob.r2 ?_
  refine z_iconst (nI 0) dX2_become_34 (by decide) ?_
  refine z_aload_n dX2_become_35 rfl ?_
  refine z_getr dX2_become_36 fX2_18 hb.o hb.r2 ?_
  refine z_iconst (nI 0) dX2_become_39 (by decide) ?_
  refine z_bipush (nI 10) dX2_become_40 (by decide) ?_
  refine z_copy dX2_become_42 mX2_46_l zCopy_n zCopy_s zCopy_i hob.a2 hb.a2 (by decide) (by decide) (by decide) (by decide) (by decide) (by decide) (Nat.le_of_ble_eq_true rfl) (zcp (zcp (zcp I (o + 1) (b + 1)) (o + 2) (b + 2)) (o + 3) (b + 3)) zcp_hI (fun q hq => zcp_ne hq) ?_
  refine z_aload_n dX2_become_45 rfl ?_
  refine z_getr dX2_become_46 fX2_21 hob.o hob.r3 ?_
  refine z_iconst (nI 0) dX2_become_49 (by decide) ?_
  refine z_aload_n dX2_become_50 rfl ?_
  refine z_getr dX2_become_51 fX2_21 hb.o hb.r3 ?_
  refine z_iconst (nI 0) dX2_become_54 (by decide) ?_
  refine z_bipush (nI 10) dX2_become_55 (by decide) ?_
  refine z_copy dX2_become_57 mX2_46_l zCopy_n zCopy_s zCopy_i hob.a3 hb.a3 (by decide) (by decide) (by decide) (by decide) (by decide) (by decide) (Nat.le_of_ble_eq_true rfl) (zcp (zcp (zcp (zcp I (o + 1) (b + 1)) (o + 2) (b + 2)) (o + 3) (b + 3)) (o + 4) (b + 4)) zcp_hI (fun q hq => zcp_ne hq) ?_
  refine z_aload_n dX2_become_60 rfl ?_
  refine z_getr dX2_become_61 fX2_24 hob.o hob.r4 ?_
  refine z_iconst (nI 0) dX2_become_64 (by decide) ?_
  refine z_aload_n dX2_become_65 rfl ?_
  refine z_getr dX2_become_66 fX2_24 hb.o hb.r4 ?_
  refine z_iconst (nI 0) dX2_become_69 (by decide) ?_
  refine z_bipush (nI 10) dX2_become_70 (by decide) ?_
  refine z_copy dX2_become_72 mX2_46_l zCopy_n zCopy_s zCopy_i hob.a4 hb.a4 (by decide) (by decide) (by decide) (by decide) (by decide) (by decide) (Nat.le_of_ble_eq_true rfl) (zcp (zcp (zcp (zcp (zcp I (o + 1) (b + 1)) (o + 2) (b + 2)) (o + 3) (b + 3)) (o + 4) (b + 4)) (o + 5) (b + 5)) zcp_hI (fun q hq => zcp_ne hq) ?_
  obtain ⟨J, hJ⟩ : ∃ J, J = (zcp (zcp (zcp (zcp (zcp I (o + 1) (b + 1)) (o + 2) (b + 2)) (o + 3) (b + 3)) (o + 4) (b + 4)) (o + 5) (b + 5)) := ⟨_, rfl⟩
  rw [← hJ]
  have hJo : J o = I o := by rw [hJ, zcp_ne (by omega), zcp_ne (by omega), zcp_ne (by omega), zcp_ne (by omega), zcp_ne (by omega)]
  refine z_aload_n dX2_become_75 rfl ?_
  refine z_aload_n dX2_become_76 rfl ?_
  refine z_geti dX2_become_77 fX2_27 hob.o ?_
  refine z_top ((show _ = I o 5 from by rw [hJo])) ?_
  refine z_puti dX2_become_80 fX2_27 hb.o ?_
  refine z_aload_n dX2_become_83 rfl ?_
  refine z_aload_n dX2_become_84 rfl ?_
  refine z_geti dX2_become_85 fX2_31 hob.o ?_
  refine z_top ((show _ = I o 6 from by rw [zu_ne (by omega), hJo])) ?_
  refine z_puti dX2_become_88 fX2_31 hb.o ?_
  refine z_aload_n dX2_become_91 rfl ?_
  refine z_aload_n dX2_become_92 rfl ?_
  refine z_geti dX2_become_93 fX2_34 hob.o ?_
  refine z_top ((show _ = I o 7 from by rw [zu_ne (by omega), zu_ne (by omega), hJo])) ?_
  refine z_puti dX2_become_96 fX2_34 hb.o ?_
  refine z_aload_n dX2_become_99 rfl ?_
  refine z_aload_n dX2_become_100 rfl ?_
  refine z_geti dX2_become_101 fX2_37 hob.o ?_
  refine z_top ((show _ = I o 8 from by rw [zu_ne (by omega), zu_ne (by omega), zu_ne (by omega), hJo])) ?_
  refine z_puti dX2_become_104 fX2_37 hb.o ?_
  refine z_aload_n dX2_become_107 rfl ?_
  refine z_aload_n dX2_become_108 rfl ?_
  refine z_geti dX2_become_109 fX2_40 hob.o ?_
  refine z_top ((show _ = I o 9 from by rw [zu_ne (by omega), zu_ne (by omega), zu_ne (by omega), zu_ne (by omega), hJo])) ?_
  refine z_puti dX2_become_112 fX2_40 hb.o ?_
  refine z_aload_n dX2_become_115 rfl ?_
  refine z_aload_n dX2_become_116 rfl ?_
  refine z_geti dX2_become_117 fX2_43 hob.o ?_
  refine z_top ((show _ = I o 10 from by rw [zu_ne (by omega), zu_ne (by omega), zu_ne (by omega), zu_ne (by omega), zu_ne (by omega), hJo])) ?_
  refine z_puti dX2_become_120 fX2_43 hb.o ?_
  exact z_ret dX2_become_123 ⟨Nat.le_refl _, Nat.le_refl _⟩ rfl ⟨rfl, rfl, rfl, become_ok (v := w) hw hl hd hJ, rfl⟩
