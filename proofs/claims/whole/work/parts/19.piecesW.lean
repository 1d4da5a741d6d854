set_option maxRecDepth 100000 in
set_option maxHeartbeats 4000000 in
theorem c_add {S : zS} {R : zMR} (I0 I : zMI) (L : zML) {b o st cl : Nat} {ps : List Pc} {v : Ly} (hb : zPcs S R b) (hob : zLay S R o) (hA : zAd I0 I b ps st cl) (hw : zCLy I o v) (ho : lyOk v) (hd : o + 5 < b ∨ b + 8 < o) {j l r : Nat} {sh : Sh} (hsh : v.1[j]? = some sh) (hlr : l ≤ r) (hc : ps.length < 14) : zM0 yX4_add cX4_add 5 none 2 [.ref b, .ref o, .int (nI j), .int (nI l), .int (nI r)] S I L R (zPv L (fun I2 => zAd I0 I2 b (ps ++ [(j, l, r, sy sh, sy2 sh)]) st cl)) := by
  refine zM0_of (own := RX4) (lv := [some (.ref b), some (.ref o), some (.int (nI j)), some (.int (nI l)), some (.int (nI r))]) rfl (by decide) rfl rfl ?_
  have hl := ho.1
  have hj := getS_lt hsh
  obtain ⟨o1, o2, o3, o4, o5⟩ := ho.sh hsh
  have hhas : has v.1 (nI j).toInt := by rw [nI_T (by omega)]; exact ⟨by omega, by omega⟩
  refine z_aload_n dX4_add_0 rfl ?_
  refine z_geti dX4_add_1 fX4_36 hb.o ?_
  refine z_top ((show _ = nI ps.length from by simp [zu, hA.1.1])) ?_
  refine z_bipush (nI 14) dX4_add_4 (by decide) ?_
  refine z_icmp_geNN (tgt := 17) dX4_add_6 (by decide) (by omega) (by omega) (fun h6 => absurd h6 (by omega)) (fun h6 => ?_)
  refine z_aload_n dX4_add_9 rfl ?_
  refine z_iload_n dX4_add_10 rfl ?_
  refine z_callV1p dX4_add_11 mX4_102 hob.o (c_hasShape I L hob hw ho _) (by decide) (Nat.le_of_ble_eq_true rfl) ⟨Nat.le_refl _, Nat.le_refl _⟩ ?_
  refine z_if_neB (tgt := 18) dX4_add_14 (by decide) (fun h14 => ?_) (fun h14 => absurd h14 (fun q => q hhas))
  refine z_aload_n dX4_add_18 rfl ?_
  refine z_getr dX4_add_19 fX4_9 hb.o hb.r0 ?_
  refine z_aload_n dX4_add_22 rfl ?_
  refine z_geti dX4_add_23 fX4_36 hb.o ?_
  refine z_top ((show _ = nI ps.length from by simp [zu, hA.1.1])) ?_
  refine z_iload_n dX4_add_26 rfl ?_
  refine z_isN dX4_add_27 hb.a0 (by omega) (by decide) ?_
  refine z_aload_n dX4_add_28 rfl ?_
  refine z_getr dX4_add_29 fX4_15 hb.o hb.r1 ?_
  refine z_aload_n dX4_add_32 rfl ?_
  refine z_geti dX4_add_33 fX4_36 hb.o ?_
  refine z_top ((show _ = nI ps.length from by simp [zu, hA.1.1])) ?_
  refine z_iload_n dX4_add_36 rfl ?_
  refine z_isN dX4_add_37 hb.a1 (by omega) (by decide) ?_
  refine z_aload_n dX4_add_38 rfl ?_
  refine z_getr dX4_add_39 fX4_18 hb.o hb.r2 ?_
  refine z_aload_n dX4_add_42 rfl ?_
  refine z_geti dX4_add_43 fX4_36 hb.o ?_
  refine z_top ((show _ = nI ps.length from by simp [zu, hA.1.1])) ?_
  refine z_iload dX4_add_46 rfl ?_
  refine z_isN dX4_add_48 hb.a2 (by omega) (by decide) ?_
  refine z_aload_n dX4_add_49 rfl ?_
  refine z_getr dX4_add_50 fX4_30 hb.o hb.r6 ?_
  refine z_aload_n dX4_add_53 rfl ?_
  refine z_geti dX4_add_54 fX4_36 hb.o ?_
  refine z_top ((show _ = nI ps.length from by simp [zu, hA.1.1])) ?_
  refine z_aload_n dX4_add_57 rfl ?_
  refine z_getr dX4_add_58 fX4_105 hob.o hob.r1 ?_
  refine z_iload_n dX4_add_61 rfl ?_
  refine z_iaN dX4_add_62 hob.a1 (by omega) (by decide) ?_
  refine z_top ((show _ = nI (sy sh) from by rw [zu_nk (Or.inl (by omega)), zu_nk (Or.inl (by omega)), zu_nk (Or.inl (by omega))]; exact (hw.2.1 j sh hsh).2.1)) ?_
  refine z_isN dX4_add_63 hb.a6 (by omega) (by decide) ?_
  refine z_aload_n dX4_add_64 rfl ?_
  refine z_getr dX4_add_65 fX4_33 hb.o hb.r7 ?_
  refine z_aload_n dX4_add_68 rfl ?_
  refine z_geti dX4_add_69 fX4_36 hb.o ?_
  refine z_top ((show _ = nI ps.length from by simp [zu, hA.1.1])) ?_
  refine z_aload_n dX4_add_72 rfl ?_
  refine z_getr dX4_add_73 fX4_106 hob.o hob.r3 ?_
  refine z_iload_n dX4_add_76 rfl ?_
  refine z_iaN dX4_add_77 hob.a3 (by omega) (by decide) ?_
  refine z_top ((show _ = nI (sy2 sh) from by rw [zu_nk (Or.inl (by omega)), zu_nk (Or.inl (by omega)), zu_nk (Or.inl (by omega)), zu_nk (Or.inl (by omega))]; exact (hw.2.1 j sh hsh).2.2.2.1)) ?_
  refine z_isN dX4_add_78 hb.a7 (by omega) (by decide) ?_
  refine z_aload_n dX4_add_79 rfl ?_
  refine z_getr dX4_add_80 fX4_21 hb.o hb.r3 ?_
  refine z_aload_n dX4_add_83 rfl ?_
  refine z_geti dX4_add_84 fX4_36 hb.o ?_
  refine z_top ((show _ = nI ps.length from by simp [zu, hA.1.1])) ?_
  refine z_iload dX4_add_87 rfl ?_
  refine z_iload_n dX4_add_89 rfl ?_
  refine z_isubN dX4_add_90 (by omega) ?_
  refine z_iconst (nI 1) dX4_add_91 (by decide) ?_
  refine z_iaddN dX4_add_92 ?_
  refine z_aload_n dX4_add_93 rfl ?_
  refine z_getr dX4_add_94 fX4_33 hb.o hb.r7 ?_
  refine z_aload_n dX4_add_97 rfl ?_
  refine z_geti dX4_add_98 fX4_36 hb.o ?_
  refine z_top ((show _ = nI ps.length from by simp [zu, hA.1.1])) ?_
  refine z_iaN dX4_add_101 hb.a7 (by omega) (by decide) ?_
  refine z_top ((show _ = nI (sy2 sh) from by simp [zu])) ?_
  refine z_aload_n dX4_add_102 rfl ?_
  refine z_getr dX4_add_103 fX4_30 hb.o hb.r6 ?_
  refine z_aload_n dX4_add_106 rfl ?_
  refine z_geti dX4_add_107 fX4_36 hb.o ?_
  refine z_top ((show _ = nI ps.length from by simp [zu, hA.1.1])) ?_
  refine z_iaN dX4_add_110 hb.a6 (by omega) (by decide) ?_
  refine z_top ((show _ = nI (sy sh) from by simp [zu])) ?_
  refine z_isubN dX4_add_111 (by omega) ?_
  refine z_iconst (nI 1) dX4_add_112 (by decide) ?_
  refine z_iaddN dX4_add_113 ?_
  refine z_imulN dX4_add_114 ?_
  refine z_isN dX4_add_115 hb.a3 (by omega) (by decide) ?_
  refine z_aload_n dX4_add_116 rfl ?_
  refine z_getr dX4_add_117 fX4_24 hb.o hb.r4 ?_
  refine z_aload_n dX4_add_120 rfl ?_
  refine z_geti dX4_add_121 fX4_36 hb.o ?_
  refine z_top ((show _ = nI ps.length from by simp [zu, hA.1.1])) ?_
  refine z_iconst (nI 0) dX4_add_124 (by decide) ?_
  refine z_isN dX4_add_125 hb.a4 (by omega) (by decide) ?_
  refine z_aload_n dX4_add_126 rfl ?_
  refine z_getr dX4_add_127 fX4_27 hb.o hb.r5 ?_
  refine z_aload_n dX4_add_130 rfl ?_
  refine z_geti dX4_add_131 fX4_36 hb.o ?_
  refine z_top ((show _ = nI ps.length from by simp [zu, hA.1.1])) ?_
  refine z_iconst (nI 0) dX4_add_134 (by decide) ?_
  refine z_isN dX4_add_135 hb.a5 (by omega) (by decide) ?_
  refine z_aload_n dX4_add_136 rfl ?_
  refine z_dup dX4_add_137 rfl ?_
  refine z_geti dX4_add_138 fX4_36 hb.o ?_
  refine z_top ((show _ = nI ps.length from by simp [zu, hA.1.1])) ?_
  refine z_iconst (nI 1) dX4_add_141 (by decide) ?_
  refine z_iaddN dX4_add_142 ?_
  refine z_puti dX4_add_143 fX4_36 hb.o ?_
  exact z_ret dX4_add_146 ⟨Nat.le_refl _, Nat.le_refl _⟩ rfl ⟨rfl, rfl, rfl, add_ok hA (j, l, r, sy sh, sy2 sh), rfl⟩
theorem zCat_1 {a b : Option Value} (h : zCat [a, b] = true) : zCat [b] = true := by
  simp only [zCat, List.all_cons, Bool.and_eq_true] at h ⊢
  exact h.2
set_option maxRecDepth 100000 in
set_option maxHeartbeats 4000000 in
theorem link_in {S : zS} {R : zMR} (I : zMI) (L : zML) {b D st cl : Nat} {ps : List Pc} (hb : zPcs S R b) (ho : psOk ps) (hD : D ≤ 8) {p : Nat} : ∀ (n : Nat) (q : Nat) (J : zMI) (a4 a5 : Option Value), ps.length + 1 ≤ q + n → p < q → q ≤ ps.length → zCat [a4, a5] = true → zLI I J b ps D st cl p q → (∀ (J : zMI) (a4 a5 : Option Value), zCat [a4, a5] = true → zLI I J b ps D st cl p ps.length → zV (zMt RX4 cX4_link 6 none 3) (fun S2 I2 L2 R2 rr => S2 = S ∧ R2 = R ∧ (zPv L (fun I2 => zPC I2 b ps D st cl ∧ ∀ p, (p < b ∨ b + 8 < p) → I2 p = I p)) I2 L2 rr) (0, 0) S J L R 142 [some (.ref b), some (.int (nI (D * D))), some (.int (nI p)), some (.int (nI ps.length)), a4, a5] []) → zV (zMt RX4 cX4_link 6 none 3) (fun S2 I2 L2 R2 rr => S2 = S ∧ R2 = R ∧ (zPv L (fun I2 => zPC I2 b ps D st cl ∧ ∀ p, (p < b ∨ b + 8 < p) → I2 p = I p)) I2 L2 rr) (0, 0) S J L R 14 [some (.ref b), some (.int (nI (D * D))), some (.int (nI p)), some (.int (nI q)), a4, a5] [] := by
  intro n
  induction n with
  | zero => intro q J a4 a5 h1 hpq h2 h3 hJ hK; omega
  | succ n ih =>
    intro q J a4 a5 h1 hpq h2 h3 hJ hK
    have hl := ho.1
    refine z_iload_n dX4_link_14 rfl ?_
    refine z_aload_n dX4_link_15 rfl ?_
    refine z_geti dX4_link_16 fX4_36 hb.o ?_
    refine z_top (hJ.1.1) ?_
    refine z_icmp_geNN (tgt := 142) dX4_link_19 (by decide) (by omega) (by omega) (fun h19 => ?_) (fun h19 => ?_)
    · have e : q = ps.length := by omega
      subst e
      exact hK J _ _ h3 hJ
    · have ho1 := ho.at (show p < ps.length from by omega)
      have ho2 := ho.at h19
      obtain ⟨z1, z2, z3, z4, z5⟩ := ho1
      obtain ⟨y1, y2, y3, y4, y5⟩ := ho2
      have hg1 : apt (qx (pg ps p)) (qx2 (pg ps p)) (qx (pg ps q)) (qx2 (pg ps q)) ≤ 15 := apt_le (by omega) (by omega)
      have hg2 : apt (qy (pg ps p)) (qy2 (pg ps p)) (qy (pg ps q)) (qy2 (pg ps q)) ≤ 15 := apt_le (by omega) (by omega)
      have hg3 : gap (pg ps p) (pg ps q) ≤ 15 * 15 + 15 * 15 := Nat.add_le_add (Nat.mul_le_mul hg1 hg1) (Nat.mul_le_mul hg2 hg2)
      have hDD : D * D ≤ 8 * 8 := Nat.mul_le_mul hD hD
      refine z_aload_n dX4_link_22 rfl ?_
      refine z_getr dX4_link_23 fX4_9 hb.o hb.r0 ?_
      refine z_iload_n dX4_link_26 rfl ?_
      refine z_iaN dX4_link_27 hb.a0 (by omega) (by decide) ?_
      refine z_top ((hJ.1.2 p _ (getP (show p < ps.length from by omega))).1) ?_
      refine z_aload_n dX4_link_28 rfl ?_
      refine z_getr dX4_link_29 fX4_9 hb.o hb.r0 ?_
      refine z_iload_n dX4_link_32 rfl ?_
      refine z_iaN dX4_link_33 hb.a0 (by omega) (by decide) ?_
      refine z_top ((hJ.1.2 q _ (getP (show q < ps.length from by omega))).1) ?_
      refine z_icmp_neNN (tgt := 41) dX4_link_34 (by decide) (by omega) (by omega) (fun h34 => ?_) (fun h34 => ?_)
      · refine z_iconst (nI 0) dX4_link_41 (by decide) ?_
        refine z_ist4 dX4_link_42 h3 ?_
        refine z_iload dX4_link_44 rfl ?_
        refine z_if_neN (tgt := 63) dX4_link_46 (by decide) (by omega) (fun h46 => absurd h46 (by decide)) (fun _ => ?_)
        refine z_aload_n dX4_link_49 rfl ?_
        refine z_iload_n dX4_link_50 rfl ?_
        refine z_iload_n dX4_link_51 rfl ?_
        refine z_callV2p dX4_link_52 mX4_107 hb.o (c_gapOf _ L hb hJ.1 ho p q (by omega) (by omega)) (by decide) (Nat.le_of_ble_eq_true rfl) ⟨Nat.le_refl _, Nat.le_refl _⟩ ?_
        refine z_iload_n dX4_link_55 rfl ?_
        refine z_icmp_geNN (tgt := 63) dX4_link_56 (by decide) (by omega) (by omega) (fun h56 => ?_) (fun h56 => ?_)
        · refine z_iconst (nI 0) dX4_link_63 (by decide) ?_
          refine z_ist5 dX4_link_64 (by first | rfl | exact zCat_1 h3) ?_
          refine z_iload dX4_link_66 rfl ?_
          refine z_if_eqN (tgt := 95) dX4_link_68 (by decide) (by omega) (fun _ => ?_) (fun h68 => absurd h68 (by decide))
          refine z_iload dX4_link_95 rfl ?_
          refine z_if_neN (tgt := 112) dX4_link_97 (by decide) (by omega) (fun h97 => absurd h97 (by decide)) (fun _ => ?_)
          refine z_iload dX4_link_100 rfl ?_
          refine z_if_eqN (tgt := 136) dX4_link_102 (by decide) (by omega) (fun _ => ?_) (fun h102 => absurd h102 (by decide))
          refine z_iincN3 (n := 1) dX4_link_136 rfl ?_
          refine z_goto (tgt := 14) dX4_link_139 (by decide) ?_
          first
          | exact ih (q + 1) _ _ _ (by omega) (by omega) (by omega) rfl (zLI_close hpq h19 hl (show clb ps D p q = true from (clb_of (by omega) (by omega)).mpr ⟨h34, h56⟩) hJ rfl rfl rfl rfl) hK
          | exact ih (q + 1) _ _ _ (by omega) (by omega) (by omega) rfl (zLI_link hpq h19 hl (show clb ps D p q = false from Bool.eq_false_iff.mpr (fun z => by have z2 := (clb_of (by omega) (by omega)).mp z; first | exact z2.1 h34 | omega)) (show lkb ps D p q = true from (lkb_of (by omega) (by omega) hpq).mpr (Or.inr ⟨h34, h109⟩)) hJ rfl rfl) hK
          | exact ih (q + 1) _ _ _ (by omega) (by omega) (by omega) rfl (zLI_same hpq h19 hl (show clb ps D p q = false from Bool.eq_false_iff.mpr (fun z => by have z2 := (clb_of (by omega) (by omega)).mp z; first | exact z2.1 h34 | omega)) (show lkb ps D p q = false from Bool.eq_false_iff.mpr (fun z => by have z2 := (lkb_of (by omega) (by omega) hpq).mp z; omega)) hJ) hK
        · refine z_iconst (nI 1) dX4_link_59 (by decide) ?_
          refine z_goto (tgt := 64) dX4_link_60 (by decide) ?_
          refine z_ist5 dX4_link_64 (by first | rfl | exact zCat_1 h3) ?_
          refine z_iload dX4_link_66 rfl ?_
          refine z_if_eqN (tgt := 95) dX4_link_68 (by decide) (by omega) (fun h68 => absurd h68 (by decide)) (fun _ => ?_)
          refine z_aload_n dX4_link_71 rfl ?_
          refine z_getr dX4_link_72 fX4_24 hb.o hb.r4 ?_
          refine z_iload_n dX4_link_75 rfl ?_
          refine z_dup2 dX4_link_76 rfl rfl ?_
          refine z_iaN dX4_link_77 hb.a4 (by omega) (by decide) ?_
          refine z_top ((hJ.2.1 p (by omega)).1) ?_
          refine z_iconst (nI 1) dX4_link_78 (by decide) ?_
          refine z_iload_n dX4_link_79 rfl ?_
          refine z_shl1 dX4_link_80 (by omega) ?_
          refine z_iorN dX4_link_81 ?_
          refine z_isN dX4_link_82 hb.a4 (by omega) (by decide) ?_
          refine z_aload_n dX4_link_83 rfl ?_
          refine z_getr dX4_link_84 fX4_24 hb.o hb.r4 ?_
          refine z_iload_n dX4_link_87 rfl ?_
          refine z_dup2 dX4_link_88 rfl rfl ?_
          refine z_iaN dX4_link_89 hb.a4 (by omega) (by decide) ?_
          refine z_top ((show _ = nI (bm 14 (fun c => clb ps D q c && prc p q q c)) from by rw [zu_nk (Or.inr (by omega))]; exact (hJ.2.1 q (by omega)).1)) ?_
          refine z_iconst (nI 1) dX4_link_90 (by decide) ?_
          refine z_iload_n dX4_link_91 rfl ?_
          refine z_shl1 dX4_link_92 (by omega) ?_
          refine z_iorN dX4_link_93 ?_
          refine z_isN dX4_link_94 hb.a4 (by omega) (by decide) ?_
          refine z_iload dX4_link_95 rfl ?_
          refine z_if_neN (tgt := 112) dX4_link_97 (by decide) (by omega) (fun _ => ?_) (fun h97 => absurd h97 (by decide))
          refine z_aload_n dX4_link_112 rfl ?_
          refine z_getr dX4_link_113 fX4_27 hb.o hb.r5 ?_
          refine z_iload_n dX4_link_116 rfl ?_
          refine z_dup2 dX4_link_117 rfl rfl ?_
          refine z_iaN dX4_link_118 hb.a5 (by omega) (by decide) ?_
          refine z_top ((show _ = nI (bm 14 (fun c => lkb ps D p c && prc p q p c)) from by first | exact (hJ.2.1 p (by omega)).2 | (rw [zu_nk (Or.inl (by omega)), zu_nk (Or.inl (by omega))]; exact (hJ.2.1 p (by omega)).2))) ?_
          refine z_iconst (nI 1) dX4_link_119 (by decide) ?_
          refine z_iload_n dX4_link_120 rfl ?_
          refine z_shl1 dX4_link_121 (by omega) ?_
          refine z_iorN dX4_link_122 ?_
          refine z_isN dX4_link_123 hb.a5 (by omega) (by decide) ?_
          refine z_aload_n dX4_link_124 rfl ?_
          refine z_getr dX4_link_125 fX4_27 hb.o hb.r5 ?_
          refine z_iload_n dX4_link_128 rfl ?_
          refine z_dup2 dX4_link_129 rfl rfl ?_
          refine z_iaN dX4_link_130 hb.a5 (by omega) (by decide) ?_
          refine z_top ((show _ = nI (bm 14 (fun c => lkb ps D q c && prc p q q c)) from by rw [zu_nk (Or.inr (by omega))]; first | exact (hJ.2.1 q (by omega)).2 | (rw [zu_nk (Or.inl (by omega)), zu_nk (Or.inl (by omega))]; exact (hJ.2.1 q (by omega)).2))) ?_
          refine z_iconst (nI 1) dX4_link_131 (by decide) ?_
          refine z_iload_n dX4_link_132 rfl ?_
          refine z_shl1 dX4_link_133 (by omega) ?_
          refine z_iorN dX4_link_134 ?_
          refine z_isN dX4_link_135 hb.a5 (by omega) (by decide) ?_
          refine z_iincN3 (n := 1) dX4_link_136 rfl ?_
          refine z_goto (tgt := 14) dX4_link_139 (by decide) ?_
          first
          | exact ih (q + 1) _ _ _ (by omega) (by omega) (by omega) rfl (zLI_close hpq h19 hl (show clb ps D p q = true from (clb_of (by omega) (by omega)).mpr ⟨h34, h56⟩) hJ rfl rfl rfl rfl) hK
          | exact ih (q + 1) _ _ _ (by omega) (by omega) (by omega) rfl (zLI_link hpq h19 hl (show clb ps D p q = false from Bool.eq_false_iff.mpr (fun z => by have z2 := (clb_of (by omega) (by omega)).mp z; first | exact z2.1 h34 | omega)) (show lkb ps D p q = true from (lkb_of (by omega) (by omega) hpq).mpr (Or.inr ⟨h34, h109⟩)) hJ rfl rfl) hK
          | exact ih (q + 1) _ _ _ (by omega) (by omega) (by omega) rfl (zLI_same hpq h19 hl (show clb ps D p q = false from Bool.eq_false_iff.mpr (fun z => by have z2 := (clb_of (by omega) (by omega)).mp z; first | exact z2.1 h34 | omega)) (show lkb ps D p q = false from Bool.eq_false_iff.mpr (fun z => by have z2 := (lkb_of (by omega) (by omega) hpq).mp z; omega)) hJ) hK
      · refine z_iconst (nI 1) dX4_link_37 (by decide) ?_
        refine z_goto (tgt := 42) dX4_link_38 (by decide) ?_
        refine z_ist4 dX4_link_42 h3 ?_
        refine z_iload dX4_link_44 rfl ?_
        refine z_if_neN (tgt := 63) dX4_link_46 (by decide) (by omega) (fun _ => ?_) (fun h46 => absurd h46 (by decide))
        refine z_iconst (nI 0) dX4_link_63 (by decide) ?_
        refine z_ist5 dX4_link_64 (by first | rfl | exact zCat_1 h3) ?_
        refine z_iload dX4_link_66 rfl ?_
        refine z_if_eqN (tgt := 95) dX4_link_68 (by decide) (by omega) (fun _ => ?_) (fun h68 => absurd h68 (by decide))
        refine z_iload dX4_link_95 rfl ?_
        refine z_if_neN (tgt := 112) dX4_link_97 (by decide) (by omega) (fun h97 => absurd h97 (by decide)) (fun _ => ?_)
        refine z_iload dX4_link_100 rfl ?_
        refine z_if_eqN (tgt := 136) dX4_link_102 (by decide) (by omega) (fun h102 => absurd h102 (by decide)) (fun _ => ?_)
        refine z_iload_n dX4_link_105 rfl ?_
        refine z_iload_n dX4_link_106 rfl ?_
        refine z_iconst (nI 1) dX4_link_107 (by decide) ?_
        refine z_iaddN dX4_link_108 ?_
        refine z_icmp_neNN (tgt := 136) dX4_link_109 (by decide) (by omega) (by omega) (fun h109 => ?_) (fun h109 => ?_)
        · refine z_iincN3 (n := 1) dX4_link_136 rfl ?_
          refine z_goto (tgt := 14) dX4_link_139 (by decide) ?_
          first
          | exact ih (q + 1) _ _ _ (by omega) (by omega) (by omega) rfl (zLI_close hpq h19 hl (show clb ps D p q = true from (clb_of (by omega) (by omega)).mpr ⟨h34, h56⟩) hJ rfl rfl rfl rfl) hK
          | exact ih (q + 1) _ _ _ (by omega) (by omega) (by omega) rfl (zLI_link hpq h19 hl (show clb ps D p q = false from Bool.eq_false_iff.mpr (fun z => by have z2 := (clb_of (by omega) (by omega)).mp z; first | exact z2.1 h34 | omega)) (show lkb ps D p q = true from (lkb_of (by omega) (by omega) hpq).mpr (Or.inr ⟨h34, h109⟩)) hJ rfl rfl) hK
          | exact ih (q + 1) _ _ _ (by omega) (by omega) (by omega) rfl (zLI_same hpq h19 hl (show clb ps D p q = false from Bool.eq_false_iff.mpr (fun z => by have z2 := (clb_of (by omega) (by omega)).mp z; first | exact z2.1 h34 | omega)) (show lkb ps D p q = false from Bool.eq_false_iff.mpr (fun z => by have z2 := (lkb_of (by omega) (by omega) hpq).mp z; omega)) hJ) hK
        · refine z_aload_n dX4_link_112 rfl ?_
          refine z_getr dX4_link_113 fX4_27 hb.o hb.r5 ?_
          refine z_iload_n dX4_link_116 rfl ?_
          refine z_dup2 dX4_link_117 rfl rfl ?_
          refine z_iaN dX4_link_118 hb.a5 (by omega) (by decide) ?_
          refine z_top ((show _ = nI (bm 14 (fun c => lkb ps D p c && prc p q p c)) from by first | exact (hJ.2.1 p (by omega)).2 | (rw [zu_nk (Or.inl (by omega)), zu_nk (Or.inl (by omega))]; exact (hJ.2.1 p (by omega)).2))) ?_
          refine z_iconst (nI 1) dX4_link_119 (by decide) ?_
          refine z_iload_n dX4_link_120 rfl ?_
          refine z_shl1 dX4_link_121 (by omega) ?_
          refine z_iorN dX4_link_122 ?_
          refine z_isN dX4_link_123 hb.a5 (by omega) (by decide) ?_
          refine z_aload_n dX4_link_124 rfl ?_
          refine z_getr dX4_link_125 fX4_27 hb.o hb.r5 ?_
          refine z_iload_n dX4_link_128 rfl ?_
          refine z_dup2 dX4_link_129 rfl rfl ?_
          refine z_iaN dX4_link_130 hb.a5 (by omega) (by decide) ?_
          refine z_top ((show _ = nI (bm 14 (fun c => lkb ps D q c && prc p q q c)) from by rw [zu_nk (Or.inr (by omega))]; first | exact (hJ.2.1 q (by omega)).2 | (rw [zu_nk (Or.inl (by omega)), zu_nk (Or.inl (by omega))]; exact (hJ.2.1 q (by omega)).2))) ?_
          refine z_iconst (nI 1) dX4_link_131 (by decide) ?_
          refine z_iload_n dX4_link_132 rfl ?_
          refine z_shl1 dX4_link_133 (by omega) ?_
          refine z_iorN dX4_link_134 ?_
          refine z_isN dX4_link_135 hb.a5 (by omega) (by decide) ?_
          refine z_iincN3 (n := 1) dX4_link_136 rfl ?_
          refine z_goto (tgt := 14) dX4_link_139 (by decide) ?_
          first
          | exact ih (q + 1) _ _ _ (by omega) (by omega) (by omega) rfl (zLI_close hpq h19 hl (show clb ps D p q = true from (clb_of (by omega) (by omega)).mpr ⟨h34, h56⟩) hJ rfl rfl rfl rfl) hK
          | exact ih (q + 1) _ _ _ (by omega) (by omega) (by omega) rfl (zLI_link hpq h19 hl (show clb ps D p q = false from Bool.eq_false_iff.mpr (fun z => by have z2 := (clb_of (by omega) (by omega)).mp z; first | exact z2.1 h34 | omega)) (show lkb ps D p q = true from (lkb_of (by omega) (by omega) hpq).mpr (Or.inr ⟨h34, h109⟩)) hJ rfl rfl) hK
          | exact ih (q + 1) _ _ _ (by omega) (by omega) (by omega) rfl (zLI_same hpq h19 hl (show clb ps D p q = false from Bool.eq_false_iff.mpr (fun z => by have z2 := (clb_of (by omega) (by omega)).mp z; first | exact z2.1 h34 | omega)) (show lkb ps D p q = false from Bool.eq_false_iff.mpr (fun z => by have z2 := (lkb_of (by omega) (by omega) hpq).mp z; omega)) hJ) hK
theorem zCat_2 {a b : Option Value} {x1 x2 x3 x4 : Value} (h : zCat [a, b] = true) (h1 : x1.category = 1 := by rfl) (h2 : x2.category = 1 := by rfl) (h3 : x3.category = 1 := by rfl) (h4 : x4.category = 1 := by rfl) : zCat [some x1, some x2, some x3, some x4, a, b] = true := by
  simp only [zCat, List.all_cons, Bool.and_eq_true] at h ⊢
  exact ⟨by rw [h1]; rfl, by rw [h2]; rfl, by rw [h3]; rfl, by rw [h4]; rfl, h⟩
theorem zCat_3 {a b c : Option Value} (h : zCat [c] = true) (h2 : zCat [a, b] = true) : zCat [c, a, b] = true := by
  simp only [zCat, List.all_cons, List.all_nil, Bool.and_eq_true, Bool.and_true] at h h2 ⊢
  exact ⟨h, h2⟩
set_option maxRecDepth 100000 in
set_option maxHeartbeats 4000000 in
theorem link_out {S : zS} {R : zMR} (I : zMI) (L : zML) {b D st cl : Nat} {ps : List Pc} (hb : zPcs S R b) (ho : psOk ps) (hD : D ≤ 8) : ∀ (n : Nat) (p : Nat) (J : zMI) (a3 a4 a5 : Option Value), ps.length + 1 ≤ p + n → p ≤ ps.length → zCat [a3] = true → zCat [a4, a5] = true → zLI I J b ps D st cl p (p + 1) → zV (zMt RX4 cX4_link 6 none 3) (fun S2 I2 L2 R2 rr => S2 = S ∧ R2 = R ∧ (zPv L (fun I2 => zPC I2 b ps D st cl ∧ ∀ p, (p < b ∨ b + 8 < p) → I2 p = I p)) I2 L2 rr) (0, 0) S J L R 2 [some (.ref b), some (.int (nI (D * D))), some (.int (nI p)), a3, a4, a5] [] := by
  intro n
  induction n with
  | zero => intro p J a3 a4 a5 h1 h2 h3 h4 hJ; omega
  | succ n ih =>
    intro p J a3 a4 a5 h1 h2 h3 h4 hJ
    have hl := ho.1
    refine z_iload_n dX4_link_2 rfl ?_
    refine z_aload_n dX4_link_3 rfl ?_
    refine z_geti dX4_link_4 fX4_36 hb.o ?_
    refine z_top (hJ.1.1) ?_
    refine z_icmp_geNN (tgt := 148) dX4_link_7 (by decide) (by omega) (by omega) (fun h7 => ?_) (fun h7 => ?_)
    · exact z_ret dX4_link_148 ⟨Nat.le_refl _, Nat.le_refl _⟩ rfl ⟨rfl, rfl, rfl, zLI_end (by omega) hJ, rfl⟩
    · refine z_iload_n dX4_link_10 rfl ?_
      refine z_iconst (nI 1) dX4_link_11 (by decide) ?_
      refine z_iaddN dX4_link_12 ?_
      refine z_ist3 dX4_link_13 (zCat_3 h3 h4) ?_
      refine link_in I L hb ho hD ps.length (p + 1) J a4 a5 (by omega) (by omega) (by omega) h4 hJ (fun J a4 a5 h4 hJ => ?_)
      refine z_iincN2 (n := 1) dX4_link_142 (zCat_2 h4) ?_
      refine z_goto (tgt := 2) dX4_link_145 (by decide) ?_
      exact ih (p + 1) J _ a4 a5 (by omega) (by omega) rfl h4 (zLI_next hJ)
set_option maxRecDepth 100000 in
set_option maxHeartbeats 4000000 in
theorem c_link {S : zS} {R : zMR} (I0 I : zMI) (L : zML) {b D st cl : Nat} {ps : List Pc} (hb : zPcs S R b) (ho : psOk ps) (hD : D ≤ 8) (hA : zAd I0 I b ps st cl) : zM0 yX4_link cX4_link 6 none 3 [.ref b, .int (nI (D * D))] S I L R (zPv L (fun I2 => zPC I2 b ps D st cl ∧ ∀ p, (p < b ∨ b + 8 < p) → I2 p = I0 p)) := by
  refine zM0_of (own := RX4) (lv := [some (.ref b), some (.int (nI (D * D))), none, none, none, none]) rfl (by decide) rfl rfl ?_
  refine z_iconst (nI 0) dX4_link_0 (by decide) ?_
  refine z_ist2 dX4_link_1 rfl ?_
  exact link_out I0 L hb ho hD (ps.length + 1) 0 I none none none (by omega) (by omega) rfl rfl (zLI_0 hA)
