theorem setB_ok {I : zMI} {v : Ly} (hv : zMb (I 97) 0 v) (hl : v.1.length ≤ 10) (w x : Nat) (hw : w < 3) : zMb (zu I 97 (61 + w) (nI x) 97) 0 (lyB v w x) := by
  obtain ⟨g0, g1, g2, g3, g4, g5⟩ := hv
  have hf : ∀ z, z ≠ 61 + w → zu I 97 (61 + w) (nI x) 97 z = I 97 z := fun z hz => zu_nk (Or.inr hz)
  have hs : zu I 97 (61 + w) (nI x) 97 (61 + w) = nI x := zu_same
  have e1 : (lyB v w x).1 = v.1 := by unfold lyB; split <;> (try split) <;> rfl
  have e2 : lfx (lyB v w x) = lfx v := by unfold lyB; split <;> (try split) <;> rfl
  refine ⟨by rw [hf 0 (by omega), e1]; exact g0, fun k s hk => ?_, ?_, ?_, ?_, fun p hp => by rw [hf _ (by omega), e2]; exact g5 p hp⟩
  · rw [e1] at hk
    have := getS_lt hk
    exact (g1 k s hk).of (fun j hj => hf _ (by omega))
  · rcases (show w = 0 ∨ w = 1 ∨ w = 2 from by omega) with rfl | rfl | rfl
    · exact hs
    · rw [hf _ (by omega)]; exact g2
    · rw [hf _ (by omega)]; exact g2
  · rcases (show w = 0 ∨ w = 1 ∨ w = 2 from by omega) with rfl | rfl | rfl
    · rw [hf _ (by omega)]; exact g3
    · exact hs
    · rw [hf _ (by omega)]; exact g3
  · rcases (show w = 0 ∨ w = 1 ∨ w = 2 from by omega) with rfl | rfl | rfl
    · rw [hf _ (by omega)]; exact g4
    · rw [hf _ (by omega)]; exact g4
    · exact hs
theorem setF_okM {I : zMI} {v : Ly} (hv : zMb (I 97) 0 v) (hl : v.1.length ≤ 10) (p k : Nat) (hp : p < 14) : zMb (zu I 97 (64 + p) (nI k) 97) 0 (lyF v (fxs (lfx v) p k)) := by
  obtain ⟨g0, g1, g2, g3, g4, g5⟩ := hv
  have hf : ∀ z, z ≠ 64 + p → zu I 97 (64 + p) (nI k) 97 z = I 97 z := fun z hz => zu_nk (Or.inr hz)
  refine ⟨by rw [hf 0 (by omega)]; exact g0, fun i s hi => ?_, by rw [hf _ (by omega)]; exact g2, by rw [hf _ (by omega)]; exact g3, by rw [hf _ (by omega)]; exact g4, fun q hq => ?_⟩
  · have : i < v.1.length := getS_lt hi
    exact (g1 i s hi).of (fun j hj => hf _ (by omega))
  · show _ = nI (fxs (lfx v) p k q)
    unfold fxs
    by_cases e : q = p
    · subst e
      rw [if_pos rfl, Nat.zero_add]
      exact zu_same
    · rw [if_neg e, hf _ (by omega)]
      exact g5 q hq
theorem addI1 {x : Int32} (h : 0 ≤ x.toInt + 1) (h2 : x.toInt ≤ 1000) : x + nI 1 = nI (x.toInt + 1).toNat := by
  rw [← zi_nat h]
  conv => lhs; rw [zi_of x, nI_zi, zi_add]
  rfl
set_option maxRecDepth 100000 in
set_option maxHeartbeats 4000000 in
theorem m_bound {S : zS} {R : zMR} (I : zMI) (L : zML) {s : St} (hM : zMO S R) (hI : zDM I s) (w z : Int32) : zM0 yX6_bound cX6_bound 4 (some .int) 1 [.ref 96, .int w, .int z] S I L R (zPi L (fun I2 r => r = (oBound s w.toInt z.toInt).1 ∧ zDM I2 (oBound s w.toInt z.toInt).2 ∧ ∀ p, p < 96 → I2 p = I p)) := by
  refine zM0_of (own := RX6) (lv := [some (.ref 96), some (.int w), some (.int z), none]) rfl (by decide) rfl rfl ?_
  obtain ⟨hv, ho, hr⟩ := id hI
  have hl := ho.1
  have hnp := ho.2.2.1
  have h8 := hr.2.1
  by_cases hw : 0 ≤ w.toInt ∧ w.toInt ≤ 2
  · rcases (show w.toInt = (0 : Nat) ∨ w.toInt = (1 : Nat) ∨ w.toInt = (2 : Nat) from by omega) with e | e | e
    · rw [toInt_eq e, ← nI_zi]
      have nw : (nI 0).toInt = (0 : Int) := by decide
      refine z_iload_n dX6_bound_0 rfl ?_
      refine z_i2l dX6_bound_1 ?_
      refine z_lconst 0 dX6_bound_2 (by decide) ?_
      refine z_ldc2 dX6_bound_3 kX6_181 ?_
      refine z_callS3p dX6_bound_6 mX6_41 (m_in I L (l_i _) (l := 0) (by decide) (h := 2) (by decide)) (by decide) (Nat.le_of_ble_eq_true rfl) ⟨Nat.le_refl _, Nat.le_refl _⟩ ?_
      refine z_if_eqB (tgt := 53) dX6_bound_9 (by decide) (fun h9 => absurd h9 (fun q => q (by decide))) (fun h9 => ?_)
      refine z_iload_n dX6_bound_12 rfl ?_
      refine z_i2l dX6_bound_13 ?_
      refine z_iload_n dX6_bound_14 rfl ?_
      refine z_if_neN (tgt := 22) dX6_bound_15 (by decide) (by omega) (fun h15 => absurd h15 (by decide)) (fun _ => ?_)
      refine z_lconst 1 dX6_bound_18 (by decide) ?_
      refine z_goto (tgt := 23) dX6_bound_19 (by decide) ?_
      refine z_iload_n dX6_bound_23 rfl ?_
      refine z_if_neN (tgt := 33) dX6_bound_24 (by decide) (by omega) (fun h24 => absurd h24 (by decide)) (fun _ => ?_)
      refine z_ldc2 dX6_bound_27 kX6_183 ?_
      refine z_goto (tgt := 47) dX6_bound_30 (by decide) ?_
      refine z_callS3p dX6_bound_47 mX6_41 (m_in I L (l_i z) (l := 1) (by decide) (h := 8) (by decide)) (by decide) (Nat.le_of_ble_eq_true rfl) ⟨Nat.le_refl _, Nat.le_refl _⟩ ?_
      refine z_if_neB (tgt := 56) dX6_bound_50 (by decide) (fun h50 => ?_) (fun h50 => ?_)
      · obtain ⟨x, hx1, rfl⟩ := nI_of3 (x := z) (n := 100) (by omega) (by omega) (by omega)
        have hxa : (nI x).toInt = (x : Int) := nI_T (by omega)
        have hin2 : inB 0 x := by unfold inB; omega
        have hin : inB (nI 0).toInt (nI x).toInt := by rw [nw, hxa]; exact hin2
        refine z_aload_n dX6_bound_56 rfl ?_
        refine z_getr dX6_bound_57 fX6_7 hM.o hM.r0 ?_
        refine z_bipush (nI 61) dX6_bound_60 (by decide) ?_
        refine z_iload_n dX6_bound_62 rfl ?_
        refine z_iaddN dX6_bound_63 ?_
        refine z_iaN dX6_bound_64 hM.a0 (by omega) (by decide) ?_
        refine z_top ((show _ = nI (lD s.1) from by have := hv.2.2.1; simpa using this)) ?_
        refine z_ist3 dX6_bound_65 rfl ?_
        refine z_aload_n dX6_bound_66 rfl ?_
        refine z_callV0v dX6_bound_67 mX6_143 hM.o (m_note I L hM hv ho hr) (by decide) (Nat.le_of_ble_eq_true rfl) ⟨Nat.le_refl _, Nat.le_refl _⟩ (fun J1 h1 => ?_)
        have hv1 : zMb (J1 97) 0 s.1 := by rw [h1.2.1]; exact hv
        refine z_aload_n dX6_bound_70 rfl ?_
        refine z_getr dX6_bound_71 fX6_7 hM.o hM.r0 ?_
        refine z_bipush (nI 61) dX6_bound_74 (by decide) ?_
        refine z_iload_n dX6_bound_76 rfl ?_
        refine z_iaddN dX6_bound_77 ?_
        refine z_iload_n dX6_bound_78 rfl ?_
        refine z_isN dX6_bound_79 hM.a0 (by omega) (by decide) ?_
        refine z_iload_n dX6_bound_80 rfl ?_
        exact z_iret dX6_bound_81 ⟨Nat.le_refl _, Nat.le_refl _⟩ rfl ⟨rfl, rfl, rfl, _, ⟨by rw [oBound, pif_t hin, nw]; rfl, by rw [oBound, pif_t hin, nw, hxa, Int.toNat_natCast]; exact ⟨setB_ok hv1 hl 0 x (by decide), ho.bound (w := 0) hin2, h1.1.st (stF.rfl.zu)⟩, fun p hp => by rw [zu_ne (by omega), h1.2.2 p (by omega) (by omega)]⟩, rfl⟩
      · refine z_ldc dX6_bound_53 kX6_132 ?_
        exact z_iret dX6_bound_55 ⟨Nat.le_refl _, Nat.le_refl _⟩ rfl ⟨rfl, rfl, rfl, _, ⟨by rw [oBound, pif_f (fun q => h50 (by unfold inB at q; simp only [nw] at q; omega))], by rw [oBound, pif_f (fun q => h50 (by unfold inB at q; simp only [nw] at q; omega))]; exact hI, fun p _ => rfl⟩, rfl⟩
    · rw [toInt_eq e, ← nI_zi]
      have nw : (nI 1).toInt = (1 : Int) := by decide
      refine z_iload_n dX6_bound_0 rfl ?_
      refine z_i2l dX6_bound_1 ?_
      refine z_lconst 0 dX6_bound_2 (by decide) ?_
      refine z_ldc2 dX6_bound_3 kX6_181 ?_
      refine z_callS3p dX6_bound_6 mX6_41 (m_in I L (l_i _) (l := 0) (by decide) (h := 2) (by decide)) (by decide) (Nat.le_of_ble_eq_true rfl) ⟨Nat.le_refl _, Nat.le_refl _⟩ ?_
      refine z_if_eqB (tgt := 53) dX6_bound_9 (by decide) (fun h9 => absurd h9 (fun q => q (by decide))) (fun h9 => ?_)
      refine z_iload_n dX6_bound_12 rfl ?_
      refine z_i2l dX6_bound_13 ?_
      refine z_iload_n dX6_bound_14 rfl ?_
      refine z_if_neN (tgt := 22) dX6_bound_15 (by decide) (by omega) (fun _ => ?_) (fun h15 => absurd h15 (by decide))
      refine z_lconst 0 dX6_bound_22 (by decide) ?_
      refine z_iload_n dX6_bound_23 rfl ?_
      refine z_if_neN (tgt := 33) dX6_bound_24 (by decide) (by omega) (fun _ => ?_) (fun h24 => absurd h24 (by decide))
      refine z_iload_n dX6_bound_33 rfl ?_
      refine z_iconst (nI 1) dX6_bound_34 (by decide) ?_
      refine z_icmp_ne (tgt := 44) dX6_bound_35 (by decide) (fun h35 => absurd rfl h35) (fun _ => ?_)
      refine z_ldc2 dX6_bound_38 kX6_185 ?_
      refine z_goto (tgt := 47) dX6_bound_41 (by decide) ?_
      refine z_callS3p dX6_bound_47 mX6_41 (m_in I L (l_i z) (l := 0) (by decide) (h := 9) (by decide)) (by decide) (Nat.le_of_ble_eq_true rfl) ⟨Nat.le_refl _, Nat.le_refl _⟩ ?_
      refine z_if_neB (tgt := 56) dX6_bound_50 (by decide) (fun h50 => ?_) (fun h50 => ?_)
      · obtain ⟨x, hx1, rfl⟩ := nI_of3 (x := z) (n := 100) (by omega) (by omega) (by omega)
        have hxa : (nI x).toInt = (x : Int) := nI_T (by omega)
        have hin2 : inB 1 x := by unfold inB; omega
        have hin : inB (nI 1).toInt (nI x).toInt := by rw [nw, hxa]; exact hin2
        refine z_aload_n dX6_bound_56 rfl ?_
        refine z_getr dX6_bound_57 fX6_7 hM.o hM.r0 ?_
        refine z_bipush (nI 61) dX6_bound_60 (by decide) ?_
        refine z_iload_n dX6_bound_62 rfl ?_
        refine z_iaddN dX6_bound_63 ?_
        refine z_iaN dX6_bound_64 hM.a0 (by omega) (by decide) ?_
        refine z_top ((show _ = nI (lST s.1) from by have := hv.2.2.2.1; simpa using this)) ?_
        refine z_ist3 dX6_bound_65 rfl ?_
        refine z_aload_n dX6_bound_66 rfl ?_
        refine z_callV0v dX6_bound_67 mX6_143 hM.o (m_note I L hM hv ho hr) (by decide) (Nat.le_of_ble_eq_true rfl) ⟨Nat.le_refl _, Nat.le_refl _⟩ (fun J1 h1 => ?_)
        have hv1 : zMb (J1 97) 0 s.1 := by rw [h1.2.1]; exact hv
        refine z_aload_n dX6_bound_70 rfl ?_
        refine z_getr dX6_bound_71 fX6_7 hM.o hM.r0 ?_
        refine z_bipush (nI 61) dX6_bound_74 (by decide) ?_
        refine z_iload_n dX6_bound_76 rfl ?_
        refine z_iaddN dX6_bound_77 ?_
        refine z_iload_n dX6_bound_78 rfl ?_
        refine z_isN dX6_bound_79 hM.a0 (by omega) (by decide) ?_
        refine z_iload_n dX6_bound_80 rfl ?_
        exact z_iret dX6_bound_81 ⟨Nat.le_refl _, Nat.le_refl _⟩ rfl ⟨rfl, rfl, rfl, _, ⟨by rw [oBound, pif_t hin, nw]; rfl, by rw [oBound, pif_t hin, nw, hxa, Int.toNat_natCast]; exact ⟨setB_ok hv1 hl 1 x (by decide), ho.bound (w := 1) hin2, h1.1.st (stF.rfl.zu)⟩, fun p hp => by rw [zu_ne (by omega), h1.2.2 p (by omega) (by omega)]⟩, rfl⟩
      · refine z_ldc dX6_bound_53 kX6_132 ?_
        exact z_iret dX6_bound_55 ⟨Nat.le_refl _, Nat.le_refl _⟩ rfl ⟨rfl, rfl, rfl, _, ⟨by rw [oBound, pif_f (fun q => h50 (by unfold inB at q; simp only [nw] at q; omega))], by rw [oBound, pif_f (fun q => h50 (by unfold inB at q; simp only [nw] at q; omega))]; exact hI, fun p _ => rfl⟩, rfl⟩
    · rw [toInt_eq e, ← nI_zi]
      have nw : (nI 2).toInt = (2 : Int) := by decide
      refine z_iload_n dX6_bound_0 rfl ?_
      refine z_i2l dX6_bound_1 ?_
      refine z_lconst 0 dX6_bound_2 (by decide) ?_
      refine z_ldc2 dX6_bound_3 kX6_181 ?_
      refine z_callS3p dX6_bound_6 mX6_41 (m_in I L (l_i _) (l := 0) (by decide) (h := 2) (by decide)) (by decide) (Nat.le_of_ble_eq_true rfl) ⟨Nat.le_refl _, Nat.le_refl _⟩ ?_
      refine z_if_eqB (tgt := 53) dX6_bound_9 (by decide) (fun h9 => absurd h9 (fun q => q (by decide))) (fun h9 => ?_)
      refine z_iload_n dX6_bound_12 rfl ?_
      refine z_i2l dX6_bound_13 ?_
      refine z_iload_n dX6_bound_14 rfl ?_
      refine z_if_neN (tgt := 22) dX6_bound_15 (by decide) (by omega) (fun _ => ?_) (fun h15 => absurd h15 (by decide))
      refine z_lconst 0 dX6_bound_22 (by decide) ?_
      refine z_iload_n dX6_bound_23 rfl ?_
      refine z_if_neN (tgt := 33) dX6_bound_24 (by decide) (by omega) (fun _ => ?_) (fun h24 => absurd h24 (by decide))
      refine z_iload_n dX6_bound_33 rfl ?_
      refine z_iconst (nI 1) dX6_bound_34 (by decide) ?_
      refine z_icmp_ne (tgt := 44) dX6_bound_35 (by decide) (fun _ => ?_) (fun h35 => absurd h35 (by decide))
      refine z_ldc2 dX6_bound_44 kX6_187 ?_
      refine z_callS3p dX6_bound_47 mX6_41 (m_in I L (l_i z) (l := 0) (by decide) (h := 99) (by decide)) (by decide) (Nat.le_of_ble_eq_true rfl) ⟨Nat.le_refl _, Nat.le_refl _⟩ ?_
      refine z_if_neB (tgt := 56) dX6_bound_50 (by decide) (fun h50 => ?_) (fun h50 => ?_)
      · obtain ⟨x, hx1, rfl⟩ := nI_of3 (x := z) (n := 100) (by omega) (by omega) (by omega)
        have hxa : (nI x).toInt = (x : Int) := nI_T (by omega)
        have hin2 : inB 2 x := by unfold inB; omega
        have hin : inB (nI 2).toInt (nI x).toInt := by rw [nw, hxa]; exact hin2
        refine z_aload_n dX6_bound_56 rfl ?_
        refine z_getr dX6_bound_57 fX6_7 hM.o hM.r0 ?_
        refine z_bipush (nI 61) dX6_bound_60 (by decide) ?_
        refine z_iload_n dX6_bound_62 rfl ?_
        refine z_iaddN dX6_bound_63 ?_
        refine z_iaN dX6_bound_64 hM.a0 (by omega) (by decide) ?_
        refine z_top ((show _ = nI (lCL s.1) from by have := hv.2.2.2.2.1; simpa using this)) ?_
        refine z_ist3 dX6_bound_65 rfl ?_
        refine z_aload_n dX6_bound_66 rfl ?_
        refine z_callV0v dX6_bound_67 mX6_143 hM.o (m_note I L hM hv ho hr) (by decide) (Nat.le_of_ble_eq_true rfl) ⟨Nat.le_refl _, Nat.le_refl _⟩ (fun J1 h1 => ?_)
        have hv1 : zMb (J1 97) 0 s.1 := by rw [h1.2.1]; exact hv
        refine z_aload_n dX6_bound_70 rfl ?_
        refine z_getr dX6_bound_71 fX6_7 hM.o hM.r0 ?_
        refine z_bipush (nI 61) dX6_bound_74 (by decide) ?_
        refine z_iload_n dX6_bound_76 rfl ?_
        refine z_iaddN dX6_bound_77 ?_
        refine z_iload_n dX6_bound_78 rfl ?_
        refine z_isN dX6_bound_79 hM.a0 (by omega) (by decide) ?_
        refine z_iload_n dX6_bound_80 rfl ?_
        exact z_iret dX6_bound_81 ⟨Nat.le_refl _, Nat.le_refl _⟩ rfl ⟨rfl, rfl, rfl, _, ⟨by rw [oBound, pif_t hin, nw]; rfl, by rw [oBound, pif_t hin, nw, hxa, Int.toNat_natCast]; exact ⟨setB_ok hv1 hl 2 x (by decide), ho.bound (w := 2) hin2, h1.1.st (stF.rfl.zu)⟩, fun p hp => by rw [zu_ne (by omega), h1.2.2 p (by omega) (by omega)]⟩, rfl⟩
      · refine z_ldc dX6_bound_53 kX6_132 ?_
        exact z_iret dX6_bound_55 ⟨Nat.le_refl _, Nat.le_refl _⟩ rfl ⟨rfl, rfl, rfl, _, ⟨by rw [oBound, pif_f (fun q => h50 (by unfold inB at q; simp only [nw] at q; omega))], by rw [oBound, pif_f (fun q => h50 (by unfold inB at q; simp only [nw] at q; omega))]; exact hI, fun p _ => rfl⟩, rfl⟩
  · refine z_iload_n dX6_bound_0 rfl ?_
    refine z_i2l dX6_bound_1 ?_
    refine z_lconst 0 dX6_bound_2 (by decide) ?_
    refine z_ldc2 dX6_bound_3 kX6_181 ?_
    refine z_callS3p dX6_bound_6 mX6_41 (m_in I L (l_i _) (l := 0) (by decide) (h := 2) (by decide)) (by decide) (Nat.le_of_ble_eq_true rfl) ⟨Nat.le_refl _, Nat.le_refl _⟩ ?_
    refine z_if_eqB (tgt := 53) dX6_bound_9 (by decide) (fun h9 => ?_) (fun h9 => absurd h9 hw)
    refine z_ldc dX6_bound_53 kX6_132 ?_
    exact z_iret dX6_bound_55 ⟨Nat.le_refl _, Nat.le_refl _⟩ rfl ⟨rfl, rfl, rfl, _, ⟨by rw [oBound, pif_f (fun q => hw (by unfold inB at q; omega))], by rw [oBound, pif_f (fun q => hw (by unfold inB at q; omega))]; exact hI, fun p _ => rfl⟩, rfl⟩
set_option maxRecDepth 100000 in
set_option maxHeartbeats 4000000 in
theorem m_fix {S : zS} {R : zMR} (I : zMI) (L : zML) {s : St} (hM : zMO S R) (hI : zDM I s) (a m : Int32) : zM0 yX6_fix cX6_fix 3 (some .int) 5 [.ref 96, .int a, .int m] S I L R (zPi L (fun I2 r => r = (oFix s a.toInt m.toInt).1 ∧ zDM I2 (oFix s a.toInt m.toInt).2 ∧ ∀ p, p < 96 → I2 p = I p)) := by
  refine zM0_of (own := RX6) (lv := [some (.ref 96), some (.int a), some (.int m)]) rfl (by decide) rfl rfl ?_
  obtain ⟨hv, ho, hr⟩ := id hI
  have hl := ho.1
  have hnp := ho.2.2.1
  have h8 := hr.2.1
  refine z_iload_n dX6_fix_0 rfl ?_
  refine z_i2l dX6_fix_1 ?_
  refine z_lconst 0 dX6_fix_2 (by decide) ?_
  refine z_aload_n dX6_fix_3 rfl ?_
  refine z_callV0p dX6_fix_4 mX6_121 hM.o (m_manyPieces I L hM hv ho) (by decide) (Nat.le_of_ble_eq_true rfl) ⟨Nat.le_refl _, Nat.le_refl _⟩ ?_
  refine z_iconst (nI 1) dX6_fix_7 (by decide) ?_
  refine z_isub dX6_fix_8 (z_top (nI_subI _ _) ?_)
  refine z_i2l dX6_fix_9 ?_
  refine z_callS3p dX6_fix_10 mX6_41 (m_in I L (l_i a) (l := 0) (by decide) (l_z (z := (np s.1.1 : Int) - (1 : Nat)) (by omega) (by omega))) (by decide) (Nat.le_of_ble_eq_true rfl) ⟨Nat.le_refl _, Nat.le_refl _⟩ ?_
  refine z_if_neB (tgt := 19) dX6_fix_13 (by decide) (fun h13 => ?_) (fun h13 => ?_)
  · obtain ⟨p, hp, rfl⟩ := nI_of3 (x := a) (n := np s.1.1) (by omega) (by omega) (by omega)
    have hpb : (nI p).toInt = (p : Int) := nI_T (by omega)
    have hpa : 0 ≤ (nI p).toInt ∧ (nI p).toInt < np s.1.1 := by omega
    have hfx := ho.2.2.2.2.2.2.2.2.1 p
    refine z_iload_n dX6_fix_19 rfl ?_
    refine z_i2l dX6_fix_20 ?_
    refine z_ldc2 dX6_fix_21 kX6_189 ?_
    refine z_lconst 1 dX6_fix_24 (by decide) ?_
    refine z_callS3p dX6_fix_25 mX6_41 (m_in I L (l_i m) (l := -1) (by decide) (h := 1) (by decide)) (by decide) (Nat.le_of_ble_eq_true rfl) ⟨Nat.le_refl _, Nat.le_refl _⟩ ?_
    refine z_if_neB (tgt := 34) dX6_fix_28 (by decide) (fun h28 => ?_) (fun h28 => ?_)
    · refine z_aload_n dX6_fix_34 rfl ?_
      refine z_getr dX6_fix_35 fX6_7 hM.o hM.r0 ?_
      refine z_bipush (nI 64) dX6_fix_38 (by decide) ?_
      refine z_iload_n dX6_fix_40 rfl ?_
      refine z_iaddN dX6_fix_41 ?_
      refine z_iaN dX6_fix_42 hM.a0 (by omega) (by decide) ?_
      refine z_top ((show _ = nI (lfx s.1 p) from by have := hv.2.2.2.2.2 p (by omega); simpa using this)) ?_
      refine z_iload_n dX6_fix_43 rfl ?_
      refine z_iconst (nI 1) dX6_fix_44 (by decide) ?_
      refine z_iadd dX6_fix_45 ?_
      refine z_top ((addI1 (by omega) (by omega))) ?_
      refine z_icmp_neNN (tgt := 52) dX6_fix_46 (by decide) (by omega) (by omega) (fun h46 => ?_) (fun h46 => ?_)
      · have h46 : ¬ lfx s.1 (nI p).toInt.toNat = (m.toInt + 1).toNat := by rw [hpb, Int.toNat_natCast]; exact h46
        refine z_aload_n dX6_fix_52 rfl ?_
        refine z_callV0v dX6_fix_53 mX6_143 hM.o (m_note I L hM hv ho hr) (by decide) (Nat.le_of_ble_eq_true rfl) ⟨Nat.le_refl _, Nat.le_refl _⟩ (fun J1 h1 => ?_)
        have hv1 : zMb (J1 97) 0 s.1 := by rw [h1.2.1]; exact hv
        have hS := setF_okM hv1 hl p (m.toInt + 1).toNat (by omega)
        have hok := ho.fix hp (show (m.toInt + 1).toNat ≤ 2 from by omega)
        refine z_aload_n dX6_fix_56 rfl ?_
        refine z_getr dX6_fix_57 fX6_7 hM.o hM.r0 ?_
        refine z_bipush (nI 64) dX6_fix_60 (by decide) ?_
        refine z_iload_n dX6_fix_62 rfl ?_
        refine z_iaddN dX6_fix_63 ?_
        refine z_iload_n dX6_fix_64 rfl ?_
        refine z_iconst (nI 1) dX6_fix_65 (by decide) ?_
        refine z_iadd dX6_fix_66 ?_
        refine z_top ((addI1 (by omega) (by omega))) ?_
        refine z_isN dX6_fix_67 hM.a0 (by omega) (by decide) ?_
        refine z_aload_n dX6_fix_68 rfl ?_
        refine z_callV0i dX6_fix_69 mX6_191 hM.o (m_costOfBest _ L hM hS hok) (by decide) (Nat.le_of_ble_eq_true rfl) ⟨Nat.le_refl _, Nat.le_refl _⟩ (fun J2 v2 h2 => ?_)
        exact z_iret dX6_fix_72 ⟨Nat.le_refl _, Nat.le_refl _⟩ rfl ⟨rfl, rfl, rfl, _, ⟨h2.1.trans (by rw [oFix, pif_t hpa, pif_t h28, pif_f h46]; unfold vFix; rw [hpb, Int.toNat_natCast]), by rw [oFix, pif_t hpa, pif_t h28, pif_f h46]; unfold vFix; rw [hpb, Int.toNat_natCast]; exact zDM.frame (s := sPush s _) ⟨hS, hok, h1.1.st (stF.rfl.zu)⟩ h2.2, fun p hp => by rw [h2.2.1 p (by omega), zu_ne (by omega), h1.2.2 p (by omega) (by omega)]⟩, rfl⟩
      · have h46 : lfx s.1 (nI p).toInt.toNat = (m.toInt + 1).toNat := by rw [hpb, Int.toNat_natCast]; exact h46
        refine z_ldc dX6_fix_49 kX6_137 ?_
        exact z_iret dX6_fix_51 ⟨Nat.le_refl _, Nat.le_refl _⟩ rfl ⟨rfl, rfl, rfl, _, ⟨by rw [oFix, pif_t hpa, pif_t h28, pif_t h46], by rw [oFix, pif_t hpa, pif_t h28, pif_t h46]; exact hI, fun p _ => rfl⟩, rfl⟩
    · refine z_ldc dX6_fix_31 kX6_132 ?_
      exact z_iret dX6_fix_33 ⟨Nat.le_refl _, Nat.le_refl _⟩ rfl ⟨rfl, rfl, rfl, _, ⟨by rw [oFix, pif_t hpa, pif_f h28], by rw [oFix, pif_t hpa, pif_f h28]; exact hI, fun p _ => rfl⟩, rfl⟩
  · refine z_ldc dX6_fix_16 kX6_156 ?_
    exact z_iret dX6_fix_18 ⟨Nat.le_refl _, Nat.le_refl _⟩ rfl ⟨rfl, rfl, rfl, _, ⟨by rw [oFix, pif_f (by omega)], by rw [oFix, pif_f (by omega)]; exact hI, fun p _ => rfl⟩, rfl⟩
def tkS (I J : zMI) (v : Ly) (i : Nat) : Prop := zMb (J 97) 0 (lyS v (v.1.take i |>.map mir |>.append (v.1.drop i))) ∧ stF I J
theorem tk_len (v : Ly) (i : Nat) : ((v.1.take i |>.map mir |>.append (v.1.drop i)) : List Sh).length = v.1.length := by
  show (List.map mir (v.1.take i) ++ v.1.drop i).length = _
  rw [List.length_append, List.length_map, ← List.length_append, List.take_append_drop]
theorem tk_get {v : Ly} {i : Nat} {sh : Sh} (h : v.1[i]? = some sh) : ((v.1.take i |>.map mir |>.append (v.1.drop i)) : List Sh)[i]? = some sh := by
  have hi := getS_lt h
  show (List.map mir (v.1.take i) ++ v.1.drop i)[i]? = _
  rw [List.getElem?_append_right (by rw [List.length_map, List.length_take]; omega), List.length_map, List.length_take, List.getElem?_drop, show i + (i - min i v.1.length) = i from by omega]
  exact h
theorem tk_set {v : Ly} {i : Nat} {sh : Sh} (h : v.1[i]? = some sh) : ((v.1.take i |>.map mir |>.append (v.1.drop i)) : List Sh).set i (mir sh) = (v.1.take (i + 1) |>.map mir |>.append (v.1.drop (i + 1))) := by
  have hi := getS_lt h
  show (List.map mir (v.1.take i) ++ v.1.drop i).set i (mir sh) = List.map mir (v.1.take (i + 1)) ++ v.1.drop (i + 1)
  have e : v.1.drop i = sh :: v.1.drop (i + 1) := by
    rw [List.drop_eq_getElem_cons hi]
    congr 1
    rw [List.getElem?_eq_getElem hi] at h
    exact Option.some.inj h
  have e2 : v.1.take (i + 1) = v.1.take i ++ [sh] := by rw [List.take_succ, h]; rfl
  rw [List.set_append_right _ _ (by rw [List.length_map, List.length_take]; omega), List.length_map, List.length_take, show i - min i v.1.length = 0 from by omega, e, List.set_cons_zero, e2, List.map_append, List.append_assoc]
  rfl
theorem mir_c {x x2 : Nat} {c : List Nat} (h : cOk x x2 c) (hx : x2 ≤ 15) : (c2 c = 0 → c2 (mirr c) = 0 ∧ (c1 c = 0 → c1 (mirr c) = 0) ∧ (c1 c ≠ 0 → c1 (mirr c) = 16 - c1 c)) ∧ (c2 c ≠ 0 → c1 c ≠ 0 ∧ 16 - c2 c ≠ 0 ∧ c1 (mirr c) = 16 - c2 c ∧ c2 (mirr c) = 16 - c1 c) := by
  rcases h with rfl | ⟨a, rfl, h1, h2⟩ | ⟨a, b, rfl, h1, h2, h3⟩
  · simp [c1, c2, mirr]
  · simp [c1, c2, mirr]; omega
  · simp [c1, c2, mirr]; omega
set_option maxRecDepth 100000 in
set_option maxHeartbeats 4000000 in
theorem m_turn_l {S : zS} {R : zMR} (I : zMI) (L : zML) {v : Ly} (hM : zMO S R) (hl : v.1.length ≤ 10) (hsO : ∀ s ∈ v.1, shOk s) (hok : lyOk (lyS v (v.1.map mir))) : ∀ (n : Nat) (i : Nat) (J : zMI) (a2 a3 a4 : Option Value), v.1.length + 1 ≤ i + n → i ≤ v.1.length → zCat [a2] = true → zCat [a3] = true → zCat [a4] = true → tkS I J v i → zV (zMt RX6 cX6_turn 5 (some .int) 5) (fun S2 I2 L2 R2 rr => S2 = S ∧ R2 = R ∧ (zPi L (fun I2 r => r = nI (bst (lyS v (v.1.map mir))).1 ∧ ∃ J, zMb (J 97) 0 (lyS v (v.1.map mir)) ∧ stF I J ∧ zMF J I2)) I2 L2 rr) (0, 0) S J L R 10 [some (.ref 96), some (.int (nI i)), a2, a3, a4] [] := by
  intro n
  induction n with
  | zero => intro i J a2 a3 a4 h1 h2 q2 q3 q4 hT; omega
  | succ n ih =>
    intro i J a2 a3 a4 h1 h2 q2 q3 q4 hT
    refine z_iload_n dX6_turn_10 rfl ?_
    refine z_aload_n dX6_turn_11 rfl ?_
    refine z_getr dX6_turn_12 fX6_7 hM.o hM.r0 ?_
    refine z_iconst (nI 0) dX6_turn_15 (by decide) ?_
    refine z_iaN dX6_turn_16 hM.a0 (by omega) (by decide) ?_
    refine z_top ((show _ = nI v.1.length from hT.1.1.trans (congrArg nI (tk_len v i)))) ?_
    refine z_icmp_geNN (tgt := 160) dX6_turn_17 (by decide) (by omega) (by omega) (fun h17 => ?_) (fun h17 => ?_)
    · have e : i = v.1.length := by omega
      subst e
      have hE : zMb (J 97) 0 (lyS v (v.1.map mir)) := by have z := hT.1; rw [List.take_length, List.drop_length] at z; have e3 : (List.map mir v.1).append [] = List.map mir v.1 := List.append_nil _; rw [e3] at z; exact z
      refine z_aload_n dX6_turn_160 rfl ?_
      refine z_callV0i dX6_turn_161 mX6_191 hM.o (m_costOfBest J L hM hE hok) (by decide) (Nat.le_of_ble_eq_true rfl) ⟨Nat.le_refl _, Nat.le_refl _⟩ (fun J9 v9 h9 => ?_)
      exact z_iret dX6_turn_164 ⟨Nat.le_refl _, Nat.le_refl _⟩ rfl ⟨rfl, rfl, rfl, _, ⟨h9.1, J, hE, hT.2, h9.2⟩, rfl⟩
    · obtain ⟨sh, hsh⟩ := getS h17
      obtain ⟨o1, o2, o3, o4, o5⟩ := id (hsO sh (List.mem_of_getElem? hsh))
      obtain ⟨f0, f1, f2, f3, f4, f5⟩ := mSh0 (hT.1.2.1 i sh (tk_get hsh))
      obtain ⟨b1, b2⟩ := c1_le o5 o2
      have mc := mir_c o5 o2
      refine z_iconst (nI 1) dX6_turn_20 (by decide) ?_
      refine z_bipush (nI 6) dX6_turn_21 (by decide) ?_
      refine z_iload_n dX6_turn_23 rfl ?_
      refine z_imulN dX6_turn_24 ?_
      refine z_iaddN dX6_turn_25 ?_
      refine z_ist2 dX6_turn_26 (by repeat first | rfl | assumption | refine zCat_s ?_ | refine zCat_a ?_ ?_) ?_
      refine z_aload_n dX6_turn_27 rfl ?_
      refine z_getr dX6_turn_28 fX6_7 hM.o hM.r0 ?_
      refine z_iload_n dX6_turn_31 rfl ?_
      refine z_iconst (nI 4) dX6_turn_32 (by decide) ?_
      refine z_iaddN dX6_turn_33 ?_
      refine z_iaN dX6_turn_34 hM.a0 (by omega) (by decide) ?_
      refine z_top (f4) ?_
      refine z_if_leN (tgt := 52) dX6_turn_35 (by decide) (by omega) (fun h35 => ?_) (fun h35 => ?_)
      · have ga := h35
        refine z_iconst (nI 0) dX6_turn_52 (by decide) ?_
        refine z_ist3 dX6_turn_53 (by repeat first | rfl | assumption | refine zCat_s ?_ | refine zCat_a ?_ ?_) ?_
        refine z_aload_n dX6_turn_54 rfl ?_
        refine z_getr dX6_turn_55 fX6_7 hM.o hM.r0 ?_
        refine z_iload_n dX6_turn_58 rfl ?_
        refine z_iconst (nI 5) dX6_turn_59 (by decide) ?_
        refine z_iaddN dX6_turn_60 ?_
        refine z_iaN dX6_turn_61 hM.a0 (by omega) (by decide) ?_
        refine z_top (f5) ?_
        refine z_if_leN (tgt := 79) dX6_turn_62 (by decide) (by omega) (fun h62 => ?_) (fun h62 => ?_)
        · have gb := h62
          refine z_iconst (nI 0) dX6_turn_79 (by decide) ?_
          refine z_ist4 dX6_turn_80 (by repeat first | rfl | assumption | refine zCat_s ?_ | refine zCat_a ?_ ?_) ?_
          refine z_aload_n dX6_turn_82 rfl ?_
          refine z_iload_n dX6_turn_83 rfl ?_
          refine z_bipush (nI 15) dX6_turn_84 (by decide) ?_
          refine z_aload_n dX6_turn_86 rfl ?_
          refine z_iload_n dX6_turn_87 rfl ?_
          refine z_iconst (nI 2) dX6_turn_88 (by decide) ?_
          refine z_callV2p dX6_turn_89 mX6_45 hM.o (m_part J L hM i 2 (by omega) (by omega)) (by decide) (Nat.le_of_ble_eq_true rfl) ⟨Nat.le_refl _, Nat.le_refl _⟩ ?_
          refine z_top (f2) ?_
          refine z_isubN dX6_turn_92 (by omega) ?_
          refine z_aload_n dX6_turn_93 rfl ?_
          refine z_iload_n dX6_turn_94 rfl ?_
          refine z_iconst (nI 1) dX6_turn_95 (by decide) ?_
          refine z_callV2p dX6_turn_96 mX6_45 hM.o (m_part J L hM i 1 (by omega) (by omega)) (by decide) (Nat.le_of_ble_eq_true rfl) ⟨Nat.le_refl _, Nat.le_refl _⟩ ?_
          refine z_top (f1) ?_
          refine z_bipush (nI 15) dX6_turn_99 (by decide) ?_
          refine z_aload_n dX6_turn_101 rfl ?_
          refine z_iload_n dX6_turn_102 rfl ?_
          refine z_iconst (nI 0) dX6_turn_103 (by decide) ?_
          refine z_callV2p dX6_turn_104 mX6_45 hM.o (m_part J L hM i 0 (by omega) (by omega)) (by decide) (Nat.le_of_ble_eq_true rfl) ⟨Nat.le_refl _, Nat.le_refl _⟩ ?_
          refine z_top (f0) ?_
          refine z_isubN dX6_turn_107 (by omega) ?_
          refine z_aload_n dX6_turn_108 rfl ?_
          refine z_iload_n dX6_turn_109 rfl ?_
          refine z_iconst (nI 3) dX6_turn_110 (by decide) ?_
          refine z_callV2p dX6_turn_111 mX6_45 hM.o (m_part J L hM i 3 (by omega) (by omega)) (by decide) (Nat.le_of_ble_eq_true rfl) ⟨Nat.le_refl _, Nat.le_refl _⟩ ?_
          refine z_top (f3) ?_
          refine z_callV5v dX6_turn_114 mX6_124 hM.o (m_put J L hM i (by omega) _ _ _ _) (by decide) (Nat.le_of_ble_eq_true rfl) ⟨Nat.le_refl _, Nat.le_refl _⟩ (fun J2 hJ => ?_)
          refine z_aload_n dX6_turn_117 rfl ?_
          refine z_getr dX6_turn_118 fX6_7 hM.o hM.r0 ?_
          refine z_iload_n dX6_turn_121 rfl ?_
          refine z_iconst (nI 4) dX6_turn_122 (by decide) ?_
          refine z_iaddN dX6_turn_123 ?_
          refine z_iload dX6_turn_124 rfl ?_
          refine z_if_leN (tgt := 134) dX6_turn_126 (by decide) (by omega) (fun _ => ?_) (fun h126 => absurd h126 (by decide))
          refine z_iload_n dX6_turn_134 rfl ?_
          refine z_isN dX6_turn_135 hM.a0 (by omega) (by decide) ?_
          refine z_aload_n dX6_turn_136 rfl ?_
          refine z_getr dX6_turn_137 fX6_7 hM.o hM.r0 ?_
          refine z_iload_n dX6_turn_140 rfl ?_
          refine z_iconst (nI 5) dX6_turn_141 (by decide) ?_
          refine z_iaddN dX6_turn_142 ?_
          refine z_iload dX6_turn_143 rfl ?_
          refine z_if_leN (tgt := 152) dX6_turn_145 (by decide) (by omega) (fun _ => ?_) (fun h145 => absurd h145 (by decide))
          refine z_iconst (nI 0) dX6_turn_152 (by decide) ?_
          refine z_isN dX6_turn_153 hM.a0 (by omega) (by decide) ?_
          refine z_iincN1 (n := 1) dX6_turn_154 (by repeat first | rfl | assumption | refine zCat_s ?_ | refine zCat_a ?_ ?_) ?_
          refine z_goto (tgt := 10) dX6_turn_157 (by decide) ?_
          have hS := set6_ok (a4 := nI 0) (a5 := nI 0) hT.1 (k := i) (by show i < ((v.1.take i |>.map mir |>.append (v.1.drop i)) : List Sh).length; rw [tk_len]; omega) (by show ((v.1.take i |>.map mir |>.append (v.1.drop i)) : List Sh).length ≤ 10; rw [tk_len]; omega) (mir sh) rfl rfl rfl rfl (congrArg nI (by show _ = c1 (mirr (sc sh)); omega)) (congrArg nI (by show _ = c2 (mirr (sc sh)); omega))
          refine ih (i + 1) _ _ _ _ (by omega) (by omega) rfl rfl rfl ⟨?_, ?_⟩
          · have hS2 : zMb _ 0 (lyS v (((v.1.take i |>.map mir |>.append (v.1.drop i)) : List Sh).set i (mir sh))) := hS
            rw [tk_set hsh] at hS2
            subst hJ
            exact hS2
          · subst hJ
            exact (((((hT.2.zu).zu).zu).zu).zu).zu
        · have gb := h62
          refine z_bipush (nI 16) dX6_turn_65 (by decide) ?_
          refine z_aload_n dX6_turn_67 rfl ?_
          refine z_getr dX6_turn_68 fX6_7 hM.o hM.r0 ?_
          refine z_iload_n dX6_turn_71 rfl ?_
          refine z_iconst (nI 5) dX6_turn_72 (by decide) ?_
          refine z_iaddN dX6_turn_73 ?_
          refine z_iaN dX6_turn_74 hM.a0 (by omega) (by decide) ?_
          refine z_top (f5) ?_
          refine z_isubN dX6_turn_75 (by omega) ?_
          refine z_goto (tgt := 80) dX6_turn_76 (by decide) ?_
          refine z_ist4 dX6_turn_80 (by repeat first | rfl | assumption | refine zCat_s ?_ | refine zCat_a ?_ ?_) ?_
          refine z_aload_n dX6_turn_82 rfl ?_
          refine z_iload_n dX6_turn_83 rfl ?_
          refine z_bipush (nI 15) dX6_turn_84 (by decide) ?_
          refine z_aload_n dX6_turn_86 rfl ?_
          refine z_iload_n dX6_turn_87 rfl ?_
          refine z_iconst (nI 2) dX6_turn_88 (by decide) ?_
          refine z_callV2p dX6_turn_89 mX6_45 hM.o (m_part J L hM i 2 (by omega) (by omega)) (by decide) (Nat.le_of_ble_eq_true rfl) ⟨Nat.le_refl _, Nat.le_refl _⟩ ?_
          refine z_top (f2) ?_
          refine z_isubN dX6_turn_92 (by omega) ?_
          refine z_aload_n dX6_turn_93 rfl ?_
          refine z_iload_n dX6_turn_94 rfl ?_
          refine z_iconst (nI 1) dX6_turn_95 (by decide) ?_
          refine z_callV2p dX6_turn_96 mX6_45 hM.o (m_part J L hM i 1 (by omega) (by omega)) (by decide) (Nat.le_of_ble_eq_true rfl) ⟨Nat.le_refl _, Nat.le_refl _⟩ ?_
          refine z_top (f1) ?_
          refine z_bipush (nI 15) dX6_turn_99 (by decide) ?_
          refine z_aload_n dX6_turn_101 rfl ?_
          refine z_iload_n dX6_turn_102 rfl ?_
          refine z_iconst (nI 0) dX6_turn_103 (by decide) ?_
          refine z_callV2p dX6_turn_104 mX6_45 hM.o (m_part J L hM i 0 (by omega) (by omega)) (by decide) (Nat.le_of_ble_eq_true rfl) ⟨Nat.le_refl _, Nat.le_refl _⟩ ?_
          refine z_top (f0) ?_
          refine z_isubN dX6_turn_107 (by omega) ?_
          refine z_aload_n dX6_turn_108 rfl ?_
          refine z_iload_n dX6_turn_109 rfl ?_
          refine z_iconst (nI 3) dX6_turn_110 (by decide) ?_
          refine z_callV2p dX6_turn_111 mX6_45 hM.o (m_part J L hM i 3 (by omega) (by omega)) (by decide) (Nat.le_of_ble_eq_true rfl) ⟨Nat.le_refl _, Nat.le_refl _⟩ ?_
          refine z_top (f3) ?_
          refine z_callV5v dX6_turn_114 mX6_124 hM.o (m_put J L hM i (by omega) _ _ _ _) (by decide) (Nat.le_of_ble_eq_true rfl) ⟨Nat.le_refl _, Nat.le_refl _⟩ (fun J2 hJ => ?_)
          refine z_aload_n dX6_turn_117 rfl ?_
          refine z_getr dX6_turn_118 fX6_7 hM.o hM.r0 ?_
          refine z_iload_n dX6_turn_121 rfl ?_
          refine z_iconst (nI 4) dX6_turn_122 (by decide) ?_
          refine z_iaddN dX6_turn_123 ?_
          refine z_iload dX6_turn_124 rfl ?_
          refine z_if_leN (tgt := 134) dX6_turn_126 (by decide) (by omega) (fun h126 => ?_) (fun h126 => ?_)
          · have gc := h126
            refine z_iload_n dX6_turn_134 rfl ?_
            refine z_isN dX6_turn_135 hM.a0 (by omega) (by decide) ?_
            refine z_aload_n dX6_turn_136 rfl ?_
            refine z_getr dX6_turn_137 fX6_7 hM.o hM.r0 ?_
            refine z_iload_n dX6_turn_140 rfl ?_
            refine z_iconst (nI 5) dX6_turn_141 (by decide) ?_
            refine z_iaddN dX6_turn_142 ?_
            refine z_iload dX6_turn_143 rfl ?_
            refine z_if_leN (tgt := 152) dX6_turn_145 (by decide) (by omega) (fun h145 => ?_) (fun h145 => ?_)
            · have gd := h145
              refine z_iconst (nI 0) dX6_turn_152 (by decide) ?_
              refine z_isN dX6_turn_153 hM.a0 (by omega) (by decide) ?_
              refine z_iincN1 (n := 1) dX6_turn_154 (by repeat first | rfl | assumption | refine zCat_s ?_ | refine zCat_a ?_ ?_) ?_
              refine z_goto (tgt := 10) dX6_turn_157 (by decide) ?_
              have hS := set6_ok (a4 := nI 0) (a5 := nI 0) hT.1 (k := i) (by show i < ((v.1.take i |>.map mir |>.append (v.1.drop i)) : List Sh).length; rw [tk_len]; omega) (by show ((v.1.take i |>.map mir |>.append (v.1.drop i)) : List Sh).length ≤ 10; rw [tk_len]; omega) (mir sh) rfl rfl rfl rfl (congrArg nI (by show _ = c1 (mirr (sc sh)); omega)) (congrArg nI (by show _ = c2 (mirr (sc sh)); omega))
              refine ih (i + 1) _ _ _ _ (by omega) (by omega) rfl rfl rfl ⟨?_, ?_⟩
              · have hS2 : zMb _ 0 (lyS v (((v.1.take i |>.map mir |>.append (v.1.drop i)) : List Sh).set i (mir sh))) := hS
                rw [tk_set hsh] at hS2
                subst hJ
                exact hS2
              · subst hJ
                exact (((((hT.2.zu).zu).zu).zu).zu).zu
            · have gd := h145
              refine z_iload_n dX6_turn_148 rfl ?_
              refine z_goto (tgt := 153) dX6_turn_149 (by decide) ?_
              refine z_isN dX6_turn_153 hM.a0 (by omega) (by decide) ?_
              refine z_iincN1 (n := 1) dX6_turn_154 (by repeat first | rfl | assumption | refine zCat_s ?_ | refine zCat_a ?_ ?_) ?_
              refine z_goto (tgt := 10) dX6_turn_157 (by decide) ?_
              have hS := set6_ok (a4 := nI 0) (a5 := nI 0) hT.1 (k := i) (by show i < ((v.1.take i |>.map mir |>.append (v.1.drop i)) : List Sh).length; rw [tk_len]; omega) (by show ((v.1.take i |>.map mir |>.append (v.1.drop i)) : List Sh).length ≤ 10; rw [tk_len]; omega) (mir sh) rfl rfl rfl rfl (congrArg nI (by show _ = c1 (mirr (sc sh)); omega)) (congrArg nI (by show _ = c2 (mirr (sc sh)); omega))
              refine ih (i + 1) _ _ _ _ (by omega) (by omega) rfl rfl rfl ⟨?_, ?_⟩
              · have hS2 : zMb _ 0 (lyS v (((v.1.take i |>.map mir |>.append (v.1.drop i)) : List Sh).set i (mir sh))) := hS
                rw [tk_set hsh] at hS2
                subst hJ
                exact hS2
              · subst hJ
                exact (((((hT.2.zu).zu).zu).zu).zu).zu
          · have gc := h126
            refine z_iload dX6_turn_129 rfl ?_
            refine z_goto (tgt := 135) dX6_turn_131 (by decide) ?_
            refine z_isN dX6_turn_135 hM.a0 (by omega) (by decide) ?_
            refine z_aload_n dX6_turn_136 rfl ?_
            refine z_getr dX6_turn_137 fX6_7 hM.o hM.r0 ?_
            refine z_iload_n dX6_turn_140 rfl ?_
            refine z_iconst (nI 5) dX6_turn_141 (by decide) ?_
            refine z_iaddN dX6_turn_142 ?_
            refine z_iload dX6_turn_143 rfl ?_
            refine z_if_leN (tgt := 152) dX6_turn_145 (by decide) (by omega) (fun h145 => ?_) (fun h145 => ?_)
            · have gd := h145
              refine z_iconst (nI 0) dX6_turn_152 (by decide) ?_
              refine z_isN dX6_turn_153 hM.a0 (by omega) (by decide) ?_
              refine z_iincN1 (n := 1) dX6_turn_154 (by repeat first | rfl | assumption | refine zCat_s ?_ | refine zCat_a ?_ ?_) ?_
              refine z_goto (tgt := 10) dX6_turn_157 (by decide) ?_
              have hS := set6_ok (a4 := nI (16 - c2 (sc sh))) (a5 := nI 0) hT.1 (k := i) (by show i < ((v.1.take i |>.map mir |>.append (v.1.drop i)) : List Sh).length; rw [tk_len]; omega) (by show ((v.1.take i |>.map mir |>.append (v.1.drop i)) : List Sh).length ≤ 10; rw [tk_len]; omega) (mir sh) rfl rfl rfl rfl (congrArg nI (by show _ = c1 (mirr (sc sh)); omega)) (congrArg nI (by show _ = c2 (mirr (sc sh)); omega))
              refine ih (i + 1) _ _ _ _ (by omega) (by omega) rfl rfl rfl ⟨?_, ?_⟩
              · have hS2 : zMb _ 0 (lyS v (((v.1.take i |>.map mir |>.append (v.1.drop i)) : List Sh).set i (mir sh))) := hS
                rw [tk_set hsh] at hS2
                subst hJ
                exact hS2
              · subst hJ
                exact (((((hT.2.zu).zu).zu).zu).zu).zu
            · have gd := h145
              refine z_iload_n dX6_turn_148 rfl ?_
              refine z_goto (tgt := 153) dX6_turn_149 (by decide) ?_
              refine z_isN dX6_turn_153 hM.a0 (by omega) (by decide) ?_
              refine z_iincN1 (n := 1) dX6_turn_154 (by repeat first | rfl | assumption | refine zCat_s ?_ | refine zCat_a ?_ ?_) ?_
              refine z_goto (tgt := 10) dX6_turn_157 (by decide) ?_
              have hS := set6_ok (a4 := nI (16 - c2 (sc sh))) (a5 := nI 0) hT.1 (k := i) (by show i < ((v.1.take i |>.map mir |>.append (v.1.drop i)) : List Sh).length; rw [tk_len]; omega) (by show ((v.1.take i |>.map mir |>.append (v.1.drop i)) : List Sh).length ≤ 10; rw [tk_len]; omega) (mir sh) rfl rfl rfl rfl (congrArg nI (by show _ = c1 (mirr (sc sh)); omega)) (congrArg nI (by show _ = c2 (mirr (sc sh)); omega))
              refine ih (i + 1) _ _ _ _ (by omega) (by omega) rfl rfl rfl ⟨?_, ?_⟩
              · have hS2 : zMb _ 0 (lyS v (((v.1.take i |>.map mir |>.append (v.1.drop i)) : List Sh).set i (mir sh))) := hS
                rw [tk_set hsh] at hS2
                subst hJ
                exact hS2
              · subst hJ
                exact (((((hT.2.zu).zu).zu).zu).zu).zu
      · have ga := h35
        refine z_bipush (nI 16) dX6_turn_38 (by decide) ?_
        refine z_aload_n dX6_turn_40 rfl ?_
        refine z_getr dX6_turn_41 fX6_7 hM.o hM.r0 ?_
        refine z_iload_n dX6_turn_44 rfl ?_
        refine z_iconst (nI 4) dX6_turn_45 (by decide) ?_
        refine z_iaddN dX6_turn_46 ?_
        refine z_iaN dX6_turn_47 hM.a0 (by omega) (by decide) ?_
        refine z_top (f4) ?_
        refine z_isubN dX6_turn_48 (by omega) ?_
        refine z_goto (tgt := 53) dX6_turn_49 (by decide) ?_
        refine z_ist3 dX6_turn_53 (by repeat first | rfl | assumption | refine zCat_s ?_ | refine zCat_a ?_ ?_) ?_
        refine z_aload_n dX6_turn_54 rfl ?_
        refine z_getr dX6_turn_55 fX6_7 hM.o hM.r0 ?_
        refine z_iload_n dX6_turn_58 rfl ?_
        refine z_iconst (nI 5) dX6_turn_59 (by decide) ?_
        refine z_iaddN dX6_turn_60 ?_
        refine z_iaN dX6_turn_61 hM.a0 (by omega) (by decide) ?_
        refine z_top (f5) ?_
        refine z_if_leN (tgt := 79) dX6_turn_62 (by decide) (by omega) (fun h62 => ?_) (fun h62 => ?_)
        · have gb := h62
          refine z_iconst (nI 0) dX6_turn_79 (by decide) ?_
          refine z_ist4 dX6_turn_80 (by repeat first | rfl | assumption | refine zCat_s ?_ | refine zCat_a ?_ ?_) ?_
          refine z_aload_n dX6_turn_82 rfl ?_
          refine z_iload_n dX6_turn_83 rfl ?_
          refine z_bipush (nI 15) dX6_turn_84 (by decide) ?_
          refine z_aload_n dX6_turn_86 rfl ?_
          refine z_iload_n dX6_turn_87 rfl ?_
          refine z_iconst (nI 2) dX6_turn_88 (by decide) ?_
          refine z_callV2p dX6_turn_89 mX6_45 hM.o (m_part J L hM i 2 (by omega) (by omega)) (by decide) (Nat.le_of_ble_eq_true rfl) ⟨Nat.le_refl _, Nat.le_refl _⟩ ?_
          refine z_top (f2) ?_
          refine z_isubN dX6_turn_92 (by omega) ?_
          refine z_aload_n dX6_turn_93 rfl ?_
          refine z_iload_n dX6_turn_94 rfl ?_
          refine z_iconst (nI 1) dX6_turn_95 (by decide) ?_
          refine z_callV2p dX6_turn_96 mX6_45 hM.o (m_part J L hM i 1 (by omega) (by omega)) (by decide) (Nat.le_of_ble_eq_true rfl) ⟨Nat.le_refl _, Nat.le_refl _⟩ ?_
          refine z_top (f1) ?_
          refine z_bipush (nI 15) dX6_turn_99 (by decide) ?_
          refine z_aload_n dX6_turn_101 rfl ?_
          refine z_iload_n dX6_turn_102 rfl ?_
          refine z_iconst (nI 0) dX6_turn_103 (by decide) ?_
          refine z_callV2p dX6_turn_104 mX6_45 hM.o (m_part J L hM i 0 (by omega) (by omega)) (by decide) (Nat.le_of_ble_eq_true rfl) ⟨Nat.le_refl _, Nat.le_refl _⟩ ?_
          refine z_top (f0) ?_
          refine z_isubN dX6_turn_107 (by omega) ?_
          refine z_aload_n dX6_turn_108 rfl ?_
          refine z_iload_n dX6_turn_109 rfl ?_
          refine z_iconst (nI 3) dX6_turn_110 (by decide) ?_
          refine z_callV2p dX6_turn_111 mX6_45 hM.o (m_part J L hM i 3 (by omega) (by omega)) (by decide) (Nat.le_of_ble_eq_true rfl) ⟨Nat.le_refl _, Nat.le_refl _⟩ ?_
          refine z_top (f3) ?_
          refine z_callV5v dX6_turn_114 mX6_124 hM.o (m_put J L hM i (by omega) _ _ _ _) (by decide) (Nat.le_of_ble_eq_true rfl) ⟨Nat.le_refl _, Nat.le_refl _⟩ (fun J2 hJ => ?_)
          refine z_aload_n dX6_turn_117 rfl ?_
          refine z_getr dX6_turn_118 fX6_7 hM.o hM.r0 ?_
          refine z_iload_n dX6_turn_121 rfl ?_
          refine z_iconst (nI 4) dX6_turn_122 (by decide) ?_
          refine z_iaddN dX6_turn_123 ?_
          refine z_iload dX6_turn_124 rfl ?_
          refine z_if_leN (tgt := 134) dX6_turn_126 (by decide) (by omega) (fun _ => ?_) (fun h126 => absurd h126 (by decide))
          refine z_iload_n dX6_turn_134 rfl ?_
          refine z_isN dX6_turn_135 hM.a0 (by omega) (by decide) ?_
          refine z_aload_n dX6_turn_136 rfl ?_
          refine z_getr dX6_turn_137 fX6_7 hM.o hM.r0 ?_
          refine z_iload_n dX6_turn_140 rfl ?_
          refine z_iconst (nI 5) dX6_turn_141 (by decide) ?_
          refine z_iaddN dX6_turn_142 ?_
          refine z_iload dX6_turn_143 rfl ?_
          refine z_if_leN (tgt := 152) dX6_turn_145 (by decide) (by omega) (fun _ => ?_) (fun h145 => absurd h145 (by decide))
          refine z_iconst (nI 0) dX6_turn_152 (by decide) ?_
          refine z_isN dX6_turn_153 hM.a0 (by omega) (by decide) ?_
          refine z_iincN1 (n := 1) dX6_turn_154 (by repeat first | rfl | assumption | refine zCat_s ?_ | refine zCat_a ?_ ?_) ?_
          refine z_goto (tgt := 10) dX6_turn_157 (by decide) ?_
          have hS := set6_ok (a4 := nI (16 - c1 (sc sh))) (a5 := nI 0) hT.1 (k := i) (by show i < ((v.1.take i |>.map mir |>.append (v.1.drop i)) : List Sh).length; rw [tk_len]; omega) (by show ((v.1.take i |>.map mir |>.append (v.1.drop i)) : List Sh).length ≤ 10; rw [tk_len]; omega) (mir sh) rfl rfl rfl rfl (congrArg nI (by show _ = c1 (mirr (sc sh)); omega)) (congrArg nI (by show _ = c2 (mirr (sc sh)); omega))
          refine ih (i + 1) _ _ _ _ (by omega) (by omega) rfl rfl rfl ⟨?_, ?_⟩
          · have hS2 : zMb _ 0 (lyS v (((v.1.take i |>.map mir |>.append (v.1.drop i)) : List Sh).set i (mir sh))) := hS
            rw [tk_set hsh] at hS2
            subst hJ
            exact hS2
          · subst hJ
            exact (((((hT.2.zu).zu).zu).zu).zu).zu
        · have gb := h62
          refine z_bipush (nI 16) dX6_turn_65 (by decide) ?_
          refine z_aload_n dX6_turn_67 rfl ?_
          refine z_getr dX6_turn_68 fX6_7 hM.o hM.r0 ?_
          refine z_iload_n dX6_turn_71 rfl ?_
          refine z_iconst (nI 5) dX6_turn_72 (by decide) ?_
          refine z_iaddN dX6_turn_73 ?_
          refine z_iaN dX6_turn_74 hM.a0 (by omega) (by decide) ?_
          refine z_top (f5) ?_
          refine z_isubN dX6_turn_75 (by omega) ?_
          refine z_goto (tgt := 80) dX6_turn_76 (by decide) ?_
          refine z_ist4 dX6_turn_80 (by repeat first | rfl | assumption | refine zCat_s ?_ | refine zCat_a ?_ ?_) ?_
          refine z_aload_n dX6_turn_82 rfl ?_
          refine z_iload_n dX6_turn_83 rfl ?_
          refine z_bipush (nI 15) dX6_turn_84 (by decide) ?_
          refine z_aload_n dX6_turn_86 rfl ?_
          refine z_iload_n dX6_turn_87 rfl ?_
          refine z_iconst (nI 2) dX6_turn_88 (by decide) ?_
          refine z_callV2p dX6_turn_89 mX6_45 hM.o (m_part J L hM i 2 (by omega) (by omega)) (by decide) (Nat.le_of_ble_eq_true rfl) ⟨Nat.le_refl _, Nat.le_refl _⟩ ?_
          refine z_top (f2) ?_
          refine z_isubN dX6_turn_92 (by omega) ?_
          refine z_aload_n dX6_turn_93 rfl ?_
          refine z_iload_n dX6_turn_94 rfl ?_
          refine z_iconst (nI 1) dX6_turn_95 (by decide) ?_
          refine z_callV2p dX6_turn_96 mX6_45 hM.o (m_part J L hM i 1 (by omega) (by omega)) (by decide) (Nat.le_of_ble_eq_true rfl) ⟨Nat.le_refl _, Nat.le_refl _⟩ ?_
          refine z_top (f1) ?_
          refine z_bipush (nI 15) dX6_turn_99 (by decide) ?_
          refine z_aload_n dX6_turn_101 rfl ?_
          refine z_iload_n dX6_turn_102 rfl ?_
          refine z_iconst (nI 0) dX6_turn_103 (by decide) ?_
          refine z_callV2p dX6_turn_104 mX6_45 hM.o (m_part J L hM i 0 (by omega) (by omega)) (by decide) (Nat.le_of_ble_eq_true rfl) ⟨Nat.le_refl _, Nat.le_refl _⟩ ?_
          refine z_top (f0) ?_
          refine z_isubN dX6_turn_107 (by omega) ?_
          refine z_aload_n dX6_turn_108 rfl ?_
          refine z_iload_n dX6_turn_109 rfl ?_
          refine z_iconst (nI 3) dX6_turn_110 (by decide) ?_
          refine z_callV2p dX6_turn_111 mX6_45 hM.o (m_part J L hM i 3 (by omega) (by omega)) (by decide) (Nat.le_of_ble_eq_true rfl) ⟨Nat.le_refl _, Nat.le_refl _⟩ ?_
          refine z_top (f3) ?_
          refine z_callV5v dX6_turn_114 mX6_124 hM.o (m_put J L hM i (by omega) _ _ _ _) (by decide) (Nat.le_of_ble_eq_true rfl) ⟨Nat.le_refl _, Nat.le_refl _⟩ (fun J2 hJ => ?_)
          refine z_aload_n dX6_turn_117 rfl ?_
          refine z_getr dX6_turn_118 fX6_7 hM.o hM.r0 ?_
          refine z_iload_n dX6_turn_121 rfl ?_
          refine z_iconst (nI 4) dX6_turn_122 (by decide) ?_
          refine z_iaddN dX6_turn_123 ?_
          refine z_iload dX6_turn_124 rfl ?_
          refine z_if_leN (tgt := 134) dX6_turn_126 (by decide) (by omega) (fun h126 => ?_) (fun h126 => ?_)
          · have gc := h126
            refine z_iload_n dX6_turn_134 rfl ?_
            refine z_isN dX6_turn_135 hM.a0 (by omega) (by decide) ?_
            refine z_aload_n dX6_turn_136 rfl ?_
            refine z_getr dX6_turn_137 fX6_7 hM.o hM.r0 ?_
            refine z_iload_n dX6_turn_140 rfl ?_
            refine z_iconst (nI 5) dX6_turn_141 (by decide) ?_
            refine z_iaddN dX6_turn_142 ?_
            refine z_iload dX6_turn_143 rfl ?_
            refine z_if_leN (tgt := 152) dX6_turn_145 (by decide) (by omega) (fun h145 => ?_) (fun h145 => ?_)
            · have gd := h145
              refine z_iconst (nI 0) dX6_turn_152 (by decide) ?_
              refine z_isN dX6_turn_153 hM.a0 (by omega) (by decide) ?_
              refine z_iincN1 (n := 1) dX6_turn_154 (by repeat first | rfl | assumption | refine zCat_s ?_ | refine zCat_a ?_ ?_) ?_
              refine z_goto (tgt := 10) dX6_turn_157 (by decide) ?_
              have hS := set6_ok (a4 := nI (16 - c1 (sc sh))) (a5 := nI 0) hT.1 (k := i) (by show i < ((v.1.take i |>.map mir |>.append (v.1.drop i)) : List Sh).length; rw [tk_len]; omega) (by show ((v.1.take i |>.map mir |>.append (v.1.drop i)) : List Sh).length ≤ 10; rw [tk_len]; omega) (mir sh) rfl rfl rfl rfl (congrArg nI (by show _ = c1 (mirr (sc sh)); omega)) (congrArg nI (by show _ = c2 (mirr (sc sh)); omega))
              refine ih (i + 1) _ _ _ _ (by omega) (by omega) rfl rfl rfl ⟨?_, ?_⟩
              · have hS2 : zMb _ 0 (lyS v (((v.1.take i |>.map mir |>.append (v.1.drop i)) : List Sh).set i (mir sh))) := hS
                rw [tk_set hsh] at hS2
                subst hJ
                exact hS2
              · subst hJ
                exact (((((hT.2.zu).zu).zu).zu).zu).zu
            · have gd := h145
              refine z_iload_n dX6_turn_148 rfl ?_
              refine z_goto (tgt := 153) dX6_turn_149 (by decide) ?_
              refine z_isN dX6_turn_153 hM.a0 (by omega) (by decide) ?_
              refine z_iincN1 (n := 1) dX6_turn_154 (by repeat first | rfl | assumption | refine zCat_s ?_ | refine zCat_a ?_ ?_) ?_
              refine z_goto (tgt := 10) dX6_turn_157 (by decide) ?_
              have hS := set6_ok (a4 := nI (16 - c1 (sc sh))) (a5 := nI (16 - c1 (sc sh))) hT.1 (k := i) (by show i < ((v.1.take i |>.map mir |>.append (v.1.drop i)) : List Sh).length; rw [tk_len]; omega) (by show ((v.1.take i |>.map mir |>.append (v.1.drop i)) : List Sh).length ≤ 10; rw [tk_len]; omega) (mir sh) rfl rfl rfl rfl (congrArg nI (by show _ = c1 (mirr (sc sh)); omega)) (congrArg nI (by show _ = c2 (mirr (sc sh)); omega))
              refine ih (i + 1) _ _ _ _ (by omega) (by omega) rfl rfl rfl ⟨?_, ?_⟩
              · have hS2 : zMb _ 0 (lyS v (((v.1.take i |>.map mir |>.append (v.1.drop i)) : List Sh).set i (mir sh))) := hS
                rw [tk_set hsh] at hS2
                subst hJ
                exact hS2
              · subst hJ
                exact (((((hT.2.zu).zu).zu).zu).zu).zu
          · have gc := h126
            refine z_iload dX6_turn_129 rfl ?_
            refine z_goto (tgt := 135) dX6_turn_131 (by decide) ?_
            refine z_isN dX6_turn_135 hM.a0 (by omega) (by decide) ?_
            refine z_aload_n dX6_turn_136 rfl ?_
            refine z_getr dX6_turn_137 fX6_7 hM.o hM.r0 ?_
            refine z_iload_n dX6_turn_140 rfl ?_
            refine z_iconst (nI 5) dX6_turn_141 (by decide) ?_
            refine z_iaddN dX6_turn_142 ?_
            refine z_iload dX6_turn_143 rfl ?_
            refine z_if_leN (tgt := 152) dX6_turn_145 (by decide) (by omega) (fun h145 => ?_) (fun h145 => ?_)
            · have gd := h145
              refine z_iconst (nI 0) dX6_turn_152 (by decide) ?_
              refine z_isN dX6_turn_153 hM.a0 (by omega) (by decide) ?_
              refine z_iincN1 (n := 1) dX6_turn_154 (by repeat first | rfl | assumption | refine zCat_s ?_ | refine zCat_a ?_ ?_) ?_
              refine z_goto (tgt := 10) dX6_turn_157 (by decide) ?_
              have hS := set6_ok (a4 := nI (16 - c2 (sc sh))) (a5 := nI 0) hT.1 (k := i) (by show i < ((v.1.take i |>.map mir |>.append (v.1.drop i)) : List Sh).length; rw [tk_len]; omega) (by show ((v.1.take i |>.map mir |>.append (v.1.drop i)) : List Sh).length ≤ 10; rw [tk_len]; omega) (mir sh) rfl rfl rfl rfl (congrArg nI (by show _ = c1 (mirr (sc sh)); omega)) (congrArg nI (by show _ = c2 (mirr (sc sh)); omega))
              refine ih (i + 1) _ _ _ _ (by omega) (by omega) rfl rfl rfl ⟨?_, ?_⟩
              · have hS2 : zMb _ 0 (lyS v (((v.1.take i |>.map mir |>.append (v.1.drop i)) : List Sh).set i (mir sh))) := hS
                rw [tk_set hsh] at hS2
                subst hJ
                exact hS2
              · subst hJ
                exact (((((hT.2.zu).zu).zu).zu).zu).zu
            · have gd := h145
              refine z_iload_n dX6_turn_148 rfl ?_
              refine z_goto (tgt := 153) dX6_turn_149 (by decide) ?_
              refine z_isN dX6_turn_153 hM.a0 (by omega) (by decide) ?_
              refine z_iincN1 (n := 1) dX6_turn_154 (by repeat first | rfl | assumption | refine zCat_s ?_ | refine zCat_a ?_ ?_) ?_
              refine z_goto (tgt := 10) dX6_turn_157 (by decide) ?_
              have hS := set6_ok (a4 := nI (16 - c2 (sc sh))) (a5 := nI (16 - c1 (sc sh))) hT.1 (k := i) (by show i < ((v.1.take i |>.map mir |>.append (v.1.drop i)) : List Sh).length; rw [tk_len]; omega) (by show ((v.1.take i |>.map mir |>.append (v.1.drop i)) : List Sh).length ≤ 10; rw [tk_len]; omega) (mir sh) rfl rfl rfl rfl (congrArg nI (by show _ = c1 (mirr (sc sh)); omega)) (congrArg nI (by show _ = c2 (mirr (sc sh)); omega))
              refine ih (i + 1) _ _ _ _ (by omega) (by omega) rfl rfl rfl ⟨?_, ?_⟩
              · have hS2 : zMb _ 0 (lyS v (((v.1.take i |>.map mir |>.append (v.1.drop i)) : List Sh).set i (mir sh))) := hS
                rw [tk_set hsh] at hS2
                subst hJ
                exact hS2
              · subst hJ
                exact (((((hT.2.zu).zu).zu).zu).zu).zu
