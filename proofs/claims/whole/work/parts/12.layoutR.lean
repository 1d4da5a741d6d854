set_option maxRecDepth 100000 in
set_option maxHeartbeats 4000000 in
theorem c_areaOf {S : zS} {R : zMR} (I : zMI) (L : zML) {b : Nat} {v : Ly} (hb : zLay S R b) (hv : zCLy I b v) (ho : lyOk v) {j : Nat} {sh : Sh} (hsh : v.1[j]? = some sh) : zM0 yX2_areaOf cX2_areaOf 2 (some .int) 2 [.ref b, .int (nI j)] S I L R (zPure I L (nI (area sh))) := by
  refine zM0_of (own := RX2) (lv := [some (.ref b), some (.int (nI j))]) rfl (by decide) rfl rfl ?_
  have hl := ho.1
  have hj := getS_lt hsh
  have hso := ho.sh hsh
  obtain ⟨o1, o2, o3, o4, o5⟩ := id hso
  have hhas : has v.1 (nI j).toInt := by rw [nI_T (by have := ho.1; have := getS_lt hsh; omega)]; exact ⟨by omega, by have := getS_lt hsh; omega⟩
  refine z_aload_n dX2_areaOf_0 rfl ?_
  refine z_iload_n dX2_areaOf_1 rfl ?_
  refine z_callV1p dX2_areaOf_2 mX2_61 hb.o (c_hasShape I L hb hv ho _) (by decide) (Nat.le_of_ble_eq_true rfl) ⟨Nat.le_refl _, Nat.le_refl _⟩ ?_
  refine z_if_eqB (tgt := 42) dX2_areaOf_5 (by decide) (fun h5 => absurd h5 (fun q => q hhas)) (fun h5 => ?_)
  refine z_aload_n dX2_areaOf_8 rfl ?_
  refine z_getr dX2_areaOf_9 fX2_18 hb.o hb.r2 ?_
  refine z_iload_n dX2_areaOf_12 rfl ?_
  refine z_iaN dX2_areaOf_13 hb.a2 (by omega) (by decide) ?_
  refine z_top ((hv.2.1 j sh hsh).2.2.1) ?_
  refine z_aload_n dX2_areaOf_14 rfl ?_
  refine z_getr dX2_areaOf_15 fX2_9 hb.o hb.r0 ?_
  refine z_iload_n dX2_areaOf_18 rfl ?_
  refine z_iaN dX2_areaOf_19 hb.a0 (by omega) (by decide) ?_
  refine z_top ((hv.2.1 j sh hsh).1) ?_
  refine z_isubN dX2_areaOf_20 (by omega) ?_
  refine z_iconst (nI 1) dX2_areaOf_21 (by decide) ?_
  refine z_iaddN dX2_areaOf_22 ?_
  refine z_aload_n dX2_areaOf_23 rfl ?_
  refine z_getr dX2_areaOf_24 fX2_21 hb.o hb.r3 ?_
  refine z_iload_n dX2_areaOf_27 rfl ?_
  refine z_iaN dX2_areaOf_28 hb.a3 (by omega) (by decide) ?_
  refine z_top ((hv.2.1 j sh hsh).2.2.2.1) ?_
  refine z_aload_n dX2_areaOf_29 rfl ?_
  refine z_getr dX2_areaOf_30 fX2_15 hb.o hb.r1 ?_
  refine z_iload_n dX2_areaOf_33 rfl ?_
  refine z_iaN dX2_areaOf_34 hb.a1 (by omega) (by decide) ?_
  refine z_top ((hv.2.1 j sh hsh).2.1) ?_
  refine z_isubN dX2_areaOf_35 (by omega) ?_
  refine z_iconst (nI 1) dX2_areaOf_36 (by decide) ?_
  refine z_iaddN dX2_areaOf_37 ?_
  refine z_imulN dX2_areaOf_38 ?_
  refine z_goto (tgt := 43) dX2_areaOf_39 (by decide) ?_
  exact z_iret dX2_areaOf_43 ⟨Nat.le_refl _, Nat.le_refl _⟩ rfl ⟨rfl, rfl, rfl, rfl, congrArg (fun z => some (Value.int z)) (rfl)⟩
set_option maxRecDepth 100000 in
set_option maxHeartbeats 4000000 in
theorem isFree_loop {S : zS} {R : zMR} (I : zMI) (L : zML) {b : Nat} {v : Ly} (hb : zLay S R b) (hv : zCLy I b v) (ho : lyOk v) (l t r d but : Int32) : ∀ (n : Nat) (i : Nat) (w7 : Option Value), v.1.length + 1 ≤ i + n → i ≤ v.1.length → zCat [w7] = true → (∀ (k : Nat) (s : Sh), k < i → v.1[k]? = some s → (k : Int) ≠ but.toInt → ¬ (l.toInt ≤ sx2 s ∧ (sx s : Int) ≤ r.toInt ∧ t.toInt ≤ sy2 s ∧ (sy s : Int) ≤ d.toInt)) → zV (zMt RX2 cX2_isFree 8 (some .boolean) 1) (fun S2 I2 L2 R2 rr => S2 = S ∧ R2 = R ∧ (zPure I L (zb (isFr v.1 l.toInt t.toInt r.toInt d.toInt but.toInt))) I2 L2 rr) (0, 0) S I L R 3 [some (.ref b), some (.int l), some (.int t), some (.int r), some (.int d), some (.int but), some (.int (nI i)), w7] [] := by
  intro n
  induction n with
  | zero => intro i w7 h1 h2 hw hpre; omega
  | succ n ih =>
    intro i w7 h1 h2 hw hpre
    have hl := ho.1
    refine z_iload dX2_isFree_3 rfl ?_
    refine z_aload_n dX2_isFree_5 rfl ?_
    refine z_geti dX2_isFree_6 fX2_27 hb.o ?_
    refine z_top (hv.1) ?_
    refine z_icmp_geNN (tgt := 84) dX2_isFree_9 (by decide) (by omega) (by omega) (fun h9 => ?_) (fun h9 => ?_)
    · refine z_iconst (nI 1) dX2_isFree_84 (by decide) ?_
      exact z_iret dX2_isFree_85 ⟨Nat.le_refl _, Nat.le_refl _⟩ rfl ⟨rfl, rfl, rfl, rfl, congrArg (fun z => some (Value.int z)) (zb_1 (fun k s hk => hpre k s (by have := getS_lt hk; omega) hk))⟩
    · obtain ⟨sh, hsh⟩ := getS h9
      have hso := ho.sh hsh
      obtain ⟨o1, o2, o3, o4, o5⟩ := id hso
      refine z_iload_n dX2_isFree_12 rfl ?_
      refine z_aload_n dX2_isFree_13 rfl ?_
      refine z_getr dX2_isFree_14 fX2_18 hb.o hb.r2 ?_
      refine z_iload dX2_isFree_17 rfl ?_
      refine z_iaN dX2_isFree_19 hb.a2 (by omega) (by decide) ?_
      refine z_top ((hv.2.1 i sh hsh).2.2.1) ?_
      refine z_icmp_gtIN (tgt := 61) dX2_isFree_20 (by decide) (by omega) (fun h20 => ?_) (fun h20 => ?_)
      · refine z_iconst (nI 0) dX2_isFree_61 (by decide) ?_
        refine z_ist7 dX2_isFree_62 hw ?_
        refine z_iload dX2_isFree_64 rfl ?_
        refine z_iload dX2_isFree_66 rfl ?_
        refine z_icmp_eq (tgt := 78) dX2_isFree_68 (by decide) (fun h68 => ?_) (fun h68 => ?_)
        · refine z_iincN6 (n := 1) dX2_isFree_78 rfl ?_
          refine z_goto (tgt := 3) dX2_isFree_81 (by decide) ?_
          refine ih (i + 1) _ (by omega) (by omega) rfl (fun k s2 hk hs2 hne => ?_)
          by_cases q : k = i
          · subst q
            rw [hsh] at hs2
            cases hs2
            first | omega | exact absurd (by rw [← h68]; exact (nI_T (by omega)).symm) hne
          · exact hpre k s2 (by omega) hs2 hne
        · refine z_iload dX2_isFree_71 rfl ?_
          refine z_if_eqN (tgt := 78) dX2_isFree_73 (by decide) (by omega) (fun _ => ?_) (fun h73 => absurd h73 (by decide))
          refine z_iincN6 (n := 1) dX2_isFree_78 rfl ?_
          refine z_goto (tgt := 3) dX2_isFree_81 (by decide) ?_
          refine ih (i + 1) _ (by omega) (by omega) rfl (fun k s2 hk hs2 hne => ?_)
          by_cases q : k = i
          · subst q
            rw [hsh] at hs2
            cases hs2
            first | omega | exact absurd (by rw [← h68]; exact (nI_T (by omega)).symm) hne
          · exact hpre k s2 (by omega) hs2 hne
      · refine z_aload_n dX2_isFree_23 rfl ?_
        refine z_getr dX2_isFree_24 fX2_9 hb.o hb.r0 ?_
        refine z_iload dX2_isFree_27 rfl ?_
        refine z_iaN dX2_isFree_29 hb.a0 (by omega) (by decide) ?_
        refine z_top ((hv.2.1 i sh hsh).1) ?_
        refine z_iload_n dX2_isFree_30 rfl ?_
        refine z_icmp_gtNI (tgt := 61) dX2_isFree_31 (by decide) (by omega) (fun h31 => ?_) (fun h31 => ?_)
        · refine z_iconst (nI 0) dX2_isFree_61 (by decide) ?_
          refine z_ist7 dX2_isFree_62 hw ?_
          refine z_iload dX2_isFree_64 rfl ?_
          refine z_iload dX2_isFree_66 rfl ?_
          refine z_icmp_eq (tgt := 78) dX2_isFree_68 (by decide) (fun h68 => ?_) (fun h68 => ?_)
          · refine z_iincN6 (n := 1) dX2_isFree_78 rfl ?_
            refine z_goto (tgt := 3) dX2_isFree_81 (by decide) ?_
            refine ih (i + 1) _ (by omega) (by omega) rfl (fun k s2 hk hs2 hne => ?_)
            by_cases q : k = i
            · subst q
              rw [hsh] at hs2
              cases hs2
              first | omega | exact absurd (by rw [← h68]; exact (nI_T (by omega)).symm) hne
            · exact hpre k s2 (by omega) hs2 hne
          · refine z_iload dX2_isFree_71 rfl ?_
            refine z_if_eqN (tgt := 78) dX2_isFree_73 (by decide) (by omega) (fun _ => ?_) (fun h73 => absurd h73 (by decide))
            refine z_iincN6 (n := 1) dX2_isFree_78 rfl ?_
            refine z_goto (tgt := 3) dX2_isFree_81 (by decide) ?_
            refine ih (i + 1) _ (by omega) (by omega) rfl (fun k s2 hk hs2 hne => ?_)
            by_cases q : k = i
            · subst q
              rw [hsh] at hs2
              cases hs2
              first | omega | exact absurd (by rw [← h68]; exact (nI_T (by omega)).symm) hne
            · exact hpre k s2 (by omega) hs2 hne
        · refine z_iload_n dX2_isFree_34 rfl ?_
          refine z_aload_n dX2_isFree_35 rfl ?_
          refine z_getr dX2_isFree_36 fX2_21 hb.o hb.r3 ?_
          refine z_iload dX2_isFree_39 rfl ?_
          refine z_iaN dX2_isFree_41 hb.a3 (by omega) (by decide) ?_
          refine z_top ((hv.2.1 i sh hsh).2.2.2.1) ?_
          refine z_icmp_gtIN (tgt := 61) dX2_isFree_42 (by decide) (by omega) (fun h42 => ?_) (fun h42 => ?_)
          · refine z_iconst (nI 0) dX2_isFree_61 (by decide) ?_
            refine z_ist7 dX2_isFree_62 hw ?_
            refine z_iload dX2_isFree_64 rfl ?_
            refine z_iload dX2_isFree_66 rfl ?_
            refine z_icmp_eq (tgt := 78) dX2_isFree_68 (by decide) (fun h68 => ?_) (fun h68 => ?_)
            · refine z_iincN6 (n := 1) dX2_isFree_78 rfl ?_
              refine z_goto (tgt := 3) dX2_isFree_81 (by decide) ?_
              refine ih (i + 1) _ (by omega) (by omega) rfl (fun k s2 hk hs2 hne => ?_)
              by_cases q : k = i
              · subst q
                rw [hsh] at hs2
                cases hs2
                first | omega | exact absurd (by rw [← h68]; exact (nI_T (by omega)).symm) hne
              · exact hpre k s2 (by omega) hs2 hne
            · refine z_iload dX2_isFree_71 rfl ?_
              refine z_if_eqN (tgt := 78) dX2_isFree_73 (by decide) (by omega) (fun _ => ?_) (fun h73 => absurd h73 (by decide))
              refine z_iincN6 (n := 1) dX2_isFree_78 rfl ?_
              refine z_goto (tgt := 3) dX2_isFree_81 (by decide) ?_
              refine ih (i + 1) _ (by omega) (by omega) rfl (fun k s2 hk hs2 hne => ?_)
              by_cases q : k = i
              · subst q
                rw [hsh] at hs2
                cases hs2
                first | omega | exact absurd (by rw [← h68]; exact (nI_T (by omega)).symm) hne
              · exact hpre k s2 (by omega) hs2 hne
          · refine z_aload_n dX2_isFree_45 rfl ?_
            refine z_getr dX2_isFree_46 fX2_15 hb.o hb.r1 ?_
            refine z_iload dX2_isFree_49 rfl ?_
            refine z_iaN dX2_isFree_51 hb.a1 (by omega) (by decide) ?_
            refine z_top ((hv.2.1 i sh hsh).2.1) ?_
            refine z_iload dX2_isFree_52 rfl ?_
            refine z_icmp_gtNI (tgt := 61) dX2_isFree_54 (by decide) (by omega) (fun h54 => ?_) (fun h54 => ?_)
            · refine z_iconst (nI 0) dX2_isFree_61 (by decide) ?_
              refine z_ist7 dX2_isFree_62 hw ?_
              refine z_iload dX2_isFree_64 rfl ?_
              refine z_iload dX2_isFree_66 rfl ?_
              refine z_icmp_eq (tgt := 78) dX2_isFree_68 (by decide) (fun h68 => ?_) (fun h68 => ?_)
              · refine z_iincN6 (n := 1) dX2_isFree_78 rfl ?_
                refine z_goto (tgt := 3) dX2_isFree_81 (by decide) ?_
                refine ih (i + 1) _ (by omega) (by omega) rfl (fun k s2 hk hs2 hne => ?_)
                by_cases q : k = i
                · subst q
                  rw [hsh] at hs2
                  cases hs2
                  first | omega | exact absurd (by rw [← h68]; exact (nI_T (by omega)).symm) hne
                · exact hpre k s2 (by omega) hs2 hne
              · refine z_iload dX2_isFree_71 rfl ?_
                refine z_if_eqN (tgt := 78) dX2_isFree_73 (by decide) (by omega) (fun _ => ?_) (fun h73 => absurd h73 (by decide))
                refine z_iincN6 (n := 1) dX2_isFree_78 rfl ?_
                refine z_goto (tgt := 3) dX2_isFree_81 (by decide) ?_
                refine ih (i + 1) _ (by omega) (by omega) rfl (fun k s2 hk hs2 hne => ?_)
                by_cases q : k = i
                · subst q
                  rw [hsh] at hs2
                  cases hs2
                  first | omega | exact absurd (by rw [← h68]; exact (nI_T (by omega)).symm) hne
                · exact hpre k s2 (by omega) hs2 hne
            · refine z_iconst (nI 1) dX2_isFree_57 (by decide) ?_
              refine z_goto (tgt := 62) dX2_isFree_58 (by decide) ?_
              refine z_ist7 dX2_isFree_62 hw ?_
              refine z_iload dX2_isFree_64 rfl ?_
              refine z_iload dX2_isFree_66 rfl ?_
              refine z_icmp_eq (tgt := 78) dX2_isFree_68 (by decide) (fun h68 => ?_) (fun h68 => ?_)
              · refine z_iincN6 (n := 1) dX2_isFree_78 rfl ?_
                refine z_goto (tgt := 3) dX2_isFree_81 (by decide) ?_
                refine ih (i + 1) _ (by omega) (by omega) rfl (fun k s2 hk hs2 hne => ?_)
                by_cases q : k = i
                · subst q
                  rw [hsh] at hs2
                  cases hs2
                  first | omega | exact absurd (by rw [← h68]; exact (nI_T (by omega)).symm) hne
                · exact hpre k s2 (by omega) hs2 hne
              · refine z_iload dX2_isFree_71 rfl ?_
                refine z_if_eqN (tgt := 78) dX2_isFree_73 (by decide) (by omega) (fun h73 => absurd h73 (by decide)) (fun _ => ?_)
                refine z_iconst (nI 0) dX2_isFree_76 (by decide) ?_
                exact z_iret dX2_isFree_77 ⟨Nat.le_refl _, Nat.le_refl _⟩ rfl ⟨rfl, rfl, rfl, rfl, congrArg (fun z => some (Value.int z)) (zb_0 (fun q => q i sh hsh (fun e => h68 (by rw [toInt_eq e.symm, nI_zi])) ⟨by omega, by omega, by omega, by omega⟩))⟩
set_option maxRecDepth 100000 in
set_option maxHeartbeats 4000000 in
theorem c_isFree {S : zS} {R : zMR} (I : zMI) (L : zML) {b : Nat} {v : Ly} (hb : zLay S R b) (hv : zCLy I b v) (ho : lyOk v) (l t r d but : Int32) : zM0 yX2_isFree cX2_isFree 8 (some .boolean) 1 [.ref b, .int l, .int t, .int r, .int d, .int but] S I L R (zPure I L (zb (isFr v.1 l.toInt t.toInt r.toInt d.toInt but.toInt))) := by
  refine zM0_of (own := RX2) (lv := [some (.ref b), some (.int l), some (.int t), some (.int r), some (.int d), some (.int but), none, none]) rfl (by decide) rfl rfl ?_
  refine z_iconst (nI 0) dX2_isFree_0 (by decide) ?_
  refine z_ist6 dX2_isFree_1 rfl ?_
  exact isFree_loop I L hb hv ho l t r d but (v.1.length + 1) 0 none (by omega) (by omega) rfl (fun k s hk => absurd hk (by omega))
set_option maxRecDepth 100000 in
set_option maxHeartbeats 4000000 in
theorem c_refusalOfNew {S : zS} {R : zMR} (I : zMI) (L : zML) {b : Nat} {v : Ly} (hb : zLay S R b) (hv : zCLy I b v) (ho : lyOk v) (l t r d : Int32) : zM0 yX2_refusalOfNew cX2_refusalOfNew 5 (some .int) 4 [.ref b, .int l, .int t, .int r, .int d] S I L R (zPure I L (rNew v.1 l.toInt t.toInt r.toInt d.toInt)) := by
  refine zM0_of (own := RX2) (lv := [some (.ref b), some (.int l), some (.int t), some (.int r), some (.int d)]) rfl (by decide) rfl rfl ?_
  refine z_iload_n dX2_refusalOfNew_0 rfl ?_
  refine z_iload_n dX2_refusalOfNew_1 rfl ?_
  refine z_iload_n dX2_refusalOfNew_2 rfl ?_
  refine z_iload dX2_refusalOfNew_3 rfl ?_
  refine z_callS4p dX2_refusalOfNew_5 mX2_65 (c_isOnField I L _ _ _ _) (by decide) (Nat.le_of_ble_eq_true rfl) ⟨Nat.le_refl _, Nat.le_refl _⟩ ?_
  refine z_if_eqB (tgt := 22) dX2_refusalOfNew_8 (by decide) (fun h8 => ?_) (fun h8 => ?_)
  · refine z_ldc dX2_refusalOfNew_22 kX2_69 ?_
    exact z_iret dX2_refusalOfNew_24 ⟨Nat.le_refl _, Nat.le_refl _⟩ rfl ⟨rfl, rfl, rfl, rfl, congrArg (fun z => some (Value.int z)) (by unfold rNew; rw [zif_f (fun q => by first | exact h8 q.1 | (have q1 := q.2.1; have q2 := q.2.2; omega))])⟩
  · refine z_iload_n dX2_refusalOfNew_11 rfl ?_
    refine z_iload_n dX2_refusalOfNew_12 rfl ?_
    refine z_icmp_gt (tgt := 22) dX2_refusalOfNew_13 (by decide) (fun h13 => ?_) (fun h13 => ?_)
    · refine z_ldc dX2_refusalOfNew_22 kX2_69 ?_
      exact z_iret dX2_refusalOfNew_24 ⟨Nat.le_refl _, Nat.le_refl _⟩ rfl ⟨rfl, rfl, rfl, rfl, congrArg (fun z => some (Value.int z)) (by unfold rNew; rw [zif_f (fun q => by first | exact h8 q.1 | (have q1 := q.2.1; have q2 := q.2.2; omega))])⟩
    · refine z_iload_n dX2_refusalOfNew_16 rfl ?_
      refine z_iload dX2_refusalOfNew_17 rfl ?_
      refine z_icmp_le (tgt := 25) dX2_refusalOfNew_19 (by decide) (fun h19 => ?_) (fun h19 => ?_)
      · refine z_aload_n dX2_refusalOfNew_25 rfl ?_
        refine z_iload_n dX2_refusalOfNew_26 rfl ?_
        refine z_iload_n dX2_refusalOfNew_27 rfl ?_
        refine z_iload_n dX2_refusalOfNew_28 rfl ?_
        refine z_iload dX2_refusalOfNew_29 rfl ?_
        refine z_iconst (-1) dX2_refusalOfNew_31 (by decide) ?_
        refine z_callV5p dX2_refusalOfNew_32 mX2_70 hb.o (c_isFree I L hb hv ho _ _ _ _ _) (by decide) (Nat.le_of_ble_eq_true rfl) ⟨Nat.le_refl _, Nat.le_refl _⟩ ?_
        rw [show ((-1 : Int32)).toInt = -1 from by decide]
        refine z_if_neB (tgt := 41) dX2_refusalOfNew_35 (by decide) (fun h35 => ?_) (fun h35 => ?_)
        · refine z_aload_n dX2_refusalOfNew_41 rfl ?_
          refine z_callV0p dX2_refusalOfNew_42 mX2_75 hb.o (c_isFull I L hb hv ho) (by decide) (Nat.le_of_ble_eq_true rfl) ⟨Nat.le_refl _, Nat.le_refl _⟩ ?_
          refine z_if_eqB (tgt := 53) dX2_refusalOfNew_45 (by decide) (fun h45 => ?_) (fun h45 => ?_)
          · refine z_iconst (nI 0) dX2_refusalOfNew_53 (by decide) ?_
            exact z_iret dX2_refusalOfNew_54 ⟨Nat.le_refl _, Nat.le_refl _⟩ rfl ⟨rfl, rfl, rfl, rfl, congrArg (fun z => some (Value.int z)) (by unfold rNew; rw [zif_t ⟨h8, by omega, by omega⟩, zif_t h35]; first | rw [zif_t h45] | exact (zif_f h45).symm)⟩
          · refine z_ldc dX2_refusalOfNew_48 kX2_79 ?_
            refine z_goto (tgt := 54) dX2_refusalOfNew_50 (by decide) ?_
            exact z_iret dX2_refusalOfNew_54 ⟨Nat.le_refl _, Nat.le_refl _⟩ rfl ⟨rfl, rfl, rfl, rfl, congrArg (fun z => some (Value.int z)) (by unfold rNew; rw [zif_t ⟨h8, by omega, by omega⟩, zif_t h35]; first | rw [zif_t h45] | exact (zif_f h45).symm)⟩
        · refine z_ldc dX2_refusalOfNew_38 kX2_74 ?_
          exact z_iret dX2_refusalOfNew_40 ⟨Nat.le_refl _, Nat.le_refl _⟩ rfl ⟨rfl, rfl, rfl, rfl, congrArg (fun z => some (Value.int z)) (by unfold rNew; rw [zif_t ⟨h8, by omega, by omega⟩, zif_f h35])⟩
      · refine z_ldc dX2_refusalOfNew_22 kX2_69 ?_
        exact z_iret dX2_refusalOfNew_24 ⟨Nat.le_refl _, Nat.le_refl _⟩ rfl ⟨rfl, rfl, rfl, rfl, congrArg (fun z => some (Value.int z)) (by unfold rNew; rw [zif_f (fun q => by first | exact h8 q.1 | (have q1 := q.2.1; have q2 := q.2.2; omega))])⟩
set_option maxRecDepth 100000 in
set_option maxHeartbeats 4000000 in
theorem c_isCutAt {S : zS} {R : zMR} (I : zMI) (L : zML) {b : Nat} {v : Ly} (hb : zLay S R b) (hv : zCLy I b v) (ho : lyOk v) {j : Nat} {sh : Sh} (hsh : v.1[j]? = some sh) (x : Nat) (hx : x < 15) : zM0 yX2_isCutAt cX2_isCutAt 3 (some .boolean) 1 [.ref b, .int (nI j), .int (nI x)] S I L R (zPure I L (zb (x ∈ sc sh))) := by
  refine zM0_of (own := RX2) (lv := [some (.ref b), some (.int (nI j)), some (.int (nI x))]) rfl (by decide) rfl rfl ?_
  have hl := ho.1
  have hj := getS_lt hsh
  have hso := ho.sh hsh
  obtain ⟨o1, o2, o3, o4, o5⟩ := id hso
  have hc := cm_lt (sc sh)
  refine z_aload_n dX2_isCutAt_0 rfl ?_
  refine z_getr dX2_isCutAt_1 fX2_24 hb.o hb.r4 ?_
  refine z_iload_n dX2_isCutAt_4 rfl ?_
  refine z_iaN dX2_isCutAt_5 hb.a4 (by omega) (by decide) ?_
  refine z_top ((hv.2.1 j sh hsh).2.2.2.2) ?_
  refine z_iload_n dX2_isCutAt_6 rfl ?_
  refine z_bit dX2_isCutAt_7 dX2_isCutAt_8 (by decide) dX2_isCutAt_9 (by omega) (by omega) ?_
  refine z_if_eqT (tgt := 17) dX2_isCutAt_10 (by decide) (fun h10 => ?_) (fun h10 => ?_)
  · refine z_iconst (nI 0) dX2_isCutAt_17 (by decide) ?_
    exact z_iret dX2_isCutAt_18 ⟨Nat.le_refl _, Nat.le_refl _⟩ (by first | exact zb_nar _ | rfl) ⟨rfl, rfl, rfl, rfl, congrArg (fun z => some (Value.int z)) (by first | exact zb_1 (by rw [cm_bit] at h10; simpa [hx] using h10) | exact zb_0 (by rw [cm_bit] at h10; simpa [hx] using h10) | exact zb_c (by rw [cm_bit] at h10; simpa [hx] using h10))⟩
  · refine z_iconst (nI 1) dX2_isCutAt_13 (by decide) ?_
    refine z_goto (tgt := 18) dX2_isCutAt_14 (by decide) ?_
    exact z_iret dX2_isCutAt_18 ⟨Nat.le_refl _, Nat.le_refl _⟩ (by first | exact zb_nar _ | rfl) ⟨rfl, rfl, rfl, rfl, congrArg (fun z => some (Value.int z)) (by first | exact zb_1 (by rw [cm_bit] at h10; simpa [hx] using h10) | exact zb_0 (by rw [cm_bit] at h10; simpa [hx] using h10) | exact zb_c (by rw [cm_bit] at h10; simpa [hx] using h10))⟩
