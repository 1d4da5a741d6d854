def okc (x2 : Nat) : Nat → List Nat → Prop
  | l, [] => l ≤ x2
  | l, a :: t => l ≤ a ∧ okc x2 (a + 1) t
theorem cOk.okc {x x2 : Nat} {c : List Nat} (h : cOk x x2 c) (hx : x ≤ x2) : okc x2 x c := by
  rcases h with rfl | ⟨a, rfl, h1, h2⟩ | ⟨a, b, rfl, h1, h2, h3⟩
  · exact hx
  · exact ⟨h1, h2⟩
  · exact ⟨h1, h2, h3⟩
theorem cL.ne0 {a : Nat} {t : List Nat} (h : cL (a :: t)) : cm (a :: t) ≠ 0 := by
  rcases h with h | ⟨x, h, h1⟩ | ⟨x, y, h, h1, h2⟩
  · cases h
  · cases h; exact cm_ne0_1 a h1
  · cases h; exact cm_ne0_2 y h2 a h1
theorem cL.tl {a : Nat} {t : List Nat} (h : cL (a :: t)) : cL t := by
  rcases h with h | ⟨x, h, h1⟩ | ⟨x, y, h, h1, h2⟩
  · cases h
  · cases h; exact Or.inl rfl
  · cases h; exact Or.inr (Or.inl ⟨y, rfl, h2⟩)
theorem zAd_0 {I : zMI} {b : Nat} (st cl : Nat) : zAd I (zu (zu (zu I b 8 (nI 0)) b 9 (nI st)) b 10 (nI cl)) b [] st cl := by
  refine ⟨⟨by simp [zu], fun p c h => by simp at h⟩, fun p h => by simp at h, by simp [zu], by simp [zu], fun p hp => by rw [zu_ne (by omega), zu_ne (by omega), zu_ne (by omega)]⟩
theorem zCat_4 {a : Option Value} {x1 x2 x3 : Value} (h : zCat [a] = true) (h1 : x1.category = 1 := by rfl) (h2 : x2.category = 1 := by rfl) (h3 : x3.category = 1 := by rfl) : zCat [some x1, some x2, some x3, a] = true := by
  simp only [zCat, List.all_cons, Bool.and_eq_true] at h ⊢
  exact ⟨by rw [h1]; rfl, by rw [h2]; rfl, by rw [h3]; rfl, h⟩
theorem zCat_7 {a : Option Value} {x1 x2 x3 x4 x5 x6 : Value} (h : zCat [a] = true) (h1 : x1.category = 1 := by rfl) (h2 : x2.category = 1 := by rfl) (h3 : x3.category = 1 := by rfl) (h4 : x4.category = 1 := by rfl) (h5 : x5.category = 1 := by rfl) (h6 : x6.category = 1 := by rfl) : zCat [some x1, some x2, some x3, some x4, some x5, some x6, a] = true := by
  simp only [zCat, List.all_cons, Bool.and_eq_true] at h ⊢
  exact ⟨by rw [h1]; rfl, by rw [h2]; rfl, by rw [h3]; rfl, by rw [h4]; rfl, by rw [h5]; rfl, by rw [h6]; rfl, h⟩
set_option maxRecDepth 100000 in
set_option maxHeartbeats 4000000 in
theorem lay_in {S : zS} {R : zMR} (I : zMI) (L : zML) {b o : Nat} {v : Ly} (hb : zPcs S R b) (hob : zLay S R o) (hw : zCLy I o v) (ho : lyOk v) (hd : o + 5 < b ∨ b + 8 < o) {i : Nat} {sh : Sh} (hsh : v.1[i]? = some sh) : ∀ (c : List Nat) (k l : Nat) (ps : List Pc) (J : zMI) (a6 : Option Value), k + c.length ≤ 2 → cL c → okc (sx2 sh) l c → ps.length + c.length + 1 ≤ 14 → zCat [a6] = true → zAd I J b ps (lST v) (lCL v) → (∀ (J : zMI) (a3 a4 a5 a6 : Option Value), zCat [a3, a4, a5, a6] = true → zAd I J b (ps ++ pcF i l c (sx2 sh) (sy sh) (sy2 sh)) (lST v) (lCL v) → zV (zMt RX4 cX4_lay 7 none 4) (fun S2 I2 L2 R2 rr => S2 = S ∧ R2 = R ∧ (zPv L (fun I2 => zPC I2 b (pcs v.1) (lD v) (lST v) (lCL v) ∧ ∀ p, (p < b ∨ b + 8 < p) → I2 p = I p)) I2 L2 rr) (0, 0) S J L R 107 [some (.ref b), some (.ref o), some (.int (nI i)), a3, a4, a5, a6] []) → zV (zMt RX4 cX4_lay 7 none 4) (fun S2 I2 L2 R2 rr => S2 = S ∧ R2 = R ∧ (zPv L (fun I2 => zPC I2 b (pcs v.1) (lD v) (lST v) (lCL v) ∧ ∀ p, (p < b ∨ b + 8 < p) → I2 p = I p)) I2 L2 rr) (0, 0) S J L R 49 [some (.ref b), some (.ref o), some (.int (nI i)), some (.int (nI l)), some (.int (nI (cm c))), some (.int (nI k)), a6] [] := by
  intro c
  induction c with
  | nil =>
    intro k l ps J a6 hk hcL hc hlen h6 hA hK
    have hl := ho.1
    have hj := getS_lt hsh
    obtain ⟨o1, o2, o3, o4, o5⟩ := ho.sh hsh
    have hwJ : zCLy J o v := hw.frame (fun p q1 q2 => hA.2.2.2.2 p (by omega))
    have hk2 : k ≤ 2 := by have := hk; simp at this; exact this
    have hc0 := cm_nil
    have hlen2 : ps.length + 1 ≤ 14 := by have := hlen; simp at this; omega
    refine z_iload dX4_lay_49 rfl ?_
    refine z_iconst (nI 2) dX4_lay_51 (by decide) ?_
    refine z_icmp_geNN (tgt := 94) dX4_lay_52 (by decide) (by omega) (by omega) (fun h52 => ?_) (fun h52 => ?_)
    · refine z_aload_n dX4_lay_94 rfl ?_
      refine z_aload_n dX4_lay_95 rfl ?_
      refine z_iload_n dX4_lay_96 rfl ?_
      refine z_iload_n dX4_lay_97 rfl ?_
      refine z_aload_n dX4_lay_98 rfl ?_
      refine z_getr dX4_lay_99 fX4_68 hob.o hob.r2 ?_
      refine z_iload_n dX4_lay_102 rfl ?_
      refine z_iaN dX4_lay_103 hob.a2 (by omega) (by decide) ?_
      refine z_top ((show _ = nI (sx2 sh) from (hwJ.2.1 i sh hsh).2.2.1)) ?_
      refine z_callV4v dX4_lay_104 mX4_61 hb.o (c_add I J L hb hob hA hwJ ho hd hsh hc (by omega)) (by decide) (Nat.le_of_ble_eq_true rfl) ⟨Nat.le_refl _, Nat.le_refl _⟩ (fun J2 hJ2 => ?_)
      exact hK J2 _ _ _ _ (zCat_4 h6) hJ2
    · refine z_iload dX4_lay_55 rfl ?_
      refine z_if_eqN (tgt := 94) dX4_lay_57 (by decide) (by rw [cm_nil]; omega) (fun h57 => ?_) (fun h57 => absurd h57 (by rw [cm_nil]; omega))
      refine z_aload_n dX4_lay_94 rfl ?_
      refine z_aload_n dX4_lay_95 rfl ?_
      refine z_iload_n dX4_lay_96 rfl ?_
      refine z_iload_n dX4_lay_97 rfl ?_
      refine z_aload_n dX4_lay_98 rfl ?_
      refine z_getr dX4_lay_99 fX4_68 hob.o hob.r2 ?_
      refine z_iload_n dX4_lay_102 rfl ?_
      refine z_iaN dX4_lay_103 hob.a2 (by omega) (by decide) ?_
      refine z_top ((show _ = nI (sx2 sh) from (hwJ.2.1 i sh hsh).2.2.1)) ?_
      refine z_callV4v dX4_lay_104 mX4_61 hb.o (c_add I J L hb hob hA hwJ ho hd hsh hc (by omega)) (by decide) (Nat.le_of_ble_eq_true rfl) ⟨Nat.le_refl _, Nat.le_refl _⟩ (fun J2 hJ2 => ?_)
      exact hK J2 _ _ _ _ (zCat_4 h6) hJ2
  | cons a t ih =>
    intro k l ps J a6 hk hcL hc hlen h6 hA hK
    have hl := ho.1
    have hj := getS_lt hsh
    obtain ⟨o1, o2, o3, o4, o5⟩ := ho.sh hsh
    have hwJ : zCLy J o v := hw.frame (fun p q1 q2 => hA.2.2.2.2 p (by omega))
    have hk2 : k ≤ 2 := by have := hk; omega
    have hc9 := cm_lt (a :: t)
    refine z_iload dX4_lay_49 rfl ?_
    refine z_iconst (nI 2) dX4_lay_51 (by decide) ?_
    refine z_icmp_geNN (tgt := 94) dX4_lay_52 (by decide) (by omega) (by omega) (fun h52 => absurd h52 (by rw [List.length_cons] at hk; omega)) (fun h52 => ?_)
    refine z_iload dX4_lay_55 rfl ?_
    refine z_if_eqN (tgt := 94) dX4_lay_57 (by decide) (by omega) (fun h57 => absurd h57 hcL.ne0) (fun h57 => ?_)
    refine z_iload dX4_lay_60 rfl ?_
    refine z_callSN1p dX4_lay_62 mX4_57 mX4_57_s (c_lowestOf J L hcL) (by decide) (Nat.le_of_ble_eq_true rfl) ⟨Nat.le_refl _, Nat.le_refl _⟩ ?_
    refine z_top ((show loC (a :: t) = nI a from rfl)) ?_
    refine z_ist6 dX4_lay_65 (zCat_7 h6) ?_
    refine z_aload_n dX4_lay_67 rfl ?_
    refine z_aload_n dX4_lay_68 rfl ?_
    refine z_iload_n dX4_lay_69 rfl ?_
    refine z_iload_n dX4_lay_70 rfl ?_
    refine z_iload dX4_lay_71 rfl ?_
    refine z_callV4v dX4_lay_73 mX4_61 hb.o (c_add I J L hb hob hA hwJ ho hd hsh hc.1 (by rw [List.length_cons] at hlen; omega)) (by decide) (Nat.le_of_ble_eq_true rfl) ⟨Nat.le_refl _, Nat.le_refl _⟩ (fun J2 hJ2 => ?_)
    refine z_iload dX4_lay_76 rfl ?_
    refine z_iconst (nI 1) dX4_lay_78 (by decide) ?_
    refine z_iaddN dX4_lay_79 ?_
    refine z_ist3 dX4_lay_80 rfl ?_
    refine z_iload dX4_lay_81 rfl ?_
    refine z_callSN1p dX4_lay_83 mX4_65 mX4_65_s (c_withoutLowest J2 L hcL) (by decide) (Nat.le_of_ble_eq_true rfl) ⟨Nat.le_refl _, Nat.le_refl _⟩ ?_
    refine z_top ((show nI (cm (a :: t).tail) = nI (cm t) from rfl)) ?_
    refine z_ist4 dX4_lay_86 rfl ?_
    refine z_iincN5 (n := 1) dX4_lay_88 rfl ?_
    refine z_goto (tgt := 49) dX4_lay_91 (by decide) ?_
    exact ih (k + 1) (a + 1) (ps ++ [(i, l, a, sy sh, sy2 sh)]) J2 _ (by rw [List.length_cons] at hk; omega) hcL.tl hc.2 (by rw [List.length_cons] at hlen; rw [List.length_append, List.length_singleton]; omega) rfl hJ2 (fun J3 a3 a4 a5 a6 h4 hJ3 => hK J3 a3 a4 a5 a6 h4 (by rw [List.append_assoc] at hJ3; exact hJ3))
theorem zCat_c {x : Value} {a b c d : Option Value} (h : zCat [a, b, c, d] = true) (hx : x.category = 1 := by rfl) : zCat [some x, b, c, d] = true ∧ zCat [a, some x, c, d] = true ∧ zCat [a, b, some x, d] = true := by
  simp only [zCat, List.all_cons, Bool.and_eq_true] at h ⊢
  exact ⟨⟨by rw [hx]; rfl, h.2⟩, ⟨h.1, by rw [hx]; rfl, h.2.2⟩, ⟨h.1, h.2.1, by rw [hx]; rfl, h.2.2.2⟩⟩
theorem zCat_d {a b c d : Option Value} (h : zCat [a, b, c, d] = true) : zCat [d] = true := by
  simp only [zCat, List.all_cons, Bool.and_eq_true] at h ⊢
  exact h.2.2.2
theorem zCat_p {x1 x2 x3 : Value} {l : List (Option Value)} (h : zCat l = true) (h1 : x1.category = 1 := by rfl) (h2 : x2.category = 1 := by rfl) (h3 : x3.category = 1 := by rfl) : zCat (some x1 :: some x2 :: some x3 :: l) = true := by
  simp only [zCat, List.all_cons, Bool.and_eq_true] at h ⊢
  exact ⟨by rw [h1]; rfl, by rw [h2]; rfl, by rw [h3]; rfl, h⟩
set_option maxRecDepth 100000 in
set_option maxHeartbeats 4000000 in
theorem lay_out {S : zS} {R : zMR} (I : zMI) (L : zML) {b o : Nat} {v : Ly} (hb : zPcs S R b) (hob : zLay S R o) (hw : zCLy I o v) (ho : lyOk v) (hd : o + 5 < b ∨ b + 8 < o) : ∀ (n : Nat) (i : Nat) (J : zMI) (a3 a4 a5 a6 : Option Value), v.1.length + 1 ≤ i + n → i ≤ v.1.length → zCat [a3, a4, a5, a6] = true → zAd I J b (pcs (v.1.take i)) (lST v) (lCL v) → zV (zMt RX4 cX4_lay 7 none 4) (fun S2 I2 L2 R2 rr => S2 = S ∧ R2 = R ∧ (zPv L (fun I2 => zPC I2 b (pcs v.1) (lD v) (lST v) (lCL v) ∧ ∀ p, (p < b ∨ b + 8 < p) → I2 p = I p)) I2 L2 rr) (0, 0) S J L R 23 [some (.ref b), some (.ref o), some (.int (nI i)), a3, a4, a5, a6] [] := by
  intro n
  induction n with
  | zero => intro i J a3 a4 a5 a6 h1 h2 h4 hA; omega
  | succ n ih =>
    intro i J a3 a4 a5 a6 h1 h2 h4 hA
    have hl := ho.1
    have hn14 := ho.2.2.1
    have hwJ : zCLy J o v := hw.frame (fun p q1 q2 => hA.2.2.2.2 p (by omega))
    refine z_iload_n dX4_lay_23 rfl ?_
    refine z_aload_n dX4_lay_24 rfl ?_
    refine z_geti dX4_lay_25 fX4_50 hob.o ?_
    refine z_top (hwJ.1) ?_
    refine z_icmp_geNN (tgt := 113) dX4_lay_28 (by decide) (by omega) (by omega) (fun h28 => ?_) (fun h28 => ?_)
    · rw [List.take_of_length_le h28] at hA
      have hps := pcs_ok ho
      refine z_aload_n dX4_lay_113 rfl ?_
      refine z_aload_n dX4_lay_114 rfl ?_
      refine z_geti dX4_lay_115 fX4_69 hob.o ?_
      refine z_top (hwJ.2.2.1) ?_
      refine z_aload_n dX4_lay_118 rfl ?_
      refine z_geti dX4_lay_119 fX4_69 hob.o ?_
      refine z_top (hwJ.2.2.1) ?_
      refine z_imulN dX4_lay_122 ?_
      refine z_callV1v dX4_lay_123 mX4_72 hb.o (c_link I J L hb hps ho.2.2.2.2.2.1 hA) (by decide) (Nat.le_of_ble_eq_true rfl) ⟨Nat.le_refl _, Nat.le_refl _⟩ (fun J2 hJ2 => ?_)
      exact z_ret dX4_lay_126 ⟨Nat.le_refl _, Nat.le_refl _⟩ rfl ⟨rfl, rfl, rfl, hJ2, rfl⟩
    · obtain ⟨sh, hsh⟩ := getS h28
      obtain ⟨o1, o2, o3, o4, o5⟩ := id (ho.sh hsh)
      have hnp := np_take_succ hsh
      have hnp2 := np_take_le v.1 (i + 1)
      refine z_aload_n dX4_lay_31 rfl ?_
      refine z_getr dX4_lay_32 fX4_53 hob.o hob.r0 ?_
      refine z_iload_n dX4_lay_35 rfl ?_
      refine z_iaN dX4_lay_36 hob.a0 (by omega) (by decide) ?_
      refine z_top ((hwJ.2.1 i sh hsh).1) ?_
      refine z_ist3 dX4_lay_37 (zCat_p h4) ?_
      refine z_aload_n dX4_lay_38 rfl ?_
      refine z_getr dX4_lay_39 fX4_54 hob.o hob.r4 ?_
      refine z_iload_n dX4_lay_42 rfl ?_
      refine z_iaN dX4_lay_43 hob.a4 (by omega) (by decide) ?_
      refine z_top ((hwJ.2.1 i sh hsh).2.2.2.2) ?_
      refine z_ist4 dX4_lay_44 (zCat_p (zCat_c h4).1) ?_
      refine z_iconst (nI 0) dX4_lay_46 (by decide) ?_
      refine z_ist5 dX4_lay_47 (zCat_p (zCat_c (zCat_c h4).1).2.1) ?_
      refine lay_in I L hb hob hw ho hd hsh (sc sh) 0 (sx sh) (pcs (v.1.take i)) J a6 (by have := cOk_len o5; omega) (o5.cL o2) (o5.okc o1) (by rw [pcs_len]; omega) (zCat_d h4) hA (fun J a3 a4 a5 a6 h4 hJ => ?_)
      refine z_iincN2 (n := 1) dX4_lay_107 (zCat_p h4) ?_
      refine z_goto (tgt := 23) dX4_lay_110 (by decide) ?_
      exact ih (i + 1) J a3 a4 a5 a6 (by omega) (by omega) h4 (by rw [pcs_take_succ hsh]; exact hJ)
set_option maxRecDepth 100000 in
set_option maxHeartbeats 4000000 in
theorem c_lay {S : zS} {R : zMR} (I : zMI) (L : zML) {b o : Nat} {v : Ly} (hb : zPcs S R b) (hob : zLay S R o) (hw : zCLy I o v) (ho : lyOk v) (hd : o + 5 < b ∨ b + 8 < o) : zM0 yX4_lay cX4_lay 7 none 4 [.ref b, .ref o] S I L R (zPv L (fun I2 => zPC I2 b (pcs v.1) (lD v) (lST v) (lCL v) ∧ ∀ p, (p < b ∨ b + 8 < p) → I2 p = I p)) := by
  refine zM0_of (own := RX4) (lv := [some (.ref b), some (.ref o), none, none, none, none, none]) rfl (by decide) rfl rfl ?_
  refine z_aload_n dX4_lay_0 rfl ?_
  refine z_iconst (nI 0) dX4_lay_1 (by decide) ?_
  refine z_puti dX4_lay_2 fX4_36 hb.o ?_
  refine z_aload_n dX4_lay_5 rfl ?_
  refine z_aload_n dX4_lay_6 rfl ?_
  refine z_geti dX4_lay_7 fX4_46 hob.o ?_
  refine z_top ((show _ = nI (lST v) from by rw [zu_nk (Or.inl (by omega))]; exact hw.2.2.2.1)) ?_
  refine z_puti dX4_lay_10 fX4_40 hb.o ?_
  refine z_aload_n dX4_lay_13 rfl ?_
  refine z_aload_n dX4_lay_14 rfl ?_
  refine z_geti dX4_lay_15 fX4_49 hob.o ?_
  refine z_top ((show _ = nI (lCL v) from by rw [zu_nk (Or.inl (by omega)), zu_nk (Or.inl (by omega))]; exact hw.2.2.2.2.1)) ?_
  refine z_puti dX4_lay_18 fX4_43 hb.o ?_
  refine z_iconst (nI 0) dX4_lay_21 (by decide) ?_
  refine z_ist2 dX4_lay_22 rfl ?_
  exact lay_out I L hb hob hw ho hd (v.1.length + 1) 0 _ none none none none (by omega) (by omega) rfl (zAd_0 _ _)
