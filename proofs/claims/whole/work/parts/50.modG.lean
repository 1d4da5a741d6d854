theorem z_rl {g : zG} {Post : zPost} {u : Nat × Nat} {S : zS} {I : zMI} {L : zML} {R : zMR} {pc : Nat} {a0 a1 a2 a3 a4 a6 a7 a8 : Option Value} {x y : Nat} (h : y = x) (k : zV g Post u S I L R pc [a0, a1, a2, a3, a4, some (.int (nI y)), a6, a7, a8] []) : zV g Post u S I L R pc [a0, a1, a2, a3, a4, some (.int (nI x)), a6, a7, a8] [] := by rw [← h]; exact k
set_option maxRecDepth 100000 in
set_option maxHeartbeats 4000000 in
theorem m_hangA_in {S : zS} {R : zMR} (I : zMI) (L : zML) {ps : List Pc} {D : Nat} (hM : zMO S R) (ho : psOk ps) (hP : zPM I ps D) (f w : Nat) (hf : f < 2 ^ ps.length) (hw : w < 16384) {Post0 : zPost} (s : Nat) (hs : s < 16384) (hK : ∀ a7 a8, zCat [a7] = true → zCat [a8] = true → zV (zMt RX6 cX6_hang 9 (some .int) 1) Post0 (0, 0) S I L R 113 [some (.ref 96), some (.int (nI f)), some (.int (nI w)), some (.int (-1)), some (.int (-1)), some (.int (nI (swp (lkW (lkb ps D) w) ps.length s))), some (.int (nI s)), a7, a8] [])  : ∀ (n : Nat) (k : Nat) (a8 : Option Value), ps.length + 1 ≤ k + n → k ≤ ps.length → zCat [a8] = true → zV (zMt RX6 cX6_hang 9 (some .int) 1) Post0 (0, 0) S I L R 20 [some (.ref 96), some (.int (nI f)), some (.int (nI w)), some (.int (-1)), some (.int (-1)), some (.int (nI (swp (lkW (lkb ps D) w) k s))), some (.int (nI s)), some (.int (nI k)), a8] [] := by
  intro n
  induction n with
  | zero => intro k a8 h1 h2 h8; omega
  | succ n ih =>
    intro k a8 h1 h2 h8
    have hlen := ho.1
    have hsk := swp_lt (A := (lkW (lkb ps D) w)) hs k
    refine z_iload dX6_hang_20 rfl ?_
    refine z_aload_n dX6_hang_22 rfl ?_
    refine z_geti dX6_hang_23 fX6_49 hM.o ?_
    refine z_top (hP.1.1) ?_
    refine z_icmp_geNN (tgt := 113) dX6_hang_26 (by decide) (by omega) (by omega) (fun h26 => ?_) (fun h26 => ?_)
    · have e : k = ps.length := by omega
      subst e
      exact hK _ _ rfl h8
    · refine z_aload_n dX6_hang_29 rfl ?_
      refine z_getr dX6_hang_30 fX6_32 hM.o hM.r9 ?_
      refine z_iload dX6_hang_33 rfl ?_
      refine z_iaN dX6_hang_35 hM.a9 (by omega) (by decide) ?_
      refine z_top ((hP.2 k h26).1) ?_
      refine z_aload_n dX6_hang_36 rfl ?_
      refine z_getr dX6_hang_37 fX6_35 hM.o hM.r10 ?_
      refine z_iload dX6_hang_40 rfl ?_
      refine z_iaN dX6_hang_42 hM.a10 (by omega) (by decide) ?_
      refine z_top ((hP.2 k h26).2) ?_
      refine z_iorN dX6_hang_43 ?_
      refine z_ist8 dX6_hang_44 (by repeat first | rfl | assumption | refine zCat_s ?_ | refine zCat_a ?_ ?_) ?_
      refine z_iload dX6_hang_46 rfl ?_
      refine z_iload dX6_hang_48 rfl ?_
      refine z_iload_n dX6_hang_50 rfl ?_
      refine z_icmp_ne (tgt := 63) dX6_hang_51 (by decide) (fun h51 => ?_) (fun h51 => absurd h51 (nI_nem (by omega)))
      refine z_iload dX6_hang_63 rfl ?_
      refine z_iload dX6_hang_65 rfl ?_
      refine z_icmp_ne (tgt := 78) dX6_hang_67 (by decide) (fun h67 => ?_) (fun h67 => absurd h67 (nI_nem (by omega)))
      refine z_iconst (-1) dX6_hang_78 (by decide) ?_
      refine z_iand dX6_hang_79 (z_top (nI_andm _) ?_)
      refine z_ist8 dX6_hang_80 (by repeat first | rfl | assumption | refine zCat_s ?_ | refine zCat_a ?_ ?_) ?_
      refine z_iload dX6_hang_82 rfl ?_
      refine z_iload dX6_hang_84 rfl ?_
      refine z_iload dX6_hang_86 rfl ?_
      refine z_callS2p dX6_hang_88 mX6_68 (m_has I L _ k (by omega) (by omega)) (by decide) (Nat.le_of_ble_eq_true rfl) ⟨Nat.le_refl _, Nat.le_refl _⟩ ?_
      refine z_if_eqB (tgt := 103) dX6_hang_91 (by decide) (fun h91 => ?_) (fun h91 => ?_)
      · refine z_iconst (nI 0) dX6_hang_103 (by decide) ?_
        refine z_iorN dX6_hang_104 ?_
        refine z_ist5 dX6_hang_105 (by repeat first | rfl | assumption | refine zCat_s ?_ | refine zCat_a ?_ ?_) ?_
        refine z_iincN7 (n := 1) dX6_hang_107 (by repeat first | rfl | assumption | refine zCat_s ?_ | refine zCat_a ?_ ?_) ?_
        refine z_goto (tgt := 20) dX6_hang_110 (by decide) ?_
        refine z_rl ?_ (ih (k + 1) _ (by omega) (by omega) rfl)
        rw [swp]
        first | rw [if_pos h91, ← rowW, ← row_or] | rw [if_neg h91, Nat.or_zero]
      · refine z_iload dX6_hang_94 rfl ?_
        refine z_iload_n dX6_hang_96 rfl ?_
        refine z_iconst (-1) dX6_hang_97 (by decide) ?_
        refine z_ixor dX6_hang_98 ?_
        refine z_iand dX6_hang_99 (z_top (nI_andn _ _) ?_)
        refine z_goto (tgt := 104) dX6_hang_100 (by decide) ?_
        refine z_iorN dX6_hang_104 ?_
        refine z_ist5 dX6_hang_105 (by repeat first | rfl | assumption | refine zCat_s ?_ | refine zCat_a ?_ ?_) ?_
        refine z_iincN7 (n := 1) dX6_hang_107 (by repeat first | rfl | assumption | refine zCat_s ?_ | refine zCat_a ?_ ?_) ?_
        refine z_goto (tgt := 20) dX6_hang_110 (by decide) ?_
        refine z_rl ?_ (ih (k + 1) _ (by omega) (by omega) rfl)
        rw [swp]
        first | rw [if_pos h91, ← rowW, ← row_or] | rw [if_neg h91, Nat.or_zero]
set_option maxRecDepth 100000 in
set_option maxHeartbeats 4000000 in
theorem m_hangA_out {S : zS} {R : zMR} (I : zMI) (L : zML) {ps : List Pc} {D : Nat} (hM : zMO S R) (ho : psOk ps) (hP : zPM I ps D) (f w : Nat) (hf : f < 2 ^ ps.length) (hw : w < 16384) : ∀ (n : Nat) (s t : Nat) (a7 a8 : Option Value), (if s = t then 15 else 16) ≤ popc 14 s + n → s < 16384 → t < 16384 → zCat [a7] = true → zCat [a8] = true → hgI (lkW (lkb ps D) w) f s → (s = t → clo (lkW (lkb ps D) w) s) → zV (zMt RX6 cX6_hang 9 (some .int) 1) (fun S2 I2 L2 R2 rr => S2 = S ∧ R2 = R ∧ (zPure I L (nI (reach (lkW (lkb ps D) w) ps.length f (2 ^ ps.length - 1)))) I2 L2 rr) (0, 0) S I L R 6 [some (.ref 96), some (.int (nI f)), some (.int (nI w)), some (.int (-1)), some (.int (-1)), some (.int (nI s)), some (.int (nI t)), a7, a8] [] := by
  intro n
  induction n with
  | zero => intro s t a7 a8 h1 hs ht h7 h8 hI hc; have := popc_le 14 s; split at h1 <;> omega
  | succ n ih =>
    intro s t a7 a8 h1 hs ht h7 h8 hI hc
    have hlen := ho.1
    refine z_iload dX6_hang_6 rfl ?_
    refine z_iload dX6_hang_8 rfl ?_
    refine z_icmp_eqNN (tgt := 116) dX6_hang_10 (by decide) (by omega) (by omega) (fun h10 => ?_) (fun h10 => ?_)
    · refine z_iload dX6_hang_116 rfl ?_
      subst h10
      exact z_iret dX6_hang_118 ⟨Nat.le_refl _, Nat.le_refl _⟩ rfl ⟨rfl, rfl, rfl, rfl, congrArg (fun z => some (Value.int z)) (congrArg nI (cls_uniq ⟨hI.1, hc rfl, hI.2⟩ (reach_all hlen (lkW_adj (lkb_adj ps D) w) hf)))⟩
    · refine z_iload dX6_hang_13 rfl ?_
      refine z_ist6 dX6_hang_15 (by repeat first | rfl | assumption | refine zCat_s ?_ | refine zCat_a ?_ ?_) ?_
      refine z_iconst (nI 0) dX6_hang_17 (by decide) ?_
      refine z_ist7 dX6_hang_18 (by repeat first | rfl | assumption | refine zCat_s ?_ | refine zCat_a ?_ ?_) ?_
      refine m_hangA_in I L hM ho hP f w hf hw s hs ?_ (ps.length + 1) 0 _ (by omega) (by omega) h8
      intro b7 b8 h7 h8
      refine z_goto (tgt := 6) dX6_hang_113 (by decide) ?_
      refine ih (swp (lkW (lkb ps D) w) ps.length s) s b7 b8 ?_ (swp_lt hs _) hs h7 h8 (hgI_s hI _) (fun e => swp_clo hlen (lkW_adj (lkb_adj ps D) w) e |> fun z => by rw [e]; exact z)
      by_cases e : swp (lkW (lkb ps D) w) ps.length s = s
      · rw [if_pos e, e]; rw [if_neg h10] at h1; omega
      · have z := pop_lt (by have := swp_sub (lkW (lkb ps D) w) s 0 ps.length; rw [Nat.zero_add] at this; exact this) (fun q => e q.symm) (swp_lt (A := (lkW (lkb ps D) w)) hs ps.length)
        rw [if_neg e]; rw [if_neg h10] at h1; omega
set_option maxRecDepth 100000 in
set_option maxHeartbeats 4000000 in
theorem m_hangA {S : zS} {R : zMR} (I : zMI) (L : zML) {ps : List Pc} {D : Nat} (hM : zMO S R) (ho : psOk ps) (hP : zPM I ps D) (f w : Nat) (hf : f < 2 ^ ps.length) (hw : w < 16384) : zM0 yX6_hang cX6_hang 9 (some .int) 1 [.ref 96, .int (nI f), .int (nI w), .int (-1), .int (-1)] S I L R (zPure I L (nI (reach (lkW (lkb ps D) w) ps.length f (2 ^ ps.length - 1)))) := by
  refine zM0_of (own := RX6) (lv := [some (.ref 96), some (.int (nI f)), some (.int (nI w)), some (.int (-1)), some (.int (-1)), none, none, none, none]) rfl (by decide) rfl rfl ?_
  refine z_iload_n dX6_hang_0 rfl ?_
  refine z_ist5 dX6_hang_1 rfl ?_
  refine z_iconst (nI 0) dX6_hang_3 (by decide) ?_
  refine z_ist6 dX6_hang_4 rfl ?_
  refine m_hangA_out I L hM ho hP f w hf hw 16 f 0 none none (by split <;> omega) (Nat.lt_of_lt_of_le hf (Nat.pow_le_pow_right (n := 2) (by decide) ho.1)) (by omega) rfl rfl ⟨sbs_rfl f, fun Y h1 _ => h1⟩ (fun e => ?_)
  subst e
  intro a b ha
  rw [Nat.zero_testBit] at ha
  cases ha
set_option maxRecDepth 100000 in
set_option maxHeartbeats 4000000 in
theorem m_hangX_in {S : zS} {R : zMR} (I : zMI) (L : zML) {ps : List Pc} {D : Nat} (hM : zMO S R) (ho : psOk ps) (hP : zPM I ps D) (f p q : Nat) (hf : f < 2 ^ ps.length) (hp : p < ps.length) (hq : q < ps.length) (hpq : p ≠ q) {Post0 : zPost} (s : Nat) (hs : s < 16384) (hK : ∀ a7 a8, zCat [a7] = true → zCat [a8] = true → zV (zMt RX6 cX6_hang 9 (some .int) 1) Post0 (0, 0) S I L R 113 [some (.ref 96), some (.int (nI f)), some (.int (nI 0)), some (.int (nI p)), some (.int (nI q)), some (.int (nI (swp (lkX (lkb ps D) p q) ps.length s))), some (.int (nI s)), a7, a8] [])  : ∀ (n : Nat) (k : Nat) (a8 : Option Value), ps.length + 1 ≤ k + n → k ≤ ps.length → zCat [a8] = true → zV (zMt RX6 cX6_hang 9 (some .int) 1) Post0 (0, 0) S I L R 20 [some (.ref 96), some (.int (nI f)), some (.int (nI 0)), some (.int (nI p)), some (.int (nI q)), some (.int (nI (swp (lkX (lkb ps D) p q) k s))), some (.int (nI s)), some (.int (nI k)), a8] [] := by
  intro n
  induction n with
  | zero => intro k a8 h1 h2 h8; omega
  | succ n ih =>
    intro k a8 h1 h2 h8
    have hlen := ho.1
    have hsk := swp_lt (A := (lkX (lkb ps D) p q)) hs k
    refine z_iload dX6_hang_20 rfl ?_
    refine z_aload_n dX6_hang_22 rfl ?_
    refine z_geti dX6_hang_23 fX6_49 hM.o ?_
    refine z_top (hP.1.1) ?_
    refine z_icmp_geNN (tgt := 113) dX6_hang_26 (by decide) (by omega) (by omega) (fun h26 => ?_) (fun h26 => ?_)
    · have e : k = ps.length := by omega
      subst e
      exact hK _ _ rfl h8
    · refine z_aload_n dX6_hang_29 rfl ?_
      refine z_getr dX6_hang_30 fX6_32 hM.o hM.r9 ?_
      refine z_iload dX6_hang_33 rfl ?_
      refine z_iaN dX6_hang_35 hM.a9 (by omega) (by decide) ?_
      refine z_top ((hP.2 k h26).1) ?_
      refine z_aload_n dX6_hang_36 rfl ?_
      refine z_getr dX6_hang_37 fX6_35 hM.o hM.r10 ?_
      refine z_iload dX6_hang_40 rfl ?_
      refine z_iaN dX6_hang_42 hM.a10 (by omega) (by decide) ?_
      refine z_top ((hP.2 k h26).2) ?_
      refine z_iorN dX6_hang_43 ?_
      refine z_ist8 dX6_hang_44 (by repeat first | rfl | assumption | refine zCat_s ?_ | refine zCat_a ?_ ?_) ?_
      refine z_iload dX6_hang_46 rfl ?_
      refine z_iload dX6_hang_48 rfl ?_
      refine z_iload_n dX6_hang_50 rfl ?_
      refine z_icmp_neNN (tgt := 63) dX6_hang_51 (by decide) (by omega) (by omega) (fun h51 => ?_) (fun h51 => ?_)
      · refine z_iload dX6_hang_63 rfl ?_
        refine z_iload dX6_hang_65 rfl ?_
        refine z_icmp_neNN (tgt := 78) dX6_hang_67 (by decide) (by omega) (by omega) (fun h67 => ?_) (fun h67 => ?_)
        · refine z_iconst (-1) dX6_hang_78 (by decide) ?_
          refine z_iand dX6_hang_79 (z_top (nI_andm _) ?_)
          refine z_ist8 dX6_hang_80 (by repeat first | rfl | assumption | refine zCat_s ?_ | refine zCat_a ?_ ?_) ?_
          refine z_iload dX6_hang_82 rfl ?_
          refine z_iload dX6_hang_84 rfl ?_
          refine z_iload dX6_hang_86 rfl ?_
          refine z_callS2p dX6_hang_88 mX6_68 (m_has I L _ k (by omega) (by omega)) (by decide) (Nat.le_of_ble_eq_true rfl) ⟨Nat.le_refl _, Nat.le_refl _⟩ ?_
          refine z_if_eqB (tgt := 103) dX6_hang_91 (by decide) (fun h91 => ?_) (fun h91 => ?_)
          · refine z_iconst (nI 0) dX6_hang_103 (by decide) ?_
            refine z_iorN dX6_hang_104 ?_
            refine z_ist5 dX6_hang_105 (by repeat first | rfl | assumption | refine zCat_s ?_ | refine zCat_a ?_ ?_) ?_
            refine z_iincN7 (n := 1) dX6_hang_107 (by repeat first | rfl | assumption | refine zCat_s ?_ | refine zCat_a ?_ ?_) ?_
            refine z_goto (tgt := 20) dX6_hang_110 (by decide) ?_
            refine z_rl ?_ (ih (k + 1) _ (by omega) (by omega) rfl)
            rw [swp]
            first | (rw [if_neg h91, Nat.or_zero]) | (subst h51; rw [if_pos h91, ← rowX_p.resolve_right hpq, row_or]) | (subst h67; rw [if_pos h91, ← rowX_q hpq, row_or]) | (rw [if_pos h91, ← rowX_n h51 h67, row_or])
          · refine z_iload dX6_hang_94 rfl ?_
            refine z_iload_n dX6_hang_96 rfl ?_
            refine z_iconst (-1) dX6_hang_97 (by decide) ?_
            refine z_ixor dX6_hang_98 ?_
            refine z_iand dX6_hang_99 (z_top (nI_andn _ _) ?_)
            refine z_goto (tgt := 104) dX6_hang_100 (by decide) ?_
            refine z_iorN dX6_hang_104 ?_
            refine z_ist5 dX6_hang_105 (by repeat first | rfl | assumption | refine zCat_s ?_ | refine zCat_a ?_ ?_) ?_
            refine z_iincN7 (n := 1) dX6_hang_107 (by repeat first | rfl | assumption | refine zCat_s ?_ | refine zCat_a ?_ ?_) ?_
            refine z_goto (tgt := 20) dX6_hang_110 (by decide) ?_
            refine z_rl ?_ (ih (k + 1) _ (by omega) (by omega) rfl)
            rw [swp]
            first | (rw [if_neg h91, Nat.or_zero]) | (subst h51; rw [if_pos h91, ← rowX_p.resolve_right hpq, row_or]) | (subst h67; rw [if_pos h91, ← rowX_q hpq, row_or]) | (rw [if_pos h91, ← rowX_n h51 h67, row_or])
        · refine z_iconst (nI 1) dX6_hang_70 (by decide) ?_
          refine z_iload_n dX6_hang_71 rfl ?_
          refine z_shl1 dX6_hang_72 (by omega) ?_
          refine z_iconst (-1) dX6_hang_73 (by decide) ?_
          refine z_ixor dX6_hang_74 ?_
          refine z_goto (tgt := 79) dX6_hang_75 (by decide) ?_
          refine z_iand dX6_hang_79 (z_top (nI_andn _ _) ?_)
          refine z_ist8 dX6_hang_80 (by repeat first | rfl | assumption | refine zCat_s ?_ | refine zCat_a ?_ ?_) ?_
          refine z_iload dX6_hang_82 rfl ?_
          refine z_iload dX6_hang_84 rfl ?_
          refine z_iload dX6_hang_86 rfl ?_
          refine z_callS2p dX6_hang_88 mX6_68 (m_has I L _ k (by omega) (by omega)) (by decide) (Nat.le_of_ble_eq_true rfl) ⟨Nat.le_refl _, Nat.le_refl _⟩ ?_
          refine z_if_eqB (tgt := 103) dX6_hang_91 (by decide) (fun h91 => ?_) (fun h91 => ?_)
          · refine z_iconst (nI 0) dX6_hang_103 (by decide) ?_
            refine z_iorN dX6_hang_104 ?_
            refine z_ist5 dX6_hang_105 (by repeat first | rfl | assumption | refine zCat_s ?_ | refine zCat_a ?_ ?_) ?_
            refine z_iincN7 (n := 1) dX6_hang_107 (by repeat first | rfl | assumption | refine zCat_s ?_ | refine zCat_a ?_ ?_) ?_
            refine z_goto (tgt := 20) dX6_hang_110 (by decide) ?_
            refine z_rl ?_ (ih (k + 1) _ (by omega) (by omega) rfl)
            rw [swp]
            first | (rw [if_neg h91, Nat.or_zero]) | (subst h51; rw [if_pos h91, ← rowX_p.resolve_right hpq, row_or]) | (subst h67; rw [if_pos h91, ← rowX_q hpq, row_or]) | (rw [if_pos h91, ← rowX_n h51 h67, row_or])
          · refine z_iload dX6_hang_94 rfl ?_
            refine z_iload_n dX6_hang_96 rfl ?_
            refine z_iconst (-1) dX6_hang_97 (by decide) ?_
            refine z_ixor dX6_hang_98 ?_
            refine z_iand dX6_hang_99 (z_top (nI_andn _ _) ?_)
            refine z_goto (tgt := 104) dX6_hang_100 (by decide) ?_
            refine z_iorN dX6_hang_104 ?_
            refine z_ist5 dX6_hang_105 (by repeat first | rfl | assumption | refine zCat_s ?_ | refine zCat_a ?_ ?_) ?_
            refine z_iincN7 (n := 1) dX6_hang_107 (by repeat first | rfl | assumption | refine zCat_s ?_ | refine zCat_a ?_ ?_) ?_
            refine z_goto (tgt := 20) dX6_hang_110 (by decide) ?_
            refine z_rl ?_ (ih (k + 1) _ (by omega) (by omega) rfl)
            rw [swp]
            first | (rw [if_neg h91, Nat.or_zero]) | (subst h51; rw [if_pos h91, ← rowX_p.resolve_right hpq, row_or]) | (subst h67; rw [if_pos h91, ← rowX_q hpq, row_or]) | (rw [if_pos h91, ← rowX_n h51 h67, row_or])
      · refine z_iconst (nI 1) dX6_hang_54 (by decide) ?_
        refine z_iload dX6_hang_55 rfl ?_
        refine z_shl1 dX6_hang_57 (by omega) ?_
        refine z_iconst (-1) dX6_hang_58 (by decide) ?_
        refine z_ixor dX6_hang_59 ?_
        refine z_goto (tgt := 79) dX6_hang_60 (by decide) ?_
        refine z_iand dX6_hang_79 (z_top (nI_andn _ _) ?_)
        refine z_ist8 dX6_hang_80 (by repeat first | rfl | assumption | refine zCat_s ?_ | refine zCat_a ?_ ?_) ?_
        refine z_iload dX6_hang_82 rfl ?_
        refine z_iload dX6_hang_84 rfl ?_
        refine z_iload dX6_hang_86 rfl ?_
        refine z_callS2p dX6_hang_88 mX6_68 (m_has I L _ k (by omega) (by omega)) (by decide) (Nat.le_of_ble_eq_true rfl) ⟨Nat.le_refl _, Nat.le_refl _⟩ ?_
        refine z_if_eqB (tgt := 103) dX6_hang_91 (by decide) (fun h91 => ?_) (fun h91 => ?_)
        · refine z_iconst (nI 0) dX6_hang_103 (by decide) ?_
          refine z_iorN dX6_hang_104 ?_
          refine z_ist5 dX6_hang_105 (by repeat first | rfl | assumption | refine zCat_s ?_ | refine zCat_a ?_ ?_) ?_
          refine z_iincN7 (n := 1) dX6_hang_107 (by repeat first | rfl | assumption | refine zCat_s ?_ | refine zCat_a ?_ ?_) ?_
          refine z_goto (tgt := 20) dX6_hang_110 (by decide) ?_
          refine z_rl ?_ (ih (k + 1) _ (by omega) (by omega) rfl)
          rw [swp]
          first | (rw [if_neg h91, Nat.or_zero]) | (subst h51; rw [if_pos h91, ← rowX_p.resolve_right hpq, row_or]) | (subst h67; rw [if_pos h91, ← rowX_q hpq, row_or]) | (rw [if_pos h91, ← rowX_n h51 h67, row_or])
        · refine z_iload dX6_hang_94 rfl ?_
          refine z_iload_n dX6_hang_96 rfl ?_
          refine z_iconst (-1) dX6_hang_97 (by decide) ?_
          refine z_ixor dX6_hang_98 ?_
          refine z_iand dX6_hang_99 (z_top (nI_andn _ _) ?_)
          refine z_goto (tgt := 104) dX6_hang_100 (by decide) ?_
          refine z_iorN dX6_hang_104 ?_
          refine z_ist5 dX6_hang_105 (by repeat first | rfl | assumption | refine zCat_s ?_ | refine zCat_a ?_ ?_) ?_
          refine z_iincN7 (n := 1) dX6_hang_107 (by repeat first | rfl | assumption | refine zCat_s ?_ | refine zCat_a ?_ ?_) ?_
          refine z_goto (tgt := 20) dX6_hang_110 (by decide) ?_
          refine z_rl ?_ (ih (k + 1) _ (by omega) (by omega) rfl)
          rw [swp]
          first | (rw [if_neg h91, Nat.or_zero]) | (subst h51; rw [if_pos h91, ← rowX_p.resolve_right hpq, row_or]) | (subst h67; rw [if_pos h91, ← rowX_q hpq, row_or]) | (rw [if_pos h91, ← rowX_n h51 h67, row_or])
set_option maxRecDepth 100000 in
set_option maxHeartbeats 4000000 in
theorem m_hangX_out {S : zS} {R : zMR} (I : zMI) (L : zML) {ps : List Pc} {D : Nat} (hM : zMO S R) (ho : psOk ps) (hP : zPM I ps D) (f p q : Nat) (hf : f < 2 ^ ps.length) (hp : p < ps.length) (hq : q < ps.length) (hpq : p ≠ q) : ∀ (n : Nat) (s t : Nat) (a7 a8 : Option Value), (if s = t then 15 else 16) ≤ popc 14 s + n → s < 16384 → t < 16384 → zCat [a7] = true → zCat [a8] = true → hgI (lkX (lkb ps D) p q) f s → (s = t → clo (lkX (lkb ps D) p q) s) → zV (zMt RX6 cX6_hang 9 (some .int) 1) (fun S2 I2 L2 R2 rr => S2 = S ∧ R2 = R ∧ (zPure I L (nI (reach (lkX (lkb ps D) p q) ps.length f (2 ^ ps.length - 1)))) I2 L2 rr) (0, 0) S I L R 6 [some (.ref 96), some (.int (nI f)), some (.int (nI 0)), some (.int (nI p)), some (.int (nI q)), some (.int (nI s)), some (.int (nI t)), a7, a8] [] := by
  intro n
  induction n with
  | zero => intro s t a7 a8 h1 hs ht h7 h8 hI hc; have := popc_le 14 s; split at h1 <;> omega
  | succ n ih =>
    intro s t a7 a8 h1 hs ht h7 h8 hI hc
    have hlen := ho.1
    refine z_iload dX6_hang_6 rfl ?_
    refine z_iload dX6_hang_8 rfl ?_
    refine z_icmp_eqNN (tgt := 116) dX6_hang_10 (by decide) (by omega) (by omega) (fun h10 => ?_) (fun h10 => ?_)
    · refine z_iload dX6_hang_116 rfl ?_
      subst h10
      exact z_iret dX6_hang_118 ⟨Nat.le_refl _, Nat.le_refl _⟩ rfl ⟨rfl, rfl, rfl, rfl, congrArg (fun z => some (Value.int z)) (congrArg nI (cls_uniq ⟨hI.1, hc rfl, hI.2⟩ (reach_all hlen (lkX_adj (lkb_adj ps D) p q) hf)))⟩
    · refine z_iload dX6_hang_13 rfl ?_
      refine z_ist6 dX6_hang_15 (by repeat first | rfl | assumption | refine zCat_s ?_ | refine zCat_a ?_ ?_) ?_
      refine z_iconst (nI 0) dX6_hang_17 (by decide) ?_
      refine z_ist7 dX6_hang_18 (by repeat first | rfl | assumption | refine zCat_s ?_ | refine zCat_a ?_ ?_) ?_
      refine m_hangX_in I L hM ho hP f p q hf hp hq hpq s hs ?_ (ps.length + 1) 0 _ (by omega) (by omega) h8
      intro b7 b8 h7 h8
      refine z_goto (tgt := 6) dX6_hang_113 (by decide) ?_
      refine ih (swp (lkX (lkb ps D) p q) ps.length s) s b7 b8 ?_ (swp_lt hs _) hs h7 h8 (hgI_s hI _) (fun e => swp_clo hlen (lkX_adj (lkb_adj ps D) p q) e |> fun z => by rw [e]; exact z)
      by_cases e : swp (lkX (lkb ps D) p q) ps.length s = s
      · rw [if_pos e, e]; rw [if_neg h10] at h1; omega
      · have z := pop_lt (by have := swp_sub (lkX (lkb ps D) p q) s 0 ps.length; rw [Nat.zero_add] at this; exact this) (fun q => e q.symm) (swp_lt (A := (lkX (lkb ps D) p q)) hs ps.length)
        rw [if_neg e]; rw [if_neg h10] at h1; omega
set_option maxRecDepth 100000 in
set_option maxHeartbeats 4000000 in
theorem m_hangX {S : zS} {R : zMR} (I : zMI) (L : zML) {ps : List Pc} {D : Nat} (hM : zMO S R) (ho : psOk ps) (hP : zPM I ps D) (f p q : Nat) (hf : f < 2 ^ ps.length) (hp : p < ps.length) (hq : q < ps.length) (hpq : p ≠ q) : zM0 yX6_hang cX6_hang 9 (some .int) 1 [.ref 96, .int (nI f), .int (nI 0), .int (nI p), .int (nI q)] S I L R (zPure I L (nI (reach (lkX (lkb ps D) p q) ps.length f (2 ^ ps.length - 1)))) := by
  refine zM0_of (own := RX6) (lv := [some (.ref 96), some (.int (nI f)), some (.int (nI 0)), some (.int (nI p)), some (.int (nI q)), none, none, none, none]) rfl (by decide) rfl rfl ?_
  refine z_iload_n dX6_hang_0 rfl ?_
  refine z_ist5 dX6_hang_1 rfl ?_
  refine z_iconst (nI 0) dX6_hang_3 (by decide) ?_
  refine z_ist6 dX6_hang_4 rfl ?_
  refine m_hangX_out I L hM ho hP f p q hf hp hq hpq 16 f 0 none none (by split <;> omega) (Nat.lt_of_lt_of_le hf (Nat.pow_le_pow_right (n := 2) (by decide) ho.1)) (by omega) rfl rfl ⟨sbs_rfl f, fun Y h1 _ => h1⟩ (fun e => ?_)
  subst e
  intro a b ha
  rw [Nat.zero_testBit] at ha
  cases ha
theorem lkW_0 (A : Nat → Nat → Bool) : lkW A 0 = A := by
  funext a b
  unfold lkW
  rw [Nat.zero_testBit]
  cases A a b <;> rfl
set_option maxRecDepth 100000 in
set_option maxHeartbeats 4000000 in
theorem m_partOf {S : zS} {R : zMR} (I : zMI) (L : zML) {ps : List Pc} {D : Nat} (hM : zMO S R) (ho : psOk ps) (hP : zPM I ps D) (p : Nat) (hp : p < ps.length) : zM0 yX6_partOf cX6_partOf 2 (some .int) 2 [.ref 96, .int (nI p)] S I L R (zPure I L (nI (part (lkb ps D) ps.length p))) := by
  refine zM0_of (own := RX6) (lv := [some (.ref 96), some (.int (nI p))]) rfl (by decide) rfl rfl ?_
  have hlen := ho.1
  have hall := all_lt hlen
  refine z_aload_n dX6_partOf_0 rfl ?_
  refine z_iconst (nI 1) dX6_partOf_1 (by decide) ?_
  refine z_iload_n dX6_partOf_2 rfl ?_
  refine z_shl1 dX6_partOf_3 (by omega) ?_
  refine z_iconst (nI 0) dX6_partOf_4 (by decide) ?_
  refine z_iconst (-1) dX6_partOf_5 (by decide) ?_
  refine z_iconst (-1) dX6_partOf_6 (by decide) ?_
  refine z_callV4p dX6_partOf_7 mX6_209 hM.o (m_hangA I L hM ho hP (2 ^ p) 0 (Nat.pow_lt_pow_right (by decide) hp) (by decide)) (by decide) (Nat.le_of_ble_eq_true rfl) ⟨Nat.le_refl _, Nat.le_refl _⟩ ?_
  exact z_iret dX6_partOf_10 ⟨Nat.le_refl _, Nat.le_refl _⟩ rfl ⟨rfl, rfl, rfl, rfl, congrArg (fun z => some (Value.int z)) (by unfold part; rw [lkW_0])⟩
