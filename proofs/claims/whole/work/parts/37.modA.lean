set_option maxRecDepth 100000 in
set_option maxHeartbeats 4000000 in
theorem m_in {S : zS} {R : zMR} (I : zMI) (L : zML) {a lo hi : Int64} {x l h : Int} (ha : a.toInt = x) (hl : lo.toInt = l) (hh : hi.toInt = h) : zM0 yX6_in cX6_in 6 (some .boolean) 0 [.long a, .long lo, .long hi] S I L R (zPure I L (zb (l ≤ x ∧ x ≤ h))) := by
  refine zM0_of (own := RX6) (lv := [some (.long a), none, some (.long lo), none, some (.long hi), none]) rfl (by decide) rfl rfl ?_
  refine z_lload_n dX6_in_0 rfl ?_
  refine z_lload_n dX6_in_1 rfl ?_
  refine z_lcmp dX6_in_2 ?_
  refine z_if_lt (tgt := 17) dX6_in_3 (by decide) (fun h3 => ?_) (fun h3 => ?_)
  · refine z_iconst (nI 0) dX6_in_17 (by decide) ?_
    exact z_iret dX6_in_18 ⟨Nat.le_refl _, Nat.le_refl _⟩ (by first | exact zb_nar _ | rfl) ⟨rfl, rfl, rfl, rfl, congrArg (fun z => some (Value.int z)) (by first | exact zb_1 (by (try rw [lcmp_lt] at h3); (try rw [← Int.not_lt, lcmp_lt] at h3); (try rw [lcmp_gt] at h10); (try rw [← Int.not_lt, lcmp_gt] at h10); omega) | exact zb_0 (by (try rw [lcmp_lt] at h3); (try rw [← Int.not_lt, lcmp_lt] at h3); (try rw [lcmp_gt] at h10); (try rw [← Int.not_lt, lcmp_gt] at h10); omega) | exact zb_c (by (try rw [lcmp_lt] at h3); (try rw [← Int.not_lt, lcmp_lt] at h3); (try rw [lcmp_gt] at h10); (try rw [← Int.not_lt, lcmp_gt] at h10); omega))⟩
  · refine z_lload_n dX6_in_6 rfl ?_
    refine z_lload dX6_in_7 rfl ?_
    refine z_lcmp dX6_in_9 ?_
    refine z_if_gt (tgt := 17) dX6_in_10 (by decide) (fun h10 => ?_) (fun h10 => ?_)
    · refine z_iconst (nI 0) dX6_in_17 (by decide) ?_
      exact z_iret dX6_in_18 ⟨Nat.le_refl _, Nat.le_refl _⟩ (by first | exact zb_nar _ | rfl) ⟨rfl, rfl, rfl, rfl, congrArg (fun z => some (Value.int z)) (by first | exact zb_1 (by (try rw [lcmp_lt] at h3); (try rw [← Int.not_lt, lcmp_lt] at h3); (try rw [lcmp_gt] at h10); (try rw [← Int.not_lt, lcmp_gt] at h10); omega) | exact zb_0 (by (try rw [lcmp_lt] at h3); (try rw [← Int.not_lt, lcmp_lt] at h3); (try rw [lcmp_gt] at h10); (try rw [← Int.not_lt, lcmp_gt] at h10); omega) | exact zb_c (by (try rw [lcmp_lt] at h3); (try rw [← Int.not_lt, lcmp_lt] at h3); (try rw [lcmp_gt] at h10); (try rw [← Int.not_lt, lcmp_gt] at h10); omega))⟩
    · refine z_iconst (nI 1) dX6_in_13 (by decide) ?_
      refine z_goto (tgt := 18) dX6_in_14 (by decide) ?_
      exact z_iret dX6_in_18 ⟨Nat.le_refl _, Nat.le_refl _⟩ (by first | exact zb_nar _ | rfl) ⟨rfl, rfl, rfl, rfl, congrArg (fun z => some (Value.int z)) (by first | exact zb_1 (by (try rw [lcmp_lt] at h3); (try rw [← Int.not_lt, lcmp_lt] at h3); (try rw [lcmp_gt] at h10); (try rw [← Int.not_lt, lcmp_gt] at h10); omega) | exact zb_0 (by (try rw [lcmp_lt] at h3); (try rw [← Int.not_lt, lcmp_lt] at h3); (try rw [lcmp_gt] at h10); (try rw [← Int.not_lt, lcmp_gt] at h10); omega) | exact zb_c (by (try rw [lcmp_lt] at h3); (try rw [← Int.not_lt, lcmp_lt] at h3); (try rw [lcmp_gt] at h10); (try rw [← Int.not_lt, lcmp_gt] at h10); omega))⟩
set_option maxRecDepth 100000 in
set_option maxHeartbeats 4000000 in
theorem m_has {S : zS} {R : zMR} (I : zMI) (L : zML) (a k : Nat) (ha : a < 2147483648) (hk : k < 32) : zM0 yX6_has cX6_has 2 (some .boolean) 0 [.int (nI a), .int (nI k)] S I L R (zPure I L (zb (a.testBit k = true))) := by
  refine zM0_of (own := RX6) (lv := [some (.int (nI a)), some (.int (nI k))]) rfl (by decide) rfl rfl ?_
  refine z_iload_n dX6_has_0 rfl ?_
  refine z_iload_n dX6_has_1 rfl ?_
  refine z_bit dX6_has_2 dX6_has_3 (by decide) dX6_has_4 (by omega) (by omega) ?_
  refine z_iconst (nI 1) dX6_has_5 (by decide) ?_
  refine z_icmp_neNN (tgt := 13) dX6_has_6 (by decide) (tn_lt _) (by omega) (fun h6 => ?_) (fun h6 => ?_)
  · refine z_iconst (nI 0) dX6_has_13 (by decide) ?_
    exact z_iret dX6_has_14 ⟨Nat.le_refl _, Nat.le_refl _⟩ (by first | exact zb_nar _ | rfl) ⟨rfl, rfl, rfl, rfl, congrArg (fun z => some (Value.int z)) (by first | exact zb_1 (by cases hq : a.testBit k <;> simp [hq] at h6 ⊢) | exact zb_0 (by cases hq : a.testBit k <;> simp [hq] at h6 ⊢) | exact zb_c (by cases hq : a.testBit k <;> simp [hq] at h6 ⊢))⟩
  · refine z_iconst (nI 1) dX6_has_9 (by decide) ?_
    refine z_goto (tgt := 14) dX6_has_10 (by decide) ?_
    exact z_iret dX6_has_14 ⟨Nat.le_refl _, Nat.le_refl _⟩ (by first | exact zb_nar _ | rfl) ⟨rfl, rfl, rfl, rfl, congrArg (fun z => some (Value.int z)) (by first | exact zb_1 (by cases hq : a.testBit k <;> simp [hq] at h6 ⊢) | exact zb_0 (by cases hq : a.testBit k <;> simp [hq] at h6 ⊢) | exact zb_c (by cases hq : a.testBit k <;> simp [hq] at h6 ⊢))⟩
set_option maxRecDepth 100000 in
set_option maxHeartbeats 4000000 in
theorem m_ones_loop {S : zS} {R : zMR} (I : zMI) (L : zML) (a : Nat) : ∀ (n : Nat) (c s : Nat), popc 14 s < n → s < 16384 → c + popc 14 s = popc 14 a → zV (zMt RX6 cX6_ones 3 (some .int) 0) (fun S2 I2 L2 R2 rr => S2 = S ∧ R2 = R ∧ (zPure I L (nI (popc 14 a))) I2 L2 rr) (0, 0) S I L R 4 [some (.int (nI a)), some (.int (nI c)), some (.int (nI s))] [] := by
  intro n
  induction n with
  | zero => intro c s h1 hs hc; omega
  | succ n ih =>
    intro c s h1 hs hc
    refine z_iload_n dX6_ones_4 rfl ?_
    refine z_if_eqN (tgt := 20) dX6_ones_5 (by decide) (by omega) (fun h5 => ?_) (fun h5 => ?_)
    · refine z_iload_n dX6_ones_20 rfl ?_
      subst h5
      have h9 : popc 14 0 = 0 := by decide
      exact z_iret dX6_ones_21 ⟨Nat.le_refl _, Nat.le_refl _⟩ rfl ⟨rfl, rfl, rfl, rfl, congrArg (fun z => some (Value.int z)) (congrArg nI (by omega))⟩
    · refine z_iincN1 (n := 1) dX6_ones_8 rfl ?_
      refine z_iload_n dX6_ones_11 rfl ?_
      refine z_iload_n dX6_ones_12 rfl ?_
      refine z_iconst (nI 1) dX6_ones_13 (by decide) ?_
      refine z_isubN dX6_ones_14 (by omega) ?_
      refine z_iandN dX6_ones_15 ?_
      refine z_ist2 dX6_ones_16 rfl ?_
      refine z_goto (tgt := 4) dX6_ones_17 (by decide) ?_
      have e := popc_wl hs (by omega)
      exact ih (c + 1) (s &&& (s - 1)) (by omega) (and_lt hs) (by omega)
set_option maxRecDepth 100000 in
set_option maxHeartbeats 4000000 in
theorem m_ones {S : zS} {R : zMR} (I : zMI) (L : zML) (a : Nat) (ha : a < 16384) : zM0 yX6_ones cX6_ones 3 (some .int) 0 [.int (nI a)] S I L R (zPure I L (nI (popc 14 a))) := by
  refine zM0_of (own := RX6) (lv := [some (.int (nI a)), none, none]) rfl (by decide) rfl rfl ?_
  refine z_iconst (nI 0) dX6_ones_0 (by decide) ?_
  refine z_ist1 dX6_ones_1 rfl ?_
  refine z_iload_n dX6_ones_2 rfl ?_
  refine z_ist2 dX6_ones_3 rfl ?_
  exact m_ones_loop I L a 15 0 a (by have := popc_le 14 a; omega) ha (by omega)
set_option maxRecDepth 100000 in
set_option maxHeartbeats 4000000 in
theorem m_isShape {S : zS} {R : zMR} (I : zMI) (L : zML) {v : Ly} (hM : zMO S R) (hv : zMb (I 97) 0 v) (ho : lyOk v) (x : Int32) : zM0 yX6_isShape cX6_isShape 2 (some .boolean) 1 [.ref 96, .int x] S I L R (zPure I L (zb (has v.1 x.toInt))) := by
  refine zM0_of (own := RX6) (lv := [some (.ref 96), some (.int x)]) rfl (by decide) rfl rfl ?_
  have hl := ho.1
  refine z_iload_n dX6_isShape_0 rfl ?_
  refine z_i2l dX6_isShape_1 ?_
  refine z_lconst 0 dX6_isShape_2 (by decide) ?_
  refine z_aload_n dX6_isShape_3 rfl ?_
  refine z_getr dX6_isShape_4 fX6_7 hM.o hM.r0 ?_
  refine z_iconst (nI 0) dX6_isShape_7 (by decide) ?_
  refine z_iaN dX6_isShape_8 hM.a0 (by omega) (by decide) ?_
  refine z_top (hv.1) ?_
  refine z_iconst (nI 1) dX6_isShape_9 (by decide) ?_
  refine z_isub dX6_isShape_10 (z_top (nI_subI _ _) ?_)
  refine z_i2l dX6_isShape_11 ?_
  refine z_callS3p dX6_isShape_12 mX6_41 (m_in I L (l_i x) (l := 0) (by decide) (l_z (by omega) (by omega))) (by decide) (Nat.le_of_ble_eq_true rfl) ⟨Nat.le_refl _, Nat.le_refl _⟩ ?_
  exact z_iret dX6_isShape_15 ⟨Nat.le_refl _, Nat.le_refl _⟩ (by first | exact zb_nar _ | rfl) ⟨rfl, rfl, rfl, rfl, congrArg (fun z => some (Value.int z)) (by first | exact zb_1 (by unfold has; omega) | exact zb_0 (by unfold has; omega) | exact zb_c (by unfold has; omega))⟩
set_option maxRecDepth 100000 in
set_option maxHeartbeats 4000000 in
theorem m_part {S : zS} {R : zMR} (I : zMI) (L : zML) (hM : zMO S R) (k w : Nat) (hk : k < 10) (hw : w ≤ 5) : zM0 yX6_part cX6_part 3 (some .int) 0 [.ref 96, .int (nI k), .int (nI w)] S I L R (zPure I L (I 97 (1 + 6 * k + w))) := by
  refine zM0_of (own := RX6) (lv := [some (.ref 96), some (.int (nI k)), some (.int (nI w))]) rfl (by decide) rfl rfl ?_
  refine z_aload_n dX6_part_0 rfl ?_
  refine z_getr dX6_part_1 fX6_7 hM.o hM.r0 ?_
  refine z_iconst (nI 1) dX6_part_4 (by decide) ?_
  refine z_bipush (nI 6) dX6_part_5 (by decide) ?_
  refine z_iload_n dX6_part_7 rfl ?_
  refine z_imulN dX6_part_8 ?_
  refine z_iaddN dX6_part_9 ?_
  refine z_iload_n dX6_part_10 rfl ?_
  refine z_iaddN dX6_part_11 ?_
  refine z_iaN dX6_part_12 hM.a0 (by omega) (by decide) ?_
  exact z_iret dX6_part_13 ⟨Nat.le_refl _, Nat.le_refl _⟩ rfl ⟨rfl, rfl, rfl, rfl, congrArg (fun z => some (Value.int z)) (rfl)⟩
theorem mSh0 {f : Nat → Int32} {k : Nat} {s : Sh} (h : mSh f 0 k s) : f (1 + 6 * k + 0) = nI (sx s) ∧ f (1 + 6 * k + 1) = nI (sy s) ∧ f (1 + 6 * k + 2) = nI (sx2 s) ∧ f (1 + 6 * k + 3) = nI (sy2 s) ∧ f (1 + 6 * k + 4) = nI (c1 (sc s)) ∧ f (1 + 6 * k + 5) = nI (c2 (sc s)) := by
  unfold mSh at h
  simpa only [Nat.zero_add] using h
set_option maxRecDepth 100000 in
set_option maxHeartbeats 4000000 in
theorem m_cutsOf {S : zS} {R : zMR} (I : zMI) (L : zML) {v : Ly} (hM : zMO S R) (hv : zMb (I 97) 0 v) (ho : lyOk v) (k : Nat) {sh : Sh} (hsh : v.1[k]? = some sh) : zM0 yX6_cutsOf cX6_cutsOf 2 (some .int) 1 [.ref 96, .int (nI k)] S I L R (zPure I L (nI (sc sh).length)) := by
  refine zM0_of (own := RX6) (lv := [some (.ref 96), some (.int (nI k))]) rfl (by decide) rfl rfl ?_
  have hl := ho.1
  have hk := getS_lt hsh
  obtain ⟨o1, o2, o3, o4, o5⟩ := id (ho.sh hsh)
  obtain ⟨e0, e1, e2, e3, e4, e5⟩ := mSh0 (hv.2.1 k sh hsh)
  obtain ⟨b1, b2⟩ := c1_le o5 o2
  refine z_aload_n dX6_cutsOf_0 rfl ?_
  refine z_iload_n dX6_cutsOf_1 rfl ?_
  refine z_iconst (nI 4) dX6_cutsOf_2 (by decide) ?_
  refine z_callV2p dX6_cutsOf_3 mX6_45 hM.o (m_part I L hM k 4 (by omega) (by omega)) (by decide) (Nat.le_of_ble_eq_true rfl) ⟨Nat.le_refl _, Nat.le_refl _⟩ ?_
  refine z_top (e4) ?_
  refine z_if_leN (tgt := 13) dX6_cutsOf_6 (by decide) (by omega) (fun h6 => ?_) (fun h6 => ?_)
  · refine z_iconst (nI 0) dX6_cutsOf_13 (by decide) ?_
    refine z_aload_n dX6_cutsOf_14 rfl ?_
    refine z_iload_n dX6_cutsOf_15 rfl ?_
    refine z_iconst (nI 5) dX6_cutsOf_16 (by decide) ?_
    refine z_callV2p dX6_cutsOf_17 mX6_45 hM.o (m_part I L hM k 5 (by omega) (by omega)) (by decide) (Nat.le_of_ble_eq_true rfl) ⟨Nat.le_refl _, Nat.le_refl _⟩ ?_
    refine z_top (e5) ?_
    refine z_if_leN (tgt := 27) dX6_cutsOf_20 (by decide) (by omega) (fun h20 => ?_) (fun h20 => ?_)
    · refine z_iconst (nI 0) dX6_cutsOf_27 (by decide) ?_
      refine z_iaddN dX6_cutsOf_28 ?_
      exact z_iret dX6_cutsOf_29 ⟨Nat.le_refl _, Nat.le_refl _⟩ rfl ⟨rfl, rfl, rfl, rfl, congrArg (fun z => some (Value.int z)) (by rcases c1_pos o5 with ⟨q1, q2, q3⟩ | ⟨q1, q2, a, q3, q4⟩ | ⟨q1, q2, a, b, q3, q4, q5⟩ <;> first | (rw [q3]; rfl) | (exfalso; omega))⟩
    · refine z_iconst (nI 1) dX6_cutsOf_23 (by decide) ?_
      refine z_goto (tgt := 28) dX6_cutsOf_24 (by decide) ?_
      refine z_iaddN dX6_cutsOf_28 ?_
      exact z_iret dX6_cutsOf_29 ⟨Nat.le_refl _, Nat.le_refl _⟩ rfl ⟨rfl, rfl, rfl, rfl, congrArg (fun z => some (Value.int z)) (by rcases c1_pos o5 with ⟨q1, q2, q3⟩ | ⟨q1, q2, a, q3, q4⟩ | ⟨q1, q2, a, b, q3, q4, q5⟩ <;> first | (rw [q3]; rfl) | (exfalso; omega))⟩
  · refine z_iconst (nI 1) dX6_cutsOf_9 (by decide) ?_
    refine z_goto (tgt := 14) dX6_cutsOf_10 (by decide) ?_
    refine z_aload_n dX6_cutsOf_14 rfl ?_
    refine z_iload_n dX6_cutsOf_15 rfl ?_
    refine z_iconst (nI 5) dX6_cutsOf_16 (by decide) ?_
    refine z_callV2p dX6_cutsOf_17 mX6_45 hM.o (m_part I L hM k 5 (by omega) (by omega)) (by decide) (Nat.le_of_ble_eq_true rfl) ⟨Nat.le_refl _, Nat.le_refl _⟩ ?_
    refine z_top (e5) ?_
    refine z_if_leN (tgt := 27) dX6_cutsOf_20 (by decide) (by omega) (fun h20 => ?_) (fun h20 => ?_)
    · refine z_iconst (nI 0) dX6_cutsOf_27 (by decide) ?_
      refine z_iaddN dX6_cutsOf_28 ?_
      exact z_iret dX6_cutsOf_29 ⟨Nat.le_refl _, Nat.le_refl _⟩ rfl ⟨rfl, rfl, rfl, rfl, congrArg (fun z => some (Value.int z)) (by rcases c1_pos o5 with ⟨q1, q2, q3⟩ | ⟨q1, q2, a, q3, q4⟩ | ⟨q1, q2, a, b, q3, q4, q5⟩ <;> first | (rw [q3]; rfl) | (exfalso; omega))⟩
    · refine z_iconst (nI 1) dX6_cutsOf_23 (by decide) ?_
      refine z_goto (tgt := 28) dX6_cutsOf_24 (by decide) ?_
      refine z_iaddN dX6_cutsOf_28 ?_
      exact z_iret dX6_cutsOf_29 ⟨Nat.le_refl _, Nat.le_refl _⟩ rfl ⟨rfl, rfl, rfl, rfl, congrArg (fun z => some (Value.int z)) (by rcases c1_pos o5 with ⟨q1, q2, q3⟩ | ⟨q1, q2, a, q3, q4⟩ | ⟨q1, q2, a, b, q3, q4, q5⟩ <;> first | (rw [q3]; rfl) | (exfalso; omega))⟩
set_option maxRecDepth 100000 in
set_option maxHeartbeats 4000000 in
theorem m_apart {S : zS} {R : zMR} (I : zMI) (L : zML) (a a2 b b2 : Nat) (q1 : a ≤ a2) (q2 : b ≤ b2) (q3 : a2 ≤ 100) (q4 : b2 ≤ 100) : zM0 yX6_apart cX6_apart 4 (some .int) 0 [.int (nI a), .int (nI a2), .int (nI b), .int (nI b2)] S I L R (zPure I L (nI (apt a a2 b b2))) := by
  refine zM0_of (own := RX6) (lv := [some (.int (nI a)), some (.int (nI a2)), some (.int (nI b)), some (.int (nI b2))]) rfl (by decide) rfl rfl ?_
  refine z_iload_n dX6_apart_0 rfl ?_
  refine z_iload_n dX6_apart_1 rfl ?_
  refine z_icmp_geNN (tgt := 11) dX6_apart_2 (by decide) (by omega) (by omega) (fun h2 => ?_) (fun h2 => ?_)
  · refine z_iload_n dX6_apart_11 rfl ?_
    refine z_iload_n dX6_apart_12 rfl ?_
    refine z_icmp_geNN (tgt := 22) dX6_apart_13 (by decide) (by omega) (by omega) (fun h13 => ?_) (fun h13 => ?_)
    · refine z_iconst (nI 0) dX6_apart_22 (by decide) ?_
      exact z_iret dX6_apart_23 ⟨Nat.le_refl _, Nat.le_refl _⟩ rfl ⟨rfl, rfl, rfl, rfl, congrArg (fun z => some (Value.int z)) (congrArg nI (by first | exact apt_lt (by omega) q1 q2 | exact apt_gt (by omega) q1 q2 | exact apt_0 (by omega) (by omega)))⟩
    · refine z_iload_n dX6_apart_16 rfl ?_
      refine z_iload_n dX6_apart_17 rfl ?_
      refine z_isubN dX6_apart_18 (by omega) ?_
      refine z_goto (tgt := 23) dX6_apart_19 (by decide) ?_
      exact z_iret dX6_apart_23 ⟨Nat.le_refl _, Nat.le_refl _⟩ rfl ⟨rfl, rfl, rfl, rfl, congrArg (fun z => some (Value.int z)) (congrArg nI (by first | exact apt_lt (by omega) q1 q2 | exact apt_gt (by omega) q1 q2 | exact apt_0 (by omega) (by omega)))⟩
  · refine z_iload_n dX6_apart_5 rfl ?_
    refine z_iload_n dX6_apart_6 rfl ?_
    refine z_isubN dX6_apart_7 (by omega) ?_
    refine z_goto (tgt := 23) dX6_apart_8 (by decide) ?_
    exact z_iret dX6_apart_23 ⟨Nat.le_refl _, Nat.le_refl _⟩ rfl ⟨rfl, rfl, rfl, rfl, congrArg (fun z => some (Value.int z)) (congrArg nI (by first | exact apt_lt (by omega) q1 q2 | exact apt_gt (by omega) q1 q2 | exact apt_0 (by omega) (by omega)))⟩
set_option maxRecDepth 100000 in
set_option maxHeartbeats 4000000 in
theorem m_addPiece {S : zS} {R : zMR} (I : zMI) (L : zML) (hM : zMO S R) (n : Nat) (hn : n < 14) (h5 : I 96 5 = nI n) (a x x2 : Nat) : zM0 yX6_addPiece cX6_addPiece 4 none 0 [.ref 96, .int (nI a), .int (nI x), .int (nI x2)] S I L R (zPv L (fun I2 => I2 = zu (zu (zu (zu I 101 n (nI a)) 102 n (nI x)) 103 n (nI x2)) 96 5 (nI (n + 1)))) := by
  refine zM0_of (own := RX6) (lv := [some (.ref 96), some (.int (nI a)), some (.int (nI x)), some (.int (nI x2))]) rfl (by decide) rfl rfl ?_
  refine z_aload_n dX6_addPiece_0 rfl ?_
  refine z_getr dX6_addPiece_1 fX6_23 hM.o hM.r6 ?_
  refine z_aload_n dX6_addPiece_4 rfl ?_
  refine z_geti dX6_addPiece_5 fX6_49 hM.o ?_
  refine z_top (h5) ?_
  refine z_iload_n dX6_addPiece_8 rfl ?_
  refine z_isN dX6_addPiece_9 hM.a6 (by omega) (by decide) ?_
  refine z_aload_n dX6_addPiece_10 rfl ?_
  refine z_getr dX6_addPiece_11 fX6_26 hM.o hM.r7 ?_
  refine z_aload_n dX6_addPiece_14 rfl ?_
  refine z_geti dX6_addPiece_15 fX6_49 hM.o ?_
  refine z_top (h5) ?_
  refine z_iload_n dX6_addPiece_18 rfl ?_
  refine z_isN dX6_addPiece_19 hM.a7 (by omega) (by decide) ?_
  refine z_aload_n dX6_addPiece_20 rfl ?_
  refine z_getr dX6_addPiece_21 fX6_29 hM.o hM.r8 ?_
  refine z_aload_n dX6_addPiece_24 rfl ?_
  refine z_geti dX6_addPiece_25 fX6_49 hM.o ?_
  refine z_top (h5) ?_
  refine z_iload_n dX6_addPiece_28 rfl ?_
  refine z_isN dX6_addPiece_29 hM.a8 (by omega) (by decide) ?_
  refine z_aload_n dX6_addPiece_30 rfl ?_
  refine z_dup dX6_addPiece_31 rfl ?_
  refine z_geti dX6_addPiece_32 fX6_49 hM.o ?_
  refine z_top (h5) ?_
  refine z_iconst (nI 1) dX6_addPiece_35 (by decide) ?_
  refine z_iaddN dX6_addPiece_36 ?_
  refine z_puti dX6_addPiece_37 fX6_49 hM.o ?_
  exact z_ret dX6_addPiece_40 ⟨Nat.le_refl _, Nat.le_refl _⟩ rfl ⟨rfl, rfl, rfl, rfl, rfl⟩
set_option maxRecDepth 100000 in
set_option maxHeartbeats 4000000 in
theorem m_gapOf {S : zS} {R : zMR} (I : zMI) (L : zML) {v : Ly} (hM : zMO S R) (hv : zMb (I 97) 0 v) (ho : lyOk v) (hP : zPm I (pcs v.1)) (p q : Nat) (hp : p < (pcs v.1).length) (hq : q < (pcs v.1).length) : zM0 yX6_gapOf cX6_gapOf 5 (some .int) 1 [.ref 96, .int (nI p), .int (nI q)] S I L R (zPure I L (nI (gap (pg (pcs v.1) p) (pg (pcs v.1) q)))) := by
  refine zM0_of (own := RX6) (lv := [some (.ref 96), some (.int (nI p)), some (.int (nI q)), none, none]) rfl (by decide) rfl rfl ?_
  have hl := ho.1
  have hps := pcs_ok ho
  have hlen := hps.1
  obtain ⟨shp, hshp, yp, zp⟩ := pcs_sh hp
  have hkp := getS_lt hshp
  obtain ⟨ap, bp, dp⟩ := hP.2 p _ (getP hp)
  obtain ⟨fp0, fp1, fp2, fp3, fp4, fp5⟩ := mSh0 (hv.2.1 _ shp hshp)
  obtain ⟨gp1, gp2, gp3, gp4, gp5⟩ := hps.at hp
  rw [← yp] at fp1
  rw [← zp] at fp3
  obtain ⟨shq, hshq, yq, zq⟩ := pcs_sh hq
  have hkq := getS_lt hshq
  obtain ⟨aq, bq, dq⟩ := hP.2 q _ (getP hq)
  obtain ⟨fq0, fq1, fq2, fq3, fq4, fq5⟩ := mSh0 (hv.2.1 _ shq hshq)
  obtain ⟨gq1, gq2, gq3, gq4, gq5⟩ := hps.at hq
  rw [← yq] at fq1
  rw [← zq] at fq3
  refine z_aload_n dX6_gapOf_0 rfl ?_
  refine z_getr dX6_gapOf_1 fX6_26 hM.o hM.r7 ?_
  refine z_iload_n dX6_gapOf_4 rfl ?_
  refine z_iaN dX6_gapOf_5 hM.a7 (by omega) (by decide) ?_
  refine z_top (bp) ?_
  refine z_aload_n dX6_gapOf_6 rfl ?_
  refine z_getr dX6_gapOf_7 fX6_29 hM.o hM.r8 ?_
  refine z_iload_n dX6_gapOf_10 rfl ?_
  refine z_iaN dX6_gapOf_11 hM.a8 (by omega) (by decide) ?_
  refine z_top (dp) ?_
  refine z_aload_n dX6_gapOf_12 rfl ?_
  refine z_getr dX6_gapOf_13 fX6_26 hM.o hM.r7 ?_
  refine z_iload_n dX6_gapOf_16 rfl ?_
  refine z_iaN dX6_gapOf_17 hM.a7 (by omega) (by decide) ?_
  refine z_top (bq) ?_
  refine z_aload_n dX6_gapOf_18 rfl ?_
  refine z_getr dX6_gapOf_19 fX6_29 hM.o hM.r8 ?_
  refine z_iload_n dX6_gapOf_22 rfl ?_
  refine z_iaN dX6_gapOf_23 hM.a8 (by omega) (by decide) ?_
  refine z_top (dq) ?_
  refine z_callS4p dX6_gapOf_24 mX6_53 (m_apart I L _ _ _ _ (by omega) (by omega) (by omega) (by omega)) (by decide) (Nat.le_of_ble_eq_true rfl) ⟨Nat.le_refl _, Nat.le_refl _⟩ ?_
  refine z_ist3 dX6_gapOf_27 rfl ?_
  refine z_aload_n dX6_gapOf_28 rfl ?_
  refine z_aload_n dX6_gapOf_29 rfl ?_
  refine z_getr dX6_gapOf_30 fX6_23 hM.o hM.r6 ?_
  refine z_iload_n dX6_gapOf_33 rfl ?_
  refine z_iaN dX6_gapOf_34 hM.a6 (by omega) (by decide) ?_
  refine z_top (ap) ?_
  refine z_iconst (nI 1) dX6_gapOf_35 (by decide) ?_
  refine z_callV2p dX6_gapOf_36 mX6_45 hM.o (m_part I L hM (qs (pg (pcs v.1) p)) 1 (by omega) (by omega)) (by decide) (Nat.le_of_ble_eq_true rfl) ⟨Nat.le_refl _, Nat.le_refl _⟩ ?_
  refine z_top (fp1) ?_
  refine z_aload_n dX6_gapOf_39 rfl ?_
  refine z_aload_n dX6_gapOf_40 rfl ?_
  refine z_getr dX6_gapOf_41 fX6_23 hM.o hM.r6 ?_
  refine z_iload_n dX6_gapOf_44 rfl ?_
  refine z_iaN dX6_gapOf_45 hM.a6 (by omega) (by decide) ?_
  refine z_top (ap) ?_
  refine z_iconst (nI 3) dX6_gapOf_46 (by decide) ?_
  refine z_callV2p dX6_gapOf_47 mX6_45 hM.o (m_part I L hM (qs (pg (pcs v.1) p)) 3 (by omega) (by omega)) (by decide) (Nat.le_of_ble_eq_true rfl) ⟨Nat.le_refl _, Nat.le_refl _⟩ ?_
  refine z_top (fp3) ?_
  refine z_aload_n dX6_gapOf_50 rfl ?_
  refine z_aload_n dX6_gapOf_51 rfl ?_
  refine z_getr dX6_gapOf_52 fX6_23 hM.o hM.r6 ?_
  refine z_iload_n dX6_gapOf_55 rfl ?_
  refine z_iaN dX6_gapOf_56 hM.a6 (by omega) (by decide) ?_
  refine z_top (aq) ?_
  refine z_iconst (nI 1) dX6_gapOf_57 (by decide) ?_
  refine z_callV2p dX6_gapOf_58 mX6_45 hM.o (m_part I L hM (qs (pg (pcs v.1) q)) 1 (by omega) (by omega)) (by decide) (Nat.le_of_ble_eq_true rfl) ⟨Nat.le_refl _, Nat.le_refl _⟩ ?_
  refine z_top (fq1) ?_
  refine z_aload_n dX6_gapOf_61 rfl ?_
  refine z_aload_n dX6_gapOf_62 rfl ?_
  refine z_getr dX6_gapOf_63 fX6_23 hM.o hM.r6 ?_
  refine z_iload_n dX6_gapOf_66 rfl ?_
  refine z_iaN dX6_gapOf_67 hM.a6 (by omega) (by decide) ?_
  refine z_top (aq) ?_
  refine z_iconst (nI 3) dX6_gapOf_68 (by decide) ?_
  refine z_callV2p dX6_gapOf_69 mX6_45 hM.o (m_part I L hM (qs (pg (pcs v.1) q)) 3 (by omega) (by omega)) (by decide) (Nat.le_of_ble_eq_true rfl) ⟨Nat.le_refl _, Nat.le_refl _⟩ ?_
  refine z_top (fq3) ?_
  refine z_callS4p dX6_gapOf_72 mX6_53 (m_apart I L _ _ _ _ (by omega) (by omega) (by omega) (by omega)) (by decide) (Nat.le_of_ble_eq_true rfl) ⟨Nat.le_refl _, Nat.le_refl _⟩ ?_
  refine z_ist4 dX6_gapOf_75 rfl ?_
  refine z_iload_n dX6_gapOf_77 rfl ?_
  refine z_iload_n dX6_gapOf_78 rfl ?_
  refine z_imulN dX6_gapOf_79 ?_
  refine z_iload dX6_gapOf_80 rfl ?_
  refine z_iload dX6_gapOf_82 rfl ?_
  refine z_imulN dX6_gapOf_84 ?_
  refine z_iaddN dX6_gapOf_85 ?_
  exact z_iret dX6_gapOf_86 ⟨Nat.le_refl _, Nat.le_refl _⟩ rfl ⟨rfl, rfl, rfl, rfl, congrArg (fun z => some (Value.int z)) (rfl)⟩
set_option maxRecDepth 100000 in
set_option maxHeartbeats 4000000 in
theorem m_areaOf {S : zS} {R : zMR} (I : zMI) (L : zML) {v : Ly} (hM : zMO S R) (hv : zMb (I 97) 0 v) (ho : lyOk v) (hP : zPm I (pcs v.1)) (p : Nat) (hp : p < (pcs v.1).length) : zM0 yX6_areaOf cX6_areaOf 2 (some .int) 1 [.ref 96, .int (nI p)] S I L R (zPure I L (nI (qa (pg (pcs v.1) p)))) := by
  refine zM0_of (own := RX6) (lv := [some (.ref 96), some (.int (nI p))]) rfl (by decide) rfl rfl ?_
  have hl := ho.1
  have hps := pcs_ok ho
  have hlen := hps.1
  obtain ⟨shp, hshp, yp, zp⟩ := pcs_sh hp
  have hkp := getS_lt hshp
  obtain ⟨ap, bp, dp⟩ := hP.2 p _ (getP hp)
  obtain ⟨fp0, fp1, fp2, fp3, fp4, fp5⟩ := mSh0 (hv.2.1 _ shp hshp)
  obtain ⟨gp1, gp2, gp3, gp4, gp5⟩ := hps.at hp
  rw [← yp] at fp1
  rw [← zp] at fp3
  refine z_aload_n dX6_areaOf_0 rfl ?_
  refine z_getr dX6_areaOf_1 fX6_29 hM.o hM.r8 ?_
  refine z_iload_n dX6_areaOf_4 rfl ?_
  refine z_iaN dX6_areaOf_5 hM.a8 (by omega) (by decide) ?_
  refine z_top (dp) ?_
  refine z_aload_n dX6_areaOf_6 rfl ?_
  refine z_getr dX6_areaOf_7 fX6_26 hM.o hM.r7 ?_
  refine z_iload_n dX6_areaOf_10 rfl ?_
  refine z_iaN dX6_areaOf_11 hM.a7 (by omega) (by decide) ?_
  refine z_top (bp) ?_
  refine z_isubN dX6_areaOf_12 (by omega) ?_
  refine z_iconst (nI 1) dX6_areaOf_13 (by decide) ?_
  refine z_iaddN dX6_areaOf_14 ?_
  refine z_aload_n dX6_areaOf_15 rfl ?_
  refine z_aload_n dX6_areaOf_16 rfl ?_
  refine z_getr dX6_areaOf_17 fX6_23 hM.o hM.r6 ?_
  refine z_iload_n dX6_areaOf_20 rfl ?_
  refine z_iaN dX6_areaOf_21 hM.a6 (by omega) (by decide) ?_
  refine z_top (ap) ?_
  refine z_iconst (nI 3) dX6_areaOf_22 (by decide) ?_
  refine z_callV2p dX6_areaOf_23 mX6_45 hM.o (m_part I L hM (qs (pg (pcs v.1) p)) 3 (by omega) (by omega)) (by decide) (Nat.le_of_ble_eq_true rfl) ⟨Nat.le_refl _, Nat.le_refl _⟩ ?_
  refine z_top (fp3) ?_
  refine z_aload_n dX6_areaOf_26 rfl ?_
  refine z_aload_n dX6_areaOf_27 rfl ?_
  refine z_getr dX6_areaOf_28 fX6_23 hM.o hM.r6 ?_
  refine z_iload_n dX6_areaOf_31 rfl ?_
  refine z_iaN dX6_areaOf_32 hM.a6 (by omega) (by decide) ?_
  refine z_top (ap) ?_
  refine z_iconst (nI 1) dX6_areaOf_33 (by decide) ?_
  refine z_callV2p dX6_areaOf_34 mX6_45 hM.o (m_part I L hM (qs (pg (pcs v.1) p)) 1 (by omega) (by omega)) (by decide) (Nat.le_of_ble_eq_true rfl) ⟨Nat.le_refl _, Nat.le_refl _⟩ ?_
  refine z_top (fp1) ?_
  refine z_isubN dX6_areaOf_37 (by omega) ?_
  refine z_iconst (nI 1) dX6_areaOf_38 (by decide) ?_
  refine z_iaddN dX6_areaOf_39 ?_
  refine z_imulN dX6_areaOf_40 ?_
  exact z_iret dX6_areaOf_41 ⟨Nat.le_refl _, Nat.le_refl _⟩ rfl ⟨rfl, rfl, rfl, rfl, congrArg (fun z => some (Value.int z)) (rfl)⟩
set_option maxRecDepth 100000 in
set_option maxHeartbeats 4000000 in
theorem m_all {S : zS} {R : zMR} (I : zMI) (L : zML) (hM : zMO S R) (n : Nat) (hn : n ≤ 14) (h5 : I 96 5 = nI n) : zM0 yX6_all cX6_all 1 (some .int) 0 [.ref 96] S I L R (zPure I L (nI (2 ^ n - 1))) := by
  refine zM0_of (own := RX6) (lv := [some (.ref 96)]) rfl (by decide) rfl rfl ?_
  have h2 : 1 ≤ 2 ^ n := Nat.one_le_two_pow
  refine z_iconst (nI 1) dX6_all_0 (by decide) ?_
  refine z_aload_n dX6_all_1 rfl ?_
  refine z_geti dX6_all_2 fX6_49 hM.o ?_
  refine z_top (h5) ?_
  refine z_shl1 dX6_all_5 (by omega) ?_
  refine z_iconst (nI 1) dX6_all_6 (by decide) ?_
  refine z_isubN dX6_all_7 (by omega) ?_
  exact z_iret dX6_all_8 ⟨Nat.le_refl _, Nat.le_refl _⟩ rfl ⟨rfl, rfl, rfl, rfl, congrArg (fun z => some (Value.int z)) (rfl)⟩
set_option maxRecDepth 100000 in
set_option maxHeartbeats 4000000 in
theorem m_many_loop {S : zS} {R : zMR} (I : zMI) (L : zML) {v : Ly} (hM : zMO S R) (hv : zMb (I 97) 0 v) (ho : lyOk v) : ∀ (n : Nat) (i : Nat), v.1.length + 1 ≤ i + n → i ≤ v.1.length → zV (zMt RX6 cX6_manyPieces 3 (some .int) 2) (fun S2 I2 L2 R2 rr => S2 = S ∧ R2 = R ∧ (zPure I L (nI (np v.1))) I2 L2 rr) (0, 0) S I L R 4 [some (.ref 96), some (.int (nI (np (v.1.take i)))), some (.int (nI i))] [] := by
  intro n
  induction n with
  | zero => intro i h1 h2; omega
  | succ n ih =>
    intro i h1 h2
    have hl := ho.1
    refine z_iload_n dX6_manyPieces_4 rfl ?_
    refine z_aload_n dX6_manyPieces_5 rfl ?_
    refine z_getr dX6_manyPieces_6 fX6_7 hM.o hM.r0 ?_
    refine z_iconst (nI 0) dX6_manyPieces_9 (by decide) ?_
    refine z_iaN dX6_manyPieces_10 hM.a0 (by omega) (by decide) ?_
    refine z_top (hv.1) ?_
    refine z_icmp_geNN (tgt := 30) dX6_manyPieces_11 (by decide) (by omega) (by omega) (fun h11 => ?_) (fun h11 => ?_)
    · refine z_iload_n dX6_manyPieces_30 rfl ?_
      exact z_iret dX6_manyPieces_31 ⟨Nat.le_refl _, Nat.le_refl _⟩ rfl ⟨rfl, rfl, rfl, rfl, congrArg (fun z => some (Value.int z)) (congrArg nI (np_take_all (by omega)))⟩
    · obtain ⟨sh, hsh⟩ := getS h11
      have e := np_take_succ hsh
      refine z_iload_n dX6_manyPieces_14 rfl ?_
      refine z_iconst (nI 1) dX6_manyPieces_15 (by decide) ?_
      refine z_aload_n dX6_manyPieces_16 rfl ?_
      refine z_iload_n dX6_manyPieces_17 rfl ?_
      refine z_callV1p dX6_manyPieces_18 mX6_64 hM.o (m_cutsOf I L hM hv ho i hsh) (by decide) (Nat.le_of_ble_eq_true rfl) ⟨Nat.le_refl _, Nat.le_refl _⟩ ?_
      refine z_iaddN dX6_manyPieces_21 ?_
      refine z_iaddN dX6_manyPieces_22 ?_
      refine z_ist1 dX6_manyPieces_23 rfl ?_
      refine z_iincN2 (n := 1) dX6_manyPieces_24 rfl ?_
      refine z_goto (tgt := 4) dX6_manyPieces_27 (by decide) ?_
      have z := ih (i + 1) (by omega) (by omega)
      rw [e] at z
      exact z
set_option maxRecDepth 100000 in
set_option maxHeartbeats 4000000 in
theorem m_manyPieces {S : zS} {R : zMR} (I : zMI) (L : zML) {v : Ly} (hM : zMO S R) (hv : zMb (I 97) 0 v) (ho : lyOk v) : zM0 yX6_manyPieces cX6_manyPieces 3 (some .int) 2 [.ref 96] S I L R (zPure I L (nI (np v.1))) := by
  refine zM0_of (own := RX6) (lv := [some (.ref 96), none, none]) rfl (by decide) rfl rfl ?_
  refine z_iconst (nI 0) dX6_manyPieces_0 (by decide) ?_
  refine z_ist1 dX6_manyPieces_1 rfl ?_
  refine z_iconst (nI 0) dX6_manyPieces_2 (by decide) ?_
  refine z_ist2 dX6_manyPieces_3 rfl ?_
  exact m_many_loop I L hM hv ho (v.1.length + 1) 0 (by omega) (by omega)
set_option maxRecDepth 100000 in
set_option maxHeartbeats 4000000 in
theorem m_first_loop {S : zS} {R : zMR} (I : zMI) (L : zML) {v : Ly} (hM : zMO S R) (hv : zMb (I 97) 0 v) (ho : lyOk v) (j : Nat) (hj : j < v.1.length) : ∀ (n : Nat) (i : Nat), j + 1 ≤ i + n → i ≤ j → zV (zMt RX6 cX6_firstPiece 4 (some .int) 2) (fun S2 I2 L2 R2 rr => S2 = S ∧ R2 = R ∧ (zPure I L (nI (np (v.1.take j)))) I2 L2 rr) (0, 0) S I L R 4 [some (.ref 96), some (.int (nI j)), some (.int (nI (np (v.1.take i)))), some (.int (nI i))] [] := by
  intro n
  induction n with
  | zero => intro i h1 h2; omega
  | succ n ih =>
    intro i h1 h2
    have hl := ho.1
    refine z_iload_n dX6_firstPiece_4 rfl ?_
    refine z_iload_n dX6_firstPiece_5 rfl ?_
    refine z_icmp_geNN (tgt := 25) dX6_firstPiece_6 (by decide) (by omega) (by omega) (fun h6 => ?_) (fun h6 => ?_)
    · refine z_iload_n dX6_firstPiece_25 rfl ?_
      have e : i = j := by omega
      subst e
      exact z_iret dX6_firstPiece_26 ⟨Nat.le_refl _, Nat.le_refl _⟩ rfl ⟨rfl, rfl, rfl, rfl, congrArg (fun z => some (Value.int z)) (rfl)⟩
    · obtain ⟨sh, hsh⟩ := getS (show i < v.1.length from by omega)
      have e := np_take_succ hsh
      refine z_iload_n dX6_firstPiece_9 rfl ?_
      refine z_iconst (nI 1) dX6_firstPiece_10 (by decide) ?_
      refine z_aload_n dX6_firstPiece_11 rfl ?_
      refine z_iload_n dX6_firstPiece_12 rfl ?_
      refine z_callV1p dX6_firstPiece_13 mX6_64 hM.o (m_cutsOf I L hM hv ho i hsh) (by decide) (Nat.le_of_ble_eq_true rfl) ⟨Nat.le_refl _, Nat.le_refl _⟩ ?_
      refine z_iaddN dX6_firstPiece_16 ?_
      refine z_iaddN dX6_firstPiece_17 ?_
      refine z_ist2 dX6_firstPiece_18 rfl ?_
      refine z_iincN3 (n := 1) dX6_firstPiece_19 rfl ?_
      refine z_goto (tgt := 4) dX6_firstPiece_22 (by decide) ?_
      have z := ih (i + 1) (by omega) (by omega)
      rw [e] at z
      exact z
set_option maxRecDepth 100000 in
set_option maxHeartbeats 4000000 in
theorem m_firstPiece {S : zS} {R : zMR} (I : zMI) (L : zML) {v : Ly} (hM : zMO S R) (hv : zMb (I 97) 0 v) (ho : lyOk v) (j : Nat) (hj : j < v.1.length) : zM0 yX6_firstPiece cX6_firstPiece 4 (some .int) 2 [.ref 96, .int (nI j)] S I L R (zPure I L (nI (np (v.1.take j)))) := by
  refine zM0_of (own := RX6) (lv := [some (.ref 96), some (.int (nI j)), none, none]) rfl (by decide) rfl rfl ?_
  refine z_iconst (nI 0) dX6_firstPiece_0 (by decide) ?_
  refine z_ist2 dX6_firstPiece_1 rfl ?_
  refine z_iconst (nI 0) dX6_firstPiece_2 (by decide) ?_
  refine z_ist3 dX6_firstPiece_3 rfl ?_
  exact m_first_loop I L hM hv ho j hj (j + 1) 0 (by omega) (by omega)
set_option maxRecDepth 100000 in
set_option maxHeartbeats 4000000 in
theorem m_shapeArea {S : zS} {R : zMR} (I : zMI) (L : zML) {v : Ly} (hM : zMO S R) (hv : zMb (I 97) 0 v) (ho : lyOk v) (k : Nat) {sh : Sh} (hsh : v.1[k]? = some sh) : zM0 yX6_shapeArea cX6_shapeArea 2 (some .int) 1 [.ref 96, .int (nI k)] S I L R (zPure I L (nI (area sh))) := by
  refine zM0_of (own := RX6) (lv := [some (.ref 96), some (.int (nI k))]) rfl (by decide) rfl rfl ?_
  have hl := ho.1
  have hk := getS_lt hsh
  obtain ⟨o1, o2, o3, o4, o5⟩ := id (ho.sh hsh)
  obtain ⟨e0, e1, e2, e3, e4, e5⟩ := mSh0 (hv.2.1 k sh hsh)
  refine z_aload_n dX6_shapeArea_0 rfl ?_
  refine z_iload_n dX6_shapeArea_1 rfl ?_
  refine z_iconst (nI 2) dX6_shapeArea_2 (by decide) ?_
  refine z_callV2p dX6_shapeArea_3 mX6_45 hM.o (m_part I L hM k 2 (by omega) (by omega)) (by decide) (Nat.le_of_ble_eq_true rfl) ⟨Nat.le_refl _, Nat.le_refl _⟩ ?_
  refine z_top (e2) ?_
  refine z_aload_n dX6_shapeArea_6 rfl ?_
  refine z_iload_n dX6_shapeArea_7 rfl ?_
  refine z_iconst (nI 0) dX6_shapeArea_8 (by decide) ?_
  refine z_callV2p dX6_shapeArea_9 mX6_45 hM.o (m_part I L hM k 0 (by omega) (by omega)) (by decide) (Nat.le_of_ble_eq_true rfl) ⟨Nat.le_refl _, Nat.le_refl _⟩ ?_
  refine z_top (e0) ?_
  refine z_isubN dX6_shapeArea_12 (by omega) ?_
  refine z_iconst (nI 1) dX6_shapeArea_13 (by decide) ?_
  refine z_iaddN dX6_shapeArea_14 ?_
  refine z_aload_n dX6_shapeArea_15 rfl ?_
  refine z_iload_n dX6_shapeArea_16 rfl ?_
  refine z_iconst (nI 3) dX6_shapeArea_17 (by decide) ?_
  refine z_callV2p dX6_shapeArea_18 mX6_45 hM.o (m_part I L hM k 3 (by omega) (by omega)) (by decide) (Nat.le_of_ble_eq_true rfl) ⟨Nat.le_refl _, Nat.le_refl _⟩ ?_
  refine z_top (e3) ?_
  refine z_aload_n dX6_shapeArea_21 rfl ?_
  refine z_iload_n dX6_shapeArea_22 rfl ?_
  refine z_iconst (nI 1) dX6_shapeArea_23 (by decide) ?_
  refine z_callV2p dX6_shapeArea_24 mX6_45 hM.o (m_part I L hM k 1 (by omega) (by omega)) (by decide) (Nat.le_of_ble_eq_true rfl) ⟨Nat.le_refl _, Nat.le_refl _⟩ ?_
  refine z_top (e1) ?_
  refine z_isubN dX6_shapeArea_27 (by omega) ?_
  refine z_iconst (nI 1) dX6_shapeArea_28 (by decide) ?_
  refine z_iaddN dX6_shapeArea_29 ?_
  refine z_imulN dX6_shapeArea_30 ?_
  exact z_iret dX6_shapeArea_31 ⟨Nat.le_refl _, Nat.le_refl _⟩ rfl ⟨rfl, rfl, rfl, rfl, congrArg (fun z => some (Value.int z)) (rfl)⟩
set_option maxRecDepth 100000 in
set_option maxHeartbeats 4000000 in
theorem m_areBounds {S : zS} {R : zMR} (I : zMI) (L : zML) (x y x2 y2 : Int32) : zM0 yX6_areBounds cX6_areBounds 4 (some .boolean) 1 [.int x, .int y, .int x2, .int y2] S I L R (zPure I L (zb (onF x.toInt y.toInt x2.toInt y2.toInt ∧ x.toInt ≤ x2.toInt ∧ y.toInt ≤ y2.toInt))) := by
  refine zM0_of (own := RX6) (lv := [some (.int x), some (.int y), some (.int x2), some (.int y2)]) rfl (by decide) rfl rfl ?_
  refine z_iload_n dX6_areBounds_0 rfl ?_
  refine z_i2l dX6_areBounds_1 ?_
  refine z_lconst 0 dX6_areBounds_2 (by decide) ?_
  refine z_iload_n dX6_areBounds_3 rfl ?_
  refine z_i2l dX6_areBounds_4 ?_
  refine z_callS3p dX6_areBounds_5 mX6_41 (m_in I L (l_i x) (l := 0) (by decide) (l_i x2)) (by decide) (Nat.le_of_ble_eq_true rfl) ⟨Nat.le_refl _, Nat.le_refl _⟩ ?_
  refine z_if_eqB (tgt := 52) dX6_areBounds_8 (by decide) (fun h8 => ?_) (fun h8 => ?_)
  · refine z_iconst (nI 0) dX6_areBounds_52 (by decide) ?_
    exact z_iret dX6_areBounds_53 ⟨Nat.le_refl _, Nat.le_refl _⟩ (by first | exact zb_nar _ | rfl) ⟨rfl, rfl, rfl, rfl, congrArg (fun z => some (Value.int z)) (by first | exact zb_1 (by unfold onF; omega) | exact zb_0 (by unfold onF; omega) | exact zb_c (by unfold onF; omega))⟩
  · refine z_iload_n dX6_areBounds_11 rfl ?_
    refine z_i2l dX6_areBounds_12 ?_
    refine z_iload_n dX6_areBounds_13 rfl ?_
    refine z_i2l dX6_areBounds_14 ?_
    refine z_ldc2 dX6_areBounds_15 kX6_119 ?_
    refine z_callS3p dX6_areBounds_18 mX6_41 (m_in I L (l_i x2) (l_i x) (h := 15) (by decide)) (by decide) (Nat.le_of_ble_eq_true rfl) ⟨Nat.le_refl _, Nat.le_refl _⟩ ?_
    refine z_if_eqB (tgt := 52) dX6_areBounds_21 (by decide) (fun h21 => ?_) (fun h21 => ?_)
    · refine z_iconst (nI 0) dX6_areBounds_52 (by decide) ?_
      exact z_iret dX6_areBounds_53 ⟨Nat.le_refl _, Nat.le_refl _⟩ (by first | exact zb_nar _ | rfl) ⟨rfl, rfl, rfl, rfl, congrArg (fun z => some (Value.int z)) (by first | exact zb_1 (by unfold onF; omega) | exact zb_0 (by unfold onF; omega) | exact zb_c (by unfold onF; omega))⟩
    · refine z_iload_n dX6_areBounds_24 rfl ?_
      refine z_i2l dX6_areBounds_25 ?_
      refine z_lconst 0 dX6_areBounds_26 (by decide) ?_
      refine z_iload_n dX6_areBounds_27 rfl ?_
      refine z_i2l dX6_areBounds_28 ?_
      refine z_callS3p dX6_areBounds_29 mX6_41 (m_in I L (l_i y) (l := 0) (by decide) (l_i y2)) (by decide) (Nat.le_of_ble_eq_true rfl) ⟨Nat.le_refl _, Nat.le_refl _⟩ ?_
      refine z_if_eqB (tgt := 52) dX6_areBounds_32 (by decide) (fun h32 => ?_) (fun h32 => ?_)
      · refine z_iconst (nI 0) dX6_areBounds_52 (by decide) ?_
        exact z_iret dX6_areBounds_53 ⟨Nat.le_refl _, Nat.le_refl _⟩ (by first | exact zb_nar _ | rfl) ⟨rfl, rfl, rfl, rfl, congrArg (fun z => some (Value.int z)) (by first | exact zb_1 (by unfold onF; omega) | exact zb_0 (by unfold onF; omega) | exact zb_c (by unfold onF; omega))⟩
      · refine z_iload_n dX6_areBounds_35 rfl ?_
        refine z_i2l dX6_areBounds_36 ?_
        refine z_iload_n dX6_areBounds_37 rfl ?_
        refine z_i2l dX6_areBounds_38 ?_
        refine z_ldc2 dX6_areBounds_39 kX6_119 ?_
        refine z_callS3p dX6_areBounds_42 mX6_41 (m_in I L (l_i y2) (l_i y) (h := 15) (by decide)) (by decide) (Nat.le_of_ble_eq_true rfl) ⟨Nat.le_refl _, Nat.le_refl _⟩ ?_
        refine z_if_eqB (tgt := 52) dX6_areBounds_45 (by decide) (fun h45 => ?_) (fun h45 => ?_)
        · refine z_iconst (nI 0) dX6_areBounds_52 (by decide) ?_
          exact z_iret dX6_areBounds_53 ⟨Nat.le_refl _, Nat.le_refl _⟩ (by first | exact zb_nar _ | rfl) ⟨rfl, rfl, rfl, rfl, congrArg (fun z => some (Value.int z)) (by first | exact zb_1 (by unfold onF; omega) | exact zb_0 (by unfold onF; omega) | exact zb_c (by unfold onF; omega))⟩
        · refine z_iconst (nI 1) dX6_areBounds_48 (by decide) ?_
          refine z_goto (tgt := 53) dX6_areBounds_49 (by decide) ?_
          exact z_iret dX6_areBounds_53 ⟨Nat.le_refl _, Nat.le_refl _⟩ (by first | exact zb_nar _ | rfl) ⟨rfl, rfl, rfl, rfl, congrArg (fun z => some (Value.int z)) (by first | exact zb_1 (by unfold onF; omega) | exact zb_0 (by unfold onF; omega) | exact zb_c (by unfold onF; omega))⟩
set_option maxRecDepth 100000 in
set_option maxHeartbeats 4000000 in
theorem m_areSteps {S : zS} {R : zMR} (I : zMI) (L : zML) (x y : Int32) : zM0 yX6_areSteps cX6_areSteps 2 (some .boolean) 1 [.int x, .int y] S I L R (zPure I L (zb (steps x.toInt y.toInt))) := by
  refine zM0_of (own := RX6) (lv := [some (.int x), some (.int y)]) rfl (by decide) rfl rfl ?_
  refine z_iload_n dX6_areSteps_0 rfl ?_
  refine z_i2l dX6_areSteps_1 ?_
  refine z_ldc2 dX6_areSteps_2 kX6_157 ?_
  refine z_ldc2 dX6_areSteps_5 kX6_119 ?_
  refine z_callS3p dX6_areSteps_8 mX6_41 (m_in I L (l_i x) (l := -15) (by decide) (h := 15) (by decide)) (by decide) (Nat.le_of_ble_eq_true rfl) ⟨Nat.le_refl _, Nat.le_refl _⟩ ?_
  refine z_if_eqB (tgt := 32) dX6_areSteps_11 (by decide) (fun h11 => ?_) (fun h11 => ?_)
  · refine z_iconst (nI 0) dX6_areSteps_32 (by decide) ?_
    exact z_iret dX6_areSteps_33 ⟨Nat.le_refl _, Nat.le_refl _⟩ (by first | exact zb_nar _ | rfl) ⟨rfl, rfl, rfl, rfl, congrArg (fun z => some (Value.int z)) (by first | exact zb_1 (by unfold steps; omega) | exact zb_0 (by unfold steps; omega) | exact zb_c (by unfold steps; omega))⟩
  · refine z_iload_n dX6_areSteps_14 rfl ?_
    refine z_i2l dX6_areSteps_15 ?_
    refine z_ldc2 dX6_areSteps_16 kX6_157 ?_
    refine z_ldc2 dX6_areSteps_19 kX6_119 ?_
    refine z_callS3p dX6_areSteps_22 mX6_41 (m_in I L (l_i y) (l := -15) (by decide) (h := 15) (by decide)) (by decide) (Nat.le_of_ble_eq_true rfl) ⟨Nat.le_refl _, Nat.le_refl _⟩ ?_
    refine z_if_eqB (tgt := 32) dX6_areSteps_25 (by decide) (fun h25 => ?_) (fun h25 => ?_)
    · refine z_iconst (nI 0) dX6_areSteps_32 (by decide) ?_
      exact z_iret dX6_areSteps_33 ⟨Nat.le_refl _, Nat.le_refl _⟩ (by first | exact zb_nar _ | rfl) ⟨rfl, rfl, rfl, rfl, congrArg (fun z => some (Value.int z)) (by first | exact zb_1 (by unfold steps; omega) | exact zb_0 (by unfold steps; omega) | exact zb_c (by unfold steps; omega))⟩
    · refine z_iconst (nI 1) dX6_areSteps_28 (by decide) ?_
      refine z_goto (tgt := 33) dX6_areSteps_29 (by decide) ?_
      exact z_iret dX6_areSteps_33 ⟨Nat.le_refl _, Nat.le_refl _⟩ (by first | exact zb_nar _ | rfl) ⟨rfl, rfl, rfl, rfl, congrArg (fun z => some (Value.int z)) (by first | exact zb_1 (by unfold steps; omega) | exact zb_0 (by unfold steps; omega) | exact zb_c (by unfold steps; omega))⟩
