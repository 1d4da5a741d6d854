set_option maxRecDepth 100000 in
set_option maxHeartbeats 4000000 in
theorem c_isBound {S : zS} {R : zMR} (I : zMI) (L : zML) (w x : Int32) : zM0 yX2_isBound cX2_isBound 2 (some .boolean) 1 [.int w, .int x] S I L R (zPure I L (zb (inB w.toInt x.toInt))) := by
  refine zM0_of (own := RX2) (lv := [some (.int w), some (.int x)]) rfl (by decide) rfl rfl ?_
  refine z_iload_n dX2_isBound_0 rfl ?_
  rcases (show (w.toInt < 0 ∨ 2 < w.toInt) ∨ w.toInt = 0 ∨ w.toInt = 1 ∨ w.toInt = 2 from by omega) with hq | hq | hq | hq
  · refine z_tOut (tgt := 77) dX2_isBound_1 hq (by decide) ?_
    refine z_iconst (nI 0) dX2_isBound_77 (by decide) ?_
    exact z_iret dX2_isBound_78 ⟨Nat.le_refl _, Nat.le_refl _⟩ (by first | exact zb_nar _ | rfl) ⟨rfl, rfl, rfl, rfl, congrArg (fun z => some (Value.int z)) (by first | exact zb_1 (by unfold inB; omega) | exact zb_0 (by unfold inB; omega) | exact zb_c (by unfold inB; omega))⟩
  · refine z_tIn (tgt := 28) dX2_isBound_1 (by omega) (by omega) (by rw [hq]; rfl) (by decide) ?_
    refine z_iload_n dX2_isBound_28 rfl ?_
    refine z_iconst (nI 1) dX2_isBound_29 (by decide) ?_
    refine z_icmp_ltIN (tgt := 43) dX2_isBound_30 (by decide) (by omega) (fun h30 => ?_) (fun h30 => ?_)
    · refine z_iconst (nI 0) dX2_isBound_43 (by decide) ?_
      exact z_iret dX2_isBound_44 ⟨Nat.le_refl _, Nat.le_refl _⟩ (by first | exact zb_nar _ | rfl) ⟨rfl, rfl, rfl, rfl, congrArg (fun z => some (Value.int z)) (by first | exact zb_1 (by unfold inB; omega) | exact zb_0 (by unfold inB; omega) | exact zb_c (by unfold inB; omega))⟩
    · refine z_iload_n dX2_isBound_33 rfl ?_
      refine z_bipush (nI 8) dX2_isBound_34 (by decide) ?_
      refine z_icmp_gtIN (tgt := 43) dX2_isBound_36 (by decide) (by omega) (fun h36 => ?_) (fun h36 => ?_)
      · refine z_iconst (nI 0) dX2_isBound_43 (by decide) ?_
        exact z_iret dX2_isBound_44 ⟨Nat.le_refl _, Nat.le_refl _⟩ (by first | exact zb_nar _ | rfl) ⟨rfl, rfl, rfl, rfl, congrArg (fun z => some (Value.int z)) (by first | exact zb_1 (by unfold inB; omega) | exact zb_0 (by unfold inB; omega) | exact zb_c (by unfold inB; omega))⟩
      · refine z_iconst (nI 1) dX2_isBound_39 (by decide) ?_
        refine z_goto (tgt := 44) dX2_isBound_40 (by decide) ?_
        exact z_iret dX2_isBound_44 ⟨Nat.le_refl _, Nat.le_refl _⟩ (by first | exact zb_nar _ | rfl) ⟨rfl, rfl, rfl, rfl, congrArg (fun z => some (Value.int z)) (by first | exact zb_1 (by unfold inB; omega) | exact zb_0 (by unfold inB; omega) | exact zb_c (by unfold inB; omega))⟩
  · refine z_tIn (tgt := 45) dX2_isBound_1 (by omega) (by omega) (by rw [hq]; rfl) (by decide) ?_
    refine z_iload_n dX2_isBound_45 rfl ?_
    refine z_if_lt (tgt := 59) dX2_isBound_46 (by decide) (fun h46 => ?_) (fun h46 => ?_)
    · refine z_iconst (nI 0) dX2_isBound_59 (by decide) ?_
      exact z_iret dX2_isBound_60 ⟨Nat.le_refl _, Nat.le_refl _⟩ (by first | exact zb_nar _ | rfl) ⟨rfl, rfl, rfl, rfl, congrArg (fun z => some (Value.int z)) (by first | exact zb_1 (by unfold inB; omega) | exact zb_0 (by unfold inB; omega) | exact zb_c (by unfold inB; omega))⟩
    · refine z_iload_n dX2_isBound_49 rfl ?_
      refine z_bipush (nI 9) dX2_isBound_50 (by decide) ?_
      refine z_icmp_gtIN (tgt := 59) dX2_isBound_52 (by decide) (by omega) (fun h52 => ?_) (fun h52 => ?_)
      · refine z_iconst (nI 0) dX2_isBound_59 (by decide) ?_
        exact z_iret dX2_isBound_60 ⟨Nat.le_refl _, Nat.le_refl _⟩ (by first | exact zb_nar _ | rfl) ⟨rfl, rfl, rfl, rfl, congrArg (fun z => some (Value.int z)) (by first | exact zb_1 (by unfold inB; omega) | exact zb_0 (by unfold inB; omega) | exact zb_c (by unfold inB; omega))⟩
      · refine z_iconst (nI 1) dX2_isBound_55 (by decide) ?_
        refine z_goto (tgt := 60) dX2_isBound_56 (by decide) ?_
        exact z_iret dX2_isBound_60 ⟨Nat.le_refl _, Nat.le_refl _⟩ (by first | exact zb_nar _ | rfl) ⟨rfl, rfl, rfl, rfl, congrArg (fun z => some (Value.int z)) (by first | exact zb_1 (by unfold inB; omega) | exact zb_0 (by unfold inB; omega) | exact zb_c (by unfold inB; omega))⟩
  · refine z_tIn (tgt := 61) dX2_isBound_1 (by omega) (by omega) (by rw [hq]; rfl) (by decide) ?_
    refine z_iload_n dX2_isBound_61 rfl ?_
    refine z_if_lt (tgt := 75) dX2_isBound_62 (by decide) (fun h62 => ?_) (fun h62 => ?_)
    · refine z_iconst (nI 0) dX2_isBound_75 (by decide) ?_
      exact z_iret dX2_isBound_76 ⟨Nat.le_refl _, Nat.le_refl _⟩ (by first | exact zb_nar _ | rfl) ⟨rfl, rfl, rfl, rfl, congrArg (fun z => some (Value.int z)) (by first | exact zb_1 (by unfold inB; omega) | exact zb_0 (by unfold inB; omega) | exact zb_c (by unfold inB; omega))⟩
    · refine z_iload_n dX2_isBound_65 rfl ?_
      refine z_bipush (nI 99) dX2_isBound_66 (by decide) ?_
      refine z_icmp_gtIN (tgt := 75) dX2_isBound_68 (by decide) (by omega) (fun h68 => ?_) (fun h68 => ?_)
      · refine z_iconst (nI 0) dX2_isBound_75 (by decide) ?_
        exact z_iret dX2_isBound_76 ⟨Nat.le_refl _, Nat.le_refl _⟩ (by first | exact zb_nar _ | rfl) ⟨rfl, rfl, rfl, rfl, congrArg (fun z => some (Value.int z)) (by first | exact zb_1 (by unfold inB; omega) | exact zb_0 (by unfold inB; omega) | exact zb_c (by unfold inB; omega))⟩
      · refine z_iconst (nI 1) dX2_isBound_71 (by decide) ?_
        refine z_goto (tgt := 76) dX2_isBound_72 (by decide) ?_
        exact z_iret dX2_isBound_76 ⟨Nat.le_refl _, Nat.le_refl _⟩ (by first | exact zb_nar _ | rfl) ⟨rfl, rfl, rfl, rfl, congrArg (fun z => some (Value.int z)) (by first | exact zb_1 (by unfold inB; omega) | exact zb_0 (by unfold inB; omega) | exact zb_c (by unfold inB; omega))⟩
set_option maxRecDepth 100000 in
set_option maxHeartbeats 4000000 in
theorem c_boundOf {S : zS} {R : zMR} (I : zMI) (L : zML) {b : Nat} {v : Ly} (hb : zLay S R b) (hv : zCLy I b v) (ho : lyOk v) (w : Int32) (h0 : 0 ≤ w.toInt) (h2 : w.toInt ≤ 2) : zM0 yX2_boundOf cX2_boundOf 2 (some .int) 1 [.ref b, .int w] S I L R (zPure I L (nI (bnd v w.toInt))) := by
  refine zM0_of (own := RX2) (lv := [some (.ref b), some (.int w)]) rfl (by decide) rfl rfl ?_
  refine z_iload_n dX2_boundOf_0 rfl ?_
  rcases (show (w.toInt ≠ 0 ∧ w.toInt ≠ 1) ∨ w.toInt = 0 ∨ w.toInt = 1 from by omega) with hq | hq | hq
  · refine z_lsw (tgt := 38) (off := 37) dX2_boundOf_1 rfl (by show Op.lookupswitch.offset [(0, 27), (1, 32)] 37 _ = _; simp only [Op.lookupswitch.offset_cons]; rw [if_neg (by omega), if_neg (by omega)]; rfl) (by decide) ?_
    refine z_aload_n dX2_boundOf_38 rfl ?_
    refine z_geti dX2_boundOf_39 fX2_37 hb.o ?_
    exact z_iret dX2_boundOf_42 ⟨Nat.le_refl _, Nat.le_refl _⟩ rfl ⟨rfl, rfl, rfl, rfl, congrArg (fun z => some (Value.int z)) (by rw [hv.2.2.2.2.1]; simp [bnd, hq])⟩
  · refine z_lsw (tgt := 28) (off := 27) dX2_boundOf_1 rfl (by rw [hq]; rfl) (by decide) ?_
    refine z_aload_n dX2_boundOf_28 rfl ?_
    refine z_geti dX2_boundOf_29 fX2_31 hb.o ?_
    exact z_iret dX2_boundOf_32 ⟨Nat.le_refl _, Nat.le_refl _⟩ rfl ⟨rfl, rfl, rfl, rfl, congrArg (fun z => some (Value.int z)) (by rw [hv.2.2.1]; simp [bnd, hq])⟩
  · refine z_lsw (tgt := 33) (off := 32) dX2_boundOf_1 rfl (by rw [hq]; rfl) (by decide) ?_
    refine z_aload_n dX2_boundOf_33 rfl ?_
    refine z_geti dX2_boundOf_34 fX2_34 hb.o ?_
    exact z_iret dX2_boundOf_37 ⟨Nat.le_refl _, Nat.le_refl _⟩ rfl ⟨rfl, rfl, rfl, rfl, congrArg (fun z => some (Value.int z)) (by rw [hv.2.2.2.1]; simp [bnd, hq])⟩
set_option maxRecDepth 100000 in
set_option maxHeartbeats 4000000 in
theorem c_fixedMaskOf {S : zS} {R : zMR} (I : zMI) (L : zML) {b : Nat} {v : Ly} (hb : zLay S R b) (hv : zCLy I b v) (ho : lyOk v) (p : Nat) (hp : p < 14) : zM0 yX2_fixedMaskOf cX2_fixedMaskOf 2 (some .int) 1 [.ref b, .int (nI p)] S I L R (zPure I L (fxv (lfx v p))) := by
  refine zM0_of (own := RX2) (lv := [some (.ref b), some (.int (nI p))]) rfl (by decide) rfl rfl ?_
  have hc1 := fm_lt (lfx v)
  have hc2 := fo_lt (lfx v)
  refine z_aload_n dX2_fixedMaskOf_0 rfl ?_
  refine z_geti dX2_fixedMaskOf_1 fX2_40 hb.o ?_
  refine z_top (hv.2.2.2.2.2.1) ?_
  refine z_iload_n dX2_fixedMaskOf_4 rfl ?_
  refine z_bit dX2_fixedMaskOf_5 dX2_fixedMaskOf_6 (by decide) dX2_fixedMaskOf_7 (by omega) (by omega) ?_
  refine z_if_neT (tgt := 15) dX2_fixedMaskOf_8 (by decide) (fun h8 => ?_) (fun h8 => ?_)
  · refine z_aload_n dX2_fixedMaskOf_15 rfl ?_
    refine z_geti dX2_fixedMaskOf_16 fX2_43 hb.o ?_
    refine z_top (hv.2.2.2.2.2.2) ?_
    refine z_iload_n dX2_fixedMaskOf_19 rfl ?_
    refine z_bit dX2_fixedMaskOf_20 dX2_fixedMaskOf_21 (by decide) dX2_fixedMaskOf_22 (by omega) (by omega) ?_
    exact z_iret dX2_fixedMaskOf_23 ⟨Nat.le_refl _, Nat.le_refl _⟩ rfl ⟨rfl, rfl, rfl, rfl, congrArg (fun z => some (Value.int z)) (by have h3 := ho.2.2.2.2.2.2.2.2.1 p; rw [fm_bit] at h8; simp [hp] at h8; first | (simp [fxv, h8]; done) | (rw [fo_bit]; simp only [hp, decide_true, Bool.true_and]; unfold fxv; rw [if_neg h8]; rcases (show lfx v p = 1 ∨ lfx v p = 2 from by omega) with e | e <;> simp [e]))⟩
  · refine z_iconst (-1) dX2_fixedMaskOf_11 (by decide) ?_
    refine z_goto (tgt := 23) dX2_fixedMaskOf_12 (by decide) ?_
    exact z_iret dX2_fixedMaskOf_23 ⟨Nat.le_refl _, Nat.le_refl _⟩ rfl ⟨rfl, rfl, rfl, rfl, congrArg (fun z => some (Value.int z)) (by have h3 := ho.2.2.2.2.2.2.2.2.1 p; rw [fm_bit] at h8; simp [hp] at h8; first | (simp [fxv, h8]; done) | (rw [fo_bit]; simp only [hp, decide_true, Bool.true_and]; unfold fxv; rw [if_neg h8]; rcases (show lfx v p = 1 ∨ lfx v p = 2 from by omega) with e | e <;> simp [e]))⟩
set_option maxRecDepth 100000 in
set_option maxHeartbeats 4000000 in
theorem c_canBeOn {S : zS} {R : zMR} (I : zMI) (L : zML) {b : Nat} {v : Ly} (hb : zLay S R b) (hv : zCLy I b v) (ho : lyOk v) (p m : Nat) (hp : p < 14) (hm : m ≤ 1) : zM0 yX2_canBeOn cX2_canBeOn 4 (some .boolean) 2 [.ref b, .int (nI p), .int (nI m)] S I L R (zPure I L (zb (lfx v p = 0 ∨ lfx v p = m + 1))) := by
  refine zM0_of (own := RX2) (lv := [some (.ref b), some (.int (nI p)), some (.int (nI m)), none]) rfl (by decide) rfl rfl ?_
  have h3 := ho.2.2.2.2.2.2.2.2.1 p
  refine z_aload_n dX2_canBeOn_0 rfl ?_
  refine z_iload_n dX2_canBeOn_1 rfl ?_
  refine z_callV1p dX2_canBeOn_2 mX2_94 hb.o (c_fixedMaskOf I L hb hv ho p hp) (by decide) (Nat.le_of_ble_eq_true rfl) ⟨Nat.le_refl _, Nat.le_refl _⟩ ?_
  refine z_ist3 dX2_canBeOn_5 rfl ?_
  refine z_iload_n dX2_canBeOn_6 rfl ?_
  refine z_iconst (-1) dX2_canBeOn_7 (by decide) ?_
  refine z_icmp_eq (tgt := 16) dX2_canBeOn_8 (by decide) (fun h8 => ?_) (fun h8 => ?_)
  · refine z_iconst (nI 1) dX2_canBeOn_16 (by decide) ?_
    refine z_goto (tgt := 21) dX2_canBeOn_17 (by decide) ?_
    exact z_iret dX2_canBeOn_21 ⟨Nat.le_refl _, Nat.le_refl _⟩ (by first | exact zb_nar _ | rfl) ⟨rfl, rfl, rfl, rfl, congrArg (fun z => some (Value.int z)) (by first | exact zb_1 (by first | (rw [fxv_none h3] at h8; omega) | (rw [fxv_none h3] at h8; rw [fxv_eq h3 hm] at h13; omega)) | exact zb_0 (by first | (rw [fxv_none h3] at h8; omega) | (rw [fxv_none h3] at h8; rw [fxv_eq h3 hm] at h13; omega)) | exact zb_c (by first | (rw [fxv_none h3] at h8; omega) | (rw [fxv_none h3] at h8; rw [fxv_eq h3 hm] at h13; omega)))⟩
  · refine z_iload_n dX2_canBeOn_11 rfl ?_
    refine z_iload_n dX2_canBeOn_12 rfl ?_
    refine z_icmp_ne (tgt := 20) dX2_canBeOn_13 (by decide) (fun h13 => ?_) (fun h13 => ?_)
    · refine z_iconst (nI 0) dX2_canBeOn_20 (by decide) ?_
      exact z_iret dX2_canBeOn_21 ⟨Nat.le_refl _, Nat.le_refl _⟩ (by first | exact zb_nar _ | rfl) ⟨rfl, rfl, rfl, rfl, congrArg (fun z => some (Value.int z)) (by first | exact zb_1 (by first | (rw [fxv_none h3] at h8; omega) | (rw [fxv_none h3] at h8; rw [fxv_eq h3 hm] at h13; omega)) | exact zb_0 (by first | (rw [fxv_none h3] at h8; omega) | (rw [fxv_none h3] at h8; rw [fxv_eq h3 hm] at h13; omega)) | exact zb_c (by first | (rw [fxv_none h3] at h8; omega) | (rw [fxv_none h3] at h8; rw [fxv_eq h3 hm] at h13; omega)))⟩
    · refine z_iconst (nI 1) dX2_canBeOn_16 (by decide) ?_
      refine z_goto (tgt := 21) dX2_canBeOn_17 (by decide) ?_
      exact z_iret dX2_canBeOn_21 ⟨Nat.le_refl _, Nat.le_refl _⟩ (by first | exact zb_nar _ | rfl) ⟨rfl, rfl, rfl, rfl, congrArg (fun z => some (Value.int z)) (by first | exact zb_1 (by first | (rw [fxv_none h3] at h8; omega) | (rw [fxv_none h3] at h8; rw [fxv_eq h3 hm] at h13; omega)) | exact zb_0 (by first | (rw [fxv_none h3] at h8; omega) | (rw [fxv_none h3] at h8; rw [fxv_eq h3 hm] at h13; omega)) | exact zb_c (by first | (rw [fxv_none h3] at h8; omega) | (rw [fxv_none h3] at h8; rw [fxv_eq h3 hm] at h13; omega)))⟩
set_option maxRecDepth 100000 in
set_option maxHeartbeats 4000000 in
theorem mirrored_loop {S : zS} {R : zMR} (I : zMI) (L : zML) (a : Nat) (ha : a < 32768) : ∀ (n : Nat) (k : Nat), 16 ≤ k + n → k ≤ 15 → zV (zMt RX2 cX2_mirrored 3 (some .int) 1) (fun S2 I2 L2 R2 rr => S2 = S ∧ R2 = R ∧ (zPure I L (nI (mr 15 a))) I2 L2 rr) (0, 0) S I L R 4 [some (.int (nI a)), some (.int (nI (mr k a))), some (.int (nI k))] [] := by
  intro n
  induction n with
  | zero => intro k h1 h2; omega
  | succ n ih =>
    intro k h1 h2
    refine z_iload_n dX2_mirrored_4 rfl ?_
    refine z_bipush (nI 14) dX2_mirrored_5 (by decide) ?_
    refine z_icmp_gtNN (tgt := 29) dX2_mirrored_7 (by decide) (by omega) (by omega) (fun h7 => ?_) (fun h7 => ?_)
    · refine z_iload_n dX2_mirrored_29 rfl ?_
      have e : k = 15 := by omega
      subst e
      exact z_iret dX2_mirrored_30 ⟨Nat.le_refl _, Nat.le_refl _⟩ rfl ⟨rfl, rfl, rfl, rfl, congrArg (fun z => some (Value.int z)) (rfl)⟩
    · refine z_iload_n dX2_mirrored_10 rfl ?_
      refine z_iload_n dX2_mirrored_11 rfl ?_
      refine z_iload_n dX2_mirrored_12 rfl ?_
      refine z_bit dX2_mirrored_13 dX2_mirrored_14 (by decide) dX2_mirrored_15 (by omega) (by omega) ?_
      refine z_bipush (nI 14) dX2_mirrored_16 (by decide) ?_
      refine z_iload_n dX2_mirrored_18 rfl ?_
      refine z_isubN dX2_mirrored_19 (by omega) ?_
      refine z_ishlN dX2_mirrored_20 (by omega) (bit_shl_lt _ (by omega)) ?_
      refine z_iorN dX2_mirrored_21 ?_
      refine z_ist1 dX2_mirrored_22 rfl ?_
      refine z_iincN2 (n := 1) dX2_mirrored_23 rfl ?_
      refine z_goto (tgt := 4) dX2_mirrored_26 (by decide) ?_
      exact ih (k + 1) (by omega) (by omega)
set_option maxRecDepth 100000 in
set_option maxHeartbeats 4000000 in
theorem c_mirrored0 {S : zS} {R : zMR} (I : zMI) (L : zML) (a : Nat) (ha : a < 32768) : zM0 yX2_mirrored cX2_mirrored 3 (some .int) 1 [.int (nI a)] S I L R (zPure I L (nI (mr 15 a))) := by
  refine zM0_of (own := RX2) (lv := [some (.int (nI a)), none, none]) rfl (by decide) rfl rfl ?_
  refine z_iconst (nI 0) dX2_mirrored_0 (by decide) ?_
  refine z_ist1 dX2_mirrored_1 rfl ?_
  refine z_iconst (nI 0) dX2_mirrored_2 (by decide) ?_
  refine z_ist2 dX2_mirrored_3 rfl ?_
  exact mirrored_loop I L a ha 16 0 (by omega) (by omega)
theorem c_mirrored {S : zS} {R : zMR} (I : zMI) (L : zML) {x x2 : Nat} {c : List Nat} (h : cOk x x2 c) (hx : x2 ≤ 15) : zM0 yX2_mirrored cX2_mirrored 3 (some .int) 1 [.int (nI (cm c))] S I L R (zPure I L (nI (cm (mirr c)))) := by
  rw [← mr_cm h hx]
  exact c_mirrored0 I L _ (cm_lt c)
set_option maxRecDepth 100000 in
set_option maxHeartbeats 4000000 in
theorem c_refusalOfCut {S : zS} {R : zMR} (I : zMI) (L : zML) {b : Nat} {v : Ly} (hb : zLay S R b) (hv : zCLy I b v) (ho : lyOk v) (s z : Int32) : zM0 yX2_refusalOfCut cX2_refusalOfCut 4 (some .int) 3 [.ref b, .int s, .int z] S I L R (zPure I L (rCut v.1 s.toInt z.toInt)) := by
  refine zM0_of (own := RX2) (lv := [some (.ref b), some (.int s), some (.int z), none]) rfl (by decide) rfl rfl ?_
  have hl := ho.1
  have hnp := ho.2.2.1
  have e : v.1.take (nI v.1.length).toInt.toNat = v.1 := by
    rw [nI_T (by omega)]
    exact List.take_of_length_le (by omega)
  refine z_aload_n dX2_refusalOfCut_0 rfl ?_
  refine z_iload_n dX2_refusalOfCut_1 rfl ?_
  refine z_callV1p dX2_refusalOfCut_2 mX2_61 hb.o (c_hasShape I L hb hv ho _) (by decide) (Nat.le_of_ble_eq_true rfl) ⟨Nat.le_refl _, Nat.le_refl _⟩ ?_
  refine z_if_neB (tgt := 11) dX2_refusalOfCut_5 (by decide) (fun h5 => ?_) (fun h5 => ?_)
  · obtain ⟨j, hj, rfl⟩ := nI_of3 (n := v.1.length) h5.1 h5.2 (by omega)
    rw [nI_T (show j < 2147483648 from by omega)] at h5 ⊢
    obtain ⟨sh, hsh⟩ := getS hj
    have hso := ho.sh hsh
    obtain ⟨o1, o2, o3, o4, o5⟩ := id hso
    have hg := gt_nat hsh
    have hcl := cOk_len o5
    refine z_iload_n dX2_refusalOfCut_11 rfl ?_
    refine z_callS1p dX2_refusalOfCut_12 mX2_84 (c_isCutPlace I L _) (by decide) (Nat.le_of_ble_eq_true rfl) ⟨Nat.le_refl _, Nat.le_refl _⟩ ?_
    refine z_if_neB (tgt := 21) dX2_refusalOfCut_15 (by decide) (fun h15 => ?_) (fun h15 => ?_)
    · obtain ⟨x, hx, rfl⟩ := nI_of3 (n := 15) h15.1 (by omega) (by omega)
      rw [nI_T (show x < 2147483648 from by omega)] at h15 ⊢
      refine z_aload_n dX2_refusalOfCut_21 rfl ?_
      refine z_getr dX2_refusalOfCut_22 fX2_9 hb.o hb.r0 ?_
      refine z_iload_n dX2_refusalOfCut_25 rfl ?_
      refine z_iaN dX2_refusalOfCut_26 hb.a0 (by omega) (by decide) ?_
      refine z_top ((hv.2.1 j sh hsh).1) ?_
      refine z_iload_n dX2_refusalOfCut_27 rfl ?_
      refine z_icmp_gtNN (tgt := 47) dX2_refusalOfCut_28 (by decide) (by omega) (by omega) (fun h28 => ?_) (fun h28 => ?_)
      · refine z_iconst (nI 0) dX2_refusalOfCut_47 (by decide) ?_
        refine z_ist3 dX2_refusalOfCut_48 rfl ?_
        refine z_iload_n dX2_refusalOfCut_49 rfl ?_
        refine z_if_eqN (tgt := 75) dX2_refusalOfCut_50 (by decide) (by omega) (fun _ => ?_) (fun h50 => absurd h50 (by decide))
        refine z_ldc dX2_refusalOfCut_75 kX2_74 ?_
        exact z_iret dX2_refusalOfCut_77 ⟨Nat.le_refl _, Nat.le_refl _⟩ rfl ⟨rfl, rfl, rfl, rfl, congrArg (fun z => some (Value.int z)) (by unfold rCut; rw [zif_t h5, zif_t h15, zif_f (fun q => by unfold canCut at q; rw [hg] at q; simp only [Int.toNat_natCast] at q; first | omega | exact q.2.2.1 h59)])⟩
      · refine z_iload_n dX2_refusalOfCut_31 rfl ?_
        refine z_iconst (nI 1) dX2_refusalOfCut_32 (by decide) ?_
        refine z_iaddN dX2_refusalOfCut_33 ?_
        refine z_aload_n dX2_refusalOfCut_34 rfl ?_
        refine z_getr dX2_refusalOfCut_35 fX2_18 hb.o hb.r2 ?_
        refine z_iload_n dX2_refusalOfCut_38 rfl ?_
        refine z_iaN dX2_refusalOfCut_39 hb.a2 (by omega) (by decide) ?_
        refine z_top ((hv.2.1 j sh hsh).2.2.1) ?_
        refine z_icmp_gtNN (tgt := 47) dX2_refusalOfCut_40 (by decide) (by omega) (by omega) (fun h40 => ?_) (fun h40 => ?_)
        · refine z_iconst (nI 0) dX2_refusalOfCut_47 (by decide) ?_
          refine z_ist3 dX2_refusalOfCut_48 rfl ?_
          refine z_iload_n dX2_refusalOfCut_49 rfl ?_
          refine z_if_eqN (tgt := 75) dX2_refusalOfCut_50 (by decide) (by omega) (fun _ => ?_) (fun h50 => absurd h50 (by decide))
          refine z_ldc dX2_refusalOfCut_75 kX2_74 ?_
          exact z_iret dX2_refusalOfCut_77 ⟨Nat.le_refl _, Nat.le_refl _⟩ rfl ⟨rfl, rfl, rfl, rfl, congrArg (fun z => some (Value.int z)) (by unfold rCut; rw [zif_t h5, zif_t h15, zif_f (fun q => by unfold canCut at q; rw [hg] at q; simp only [Int.toNat_natCast] at q; first | omega | exact q.2.2.1 h59)])⟩
        · refine z_iconst (nI 1) dX2_refusalOfCut_43 (by decide) ?_
          refine z_goto (tgt := 48) dX2_refusalOfCut_44 (by decide) ?_
          refine z_ist3 dX2_refusalOfCut_48 rfl ?_
          refine z_iload_n dX2_refusalOfCut_49 rfl ?_
          refine z_if_eqN (tgt := 75) dX2_refusalOfCut_50 (by decide) (by omega) (fun h50 => absurd h50 (by decide)) (fun _ => ?_)
          refine z_aload_n dX2_refusalOfCut_53 rfl ?_
          refine z_iload_n dX2_refusalOfCut_54 rfl ?_
          refine z_iload_n dX2_refusalOfCut_55 rfl ?_
          refine z_callV2p dX2_refusalOfCut_56 mX2_87 hb.o (c_isCutAt I L hb hv ho hsh x hx) (by decide) (Nat.le_of_ble_eq_true rfl) ⟨Nat.le_refl _, Nat.le_refl _⟩ ?_
          refine z_if_neB (tgt := 75) dX2_refusalOfCut_59 (by decide) (fun h59 => ?_) (fun h59 => ?_)
          · refine z_ldc dX2_refusalOfCut_75 kX2_74 ?_
            exact z_iret dX2_refusalOfCut_77 ⟨Nat.le_refl _, Nat.le_refl _⟩ rfl ⟨rfl, rfl, rfl, rfl, congrArg (fun z => some (Value.int z)) (by unfold rCut; rw [zif_t h5, zif_t h15, zif_f (fun q => by unfold canCut at q; rw [hg] at q; simp only [Int.toNat_natCast] at q; first | omega | exact q.2.2.1 h59)])⟩
          · refine z_aload_n dX2_refusalOfCut_62 rfl ?_
            refine z_getr dX2_refusalOfCut_63 fX2_24 hb.o hb.r4 ?_
            refine z_iload_n dX2_refusalOfCut_66 rfl ?_
            refine z_iaN dX2_refusalOfCut_67 hb.a4 (by omega) (by decide) ?_
            refine z_top ((hv.2.1 j sh hsh).2.2.2.2) ?_
            refine z_callS1p dX2_refusalOfCut_68 mX2_52 (c_bitCountC I L o5 o2) (by decide) (Nat.le_of_ble_eq_true rfl) ⟨Nat.le_refl _, Nat.le_refl _⟩ ?_
            refine z_iconst (nI 2) dX2_refusalOfCut_71 (by decide) ?_
            refine z_icmp_ltNN (tgt := 78) dX2_refusalOfCut_72 (by decide) (by omega) (by omega) (fun h72 => ?_) (fun h72 => ?_)
            · refine z_aload_n dX2_refusalOfCut_78 rfl ?_
              refine z_aload_n dX2_refusalOfCut_79 rfl ?_
              refine z_geti dX2_refusalOfCut_80 fX2_27 hb.o ?_
              refine z_top (hv.1) ?_
              refine z_callV1p dX2_refusalOfCut_83 mX2_58 hb.o (c_piecesAhead I L hb hv ho _) (by decide) (Nat.le_of_ble_eq_true rfl) ⟨Nat.le_refl _, Nat.le_refl _⟩ ?_
              rw [e]
              refine z_bipush (nI 14) dX2_refusalOfCut_86 (by decide) ?_
              refine z_icmp_ltNN (tgt := 96) dX2_refusalOfCut_88 (by decide) (by omega) (by omega) (fun h88 => ?_) (fun h88 => ?_)
              · refine z_iconst (nI 0) dX2_refusalOfCut_96 (by decide) ?_
                exact z_iret dX2_refusalOfCut_97 ⟨Nat.le_refl _, Nat.le_refl _⟩ rfl ⟨rfl, rfl, rfl, rfl, congrArg (fun z => some (Value.int z)) (by unfold rCut; rw [zif_t h5, zif_t h15, zif_t (by unfold canCut; rw [hg]; simp only [Int.toNat_natCast]; exact ⟨by omega, by omega, h59, by omega⟩)]; first | rw [zif_t (by omega)] | exact (zif_f (by omega)).symm)⟩
              · refine z_ldc dX2_refusalOfCut_91 kX2_79 ?_
                refine z_goto (tgt := 97) dX2_refusalOfCut_93 (by decide) ?_
                exact z_iret dX2_refusalOfCut_97 ⟨Nat.le_refl _, Nat.le_refl _⟩ rfl ⟨rfl, rfl, rfl, rfl, congrArg (fun z => some (Value.int z)) (by unfold rCut; rw [zif_t h5, zif_t h15, zif_t (by unfold canCut; rw [hg]; simp only [Int.toNat_natCast]; exact ⟨by omega, by omega, h59, by omega⟩)]; first | rw [zif_t (by omega)] | exact (zif_f (by omega)).symm)⟩
            · refine z_ldc dX2_refusalOfCut_75 kX2_74 ?_
              exact z_iret dX2_refusalOfCut_77 ⟨Nat.le_refl _, Nat.le_refl _⟩ rfl ⟨rfl, rfl, rfl, rfl, congrArg (fun z => some (Value.int z)) (by unfold rCut; rw [zif_t h5, zif_t h15, zif_f (fun q => by unfold canCut at q; rw [hg] at q; simp only [Int.toNat_natCast] at q; first | omega | exact q.2.2.1 h59)])⟩
    · refine z_ldc dX2_refusalOfCut_18 kX2_69 ?_
      exact z_iret dX2_refusalOfCut_20 ⟨Nat.le_refl _, Nat.le_refl _⟩ rfl ⟨rfl, rfl, rfl, rfl, congrArg (fun z => some (Value.int z)) (by unfold rCut; rw [zif_t h5, zif_f h15])⟩
  · refine z_ldc dX2_refusalOfCut_8 kX2_80 ?_
    exact z_iret dX2_refusalOfCut_10 ⟨Nat.le_refl _, Nat.le_refl _⟩ rfl ⟨rfl, rfl, rfl, rfl, congrArg (fun z => some (Value.int z)) (by unfold rCut; rw [zif_f h5])⟩
set_option maxRecDepth 100000 in
set_option maxHeartbeats 4000000 in
theorem c_refusalOfHealing {S : zS} {R : zMR} (I : zMI) (L : zML) {b : Nat} {v : Ly} (hb : zLay S R b) (hv : zCLy I b v) (ho : lyOk v) (s z : Int32) : zM0 yX2_refusalOfHealing cX2_refusalOfHealing 3 (some .int) 2 [.ref b, .int s, .int z] S I L R (zPure I L (rHeal v.1 s.toInt z.toInt)) := by
  refine zM0_of (own := RX2) (lv := [some (.ref b), some (.int s), some (.int z)]) rfl (by decide) rfl rfl ?_
  have hl := ho.1
  refine z_aload_n dX2_refusalOfHealing_0 rfl ?_
  refine z_iload_n dX2_refusalOfHealing_1 rfl ?_
  refine z_callV1p dX2_refusalOfHealing_2 mX2_61 hb.o (c_hasShape I L hb hv ho _) (by decide) (Nat.le_of_ble_eq_true rfl) ⟨Nat.le_refl _, Nat.le_refl _⟩ ?_
  refine z_if_neB (tgt := 11) dX2_refusalOfHealing_5 (by decide) (fun h5 => ?_) (fun h5 => ?_)
  · obtain ⟨j, hj, rfl⟩ := nI_of3 (n := v.1.length) h5.1 h5.2 (by omega)
    rw [nI_T (show j < 2147483648 from by omega)] at h5 ⊢
    obtain ⟨sh, hsh⟩ := getS hj
    have hso := ho.sh hsh
    obtain ⟨o1, o2, o3, o4, o5⟩ := id hso
    have hg := gt_nat hsh
    have hcl := cOk_len o5
    refine z_iload_n dX2_refusalOfHealing_11 rfl ?_
    refine z_callS1p dX2_refusalOfHealing_12 mX2_84 (c_isCutPlace I L _) (by decide) (Nat.le_of_ble_eq_true rfl) ⟨Nat.le_refl _, Nat.le_refl _⟩ ?_
    refine z_if_neB (tgt := 21) dX2_refusalOfHealing_15 (by decide) (fun h15 => ?_) (fun h15 => ?_)
    · obtain ⟨x, hx, rfl⟩ := nI_of3 (n := 15) h15.1 (by omega) (by omega)
      rw [nI_T (show x < 2147483648 from by omega)] at h15 ⊢
      refine z_aload_n dX2_refusalOfHealing_21 rfl ?_
      refine z_iload_n dX2_refusalOfHealing_22 rfl ?_
      refine z_iload_n dX2_refusalOfHealing_23 rfl ?_
      refine z_callV2p dX2_refusalOfHealing_24 mX2_87 hb.o (c_isCutAt I L hb hv ho hsh x hx) (by decide) (Nat.le_of_ble_eq_true rfl) ⟨Nat.le_refl _, Nat.le_refl _⟩ ?_
      refine z_if_eqB (tgt := 34) dX2_refusalOfHealing_27 (by decide) (fun h27 => ?_) (fun h27 => ?_)
      · refine z_ldc dX2_refusalOfHealing_34 kX2_74 ?_
        exact z_iret dX2_refusalOfHealing_36 ⟨Nat.le_refl _, Nat.le_refl _⟩ rfl ⟨rfl, rfl, rfl, rfl, congrArg (fun z => some (Value.int z)) (by unfold rHeal; rw [zif_t h5, zif_t h15, hg, Int.toNat_natCast]; first | exact (zif_t h27).symm | rw [zif_f h27])⟩
      · refine z_iconst (nI 0) dX2_refusalOfHealing_30 (by decide) ?_
        refine z_goto (tgt := 36) dX2_refusalOfHealing_31 (by decide) ?_
        exact z_iret dX2_refusalOfHealing_36 ⟨Nat.le_refl _, Nat.le_refl _⟩ rfl ⟨rfl, rfl, rfl, rfl, congrArg (fun z => some (Value.int z)) (by unfold rHeal; rw [zif_t h5, zif_t h15, hg, Int.toNat_natCast]; first | exact (zif_t h27).symm | rw [zif_f h27])⟩
    · refine z_ldc dX2_refusalOfHealing_18 kX2_69 ?_
      exact z_iret dX2_refusalOfHealing_20 ⟨Nat.le_refl _, Nat.le_refl _⟩ rfl ⟨rfl, rfl, rfl, rfl, congrArg (fun z => some (Value.int z)) (by unfold rHeal; rw [zif_t h5, zif_f h15])⟩
  · refine z_ldc dX2_refusalOfHealing_8 kX2_80 ?_
    exact z_iret dX2_refusalOfHealing_10 ⟨Nat.le_refl _, Nat.le_refl _⟩ rfl ⟨rfl, rfl, rfl, rfl, congrArg (fun z => some (Value.int z)) (by unfold rHeal; rw [zif_f h5])⟩
set_option maxRecDepth 100000 in
set_option maxHeartbeats 4000000 in
theorem c_refusalOfStep {S : zS} {R : zMR} (I : zMI) (L : zML) {b : Nat} {v : Ly} (hb : zLay S R b) (hv : zCLy I b v) (ho : lyOk v) (s dx dy : Int32) : zM0 yX2_refusalOfStep cX2_refusalOfStep 9 (some .int) 3 [.ref b, .int s, .int dx, .int dy] S I L R (zPure I L (rStep v.1 s.toInt dx.toInt dy.toInt)) := by
  refine zM0_of (own := RX2) (lv := [some (.ref b), some (.int s), some (.int dx), some (.int dy), none, none, none, none, none]) rfl (by decide) rfl rfl ?_
  have hl := ho.1
  refine z_aload_n dX2_refusalOfStep_0 rfl ?_
  refine z_iload_n dX2_refusalOfStep_1 rfl ?_
  refine z_callV1p dX2_refusalOfStep_2 mX2_61 hb.o (c_hasShape I L hb hv ho _) (by decide) (Nat.le_of_ble_eq_true rfl) ⟨Nat.le_refl _, Nat.le_refl _⟩ ?_
  refine z_if_neB (tgt := 11) dX2_refusalOfStep_5 (by decide) (fun h5 => ?_) (fun h5 => ?_)
  · obtain ⟨j, hj, rfl⟩ := nI_of3 (n := v.1.length) h5.1 h5.2 (by omega)
    rw [nI_T (show j < 2147483648 from by omega)] at h5 ⊢
    obtain ⟨sh, hsh⟩ := getS hj
    have hso := ho.sh hsh
    obtain ⟨o1, o2, o3, o4, o5⟩ := id hso
    have hg := gt_nat hsh
    have hcl := cOk_len o5
    refine z_iload_n dX2_refusalOfStep_11 rfl ?_
    refine z_callS1p dX2_refusalOfStep_12 mX2_81 (c_isStep I L _) (by decide) (Nat.le_of_ble_eq_true rfl) ⟨Nat.le_refl _, Nat.le_refl _⟩ ?_
    refine z_if_eqB (tgt := 25) dX2_refusalOfStep_15 (by decide) (fun h15 => ?_) (fun h15 => ?_)
    · refine z_ldc dX2_refusalOfStep_25 kX2_69 ?_
      exact z_iret dX2_refusalOfStep_27 ⟨Nat.le_refl _, Nat.le_refl _⟩ rfl ⟨rfl, rfl, rfl, rfl, congrArg (fun z => some (Value.int z)) (by unfold rStep steps; rw [zif_t h5, zif_f (by omega)])⟩
    · refine z_iload_n dX2_refusalOfStep_18 rfl ?_
      refine z_callS1p dX2_refusalOfStep_19 mX2_81 (c_isStep I L _) (by decide) (Nat.le_of_ble_eq_true rfl) ⟨Nat.le_refl _, Nat.le_refl _⟩ ?_
      refine z_if_neB (tgt := 28) dX2_refusalOfStep_22 (by decide) (fun h22 => ?_) (fun h22 => ?_)
      · refine z_aload_n dX2_refusalOfStep_28 rfl ?_
        refine z_getr dX2_refusalOfStep_29 fX2_9 hb.o hb.r0 ?_
        refine z_iload_n dX2_refusalOfStep_32 rfl ?_
        refine z_iaN dX2_refusalOfStep_33 hb.a0 (by omega) (by decide) ?_
        refine z_top ((hv.2.1 j sh hsh).1) ?_
        refine z_iload_n dX2_refusalOfStep_34 rfl ?_
        refine z_iadd dX2_refusalOfStep_35 ?_
        refine z_top (nI_addI _ _) ?_
        refine z_ist4 dX2_refusalOfStep_36 rfl ?_
        refine z_aload_n dX2_refusalOfStep_38 rfl ?_
        refine z_getr dX2_refusalOfStep_39 fX2_15 hb.o hb.r1 ?_
        refine z_iload_n dX2_refusalOfStep_42 rfl ?_
        refine z_iaN dX2_refusalOfStep_43 hb.a1 (by omega) (by decide) ?_
        refine z_top ((hv.2.1 j sh hsh).2.1) ?_
        refine z_iload_n dX2_refusalOfStep_44 rfl ?_
        refine z_iadd dX2_refusalOfStep_45 ?_
        refine z_top (nI_addI _ _) ?_
        refine z_ist5 dX2_refusalOfStep_46 rfl ?_
        refine z_aload_n dX2_refusalOfStep_48 rfl ?_
        refine z_getr dX2_refusalOfStep_49 fX2_18 hb.o hb.r2 ?_
        refine z_iload_n dX2_refusalOfStep_52 rfl ?_
        refine z_iaN dX2_refusalOfStep_53 hb.a2 (by omega) (by decide) ?_
        refine z_top ((hv.2.1 j sh hsh).2.2.1) ?_
        refine z_iload_n dX2_refusalOfStep_54 rfl ?_
        refine z_iadd dX2_refusalOfStep_55 ?_
        refine z_top (nI_addI _ _) ?_
        refine z_ist6 dX2_refusalOfStep_56 rfl ?_
        refine z_aload_n dX2_refusalOfStep_58 rfl ?_
        refine z_getr dX2_refusalOfStep_59 fX2_21 hb.o hb.r3 ?_
        refine z_iload_n dX2_refusalOfStep_62 rfl ?_
        refine z_iaN dX2_refusalOfStep_63 hb.a3 (by omega) (by decide) ?_
        refine z_top ((hv.2.1 j sh hsh).2.2.2.1) ?_
        refine z_iload_n dX2_refusalOfStep_64 rfl ?_
        refine z_iadd dX2_refusalOfStep_65 ?_
        refine z_top (nI_addI _ _) ?_
        refine z_ist7 dX2_refusalOfStep_66 rfl ?_
        refine z_iload dX2_refusalOfStep_68 rfl ?_
        refine z_iload dX2_refusalOfStep_70 rfl ?_
        refine z_iload dX2_refusalOfStep_72 rfl ?_
        refine z_iload dX2_refusalOfStep_74 rfl ?_
        refine z_callS4p dX2_refusalOfStep_76 mX2_65 (c_isOnField I L _ _ _ _) (by decide) (Nat.le_of_ble_eq_true rfl) ⟨Nat.le_refl _, Nat.le_refl _⟩ ?_
        rw [(zi_T (show -1000000 ≤ (sx sh : Int) + dx.toInt from by omega) (by omega)), (zi_T (show -1000000 ≤ (sy sh : Int) + dy.toInt from by omega) (by omega)), (zi_T (show -1000000 ≤ (sx2 sh : Int) + dx.toInt from by omega) (by omega)), (zi_T (show -1000000 ≤ (sy2 sh : Int) + dy.toInt from by omega) (by omega))]
        refine z_if_eqB (tgt := 102) dX2_refusalOfStep_79 (by decide) (fun h79 => ?_) (fun h79 => ?_)
        · refine z_iconst (nI 0) dX2_refusalOfStep_102 (by decide) ?_
          refine z_ist8 dX2_refusalOfStep_103 rfl ?_
          refine z_iload dX2_refusalOfStep_105 rfl ?_
          refine z_if_eqN (tgt := 114) dX2_refusalOfStep_107 (by decide) (by omega) (fun _ => ?_) (fun h107 => absurd h107 (by decide))
          refine z_ldc dX2_refusalOfStep_114 kX2_74 ?_
          exact z_iret dX2_refusalOfStep_116 ⟨Nat.le_refl _, Nat.le_refl _⟩ rfl ⟨rfl, rfl, rfl, rfl, congrArg (fun z => some (Value.int z)) (by unfold rStep; rw [zif_t h5, zif_t (by unfold steps; omega)]; first | exact (zif_t (by unfold canStep; rw [hg]; exact ⟨h79, h95⟩)).symm | rw [zif_f (fun q => by unfold canStep at q; rw [hg] at q; first | exact h79 q.1 | exact h95 q.2)])⟩
        · refine z_aload_n dX2_refusalOfStep_82 rfl ?_
          refine z_iload dX2_refusalOfStep_83 rfl ?_
          refine z_iload dX2_refusalOfStep_85 rfl ?_
          refine z_iload dX2_refusalOfStep_87 rfl ?_
          refine z_iload dX2_refusalOfStep_89 rfl ?_
          refine z_iload_n dX2_refusalOfStep_91 rfl ?_
          refine z_callV5p dX2_refusalOfStep_92 mX2_70 hb.o (c_isFree I L hb hv ho _ _ _ _ _) (by decide) (Nat.le_of_ble_eq_true rfl) ⟨Nat.le_refl _, Nat.le_refl _⟩ ?_
          rw [(zi_T (show -1000000 ≤ (sx sh : Int) + dx.toInt from by omega) (by omega)), (zi_T (show -1000000 ≤ (sy sh : Int) + dy.toInt from by omega) (by omega)), (zi_T (show -1000000 ≤ (sx2 sh : Int) + dx.toInt from by omega) (by omega)), (zi_T (show -1000000 ≤ (sy2 sh : Int) + dy.toInt from by omega) (by omega)), nI_T (show j < 2147483648 from by omega)]
          refine z_if_eqB (tgt := 102) dX2_refusalOfStep_95 (by decide) (fun h95 => ?_) (fun h95 => ?_)
          · refine z_iconst (nI 0) dX2_refusalOfStep_102 (by decide) ?_
            refine z_ist8 dX2_refusalOfStep_103 rfl ?_
            refine z_iload dX2_refusalOfStep_105 rfl ?_
            refine z_if_eqN (tgt := 114) dX2_refusalOfStep_107 (by decide) (by omega) (fun _ => ?_) (fun h107 => absurd h107 (by decide))
            refine z_ldc dX2_refusalOfStep_114 kX2_74 ?_
            exact z_iret dX2_refusalOfStep_116 ⟨Nat.le_refl _, Nat.le_refl _⟩ rfl ⟨rfl, rfl, rfl, rfl, congrArg (fun z => some (Value.int z)) (by unfold rStep; rw [zif_t h5, zif_t (by unfold steps; omega)]; first | exact (zif_t (by unfold canStep; rw [hg]; exact ⟨h79, h95⟩)).symm | rw [zif_f (fun q => by unfold canStep at q; rw [hg] at q; first | exact h79 q.1 | exact h95 q.2)])⟩
          · refine z_iconst (nI 1) dX2_refusalOfStep_98 (by decide) ?_
            refine z_goto (tgt := 103) dX2_refusalOfStep_99 (by decide) ?_
            refine z_ist8 dX2_refusalOfStep_103 rfl ?_
            refine z_iload dX2_refusalOfStep_105 rfl ?_
            refine z_if_eqN (tgt := 114) dX2_refusalOfStep_107 (by decide) (by omega) (fun h107 => absurd h107 (by decide)) (fun _ => ?_)
            refine z_iconst (nI 0) dX2_refusalOfStep_110 (by decide) ?_
            refine z_goto (tgt := 116) dX2_refusalOfStep_111 (by decide) ?_
            exact z_iret dX2_refusalOfStep_116 ⟨Nat.le_refl _, Nat.le_refl _⟩ rfl ⟨rfl, rfl, rfl, rfl, congrArg (fun z => some (Value.int z)) (by unfold rStep; rw [zif_t h5, zif_t (by unfold steps; omega)]; first | exact (zif_t (by unfold canStep; rw [hg]; exact ⟨h79, h95⟩)).symm | rw [zif_f (fun q => by unfold canStep at q; rw [hg] at q; first | exact h79 q.1 | exact h95 q.2)])⟩
      · refine z_ldc dX2_refusalOfStep_25 kX2_69 ?_
        exact z_iret dX2_refusalOfStep_27 ⟨Nat.le_refl _, Nat.le_refl _⟩ rfl ⟨rfl, rfl, rfl, rfl, congrArg (fun z => some (Value.int z)) (by unfold rStep steps; rw [zif_t h5, zif_f (by omega)])⟩
  · refine z_ldc dX2_refusalOfStep_8 kX2_80 ?_
    exact z_iret dX2_refusalOfStep_10 ⟨Nat.le_refl _, Nat.le_refl _⟩ rfl ⟨rfl, rfl, rfl, rfl, congrArg (fun z => some (Value.int z)) (by unfold rStep; rw [zif_f h5])⟩
