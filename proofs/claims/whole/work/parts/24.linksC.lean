set_option maxRecDepth 100000 in
set_option maxHeartbeats 4000000 in
theorem neighbours_loop {S : zS} {R : zMR} (I : zMI) (L : zML) {b pb D st cl : Nat} {ps : List Pc} (hb : zLnk S R b pb) (hv : zPC I pb ps D st cl) (ho : psOk ps) (A : Nat → Nat → Bool) {ra : Nat} (hra : S[ra]? = some (0, 14)) (hA : ∀ p, p < ps.length → I ra p = nI (bm 14 (A p))) (s : Nat) (hs : s < 2147483648) : ∀ (n : Nat) (i : Nat), ps.length + 1 ≤ i + n → i ≤ ps.length → zV (zMt RX3 cX3_neighbours 5 (some .int) 1) (fun S2 I2 L2 R2 rr => S2 = S ∧ R2 = R ∧ (zPure I L (nI (nbS A ps.length s))) I2 L2 rr) (0, 0) S I L R 5 [some (.ref b), some (.ref ra), some (.int (nI s)), some (.int (nI (bm 14 (fun q => exB i (fun p => s.testBit p && A p q))))), some (.int (nI i))] [] := by
  intro n
  induction n with
  | zero => intro i h1 h2; omega
  | succ n ih =>
    intro i h1 h2
    have hl := ho.1
    refine z_iload dX3_neighbours_5 rfl ?_
    refine z_aload_n dX3_neighbours_7 rfl ?_
    refine z_getr dX3_neighbours_8 fX3_7 hb.o hb.r0 ?_
    refine z_geti dX3_neighbours_11 fX3_23 hb.p.o ?_
    refine z_top (hv.1.1) ?_
    refine z_icmp_geNN (tgt := 46) dX3_neighbours_14 (by decide) (by omega) (by omega) (fun h14 => ?_) (fun h14 => ?_)
    · refine z_iload_n dX3_neighbours_46 rfl ?_
      have e : i = ps.length := by omega
      subst e
      exact z_iret dX3_neighbours_47 ⟨Nat.le_refl _, Nat.le_refl _⟩ rfl ⟨rfl, rfl, rfl, rfl, congrArg (fun z => some (Value.int z)) (rfl)⟩
    · refine z_iload dX3_neighbours_17 rfl ?_
      refine z_aload_n dX3_neighbours_19 rfl ?_
      refine z_alen dX3_neighbours_20 hra (by decide) ?_
      refine z_icmp_geNN (tgt := 46) dX3_neighbours_21 (by decide) (by omega) (by omega) (fun h21 => ?_) (fun h21 => ?_)
      · refine z_iload_n dX3_neighbours_46 rfl ?_
        have e : i = ps.length := by omega
        subst e
        exact z_iret dX3_neighbours_47 ⟨Nat.le_refl _, Nat.le_refl _⟩ rfl ⟨rfl, rfl, rfl, rfl, congrArg (fun z => some (Value.int z)) (rfl)⟩
      · refine z_iload_n dX3_neighbours_24 rfl ?_
        refine z_iload dX3_neighbours_25 rfl ?_
        refine z_bit dX3_neighbours_27 dX3_neighbours_28 (by decide) dX3_neighbours_29 (by omega) (by omega) ?_
        refine z_if_eqT (tgt := 40) dX3_neighbours_30 (by decide) (fun h30 => ?_) (fun h30 => ?_)
        · refine z_iincN4 (n := 1) dX3_neighbours_40 rfl ?_
          refine z_goto (tgt := 5) dX3_neighbours_43 (by decide) ?_
          have e := nbS_step A s i
          first | rw [if_pos h30] at e | rw [if_neg (by rw [h30]; decide)] at e
          rw [← e]
          exact ih (i + 1) (by omega) (by omega)
        · refine z_iload_n dX3_neighbours_33 rfl ?_
          refine z_aload_n dX3_neighbours_34 rfl ?_
          refine z_iload dX3_neighbours_35 rfl ?_
          refine z_iaN dX3_neighbours_37 hra (by omega) (by decide) ?_
          refine z_top (hA i h14) ?_
          refine z_iorN dX3_neighbours_38 ?_
          refine z_ist3 dX3_neighbours_39 rfl ?_
          refine z_iincN4 (n := 1) dX3_neighbours_40 rfl ?_
          refine z_goto (tgt := 5) dX3_neighbours_43 (by decide) ?_
          have e := nbS_step A s i
          first | rw [if_pos h30] at e | rw [if_neg (by rw [h30]; decide)] at e
          rw [← e]
          exact ih (i + 1) (by omega) (by omega)
set_option maxRecDepth 100000 in
set_option maxHeartbeats 4000000 in
theorem c_neighbours {S : zS} {R : zMR} (I : zMI) (L : zML) {b pb D st cl : Nat} {ps : List Pc} (hb : zLnk S R b pb) (hv : zPC I pb ps D st cl) (ho : psOk ps) (A : Nat → Nat → Bool) {ra : Nat} (hra : S[ra]? = some (0, 14)) (hA : ∀ p, p < ps.length → I ra p = nI (bm 14 (A p))) (s : Nat) (hs : s < 2147483648) : zM0 yX3_neighbours cX3_neighbours 5 (some .int) 1 [.ref b, .ref ra, .int (nI s)] S I L R (zPure I L (nI (nbS A ps.length s))) := by
  refine zM0_of (own := RX3) (lv := [some (.ref b), some (.ref ra), some (.int (nI s)), none, none]) rfl (by decide) rfl rfl ?_
  refine z_iconst (nI 0) dX3_neighbours_0 (by decide) ?_
  refine z_ist3 dX3_neighbours_1 rfl ?_
  refine z_iconst (nI 0) dX3_neighbours_2 (by decide) ?_
  refine z_ist4 dX3_neighbours_3 rfl ?_
  have e := exB_0 (fun p => s.testBit p && A p 0)
  have z := neighbours_loop I L hb hv ho A hra hA s hs (ps.length + 1) 0 (by omega) (by omega)
  have e2 : bm 14 (fun q => exB 0 (fun p => s.testBit p && A p q)) = 0 := by rw [← exB_0 (fun _ => false)]; rfl
  rw [e2] at z
  exact z
set_option maxRecDepth 100000 in
set_option maxHeartbeats 4000000 in
theorem reached_loop {S : zS} {R : zMR} (I : zMI) (L : zML) {b pb D st cl : Nat} {ps : List Pc} (hb : zLnk S R b pb) (hv : zPC I pb ps D st cl) (ho : psOk ps) (f w : Nat) (hf : f < 16384) (hw : w < 2147483648) : ∀ (n : Nat) (i s : Nat) (a5 : Option Value), ps.length + 1 ≤ i + n → i ≤ ps.length → s < 16384 → zCat [a5] = true → reach (lkb ps D) ps.length f w = itr (ps.length - i) (stW (lkb ps D) ps.length w) s → zV (zMt RX3 cX3_reached 6 (some .int) 2) (fun S2 I2 L2 R2 rr => S2 = S ∧ R2 = R ∧ (zPure I L (nI (reach (lkb ps D) ps.length f w))) I2 L2 rr) (0, 0) S I L R 7 [some (.ref b), some (.int (nI f)), some (.int (nI w)), some (.int (nI s)), some (.int (nI i)), a5] [] := by
  intro n
  induction n with
  | zero => intro i s a5 h1 h2 hs h5 hi; omega
  | succ n ih =>
    intro i s a5 h1 h2 hs h5 hi
    have hl := ho.1
    refine z_iload dX3_reached_7 rfl ?_
    refine z_aload_n dX3_reached_9 rfl ?_
    refine z_getr dX3_reached_10 fX3_7 hb.o hb.r0 ?_
    refine z_geti dX3_reached_13 fX3_23 hb.p.o ?_
    refine z_top (hv.1.1) ?_
    refine z_icmp_geNN (tgt := 54) dX3_reached_16 (by decide) (by omega) (by omega) (fun h16 => ?_) (fun h16 => ?_)
    · refine z_iload_n dX3_reached_54 rfl ?_
      exact z_iret dX3_reached_55 ⟨Nat.le_refl _, Nat.le_refl _⟩ rfl ⟨rfl, rfl, rfl, rfl, congrArg (fun z => some (Value.int z)) (by rw [hi, show ps.length - i = 0 from by omega, itr])⟩
    · refine z_iload_n dX3_reached_19 rfl ?_
      refine z_aload_n dX3_reached_20 rfl ?_
      refine z_aload_n dX3_reached_21 rfl ?_
      refine z_getr dX3_reached_22 fX3_7 hb.o hb.r0 ?_
      refine z_getr dX3_reached_25 fX3_34 hb.p.o hb.p.r5 ?_
      refine z_iload_n dX3_reached_28 rfl ?_
      refine z_callV2p dX3_reached_29 mX3_54 hb.o (c_neighbours I L hb hv ho (lkb ps D) hb.p.a5 (fun p hp => (hv.2.2.2 p hp).2) _ (by omega)) (by decide) (Nat.le_of_ble_eq_true rfl) ⟨Nat.le_refl _, Nat.le_refl _⟩ ?_
      refine z_iload_n dX3_reached_32 rfl ?_
      refine z_iandN dX3_reached_33 ?_
      refine z_iorN dX3_reached_34 ?_
      refine z_ist5 dX3_reached_35 h5 ?_
      refine z_iload dX3_reached_37 rfl ?_
      refine z_iload_n dX3_reached_39 rfl ?_
      refine z_icmp_neNN (tgt := 45) dX3_reached_40 (by decide) (by have := stW_lt (A := lkb ps D) (n := ps.length) (w := w) hs; unfold stW at this; omega) (by omega) (fun h40 => ?_) (fun h40 => ?_)
      · refine z_iload dX3_reached_45 rfl ?_
        refine z_ist3 dX3_reached_47 rfl ?_
        refine z_iincN4 (n := 1) dX3_reached_48 rfl ?_
        refine z_goto (tgt := 7) dX3_reached_51 (by decide) ?_
        exact ih (i + 1) (stW (lkb ps D) ps.length w s) _ (by omega) (by omega) (stW_lt hs) rfl (by rw [hi, show ps.length - i = (ps.length - (i + 1)) + 1 from by omega, itr])
      · refine z_iload_n dX3_reached_43 rfl ?_
        exact z_iret dX3_reached_44 ⟨Nat.le_refl _, Nat.le_refl _⟩ rfl ⟨rfl, rfl, rfl, rfl, congrArg (fun z => some (Value.int z)) (by rw [hi, itr_fix (show stW (lkb ps D) ps.length w s = s from h40)])⟩
set_option maxRecDepth 100000 in
set_option maxHeartbeats 4000000 in
theorem c_reached {S : zS} {R : zMR} (I : zMI) (L : zML) {b pb D st cl : Nat} {ps : List Pc} (hb : zLnk S R b pb) (hv : zPC I pb ps D st cl) (ho : psOk ps) (f w : Nat) (hf : f < 16384) (hw : w < 2147483648) : zM0 yX3_reached cX3_reached 6 (some .int) 2 [.ref b, .int (nI f), .int (nI w)] S I L R (zPure I L (nI (reach (lkb ps D) ps.length f w))) := by
  refine zM0_of (own := RX3) (lv := [some (.ref b), some (.int (nI f)), some (.int (nI w)), none, none, none]) rfl (by decide) rfl rfl ?_
  refine z_iload_n dX3_reached_0 rfl ?_
  refine z_iload_n dX3_reached_1 rfl ?_
  refine z_iandN dX3_reached_2 ?_
  refine z_ist3 dX3_reached_3 rfl ?_
  refine z_iconst (nI 0) dX3_reached_4 (by decide) ?_
  refine z_ist4 dX3_reached_5 rfl ?_
  exact reached_loop I L hb hv ho f w hf hw (ps.length + 1) 0 (f &&& w) none (by omega) (by omega) (and_lt hf) rfl rfl
set_option maxRecDepth 100000 in
set_option maxHeartbeats 4000000 in
theorem c_partOf {S : zS} {R : zMR} (I : zMI) (L : zML) {b pb D st cl : Nat} {ps : List Pc} (hb : zLnk S R b pb) (hv : zPC I pb ps D st cl) (ho : psOk ps) (p : Nat) (hp : p < ps.length) : zM0 yX3_partOf cX3_partOf 2 (some .int) 3 [.ref b, .int (nI p)] S I L R (zPure I L (nI (part (lkb ps D) ps.length p))) := by
  refine zM0_of (own := RX3) (lv := [some (.ref b), some (.int (nI p))]) rfl (by decide) rfl rfl ?_
  have hl := ho.1
  have hall := all_lt hl
  refine z_aload_n dX3_partOf_0 rfl ?_
  refine z_iconst (nI 1) dX3_partOf_1 (by decide) ?_
  refine z_iload_n dX3_partOf_2 rfl ?_
  refine z_shl1 dX3_partOf_3 (by omega) ?_
  refine z_aload_n dX3_partOf_4 rfl ?_
  refine z_getr dX3_partOf_5 fX3_7 hb.o hb.r0 ?_
  refine z_callV0p dX3_partOf_8 mX3_13 hb.p.o (c_all I L hb.p hv.1 ho) (by decide) (Nat.le_of_ble_eq_true rfl) ⟨Nat.le_refl _, Nat.le_refl _⟩ ?_
  refine z_callV2p dX3_partOf_11 mX3_19 hb.o (c_reached I L hb hv ho _ _ (pow14 (by omega)) (by omega)) (by decide) (Nat.le_of_ble_eq_true rfl) ⟨Nat.le_refl _, Nat.le_refl _⟩ ?_
  exact z_iret dX3_partOf_14 ⟨Nat.le_refl _, Nat.le_refl _⟩ rfl ⟨rfl, rfl, rfl, rfl, congrArg (fun z => some (Value.int z)) (rfl)⟩
set_option maxRecDepth 100000 in
set_option maxHeartbeats 4000000 in
theorem parts_loop {S : zS} {R : zMR} (I : zMI) (L : zML) {b pb D st cl : Nat} {ps : List Pc} (hb : zLnk S R b pb) (hv : zPC I pb ps D st cl) (ho : psOk ps) : ∀ (n : Nat) (i : Nat), ps.length + 1 ≤ i + n → i ≤ ps.length → zV (zMt RX3 cX3_parts 4 (some .int) 4) (fun S2 I2 L2 R2 rr => S2 = S ∧ R2 = R ∧ (zPure I L (nI (ptsF (lkb ps D) ps.length ps.length).2)) I2 L2 rr) (0, 0) S I L R 6 [some (.ref b), some (.int (nI (ptsF (lkb ps D) ps.length i).2)), some (.int (nI (ptsF (lkb ps D) ps.length i).1)), some (.int (nI i))] [] := by
  intro n
  induction n with
  | zero => intro i h1 h2; omega
  | succ n ih =>
    intro i h1 h2
    have hl := ho.1
    have hb9 := ptsF_lt (A := lkb ps D) (n := ps.length) i (by omega)
    refine z_iload_n dX3_parts_6 rfl ?_
    refine z_aload_n dX3_parts_7 rfl ?_
    refine z_getr dX3_parts_8 fX3_7 hb.o hb.r0 ?_
    refine z_geti dX3_parts_11 fX3_23 hb.p.o ?_
    refine z_top (hv.1.1) ?_
    refine z_icmp_geNN (tgt := 42) dX3_parts_14 (by decide) (by omega) (by omega) (fun h14 => ?_) (fun h14 => ?_)
    · refine z_iload_n dX3_parts_42 rfl ?_
      have e : i = ps.length := by omega
      subst e
      exact z_iret dX3_parts_43 ⟨Nat.le_refl _, Nat.le_refl _⟩ rfl ⟨rfl, rfl, rfl, rfl, congrArg (fun z => some (Value.int z)) (rfl)⟩
    · refine z_iload_n dX3_parts_17 rfl ?_
      refine z_iload_n dX3_parts_18 rfl ?_
      refine z_bit dX3_parts_19 dX3_parts_20 (by decide) dX3_parts_21 (by omega) (by omega) ?_
      refine z_if_neT (tgt := 36) dX3_parts_22 (by decide) (fun h22 => ?_) (fun h22 => ?_)
      · refine z_iincN3 (n := 1) dX3_parts_36 rfl ?_
        refine z_goto (tgt := 6) dX3_parts_39 (by decide) ?_
        have z := ih (i + 1) (by omega) (by omega)
        first
        | (rw [ptsF, if_pos h22] at z; exact z)
        | (rw [ptsF, if_neg (by rw [h22]; decide)] at z; exact z)
      · refine z_iload_n dX3_parts_25 rfl ?_
        refine z_aload_n dX3_parts_26 rfl ?_
        refine z_iload_n dX3_parts_27 rfl ?_
        refine z_callV1p dX3_parts_28 mX3_27 hb.o (c_partOf I L hb hv ho i (by omega)) (by decide) (Nat.le_of_ble_eq_true rfl) ⟨Nat.le_refl _, Nat.le_refl _⟩ ?_
        refine z_iorN dX3_parts_31 ?_
        refine z_ist2 dX3_parts_32 rfl ?_
        refine z_iincN1 (n := 1) dX3_parts_33 rfl ?_
        refine z_iincN3 (n := 1) dX3_parts_36 rfl ?_
        refine z_goto (tgt := 6) dX3_parts_39 (by decide) ?_
        have z := ih (i + 1) (by omega) (by omega)
        first
        | (rw [ptsF, if_pos h22] at z; exact z)
        | (rw [ptsF, if_neg (by rw [h22]; decide)] at z; exact z)
set_option maxRecDepth 100000 in
set_option maxHeartbeats 4000000 in
theorem c_parts {S : zS} {R : zMR} (I : zMI) (L : zML) {b pb D st cl : Nat} {ps : List Pc} (hb : zLnk S R b pb) (hv : zPC I pb ps D st cl) (ho : psOk ps) : zM0 yX3_parts cX3_parts 4 (some .int) 4 [.ref b] S I L R (zPure I L (nI (ptsF (lkb ps D) ps.length ps.length).2)) := by
  refine zM0_of (own := RX3) (lv := [some (.ref b), none, none, none]) rfl (by decide) rfl rfl ?_
  refine z_iconst (nI 0) dX3_parts_0 (by decide) ?_
  refine z_ist1 dX3_parts_1 rfl ?_
  refine z_iconst (nI 0) dX3_parts_2 (by decide) ?_
  refine z_ist2 dX3_parts_3 rfl ?_
  refine z_iconst (nI 0) dX3_parts_4 (by decide) ?_
  refine z_ist3 dX3_parts_5 rfl ?_
  exact parts_loop I L hb hv ho (ps.length + 1) 0 (by omega) (by omega)
set_option maxRecDepth 100000 in
set_option maxHeartbeats 4000000 in
theorem oddWalk_loop {S : zS} {R : zMR} (I : zMI) (L : zML) {b pb D st cl : Nat} {ps : List Pc} (hb : zLnk S R b pb) (hv : zPC I pb ps D st cl) (ho : psOk ps) (p : Nat) (hp : p < ps.length) : ∀ (n : Nat) (s e : Nat), ps.length + 2 ≤ s + n → s ≤ ps.length + 1 → 1 ≤ s → e < 16384 → oddW (clb ps D) ps.length p = ow (clb ps D) ps.length p (ps.length + 1 - s) s e → zV (zMt RX3 cX3_oddWalkFrom 4 (some .int) 2) (fun S2 I2 L2 R2 rr => S2 = S ∧ R2 = R ∧ (zPure I L (nI (oddW (clb ps D) ps.length p))) I2 L2 rr) (0, 0) S I L R 6 [some (.ref b), some (.int (nI p)), some (.int (nI e)), some (.int (nI s))] [] := by
  intro n
  induction n with
  | zero => intro s e h1 h2 h3 he hi; omega
  | succ n ih =>
    intro s e h1 h2 h3 he hi
    have hl := ho.1
    refine z_iload_n dX3_oddWalkFrom_6 rfl ?_
    refine z_aload_n dX3_oddWalkFrom_7 rfl ?_
    refine z_getr dX3_oddWalkFrom_8 fX3_7 hb.o hb.r0 ?_
    refine z_geti dX3_oddWalkFrom_11 fX3_23 hb.p.o ?_
    refine z_top (hv.1.1) ?_
    refine z_icmp_gtNN (tgt := 53) dX3_oddWalkFrom_14 (by decide) (by omega) (by omega) (fun h14 => ?_) (fun h14 => ?_)
    · refine z_iconst (nI 0) dX3_oddWalkFrom_53 (by decide) ?_
      exact z_iret dX3_oddWalkFrom_54 ⟨Nat.le_refl _, Nat.le_refl _⟩ rfl ⟨rfl, rfl, rfl, rfl, congrArg (fun z => some (Value.int z)) (by rw [hi, show ps.length + 1 - s = 0 from by omega, ow])⟩
    · refine z_aload_n dX3_oddWalkFrom_17 rfl ?_
      refine z_aload_n dX3_oddWalkFrom_18 rfl ?_
      refine z_getr dX3_oddWalkFrom_19 fX3_7 hb.o hb.r0 ?_
      refine z_getr dX3_oddWalkFrom_22 fX3_51 hb.p.o hb.p.r4 ?_
      refine z_iload_n dX3_oddWalkFrom_25 rfl ?_
      refine z_callV2p dX3_oddWalkFrom_26 mX3_54 hb.o (c_neighbours I L hb hv ho (clb ps D) hb.p.a4 (fun p hp => (hv.2.2.2 p hp).1) _ (by omega)) (by decide) (Nat.le_of_ble_eq_true rfl) ⟨Nat.le_refl _, Nat.le_refl _⟩ ?_
      have hnb := nbS_lt (clb ps D) ps.length e
      refine z_ist2 dX3_oddWalkFrom_29 rfl ?_
      refine z_iload_n dX3_oddWalkFrom_30 rfl ?_
      refine z_iconst (nI 1) dX3_oddWalkFrom_31 (by decide) ?_
      refine z_iandN dX3_oddWalkFrom_32 ?_
      refine z_iconst (nI 1) dX3_oddWalkFrom_33 (by decide) ?_
      refine z_icmp_neNN (tgt := 47) dX3_oddWalkFrom_34 (by decide) (by have := @Nat.and_le_left s 1; omega) (by omega) (fun h34 => ?_) (fun h34 => ?_)
      · refine z_iincN3 (n := 1) dX3_oddWalkFrom_47 rfl ?_
        refine z_goto (tgt := 6) dX3_oddWalkFrom_50 (by decide) ?_
        refine ih (s + 1) (nbS (clb ps D) ps.length e) (by omega) (by omega) (by omega) hnb ?_
        rw [hi, show ps.length + 1 - s = (ps.length + 1 - (s + 1)) + 1 from by omega, ow, if_neg (fun q => by first | exact h34 q.1 | (rw [h42] at q; exact absurd q.2 (by decide)))]
      · refine z_iload_n dX3_oddWalkFrom_37 rfl ?_
        refine z_iload_n dX3_oddWalkFrom_38 rfl ?_
        refine z_bit dX3_oddWalkFrom_39 dX3_oddWalkFrom_40 (by decide) dX3_oddWalkFrom_41 (by omega) (by omega) ?_
        refine z_if_eqT (tgt := 47) dX3_oddWalkFrom_42 (by decide) (fun h42 => ?_) (fun h42 => ?_)
        · refine z_iincN3 (n := 1) dX3_oddWalkFrom_47 rfl ?_
          refine z_goto (tgt := 6) dX3_oddWalkFrom_50 (by decide) ?_
          refine ih (s + 1) (nbS (clb ps D) ps.length e) (by omega) (by omega) (by omega) hnb ?_
          rw [hi, show ps.length + 1 - s = (ps.length + 1 - (s + 1)) + 1 from by omega, ow, if_neg (fun q => by first | exact h34 q.1 | (rw [h42] at q; exact absurd q.2 (by decide)))]
        · refine z_iload_n dX3_oddWalkFrom_45 rfl ?_
          exact z_iret dX3_oddWalkFrom_46 ⟨Nat.le_refl _, Nat.le_refl _⟩ rfl ⟨rfl, rfl, rfl, rfl, congrArg (fun z => some (Value.int z)) (by rw [hi, show ps.length + 1 - s = (ps.length + 1 - (s + 1)) + 1 from by omega, ow, if_pos ⟨h34, h42⟩])⟩
set_option maxRecDepth 100000 in
set_option maxHeartbeats 4000000 in
theorem c_oddWalk {S : zS} {R : zMR} (I : zMI) (L : zML) {b pb D st cl : Nat} {ps : List Pc} (hb : zLnk S R b pb) (hv : zPC I pb ps D st cl) (ho : psOk ps) (p : Nat) (hp : p < ps.length) : zM0 yX3_oddWalkFrom cX3_oddWalkFrom 4 (some .int) 2 [.ref b, .int (nI p)] S I L R (zPure I L (nI (oddW (clb ps D) ps.length p))) := by
  refine zM0_of (own := RX3) (lv := [some (.ref b), some (.int (nI p)), none, none]) rfl (by decide) rfl rfl ?_
  have hl := ho.1
  refine z_iconst (nI 1) dX3_oddWalkFrom_0 (by decide) ?_
  refine z_iload_n dX3_oddWalkFrom_1 rfl ?_
  refine z_shl1 dX3_oddWalkFrom_2 (by omega) ?_
  refine z_ist2 dX3_oddWalkFrom_3 rfl ?_
  refine z_iconst (nI 1) dX3_oddWalkFrom_4 (by decide) ?_
  refine z_ist3 dX3_oddWalkFrom_5 rfl ?_
  exact oddWalk_loop I L hb hv ho p hp (ps.length + 1) 1 (2 ^ p) (by omega) (by omega) (by omega) (pow14 (by omega)) rfl
set_option maxRecDepth 100000 in
set_option maxHeartbeats 4000000 in
theorem oddParts_loop {S : zS} {R : zMR} (I : zMI) (L : zML) {b pb D st cl : Nat} {ps : List Pc} (hb : zLnk S R b pb) (hv : zPC I pb ps D st cl) (ho : psOk ps) : ∀ (n : Nat) (i : Nat), ps.length + 1 ≤ i + n → i ≤ ps.length → zV (zMt RX3 cX3_oddParts 4 (some .int) 4) (fun S2 I2 L2 R2 rr => S2 = S ∧ R2 = R ∧ (zPure I L (nI (oddF (clb ps D) (lkb ps D) ps.length ps.length).2)) I2 L2 rr) (0, 0) S I L R 6 [some (.ref b), some (.int (nI (oddF (clb ps D) (lkb ps D) ps.length i).2)), some (.int (nI (oddF (clb ps D) (lkb ps D) ps.length i).1)), some (.int (nI i))] [] := by
  intro n
  induction n with
  | zero => intro i h1 h2; omega
  | succ n ih =>
    intro i h1 h2
    have hl := ho.1
    have hb9 := oddF_lt (C := clb ps D) (A := lkb ps D) (n := ps.length) i (by omega)
    refine z_iload_n dX3_oddParts_6 rfl ?_
    refine z_aload_n dX3_oddParts_7 rfl ?_
    refine z_getr dX3_oddParts_8 fX3_7 hb.o hb.r0 ?_
    refine z_geti dX3_oddParts_11 fX3_23 hb.p.o ?_
    refine z_top (hv.1.1) ?_
    refine z_icmp_geNN (tgt := 50) dX3_oddParts_14 (by decide) (by omega) (by omega) (fun h14 => ?_) (fun h14 => ?_)
    · refine z_iload_n dX3_oddParts_50 rfl ?_
      have e : i = ps.length := by omega
      subst e
      exact z_iret dX3_oddParts_51 ⟨Nat.le_refl _, Nat.le_refl _⟩ rfl ⟨rfl, rfl, rfl, rfl, congrArg (fun z => some (Value.int z)) (rfl)⟩
    · refine z_iload_n dX3_oddParts_17 rfl ?_
      refine z_iload_n dX3_oddParts_18 rfl ?_
      refine z_bit dX3_oddParts_19 dX3_oddParts_20 (by decide) dX3_oddParts_21 (by omega) (by omega) ?_
      refine z_if_neT (tgt := 44) dX3_oddParts_22 (by decide) (fun h22 => ?_) (fun h22 => ?_)
      · refine z_iincN3 (n := 1) dX3_oddParts_44 rfl ?_
        refine z_goto (tgt := 6) dX3_oddParts_47 (by decide) ?_
        first
        | (have z := ih (i + 1) (by omega) (by omega); rw [oddF, if_pos ⟨h22, by omega⟩] at z; exact z)
        | (have z := ih (i + 1) (by omega) (by omega); rw [oddF, if_neg (fun q => by first | (rw [h22] at q; exact absurd q.1 (by decide)) | exact q.2 h30)] at z; exact z)
      · refine z_aload_n dX3_oddParts_25 rfl ?_
        refine z_iload_n dX3_oddParts_26 rfl ?_
        refine z_callV1p dX3_oddParts_27 mX3_31 hb.o (c_oddWalk I L hb hv ho i (by omega)) (by decide) (Nat.le_of_ble_eq_true rfl) ⟨Nat.le_refl _, Nat.le_refl _⟩ ?_
        refine z_if_eqN (tgt := 44) dX3_oddParts_30 (by decide) (by have := oddW_le (clb ps D) ps.length i; omega) (fun h30 => ?_) (fun h30 => ?_)
        · refine z_iincN3 (n := 1) dX3_oddParts_44 rfl ?_
          refine z_goto (tgt := 6) dX3_oddParts_47 (by decide) ?_
          first
          | (have z := ih (i + 1) (by omega) (by omega); rw [oddF, if_pos ⟨h22, by omega⟩] at z; exact z)
          | (have z := ih (i + 1) (by omega) (by omega); rw [oddF, if_neg (fun q => by first | (rw [h22] at q; exact absurd q.1 (by decide)) | exact q.2 h30)] at z; exact z)
        · refine z_iload_n dX3_oddParts_33 rfl ?_
          refine z_aload_n dX3_oddParts_34 rfl ?_
          refine z_iload_n dX3_oddParts_35 rfl ?_
          refine z_callV1p dX3_oddParts_36 mX3_27 hb.o (c_partOf I L hb hv ho i (by omega)) (by decide) (Nat.le_of_ble_eq_true rfl) ⟨Nat.le_refl _, Nat.le_refl _⟩ ?_
          refine z_iorN dX3_oddParts_39 ?_
          refine z_ist2 dX3_oddParts_40 rfl ?_
          refine z_iincN1 (n := 1) dX3_oddParts_41 rfl ?_
          refine z_iincN3 (n := 1) dX3_oddParts_44 rfl ?_
          refine z_goto (tgt := 6) dX3_oddParts_47 (by decide) ?_
          first
          | (have z := ih (i + 1) (by omega) (by omega); rw [oddF, if_pos ⟨h22, by omega⟩] at z; exact z)
          | (have z := ih (i + 1) (by omega) (by omega); rw [oddF, if_neg (fun q => by first | (rw [h22] at q; exact absurd q.1 (by decide)) | exact q.2 h30)] at z; exact z)
set_option maxRecDepth 100000 in
set_option maxHeartbeats 4000000 in
theorem c_oddParts {S : zS} {R : zMR} (I : zMI) (L : zML) {b pb D st cl : Nat} {ps : List Pc} (hb : zLnk S R b pb) (hv : zPC I pb ps D st cl) (ho : psOk ps) : zM0 yX3_oddParts cX3_oddParts 4 (some .int) 4 [.ref b] S I L R (zPure I L (nI (oddF (clb ps D) (lkb ps D) ps.length ps.length).2)) := by
  refine zM0_of (own := RX3) (lv := [some (.ref b), none, none, none]) rfl (by decide) rfl rfl ?_
  refine z_iconst (nI 0) dX3_oddParts_0 (by decide) ?_
  refine z_ist1 dX3_oddParts_1 rfl ?_
  refine z_iconst (nI 0) dX3_oddParts_2 (by decide) ?_
  refine z_ist2 dX3_oddParts_3 rfl ?_
  refine z_iconst (nI 0) dX3_oddParts_4 (by decide) ?_
  refine z_ist3 dX3_oddParts_5 rfl ?_
  exact oddParts_loop I L hb hv ho (ps.length + 1) 0 (by omega) (by omega)
set_option maxRecDepth 100000 in
set_option maxHeartbeats 4000000 in
theorem shortest_loop {S : zS} {R : zMR} (I : zMI) (L : zML) {b pb D st cl : Nat} {ps : List Pc} (hb : zLnk S R b pb) (hv : zPC I pb ps D st cl) (ho : psOk ps) : ∀ (n : Nat) (i : Nat) (a3 : Option Value), ps.length + 1 ≤ i + n → i ≤ ps.length → zCat [a3] = true → zV (zMt RX3 cX3_shortestOddRing 4 (some .int) 3) (fun S2 I2 L2 R2 rr => S2 = S ∧ R2 = R ∧ (zPure I L (nI (shoF (clb ps D) ps.length ps.length))) I2 L2 rr) (0, 0) S I L R 4 [some (.ref b), some (.int (nI (shoF (clb ps D) ps.length i))), some (.int (nI i)), a3] [] := by
  intro n
  induction n with
  | zero => intro i a3 h1 h2 h3; omega
  | succ n ih =>
    intro i a3 h1 h2 h3
    have hl := ho.1
    refine z_iload_n dX3_shortestOddRing_4 rfl ?_
    refine z_aload_n dX3_shortestOddRing_5 rfl ?_
    refine z_getr dX3_shortestOddRing_6 fX3_7 hb.o hb.r0 ?_
    refine z_geti dX3_shortestOddRing_9 fX3_23 hb.p.o ?_
    refine z_top (hv.1.1) ?_
    refine z_icmp_geNN (tgt := 42) dX3_shortestOddRing_12 (by decide) (by omega) (by omega) (fun h12 => ?_) (fun h12 => ?_)
    · refine z_iload_n dX3_shortestOddRing_42 rfl ?_
      have e : i = ps.length := by omega
      subst e
      exact z_iret dX3_shortestOddRing_43 ⟨Nat.le_refl _, Nat.le_refl _⟩ rfl ⟨rfl, rfl, rfl, rfl, congrArg (fun z => some (Value.int z)) (rfl)⟩
    · refine z_aload_n dX3_shortestOddRing_15 rfl ?_
      refine z_iload_n dX3_shortestOddRing_16 rfl ?_
      refine z_callV1p dX3_shortestOddRing_17 mX3_31 hb.o (c_oddWalk I L hb hv ho i (by omega)) (by decide) (Nat.le_of_ble_eq_true rfl) ⟨Nat.le_refl _, Nat.le_refl _⟩ ?_
      have hw9 := oddW_le (clb ps D) ps.length i
      have hs9 := shoF_le (C := clb ps D) (n := ps.length) i
      refine z_ist3 dX3_shortestOddRing_20 h3 ?_
      refine z_iload_n dX3_shortestOddRing_21 rfl ?_
      refine z_if_eqN (tgt := 36) dX3_shortestOddRing_22 (by decide) (by omega) (fun h22 => ?_) (fun h22 => ?_)
      · refine z_iincN2 (n := 1) dX3_shortestOddRing_36 rfl ?_
        refine z_goto (tgt := 4) dX3_shortestOddRing_39 (by decide) ?_
        first
        | (have z := ih (i + 1) (some (.int (nI (oddW (clb ps D) ps.length i)))) (by omega) (by omega) rfl; rw [shoF, if_pos ⟨by omega, by omega⟩] at z; exact z)
        | (have z := ih (i + 1) (some (.int (nI (oddW (clb ps D) ps.length i)))) (by omega) (by omega) rfl; rw [shoF, if_neg (by omega)] at z; exact z)
      · refine z_iload_n dX3_shortestOddRing_25 rfl ?_
        refine z_if_eqN (tgt := 34) dX3_shortestOddRing_26 (by decide) (by omega) (fun h26 => ?_) (fun h26 => ?_)
        · refine z_iload_n dX3_shortestOddRing_34 rfl ?_
          refine z_ist1 dX3_shortestOddRing_35 rfl ?_
          refine z_iincN2 (n := 1) dX3_shortestOddRing_36 rfl ?_
          refine z_goto (tgt := 4) dX3_shortestOddRing_39 (by decide) ?_
          first
          | (have z := ih (i + 1) (some (.int (nI (oddW (clb ps D) ps.length i)))) (by omega) (by omega) rfl; rw [shoF, if_pos ⟨by omega, by omega⟩] at z; exact z)
          | (have z := ih (i + 1) (some (.int (nI (oddW (clb ps D) ps.length i)))) (by omega) (by omega) rfl; rw [shoF, if_neg (by omega)] at z; exact z)
        · refine z_iload_n dX3_shortestOddRing_29 rfl ?_
          refine z_iload_n dX3_shortestOddRing_30 rfl ?_
          refine z_icmp_geNN (tgt := 36) dX3_shortestOddRing_31 (by decide) (by omega) (by omega) (fun h31 => ?_) (fun h31 => ?_)
          · refine z_iincN2 (n := 1) dX3_shortestOddRing_36 rfl ?_
            refine z_goto (tgt := 4) dX3_shortestOddRing_39 (by decide) ?_
            first
            | (have z := ih (i + 1) (some (.int (nI (oddW (clb ps D) ps.length i)))) (by omega) (by omega) rfl; rw [shoF, if_pos ⟨by omega, by omega⟩] at z; exact z)
            | (have z := ih (i + 1) (some (.int (nI (oddW (clb ps D) ps.length i)))) (by omega) (by omega) rfl; rw [shoF, if_neg (by omega)] at z; exact z)
          · refine z_iload_n dX3_shortestOddRing_34 rfl ?_
            refine z_ist1 dX3_shortestOddRing_35 rfl ?_
            refine z_iincN2 (n := 1) dX3_shortestOddRing_36 rfl ?_
            refine z_goto (tgt := 4) dX3_shortestOddRing_39 (by decide) ?_
            first
            | (have z := ih (i + 1) (some (.int (nI (oddW (clb ps D) ps.length i)))) (by omega) (by omega) rfl; rw [shoF, if_pos ⟨by omega, by omega⟩] at z; exact z)
            | (have z := ih (i + 1) (some (.int (nI (oddW (clb ps D) ps.length i)))) (by omega) (by omega) rfl; rw [shoF, if_neg (by omega)] at z; exact z)
set_option maxRecDepth 100000 in
set_option maxHeartbeats 4000000 in
theorem c_shortest {S : zS} {R : zMR} (I : zMI) (L : zML) {b pb D st cl : Nat} {ps : List Pc} (hb : zLnk S R b pb) (hv : zPC I pb ps D st cl) (ho : psOk ps) : zM0 yX3_shortestOddRing cX3_shortestOddRing 4 (some .int) 3 [.ref b] S I L R (zPure I L (nI (shoF (clb ps D) ps.length ps.length))) := by
  refine zM0_of (own := RX3) (lv := [some (.ref b), none, none, none]) rfl (by decide) rfl rfl ?_
  refine z_iconst (nI 0) dX3_shortestOddRing_0 (by decide) ?_
  refine z_ist1 dX3_shortestOddRing_1 rfl ?_
  refine z_iconst (nI 0) dX3_shortestOddRing_2 (by decide) ?_
  refine z_ist2 dX3_shortestOddRing_3 rfl ?_
  exact shortest_loop I L hb hv ho (ps.length + 1) 0 none (by omega) (by omega) rfl
set_option maxRecDepth 100000 in
set_option maxHeartbeats 4000000 in
theorem core_in {S : zS} {R : zMR} (I : zMI) (L : zML) {b pb D st cl : Nat} {ps : List Pc} (hb : zLnk S R b pb) (hv : zPC I pb ps D st cl) (ho : psOk ps) {s r : Nat} (hs : s < 16384) (hK : zV (zMt RX3 cX3_core 4 (some .int) 2) (fun S2 I2 L2 R2 rr => S2 = S ∧ R2 = R ∧ (zPure I L (nI (core (lkb ps D) ps.length))) I2 L2 rr) (0, 0) S I L R 66 [some (.ref b), some (.int (nI (cor1 (lkb ps D) ps.length s))), some (.int (nI r)), some (.int (nI ps.length))] []) : ∀ (n : Nat) (i : Nat), ps.length + 1 ≤ i + n → i ≤ ps.length → zV (zMt RX3 cX3_core 4 (some .int) 2) (fun S2 I2 L2 R2 rr => S2 = S ∧ R2 = R ∧ (zPure I L (nI (core (lkb ps D) ps.length))) I2 L2 rr) (0, 0) S I L R 23 [some (.ref b), some (.int (nI (cor1 (lkb ps D) i s))), some (.int (nI r)), some (.int (nI i))] [] := by
  intro n
  induction n with
  | zero => intro i h1 h2; omega
  | succ n ih =>
    intro i h1 h2
    have hl := ho.1
    have hc9 := cor1_lt (A := lkb ps D) hs i
    refine z_iload_n dX3_core_23 rfl ?_
    refine z_aload_n dX3_core_24 rfl ?_
    refine z_getr dX3_core_25 fX3_7 hb.o hb.r0 ?_
    refine z_geti dX3_core_28 fX3_23 hb.p.o ?_
    refine z_top (hv.1.1) ?_
    refine z_icmp_geNN (tgt := 66) dX3_core_31 (by decide) (by omega) (by omega) (fun h31 => ?_) (fun h31 => ?_)
    · have e : i = ps.length := by omega
      subst e
      exact hK
    · refine z_aload_n dX3_core_34 rfl ?_
      refine z_getr dX3_core_35 fX3_7 hb.o hb.r0 ?_
      refine z_getr dX3_core_38 fX3_34 hb.p.o hb.p.r5 ?_
      refine z_iload_n dX3_core_41 rfl ?_
      refine z_iaN dX3_core_42 hb.p.a5 (by omega) (by decide) ?_
      refine z_top ((hv.2.2.2 i h31).2) ?_
      refine z_iload_n dX3_core_43 rfl ?_
      refine z_iandN dX3_core_44 ?_
      refine z_callS1p dX3_core_45 mX3_38 (c_bitCount I L _ (and_lt (bm_lt 14 _))) (by decide) (Nat.le_of_ble_eq_true rfl) ⟨Nat.le_refl _, Nat.le_refl _⟩ ?_
      refine z_iconst (nI 1) dX3_core_48 (by decide) ?_
      refine z_icmp_gtNN (tgt := 60) dX3_core_49 (by decide) (by have := popc_le 14 (bm 14 (lkb ps D i) &&& cor1 (lkb ps D) i s); omega) (by omega) (fun h49 => ?_) (fun h49 => ?_)
      · refine z_iincN3 (n := 1) dX3_core_60 rfl ?_
        refine z_goto (tgt := 23) dX3_core_63 (by decide) ?_
        first
        | (have z := ih (i + 1) (by omega) (by omega); rw [cor1, if_pos (by omega)] at z; exact z)
        | (have z := ih (i + 1) (by omega) (by omega); rw [cor1, if_neg (by omega)] at z; exact z)
      · refine z_iload_n dX3_core_52 rfl ?_
        refine z_iconst (nI 1) dX3_core_53 (by decide) ?_
        refine z_iload_n dX3_core_54 rfl ?_
        refine z_shl1 dX3_core_55 (by omega) ?_
        refine z_iconst (-1) dX3_core_56 (by decide) ?_
        refine z_ixor dX3_core_57 ?_
        refine z_iand dX3_core_58 (z_top (nI_andn _ _) ?_)
        refine z_ist1 dX3_core_59 rfl ?_
        refine z_iincN3 (n := 1) dX3_core_60 rfl ?_
        refine z_goto (tgt := 23) dX3_core_63 (by decide) ?_
        first
        | (have z := ih (i + 1) (by omega) (by omega); rw [cor1, if_pos (by omega)] at z; exact z)
        | (have z := ih (i + 1) (by omega) (by omega); rw [cor1, if_neg (by omega)] at z; exact z)
set_option maxRecDepth 100000 in
set_option maxHeartbeats 4000000 in
theorem core_out {S : zS} {R : zMR} (I : zMI) (L : zML) {b pb D st cl : Nat} {ps : List Pc} (hb : zLnk S R b pb) (hv : zPC I pb ps D st cl) (ho : psOk ps) : ∀ (n : Nat) (r s : Nat) (a3 : Option Value), ps.length + 1 ≤ r + n → r ≤ ps.length → s < 16384 → zCat [a3] = true → core (lkb ps D) ps.length = itr (ps.length - r) (cor1 (lkb ps D) ps.length) s → zV (zMt RX3 cX3_core 4 (some .int) 2) (fun S2 I2 L2 R2 rr => S2 = S ∧ R2 = R ∧ (zPure I L (nI (core (lkb ps D) ps.length))) I2 L2 rr) (0, 0) S I L R 10 [some (.ref b), some (.int (nI (s))), some (.int (nI r)), a3] [] := by
  intro n
  induction n with
  | zero => intro r s a3 h1 h2 hs h3 hi; omega
  | succ n ih =>
    intro r s a3 h1 h2 hs h3 hi
    have hl := ho.1
    refine z_iload_n dX3_core_10 rfl ?_
    refine z_aload_n dX3_core_11 rfl ?_
    refine z_getr dX3_core_12 fX3_7 hb.o hb.r0 ?_
    refine z_geti dX3_core_15 fX3_23 hb.p.o ?_
    refine z_top (hv.1.1) ?_
    refine z_icmp_geNN (tgt := 72) dX3_core_18 (by decide) (by omega) (by omega) (fun h18 => ?_) (fun h18 => ?_)
    · refine z_iload_n dX3_core_72 rfl ?_
      exact z_iret dX3_core_73 ⟨Nat.le_refl _, Nat.le_refl _⟩ rfl ⟨rfl, rfl, rfl, rfl, congrArg (fun z => some (Value.int z)) (by rw [hi, show ps.length - r = 0 from by omega, itr])⟩
    · refine z_iconst (nI 0) dX3_core_21 (by decide) ?_
      refine z_ist3 dX3_core_22 h3 ?_
      refine core_in I L hb hv ho hs ?_ (ps.length + 1) 0 (by omega) (by omega)
      refine z_iincN2 (n := 1) dX3_core_66 rfl ?_
      refine z_goto (tgt := 10) dX3_core_69 (by decide) ?_
      exact ih (r + 1) (cor1 (lkb ps D) ps.length s) _ (by omega) (by omega) (cor1_lt hs _) rfl (by rw [hi, show ps.length - r = (ps.length - (r + 1)) + 1 from by omega, itr])
set_option maxRecDepth 100000 in
set_option maxHeartbeats 4000000 in
theorem c_core {S : zS} {R : zMR} (I : zMI) (L : zML) {b pb D st cl : Nat} {ps : List Pc} (hb : zLnk S R b pb) (hv : zPC I pb ps D st cl) (ho : psOk ps) : zM0 yX3_core cX3_core 4 (some .int) 2 [.ref b] S I L R (zPure I L (nI (core (lkb ps D) ps.length))) := by
  refine zM0_of (own := RX3) (lv := [some (.ref b), none, none, none]) rfl (by decide) rfl rfl ?_
  have hl := ho.1
  have hall := all_lt hl
  refine z_aload_n dX3_core_0 rfl ?_
  refine z_getr dX3_core_1 fX3_7 hb.o hb.r0 ?_
  refine z_callV0p dX3_core_4 mX3_13 hb.p.o (c_all I L hb.p hv.1 ho) (by decide) (Nat.le_of_ble_eq_true rfl) ⟨Nat.le_refl _, Nat.le_refl _⟩ ?_
  refine z_ist1 dX3_core_7 rfl ?_
  refine z_iconst (nI 0) dX3_core_8 (by decide) ?_
  refine z_ist2 dX3_core_9 rfl ?_
  exact core_out I L hb hv ho (ps.length + 1) 0 (2 ^ ps.length - 1) none (by omega) (by omega) hall rfl rfl
set_option maxRecDepth 100000 in
set_option maxHeartbeats 4000000 in
theorem c_isBridge {S : zS} {R : zMR} (I : zMI) (L : zML) {b pb D st cl : Nat} {ps : List Pc} (hb : zLnk S R b pb) (hv : zPC I pb ps D st cl) (ho : psOk ps) (p q : Nat) (hp : p < ps.length) (hq : q < ps.length) : zM0 yX3_isBridge cX3_isBridge 4 (some .boolean) 3 [.ref b, .int (nI p), .int (nI q)] S I L R (zPure I L (zb ((reach (lkb ps D) ps.length (andn (bm 14 (lkb ps D p)) (2 ^ q)) (andn (2 ^ ps.length - 1) (2 ^ p))).testBit q = false))) := by
  refine zM0_of (own := RX3) (lv := [some (.ref b), some (.int (nI p)), some (.int (nI q)), none]) rfl (by decide) rfl rfl ?_
  have hl := ho.1
  have hall := all_lt hl
  have h1 := Nat.lt_of_le_of_lt (andn_le (bm 14 (lkb ps D p)) (2 ^ q)) (bm_lt 14 _)
  have h2 := andn_le (2 ^ ps.length - 1) (2 ^ p)
  have h9 := reach_lt (A := lkb ps D) (n := ps.length) (w := andn (2 ^ ps.length - 1) (2 ^ p)) h1
  refine z_aload_n dX3_isBridge_0 rfl ?_
  refine z_aload_n dX3_isBridge_1 rfl ?_
  refine z_getr dX3_isBridge_2 fX3_7 hb.o hb.r0 ?_
  refine z_getr dX3_isBridge_5 fX3_34 hb.p.o hb.p.r5 ?_
  refine z_iload_n dX3_isBridge_8 rfl ?_
  refine z_iaN dX3_isBridge_9 hb.p.a5 (by omega) (by decide) ?_
  refine z_top ((hv.2.2.2 p hp).2) ?_
  refine z_iconst (nI 1) dX3_isBridge_10 (by decide) ?_
  refine z_iload_n dX3_isBridge_11 rfl ?_
  refine z_shl1 dX3_isBridge_12 (by omega) ?_
  refine z_iconst (-1) dX3_isBridge_13 (by decide) ?_
  refine z_ixor dX3_isBridge_14 ?_
  refine z_iand dX3_isBridge_15 (z_top (nI_andn _ _) ?_)
  refine z_aload_n dX3_isBridge_16 rfl ?_
  refine z_getr dX3_isBridge_17 fX3_7 hb.o hb.r0 ?_
  refine z_callV0p dX3_isBridge_20 mX3_13 hb.p.o (c_all I L hb.p hv.1 ho) (by decide) (Nat.le_of_ble_eq_true rfl) ⟨Nat.le_refl _, Nat.le_refl _⟩ ?_
  refine z_iconst (nI 1) dX3_isBridge_23 (by decide) ?_
  refine z_iload_n dX3_isBridge_24 rfl ?_
  refine z_shl1 dX3_isBridge_25 (by omega) ?_
  refine z_iconst (-1) dX3_isBridge_26 (by decide) ?_
  refine z_ixor dX3_isBridge_27 ?_
  refine z_iand dX3_isBridge_28 (z_top (nI_andn _ _) ?_)
  refine z_callV2p dX3_isBridge_29 mX3_19 hb.o (c_reached I L hb hv ho _ _ h1 (by omega)) (by decide) (Nat.le_of_ble_eq_true rfl) ⟨Nat.le_refl _, Nat.le_refl _⟩ ?_
  refine z_ist3 dX3_isBridge_32 rfl ?_
  refine z_iload_n dX3_isBridge_33 rfl ?_
  refine z_iload_n dX3_isBridge_34 rfl ?_
  refine z_bit dX3_isBridge_35 dX3_isBridge_36 (by decide) dX3_isBridge_37 (by omega) (by omega) ?_
  refine z_if_neT (tgt := 45) dX3_isBridge_38 (by decide) (fun h38 => ?_) (fun h38 => ?_)
  · refine z_iconst (nI 0) dX3_isBridge_45 (by decide) ?_
    exact z_iret dX3_isBridge_46 ⟨Nat.le_refl _, Nat.le_refl _⟩ (by first | exact zb_nar _ | rfl) ⟨rfl, rfl, rfl, rfl, congrArg (fun z => some (Value.int z)) (by first | exact zb_1 (by first | exact h38 | (rw [h38]; decide)) | exact zb_0 (by first | exact h38 | (rw [h38]; decide)) | exact zb_c (by first | exact h38 | (rw [h38]; decide)))⟩
  · refine z_iconst (nI 1) dX3_isBridge_41 (by decide) ?_
    refine z_goto (tgt := 46) dX3_isBridge_42 (by decide) ?_
    exact z_iret dX3_isBridge_46 ⟨Nat.le_refl _, Nat.le_refl _⟩ (by first | exact zb_nar _ | rfl) ⟨rfl, rfl, rfl, rfl, congrArg (fun z => some (Value.int z)) (by first | exact zb_1 (by first | exact h38 | (rw [h38]; decide)) | exact zb_0 (by first | exact h38 | (rw [h38]; decide)) | exact zb_c (by first | exact h38 | (rw [h38]; decide)))⟩
set_option maxRecDepth 100000 in
set_option maxHeartbeats 4000000 in
theorem c_isHinge {S : zS} {R : zMR} (I : zMI) (L : zML) {b pb D st cl : Nat} {ps : List Pc} (hb : zLnk S R b pb) (hv : zPC I pb ps D st cl) (ho : psOk ps) (p : Nat) (hp : p < ps.length) : zM0 yX3_isHinge cX3_isHinge 4 (some .boolean) 4 [.ref b, .int (nI p)] S I L R (zPure I L (zb (hin (lkb ps D) ps.length p = true))) := by
  refine zM0_of (own := RX3) (lv := [some (.ref b), some (.int (nI p)), none, none]) rfl (by decide) rfl rfl ?_
  have hl := ho.1
  have hall := all_lt hl
  have h1 := Nat.lt_of_le_of_lt (andn_le (part (lkb ps D) ps.length p) (2 ^ p)) (part_lt (show p < 14 from by omega))
  have h2 : lowb (andn (part (lkb ps D) ps.length p) (2 ^ p)) < 16384 := Nat.lt_of_le_of_lt (andn_le _ _) h1
  have h9 := reach_lt (A := lkb ps D) (n := ps.length) (w := andn (part (lkb ps D) ps.length p) (2 ^ p)) h2
  refine z_aload_n dX3_isHinge_0 rfl ?_
  refine z_iload_n dX3_isHinge_1 rfl ?_
  refine z_callV1p dX3_isHinge_2 mX3_27 hb.o (c_partOf I L hb hv ho p hp) (by decide) (Nat.le_of_ble_eq_true rfl) ⟨Nat.le_refl _, Nat.le_refl _⟩ ?_
  refine z_iconst (nI 1) dX3_isHinge_5 (by decide) ?_
  refine z_iload_n dX3_isHinge_6 rfl ?_
  refine z_shl1 dX3_isHinge_7 (by omega) ?_
  refine z_iconst (-1) dX3_isHinge_8 (by decide) ?_
  refine z_ixor dX3_isHinge_9 ?_
  refine z_iand dX3_isHinge_10 (z_top (nI_andn _ _) ?_)
  refine z_ist2 dX3_isHinge_11 rfl ?_
  refine z_iload_n dX3_isHinge_12 rfl ?_
  refine z_iload_n dX3_isHinge_13 rfl ?_
  refine z_ineg dX3_isHinge_14 ?_
  refine z_iand dX3_isHinge_15 (z_top (nI_low h1) ?_)
  refine z_ist3 dX3_isHinge_16 rfl ?_
  refine z_aload_n dX3_isHinge_17 rfl ?_
  refine z_iload_n dX3_isHinge_18 rfl ?_
  refine z_iload_n dX3_isHinge_19 rfl ?_
  refine z_callV2p dX3_isHinge_20 mX3_19 hb.o (c_reached I L hb hv ho _ _ h2 (by omega)) (by decide) (Nat.le_of_ble_eq_true rfl) ⟨Nat.le_refl _, Nat.le_refl _⟩ ?_
  refine z_iload_n dX3_isHinge_23 rfl ?_
  refine z_icmp_eqNN (tgt := 31) dX3_isHinge_24 (by decide) (by omega) (by omega) (fun h24 => ?_) (fun h24 => ?_)
  · refine z_iconst (nI 0) dX3_isHinge_31 (by decide) ?_
    exact z_iret dX3_isHinge_32 ⟨Nat.le_refl _, Nat.le_refl _⟩ (by first | exact zb_nar _ | rfl) ⟨rfl, rfl, rfl, rfl, congrArg (fun z => some (Value.int z)) (by first | exact zb_1 (by unfold hin; simp only [decide_eq_true_eq]; first | exact h24 | (rw [h24]; exact fun z => z rfl)) | exact zb_0 (by unfold hin; simp only [decide_eq_true_eq]; first | exact h24 | (rw [h24]; exact fun z => z rfl)) | exact zb_c (by unfold hin; simp only [decide_eq_true_eq]; first | exact h24 | (rw [h24]; exact fun z => z rfl)))⟩
  · refine z_iconst (nI 1) dX3_isHinge_27 (by decide) ?_
    refine z_goto (tgt := 32) dX3_isHinge_28 (by decide) ?_
    exact z_iret dX3_isHinge_32 ⟨Nat.le_refl _, Nat.le_refl _⟩ (by first | exact zb_nar _ | rfl) ⟨rfl, rfl, rfl, rfl, congrArg (fun z => some (Value.int z)) (by first | exact zb_1 (by unfold hin; simp only [decide_eq_true_eq]; first | exact h24 | (rw [h24]; exact fun z => z rfl)) | exact zb_0 (by unfold hin; simp only [decide_eq_true_eq]; first | exact h24 | (rw [h24]; exact fun z => z rfl)) | exact zb_c (by unfold hin; simp only [decide_eq_true_eq]; first | exact h24 | (rw [h24]; exact fun z => z rfl)))⟩
theorem hgs_t {A : Nat → Nat → Bool} {n i : Nat} (hi : i < 14) (h : hin A n i = true) : bm 14 (fun q => decide (q < i) && hin A n q) ||| 2 ^ i = bm 14 (fun q => decide (q < i + 1) && hin A n q) := by
  rw [bm_or hi]
  apply bm_congr
  intro q _
  by_cases e : q = i
  · subst e; simp [h]
  · have : (q < i + 1) ↔ (q < i) := by omega
    simp [e, this]
theorem hgs_f {A : Nat → Nat → Bool} {n i : Nat} (h : ¬ hin A n i = true) : bm 14 (fun q => decide (q < i) && hin A n q) = bm 14 (fun q => decide (q < i + 1) && hin A n q) := by
  apply bm_congr
  intro q _
  by_cases e : q = i
  · subst e; simp [h]
  · have : (q < i + 1) ↔ (q < i) := by omega
    simp [this]
theorem hgs_0 {A : Nat → Nat → Bool} {n : Nat} : bm 14 (fun q => decide (q < 0) && hin A n q) = 0 := by
  refine Eq.trans (bm_congr (g := fun _ => false) ?_) (by decide +kernel)
  intro i _
  simp
set_option maxRecDepth 100000 in
set_option maxHeartbeats 4000000 in
theorem hinges_loop {S : zS} {R : zMR} (I : zMI) (L : zML) {b pb D st cl : Nat} {ps : List Pc} (hb : zLnk S R b pb) (hv : zPC I pb ps D st cl) (ho : psOk ps) : ∀ (n : Nat) (i : Nat), ps.length + 1 ≤ i + n → i ≤ ps.length → zV (zMt RX3 cX3_hinges 3 (some .int) 5) (fun S2 I2 L2 R2 rr => S2 = S ∧ R2 = R ∧ (zPure I L (nI (hgs (lkb ps D) ps.length))) I2 L2 rr) (0, 0) S I L R 4 [some (.ref b), some (.int (nI (bm 14 (fun q => decide (q < i) && hin (lkb ps D) ps.length q)))), some (.int (nI i))] [] := by
  intro n
  induction n with
  | zero => intro i h1 h2; omega
  | succ n ih =>
    intro i h1 h2
    have hl := ho.1
    refine z_iload_n dX3_hinges_4 rfl ?_
    refine z_aload_n dX3_hinges_5 rfl ?_
    refine z_getr dX3_hinges_6 fX3_7 hb.o hb.r0 ?_
    refine z_geti dX3_hinges_9 fX3_23 hb.p.o ?_
    refine z_top (hv.1.1) ?_
    refine z_icmp_geNN (tgt := 35) dX3_hinges_12 (by decide) (by omega) (by omega) (fun h12 => ?_) (fun h12 => ?_)
    · refine z_iload_n dX3_hinges_35 rfl ?_
      have e : i = ps.length := by omega
      subst e
      exact z_iret dX3_hinges_36 ⟨Nat.le_refl _, Nat.le_refl _⟩ rfl ⟨rfl, rfl, rfl, rfl, congrArg (fun z => some (Value.int z)) (rfl)⟩
    · refine z_aload_n dX3_hinges_15 rfl ?_
      refine z_iload_n dX3_hinges_16 rfl ?_
      refine z_callV1p dX3_hinges_17 mX3_47 hb.o (c_isHinge I L hb hv ho i (by omega)) (by decide) (Nat.le_of_ble_eq_true rfl) ⟨Nat.le_refl _, Nat.le_refl _⟩ ?_
      refine z_if_eqB (tgt := 29) dX3_hinges_20 (by decide) (fun h20 => ?_) (fun h20 => ?_)
      · refine z_iincN2 (n := 1) dX3_hinges_29 rfl ?_
        refine z_goto (tgt := 4) dX3_hinges_32 (by decide) ?_
        first | rw [hgs_t (by omega) h20] | rw [hgs_f h20]
        exact ih (i + 1) (by omega) (by omega)
      · refine z_iload_n dX3_hinges_23 rfl ?_
        refine z_iconst (nI 1) dX3_hinges_24 (by decide) ?_
        refine z_iload_n dX3_hinges_25 rfl ?_
        refine z_shl1 dX3_hinges_26 (by omega) ?_
        refine z_iorN dX3_hinges_27 ?_
        refine z_ist1 dX3_hinges_28 rfl ?_
        refine z_iincN2 (n := 1) dX3_hinges_29 rfl ?_
        refine z_goto (tgt := 4) dX3_hinges_32 (by decide) ?_
        first | rw [hgs_t (by omega) h20] | rw [hgs_f h20]
        exact ih (i + 1) (by omega) (by omega)
set_option maxRecDepth 100000 in
set_option maxHeartbeats 4000000 in
theorem c_hinges {S : zS} {R : zMR} (I : zMI) (L : zML) {b pb D st cl : Nat} {ps : List Pc} (hb : zLnk S R b pb) (hv : zPC I pb ps D st cl) (ho : psOk ps) : zM0 yX3_hinges cX3_hinges 3 (some .int) 5 [.ref b] S I L R (zPure I L (nI (hgs (lkb ps D) ps.length))) := by
  refine zM0_of (own := RX3) (lv := [some (.ref b), none, none]) rfl (by decide) rfl rfl ?_
  refine z_iconst (nI 0) dX3_hinges_0 (by decide) ?_
  refine z_ist1 dX3_hinges_1 rfl ?_
  refine z_iconst (nI 0) dX3_hinges_2 (by decide) ?_
  refine z_ist2 dX3_hinges_3 rfl ?_
  have z := hinges_loop I L hb hv ho (ps.length + 1) 0 (by omega) (by omega)
  rw [hgs_0] at z
  exact z
set_option maxRecDepth 100000 in
set_option maxHeartbeats 4000000 in
theorem bridges_in {S : zS} {R : zMR} (I : zMI) (L : zML) {b pb D st cl : Nat} {ps : List Pc} (hb : zLnk S R b pb) (hv : zPC I pb ps D st cl) (ho : psOk ps) {p c : Nat} (hp : p < ps.length) (hK : zV (zMt RX3 cX3_bridges 4 (some .int) 4) (fun S2 I2 L2 R2 rr => S2 = S ∧ R2 = R ∧ (zPure I L (nI (brs (lkb ps D) ps.length))) I2 L2 rr) (0, 0) S I L R 64 [some (.ref b), some (.int (nI (c + brF (lkb ps D) ps.length p ps.length))), some (.int (nI p)), some (.int (nI ps.length))] []) : ∀ (n : Nat) (i : Nat), ps.length + 1 ≤ i + n → i ≤ ps.length → p < i → zV (zMt RX3 cX3_bridges 4 (some .int) 4) (fun S2 I2 L2 R2 rr => S2 = S ∧ R2 = R ∧ (zPure I L (nI (brs (lkb ps D) ps.length))) I2 L2 rr) (0, 0) S I L R 19 [some (.ref b), some (.int (nI (c + brF (lkb ps D) ps.length p i))), some (.int (nI p)), some (.int (nI i))] [] := by
  intro n
  induction n with
  | zero => intro i h1 h2 hpi; omega
  | succ n ih =>
    intro i h1 h2 hpi
    have hl := ho.1
    refine z_iload_n dX3_bridges_19 rfl ?_
    refine z_aload_n dX3_bridges_20 rfl ?_
    refine z_getr dX3_bridges_21 fX3_7 hb.o hb.r0 ?_
    refine z_geti dX3_bridges_24 fX3_23 hb.p.o ?_
    refine z_top (hv.1.1) ?_
    refine z_icmp_geNN (tgt := 64) dX3_bridges_27 (by decide) (by omega) (by omega) (fun h27 => ?_) (fun h27 => ?_)
    · have e : i = ps.length := by omega
      subst e
      exact hK
    · have hbm := bm_lt 14 (lkb ps D p)
      refine z_aload_n dX3_bridges_30 rfl ?_
      refine z_getr dX3_bridges_31 fX3_7 hb.o hb.r0 ?_
      refine z_getr dX3_bridges_34 fX3_34 hb.p.o hb.p.r5 ?_
      refine z_iload_n dX3_bridges_37 rfl ?_
      refine z_iaN dX3_bridges_38 hb.p.a5 (by omega) (by decide) ?_
      refine z_top ((hv.2.2.2 p hp).2) ?_
      refine z_iload_n dX3_bridges_39 rfl ?_
      refine z_bit dX3_bridges_40 dX3_bridges_41 (by decide) dX3_bridges_42 (by omega) (by omega) ?_
      refine z_if_eqT (tgt := 58) dX3_bridges_43 (by decide) (fun h43 => ?_) (fun h43 => ?_)
      · refine z_iincN3 (n := 1) dX3_bridges_58 rfl ?_
        refine z_goto (tgt := 19) dX3_bridges_61 (by decide) ?_
        have hbb : (bm 14 (lkb ps D p)).testBit i = lkb ps D p i := by rw [bm_bit, show decide (i < 14) = true from decide_eq_true (by omega), Bool.true_and]
        rw [hbb] at h43
        have e : brF (lkb ps D) ps.length p (i + 1) = brF (lkb ps D) ps.length p i + (decide (p < i) && (lkb ps D p i && !(reach (lkb ps D) ps.length (andn (bm 14 (lkb ps D p)) (2 ^ i)) (andn (2 ^ ps.length - 1) (2 ^ p))).testBit i)).toNat := rfl
        first
        | (rw [show (decide (p < i) && (lkb ps D p i && !(reach (lkb ps D) ps.length (andn (bm 14 (lkb ps D p)) (2 ^ i)) (andn (2 ^ ps.length - 1) (2 ^ p))).testBit i)) = true from by simp [hpi, h43, h52]] at e
           have z := ih (i + 1) (by omega) (by omega) (by omega)
           rw [e] at z
           exact z)
        | (rw [show (decide (p < i) && (lkb ps D p i && !(reach (lkb ps D) ps.length (andn (bm 14 (lkb ps D p)) (2 ^ i)) (andn (2 ^ ps.length - 1) (2 ^ p))).testBit i)) = false from by simp [hpi, h43] <;> simpa using h52] at e
           have z := ih (i + 1) (by omega) (by omega) (by omega)
           rw [e] at z
           exact z)
      · refine z_aload_n dX3_bridges_46 rfl ?_
        refine z_iload_n dX3_bridges_47 rfl ?_
        refine z_iload_n dX3_bridges_48 rfl ?_
        refine z_callV2p dX3_bridges_49 mX3_43 hb.o (c_isBridge I L hb hv ho p i hp h27) (by decide) (Nat.le_of_ble_eq_true rfl) ⟨Nat.le_refl _, Nat.le_refl _⟩ ?_
        refine z_if_eqB (tgt := 58) dX3_bridges_52 (by decide) (fun h52 => ?_) (fun h52 => ?_)
        · refine z_iincN3 (n := 1) dX3_bridges_58 rfl ?_
          refine z_goto (tgt := 19) dX3_bridges_61 (by decide) ?_
          have hbb : (bm 14 (lkb ps D p)).testBit i = lkb ps D p i := by rw [bm_bit, show decide (i < 14) = true from decide_eq_true (by omega), Bool.true_and]
          rw [hbb] at h43
          have e : brF (lkb ps D) ps.length p (i + 1) = brF (lkb ps D) ps.length p i + (decide (p < i) && (lkb ps D p i && !(reach (lkb ps D) ps.length (andn (bm 14 (lkb ps D p)) (2 ^ i)) (andn (2 ^ ps.length - 1) (2 ^ p))).testBit i)).toNat := rfl
          first
          | (rw [show (decide (p < i) && (lkb ps D p i && !(reach (lkb ps D) ps.length (andn (bm 14 (lkb ps D p)) (2 ^ i)) (andn (2 ^ ps.length - 1) (2 ^ p))).testBit i)) = true from by simp [hpi, h43, h52]] at e
             have z := ih (i + 1) (by omega) (by omega) (by omega)
             rw [e] at z
             exact z)
          | (rw [show (decide (p < i) && (lkb ps D p i && !(reach (lkb ps D) ps.length (andn (bm 14 (lkb ps D p)) (2 ^ i)) (andn (2 ^ ps.length - 1) (2 ^ p))).testBit i)) = false from by simp [hpi, h43] <;> simpa using h52] at e
             have z := ih (i + 1) (by omega) (by omega) (by omega)
             rw [e] at z
             exact z)
        · refine z_iincN1 (n := 1) dX3_bridges_55 rfl ?_
          refine z_iincN3 (n := 1) dX3_bridges_58 rfl ?_
          refine z_goto (tgt := 19) dX3_bridges_61 (by decide) ?_
          have hbb : (bm 14 (lkb ps D p)).testBit i = lkb ps D p i := by rw [bm_bit, show decide (i < 14) = true from decide_eq_true (by omega), Bool.true_and]
          rw [hbb] at h43
          have e : brF (lkb ps D) ps.length p (i + 1) = brF (lkb ps D) ps.length p i + (decide (p < i) && (lkb ps D p i && !(reach (lkb ps D) ps.length (andn (bm 14 (lkb ps D p)) (2 ^ i)) (andn (2 ^ ps.length - 1) (2 ^ p))).testBit i)).toNat := rfl
          first
          | (rw [show (decide (p < i) && (lkb ps D p i && !(reach (lkb ps D) ps.length (andn (bm 14 (lkb ps D p)) (2 ^ i)) (andn (2 ^ ps.length - 1) (2 ^ p))).testBit i)) = true from by simp [hpi, h43, h52]] at e
             have z := ih (i + 1) (by omega) (by omega) (by omega)
             rw [e] at z
             exact z)
          | (rw [show (decide (p < i) && (lkb ps D p i && !(reach (lkb ps D) ps.length (andn (bm 14 (lkb ps D p)) (2 ^ i)) (andn (2 ^ ps.length - 1) (2 ^ p))).testBit i)) = false from by simp [hpi, h43] <;> simpa using h52] at e
             have z := ih (i + 1) (by omega) (by omega) (by omega)
             rw [e] at z
             exact z)
set_option maxRecDepth 100000 in
set_option maxHeartbeats 4000000 in
theorem bridges_out {S : zS} {R : zMR} (I : zMI) (L : zML) {b pb D st cl : Nat} {ps : List Pc} (hb : zLnk S R b pb) (hv : zPC I pb ps D st cl) (ho : psOk ps) : ∀ (n : Nat) (p : Nat) (a3 : Option Value), ps.length + 1 ≤ p + n → p ≤ ps.length → zCat [a3] = true → zV (zMt RX3 cX3_bridges 4 (some .int) 4) (fun S2 I2 L2 R2 rr => S2 = S ∧ R2 = R ∧ (zPure I L (nI (brs (lkb ps D) ps.length))) I2 L2 rr) (0, 0) S I L R 4 [some (.ref b), some (.int (nI (sm p (fun p => brF (lkb ps D) ps.length p ps.length)))), some (.int (nI p)), a3] [] := by
  intro n
  induction n with
  | zero => intro p a3 h1 h2 h3; omega
  | succ n ih =>
    intro p a3 h1 h2 h3
    have hl := ho.1
    refine z_iload_n dX3_bridges_4 rfl ?_
    refine z_aload_n dX3_bridges_5 rfl ?_
    refine z_getr dX3_bridges_6 fX3_7 hb.o hb.r0 ?_
    refine z_geti dX3_bridges_9 fX3_23 hb.p.o ?_
    refine z_top (hv.1.1) ?_
    refine z_icmp_geNN (tgt := 70) dX3_bridges_12 (by decide) (by omega) (by omega) (fun h12 => ?_) (fun h12 => ?_)
    · refine z_iload_n dX3_bridges_70 rfl ?_
      have e : p = ps.length := by omega
      subst e
      exact z_iret dX3_bridges_71 ⟨Nat.le_refl _, Nat.le_refl _⟩ rfl ⟨rfl, rfl, rfl, rfl, congrArg (fun z => some (Value.int z)) (rfl)⟩
    · refine z_iload_n dX3_bridges_15 rfl ?_
      refine z_iconst (nI 1) dX3_bridges_16 (by decide) ?_
      refine z_iaddN dX3_bridges_17 ?_
      refine z_ist3 dX3_bridges_18 h3 ?_
      have z := bridges_in (c := sm p (fun p => brF (lkb ps D) ps.length p ps.length)) I L hb hv ho h12 ?_ (ps.length + 1) (p + 1) (by omega) (by omega) (by omega)
      · rw [brF_lo (p + 1) (by omega)] at z
        exact z
      refine z_iincN2 (n := 1) dX3_bridges_64 rfl ?_
      refine z_goto (tgt := 4) dX3_bridges_67 (by decide) ?_
      exact ih (p + 1) _ (by omega) (by omega) rfl
set_option maxRecDepth 100000 in
set_option maxHeartbeats 4000000 in
theorem c_bridges {S : zS} {R : zMR} (I : zMI) (L : zML) {b pb D st cl : Nat} {ps : List Pc} (hb : zLnk S R b pb) (hv : zPC I pb ps D st cl) (ho : psOk ps) : zM0 yX3_bridges cX3_bridges 4 (some .int) 4 [.ref b] S I L R (zPure I L (nI (brs (lkb ps D) ps.length))) := by
  refine zM0_of (own := RX3) (lv := [some (.ref b), none, none, none]) rfl (by decide) rfl rfl ?_
  refine z_iconst (nI 0) dX3_bridges_0 (by decide) ?_
  refine z_ist1 dX3_bridges_1 rfl ?_
  refine z_iconst (nI 0) dX3_bridges_2 (by decide) ?_
  refine z_ist2 dX3_bridges_3 rfl ?_
  exact bridges_out I L hb hv ho (ps.length + 1) 0 none (by omega) (by omega) rfl
