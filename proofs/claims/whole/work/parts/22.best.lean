set_option maxRecDepth 100000 in
set_option maxHeartbeats 4000000 in
theorem c_mayBeOn {S : zS} {R : zMR} (I : zMI) (L : zML) {b pb whole : Nat} {fx : Nat → Nat} {s : Bs} (hb : zBst S R b pb) (hs : zBS I b fx whole s) (p k : Nat) (hp : p < 14) (hk : k ≤ 1) (hf : fx p ≤ 2) : zM0 yX0_mayBeOn cX0_mayBeOn 3 (some .boolean) 1 [.ref b, .int (nI p), .int (nI k)] S I L R (zPure I L (zb (fx p = 0 ∨ fx p = k + 1))) := by
  refine zM0_of (own := RX0) (lv := [some (.ref b), some (.int (nI p)), some (.int (nI k))]) rfl (by decide) rfl rfl ?_
  have hc1 := fm_lt fx
  have hc2 := fo_lt fx
  refine z_aload_n dX0_mayBeOn_0 rfl ?_
  refine z_geti dX0_mayBeOn_1 fX0_9 hb.o ?_
  refine z_top (hs.1) ?_
  refine z_iload_n dX0_mayBeOn_4 rfl ?_
  refine z_bit dX0_mayBeOn_5 dX0_mayBeOn_6 (by decide) dX0_mayBeOn_7 (by omega) (by omega) ?_
  refine z_if_eqT (tgt := 23) dX0_mayBeOn_8 (by decide) (fun h8 => ?_) (fun h8 => ?_)
  · refine z_iconst (nI 1) dX0_mayBeOn_23 (by decide) ?_
    refine z_goto (tgt := 28) dX0_mayBeOn_24 (by decide) ?_
    exact z_iret dX0_mayBeOn_28 ⟨Nat.le_refl _, Nat.le_refl _⟩ (by first | exact zb_nar _ | rfl) ⟨rfl, rfl, rfl, rfl, congrArg (fun z => some (Value.int z)) (by first | exact zb_1 (by rw [fm_bit] at h8; simp [hp] at h8; first | omega | (rw [fo_bit] at h20; simp only [hp, decide_true, Bool.true_and] at h20; rcases (show fx p = 1 ∨ fx p = 2 from by omega) with e | e <;> simp [e] at h20 ⊢ <;> omega)) | exact zb_0 (by rw [fm_bit] at h8; simp [hp] at h8; first | omega | (rw [fo_bit] at h20; simp only [hp, decide_true, Bool.true_and] at h20; rcases (show fx p = 1 ∨ fx p = 2 from by omega) with e | e <;> simp [e] at h20 ⊢ <;> omega)) | exact zb_c (by rw [fm_bit] at h8; simp [hp] at h8; first | omega | (rw [fo_bit] at h20; simp only [hp, decide_true, Bool.true_and] at h20; rcases (show fx p = 1 ∨ fx p = 2 from by omega) with e | e <;> simp [e] at h20 ⊢ <;> omega)))⟩
  · refine z_aload_n dX0_mayBeOn_11 rfl ?_
    refine z_geti dX0_mayBeOn_12 fX0_15 hb.o ?_
    refine z_top (hs.2.1) ?_
    refine z_iload_n dX0_mayBeOn_15 rfl ?_
    refine z_bit dX0_mayBeOn_16 dX0_mayBeOn_17 (by decide) dX0_mayBeOn_18 (by omega) (by omega) ?_
    refine z_iload_n dX0_mayBeOn_19 rfl ?_
    refine z_icmp_neNN (tgt := 27) dX0_mayBeOn_20 (by decide) (tn_lt _) (by omega) (fun h20 => ?_) (fun h20 => ?_)
    · refine z_iconst (nI 0) dX0_mayBeOn_27 (by decide) ?_
      exact z_iret dX0_mayBeOn_28 ⟨Nat.le_refl _, Nat.le_refl _⟩ (by first | exact zb_nar _ | rfl) ⟨rfl, rfl, rfl, rfl, congrArg (fun z => some (Value.int z)) (by first | exact zb_1 (by rw [fm_bit] at h8; simp [hp] at h8; first | omega | (rw [fo_bit] at h20; simp only [hp, decide_true, Bool.true_and] at h20; rcases (show fx p = 1 ∨ fx p = 2 from by omega) with e | e <;> simp [e] at h20 ⊢ <;> omega)) | exact zb_0 (by rw [fm_bit] at h8; simp [hp] at h8; first | omega | (rw [fo_bit] at h20; simp only [hp, decide_true, Bool.true_and] at h20; rcases (show fx p = 1 ∨ fx p = 2 from by omega) with e | e <;> simp [e] at h20 ⊢ <;> omega)) | exact zb_c (by rw [fm_bit] at h8; simp [hp] at h8; first | omega | (rw [fo_bit] at h20; simp only [hp, decide_true, Bool.true_and] at h20; rcases (show fx p = 1 ∨ fx p = 2 from by omega) with e | e <;> simp [e] at h20 ⊢ <;> omega)))⟩
    · refine z_iconst (nI 1) dX0_mayBeOn_23 (by decide) ?_
      refine z_goto (tgt := 28) dX0_mayBeOn_24 (by decide) ?_
      exact z_iret dX0_mayBeOn_28 ⟨Nat.le_refl _, Nat.le_refl _⟩ (by first | exact zb_nar _ | rfl) ⟨rfl, rfl, rfl, rfl, congrArg (fun z => some (Value.int z)) (by first | exact zb_1 (by rw [fm_bit] at h8; simp [hp] at h8; first | omega | (rw [fo_bit] at h20; simp only [hp, decide_true, Bool.true_and] at h20; rcases (show fx p = 1 ∨ fx p = 2 from by omega) with e | e <;> simp [e] at h20 ⊢ <;> omega)) | exact zb_0 (by rw [fm_bit] at h8; simp [hp] at h8; first | omega | (rw [fo_bit] at h20; simp only [hp, decide_true, Bool.true_and] at h20; rcases (show fx p = 1 ∨ fx p = 2 from by omega) with e | e <;> simp [e] at h20 ⊢ <;> omega)) | exact zb_c (by rw [fm_bit] at h8; simp [hp] at h8; first | omega | (rw [fo_bit] at h20; simp only [hp, decide_true, Bool.true_and] at h20; rcases (show fx p = 1 ∨ fx p = 2 from by omega) with e | e <;> simp [e] at h20 ⊢ <;> omega)))⟩
set_option maxRecDepth 100000 in
set_option maxHeartbeats 4000000 in
theorem c_weigh {S : zS} {R : zMR} (I : zMI) (L : zML) {b pb whole : Nat} {fx : Nat → Nat} {s : Bs} (hb : zBst S R b pb) (hs : zBS I b fx whole s) (m c a : Nat) (hw : whole ≤ 4000) (ha : a ≤ 4000) (hc : c ≤ 1000000000) (hs1 : s.1 ≤ 1000000000) (hs3 : s.2.2.1 ≤ 8000) : zM0 yX0_weigh cX0_weigh 5 none 1 [.ref b, .int (nI m), .int (nI c), .int (nI a)] S I L R (zPv L (fun I2 => zBS I2 b fx whole (wgh whole s m c a) ∧ ∀ q, q ≠ b → I2 q = I q)) := by
  refine zM0_of (own := RX0) (lv := [some (.ref b), some (.int (nI m)), some (.int (nI c)), some (.int (nI a)), none]) rfl (by decide) rfl rfl ?_
  have hu := unev_le hw ha
  refine z_aload_n dX0_weigh_0 rfl ?_
  refine z_geti dX0_weigh_1 fX0_21 hb.o ?_
  refine z_top (hs.2.2.1) ?_
  refine z_iconst (nI 2) dX0_weigh_4 (by decide) ?_
  refine z_iload_n dX0_weigh_5 rfl ?_
  refine z_imulN dX0_weigh_6 ?_
  refine z_isub dX0_weigh_7 (z_top (nI_subI _ _) ?_)
  refine z_mabs dX0_weigh_8 mX0_71_l zMath_s_abs zMath_i zMath_c_abs (by decide) (Nat.le_of_ble_eq_true rfl) ⟨Nat.le_refl _, Nat.le_refl _⟩ ?_
  refine z_top ((show _ = nI (unev whole a) from by rw [zabs_eq (by omega) (by omega)]; unfold unev; congr 2 <;> omega)) ?_
  refine z_ist4 dX0_weigh_11 rfl ?_
  refine z_iload_n dX0_weigh_13 rfl ?_
  refine z_aload_n dX0_weigh_14 rfl ?_
  refine z_geti dX0_weigh_15 fX0_24 hb.o ?_
  refine z_top (hs.2.2.2.1) ?_
  refine z_icmp_geNN (tgt := 42) dX0_weigh_18 (by decide) (by omega) (by omega) (fun h18 => ?_) (fun h18 => ?_)
  · refine z_aload_n dX0_weigh_42 rfl ?_
    refine z_dup dX0_weigh_43 rfl ?_
    refine z_geti dX0_weigh_44 fX0_27 hb.o ?_
    refine z_top ((show _ = nI (if c < s.1 then 0 else s.2.1) from by first | (rw [if_pos h18]; simp [zu]; done) | (rw [if_neg (by omega)]; exact hs.2.2.2.2.1))) ?_
    first | rw [if_pos h18] | rw [if_neg (by omega)]
    refine z_iconst (nI 1) dX0_weigh_47 (by decide) ?_
    refine z_iaddN dX0_weigh_48 ?_
    refine z_puti dX0_weigh_49 fX0_27 hb.o ?_
    refine z_iload dX0_weigh_52 rfl ?_
    refine z_aload_n dX0_weigh_54 rfl ?_
    refine z_geti dX0_weigh_55 fX0_18 hb.o ?_
    refine z_top ((show _ = nI (if c < s.1 then unev whole a else s.2.2.1) from by first | (rw [if_pos h18]; simp [zu]; done) | (rw [if_neg (by omega)]; simp [zu]; exact hs.2.2.2.2.2.1))) ?_
    first | rw [if_pos h18] | rw [if_neg (by omega)]
    refine z_icmp_geNN (tgt := 72) dX0_weigh_58 (by decide) (by omega) (by omega) (fun h58 => ?_) (fun h58 => ?_)
    · have e := weigh_ok hs m c a
      first
      | exact absurd h58 (by omega)
      | exact z_ret dX0_weigh_72 ⟨Nat.le_refl _, Nat.le_refl _⟩ rfl ⟨rfl, rfl, rfl, ⟨e.1 h18, fun q hq => by rw [zu_ne hq, zu_ne hq, zu_ne hq, zu_ne hq, zu_ne hq]⟩, rfl⟩
      | exact z_ret dX0_weigh_72 ⟨Nat.le_refl _, Nat.le_refl _⟩ rfl ⟨rfl, rfl, rfl, ⟨e.2.1 (by omega) (by omega), fun q hq => by rw [zu_ne hq, zu_ne hq, zu_ne hq]⟩, rfl⟩
      | exact z_ret dX0_weigh_72 ⟨Nat.le_refl _, Nat.le_refl _⟩ rfl ⟨rfl, rfl, rfl, ⟨e.2.2 (by omega) (by omega), fun q hq => by rw [zu_ne hq]⟩, rfl⟩
    · refine z_aload_n dX0_weigh_61 rfl ?_
      refine z_iload dX0_weigh_62 rfl ?_
      refine z_puti dX0_weigh_64 fX0_18 hb.o ?_
      refine z_aload_n dX0_weigh_67 rfl ?_
      refine z_iload_n dX0_weigh_68 rfl ?_
      refine z_puti dX0_weigh_69 fX0_30 hb.o ?_
      have e := weigh_ok hs m c a
      first
      | exact absurd h58 (by omega)
      | exact z_ret dX0_weigh_72 ⟨Nat.le_refl _, Nat.le_refl _⟩ rfl ⟨rfl, rfl, rfl, ⟨e.1 h18, fun q hq => by rw [zu_ne hq, zu_ne hq, zu_ne hq, zu_ne hq, zu_ne hq]⟩, rfl⟩
      | exact z_ret dX0_weigh_72 ⟨Nat.le_refl _, Nat.le_refl _⟩ rfl ⟨rfl, rfl, rfl, ⟨e.2.1 (by omega) (by omega), fun q hq => by rw [zu_ne hq, zu_ne hq, zu_ne hq]⟩, rfl⟩
      | exact z_ret dX0_weigh_72 ⟨Nat.le_refl _, Nat.le_refl _⟩ rfl ⟨rfl, rfl, rfl, ⟨e.2.2 (by omega) (by omega), fun q hq => by rw [zu_ne hq]⟩, rfl⟩
  · refine z_aload_n dX0_weigh_21 rfl ?_
    refine z_iload_n dX0_weigh_22 rfl ?_
    refine z_puti dX0_weigh_23 fX0_24 hb.o ?_
    refine z_aload_n dX0_weigh_26 rfl ?_
    refine z_iconst (nI 0) dX0_weigh_27 (by decide) ?_
    refine z_puti dX0_weigh_28 fX0_27 hb.o ?_
    refine z_aload_n dX0_weigh_31 rfl ?_
    refine z_iload dX0_weigh_32 rfl ?_
    refine z_puti dX0_weigh_34 fX0_18 hb.o ?_
    refine z_aload_n dX0_weigh_37 rfl ?_
    refine z_iload_n dX0_weigh_38 rfl ?_
    refine z_puti dX0_weigh_39 fX0_30 hb.o ?_
    refine z_aload_n dX0_weigh_42 rfl ?_
    refine z_dup dX0_weigh_43 rfl ?_
    refine z_geti dX0_weigh_44 fX0_27 hb.o ?_
    refine z_top ((show _ = nI (if c < s.1 then 0 else s.2.1) from by first | (rw [if_pos h18]; simp [zu]; done) | (rw [if_neg (by omega)]; exact hs.2.2.2.2.1))) ?_
    first | rw [if_pos h18] | rw [if_neg (by omega)]
    refine z_iconst (nI 1) dX0_weigh_47 (by decide) ?_
    refine z_iaddN dX0_weigh_48 ?_
    refine z_puti dX0_weigh_49 fX0_27 hb.o ?_
    refine z_iload dX0_weigh_52 rfl ?_
    refine z_aload_n dX0_weigh_54 rfl ?_
    refine z_geti dX0_weigh_55 fX0_18 hb.o ?_
    refine z_top ((show _ = nI (if c < s.1 then unev whole a else s.2.2.1) from by first | (rw [if_pos h18]; simp [zu]; done) | (rw [if_neg (by omega)]; simp [zu]; exact hs.2.2.2.2.2.1))) ?_
    first | rw [if_pos h18] | rw [if_neg (by omega)]
    refine z_icmp_geNN (tgt := 72) dX0_weigh_58 (by decide) (by omega) (by omega) (fun h58 => ?_) (fun h58 => ?_)
    · have e := weigh_ok hs m c a
      first
      | exact absurd h58 (by omega)
      | exact z_ret dX0_weigh_72 ⟨Nat.le_refl _, Nat.le_refl _⟩ rfl ⟨rfl, rfl, rfl, ⟨e.1 h18, fun q hq => by rw [zu_ne hq, zu_ne hq, zu_ne hq, zu_ne hq, zu_ne hq]⟩, rfl⟩
      | exact z_ret dX0_weigh_72 ⟨Nat.le_refl _, Nat.le_refl _⟩ rfl ⟨rfl, rfl, rfl, ⟨e.2.1 (by omega) (by omega), fun q hq => by rw [zu_ne hq, zu_ne hq, zu_ne hq]⟩, rfl⟩
      | exact z_ret dX0_weigh_72 ⟨Nat.le_refl _, Nat.le_refl _⟩ rfl ⟨rfl, rfl, rfl, ⟨e.2.2 (by omega) (by omega), fun q hq => by rw [zu_ne hq]⟩, rfl⟩
    · refine z_aload_n dX0_weigh_61 rfl ?_
      refine z_iload dX0_weigh_62 rfl ?_
      refine z_puti dX0_weigh_64 fX0_18 hb.o ?_
      refine z_aload_n dX0_weigh_67 rfl ?_
      refine z_iload_n dX0_weigh_68 rfl ?_
      refine z_puti dX0_weigh_69 fX0_30 hb.o ?_
      have e := weigh_ok hs m c a
      first
      | exact absurd h58 (by omega)
      | exact z_ret dX0_weigh_72 ⟨Nat.le_refl _, Nat.le_refl _⟩ rfl ⟨rfl, rfl, rfl, ⟨e.1 h18, fun q hq => by rw [zu_ne hq, zu_ne hq, zu_ne hq, zu_ne hq, zu_ne hq]⟩, rfl⟩
      | exact z_ret dX0_weigh_72 ⟨Nat.le_refl _, Nat.le_refl _⟩ rfl ⟨rfl, rfl, rfl, ⟨e.2.1 (by omega) (by omega), fun q hq => by rw [zu_ne hq, zu_ne hq, zu_ne hq]⟩, rfl⟩
      | exact z_ret dX0_weigh_72 ⟨Nat.le_refl _, Nat.le_refl _⟩ rfl ⟨rfl, rfl, rfl, ⟨e.2.2 (by omega) (by omega), fun q hq => by rw [zu_ne hq]⟩, rfl⟩
theorem zCat_6 {a b : Option Value} {x1 x2 x3 x4 x5 x6 : Value} (h : zCat [a, b] = true) (h1 : x1.category = 1 := by rfl) (h2 : x2.category = 1 := by rfl) (h3 : x3.category = 1 := by rfl) (h4 : x4.category = 1 := by rfl) (h5 : x5.category = 1 := by rfl) (h6 : x6.category = 1 := by rfl) : zCat [some x1, some x2, some x3, some x4, some x5, some x6, a, b] = true := by
  simp only [zCat, List.all_cons, Bool.and_eq_true] at h ⊢
  exact ⟨by rw [h1]; rfl, by rw [h2]; rfl, by rw [h3]; rfl, by rw [h4]; rfl, by rw [h5]; rfl, by rw [h6]; rfl, h⟩
theorem zCat_6b {a b : Option Value} {x1 x2 x3 x4 x5 x6 x7 : Value} (h : zCat [a, b] = true) (h1 : x1.category = 1 := by rfl) (h2 : x2.category = 1 := by rfl) (h3 : x3.category = 1 := by rfl) (h4 : x4.category = 1 := by rfl) (h5 : x5.category = 1 := by rfl) (h6 : x6.category = 1 := by rfl) (h7 : x7.category = 1 := by rfl) : zCat [some x1, some x2, some x3, some x4, some x5, some x6, some x7, b] = true := by
  simp only [zCat, List.all_cons, Bool.and_eq_true] at h ⊢
  exact ⟨by rw [h1]; rfl, by rw [h2]; rfl, by rw [h3]; rfl, by rw [h4]; rfl, by rw [h5]; rfl, by rw [h6]; rfl, by rw [h7]; rfl, h.2⟩
set_option maxRecDepth 100000 in
set_option maxHeartbeats 4000000 in
theorem search_it {S : zS} {R : zMR} (L : zML) {b pb D st cl whole : Nat} {fx : Nat → Nat} {ps : List Pc} (hb : zBst S R b pb) (ho : psOk ps) (hst : st ≤ 9) (hcl : cl ≤ 99) (hfx : ∀ p, fx p ≤ 2) (hw : whole ≤ 4000) (hd : b < pb ∨ pb + 8 < b) {k : Nat} (ih : (∀ (p m c a : Nat) (s : Bs) (I0 : zMI), p + k = ps.length → m < 2 ^ p → c ≤ p * 2000 → a ≤ p * 256 → s.1 ≤ 1000000000 → s.2.2.1 ≤ 8000 → zBS I0 b fx whole s → zPC I0 pb ps D st cl → zM0 yX0_search cX0_search 8 none (4 + k) [.ref b, .int (nI p), .int (nI m), .int (nI c), .int (nI a)] S I0 L R (zPv L (fun I2 => zBS I2 b fx whole (srch ps D st cl fx whole k p m c a s) ∧ ∀ q, q ≠ b → I2 q = I0 q)))) {Post : zPost} {p m c a x : Nat} {s : Bs} {J : zMI} {a6 a7 : Option Value} (hpk : p + (k + 1) = ps.length) (hm : m < 2 ^ p) (hc : c ≤ p * 2000) (ha : a ≤ p * 256) (hx : x ≤ 1) (hs1 : s.1 ≤ 1000000000) (hs3 : s.2.2.1 ≤ 8000) (hs : zBS J b fx whole s) (hP : zPC J pb ps D st cl) (h67 : zCat [a6, a7] = true)
    (hK : ∀ (J2 : zMI) (a6 a7 : Option Value), zCat [a6, a7] = true → zBS J2 b fx whole (if fx p = 0 ∨ fx p = x + 1 then srch ps D st cl fx whole k (p + 1) (m ||| x * 2 ^ p) (c + cst1 ps D st cl (m ||| x * 2 ^ p) p) (a + x * qa (pg ps p)) s else s) → (∀ q, q ≠ b → J2 q = J q) → zV (zMt RX0 cX0_search 8 none (4 + (k + 1))) Post (0, 0) S J2 L R 102 [some (.ref b), some (.int (nI p)), some (.int (nI m)), some (.int (nI c)), some (.int (nI a)), some (.int (nI x)), a6, a7] []) : zV (zMt RX0 cX0_search 8 none (4 + (k + 1))) Post (0, 0) S J L R 44 [some (.ref b), some (.int (nI p)), some (.int (nI m)), some (.int (nI c)), some (.int (nI a)), some (.int (nI x)), a6, a7] [] := by
  have hl := ho.1
  have hq := qa_le (ho.at (show p < ps.length from by omega))
  have hx2 : x * qa (pg ps p) ≤ 1 * 256 := Nat.mul_le_mul hx hq
  have hax : a + x * qa (pg ps p) ≤ (p + 1) * 256 := by omega
  have hshl : x * 2 ^ p < 4294967296 := by have h9 : x * 2 ^ p ≤ 1 * 2 ^ p := Nat.mul_le_mul_right _ hx; have := pow_lt31 (n := p) (by omega); omega
  have hc9 := cst1_le (ps := ps) (D := D) (m := m ||| x * 2 ^ p) hcl hst (show p ≤ 14 from by omega)
  unfold cst1 at hc9
  refine z_aload_n dX0_search_44 rfl ?_
  refine z_iload_n dX0_search_45 rfl ?_
  refine z_iload dX0_search_46 rfl ?_
  refine z_callV2p dX0_search_48 mX0_59 hb.o (c_mayBeOn _ L hb hs p x (by omega) hx (hfx p)) (by show _ ≤ 4 + (k + 1); omega) (Nat.le_of_ble_eq_true rfl) ⟨Nat.le_refl _, Nat.le_refl _⟩ ?_
  refine z_if_eqB (tgt := 102) dX0_search_51 (by decide) (fun h51 => ?_) (fun h51 => ?_)
  · first
    | exact hK J2 _ _ rfl (by rw [if_pos h51]; exact hJ2.1) (fun q hq => hJ2.2 q hq)
    | exact hK J a6 a7 h67 (by rw [if_neg h51]; exact hs) (fun q hq => rfl)
  · refine z_iload_n dX0_search_54 rfl ?_
    refine z_iload dX0_search_55 rfl ?_
    refine z_iload_n dX0_search_57 rfl ?_
    refine z_ishlN dX0_search_58 (by omega) hshl ?_
    refine z_iorN dX0_search_59 ?_
    refine z_ist6 dX0_search_60 (zCat_6 h67) ?_
    refine z_iload_n dX0_search_62 rfl ?_
    refine z_aload_n dX0_search_63 rfl ?_
    refine z_getr dX0_search_64 fX0_33 hb.o hb.r0 ?_
    refine z_iload_n dX0_search_67 rfl ?_
    refine z_iload dX0_search_68 rfl ?_
    refine z_callV2p dX0_search_70 mX0_63 hb.p.o (c_cost1 _ L hb.p hP ho p _ (by omega) (by have := pow_lt31 (n := p + 1) (by omega); have := or_lt hm hx; omega)) (by show _ ≤ 4 + (k + 1); omega) (Nat.le_of_ble_eq_true rfl) ⟨Nat.le_refl _, Nat.le_refl _⟩ ?_
    refine z_iaddN dX0_search_73 ?_
    refine z_ist7 dX0_search_74 (zCat_6b h67) ?_
    refine z_aload_n dX0_search_76 rfl ?_
    refine z_iload_n dX0_search_77 rfl ?_
    refine z_iconst (nI 1) dX0_search_78 (by decide) ?_
    refine z_iaddN dX0_search_79 ?_
    refine z_iload dX0_search_80 rfl ?_
    refine z_iload dX0_search_82 rfl ?_
    refine z_iload dX0_search_84 rfl ?_
    refine z_iload dX0_search_86 rfl ?_
    refine z_aload_n dX0_search_88 rfl ?_
    refine z_getr dX0_search_89 fX0_33 hb.o hb.r0 ?_
    refine z_getr dX0_search_92 fX0_67 hb.p.o hb.p.r3 ?_
    refine z_iload_n dX0_search_95 rfl ?_
    refine z_iaN dX0_search_96 hb.p.a3 (by omega) (by decide) ?_
    refine z_top ((hP.1.2 p _ (getP (show p < ps.length from by omega))).2.2.2.1) ?_
    refine z_imulN dX0_search_97 ?_
    refine z_iaddN dX0_search_98 ?_
    refine z_callS5v dX0_search_99 mX0_48 (ih (p + 1) _ _ _ s J (by omega) (or_lt hm hx) (by omega) hax hs1 hs3 hs hP) (by show _ ≤ 4 + (k + 1); omega) (Nat.le_of_ble_eq_true rfl) ⟨Nat.le_refl _, Nat.le_refl _⟩ (fun J2 hJ2 => ?_)
    first
    | exact hK J2 _ _ rfl (by rw [if_pos h51]; exact hJ2.1) (fun q hq => hJ2.2 q hq)
    | exact hK J a6 a7 h67 (by rw [if_neg h51]; exact hs) (fun q hq => rfl)
set_option maxRecDepth 100000 in
set_option maxHeartbeats 4000000 in
theorem c_search {S : zS} {R : zMR} (L : zML) {b pb D st cl whole : Nat} {fx : Nat → Nat} {ps : List Pc} (hb : zBst S R b pb) (ho : psOk ps) (hst : st ≤ 9) (hcl : cl ≤ 99) (hfx : ∀ p, fx p ≤ 2) (hw : whole ≤ 4000) (hd : b < pb ∨ pb + 8 < b) : ∀ (k : Nat), (∀ (p m c a : Nat) (s : Bs) (I0 : zMI), p + k = ps.length → m < 2 ^ p → c ≤ p * 2000 → a ≤ p * 256 → s.1 ≤ 1000000000 → s.2.2.1 ≤ 8000 → zBS I0 b fx whole s → zPC I0 pb ps D st cl → zM0 yX0_search cX0_search 8 none (4 + k) [.ref b, .int (nI p), .int (nI m), .int (nI c), .int (nI a)] S I0 L R (zPv L (fun I2 => zBS I2 b fx whole (srch ps D st cl fx whole k p m c a s) ∧ ∀ q, q ≠ b → I2 q = I0 q))) := by
  intro k
  induction k with
  | zero =>
    intro p m c a s I0 hpk hm hc ha hs1 hs3 hs hP
    have hl := ho.1
    refine zM0_of (own := RX0) (lv := [some (.ref b), some (.int (nI p)), some (.int (nI m)), some (.int (nI c)), some (.int (nI a)), none, none, none]) rfl (by decide) rfl rfl ?_
    refine z_iload_n dX0_search_0 rfl ?_
    refine z_aload_n dX0_search_1 rfl ?_
    refine z_geti dX0_search_2 fX0_24 hb.o ?_
    refine z_top (hs.2.2.2.1) ?_
    refine z_icmp_leNN (tgt := 9) dX0_search_5 (by decide) (by omega) (by omega) (fun h5 => ?_) (fun h5 => ?_)
    · refine z_iload_n dX0_search_9 rfl ?_
      refine z_aload_n dX0_search_10 rfl ?_
      refine z_getr dX0_search_11 fX0_33 hb.o hb.r0 ?_
      refine z_geti dX0_search_14 fX0_52 hb.p.o ?_
      refine z_top (hP.1.1) ?_
      refine z_icmp_geNN (tgt := 26) dX0_search_17 (by decide) (by omega) (by omega) (fun h17 => ?_) (fun h17 => absurd h17 (by omega))
      refine z_aload_n dX0_search_26 rfl ?_
      refine z_iload_n dX0_search_27 rfl ?_
      refine z_iload_n dX0_search_28 rfl ?_
      refine z_iload dX0_search_29 rfl ?_
      refine z_callV3v dX0_search_31 mX0_55 hb.o (c_weigh I0 L hb hs m c a hw (by omega) (by omega) hs1 hs3) (by decide) (Nat.le_of_ble_eq_true rfl) ⟨Nat.le_refl _, Nat.le_refl _⟩ (fun J hJ => ?_)
      exact z_ret dX0_search_34 ⟨Nat.le_refl _, Nat.le_refl _⟩ rfl ⟨rfl, rfl, rfl, ⟨by rw [srch, if_neg (by omega)]; exact hJ.1, hJ.2⟩, rfl⟩
    · exact z_ret dX0_search_8 ⟨Nat.le_refl _, Nat.le_refl _⟩ rfl ⟨rfl, rfl, rfl, ⟨by rw [srch, if_pos h5]; exact hs, fun q hq => rfl⟩, rfl⟩
  | succ k ih =>
    intro p m c a s I0 hpk hm hc ha hs1 hs3 hs hP
    have hl := ho.1
    refine zM0_of (own := RX0) (lv := [some (.ref b), some (.int (nI p)), some (.int (nI m)), some (.int (nI c)), some (.int (nI a)), none, none, none]) rfl (by decide) rfl rfl ?_
    refine z_iload_n dX0_search_0 rfl ?_
    refine z_aload_n dX0_search_1 rfl ?_
    refine z_geti dX0_search_2 fX0_24 hb.o ?_
    refine z_top (hs.2.2.2.1) ?_
    refine z_icmp_leNN (tgt := 9) dX0_search_5 (by decide) (by omega) (by omega) (fun h5 => ?_) (fun h5 => ?_)
    · refine z_iload_n dX0_search_9 rfl ?_
      refine z_aload_n dX0_search_10 rfl ?_
      refine z_getr dX0_search_11 fX0_33 hb.o hb.r0 ?_
      refine z_geti dX0_search_14 fX0_52 hb.p.o ?_
      refine z_top (hP.1.1) ?_
      refine z_icmp_geNN (tgt := 26) dX0_search_17 (by decide) (by omega) (by omega) (fun h17 => absurd h17 (by omega)) (fun h17 => ?_)
      refine z_iload_n dX0_search_20 rfl ?_
      refine z_bipush (nI 14) dX0_search_21 (by decide) ?_
      refine z_icmp_ltNN (tgt := 35) dX0_search_23 (by decide) (by omega) (by omega) (fun h23 => ?_) (fun h23 => absurd h23 (by omega))
      refine z_iconst (nI 0) dX0_search_35 (by decide) ?_
      refine z_ist5 dX0_search_36 rfl ?_
      refine z_iload dX0_search_38 rfl ?_
      refine z_iconst (nI 1) dX0_search_40 (by decide) ?_
      refine z_icmp_gtNN (tgt := 108) dX0_search_41 (by decide) (by omega) (by omega) (fun h41 => absurd h41 (by decide)) (fun h41 => ?_)
      refine search_it (x := 0) L hb ho hst hcl hfx hw hd ih hpk hm hc ha (by omega) hs1 hs3 hs hP rfl (fun J a6 a7 h67 hJ hF => ?_)
      refine z_iincN5 (n := 1) dX0_search_102 (zCat_6 h67) ?_
      refine z_goto (tgt := 38) dX0_search_105 (by decide) ?_
      refine z_iload dX0_search_38 rfl ?_
      refine z_iconst (nI 1) dX0_search_40 (by decide) ?_
      refine z_icmp_gtNN (tgt := 108) dX0_search_41 (by decide) (by omega) (by omega) (fun h => absurd h (by omega)) (fun _ => ?_)
      have hbd := srch_b (D := D) (fx := fx) hcl hst hw ho k (p + 1) (m ||| 0 * 2 ^ p) (c + cst1 ps D st cl (m ||| 0 * 2 ^ p) p) (a + 0 * qa (pg ps p)) s (by omega) (by have := cst1_le (ps := ps) (D := D) (m := m ||| 0 * 2 ^ p) hcl hst (show p ≤ 14 from by omega); omega) (by omega) hs1 hs3
      have hpw : 2 ^ k ≤ 2 ^ 14 := Nat.pow_le_pow_right (by decide) (by omega)
      obtain ⟨s1, hs1e⟩ : ∃ s1, s1 = (if fx p = 0 ∨ fx p = 0 + 1 then srch ps D st cl fx whole k (p + 1) (m ||| 0 * 2 ^ p) (c + cst1 ps D st cl (m ||| 0 * 2 ^ p) p) (a + 0 * qa (pg ps p)) s else s) := ⟨_, rfl⟩
      have hb1 : s1.1 ≤ 1000000000 ∧ s1.2.1 ≤ s.2.1 + 2 ^ k ∧ s1.2.2.1 ≤ 8000 := by
        rw [hs1e]
        split
        · exact ⟨hbd.1, hbd.2.2, hbd.2.1⟩
        · exact ⟨hs1, Nat.le_add_right _ _, hs3⟩
      rw [← hs1e] at hJ
      have hP2 : zPC J pb ps D st cl := hP.frame (fun q q1 q2 => hF q (by omega))
      refine search_it (x := 1) L hb ho hst hcl hfx hw hd ih hpk hm hc ha (by omega) hb1.1 hb1.2.2 hJ hP2 h67 (fun J2 a6 a7 h67 hJ2 hF2 => ?_)
      refine z_iincN5 (n := 1) dX0_search_102 (zCat_6 h67) ?_
      refine z_goto (tgt := 38) dX0_search_105 (by decide) ?_
      refine z_iload dX0_search_38 rfl ?_
      refine z_iconst (nI 1) dX0_search_40 (by decide) ?_
      refine z_icmp_gtNN (tgt := 108) dX0_search_41 (by decide) (by omega) (by omega) (fun _ => ?_) (fun h => absurd h (by omega))
      refine z_ret dX0_search_108 ⟨Nat.le_refl _, Nat.le_refl _⟩ rfl ⟨rfl, rfl, rfl, ⟨?_, fun q hq => (hF2 q hq).trans (hF q hq)⟩, rfl⟩
      rw [srch, if_neg (by omega)]
      simp only
      rw [← hs1e]
      exact hJ2
    · exact z_ret dX0_search_8 ⟨Nat.le_refl _, Nat.le_refl _⟩ rfl ⟨rfl, rfl, rfl, ⟨by rw [srch, if_pos h5]; exact hs, fun q hq => rfl⟩, rfl⟩
set_option maxRecDepth 100000 in
set_option maxHeartbeats 4000000 in
theorem c_find {S : zS} {R : zMR} (I : zMI) (L : zML) {b pb D st cl u : Nat} {fx : Nat → Nat} {ps : List Pc} (hb : zBst S R b pb) (ho : psOk ps) (hst : st ≤ 9) (hcl : cl ≤ 99) (hfx : ∀ p, fx p ≤ 2) (hd : b < pb ∨ pb + 8 < b) (hP : zPC I pb ps D st cl) (h3 : I b 3 = nI u) (hu : u ≤ 8000) : zM0 yX0_find cX0_find 3 none 20 [.ref b, .int (nI (fm fx)), .int (nI (fo fx))] S I L R (zPv L (fun I2 => zBS I2 b fx (areaM ps (2 ^ ps.length - 1)) (srch ps D st cl fx (areaM ps (2 ^ ps.length - 1)) ps.length 0 0 0 0 (1000000000, 0, u, 0)) ∧ ∀ q, q ≠ b → I2 q = I q)) := by
  refine zM0_of (own := RX0) (lv := [some (.ref b), some (.int (nI (fm fx))), some (.int (nI (fo fx)))]) rfl (by decide) rfl rfl ?_
  have hl := ho.1
  have hall : 2 ^ ps.length - 1 < 2147483648 := by have := pow_lt31 (n := ps.length) (by omega); omega
  refine z_aload_n dX0_find_0 rfl ?_
  refine z_iload_n dX0_find_1 rfl ?_
  refine z_puti dX0_find_2 fX0_9 hb.o ?_
  refine z_aload_n dX0_find_5 rfl ?_
  refine z_iload_n dX0_find_6 rfl ?_
  refine z_puti dX0_find_7 fX0_15 hb.o ?_
  refine z_aload_n dX0_find_10 rfl ?_
  refine z_aload_n dX0_find_11 rfl ?_
  refine z_getr dX0_find_12 fX0_33 hb.o hb.r0 ?_
  refine z_aload_n dX0_find_15 rfl ?_
  refine z_getr dX0_find_16 fX0_33 hb.o hb.r0 ?_
  refine z_callV0p dX0_find_19 mX0_37 hb.p.o (c_all _ L hb.p (hP.frame (fun q q1 q2 => by rw [zu_ne (by omega), zu_ne (by omega)])).1 ho) (by first | decide | (show 4 + ps.length + 1 ≤ 20; omega)) (Nat.le_of_ble_eq_true rfl) ⟨Nat.le_refl _, Nat.le_refl _⟩ ?_
  refine z_callV1p dX0_find_22 mX0_43 hb.p.o (c_pcArea _ L hb.p (hP.frame (fun q q1 q2 => by rw [zu_ne (by omega), zu_ne (by omega)])) ho _ hall) (by first | decide | (show 4 + ps.length + 1 ≤ 20; omega)) (Nat.le_of_ble_eq_true rfl) ⟨Nat.le_refl _, Nat.le_refl _⟩ ?_
  refine z_puti dX0_find_25 fX0_21 hb.o ?_
  refine z_aload_n dX0_find_28 rfl ?_
  refine z_ldc dX0_find_29 kX0_47 ?_
  refine z_top (y := nI 1000000000) (by decide) ?_
  refine z_puti dX0_find_31 fX0_24 hb.o ?_
  refine z_aload_n dX0_find_34 rfl ?_
  refine z_iconst (nI 0) dX0_find_35 (by decide) ?_
  refine z_puti dX0_find_36 fX0_27 hb.o ?_
  refine z_aload_n dX0_find_39 rfl ?_
  refine z_iconst (nI 0) dX0_find_40 (by decide) ?_
  refine z_puti dX0_find_41 fX0_30 hb.o ?_
  refine z_aload_n dX0_find_44 rfl ?_
  refine z_iconst (nI 0) dX0_find_45 (by decide) ?_
  refine z_iconst (nI 0) dX0_find_46 (by decide) ?_
  refine z_iconst (nI 0) dX0_find_47 (by decide) ?_
  refine z_iconst (nI 0) dX0_find_48 (by decide) ?_
  refine z_callS5v dX0_find_49 mX0_48 (c_search (whole := areaM ps (2 ^ ps.length - 1)) L hb ho hst hcl hfx (Nat.le_trans (areaM_le ho _) (by decide)) hd ps.length 0 0 0 0 (1000000000, 0, u, 0) _ (by omega) (by decide) (by omega) (by omega) (Nat.le_refl _) hu ⟨by simp [zu], by simp [zu], by simp [zu], by simp [zu], by simp [zu], by simp [zu, h3], by simp [zu]⟩ (hP.frame (fun q q1 q2 => by rw [zu_ne (by omega), zu_ne (by omega), zu_ne (by omega), zu_ne (by omega), zu_ne (by omega), zu_ne (by omega)]))) (by first | decide | (show 4 + ps.length + 1 ≤ 20; omega)) (Nat.le_of_ble_eq_true rfl) ⟨Nat.le_refl _, Nat.le_refl _⟩ (fun J hJ => ?_)
  exact z_ret dX0_find_52 ⟨Nat.le_refl _, Nat.le_refl _⟩ rfl ⟨rfl, rfl, rfl, ⟨hJ.1, fun q hq => by rw [hJ.2 q hq, zu_ne hq, zu_ne hq, zu_ne hq, zu_ne hq, zu_ne hq, zu_ne hq]⟩, rfl⟩
