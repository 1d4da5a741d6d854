theorem set6_ok {I : zMI} {v : Ly} {k : Nat} (hv : zMb (I 97) 0 v) (hk : k < v.1.length) (hl : v.1.length ≤ 10) (t : Sh) {a0 a1 a2 a3 a4 a5 : Int32} (h0 : a0 = nI (sx t)) (h1 : a1 = nI (sy t)) (h2 : a2 = nI (sx2 t)) (h3 : a3 = nI (sy2 t)) (h4 : a4 = nI (c1 (sc t))) (h5 : a5 = nI (c2 (sc t))) :
    zMb (zu (zu (zu (zu (zu (zu I 97 (1 + 6 * k) a0) 97 (1 + 6 * k + 1) a1) 97 (1 + 6 * k + 2) a2) 97 (1 + 6 * k + 3) a3) 97 (1 + 6 * k + 4) a4) 97 (1 + 6 * k + 5) a5 97) 0 (lyS v (v.1.set k t)) := by
  subst h0 h1 h2 h3 h4 h5
  refine hv.set hk hl ⟨?_, ?_, ?_, ?_, ?_, ?_⟩ (fun x hx => ?_)
  · rw [Nat.zero_add, zu_nk (Or.inr (by omega)), zu_nk (Or.inr (by omega)), zu_nk (Or.inr (by omega)), zu_nk (Or.inr (by omega)), zu_nk (Or.inr (by omega))]; exact zu_same
  · rw [Nat.zero_add, zu_nk (Or.inr (by omega)), zu_nk (Or.inr (by omega)), zu_nk (Or.inr (by omega)), zu_nk (Or.inr (by omega))]; exact zu_same
  · rw [Nat.zero_add, zu_nk (Or.inr (by omega)), zu_nk (Or.inr (by omega)), zu_nk (Or.inr (by omega))]; exact zu_same
  · rw [Nat.zero_add, zu_nk (Or.inr (by omega)), zu_nk (Or.inr (by omega))]; exact zu_same
  · rw [Nat.zero_add, zu_nk (Or.inr (by omega))]; exact zu_same
  · rw [Nat.zero_add]; exact zu_same
  · rw [zu_nk (Or.inr (by omega)), zu_nk (Or.inr (by omega)), zu_nk (Or.inr (by omega)), zu_nk (Or.inr (by omega)), zu_nk (Or.inr (by omega)), zu_nk (Or.inr (by omega))]
theorem set2_ok {I J : zMI} {v : Ly} {k : Nat} {sh : Sh} (hv : zMb (I 97) 0 v) (hsh : v.1[k]? = some sh) (hl : v.1.length ≤ 10) (c : List Nat) (h4 : J 97 (1 + 6 * k + 4) = nI (c1 c)) (h5 : J 97 (1 + 6 * k + 5) = nI (c2 c)) (hf : ∀ x, x ≠ 1 + 6 * k + 4 → x ≠ 1 + 6 * k + 5 → J 97 x = I 97 x) : zMb (J 97) 0 (lyS v (v.1.set k (shC sh c))) := by
  obtain ⟨e0, e1, e2, e3, -, -⟩ := mSh0 (hv.2.1 k sh hsh)
  refine hv.set (getS_lt hsh) hl ⟨?_, ?_, ?_, ?_, ?_, ?_⟩ (fun x hx => hf x (by omega) (by omega))
  · rw [Nat.zero_add, hf _ (by omega) (by omega)]; exact e0
  · rw [Nat.zero_add, hf _ (by omega) (by omega)]; exact e1
  · rw [Nat.zero_add, hf _ (by omega) (by omega)]; exact e2
  · rw [Nat.zero_add, hf _ (by omega) (by omega)]; exact e3
  · rw [Nat.zero_add]; exact h4
  · rw [Nat.zero_add]; exact h5
theorem nI_addN {a : Nat} {x : Int32} (h : 0 ≤ (a : Int) + x.toInt) : nI a + x = nI ((a : Int) + x.toInt).toNat := by rw [nI_addI, zi_nat h]
theorem c1_mv {x x2 : Nat} {c : List Nat} {d : Int32} (h : cOk x x2 c) (hx : 0 ≤ (x : Int) + d.toInt) :
    (c1 c = 0 → nI (c1 c + 0) = nI (c1 (c.map (fun z : Nat => ((z : Int) + d.toInt).toNat)))) ∧ (c1 c ≠ 0 → nI (c1 c) + d = nI (c1 (c.map (fun z : Nat => ((z : Int) + d.toInt).toNat)))) ∧
    (c2 c = 0 → nI (c2 c + 0) = nI (c2 (c.map (fun z : Nat => ((z : Int) + d.toInt).toNat)))) ∧ (c2 c ≠ 0 → nI (c2 c) + d = nI (c2 (c.map (fun z : Nat => ((z : Int) + d.toInt).toNat)))) := by
  rcases h with rfl | ⟨a, rfl, h1, h2⟩ | ⟨a, b, rfl, h1, h2, h3⟩
  · exact ⟨fun _ => rfl, fun q => absurd rfl q, fun _ => rfl, fun q => absurd rfl q⟩
  · refine ⟨fun q => absurd q (by simp [c1]), fun _ => ?_, fun _ => rfl, fun q => absurd rfl q⟩
    show nI (a + 1) + d = nI (((a : Int) + d.toInt).toNat + 1)
    rw [nI_addN (by omega)]
    congr 1
    omega
  · refine ⟨fun q => absurd q (by simp [c1]), fun _ => ?_, fun q => absurd q (by simp [c1, c2]), fun _ => ?_⟩
    · show nI (a + 1) + d = nI (((a : Int) + d.toInt).toNat + 1)
      rw [nI_addN (by omega)]
      congr 1
      omega
    · show nI (b + 1) + d = nI (((b : Int) + d.toInt).toNat + 1)
      rw [nI_addN (by omega)]
      congr 1
      omega
theorem c_mem {x x2 : Nat} {c : List Nat} (h : cOk x x2 c) (z : Nat) : z ∈ c ↔ c1 c = z + 1 ∨ c2 c = z + 1 := by
  rcases h with rfl | ⟨a, rfl, h1, h2⟩ | ⟨a, b, rfl, h1, h2, h3⟩
  · simp [c1, c2]
  · simp [c1, c2]; omega
  · simp [c1, c2]; omega
theorem c_ins {x x2 z : Nat} {c : List Nat} (h : cOk x x2 c) (hn : z ∉ c) (hl : c.length < 2) : (c1 c = 0 → c1 (insC z c) = z + 1 ∧ c2 (insC z c) = c2 c) ∧ (c1 c ≠ 0 → (z + 1 < c1 c → c1 (insC z c) = z + 1 ∧ c2 (insC z c) = c1 c) ∧ (¬ z + 1 < c1 c → c1 (insC z c) = c1 c ∧ c2 (insC z c) = z + 1)) := by
  rcases h with rfl | ⟨a, rfl, h1, h2⟩ | ⟨a, b, rfl, h1, h2, h3⟩
  · exact ⟨fun _ => ⟨rfl, rfl⟩, fun q => absurd rfl q⟩
  · refine ⟨fun q => absurd q (by simp [c1]), fun _ => ⟨fun q => ?_, fun q => ?_⟩⟩
    · have q : z < a := by simpa [c1] using q
      simp [insC, q, c1, c2]
    · have q : ¬ z < a := by simpa [c1] using q
      simp [insC, q, c1, c2]
  · simp at hl
theorem c_rem {x x2 z : Nat} {c : List Nat} (h : cOk x x2 c) (hn : z ∈ c) : (c1 c = z + 1 → c1 (remC z c) = c2 c) ∧ (c1 c ≠ z + 1 → c1 (remC z c) = c1 c) ∧ c2 (remC z c) = 0 := by
  rcases h with rfl | ⟨a, rfl, h1, h2⟩ | ⟨a, b, rfl, h1, h2, h3⟩
  · simp at hn
  · have e : z = a := by simpa using hn
    subst e
    refine ⟨fun _ => by simp [remC, c1, c2], fun q => absurd rfl q, by simp [remC, c1, c2]⟩
  · have e : z = a ∨ z = b := by simpa using hn
    rcases e with rfl | rfl
    · refine ⟨fun _ => ?_, fun q => absurd rfl q, ?_⟩
      · have : b ≠ z := by omega
        simp [remC, c1, c2, this]
      · have : b ≠ z := by omega
        simp [remC, c1, c2, this]
    · have : a ≠ z := by omega
      refine ⟨fun q => absurd q (by simp [c1]; omega), fun _ => by simp [remC, c1, this], by simp [remC, c1, c2, this]⟩
set_option maxRecDepth 100000 in
set_option maxHeartbeats 4000000 in
theorem m_doMove {S : zS} {R : zMR} (I : zMI) (L : zML) {v : Ly} (hM : zMO S R) (hv : zMb (I 97) 0 v) (ho : lyOk v) (k : Nat) {sh : Sh} (hsh : v.1[k]? = some sh) (dx dy : Int32) (hx : 0 ≤ (sx sh : Int) + dx.toInt) (hy : 0 ≤ (sy sh : Int) + dy.toInt) : zM0 yX6_doMove cX6_doMove 5 none 1 [.ref 96, .int (nI k), .int dx, .int dy] S I L R (zPv L (fun J => zMb (J 97) 0 (lyZ (lyS v (v.1.set k (mv sh dx.toInt dy.toInt)))) ∧ stF I J)) := by
  refine zM0_of (own := RX6) (lv := [some (.ref 96), some (.int (nI k)), some (.int dx), some (.int dy), none]) rfl (by decide) rfl rfl ?_
  have hl := ho.1
  have hk := getS_lt hsh
  obtain ⟨o1, o2, o3, o4, o5⟩ := id (ho.sh hsh)
  obtain ⟨e0, e1, e2, e3, e4, e5⟩ := mSh0 (hv.2.1 k sh hsh)
  have cm := c1_mv (d := dx) o5 hx
  obtain ⟨b1, b2⟩ := c1_le o5 o2
  refine z_aload_n dX6_doMove_0 rfl ?_
  refine z_iload_n dX6_doMove_1 rfl ?_
  refine z_aload_n dX6_doMove_2 rfl ?_
  refine z_iload_n dX6_doMove_3 rfl ?_
  refine z_iconst (nI 0) dX6_doMove_4 (by decide) ?_
  refine z_callV2p dX6_doMove_5 mX6_45 hM.o (m_part I L hM k 0 (by omega) (by omega)) (by decide) (Nat.le_of_ble_eq_true rfl) ⟨Nat.le_refl _, Nat.le_refl _⟩ ?_
  refine z_top (e0) ?_
  refine z_iload_n dX6_doMove_8 rfl ?_
  refine z_iadd dX6_doMove_9 ?_
  refine z_top ((nI_addN (by omega))) ?_
  refine z_aload_n dX6_doMove_10 rfl ?_
  refine z_iload_n dX6_doMove_11 rfl ?_
  refine z_iconst (nI 1) dX6_doMove_12 (by decide) ?_
  refine z_callV2p dX6_doMove_13 mX6_45 hM.o (m_part I L hM k 1 (by omega) (by omega)) (by decide) (Nat.le_of_ble_eq_true rfl) ⟨Nat.le_refl _, Nat.le_refl _⟩ ?_
  refine z_top (e1) ?_
  refine z_iload_n dX6_doMove_16 rfl ?_
  refine z_iadd dX6_doMove_17 ?_
  refine z_top ((nI_addN (by omega))) ?_
  refine z_aload_n dX6_doMove_18 rfl ?_
  refine z_iload_n dX6_doMove_19 rfl ?_
  refine z_iconst (nI 2) dX6_doMove_20 (by decide) ?_
  refine z_callV2p dX6_doMove_21 mX6_45 hM.o (m_part I L hM k 2 (by omega) (by omega)) (by decide) (Nat.le_of_ble_eq_true rfl) ⟨Nat.le_refl _, Nat.le_refl _⟩ ?_
  refine z_top (e2) ?_
  refine z_iload_n dX6_doMove_24 rfl ?_
  refine z_iadd dX6_doMove_25 ?_
  refine z_top ((nI_addN (by omega))) ?_
  refine z_aload_n dX6_doMove_26 rfl ?_
  refine z_iload_n dX6_doMove_27 rfl ?_
  refine z_iconst (nI 3) dX6_doMove_28 (by decide) ?_
  refine z_callV2p dX6_doMove_29 mX6_45 hM.o (m_part I L hM k 3 (by omega) (by omega)) (by decide) (Nat.le_of_ble_eq_true rfl) ⟨Nat.le_refl _, Nat.le_refl _⟩ ?_
  refine z_top (e3) ?_
  refine z_iload_n dX6_doMove_32 rfl ?_
  refine z_iadd dX6_doMove_33 ?_
  refine z_top ((nI_addN (by omega))) ?_
  refine z_callV5v dX6_doMove_34 mX6_124 hM.o (m_put I L hM k (by omega) _ _ _ _) (by decide) (Nat.le_of_ble_eq_true rfl) ⟨Nat.le_refl _, Nat.le_refl _⟩ (fun J hJ => ?_)
  refine z_iconst (nI 4) dX6_doMove_37 (by decide) ?_
  refine z_ist4 dX6_doMove_38 rfl ?_
  refine z_iload dX6_doMove_40 rfl ?_
  refine z_bipush (nI 6) dX6_doMove_42 (by decide) ?_
  refine z_icmp_geNN (tgt := 85) dX6_doMove_44 (by decide) (by omega) (by omega) (fun h44 => absurd h44 (by decide)) (fun _ => ?_)
  refine z_aload_n dX6_doMove_47 rfl ?_
  refine z_getr dX6_doMove_48 fX6_7 hM.o hM.r0 ?_
  refine z_iconst (nI 1) dX6_doMove_51 (by decide) ?_
  refine z_bipush (nI 6) dX6_doMove_52 (by decide) ?_
  refine z_iload_n dX6_doMove_54 rfl ?_
  refine z_imulN dX6_doMove_55 ?_
  refine z_iaddN dX6_doMove_56 ?_
  refine z_iload dX6_doMove_57 rfl ?_
  refine z_iaddN dX6_doMove_59 ?_
  refine z_dup2 dX6_doMove_60 rfl rfl ?_
  refine z_iaN dX6_doMove_61 hM.a0 (by omega) (by decide) ?_
  refine z_top ((show _ = nI (c1 (sc sh)) from by rw [hJ, zu_nk (Or.inr (by omega)), zu_nk (Or.inr (by omega)), zu_nk (Or.inr (by omega)), zu_nk (Or.inr (by omega))]; exact e4)) ?_
  refine z_aload_n dX6_doMove_62 rfl ?_
  refine z_iload_n dX6_doMove_63 rfl ?_
  refine z_iload dX6_doMove_64 rfl ?_
  refine z_callV2p dX6_doMove_66 mX6_45 hM.o (m_part _ L hM k 4 (by omega) (by omega)) (by decide) (Nat.le_of_ble_eq_true rfl) ⟨Nat.le_refl _, Nat.le_refl _⟩ ?_
  refine z_top ((show _ = nI (c1 (sc sh)) from by rw [hJ, zu_nk (Or.inr (by omega)), zu_nk (Or.inr (by omega)), zu_nk (Or.inr (by omega)), zu_nk (Or.inr (by omega))]; exact e4)) ?_
  refine z_if_leN (tgt := 76) dX6_doMove_69 (by decide) (by omega) (fun h69 => ?_) (fun h69 => ?_)
  · have k4 := h69
    refine z_iconst (nI 0) dX6_doMove_76 (by decide) ?_
    refine z_iaddN dX6_doMove_77 ?_
    refine z_isN dX6_doMove_78 hM.a0 (by omega) (by decide) ?_
    refine z_iincN4 (n := 1) dX6_doMove_79 rfl ?_
    refine z_goto (tgt := 40) dX6_doMove_82 (by decide) ?_
    refine z_iload dX6_doMove_40 rfl ?_
    refine z_bipush (nI 6) dX6_doMove_42 (by decide) ?_
    refine z_icmp_geNN (tgt := 85) dX6_doMove_44 (by decide) (by omega) (by omega) (fun h44 => absurd h44 (by decide)) (fun _ => ?_)
    refine z_aload_n dX6_doMove_47 rfl ?_
    refine z_getr dX6_doMove_48 fX6_7 hM.o hM.r0 ?_
    refine z_iconst (nI 1) dX6_doMove_51 (by decide) ?_
    refine z_bipush (nI 6) dX6_doMove_52 (by decide) ?_
    refine z_iload_n dX6_doMove_54 rfl ?_
    refine z_imulN dX6_doMove_55 ?_
    refine z_iaddN dX6_doMove_56 ?_
    refine z_iload dX6_doMove_57 rfl ?_
    refine z_iaddN dX6_doMove_59 ?_
    refine z_dup2 dX6_doMove_60 rfl rfl ?_
    refine z_iaN dX6_doMove_61 hM.a0 (by omega) (by decide) ?_
    refine z_top ((show _ = nI (c2 (sc sh)) from by rw [zu_nk (Or.inr (by omega)), hJ, zu_nk (Or.inr (by omega)), zu_nk (Or.inr (by omega)), zu_nk (Or.inr (by omega)), zu_nk (Or.inr (by omega))]; exact e5)) ?_
    refine z_aload_n dX6_doMove_62 rfl ?_
    refine z_iload_n dX6_doMove_63 rfl ?_
    refine z_iload dX6_doMove_64 rfl ?_
    refine z_callV2p dX6_doMove_66 mX6_45 hM.o (m_part _ L hM k 5 (by omega) (by omega)) (by decide) (Nat.le_of_ble_eq_true rfl) ⟨Nat.le_refl _, Nat.le_refl _⟩ ?_
    refine z_top ((show _ = nI (c2 (sc sh)) from by rw [zu_nk (Or.inr (by omega)), hJ, zu_nk (Or.inr (by omega)), zu_nk (Or.inr (by omega)), zu_nk (Or.inr (by omega)), zu_nk (Or.inr (by omega))]; exact e5)) ?_
    refine z_if_leN (tgt := 76) dX6_doMove_69 (by decide) (by omega) (fun h69 => ?_) (fun h69 => ?_)
    · have k5 := h69
      refine z_iconst (nI 0) dX6_doMove_76 (by decide) ?_
      refine z_iaddN dX6_doMove_77 ?_
      refine z_isN dX6_doMove_78 hM.a0 (by omega) (by decide) ?_
      refine z_iincN4 (n := 1) dX6_doMove_79 rfl ?_
      refine z_goto (tgt := 40) dX6_doMove_82 (by decide) ?_
      refine z_iload dX6_doMove_40 rfl ?_
      refine z_bipush (nI 6) dX6_doMove_42 (by decide) ?_
      refine z_icmp_geNN (tgt := 85) dX6_doMove_44 (by decide) (by omega) (by omega) (fun _ => ?_) (fun h44 => absurd h44 (by decide))
      subst hJ
      have hS := set6_ok (a4 := (nI (c1 (sc sh) + 0))) (a5 := (nI (c2 (sc sh) + 0))) hv hk hl (mv sh dx.toInt dy.toInt) rfl rfl rfl rfl (by first | exact cm.1 (by omega) | exact cm.2.1 (by omega)) (by first | exact cm.2.2.1 (by omega) | exact cm.2.2.2 (by omega))
      refine z_aload_n dX6_doMove_85 rfl ?_
      refine z_callV0v dX6_doMove_86 mX6_146 hM.o (m_free _ L hM hS (by show (v.1.set k _).length ≤ 10; rw [List.length_set]; exact hl)) (by decide) (Nat.le_of_ble_eq_true rfl) ⟨Nat.le_refl _, Nat.le_refl _⟩ (fun J5 h5 => ?_)
      exact z_ret dX6_doMove_89 ⟨Nat.le_refl _, Nat.le_refl _⟩ rfl ⟨rfl, rfl, rfl, ⟨h5.1, ((((((stF.rfl (I := I)).zu).zu).zu).zu).zu).zu.trans h5.2⟩, rfl⟩
    · have k5 := h69
      refine z_iload_n dX6_doMove_72 rfl ?_
      refine z_goto (tgt := 77) dX6_doMove_73 (by decide) ?_
      refine z_iadd dX6_doMove_77 ?_
      refine z_isN dX6_doMove_78 hM.a0 (by omega) (by decide) ?_
      refine z_iincN4 (n := 1) dX6_doMove_79 rfl ?_
      refine z_goto (tgt := 40) dX6_doMove_82 (by decide) ?_
      refine z_iload dX6_doMove_40 rfl ?_
      refine z_bipush (nI 6) dX6_doMove_42 (by decide) ?_
      refine z_icmp_geNN (tgt := 85) dX6_doMove_44 (by decide) (by omega) (by omega) (fun _ => ?_) (fun h44 => absurd h44 (by decide))
      subst hJ
      have hS := set6_ok (a4 := (nI (c1 (sc sh) + 0))) (a5 := (nI (c2 (sc sh)) + dx)) hv hk hl (mv sh dx.toInt dy.toInt) rfl rfl rfl rfl (by first | exact cm.1 (by omega) | exact cm.2.1 (by omega)) (by first | exact cm.2.2.1 (by omega) | exact cm.2.2.2 (by omega))
      refine z_aload_n dX6_doMove_85 rfl ?_
      refine z_callV0v dX6_doMove_86 mX6_146 hM.o (m_free _ L hM hS (by show (v.1.set k _).length ≤ 10; rw [List.length_set]; exact hl)) (by decide) (Nat.le_of_ble_eq_true rfl) ⟨Nat.le_refl _, Nat.le_refl _⟩ (fun J5 h5 => ?_)
      exact z_ret dX6_doMove_89 ⟨Nat.le_refl _, Nat.le_refl _⟩ rfl ⟨rfl, rfl, rfl, ⟨h5.1, ((((((stF.rfl (I := I)).zu).zu).zu).zu).zu).zu.trans h5.2⟩, rfl⟩
  · have k4 := h69
    refine z_iload_n dX6_doMove_72 rfl ?_
    refine z_goto (tgt := 77) dX6_doMove_73 (by decide) ?_
    refine z_iadd dX6_doMove_77 ?_
    refine z_isN dX6_doMove_78 hM.a0 (by omega) (by decide) ?_
    refine z_iincN4 (n := 1) dX6_doMove_79 rfl ?_
    refine z_goto (tgt := 40) dX6_doMove_82 (by decide) ?_
    refine z_iload dX6_doMove_40 rfl ?_
    refine z_bipush (nI 6) dX6_doMove_42 (by decide) ?_
    refine z_icmp_geNN (tgt := 85) dX6_doMove_44 (by decide) (by omega) (by omega) (fun h44 => absurd h44 (by decide)) (fun _ => ?_)
    refine z_aload_n dX6_doMove_47 rfl ?_
    refine z_getr dX6_doMove_48 fX6_7 hM.o hM.r0 ?_
    refine z_iconst (nI 1) dX6_doMove_51 (by decide) ?_
    refine z_bipush (nI 6) dX6_doMove_52 (by decide) ?_
    refine z_iload_n dX6_doMove_54 rfl ?_
    refine z_imulN dX6_doMove_55 ?_
    refine z_iaddN dX6_doMove_56 ?_
    refine z_iload dX6_doMove_57 rfl ?_
    refine z_iaddN dX6_doMove_59 ?_
    refine z_dup2 dX6_doMove_60 rfl rfl ?_
    refine z_iaN dX6_doMove_61 hM.a0 (by omega) (by decide) ?_
    refine z_top ((show _ = nI (c2 (sc sh)) from by rw [zu_nk (Or.inr (by omega)), hJ, zu_nk (Or.inr (by omega)), zu_nk (Or.inr (by omega)), zu_nk (Or.inr (by omega)), zu_nk (Or.inr (by omega))]; exact e5)) ?_
    refine z_aload_n dX6_doMove_62 rfl ?_
    refine z_iload_n dX6_doMove_63 rfl ?_
    refine z_iload dX6_doMove_64 rfl ?_
    refine z_callV2p dX6_doMove_66 mX6_45 hM.o (m_part _ L hM k 5 (by omega) (by omega)) (by decide) (Nat.le_of_ble_eq_true rfl) ⟨Nat.le_refl _, Nat.le_refl _⟩ ?_
    refine z_top ((show _ = nI (c2 (sc sh)) from by rw [zu_nk (Or.inr (by omega)), hJ, zu_nk (Or.inr (by omega)), zu_nk (Or.inr (by omega)), zu_nk (Or.inr (by omega)), zu_nk (Or.inr (by omega))]; exact e5)) ?_
    refine z_if_leN (tgt := 76) dX6_doMove_69 (by decide) (by omega) (fun h69 => ?_) (fun h69 => ?_)
    · have k5 := h69
      refine z_iconst (nI 0) dX6_doMove_76 (by decide) ?_
      refine z_iaddN dX6_doMove_77 ?_
      refine z_isN dX6_doMove_78 hM.a0 (by omega) (by decide) ?_
      refine z_iincN4 (n := 1) dX6_doMove_79 rfl ?_
      refine z_goto (tgt := 40) dX6_doMove_82 (by decide) ?_
      refine z_iload dX6_doMove_40 rfl ?_
      refine z_bipush (nI 6) dX6_doMove_42 (by decide) ?_
      refine z_icmp_geNN (tgt := 85) dX6_doMove_44 (by decide) (by omega) (by omega) (fun _ => ?_) (fun h44 => absurd h44 (by decide))
      subst hJ
      have hS := set6_ok (a4 := (nI (c1 (sc sh)) + dx)) (a5 := (nI (c2 (sc sh) + 0))) hv hk hl (mv sh dx.toInt dy.toInt) rfl rfl rfl rfl (by first | exact cm.1 (by omega) | exact cm.2.1 (by omega)) (by first | exact cm.2.2.1 (by omega) | exact cm.2.2.2 (by omega))
      refine z_aload_n dX6_doMove_85 rfl ?_
      refine z_callV0v dX6_doMove_86 mX6_146 hM.o (m_free _ L hM hS (by show (v.1.set k _).length ≤ 10; rw [List.length_set]; exact hl)) (by decide) (Nat.le_of_ble_eq_true rfl) ⟨Nat.le_refl _, Nat.le_refl _⟩ (fun J5 h5 => ?_)
      exact z_ret dX6_doMove_89 ⟨Nat.le_refl _, Nat.le_refl _⟩ rfl ⟨rfl, rfl, rfl, ⟨h5.1, ((((((stF.rfl (I := I)).zu).zu).zu).zu).zu).zu.trans h5.2⟩, rfl⟩
    · have k5 := h69
      refine z_iload_n dX6_doMove_72 rfl ?_
      refine z_goto (tgt := 77) dX6_doMove_73 (by decide) ?_
      refine z_iadd dX6_doMove_77 ?_
      refine z_isN dX6_doMove_78 hM.a0 (by omega) (by decide) ?_
      refine z_iincN4 (n := 1) dX6_doMove_79 rfl ?_
      refine z_goto (tgt := 40) dX6_doMove_82 (by decide) ?_
      refine z_iload dX6_doMove_40 rfl ?_
      refine z_bipush (nI 6) dX6_doMove_42 (by decide) ?_
      refine z_icmp_geNN (tgt := 85) dX6_doMove_44 (by decide) (by omega) (by omega) (fun _ => ?_) (fun h44 => absurd h44 (by decide))
      subst hJ
      have hS := set6_ok (a4 := (nI (c1 (sc sh)) + dx)) (a5 := (nI (c2 (sc sh)) + dx)) hv hk hl (mv sh dx.toInt dy.toInt) rfl rfl rfl rfl (by first | exact cm.1 (by omega) | exact cm.2.1 (by omega)) (by first | exact cm.2.2.1 (by omega) | exact cm.2.2.2 (by omega))
      refine z_aload_n dX6_doMove_85 rfl ?_
      refine z_callV0v dX6_doMove_86 mX6_146 hM.o (m_free _ L hM hS (by show (v.1.set k _).length ≤ 10; rw [List.length_set]; exact hl)) (by decide) (Nat.le_of_ble_eq_true rfl) ⟨Nat.le_refl _, Nat.le_refl _⟩ (fun J5 h5 => ?_)
      exact z_ret dX6_doMove_89 ⟨Nat.le_refl _, Nat.le_refl _⟩ rfl ⟨rfl, rfl, rfl, ⟨h5.1, ((((((stF.rfl (I := I)).zu).zu).zu).zu).zu).zu.trans h5.2⟩, rfl⟩
set_option maxRecDepth 100000 in
set_option maxHeartbeats 4000000 in
theorem m_move {S : zS} {R : zMR} (I : zMI) (L : zML) {s : St} (hM : zMO S R) (hI : zDM I s) (a dx dy : Int32) : zM0 yX6_move cX6_move 4 (some .int) 4 [.ref 96, .int a, .int dx, .int dy] S I L R (zPi L (fun I2 r => r = (oMove s a.toInt dx.toInt dy.toInt).1 ∧ zDM I2 (oMove s a.toInt dx.toInt dy.toInt).2 ∧ ∀ p, p < 96 → I2 p = I p)) := by
  refine zM0_of (own := RX6) (lv := [some (.ref 96), some (.int a), some (.int dx), some (.int dy)]) rfl (by decide) rfl rfl ?_
  obtain ⟨hv, ho, hr⟩ := id hI
  have hl := ho.1
  have hnp := ho.2.2.1
  have h8 := hr.2.1
  refine z_aload_n dX6_move_0 rfl ?_
  refine z_iload_n dX6_move_1 rfl ?_
  refine z_callV1p dX6_move_2 mX6_153 hM.o (m_isShape I L hM hv ho a) (by decide) (Nat.le_of_ble_eq_true rfl) ⟨Nat.le_refl _, Nat.le_refl _⟩ ?_
  refine z_if_neB (tgt := 11) dX6_move_5 (by decide) (fun h5 => ?_) (fun h5 => ?_)
  · obtain ⟨j, sh, rfl, hsh, hja, hg⟩ := has_nat hl h5
    have hj := getS_lt hsh
    refine z_iload_n dX6_move_11 rfl ?_
    refine z_iload_n dX6_move_12 rfl ?_
    refine z_callS2p dX6_move_13 mX6_159 (m_areSteps I L dx dy) (by decide) (Nat.le_of_ble_eq_true rfl) ⟨Nat.le_refl _, Nat.le_refl _⟩ ?_
    refine z_if_neB (tgt := 22) dX6_move_16 (by decide) (fun h16 => ?_) (fun h16 => ?_)
    · refine z_aload_n dX6_move_22 rfl ?_
      refine z_iload_n dX6_move_23 rfl ?_
      refine z_iload_n dX6_move_24 rfl ?_
      refine z_iload_n dX6_move_25 rfl ?_
      refine z_callV3p dX6_move_26 mX6_162 hM.o (m_mayMove I L hM hv ho j hsh dx dy h16) (by decide) (Nat.le_of_ble_eq_true rfl) ⟨Nat.le_refl _, Nat.le_refl _⟩ ?_
      refine z_if_neB (tgt := 35) dX6_move_29 (by decide) (fun h29 => ?_) (fun h29 => ?_)
      · have hcs := id h29
        unfold canStep at hcs
        rw [hg] at hcs
        have hok := ho.move hsh hcs.1 hcs.2
        have hF := hcs.1
        unfold onF at hF
        refine z_aload_n dX6_move_35 rfl ?_
        refine z_callV0v dX6_move_36 mX6_143 hM.o (m_note I L hM hv ho hr) (by decide) (Nat.le_of_ble_eq_true rfl) ⟨Nat.le_refl _, Nat.le_refl _⟩ (fun J1 h1 => ?_)
        have hv1 : zMb (J1 97) 0 s.1 := by rw [h1.2.1]; exact hv
        refine z_aload_n dX6_move_39 rfl ?_
        refine z_iload_n dX6_move_40 rfl ?_
        refine z_iload_n dX6_move_41 rfl ?_
        refine z_iload_n dX6_move_42 rfl ?_
        refine z_callV3v dX6_move_43 mX6_166 hM.o (m_doMove J1 L hM hv1 ho j hsh dx dy (by omega) (by omega)) (by decide) (Nat.le_of_ble_eq_true rfl) ⟨Nat.le_refl _, Nat.le_refl _⟩ (fun J2 h2 => ?_)
        have hs2 : (lyZ (lyS s.1 (s.1.1.set j (mv sh dx.toInt dy.toInt)))).1[j]? = some (mv sh dx.toInt dy.toInt) := by show (s.1.1.set j _)[j]? = _; rw [List.getElem?_set, if_pos rfl, if_pos hj]
        refine z_aload_n dX6_move_46 rfl ?_
        refine z_iload_n dX6_move_47 rfl ?_
        refine z_callV1p dX6_move_48 mX6_169 hM.o (m_shapeArea J2 L hM h2.1 hok j hs2) (by decide) (Nat.le_of_ble_eq_true rfl) ⟨Nat.le_refl _, Nat.le_refl _⟩ ?_
        have e9 : rStep s.1.1 (nI j).toInt dx.toInt dy.toInt = 0 := by rw [rStep, zif_t h5, zif_t h16, hja, zif_t h29]
        exact z_iret dX6_move_51 ⟨Nat.le_refl _, Nat.le_refl _⟩ rfl ⟨rfl, rfl, rfl, _, ⟨by rw [oMove, pif_t e9, hja, hg], by rw [oMove, pif_t e9, hja]; unfold shMv; rw [hg]; exact ⟨h2.1, hok, h1.1.st h2.2⟩, fun p hp => by rw [h2.2 p (by omega), h1.2.2 p (by omega) (by omega)]⟩, rfl⟩
      · refine z_ldc dX6_move_32 kX6_137 ?_
        have e9 : rStep s.1.1 (nI j).toInt dx.toInt dy.toInt = kNOT := by rw [rStep, zif_t h5, zif_t h16, hja, zif_f h29]
        exact z_iret dX6_move_34 ⟨Nat.le_refl _, Nat.le_refl _⟩ rfl ⟨rfl, rfl, rfl, _, ⟨by rw [oMove, pif_f (by rw [e9]; decide), e9], by rw [oMove, pif_f (by rw [e9]; decide)]; exact hI, fun p _ => rfl⟩, rfl⟩
    · refine z_ldc dX6_move_19 kX6_132 ?_
      have e9 : rStep s.1.1 (nI j).toInt dx.toInt dy.toInt = kOUT := by rw [rStep, zif_t h5, zif_f h16]
      exact z_iret dX6_move_21 ⟨Nat.le_refl _, Nat.le_refl _⟩ rfl ⟨rfl, rfl, rfl, _, ⟨by rw [oMove, pif_f (by rw [e9]; decide), e9], by rw [oMove, pif_f (by rw [e9]; decide)]; exact hI, fun p _ => rfl⟩, rfl⟩
  · refine z_ldc dX6_move_8 kX6_156 ?_
    have e9 : rStep s.1.1 a.toInt dx.toInt dy.toInt = kUNK := by rw [rStep, zif_f h5]
    exact z_iret dX6_move_10 ⟨Nat.le_refl _, Nat.le_refl _⟩ rfl ⟨rfl, rfl, rfl, _, ⟨by rw [oMove, pif_f (by rw [e9]; decide), e9], by rw [oMove, pif_f (by rw [e9]; decide)]; exact hI, fun p _ => rfl⟩, rfl⟩
set_option maxRecDepth 100000 in
set_option maxHeartbeats 4000000 in
theorem m_mayCut {S : zS} {R : zMR} (I : zMI) (L : zML) {v : Ly} (hM : zMO S R) (hv : zMb (I 97) 0 v) (ho : lyOk v) (k : Nat) {sh : Sh} (hsh : v.1[k]? = some sh) (x : Nat) (hx : x < 15) : zM0 yX6_mayCut cX6_mayCut 3 (some .boolean) 2 [.ref 96, .int (nI k), .int (nI x)] S I L R (zPure I L (zb (canCut v.1 k x))) := by
  refine zM0_of (own := RX6) (lv := [some (.ref 96), some (.int (nI k)), some (.int (nI x))]) rfl (by decide) rfl rfl ?_
  have hl := ho.1
  have hk := getS_lt hsh
  obtain ⟨o1, o2, o3, o4, o5⟩ := id (ho.sh hsh)
  obtain ⟨e0, e1, e2, e3, e4, e5⟩ := mSh0 (hv.2.1 k sh hsh)
  have hg := gt_nat hsh
  obtain ⟨b1, b2⟩ := c1_le o5 o2
  have b3 := cOk_len o5
  refine z_iload_n dX6_mayCut_0 rfl ?_
  refine z_aload_n dX6_mayCut_1 rfl ?_
  refine z_iload_n dX6_mayCut_2 rfl ?_
  refine z_iconst (nI 0) dX6_mayCut_3 (by decide) ?_
  refine z_callV2p dX6_mayCut_4 mX6_45 hM.o (m_part I L hM k 0 (by omega) (by omega)) (by decide) (Nat.le_of_ble_eq_true rfl) ⟨Nat.le_refl _, Nat.le_refl _⟩ ?_
  refine z_top (e0) ?_
  refine z_icmp_ltNN (tgt := 57) dX6_mayCut_7 (by decide) (by omega) (by omega) (fun h7 => ?_) (fun h7 => ?_)
  · refine z_iconst (nI 0) dX6_mayCut_57 (by decide) ?_
    exact z_iret dX6_mayCut_58 ⟨Nat.le_refl _, Nat.le_refl _⟩ (by first | exact zb_nar _ | rfl) ⟨rfl, rfl, rfl, rfl, congrArg (fun z => some (Value.int z)) (by first | exact zb_1 (by unfold canCut; rw [hg, Int.toNat_natCast, c_mem o5 x]; omega) | exact zb_0 (by unfold canCut; rw [hg, Int.toNat_natCast, c_mem o5 x]; omega) | exact zb_c (by unfold canCut; rw [hg, Int.toNat_natCast, c_mem o5 x]; omega))⟩
  · refine z_iload_n dX6_mayCut_10 rfl ?_
    refine z_aload_n dX6_mayCut_11 rfl ?_
    refine z_iload_n dX6_mayCut_12 rfl ?_
    refine z_iconst (nI 2) dX6_mayCut_13 (by decide) ?_
    refine z_callV2p dX6_mayCut_14 mX6_45 hM.o (m_part I L hM k 2 (by omega) (by omega)) (by decide) (Nat.le_of_ble_eq_true rfl) ⟨Nat.le_refl _, Nat.le_refl _⟩ ?_
    refine z_top (e2) ?_
    refine z_icmp_geNN (tgt := 57) dX6_mayCut_17 (by decide) (by omega) (by omega) (fun h17 => ?_) (fun h17 => ?_)
    · refine z_iconst (nI 0) dX6_mayCut_57 (by decide) ?_
      exact z_iret dX6_mayCut_58 ⟨Nat.le_refl _, Nat.le_refl _⟩ (by first | exact zb_nar _ | rfl) ⟨rfl, rfl, rfl, rfl, congrArg (fun z => some (Value.int z)) (by first | exact zb_1 (by unfold canCut; rw [hg, Int.toNat_natCast, c_mem o5 x]; omega) | exact zb_0 (by unfold canCut; rw [hg, Int.toNat_natCast, c_mem o5 x]; omega) | exact zb_c (by unfold canCut; rw [hg, Int.toNat_natCast, c_mem o5 x]; omega))⟩
    · refine z_aload_n dX6_mayCut_20 rfl ?_
      refine z_iload_n dX6_mayCut_21 rfl ?_
      refine z_iconst (nI 4) dX6_mayCut_22 (by decide) ?_
      refine z_callV2p dX6_mayCut_23 mX6_45 hM.o (m_part I L hM k 4 (by omega) (by omega)) (by decide) (Nat.le_of_ble_eq_true rfl) ⟨Nat.le_refl _, Nat.le_refl _⟩ ?_
      refine z_top (e4) ?_
      refine z_iload_n dX6_mayCut_26 rfl ?_
      refine z_iconst (nI 1) dX6_mayCut_27 (by decide) ?_
      refine z_iaddN dX6_mayCut_28 ?_
      refine z_icmp_eqNN (tgt := 57) dX6_mayCut_29 (by decide) (by omega) (by omega) (fun h29 => ?_) (fun h29 => ?_)
      · refine z_iconst (nI 0) dX6_mayCut_57 (by decide) ?_
        exact z_iret dX6_mayCut_58 ⟨Nat.le_refl _, Nat.le_refl _⟩ (by first | exact zb_nar _ | rfl) ⟨rfl, rfl, rfl, rfl, congrArg (fun z => some (Value.int z)) (by first | exact zb_1 (by unfold canCut; rw [hg, Int.toNat_natCast, c_mem o5 x]; omega) | exact zb_0 (by unfold canCut; rw [hg, Int.toNat_natCast, c_mem o5 x]; omega) | exact zb_c (by unfold canCut; rw [hg, Int.toNat_natCast, c_mem o5 x]; omega))⟩
      · refine z_aload_n dX6_mayCut_32 rfl ?_
        refine z_iload_n dX6_mayCut_33 rfl ?_
        refine z_iconst (nI 5) dX6_mayCut_34 (by decide) ?_
        refine z_callV2p dX6_mayCut_35 mX6_45 hM.o (m_part I L hM k 5 (by omega) (by omega)) (by decide) (Nat.le_of_ble_eq_true rfl) ⟨Nat.le_refl _, Nat.le_refl _⟩ ?_
        refine z_top (e5) ?_
        refine z_iload_n dX6_mayCut_38 rfl ?_
        refine z_iconst (nI 1) dX6_mayCut_39 (by decide) ?_
        refine z_iaddN dX6_mayCut_40 ?_
        refine z_icmp_eqNN (tgt := 57) dX6_mayCut_41 (by decide) (by omega) (by omega) (fun h41 => ?_) (fun h41 => ?_)
        · refine z_iconst (nI 0) dX6_mayCut_57 (by decide) ?_
          exact z_iret dX6_mayCut_58 ⟨Nat.le_refl _, Nat.le_refl _⟩ (by first | exact zb_nar _ | rfl) ⟨rfl, rfl, rfl, rfl, congrArg (fun z => some (Value.int z)) (by first | exact zb_1 (by unfold canCut; rw [hg, Int.toNat_natCast, c_mem o5 x]; omega) | exact zb_0 (by unfold canCut; rw [hg, Int.toNat_natCast, c_mem o5 x]; omega) | exact zb_c (by unfold canCut; rw [hg, Int.toNat_natCast, c_mem o5 x]; omega))⟩
        · refine z_aload_n dX6_mayCut_44 rfl ?_
          refine z_iload_n dX6_mayCut_45 rfl ?_
          refine z_callV1p dX6_mayCut_46 mX6_64 hM.o (m_cutsOf I L hM hv ho k hsh) (by decide) (Nat.le_of_ble_eq_true rfl) ⟨Nat.le_refl _, Nat.le_refl _⟩ ?_
          refine z_iconst (nI 2) dX6_mayCut_49 (by decide) ?_
          refine z_icmp_geNN (tgt := 57) dX6_mayCut_50 (by decide) (by omega) (by omega) (fun h50 => ?_) (fun h50 => ?_)
          · refine z_iconst (nI 0) dX6_mayCut_57 (by decide) ?_
            exact z_iret dX6_mayCut_58 ⟨Nat.le_refl _, Nat.le_refl _⟩ (by first | exact zb_nar _ | rfl) ⟨rfl, rfl, rfl, rfl, congrArg (fun z => some (Value.int z)) (by first | exact zb_1 (by unfold canCut; rw [hg, Int.toNat_natCast, c_mem o5 x]; omega) | exact zb_0 (by unfold canCut; rw [hg, Int.toNat_natCast, c_mem o5 x]; omega) | exact zb_c (by unfold canCut; rw [hg, Int.toNat_natCast, c_mem o5 x]; omega))⟩
          · refine z_iconst (nI 1) dX6_mayCut_53 (by decide) ?_
            refine z_goto (tgt := 58) dX6_mayCut_54 (by decide) ?_
            exact z_iret dX6_mayCut_58 ⟨Nat.le_refl _, Nat.le_refl _⟩ (by first | exact zb_nar _ | rfl) ⟨rfl, rfl, rfl, rfl, congrArg (fun z => some (Value.int z)) (by first | exact zb_1 (by unfold canCut; rw [hg, Int.toNat_natCast, c_mem o5 x]; omega) | exact zb_0 (by unfold canCut; rw [hg, Int.toNat_natCast, c_mem o5 x]; omega) | exact zb_c (by unfold canCut; rw [hg, Int.toNat_natCast, c_mem o5 x]; omega))⟩
set_option maxRecDepth 100000 in
set_option maxHeartbeats 4000000 in
theorem m_doCut {S : zS} {R : zMR} (I : zMI) (L : zML) {v : Ly} (hM : zMO S R) (hv : zMb (I 97) 0 v) (ho : lyOk v) (k : Nat) {sh : Sh} (hsh : v.1[k]? = some sh) (z : Nat) (hz15 : z < 15) (hz : z ∉ sc sh) (hn : (sc sh).length < 2) : zM0 yX6_doCut cX6_doCut 4 none 1 [.ref 96, .int (nI k), .int (nI z)] S I L R (zPv L (fun J => zMb (J 97) 0 (lyZ (lyS v (v.1.set k (shC sh (insC z (sc sh)))))) ∧ stF I J)) := by
  refine zM0_of (own := RX6) (lv := [some (.ref 96), some (.int (nI k)), some (.int (nI z)), none]) rfl (by decide) rfl rfl ?_
  have hl := ho.1
  have hk := getS_lt hsh
  obtain ⟨o1, o2, o3, o4, o5⟩ := id (ho.sh hsh)
  obtain ⟨e0, e1, e2, e3, e4, e5⟩ := mSh0 (hv.2.1 k sh hsh)
  obtain ⟨b1, b2⟩ := c1_le o5 o2
  have ci := c_ins (z := z) o5 hz hn
  refine z_iconst (nI 1) dX6_doCut_0 (by decide) ?_
  refine z_bipush (nI 6) dX6_doCut_1 (by decide) ?_
  refine z_iload_n dX6_doCut_3 rfl ?_
  refine z_imulN dX6_doCut_4 ?_
  refine z_iaddN dX6_doCut_5 ?_
  refine z_iconst (nI 4) dX6_doCut_6 (by decide) ?_
  refine z_iaddN dX6_doCut_7 ?_
  refine z_ist3 dX6_doCut_8 rfl ?_
  refine z_aload_n dX6_doCut_9 rfl ?_
  refine z_getr dX6_doCut_10 fX6_7 hM.o hM.r0 ?_
  refine z_iload_n dX6_doCut_13 rfl ?_
  refine z_iaN dX6_doCut_14 hM.a0 (by omega) (by decide) ?_
  refine z_top (e4) ?_
  refine z_if_neN (tgt := 30) dX6_doCut_15 (by decide) (by omega) (fun h15 => ?_) (fun h15 => ?_)
  · have g0 := h15
    refine z_aload_n dX6_doCut_30 rfl ?_
    refine z_getr dX6_doCut_31 fX6_7 hM.o hM.r0 ?_
    refine z_iload_n dX6_doCut_34 rfl ?_
    refine z_iconst (nI 1) dX6_doCut_35 (by decide) ?_
    refine z_iaddN dX6_doCut_36 ?_
    refine z_iload_n dX6_doCut_37 rfl ?_
    refine z_iconst (nI 1) dX6_doCut_38 (by decide) ?_
    refine z_iaddN dX6_doCut_39 ?_
    refine z_aload_n dX6_doCut_40 rfl ?_
    refine z_getr dX6_doCut_41 fX6_7 hM.o hM.r0 ?_
    refine z_iload_n dX6_doCut_44 rfl ?_
    refine z_iaN dX6_doCut_45 hM.a0 (by omega) (by decide) ?_
    refine z_top (e4) ?_
    refine z_icmp_geNN (tgt := 58) dX6_doCut_46 (by decide) (by omega) (by omega) (fun h46 => ?_) (fun h46 => ?_)
    · have g1 := h46
      refine z_iload_n dX6_doCut_58 rfl ?_
      refine z_iconst (nI 1) dX6_doCut_59 (by decide) ?_
      refine z_iaddN dX6_doCut_60 ?_
      refine z_isN dX6_doCut_61 hM.a0 (by omega) (by decide) ?_
      refine z_aload_n dX6_doCut_62 rfl ?_
      refine z_getr dX6_doCut_63 fX6_7 hM.o hM.r0 ?_
      refine z_iload_n dX6_doCut_66 rfl ?_
      refine z_iload_n dX6_doCut_67 rfl ?_
      refine z_iconst (nI 1) dX6_doCut_68 (by decide) ?_
      refine z_iaddN dX6_doCut_69 ?_
      refine z_aload_n dX6_doCut_70 rfl ?_
      refine z_getr dX6_doCut_71 fX6_7 hM.o hM.r0 ?_
      refine z_iload_n dX6_doCut_74 rfl ?_
      refine z_iaN dX6_doCut_75 hM.a0 (by omega) (by decide) ?_
      refine z_top ((show _ = nI (c1 (sc sh)) from by rw [zu_nk (Or.inr (by omega))]; exact e4)) ?_
      refine z_icmp_geNN (tgt := 85) dX6_doCut_76 (by decide) (by omega) (by omega) (fun h76 => ?_) (fun h76 => ?_)
      · have g2 := h76
        refine z_aload_n dX6_doCut_85 rfl ?_
        refine z_getr dX6_doCut_86 fX6_7 hM.o hM.r0 ?_
        refine z_iload_n dX6_doCut_89 rfl ?_
        refine z_iaN dX6_doCut_90 hM.a0 (by omega) (by decide) ?_
        refine z_top ((show _ = nI (c1 (sc sh)) from by rw [zu_nk (Or.inr (by omega))]; exact e4)) ?_
        refine z_isN dX6_doCut_91 hM.a0 (by omega) (by decide) ?_
        have hS := set2_ok (J := (zu (zu I 97 (1 + 6 * k + 4 + 1) (nI (z + 1))) 97 (1 + 6 * k + 4) (nI (c1 (sc sh))))) hv hsh hl (insC z (sc sh)) (by rw [zu_same, ((ci.2 (by omega)).2 (by omega)).1]) (by rw [zu_nk (Or.inr (by omega)), ((ci.2 (by omega)).2 (by omega)).2]; exact zu_same) (fun x q1 q2 => by rw [zu_nk (Or.inr q1), zu_nk (Or.inr q2)])
        refine z_aload_n dX6_doCut_92 rfl ?_
        refine z_callV0v dX6_doCut_93 mX6_146 hM.o (m_free _ L hM hS (by show (v.1.set k _).length ≤ 10; rw [List.length_set]; exact hl)) (by decide) (Nat.le_of_ble_eq_true rfl) ⟨Nat.le_refl _, Nat.le_refl _⟩ (fun J5 h5 => ?_)
        exact z_ret dX6_doCut_96 ⟨Nat.le_refl _, Nat.le_refl _⟩ rfl ⟨rfl, rfl, rfl, ⟨h5.1, fun q hq => by rw [h5.2 q hq]; first | rw [zu_ne hq, zu_ne hq] | rw [zu_ne hq]⟩, rfl⟩
      · have g2 := h76
        refine z_iload_n dX6_doCut_79 rfl ?_
        refine z_iconst (nI 1) dX6_doCut_80 (by decide) ?_
        refine z_iaddN dX6_doCut_81 ?_
        refine z_goto (tgt := 91) dX6_doCut_82 (by decide) ?_
        refine z_isN dX6_doCut_91 hM.a0 (by omega) (by decide) ?_
        exfalso
        omega
    · have g1 := h46
      refine z_aload_n dX6_doCut_49 rfl ?_
      refine z_getr dX6_doCut_50 fX6_7 hM.o hM.r0 ?_
      refine z_iload_n dX6_doCut_53 rfl ?_
      refine z_iaN dX6_doCut_54 hM.a0 (by omega) (by decide) ?_
      refine z_top (e4) ?_
      refine z_goto (tgt := 61) dX6_doCut_55 (by decide) ?_
      refine z_isN dX6_doCut_61 hM.a0 (by omega) (by decide) ?_
      refine z_aload_n dX6_doCut_62 rfl ?_
      refine z_getr dX6_doCut_63 fX6_7 hM.o hM.r0 ?_
      refine z_iload_n dX6_doCut_66 rfl ?_
      refine z_iload_n dX6_doCut_67 rfl ?_
      refine z_iconst (nI 1) dX6_doCut_68 (by decide) ?_
      refine z_iaddN dX6_doCut_69 ?_
      refine z_aload_n dX6_doCut_70 rfl ?_
      refine z_getr dX6_doCut_71 fX6_7 hM.o hM.r0 ?_
      refine z_iload_n dX6_doCut_74 rfl ?_
      refine z_iaN dX6_doCut_75 hM.a0 (by omega) (by decide) ?_
      refine z_top ((show _ = nI (c1 (sc sh)) from by rw [zu_nk (Or.inr (by omega))]; exact e4)) ?_
      refine z_icmp_geNN (tgt := 85) dX6_doCut_76 (by decide) (by omega) (by omega) (fun h76 => ?_) (fun h76 => ?_)
      · have g2 := h76
        refine z_aload_n dX6_doCut_85 rfl ?_
        refine z_getr dX6_doCut_86 fX6_7 hM.o hM.r0 ?_
        refine z_iload_n dX6_doCut_89 rfl ?_
        refine z_iaN dX6_doCut_90 hM.a0 (by omega) (by decide) ?_
        refine z_top ((show _ = nI (c1 (sc sh)) from by rw [zu_nk (Or.inr (by omega))]; exact e4)) ?_
        refine z_isN dX6_doCut_91 hM.a0 (by omega) (by decide) ?_
        exfalso
        omega
      · have g2 := h76
        refine z_iload_n dX6_doCut_79 rfl ?_
        refine z_iconst (nI 1) dX6_doCut_80 (by decide) ?_
        refine z_iaddN dX6_doCut_81 ?_
        refine z_goto (tgt := 91) dX6_doCut_82 (by decide) ?_
        refine z_isN dX6_doCut_91 hM.a0 (by omega) (by decide) ?_
        have hS := set2_ok (J := (zu (zu I 97 (1 + 6 * k + 4 + 1) (nI (c1 (sc sh)))) 97 (1 + 6 * k + 4) (nI (z + 1)))) hv hsh hl (insC z (sc sh)) (by rw [zu_same, ((ci.2 (by omega)).1 (by omega)).1]) (by rw [zu_nk (Or.inr (by omega)), ((ci.2 (by omega)).1 (by omega)).2]; exact zu_same) (fun x q1 q2 => by rw [zu_nk (Or.inr q1), zu_nk (Or.inr q2)])
        refine z_aload_n dX6_doCut_92 rfl ?_
        refine z_callV0v dX6_doCut_93 mX6_146 hM.o (m_free _ L hM hS (by show (v.1.set k _).length ≤ 10; rw [List.length_set]; exact hl)) (by decide) (Nat.le_of_ble_eq_true rfl) ⟨Nat.le_refl _, Nat.le_refl _⟩ (fun J5 h5 => ?_)
        exact z_ret dX6_doCut_96 ⟨Nat.le_refl _, Nat.le_refl _⟩ rfl ⟨rfl, rfl, rfl, ⟨h5.1, fun q hq => by rw [h5.2 q hq]; first | rw [zu_ne hq, zu_ne hq] | rw [zu_ne hq]⟩, rfl⟩
  · have g0 := h15
    refine z_aload_n dX6_doCut_18 rfl ?_
    refine z_getr dX6_doCut_19 fX6_7 hM.o hM.r0 ?_
    refine z_iload_n dX6_doCut_22 rfl ?_
    refine z_iload_n dX6_doCut_23 rfl ?_
    refine z_iconst (nI 1) dX6_doCut_24 (by decide) ?_
    refine z_iaddN dX6_doCut_25 ?_
    refine z_isN dX6_doCut_26 hM.a0 (by omega) (by decide) ?_
    refine z_goto (tgt := 92) dX6_doCut_27 (by decide) ?_
    have hS := set2_ok (J := (zu I 97 (1 + 6 * k + 4) (nI (z + 1)))) hv hsh hl (insC z (sc sh)) (by rw [zu_same, (ci.1 (by omega)).1]) (by rw [zu_nk (Or.inr (by omega)), (ci.1 (by omega)).2]; exact e5) (fun x q1 q2 => by rw [zu_nk (Or.inr q1)])
    refine z_aload_n dX6_doCut_92 rfl ?_
    refine z_callV0v dX6_doCut_93 mX6_146 hM.o (m_free _ L hM hS (by show (v.1.set k _).length ≤ 10; rw [List.length_set]; exact hl)) (by decide) (Nat.le_of_ble_eq_true rfl) ⟨Nat.le_refl _, Nat.le_refl _⟩ (fun J5 h5 => ?_)
    exact z_ret dX6_doCut_96 ⟨Nat.le_refl _, Nat.le_refl _⟩ rfl ⟨rfl, rfl, rfl, ⟨h5.1, fun q hq => by rw [h5.2 q hq]; first | rw [zu_ne hq, zu_ne hq] | rw [zu_ne hq]⟩, rfl⟩
set_option maxRecDepth 100000 in
set_option maxHeartbeats 4000000 in
theorem m_cut {S : zS} {R : zMR} (I : zMI) (L : zML) {s : St} (hM : zMO S R) (hI : zDM I s) (a z : Int32) : zM0 yX6_cut cX6_cut 3 (some .int) 4 [.ref 96, .int a, .int z] S I L R (zPi L (fun I2 r => r = (oCut s a.toInt z.toInt).1 ∧ zDM I2 (oCut s a.toInt z.toInt).2 ∧ ∀ p, p < 96 → I2 p = I p)) := by
  refine zM0_of (own := RX6) (lv := [some (.ref 96), some (.int a), some (.int z)]) rfl (by decide) rfl rfl ?_
  obtain ⟨hv, ho, hr⟩ := id hI
  have hl := ho.1
  have hnp := ho.2.2.1
  have h8 := hr.2.1
  refine z_aload_n dX6_cut_0 rfl ?_
  refine z_iload_n dX6_cut_1 rfl ?_
  refine z_callV1p dX6_cut_2 mX6_153 hM.o (m_isShape I L hM hv ho a) (by decide) (Nat.le_of_ble_eq_true rfl) ⟨Nat.le_refl _, Nat.le_refl _⟩ ?_
  refine z_if_neB (tgt := 11) dX6_cut_5 (by decide) (fun h5 => ?_) (fun h5 => ?_)
  · obtain ⟨j, sh, rfl, hsh, hja, hg⟩ := has_nat hl h5
    have hj := getS_lt hsh
    refine z_iload_n dX6_cut_11 rfl ?_
    refine z_i2l dX6_cut_12 ?_
    refine z_lconst 0 dX6_cut_13 (by decide) ?_
    refine z_ldc2 dX6_cut_14 kX6_172 ?_
    refine z_callS3p dX6_cut_17 mX6_41 (m_in I L (l_i z) (l := 0) (by decide) (h := 14) (by decide)) (by decide) (Nat.le_of_ble_eq_true rfl) ⟨Nat.le_refl _, Nat.le_refl _⟩ ?_
    refine z_if_neB (tgt := 26) dX6_cut_20 (by decide) (fun h20 => ?_) (fun h20 => ?_)
    · obtain ⟨x, hx1, rfl⟩ := nI_of3 (x := z) (n := 15) h20.1 (by omega) (by omega)
      have hxa : (nI x).toInt = (x : Int) := nI_T (by omega)
      rw [hxa] at h20
      refine z_aload_n dX6_cut_26 rfl ?_
      refine z_iload_n dX6_cut_27 rfl ?_
      refine z_iload_n dX6_cut_28 rfl ?_
      refine z_callV2p dX6_cut_29 mX6_174 hM.o (m_mayCut I L hM hv ho j hsh x hx1) (by decide) (Nat.le_of_ble_eq_true rfl) ⟨Nat.le_refl _, Nat.le_refl _⟩ ?_
      refine z_if_neB (tgt := 38) dX6_cut_32 (by decide) (fun h32 => ?_) (fun h32 => ?_)
      · have hcc := id h32
        unfold canCut at hcc
        rw [hg, Int.toNat_natCast] at hcc
        refine z_aload_n dX6_cut_38 rfl ?_
        refine z_callV0p dX6_cut_39 mX6_121 hM.o (m_manyPieces I L hM hv ho) (by decide) (Nat.le_of_ble_eq_true rfl) ⟨Nat.le_refl _, Nat.le_refl _⟩ ?_
        refine z_bipush (nI 14) dX6_cut_42 (by decide) ?_
        refine z_icmp_neNN (tgt := 50) dX6_cut_44 (by decide) (by omega) (by omega) (fun h44 => ?_) (fun h44 => ?_)
        · refine z_aload_n dX6_cut_50 rfl ?_
          refine z_callV0v dX6_cut_51 mX6_143 hM.o (m_note I L hM hv ho hr) (by decide) (Nat.le_of_ble_eq_true rfl) ⟨Nat.le_refl _, Nat.le_refl _⟩ (fun J1 h1 => ?_)
          have hv1 : zMb (J1 97) 0 s.1 := by rw [h1.2.1]; exact hv
          have hok := cut_len ho hsh (show sx sh ≤ x from by omega) (by omega) hcc.2.2.1 hcc.2.2.2 (by omega)
          refine z_aload_n dX6_cut_54 rfl ?_
          refine z_iload_n dX6_cut_55 rfl ?_
          refine z_iload_n dX6_cut_56 rfl ?_
          refine z_callV2v dX6_cut_57 mX6_177 hM.o (m_doCut J1 L hM hv1 ho j hsh x hx1 hcc.2.2.1 hcc.2.2.2) (by decide) (Nat.le_of_ble_eq_true rfl) ⟨Nat.le_refl _, Nat.le_refl _⟩ (fun J2 h2 => ?_)
          refine z_aload_n dX6_cut_60 rfl ?_
          refine z_callV0p dX6_cut_61 mX6_121 hM.o (m_manyPieces J2 L hM h2.1 hok) (by decide) (Nat.le_of_ble_eq_true rfl) ⟨Nat.le_refl _, Nat.le_refl _⟩ ?_
          have e9 : rCut s.1.1 (nI j).toInt (nI x).toInt = 0 := by rw [hxa, rCut, zif_t h5, zif_t h20, hja, zif_t h32, zif_f (by omega)]
          exact z_iret dX6_cut_64 ⟨Nat.le_refl _, Nat.le_refl _⟩ rfl ⟨rfl, rfl, rfl, _, ⟨by rw [oCut, pif_t e9]; unfold shCt; rw [hja, hxa, hg]; rfl, by rw [oCut, pif_t e9]; unfold shCt; rw [hja, hxa, hg]; exact ⟨h2.1, hok, h1.1.st h2.2⟩, fun p hp => by rw [h2.2 p (by omega), h1.2.2 p (by omega) (by omega)]⟩, rfl⟩
        · refine z_ldc dX6_cut_47 kX6_142 ?_
          have e9 : rCut s.1.1 (nI j).toInt (nI x).toInt = kFUL := by rw [hxa, rCut, zif_t h5, zif_t h20, hja, zif_t h32, zif_t (by omega)]
          exact z_iret dX6_cut_49 ⟨Nat.le_refl _, Nat.le_refl _⟩ rfl ⟨rfl, rfl, rfl, _, ⟨by rw [oCut, pif_f (by rw [e9]; decide), e9], by rw [oCut, pif_f (by rw [e9]; decide)]; exact hI, fun p _ => rfl⟩, rfl⟩
      · refine z_ldc dX6_cut_35 kX6_137 ?_
        have e9 : rCut s.1.1 (nI j).toInt (nI x).toInt = kNOT := by rw [hxa, rCut, zif_t h5, zif_t h20, hja, zif_f h32]
        exact z_iret dX6_cut_37 ⟨Nat.le_refl _, Nat.le_refl _⟩ rfl ⟨rfl, rfl, rfl, _, ⟨by rw [oCut, pif_f (by rw [e9]; decide), e9], by rw [oCut, pif_f (by rw [e9]; decide)]; exact hI, fun p _ => rfl⟩, rfl⟩
    · refine z_ldc dX6_cut_23 kX6_132 ?_
      have e9 : rCut s.1.1 (nI j).toInt z.toInt = kOUT := by rw [rCut, zif_t h5, zif_f h20]
      exact z_iret dX6_cut_25 ⟨Nat.le_refl _, Nat.le_refl _⟩ rfl ⟨rfl, rfl, rfl, _, ⟨by rw [oCut, pif_f (by rw [e9]; decide), e9], by rw [oCut, pif_f (by rw [e9]; decide)]; exact hI, fun p _ => rfl⟩, rfl⟩
  · refine z_ldc dX6_cut_8 kX6_156 ?_
    have e9 : rCut s.1.1 a.toInt z.toInt = kUNK := by rw [rCut, zif_f h5]
    exact z_iret dX6_cut_10 ⟨Nat.le_refl _, Nat.le_refl _⟩ rfl ⟨rfl, rfl, rfl, _, ⟨by rw [oCut, pif_f (by rw [e9]; decide), e9], by rw [oCut, pif_f (by rw [e9]; decide)]; exact hI, fun p _ => rfl⟩, rfl⟩
set_option maxRecDepth 100000 in
set_option maxHeartbeats 4000000 in
theorem m_heal {S : zS} {R : zMR} (I : zMI) (L : zML) {s : St} (hM : zMO S R) (hI : zDM I s) (a z : Int32) : zM0 yX6_heal cX6_heal 4 (some .int) 4 [.ref 96, .int a, .int z] S I L R (zPi L (fun I2 r => r = (oHeal s a.toInt z.toInt).1 ∧ zDM I2 (oHeal s a.toInt z.toInt).2 ∧ ∀ p, p < 96 → I2 p = I p)) := by
  refine zM0_of (own := RX6) (lv := [some (.ref 96), some (.int a), some (.int z), none]) rfl (by decide) rfl rfl ?_
  obtain ⟨hv, ho, hr⟩ := id hI
  have hl := ho.1
  have hnp := ho.2.2.1
  have h8 := hr.2.1
  refine z_aload_n dX6_heal_0 rfl ?_
  refine z_iload_n dX6_heal_1 rfl ?_
  refine z_callV1p dX6_heal_2 mX6_153 hM.o (m_isShape I L hM hv ho a) (by decide) (Nat.le_of_ble_eq_true rfl) ⟨Nat.le_refl _, Nat.le_refl _⟩ ?_
  refine z_if_neB (tgt := 11) dX6_heal_5 (by decide) (fun h5 => ?_) (fun h5 => ?_)
  · obtain ⟨j, sh, rfl, hsh, hja, hg⟩ := has_nat hl h5
    have hj := getS_lt hsh
    obtain ⟨o1, o2, o3, o4, o5⟩ := id (ho.sh hsh)
    obtain ⟨e0, e1, e2, e3, e4, e5⟩ := mSh0 (hv.2.1 j sh hsh)
    obtain ⟨b1, b2⟩ := c1_le o5 o2
    refine z_iload_n dX6_heal_11 rfl ?_
    refine z_i2l dX6_heal_12 ?_
    refine z_lconst 0 dX6_heal_13 (by decide) ?_
    refine z_ldc2 dX6_heal_14 kX6_172 ?_
    refine z_callS3p dX6_heal_17 mX6_41 (m_in I L (l_i z) (l := 0) (by decide) (h := 14) (by decide)) (by decide) (Nat.le_of_ble_eq_true rfl) ⟨Nat.le_refl _, Nat.le_refl _⟩ ?_
    refine z_if_neB (tgt := 26) dX6_heal_20 (by decide) (fun h20 => ?_) (fun h20 => ?_)
    · obtain ⟨x, hx1, rfl⟩ := nI_of3 (x := z) (n := 15) h20.1 (by omega) (by omega)
      have hxa : (nI x).toInt = (x : Int) := nI_T (by omega)
      rw [hxa] at h20
      refine z_iconst (nI 1) dX6_heal_26 (by decide) ?_
      refine z_bipush (nI 6) dX6_heal_27 (by decide) ?_
      refine z_iload_n dX6_heal_29 rfl ?_
      refine z_imulN dX6_heal_30 ?_
      refine z_iaddN dX6_heal_31 ?_
      refine z_iconst (nI 4) dX6_heal_32 (by decide) ?_
      refine z_iaddN dX6_heal_33 ?_
      refine z_ist3 dX6_heal_34 rfl ?_
      refine z_aload_n dX6_heal_35 rfl ?_
      refine z_getr dX6_heal_36 fX6_7 hM.o hM.r0 ?_
      refine z_iload_n dX6_heal_39 rfl ?_
      refine z_iaN dX6_heal_40 hM.a0 (by omega) (by decide) ?_
      refine z_top (e4) ?_
      refine z_iload_n dX6_heal_41 rfl ?_
      refine z_iconst (nI 1) dX6_heal_42 (by decide) ?_
      refine z_iaddN dX6_heal_43 ?_
      refine z_icmp_eqNN (tgt := 64) dX6_heal_44 (by decide) (by omega) (by omega) (fun h44 => ?_) (fun h44 => ?_)
      · refine z_aload_n dX6_heal_64 rfl ?_
        refine z_callV0v dX6_heal_65 mX6_143 hM.o (m_note I L hM hv ho hr) (by decide) (Nat.le_of_ble_eq_true rfl) ⟨Nat.le_refl _, Nat.le_refl _⟩ (fun J1 h1 => ?_)
        have hv1 : zMb (J1 97) 0 s.1 := by rw [h1.2.1]; exact hv
        refine z_aload_n dX6_heal_68 rfl ?_
        refine z_callV0v dX6_heal_69 mX6_146 hM.o (m_free J1 L hM hv1 hl) (by decide) (Nat.le_of_ble_eq_true rfl) ⟨Nat.le_refl _, Nat.le_refl _⟩ (fun J2 h2 => ?_)
        have hmem : x ∈ sc sh := (c_mem o5 x).mpr (by omega)
        obtain ⟨f0, f1, f2, f3, f4, f5⟩ := mSh0 (h2.1.2.1 j sh hsh)
        have cr := c_rem o5 hmem
        have hok := heal_len ho hsh x
        refine z_aload_n dX6_heal_72 rfl ?_
        refine z_getr dX6_heal_73 fX6_7 hM.o hM.r0 ?_
        refine z_iload_n dX6_heal_76 rfl ?_
        refine z_aload_n dX6_heal_77 rfl ?_
        refine z_getr dX6_heal_78 fX6_7 hM.o hM.r0 ?_
        refine z_iload_n dX6_heal_81 rfl ?_
        refine z_iaN dX6_heal_82 hM.a0 (by omega) (by decide) ?_
        refine z_top (f4) ?_
        refine z_iload_n dX6_heal_83 rfl ?_
        refine z_iconst (nI 1) dX6_heal_84 (by decide) ?_
        refine z_iaddN dX6_heal_85 ?_
        refine z_icmp_neNN (tgt := 100) dX6_heal_86 (by decide) (by omega) (by omega) (fun h86 => ?_) (fun h86 => ?_)
        · refine z_aload_n dX6_heal_100 rfl ?_
          refine z_getr dX6_heal_101 fX6_7 hM.o hM.r0 ?_
          refine z_iload_n dX6_heal_104 rfl ?_
          refine z_iaN dX6_heal_105 hM.a0 (by omega) (by decide) ?_
          refine z_top (f4) ?_
          refine z_isN dX6_heal_106 hM.a0 (by omega) (by decide) ?_
          refine z_aload_n dX6_heal_107 rfl ?_
          refine z_getr dX6_heal_108 fX6_7 hM.o hM.r0 ?_
          refine z_iload_n dX6_heal_111 rfl ?_
          refine z_iconst (nI 1) dX6_heal_112 (by decide) ?_
          refine z_iaddN dX6_heal_113 ?_
          refine z_iconst (nI 0) dX6_heal_114 (by decide) ?_
          refine z_isN dX6_heal_115 hM.a0 (by omega) (by decide) ?_
          have hS : zMb ((zu (zu J2 97 (1 + 6 * j + 4) (nI (c1 (sc sh)))) 97 (1 + 6 * j + 4 + 1) (nI 0)) 97) 0 (lyS (lyZ s.1) (s.1.1.set j (shC sh (remC x (sc sh))))) := set2_ok (J := (zu (zu J2 97 (1 + 6 * j + 4) (nI (c1 (sc sh)))) 97 (1 + 6 * j + 4 + 1) (nI 0))) h2.1 hsh hl (remC x (sc sh)) (by rw [zu_nk (Or.inr (by omega)), zu_same, cr.2.1 (by omega)]) (by rw [cr.2.2]; exact zu_same) (fun x q1 q2 => by rw [zu_nk (Or.inr q2), zu_nk (Or.inr q1)])
          refine z_aload_n dX6_heal_116 rfl ?_
          refine z_callV0p dX6_heal_117 mX6_121 hM.o (m_manyPieces _ L hM hS hok) (by decide) (Nat.le_of_ble_eq_true rfl) ⟨Nat.le_refl _, Nat.le_refl _⟩ ?_
          have e9 : rHeal s.1.1 (nI j).toInt (nI x).toInt = 0 := by rw [hxa, rHeal, zif_t h5, zif_t h20, hja, hg, Int.toNat_natCast, zif_t hmem]
          exact z_iret dX6_heal_120 ⟨Nat.le_refl _, Nat.le_refl _⟩ rfl ⟨rfl, rfl, rfl, _, ⟨by rw [oHeal, pif_t e9]; unfold shHl; rw [hja, hxa, hg]; rfl, by rw [oHeal, pif_t e9]; unfold shHl; rw [hja, hxa, hg]; exact ⟨hS, hok, (h1.1.st h2.2).st ((stF.rfl.zu).zu)⟩, fun p hp => by rw [zu_ne (by omega), zu_ne (by omega), h2.2 p (by omega), h1.2.2 p (by omega) (by omega)]⟩, rfl⟩
        · refine z_aload_n dX6_heal_89 rfl ?_
          refine z_getr dX6_heal_90 fX6_7 hM.o hM.r0 ?_
          refine z_iload_n dX6_heal_93 rfl ?_
          refine z_iconst (nI 1) dX6_heal_94 (by decide) ?_
          refine z_iaddN dX6_heal_95 ?_
          refine z_iaN dX6_heal_96 hM.a0 (by omega) (by decide) ?_
          refine z_top (f5) ?_
          refine z_goto (tgt := 106) dX6_heal_97 (by decide) ?_
          refine z_isN dX6_heal_106 hM.a0 (by omega) (by decide) ?_
          refine z_aload_n dX6_heal_107 rfl ?_
          refine z_getr dX6_heal_108 fX6_7 hM.o hM.r0 ?_
          refine z_iload_n dX6_heal_111 rfl ?_
          refine z_iconst (nI 1) dX6_heal_112 (by decide) ?_
          refine z_iaddN dX6_heal_113 ?_
          refine z_iconst (nI 0) dX6_heal_114 (by decide) ?_
          refine z_isN dX6_heal_115 hM.a0 (by omega) (by decide) ?_
          have hS : zMb ((zu (zu J2 97 (1 + 6 * j + 4) (nI (c2 (sc sh)))) 97 (1 + 6 * j + 4 + 1) (nI 0)) 97) 0 (lyS (lyZ s.1) (s.1.1.set j (shC sh (remC x (sc sh))))) := set2_ok (J := (zu (zu J2 97 (1 + 6 * j + 4) (nI (c2 (sc sh)))) 97 (1 + 6 * j + 4 + 1) (nI 0))) h2.1 hsh hl (remC x (sc sh)) (by rw [zu_nk (Or.inr (by omega)), zu_same, cr.1 (by omega)]) (by rw [cr.2.2]; exact zu_same) (fun x q1 q2 => by rw [zu_nk (Or.inr q2), zu_nk (Or.inr q1)])
          refine z_aload_n dX6_heal_116 rfl ?_
          refine z_callV0p dX6_heal_117 mX6_121 hM.o (m_manyPieces _ L hM hS hok) (by decide) (Nat.le_of_ble_eq_true rfl) ⟨Nat.le_refl _, Nat.le_refl _⟩ ?_
          have e9 : rHeal s.1.1 (nI j).toInt (nI x).toInt = 0 := by rw [hxa, rHeal, zif_t h5, zif_t h20, hja, hg, Int.toNat_natCast, zif_t hmem]
          exact z_iret dX6_heal_120 ⟨Nat.le_refl _, Nat.le_refl _⟩ rfl ⟨rfl, rfl, rfl, _, ⟨by rw [oHeal, pif_t e9]; unfold shHl; rw [hja, hxa, hg]; rfl, by rw [oHeal, pif_t e9]; unfold shHl; rw [hja, hxa, hg]; exact ⟨hS, hok, (h1.1.st h2.2).st ((stF.rfl.zu).zu)⟩, fun p hp => by rw [zu_ne (by omega), zu_ne (by omega), h2.2 p (by omega), h1.2.2 p (by omega) (by omega)]⟩, rfl⟩
      · refine z_aload_n dX6_heal_47 rfl ?_
        refine z_getr dX6_heal_48 fX6_7 hM.o hM.r0 ?_
        refine z_iload_n dX6_heal_51 rfl ?_
        refine z_iconst (nI 1) dX6_heal_52 (by decide) ?_
        refine z_iaddN dX6_heal_53 ?_
        refine z_iaN dX6_heal_54 hM.a0 (by omega) (by decide) ?_
        refine z_top (e5) ?_
        refine z_iload_n dX6_heal_55 rfl ?_
        refine z_iconst (nI 1) dX6_heal_56 (by decide) ?_
        refine z_iaddN dX6_heal_57 ?_
        refine z_icmp_eqNN (tgt := 64) dX6_heal_58 (by decide) (by omega) (by omega) (fun h58 => ?_) (fun h58 => ?_)
        · refine z_aload_n dX6_heal_64 rfl ?_
          refine z_callV0v dX6_heal_65 mX6_143 hM.o (m_note I L hM hv ho hr) (by decide) (Nat.le_of_ble_eq_true rfl) ⟨Nat.le_refl _, Nat.le_refl _⟩ (fun J1 h1 => ?_)
          have hv1 : zMb (J1 97) 0 s.1 := by rw [h1.2.1]; exact hv
          refine z_aload_n dX6_heal_68 rfl ?_
          refine z_callV0v dX6_heal_69 mX6_146 hM.o (m_free J1 L hM hv1 hl) (by decide) (Nat.le_of_ble_eq_true rfl) ⟨Nat.le_refl _, Nat.le_refl _⟩ (fun J2 h2 => ?_)
          have hmem : x ∈ sc sh := (c_mem o5 x).mpr (by omega)
          obtain ⟨f0, f1, f2, f3, f4, f5⟩ := mSh0 (h2.1.2.1 j sh hsh)
          have cr := c_rem o5 hmem
          have hok := heal_len ho hsh x
          refine z_aload_n dX6_heal_72 rfl ?_
          refine z_getr dX6_heal_73 fX6_7 hM.o hM.r0 ?_
          refine z_iload_n dX6_heal_76 rfl ?_
          refine z_aload_n dX6_heal_77 rfl ?_
          refine z_getr dX6_heal_78 fX6_7 hM.o hM.r0 ?_
          refine z_iload_n dX6_heal_81 rfl ?_
          refine z_iaN dX6_heal_82 hM.a0 (by omega) (by decide) ?_
          refine z_top (f4) ?_
          refine z_iload_n dX6_heal_83 rfl ?_
          refine z_iconst (nI 1) dX6_heal_84 (by decide) ?_
          refine z_iaddN dX6_heal_85 ?_
          refine z_icmp_neNN (tgt := 100) dX6_heal_86 (by decide) (by omega) (by omega) (fun h86 => ?_) (fun h86 => ?_)
          · refine z_aload_n dX6_heal_100 rfl ?_
            refine z_getr dX6_heal_101 fX6_7 hM.o hM.r0 ?_
            refine z_iload_n dX6_heal_104 rfl ?_
            refine z_iaN dX6_heal_105 hM.a0 (by omega) (by decide) ?_
            refine z_top (f4) ?_
            refine z_isN dX6_heal_106 hM.a0 (by omega) (by decide) ?_
            refine z_aload_n dX6_heal_107 rfl ?_
            refine z_getr dX6_heal_108 fX6_7 hM.o hM.r0 ?_
            refine z_iload_n dX6_heal_111 rfl ?_
            refine z_iconst (nI 1) dX6_heal_112 (by decide) ?_
            refine z_iaddN dX6_heal_113 ?_
            refine z_iconst (nI 0) dX6_heal_114 (by decide) ?_
            refine z_isN dX6_heal_115 hM.a0 (by omega) (by decide) ?_
            have hS : zMb ((zu (zu J2 97 (1 + 6 * j + 4) (nI (c1 (sc sh)))) 97 (1 + 6 * j + 4 + 1) (nI 0)) 97) 0 (lyS (lyZ s.1) (s.1.1.set j (shC sh (remC x (sc sh))))) := set2_ok (J := (zu (zu J2 97 (1 + 6 * j + 4) (nI (c1 (sc sh)))) 97 (1 + 6 * j + 4 + 1) (nI 0))) h2.1 hsh hl (remC x (sc sh)) (by rw [zu_nk (Or.inr (by omega)), zu_same, cr.2.1 (by omega)]) (by rw [cr.2.2]; exact zu_same) (fun x q1 q2 => by rw [zu_nk (Or.inr q2), zu_nk (Or.inr q1)])
            refine z_aload_n dX6_heal_116 rfl ?_
            refine z_callV0p dX6_heal_117 mX6_121 hM.o (m_manyPieces _ L hM hS hok) (by decide) (Nat.le_of_ble_eq_true rfl) ⟨Nat.le_refl _, Nat.le_refl _⟩ ?_
            have e9 : rHeal s.1.1 (nI j).toInt (nI x).toInt = 0 := by rw [hxa, rHeal, zif_t h5, zif_t h20, hja, hg, Int.toNat_natCast, zif_t hmem]
            exact z_iret dX6_heal_120 ⟨Nat.le_refl _, Nat.le_refl _⟩ rfl ⟨rfl, rfl, rfl, _, ⟨by rw [oHeal, pif_t e9]; unfold shHl; rw [hja, hxa, hg]; rfl, by rw [oHeal, pif_t e9]; unfold shHl; rw [hja, hxa, hg]; exact ⟨hS, hok, (h1.1.st h2.2).st ((stF.rfl.zu).zu)⟩, fun p hp => by rw [zu_ne (by omega), zu_ne (by omega), h2.2 p (by omega), h1.2.2 p (by omega) (by omega)]⟩, rfl⟩
          · refine z_aload_n dX6_heal_89 rfl ?_
            refine z_getr dX6_heal_90 fX6_7 hM.o hM.r0 ?_
            refine z_iload_n dX6_heal_93 rfl ?_
            refine z_iconst (nI 1) dX6_heal_94 (by decide) ?_
            refine z_iaddN dX6_heal_95 ?_
            refine z_iaN dX6_heal_96 hM.a0 (by omega) (by decide) ?_
            refine z_top (f5) ?_
            refine z_goto (tgt := 106) dX6_heal_97 (by decide) ?_
            refine z_isN dX6_heal_106 hM.a0 (by omega) (by decide) ?_
            refine z_aload_n dX6_heal_107 rfl ?_
            refine z_getr dX6_heal_108 fX6_7 hM.o hM.r0 ?_
            refine z_iload_n dX6_heal_111 rfl ?_
            refine z_iconst (nI 1) dX6_heal_112 (by decide) ?_
            refine z_iaddN dX6_heal_113 ?_
            refine z_iconst (nI 0) dX6_heal_114 (by decide) ?_
            refine z_isN dX6_heal_115 hM.a0 (by omega) (by decide) ?_
            have hS : zMb ((zu (zu J2 97 (1 + 6 * j + 4) (nI (c2 (sc sh)))) 97 (1 + 6 * j + 4 + 1) (nI 0)) 97) 0 (lyS (lyZ s.1) (s.1.1.set j (shC sh (remC x (sc sh))))) := set2_ok (J := (zu (zu J2 97 (1 + 6 * j + 4) (nI (c2 (sc sh)))) 97 (1 + 6 * j + 4 + 1) (nI 0))) h2.1 hsh hl (remC x (sc sh)) (by rw [zu_nk (Or.inr (by omega)), zu_same, cr.1 (by omega)]) (by rw [cr.2.2]; exact zu_same) (fun x q1 q2 => by rw [zu_nk (Or.inr q2), zu_nk (Or.inr q1)])
            refine z_aload_n dX6_heal_116 rfl ?_
            refine z_callV0p dX6_heal_117 mX6_121 hM.o (m_manyPieces _ L hM hS hok) (by decide) (Nat.le_of_ble_eq_true rfl) ⟨Nat.le_refl _, Nat.le_refl _⟩ ?_
            have e9 : rHeal s.1.1 (nI j).toInt (nI x).toInt = 0 := by rw [hxa, rHeal, zif_t h5, zif_t h20, hja, hg, Int.toNat_natCast, zif_t hmem]
            exact z_iret dX6_heal_120 ⟨Nat.le_refl _, Nat.le_refl _⟩ rfl ⟨rfl, rfl, rfl, _, ⟨by rw [oHeal, pif_t e9]; unfold shHl; rw [hja, hxa, hg]; rfl, by rw [oHeal, pif_t e9]; unfold shHl; rw [hja, hxa, hg]; exact ⟨hS, hok, (h1.1.st h2.2).st ((stF.rfl.zu).zu)⟩, fun p hp => by rw [zu_ne (by omega), zu_ne (by omega), h2.2 p (by omega), h1.2.2 p (by omega) (by omega)]⟩, rfl⟩
        · refine z_ldc dX6_heal_61 kX6_137 ?_
          have e9 : rHeal s.1.1 (nI j).toInt (nI x).toInt = kNOT := by rw [hxa, rHeal, zif_t h5, zif_t h20, hja, hg, Int.toNat_natCast, zif_f (by rw [c_mem o5 x]; omega)]
          exact z_iret dX6_heal_63 ⟨Nat.le_refl _, Nat.le_refl _⟩ rfl ⟨rfl, rfl, rfl, _, ⟨by rw [oHeal, pif_f (by rw [e9]; decide), e9], by rw [oHeal, pif_f (by rw [e9]; decide)]; exact hI, fun p _ => rfl⟩, rfl⟩
    · refine z_ldc dX6_heal_23 kX6_132 ?_
      have e9 : rHeal s.1.1 (nI j).toInt z.toInt = kOUT := by rw [rHeal, zif_t h5, zif_f h20]
      exact z_iret dX6_heal_25 ⟨Nat.le_refl _, Nat.le_refl _⟩ rfl ⟨rfl, rfl, rfl, _, ⟨by rw [oHeal, pif_f (by rw [e9]; decide), e9], by rw [oHeal, pif_f (by rw [e9]; decide)]; exact hI, fun p _ => rfl⟩, rfl⟩
  · refine z_ldc dX6_heal_8 kX6_156 ?_
    have e9 : rHeal s.1.1 a.toInt z.toInt = kUNK := by rw [rHeal, zif_f h5]
    exact z_iret dX6_heal_10 ⟨Nat.le_refl _, Nat.le_refl _⟩ rfl ⟨rfl, rfl, rfl, _, ⟨by rw [oHeal, pif_f (by rw [e9]; decide), e9], by rw [oHeal, pif_f (by rw [e9]; decide)]; exact hI, fun p _ => rfl⟩, rfl⟩
