def nTmI (I : zMI) : zMI := (zu (zu (nLyI (zI0 (nLyI (zI0 (nHsI (zI0 (nBsI (zI0 (nPcI (zI0 (nLyI (zI0 (zu (nBsI (zI0 (nLkI (zI0 (nPcI (zI0 (nLyI (zI0 I 1) 1) 7) 7) 16) 16 7) 17) 17 7) 0 4 (nI 0)) 18) 18) 24) 24) 33) 33 24) 34)) 84) 84) 90) 90) 0 11 (nI 0)) 0 12 (nI 0))
def nTmR (R : zMR) : zMR := (zuR (nLyR (zR0 (zuR (nLyR (zR0 (zuR (nHsR (zR0 (zuR (nBsR (zR0 (zuR (nPcR (zR0 (zuR (nLyR (zR0 (zuR (nBsR (zR0 (zuR (nLkR (zR0 (zuR (nPcR (zR0 (zuR (nLyR (zR0 R 1) 1) 0 0 (some 1)) 7) 7) 0 1 (some 7)) 16) 16 7) 0 2 (some 16)) 17) 17 7) 0 3 (some 17)) 18) 18) 0 5 (some 18)) 24) 24) 0 6 (some 24)) 33) 33 24) 0 7 (some 33)) 34)) 0 8 (some 34)) 84) 84) 0 9 (some 84)) 90) 90) 0 10 (some 90))
def nTmS : zS := (nLyS ((nLyS (nHsS ++ [(2 + 3, 0)])) ++ [(2 + 3, 0)]))
set_option maxRecDepth 100000 in
set_option maxHeartbeats 4000000 in
theorem n_TwoMasks (I : zMI) (L : zML) {R : zMR} (hw : zWf [(5 + 3, 0)] R) : zMet yX5_init cX5_init 1 none 5 (95, 1006) [.ref 0] [(5 + 3, 0)] I L R (fun S2 I2 L2 R2 r => r = none ∧ S2 = nTmS ∧ I2 = nTmI I ∧ R2 = nTmR R ∧ zWf nTmS (nTmR R)) := by
  refine zMet_of (ini := true) (lv := [some (.ref 0)]) (by decide) (fun _ => rfl) rfl rfl ?_
  refine z_aload_n dX5_init_0 rfl ?_
  refine z_objI dX5_init_1 mX5_1_l (by decide) (Nat.le_of_ble_eq_true rfl) ?_
  refine z_aload_n dX5_init_4 rfl ?_
  refine z_newo (b := 1) dX5_init_5 zC_X2 kX5_7 df_X2 rfl hw (by decide) ⟨(by repeat first | exact zOk_nil | refine zOk_r (by first | omega | exact Nat.le_of_ble_eq_true rfl) ?_ | refine zOk_i ?_ | refine zOk_a ?_), (by repeat first | exact zOk_nil | refine zOk_r (by first | omega | exact Nat.le_of_ble_eq_true rfl) ?_ | refine zOk_i ?_ | refine zOk_a ?_)⟩ ?_
  have hw := zWf_new (x := (2 + 3, 0)) (b := 1) hw rfl
  refine z_dup dX5_init_8 rfl ?_
  refine z_callIN0g dX5_init_9 mX5_9 mX5_9_i rfl (n_Layout (b := 1) _ _ rfl rfl hw) (by decide) (Nat.le_of_ble_eq_true rfl) ⟨Nat.le_of_ble_eq_true rfl, Nat.le_of_ble_eq_true rfl⟩ (fun _ _ _ _ _ _ => Or.inr ⟨(by repeat first | exact zOk_nil | refine zOk_r (by first | omega | exact Nat.le_of_ble_eq_true rfl) ?_ | refine zOk_i ?_ | refine zOk_a ?_), (by repeat first | exact zOk_nil | refine zOk_r (by first | omega | exact Nat.le_of_ble_eq_true rfl) ?_ | refine zOk_i ?_ | refine zOk_a ?_)⟩) (fun S2 I2 L2 R2 r hr => ?_)
  obtain ⟨rfl, rfl, rfl, rfl⟩ := hr
  have hw := nLy_wf (b := 1) rfl hw
  refine z_putR dX5_init_12 fX5_10 rfl (fun C T N h => by cases h; rfl) rfl ?_
  have hw := zWf_put (a := 0) (k := 0) (q := 1) hw (by decide)
  refine z_aload_n dX5_init_15 rfl ?_
  refine z_newo (b := 7) dX5_init_16 zC_X4 kX5_16 df_X4 rfl hw (by decide) ⟨(by repeat first | exact zOk_nil | refine zOk_r (by first | omega | exact Nat.le_of_ble_eq_true rfl) ?_ | refine zOk_i ?_ | refine zOk_a ?_), (by repeat first | exact zOk_nil | refine zOk_r (by first | omega | exact Nat.le_of_ble_eq_true rfl) ?_ | refine zOk_i ?_ | refine zOk_a ?_)⟩ ?_
  have hw := zWf_new (x := (4 + 3, 0)) (b := 7) hw rfl
  refine z_dup dX5_init_19 rfl ?_
  refine z_callIN0g dX5_init_20 mX5_18 mX5_18_i rfl (n_Pieces (b := 7) _ _ rfl rfl hw) (by decide) (Nat.le_of_ble_eq_true rfl) ⟨Nat.le_of_ble_eq_true rfl, Nat.le_of_ble_eq_true rfl⟩ (fun _ _ _ _ _ _ => Or.inr ⟨(by repeat first | exact zOk_nil | refine zOk_r (by first | omega | exact Nat.le_of_ble_eq_true rfl) ?_ | refine zOk_i ?_ | refine zOk_a ?_), (by repeat first | exact zOk_nil | refine zOk_r (by first | omega | exact Nat.le_of_ble_eq_true rfl) ?_ | refine zOk_i ?_ | refine zOk_a ?_)⟩) (fun S2 I2 L2 R2 r hr => ?_)
  obtain ⟨rfl, rfl, rfl, rfl⟩ := hr
  have hw := nPc_wf (b := 7) rfl hw
  refine z_putR dX5_init_23 fX5_19 rfl (fun C T N h => by cases h; rfl) rfl ?_
  have hw := zWf_put (a := 0) (k := 1) (q := 7) hw (by decide)
  refine z_aload_n dX5_init_26 rfl ?_
  refine z_newo (b := 16) dX5_init_27 zC_X3 kX5_23 df_X3 rfl hw (by decide) ⟨(by repeat first | exact zOk_nil | refine zOk_r (by first | omega | exact Nat.le_of_ble_eq_true rfl) ?_ | refine zOk_i ?_ | refine zOk_a ?_), (by repeat first | exact zOk_nil | refine zOk_r (by first | omega | exact Nat.le_of_ble_eq_true rfl) ?_ | refine zOk_i ?_ | refine zOk_a ?_)⟩ ?_
  have hw := zWf_new (x := (3 + 3, 0)) (b := 16) hw rfl
  refine z_dup dX5_init_30 rfl ?_
  refine z_aload_n dX5_init_31 rfl ?_
  refine z_getr (q := 7) dX5_init_32 fX5_19 rfl rfl ?_
  refine z_callI1g dX5_init_35 mX5_25 (n_Links (b := 16) (q := 7) _ _ rfl rfl hw (by decide)) (by decide) (Nat.le_of_ble_eq_true rfl) ⟨Nat.le_of_ble_eq_true rfl, Nat.le_of_ble_eq_true rfl⟩ (fun _ _ _ _ _ _ => Or.inr ⟨(by repeat first | exact zOk_nil | refine zOk_r (by first | omega | exact Nat.le_of_ble_eq_true rfl) ?_ | refine zOk_i ?_ | refine zOk_a ?_), (by repeat first | exact zOk_nil | refine zOk_r (by first | omega | exact Nat.le_of_ble_eq_true rfl) ?_ | refine zOk_i ?_ | refine zOk_a ?_)⟩) (fun S2 I2 L2 R2 r hr => ?_)
  obtain ⟨rfl, rfl, rfl, rfl⟩ := hr
  have hw := zWf_put (a := 16) (k := 0) (q := 7) hw (by decide)
  refine z_putR dX5_init_38 fX5_28 rfl (fun C T N h => by cases h; rfl) rfl ?_
  have hw := zWf_put (a := 0) (k := 2) (q := 16) hw (by decide)
  refine z_aload_n dX5_init_41 rfl ?_
  refine z_newo (b := 17) dX5_init_42 zC_X0 kX5_32 df_X0 rfl hw (by decide) ⟨(by repeat first | exact zOk_nil | refine zOk_r (by first | omega | exact Nat.le_of_ble_eq_true rfl) ?_ | refine zOk_i ?_ | refine zOk_a ?_), (by repeat first | exact zOk_nil | refine zOk_r (by first | omega | exact Nat.le_of_ble_eq_true rfl) ?_ | refine zOk_i ?_ | refine zOk_a ?_)⟩ ?_
  have hw := zWf_new (x := (0 + 3, 0)) (b := 17) hw rfl
  refine z_dup dX5_init_45 rfl ?_
  refine z_aload_n dX5_init_46 rfl ?_
  refine z_getr (q := 7) dX5_init_47 fX5_19 rfl rfl ?_
  refine z_callI1g dX5_init_50 mX5_34 (n_Best (b := 17) (q := 7) _ _ rfl rfl hw (by decide)) (by decide) (Nat.le_of_ble_eq_true rfl) ⟨Nat.le_of_ble_eq_true rfl, Nat.le_of_ble_eq_true rfl⟩ (fun _ _ _ _ _ _ => Or.inr ⟨(by repeat first | exact zOk_nil | refine zOk_r (by first | omega | exact Nat.le_of_ble_eq_true rfl) ?_ | refine zOk_i ?_ | refine zOk_a ?_), (by repeat first | exact zOk_nil | refine zOk_r (by first | omega | exact Nat.le_of_ble_eq_true rfl) ?_ | refine zOk_i ?_ | refine zOk_a ?_)⟩) (fun S2 I2 L2 R2 r hr => ?_)
  obtain ⟨rfl, rfl, rfl, rfl⟩ := hr
  have hw := zWf_put (a := 17) (k := 0) (q := 7) hw (by decide)
  refine z_putR dX5_init_53 fX5_35 rfl (fun C T N h => by cases h; rfl) rfl ?_
  have hw := zWf_put (a := 0) (k := 3) (q := 17) hw (by decide)
  refine z_aload_n dX5_init_56 rfl ?_
  refine z_iconst (nI 0) dX5_init_57 (by decide) ?_
  refine z_putz dX5_init_58 fX5_39 rfl (Or.inl rfl) ?_
  refine z_aload_n dX5_init_61 rfl ?_
  refine z_newo (b := 18) dX5_init_62 zC_X2 kX5_7 df_X2 rfl hw (by decide) ⟨(by repeat first | exact zOk_nil | refine zOk_r (by first | omega | exact Nat.le_of_ble_eq_true rfl) ?_ | refine zOk_i ?_ | refine zOk_a ?_), (by repeat first | exact zOk_nil | refine zOk_r (by first | omega | exact Nat.le_of_ble_eq_true rfl) ?_ | refine zOk_i ?_ | refine zOk_a ?_)⟩ ?_
  have hw := zWf_new (x := (2 + 3, 0)) (b := 18) hw rfl
  refine z_dup dX5_init_65 rfl ?_
  refine z_callIN0g dX5_init_66 mX5_9 mX5_9_i rfl (n_Layout (b := 18) _ _ rfl rfl hw) (by decide) (Nat.le_of_ble_eq_true rfl) ⟨Nat.le_of_ble_eq_true rfl, Nat.le_of_ble_eq_true rfl⟩ (fun _ _ _ _ _ _ => Or.inr ⟨(by repeat first | exact zOk_nil | refine zOk_r (by first | omega | exact Nat.le_of_ble_eq_true rfl) ?_ | refine zOk_i ?_ | refine zOk_a ?_), (by repeat first | exact zOk_nil | refine zOk_r (by first | omega | exact Nat.le_of_ble_eq_true rfl) ?_ | refine zOk_i ?_ | refine zOk_a ?_)⟩) (fun S2 I2 L2 R2 r hr => ?_)
  obtain ⟨rfl, rfl, rfl, rfl⟩ := hr
  have hw := nLy_wf (b := 18) rfl hw
  refine z_putR dX5_init_69 fX5_43 rfl (fun C T N h => by cases h; rfl) rfl ?_
  have hw := zWf_put (a := 0) (k := 5) (q := 18) hw (by decide)
  refine z_aload_n dX5_init_72 rfl ?_
  refine z_newo (b := 24) dX5_init_73 zC_X4 kX5_16 df_X4 rfl hw (by decide) ⟨(by repeat first | exact zOk_nil | refine zOk_r (by first | omega | exact Nat.le_of_ble_eq_true rfl) ?_ | refine zOk_i ?_ | refine zOk_a ?_), (by repeat first | exact zOk_nil | refine zOk_r (by first | omega | exact Nat.le_of_ble_eq_true rfl) ?_ | refine zOk_i ?_ | refine zOk_a ?_)⟩ ?_
  have hw := zWf_new (x := (4 + 3, 0)) (b := 24) hw rfl
  refine z_dup dX5_init_76 rfl ?_
  refine z_callIN0g dX5_init_77 mX5_18 mX5_18_i rfl (n_Pieces (b := 24) _ _ rfl rfl hw) (by decide) (Nat.le_of_ble_eq_true rfl) ⟨Nat.le_of_ble_eq_true rfl, Nat.le_of_ble_eq_true rfl⟩ (fun _ _ _ _ _ _ => Or.inr ⟨(by repeat first | exact zOk_nil | refine zOk_r (by first | omega | exact Nat.le_of_ble_eq_true rfl) ?_ | refine zOk_i ?_ | refine zOk_a ?_), (by repeat first | exact zOk_nil | refine zOk_r (by first | omega | exact Nat.le_of_ble_eq_true rfl) ?_ | refine zOk_i ?_ | refine zOk_a ?_)⟩) (fun S2 I2 L2 R2 r hr => ?_)
  obtain ⟨rfl, rfl, rfl, rfl⟩ := hr
  have hw := nPc_wf (b := 24) rfl hw
  refine z_putR dX5_init_80 fX5_46 rfl (fun C T N h => by cases h; rfl) rfl ?_
  have hw := zWf_put (a := 0) (k := 6) (q := 24) hw (by decide)
  refine z_aload_n dX5_init_83 rfl ?_
  refine z_newo (b := 33) dX5_init_84 zC_X0 kX5_32 df_X0 rfl hw (by decide) ⟨(by repeat first | exact zOk_nil | refine zOk_r (by first | omega | exact Nat.le_of_ble_eq_true rfl) ?_ | refine zOk_i ?_ | refine zOk_a ?_), (by repeat first | exact zOk_nil | refine zOk_r (by first | omega | exact Nat.le_of_ble_eq_true rfl) ?_ | refine zOk_i ?_ | refine zOk_a ?_)⟩ ?_
  have hw := zWf_new (x := (0 + 3, 0)) (b := 33) hw rfl
  refine z_dup dX5_init_87 rfl ?_
  refine z_aload_n dX5_init_88 rfl ?_
  refine z_getr (q := 24) dX5_init_89 fX5_46 rfl rfl ?_
  refine z_callI1g dX5_init_92 mX5_34 (n_Best (b := 33) (q := 24) _ _ rfl rfl hw (by decide)) (by decide) (Nat.le_of_ble_eq_true rfl) ⟨Nat.le_of_ble_eq_true rfl, Nat.le_of_ble_eq_true rfl⟩ (fun _ _ _ _ _ _ => Or.inr ⟨(by repeat first | exact zOk_nil | refine zOk_r (by first | omega | exact Nat.le_of_ble_eq_true rfl) ?_ | refine zOk_i ?_ | refine zOk_a ?_), (by repeat first | exact zOk_nil | refine zOk_r (by first | omega | exact Nat.le_of_ble_eq_true rfl) ?_ | refine zOk_i ?_ | refine zOk_a ?_)⟩) (fun S2 I2 L2 R2 r hr => ?_)
  obtain ⟨rfl, rfl, rfl, rfl⟩ := hr
  have hw := zWf_put (a := 33) (k := 0) (q := 24) hw (by decide)
  refine z_putR dX5_init_95 fX5_49 rfl (fun C T N h => by cases h; rfl) rfl ?_
  have hw := zWf_put (a := 0) (k := 7) (q := 33) hw (by decide)
  refine z_aload_n dX5_init_98 rfl ?_
  refine z_newo (b := 34) dX5_init_99 zC_X1 kX5_52 df_X1 rfl hw (by decide) ⟨(by repeat first | exact zOk_nil | refine zOk_r (by first | omega | exact Nat.le_of_ble_eq_true rfl) ?_ | refine zOk_i ?_ | refine zOk_a ?_), (by repeat first | exact zOk_nil | refine zOk_r (by first | omega | exact Nat.le_of_ble_eq_true rfl) ?_ | refine zOk_i ?_ | refine zOk_a ?_)⟩ ?_
  have hw := zWf_new (x := (1 + 3, 0)) (b := 34) hw rfl
  refine z_dup dX5_init_102 rfl ?_
  refine z_callI0g dX5_init_103 mX5_54 (n_History _ _ hw) (by decide) (Nat.le_of_ble_eq_true rfl) ⟨Nat.le_of_ble_eq_true rfl, Nat.le_of_ble_eq_true rfl⟩ (fun _ _ _ _ _ _ => Or.inr ⟨(by repeat first | exact zOk_nil | refine zOk_r (by first | omega | exact Nat.le_of_ble_eq_true rfl) ?_ | refine zOk_i ?_ | refine zOk_a ?_), (by repeat first | exact zOk_nil | refine zOk_r (by first | omega | exact Nat.le_of_ble_eq_true rfl) ?_ | refine zOk_i ?_ | refine zOk_a ?_)⟩) (fun S2 I2 L2 R2 r hr => ?_)
  obtain ⟨rfl, rfl, rfl, rfl⟩ := hr
  have hw := nHs_wf hw
  refine z_putR dX5_init_106 fX5_55 rfl (fun C T N h => by cases h; rfl) rfl ?_
  have hw := zWf_put (a := 0) (k := 8) (q := 34) hw (by decide)
  refine z_aload_n dX5_init_109 rfl ?_
  refine z_newo (b := 84) dX5_init_110 zC_X2 kX5_7 df_X2 rfl hw (by decide) ⟨(by repeat first | exact zOk_nil | refine zOk_r (by first | omega | exact Nat.le_of_ble_eq_true rfl) ?_ | refine zOk_i ?_ | refine zOk_a ?_), (by repeat first | exact zOk_nil | refine zOk_r (by first | omega | exact Nat.le_of_ble_eq_true rfl) ?_ | refine zOk_i ?_ | refine zOk_a ?_)⟩ ?_
  have hw := zWf_new (x := (2 + 3, 0)) (b := 84) hw rfl
  refine z_dup dX5_init_113 rfl ?_
  refine z_callIN0g dX5_init_114 mX5_9 mX5_9_i rfl (n_Layout (b := 84) _ _ rfl rfl hw) (by decide) (Nat.le_of_ble_eq_true rfl) ⟨Nat.le_of_ble_eq_true rfl, Nat.le_of_ble_eq_true rfl⟩ (fun _ _ _ _ _ _ => Or.inr ⟨(by repeat first | exact zOk_nil | refine zOk_r (by first | omega | exact Nat.le_of_ble_eq_true rfl) ?_ | refine zOk_i ?_ | refine zOk_a ?_), (by repeat first | exact zOk_nil | refine zOk_r (by first | omega | exact Nat.le_of_ble_eq_true rfl) ?_ | refine zOk_i ?_ | refine zOk_a ?_)⟩) (fun S2 I2 L2 R2 r hr => ?_)
  obtain ⟨rfl, rfl, rfl, rfl⟩ := hr
  have hw := nLy_wf (b := 84) rfl hw
  refine z_putR dX5_init_117 fX5_59 rfl (fun C T N h => by cases h; rfl) rfl ?_
  have hw := zWf_put (a := 0) (k := 9) (q := 84) hw (by decide)
  refine z_aload_n dX5_init_120 rfl ?_
  refine z_newo (b := 90) dX5_init_121 zC_X2 kX5_7 df_X2 rfl hw (by decide) ⟨(by repeat first | exact zOk_nil | refine zOk_r (by first | omega | exact Nat.le_of_ble_eq_true rfl) ?_ | refine zOk_i ?_ | refine zOk_a ?_), (by repeat first | exact zOk_nil | refine zOk_r (by first | omega | exact Nat.le_of_ble_eq_true rfl) ?_ | refine zOk_i ?_ | refine zOk_a ?_)⟩ ?_
  have hw := zWf_new (x := (2 + 3, 0)) (b := 90) hw rfl
  refine z_dup dX5_init_124 rfl ?_
  refine z_callIN0g dX5_init_125 mX5_9 mX5_9_i rfl (n_Layout (b := 90) _ _ rfl rfl hw) (by decide) (Nat.le_of_ble_eq_true rfl) ⟨Nat.le_of_ble_eq_true rfl, Nat.le_of_ble_eq_true rfl⟩ (fun _ _ _ _ _ _ => Or.inr ⟨(by repeat first | exact zOk_nil | refine zOk_r (by first | omega | exact Nat.le_of_ble_eq_true rfl) ?_ | refine zOk_i ?_ | refine zOk_a ?_), (by repeat first | exact zOk_nil | refine zOk_r (by first | omega | exact Nat.le_of_ble_eq_true rfl) ?_ | refine zOk_i ?_ | refine zOk_a ?_)⟩) (fun S2 I2 L2 R2 r hr => ?_)
  obtain ⟨rfl, rfl, rfl, rfl⟩ := hr
  have hw := nLy_wf (b := 90) rfl hw
  refine z_putR dX5_init_128 fX5_62 rfl (fun C T N h => by cases h; rfl) rfl ?_
  have hw := zWf_put (a := 0) (k := 10) (q := 90) hw (by decide)
  refine z_aload_n dX5_init_131 rfl ?_
  refine z_iconst (nI 0) dX5_init_132 (by decide) ?_
  refine z_putz dX5_init_133 fX5_65 rfl (Or.inl rfl) ?_
  refine z_aload_n dX5_init_136 rfl ?_
  refine z_iconst (nI 0) dX5_init_137 (by decide) ?_
  refine z_putz dX5_init_138 fX5_68 rfl (Or.inl rfl) ?_
  exact z_ret dX5_init_141 (by decide) rfl ⟨rfl, rfl, rfl, rfl, hw⟩
theorem tm_len : nTmS.length = 96 := by decide +kernel
def nMoS0 : zS := nTmS ++ [(6 + 3, 0)]
def nMoI (I : zMI) : zMI := (zu (zu (zu (zI0 (zI0 (zI0 (zI0 (zI0 (zI0 (zI0 (zI0 (zI0 (zI0 I 97) 98) 99) 100) 101) 102) 103) 104) 105) 106) 97 61 (nI 2)) 97 62 (nI 1)) 97 63 (nI 10))
def nMoR (R : zMR) : zMR := (zuR (zR0 (zuR (zR0 (zuR (zR0 (zuR (zR0 (zuR (zR0 (zuR (zR0 (zuR (zR0 (zuR (zR0 (zuR (zR0 (zuR (zR0 R 97) 96 0 (some 97)) 98) 96 1 (some 98)) 99) 96 3 (some 99)) 100) 96 4 (some 100)) 101) 96 6 (some 101)) 102) 96 7 (some 102)) 103) 96 8 (some 103)) 104) 96 9 (some 104)) 105) 96 10 (some 105)) 106) 96 15 (some 106))
def nMoS : zS := ((((((((((nMoS0 ++ [(0, 78)]) ++ [(0, 624)]) ++ [(0, 156)]) ++ [(1, 2)]) ++ [(0, 14)]) ++ [(0, 14)]) ++ [(0, 14)]) ++ [(0, 14)]) ++ [(0, 14)]) ++ [(0, 78)])
set_option maxRecDepth 100000 in
set_option maxHeartbeats 4000000 in
theorem n_Model (I : zMI) (L : zML) {R : zMR} (hw : zWf nMoS0 R) : zMet yX6_init cX6_init 1 none 1 (10, 1008) [.ref 96] nMoS0 I L R (fun S2 I2 L2 R2 r => r = none ∧ S2 = nMoS ∧ I2 = nMoI I ∧ R2 = nMoR R) := by
  refine zMet_of (ini := true) (lv := [some (.ref 96)]) (by decide) (fun _ => rfl) rfl rfl ?_
  refine z_aload_n dX6_init_0 rfl ?_
  refine z_objI dX6_init_1 mX6_1_l (by decide) (Nat.le_of_ble_eq_true rfl) ?_
  refine z_aload_n dX6_init_4 rfl ?_
  refine z_bipush (nI 78) dX6_init_5 (by decide) ?_
  refine z_newi (b := 97) dX6_init_7 rfl hw (by decide) (by decide) ⟨(by repeat first | exact zOk_nil | refine zOk_r (by first | omega | exact Nat.le_of_ble_eq_true rfl) ?_ | refine zOk_i ?_ | refine zOk_a ?_), (by repeat first | exact zOk_nil | refine zOk_r (by first | omega | exact Nat.le_of_ble_eq_true rfl) ?_ | refine zOk_i ?_ | refine zOk_a ?_)⟩ ?_
  have hw := zWf_new (x := (0, 78)) (b := 97) hw rfl
  refine z_putR dX6_init_9 fX6_7 rfl (fun C T N h => by cases h; rfl) rfl ?_
  have hw := zWf_put (a := 96) (k := 0) (q := 97) hw (by decide)
  refine z_aload_n dX6_init_12 rfl ?_
  refine z_sipush (nI 624) dX6_init_13 (by decide) ?_
  refine z_newi (b := 98) dX6_init_16 rfl hw (by decide) (by decide) ⟨(by repeat first | exact zOk_nil | refine zOk_r (by first | omega | exact Nat.le_of_ble_eq_true rfl) ?_ | refine zOk_i ?_ | refine zOk_a ?_), (by repeat first | exact zOk_nil | refine zOk_r (by first | omega | exact Nat.le_of_ble_eq_true rfl) ?_ | refine zOk_i ?_ | refine zOk_a ?_)⟩ ?_
  have hw := zWf_new (x := (0, 624)) (b := 98) hw rfl
  refine z_putR dX6_init_18 fX6_13 rfl (fun C T N h => by cases h; rfl) rfl ?_
  have hw := zWf_put (a := 96) (k := 1) (q := 98) hw (by decide)
  refine z_aload_n dX6_init_21 rfl ?_
  refine z_sipush (nI 156) dX6_init_22 (by decide) ?_
  refine z_newi (b := 99) dX6_init_25 rfl hw (by decide) (by decide) ⟨(by repeat first | exact zOk_nil | refine zOk_r (by first | omega | exact Nat.le_of_ble_eq_true rfl) ?_ | refine zOk_i ?_ | refine zOk_a ?_), (by repeat first | exact zOk_nil | refine zOk_r (by first | omega | exact Nat.le_of_ble_eq_true rfl) ?_ | refine zOk_i ?_ | refine zOk_a ?_)⟩ ?_
  have hw := zWf_new (x := (0, 156)) (b := 99) hw rfl
  refine z_putR dX6_init_27 fX6_16 rfl (fun C T N h => by cases h; rfl) rfl ?_
  have hw := zWf_put (a := 96) (k := 3) (q := 99) hw (by decide)
  refine z_aload_n dX6_init_30 rfl ?_
  refine z_iconst (nI 2) dX6_init_31 (by decide) ?_
  refine z_newz (b := 100) dX6_init_32 rfl hw (by decide) (by decide) ⟨(by repeat first | exact zOk_nil | refine zOk_r (by first | omega | exact Nat.le_of_ble_eq_true rfl) ?_ | refine zOk_i ?_ | refine zOk_a ?_), (by repeat first | exact zOk_nil | refine zOk_r (by first | omega | exact Nat.le_of_ble_eq_true rfl) ?_ | refine zOk_i ?_ | refine zOk_a ?_)⟩ ?_
  have hw := zWf_new (x := (1, 2)) (b := 100) hw rfl
  refine z_putR dX6_init_34 fX6_19 rfl (fun C T N h => by cases h; rfl) rfl ?_
  have hw := zWf_put (a := 96) (k := 4) (q := 100) hw (by decide)
  refine z_aload_n dX6_init_37 rfl ?_
  refine z_bipush (nI 14) dX6_init_38 (by decide) ?_
  refine z_newi (b := 101) dX6_init_40 rfl hw (by decide) (by decide) ⟨(by repeat first | exact zOk_nil | refine zOk_r (by first | omega | exact Nat.le_of_ble_eq_true rfl) ?_ | refine zOk_i ?_ | refine zOk_a ?_), (by repeat first | exact zOk_nil | refine zOk_r (by first | omega | exact Nat.le_of_ble_eq_true rfl) ?_ | refine zOk_i ?_ | refine zOk_a ?_)⟩ ?_
  have hw := zWf_new (x := (0, 14)) (b := 101) hw rfl
  refine z_putR dX6_init_42 fX6_23 rfl (fun C T N h => by cases h; rfl) rfl ?_
  have hw := zWf_put (a := 96) (k := 6) (q := 101) hw (by decide)
  refine z_aload_n dX6_init_45 rfl ?_
  refine z_bipush (nI 14) dX6_init_46 (by decide) ?_
  refine z_newi (b := 102) dX6_init_48 rfl hw (by decide) (by decide) ⟨(by repeat first | exact zOk_nil | refine zOk_r (by first | omega | exact Nat.le_of_ble_eq_true rfl) ?_ | refine zOk_i ?_ | refine zOk_a ?_), (by repeat first | exact zOk_nil | refine zOk_r (by first | omega | exact Nat.le_of_ble_eq_true rfl) ?_ | refine zOk_i ?_ | refine zOk_a ?_)⟩ ?_
  have hw := zWf_new (x := (0, 14)) (b := 102) hw rfl
  refine z_putR dX6_init_50 fX6_26 rfl (fun C T N h => by cases h; rfl) rfl ?_
  have hw := zWf_put (a := 96) (k := 7) (q := 102) hw (by decide)
  refine z_aload_n dX6_init_53 rfl ?_
  refine z_bipush (nI 14) dX6_init_54 (by decide) ?_
  refine z_newi (b := 103) dX6_init_56 rfl hw (by decide) (by decide) ⟨(by repeat first | exact zOk_nil | refine zOk_r (by first | omega | exact Nat.le_of_ble_eq_true rfl) ?_ | refine zOk_i ?_ | refine zOk_a ?_), (by repeat first | exact zOk_nil | refine zOk_r (by first | omega | exact Nat.le_of_ble_eq_true rfl) ?_ | refine zOk_i ?_ | refine zOk_a ?_)⟩ ?_
  have hw := zWf_new (x := (0, 14)) (b := 103) hw rfl
  refine z_putR dX6_init_58 fX6_29 rfl (fun C T N h => by cases h; rfl) rfl ?_
  have hw := zWf_put (a := 96) (k := 8) (q := 103) hw (by decide)
  refine z_aload_n dX6_init_61 rfl ?_
  refine z_bipush (nI 14) dX6_init_62 (by decide) ?_
  refine z_newi (b := 104) dX6_init_64 rfl hw (by decide) (by decide) ⟨(by repeat first | exact zOk_nil | refine zOk_r (by first | omega | exact Nat.le_of_ble_eq_true rfl) ?_ | refine zOk_i ?_ | refine zOk_a ?_), (by repeat first | exact zOk_nil | refine zOk_r (by first | omega | exact Nat.le_of_ble_eq_true rfl) ?_ | refine zOk_i ?_ | refine zOk_a ?_)⟩ ?_
  have hw := zWf_new (x := (0, 14)) (b := 104) hw rfl
  refine z_putR dX6_init_66 fX6_32 rfl (fun C T N h => by cases h; rfl) rfl ?_
  have hw := zWf_put (a := 96) (k := 9) (q := 104) hw (by decide)
  refine z_aload_n dX6_init_69 rfl ?_
  refine z_bipush (nI 14) dX6_init_70 (by decide) ?_
  refine z_newi (b := 105) dX6_init_72 rfl hw (by decide) (by decide) ⟨(by repeat first | exact zOk_nil | refine zOk_r (by first | omega | exact Nat.le_of_ble_eq_true rfl) ?_ | refine zOk_i ?_ | refine zOk_a ?_), (by repeat first | exact zOk_nil | refine zOk_r (by first | omega | exact Nat.le_of_ble_eq_true rfl) ?_ | refine zOk_i ?_ | refine zOk_a ?_)⟩ ?_
  have hw := zWf_new (x := (0, 14)) (b := 105) hw rfl
  refine z_putR dX6_init_74 fX6_35 rfl (fun C T N h => by cases h; rfl) rfl ?_
  have hw := zWf_put (a := 96) (k := 10) (q := 105) hw (by decide)
  refine z_aload_n dX6_init_77 rfl ?_
  refine z_bipush (nI 78) dX6_init_78 (by decide) ?_
  refine z_newi (b := 106) dX6_init_80 rfl hw (by decide) (by decide) ⟨(by repeat first | exact zOk_nil | refine zOk_r (by first | omega | exact Nat.le_of_ble_eq_true rfl) ?_ | refine zOk_i ?_ | refine zOk_a ?_), (by repeat first | exact zOk_nil | refine zOk_r (by first | omega | exact Nat.le_of_ble_eq_true rfl) ?_ | refine zOk_i ?_ | refine zOk_a ?_)⟩ ?_
  have hw := zWf_new (x := (0, 78)) (b := 106) hw rfl
  refine z_putR dX6_init_82 fX6_38 rfl (fun C T N h => by cases h; rfl) rfl ?_
  have hw := zWf_put (a := 96) (k := 15) (q := 106) hw (by decide)
  refine z_aload_n dX6_init_85 rfl ?_
  refine z_getr (q := 97) dX6_init_86 fX6_7 rfl rfl ?_
  refine z_bipush (nI 61) dX6_init_89 (by decide) ?_
  refine z_iconst (nI 2) dX6_init_91 (by decide) ?_
  refine z_isN dX6_init_92 rfl (by decide) (by decide) ?_
  refine z_aload_n dX6_init_93 rfl ?_
  refine z_getr (q := 97) dX6_init_94 fX6_7 rfl rfl ?_
  refine z_bipush (nI 62) dX6_init_97 (by decide) ?_
  refine z_iconst (nI 1) dX6_init_99 (by decide) ?_
  refine z_isN dX6_init_100 rfl (by decide) (by decide) ?_
  refine z_aload_n dX6_init_101 rfl ?_
  refine z_getr (q := 97) dX6_init_102 fX6_7 rfl rfl ?_
  refine z_bipush (nI 63) dX6_init_105 (by decide) ?_
  refine z_bipush (nI 10) dX6_init_107 (by decide) ?_
  refine z_isN dX6_init_109 rfl (by decide) (by decide) ?_
  exact z_ret dX6_init_110 (by decide) rfl ⟨rfl, rfl, rfl, rfl⟩
