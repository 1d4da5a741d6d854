set_option maxRecDepth 100000 in
set_option maxHeartbeats 4000000 in
theorem t_told {S : zS} {R : zMR} (I : zMI) (L : zML) {s : St} (hT : zTM S R) (hI : zCI I s) (w : Int32) : zM0 yX5_told cX5_told 2 (some .int) 23 [.ref 0, .int w] S I L R (zPi L (fun I2 r => r = aTold s w.toInt ∧ zCI I2 s ∧ ∀ p, 96 ≤ p → I2 p = I p)) := by
  refine zM0_of (own := RX5) (lv := [some (.ref 0), some (.int w)]) rfl (by decide) rfl rfl ?_
  obtain ⟨hv, ho, hP, hk, hr⟩ := id hI
  obtain ⟨nx, hh⟩ := id hr.2.2.1
  have hl := ho.1
  have hnp := ho.2.2.1
  have hps := pcs_ok ho
  have hpl := pcs_len s.1.1
  refine z_iload_n dX5_told_0 rfl ?_
  refine z_if_lt (tgt := 10) dX5_told_1 (by decide) (fun h1 => ?_) (fun h1 => ?_)
  · refine z_ldc dX5_told_10 kX5_129 ?_
    exact z_iret dX5_told_12 ⟨Nat.le_refl _, Nat.le_refl _⟩ rfl ⟨rfl, rfl, rfl, _, ⟨by rw [aTold, zif_f (by omega)], hI, fun p _ => rfl⟩, rfl⟩
  · refine z_iload_n dX5_told_4 rfl ?_
    refine z_bipush (nI 20) dX5_told_5 (by decide) ?_
    refine z_icmp_leIN (tgt := 13) dX5_told_7 (by decide) (by omega) (fun h7 => ?_) (fun h7 => ?_)
    · refine z_iload_n dX5_told_13 rfl ?_
      rcases (show (w.toInt < 0 ∨ 20 < w.toInt) ∨ w.toInt = 0 ∨ w.toInt = 1 ∨ w.toInt = 2 ∨ w.toInt = 3 ∨ w.toInt = 4 ∨ w.toInt = 5 ∨ w.toInt = 6 ∨ w.toInt = 7 ∨ w.toInt = 8 ∨ w.toInt = 9 ∨ w.toInt = 10 ∨ w.toInt = 11 ∨ w.toInt = 12 ∨ w.toInt = 13 ∨ w.toInt = 14 ∨ w.toInt = 15 ∨ w.toInt = 16 ∨ w.toInt = 17 ∨ w.toInt = 18 ∨ w.toInt = 19 ∨ w.toInt = 20 from by omega) with hq | hq | hq | hq | hq | hq | hq | hq | hq | hq | hq | hq | hq | hq | hq | hq | hq | hq | hq | hq | hq | hq
      · refine z_tOut (tgt := 224) dX5_told_14 hq (by decide) ?_
        refine z_aload_n dX5_told_224 rfl ?_
        refine z_iload_n dX5_told_225 rfl ?_
        refine z_callV1i dX5_told_226 mX5_211 hT.o (c_toldOfBest I L hT hI w) (by decide) (Nat.le_of_ble_eq_true rfl) ⟨Nat.le_refl _, Nat.le_refl _⟩ (fun J v9 hT9 => ?_)
        first | exact absurd hq (by omega) | exact z_iret dX5_told_229 ⟨Nat.le_refl _, Nat.le_refl _⟩ rfl ⟨rfl, rfl, rfl, _, ⟨hT9.1.trans (by rw [aTold, zif_t (by omega), hq]; rfl), hT9.2.1, fun p hp => hT9.2.2 p (by omega) (by omega)⟩, rfl⟩
      · refine z_tIn (tgt := 112) dX5_told_14 (by omega) (by omega) (by rw [hq]; rfl) (by decide) ?_
        refine z_aload_n dX5_told_112 rfl ?_
        refine z_getr dX5_told_113 fX5_10 hT.o hT.r0 ?_
        refine z_geti dX5_told_116 fX5_86 hT.q0.o ?_
        exact z_iret dX5_told_119 ⟨Nat.le_refl _, Nat.le_refl _⟩ rfl ⟨rfl, rfl, rfl, _, ⟨(hv.1).trans (by rw [aTold, zif_t (by omega), hq]; rfl), hI, fun p _ => rfl⟩, rfl⟩
      · refine z_tIn (tgt := 120) dX5_told_14 (by omega) (by omega) (by rw [hq]; rfl) (by decide) ?_
        refine z_aload_n dX5_told_120 rfl ?_
        refine z_getr dX5_told_121 fX5_19 hT.o hT.r1 ?_
        refine z_geti dX5_told_124 fX5_119 hT.q1.o ?_
        exact z_iret dX5_told_127 ⟨Nat.le_refl _, Nat.le_refl _⟩ rfl ⟨rfl, rfl, rfl, _, ⟨(hP.1.1.trans (by rw [hpl])).trans (by rw [aTold, zif_t (by omega), hq]; rfl), hI, fun p _ => rfl⟩, rfl⟩
      · refine z_tIn (tgt := 128) dX5_told_14 (by omega) (by omega) (by rw [hq]; rfl) (by decide) ?_
        refine z_aload_n dX5_told_128 rfl ?_
        refine z_getr dX5_told_129 fX5_10 hT.o hT.r0 ?_
        refine z_geti dX5_told_132 fX5_177 hT.q0.o ?_
        exact z_iret dX5_told_135 ⟨Nat.le_refl _, Nat.le_refl _⟩ rfl ⟨rfl, rfl, rfl, _, ⟨(hv.2.2.1).trans (by rw [aTold, zif_t (by omega), hq]; rfl), hI, fun p _ => rfl⟩, rfl⟩
      · refine z_tIn (tgt := 136) dX5_told_14 (by omega) (by omega) (by rw [hq]; rfl) (by decide) ?_
        refine z_aload_n dX5_told_136 rfl ?_
        refine z_getr dX5_told_137 fX5_10 hT.o hT.r0 ?_
        refine z_geti dX5_told_140 fX5_180 hT.q0.o ?_
        exact z_iret dX5_told_143 ⟨Nat.le_refl _, Nat.le_refl _⟩ rfl ⟨rfl, rfl, rfl, _, ⟨(hv.2.2.2.1).trans (by rw [aTold, zif_t (by omega), hq]; rfl), hI, fun p _ => rfl⟩, rfl⟩
      · refine z_tIn (tgt := 144) dX5_told_14 (by omega) (by omega) (by rw [hq]; rfl) (by decide) ?_
        refine z_aload_n dX5_told_144 rfl ?_
        refine z_getr dX5_told_145 fX5_10 hT.o hT.r0 ?_
        refine z_geti dX5_told_148 fX5_183 hT.q0.o ?_
        exact z_iret dX5_told_151 ⟨Nat.le_refl _, Nat.le_refl _⟩ rfl ⟨rfl, rfl, rfl, _, ⟨(hv.2.2.2.2.1).trans (by rw [aTold, zif_t (by omega), hq]; rfl), hI, fun p _ => rfl⟩, rfl⟩
      · refine z_tIn (tgt := 224) dX5_told_14 (by omega) (by omega) (by rw [hq]; rfl) (by decide) ?_
        refine z_aload_n dX5_told_224 rfl ?_
        refine z_iload_n dX5_told_225 rfl ?_
        refine z_callV1i dX5_told_226 mX5_211 hT.o (c_toldOfBest I L hT hI w) (by decide) (Nat.le_of_ble_eq_true rfl) ⟨Nat.le_refl _, Nat.le_refl _⟩ (fun J v9 hT9 => ?_)
        first | exact absurd hq (by omega) | exact z_iret dX5_told_229 ⟨Nat.le_refl _, Nat.le_refl _⟩ rfl ⟨rfl, rfl, rfl, _, ⟨hT9.1.trans (by rw [aTold, zif_t (by omega), hq]; rfl), hT9.2.1, fun p hp => hT9.2.2 p (by omega) (by omega)⟩, rfl⟩
      · refine z_tIn (tgt := 224) dX5_told_14 (by omega) (by omega) (by rw [hq]; rfl) (by decide) ?_
        refine z_aload_n dX5_told_224 rfl ?_
        refine z_iload_n dX5_told_225 rfl ?_
        refine z_callV1i dX5_told_226 mX5_211 hT.o (c_toldOfBest I L hT hI w) (by decide) (Nat.le_of_ble_eq_true rfl) ⟨Nat.le_refl _, Nat.le_refl _⟩ (fun J v9 hT9 => ?_)
        first | exact absurd hq (by omega) | exact z_iret dX5_told_229 ⟨Nat.le_refl _, Nat.le_refl _⟩ rfl ⟨rfl, rfl, rfl, _, ⟨hT9.1.trans (by rw [aTold, zif_t (by omega), hq]; rfl), hT9.2.1, fun p hp => hT9.2.2 p (by omega) (by omega)⟩, rfl⟩
      · refine z_tIn (tgt := 224) dX5_told_14 (by omega) (by omega) (by rw [hq]; rfl) (by decide) ?_
        refine z_aload_n dX5_told_224 rfl ?_
        refine z_iload_n dX5_told_225 rfl ?_
        refine z_callV1i dX5_told_226 mX5_211 hT.o (c_toldOfBest I L hT hI w) (by decide) (Nat.le_of_ble_eq_true rfl) ⟨Nat.le_refl _, Nat.le_refl _⟩ (fun J v9 hT9 => ?_)
        first | exact absurd hq (by omega) | exact z_iret dX5_told_229 ⟨Nat.le_refl _, Nat.le_refl _⟩ rfl ⟨rfl, rfl, rfl, _, ⟨hT9.1.trans (by rw [aTold, zif_t (by omega), hq]; rfl), hT9.2.1, fun p hp => hT9.2.2 p (by omega) (by omega)⟩, rfl⟩
      · refine z_tIn (tgt := 224) dX5_told_14 (by omega) (by omega) (by rw [hq]; rfl) (by decide) ?_
        refine z_aload_n dX5_told_224 rfl ?_
        refine z_iload_n dX5_told_225 rfl ?_
        refine z_callV1i dX5_told_226 mX5_211 hT.o (c_toldOfBest I L hT hI w) (by decide) (Nat.le_of_ble_eq_true rfl) ⟨Nat.le_refl _, Nat.le_refl _⟩ (fun J v9 hT9 => ?_)
        first | exact absurd hq (by omega) | exact z_iret dX5_told_229 ⟨Nat.le_refl _, Nat.le_refl _⟩ rfl ⟨rfl, rfl, rfl, _, ⟨hT9.1.trans (by rw [aTold, zif_t (by omega), hq]; rfl), hT9.2.1, fun p hp => hT9.2.2 p (by omega) (by omega)⟩, rfl⟩
      · refine z_tIn (tgt := 224) dX5_told_14 (by omega) (by omega) (by rw [hq]; rfl) (by decide) ?_
        refine z_aload_n dX5_told_224 rfl ?_
        refine z_iload_n dX5_told_225 rfl ?_
        refine z_callV1i dX5_told_226 mX5_211 hT.o (c_toldOfBest I L hT hI w) (by decide) (Nat.le_of_ble_eq_true rfl) ⟨Nat.le_refl _, Nat.le_refl _⟩ (fun J v9 hT9 => ?_)
        first | exact absurd hq (by omega) | exact z_iret dX5_told_229 ⟨Nat.le_refl _, Nat.le_refl _⟩ rfl ⟨rfl, rfl, rfl, _, ⟨hT9.1.trans (by rw [aTold, zif_t (by omega), hq]; rfl), hT9.2.1, fun p hp => hT9.2.2 p (by omega) (by omega)⟩, rfl⟩
      · refine z_tIn (tgt := 224) dX5_told_14 (by omega) (by omega) (by rw [hq]; rfl) (by decide) ?_
        refine z_aload_n dX5_told_224 rfl ?_
        refine z_iload_n dX5_told_225 rfl ?_
        refine z_callV1i dX5_told_226 mX5_211 hT.o (c_toldOfBest I L hT hI w) (by decide) (Nat.le_of_ble_eq_true rfl) ⟨Nat.le_refl _, Nat.le_refl _⟩ (fun J v9 hT9 => ?_)
        first | exact absurd hq (by omega) | exact z_iret dX5_told_229 ⟨Nat.le_refl _, Nat.le_refl _⟩ rfl ⟨rfl, rfl, rfl, _, ⟨hT9.1.trans (by rw [aTold, zif_t (by omega), hq]; rfl), hT9.2.1, fun p hp => hT9.2.2 p (by omega) (by omega)⟩, rfl⟩
      · refine z_tIn (tgt := 152) dX5_told_14 (by omega) (by omega) (by rw [hq]; rfl) (by decide) ?_
        refine z_aload_n dX5_told_152 rfl ?_
        refine z_getr dX5_told_153 fX5_28 hT.o hT.r2 ?_
        refine z_callV0p dX5_told_156 mX5_186 hT.q2.o (c_parts I L hT.q2 hP hps) (by decide) (Nat.le_of_ble_eq_true rfl) ⟨Nat.le_refl _, Nat.le_refl _⟩ ?_
        exact z_iret dX5_told_159 ⟨Nat.le_refl _, Nat.le_refl _⟩ rfl ⟨rfl, rfl, rfl, _, ⟨by rw [aTold, zif_t (by omega), hq]; rfl, hI, fun p _ => rfl⟩, rfl⟩
      · refine z_tIn (tgt := 160) dX5_told_14 (by omega) (by omega) (by rw [hq]; rfl) (by decide) ?_
        refine z_aload_n dX5_told_160 rfl ?_
        refine z_getr dX5_told_161 fX5_28 hT.o hT.r2 ?_
        refine z_callV0p dX5_told_164 mX5_190 hT.q2.o (c_oddParts I L hT.q2 hP hps) (by decide) (Nat.le_of_ble_eq_true rfl) ⟨Nat.le_refl _, Nat.le_refl _⟩ ?_
        exact z_iret dX5_told_167 ⟨Nat.le_refl _, Nat.le_refl _⟩ rfl ⟨rfl, rfl, rfl, _, ⟨by rw [aTold, zif_t (by omega), hq]; rfl, hI, fun p _ => rfl⟩, rfl⟩
      · refine z_tIn (tgt := 168) dX5_told_14 (by omega) (by omega) (by rw [hq]; rfl) (by decide) ?_
        refine z_aload_n dX5_told_168 rfl ?_
        refine z_getr dX5_told_169 fX5_28 hT.o hT.r2 ?_
        refine z_callV0p dX5_told_172 mX5_193 hT.q2.o (c_shortest I L hT.q2 hP hps) (by decide) (Nat.le_of_ble_eq_true rfl) ⟨Nat.le_refl _, Nat.le_refl _⟩ ?_
        exact z_iret dX5_told_175 ⟨Nat.le_refl _, Nat.le_refl _⟩ rfl ⟨rfl, rfl, rfl, _, ⟨by rw [aTold, zif_t (by omega), hq]; rfl, hI, fun p _ => rfl⟩, rfl⟩
      · refine z_tIn (tgt := 176) dX5_told_14 (by omega) (by omega) (by rw [hq]; rfl) (by decide) ?_
        refine z_aload_n dX5_told_176 rfl ?_
        refine z_getr dX5_told_177 fX5_28 hT.o hT.r2 ?_
        refine z_callV0p dX5_told_180 mX5_196 hT.q2.o (c_core I L hT.q2 hP hps) (by decide) (Nat.le_of_ble_eq_true rfl) ⟨Nat.le_refl _, Nat.le_refl _⟩ ?_
        exact z_iret dX5_told_183 ⟨Nat.le_refl _, Nat.le_refl _⟩ rfl ⟨rfl, rfl, rfl, _, ⟨by rw [aTold, zif_t (by omega), hq]; rfl, hI, fun p _ => rfl⟩, rfl⟩
      · refine z_tIn (tgt := 184) dX5_told_14 (by omega) (by omega) (by rw [hq]; rfl) (by decide) ?_
        refine z_aload_n dX5_told_184 rfl ?_
        refine z_getr dX5_told_185 fX5_28 hT.o hT.r2 ?_
        refine z_callV0p dX5_told_188 mX5_199 hT.q2.o (c_bridges I L hT.q2 hP hps) (by decide) (Nat.le_of_ble_eq_true rfl) ⟨Nat.le_refl _, Nat.le_refl _⟩ ?_
        exact z_iret dX5_told_191 ⟨Nat.le_refl _, Nat.le_refl _⟩ rfl ⟨rfl, rfl, rfl, _, ⟨by rw [aTold, zif_t (by omega), hq]; rfl, hI, fun p _ => rfl⟩, rfl⟩
      · refine z_tIn (tgt := 192) dX5_told_14 (by omega) (by omega) (by rw [hq]; rfl) (by decide) ?_
        refine z_aload_n dX5_told_192 rfl ?_
        refine z_getr dX5_told_193 fX5_28 hT.o hT.r2 ?_
        refine z_callV0p dX5_told_196 mX5_202 hT.q2.o (c_hinges I L hT.q2 hP hps) (by decide) (Nat.le_of_ble_eq_true rfl) ⟨Nat.le_refl _, Nat.le_refl _⟩ ?_
        exact z_iret dX5_told_199 ⟨Nat.le_refl _, Nat.le_refl _⟩ rfl ⟨rfl, rfl, rfl, _, ⟨by rw [aTold, zif_t (by omega), hq]; rfl, hI, fun p _ => rfl⟩, rfl⟩
      · refine z_tIn (tgt := 200) dX5_told_14 (by omega) (by omega) (by rw [hq]; rfl) (by decide) ?_
        refine z_aload_n dX5_told_200 rfl ?_
        refine z_getr dX5_told_201 fX5_19 hT.o hT.r1 ?_
        refine z_callV0p dX5_told_204 mX5_205 hT.q1.o (c_closePairs I L hT.q1 hP hps) (by decide) (Nat.le_of_ble_eq_true rfl) ⟨Nat.le_refl _, Nat.le_refl _⟩ ?_
        exact z_iret dX5_told_207 ⟨Nat.le_refl _, Nat.le_refl _⟩ rfl ⟨rfl, rfl, rfl, _, ⟨by rw [aTold, zif_t (by omega), hq]; rfl, hI, fun p _ => rfl⟩, rfl⟩
      · refine z_tIn (tgt := 208) dX5_told_14 (by omega) (by omega) (by rw [hq]; rfl) (by decide) ?_
        refine z_aload_n dX5_told_208 rfl ?_
        refine z_getr dX5_told_209 fX5_10 hT.o hT.r0 ?_
        refine z_geti dX5_told_212 fX5_208 hT.q0.o ?_
        exact z_iret dX5_told_215 ⟨Nat.le_refl _, Nat.le_refl _⟩ rfl ⟨rfl, rfl, rfl, _, ⟨(hv.2.2.2.2.2.1).trans (by rw [aTold, zif_t (by omega), hq]; rfl), hI, fun p _ => rfl⟩, rfl⟩
      · refine z_tIn (tgt := 224) dX5_told_14 (by omega) (by omega) (by rw [hq]; rfl) (by decide) ?_
        refine z_aload_n dX5_told_224 rfl ?_
        refine z_iload_n dX5_told_225 rfl ?_
        refine z_callV1i dX5_told_226 mX5_211 hT.o (c_toldOfBest I L hT hI w) (by decide) (Nat.le_of_ble_eq_true rfl) ⟨Nat.le_refl _, Nat.le_refl _⟩ (fun J v9 hT9 => ?_)
        first | exact absurd hq (by omega) | exact z_iret dX5_told_229 ⟨Nat.le_refl _, Nat.le_refl _⟩ rfl ⟨rfl, rfl, rfl, _, ⟨hT9.1.trans (by rw [aTold, zif_t (by omega), hq]; rfl), hT9.2.1, fun p hp => hT9.2.2 p (by omega) (by omega)⟩, rfl⟩
      · refine z_tIn (tgt := 216) dX5_told_14 (by omega) (by omega) (by rw [hq]; rfl) (by decide) ?_
        refine z_aload_n dX5_told_216 rfl ?_
        refine z_getr dX5_told_217 fX5_55 hT.o hT.r8 ?_
        refine z_geti dX5_told_220 fX5_173 hT.q8.o ?_
        exact z_iret dX5_told_223 ⟨Nat.le_refl _, Nat.le_refl _⟩ rfl ⟨rfl, rfl, rfl, _, ⟨(hh.2.2.1).trans (by rw [aTold, zif_t (by omega), hq]; rfl), hI, fun p _ => rfl⟩, rfl⟩
    · refine z_ldc dX5_told_10 kX5_129 ?_
      exact z_iret dX5_told_12 ⟨Nat.le_refl _, Nat.le_refl _⟩ rfl ⟨rfl, rfl, rfl, _, ⟨by rw [aTold, zif_f (by omega)], hI, fun p _ => rfl⟩, rfl⟩
set_option maxRecDepth 100000 in
set_option maxHeartbeats 4000000 in
theorem t_ofShape {S : zS} {R : zMR} (I : zMI) (L : zML) {s : St} (hT : zTM S R) (hI : zCI I s) (a w : Int32) : zM0 yX5_ofShape cX5_ofShape 4 (some .int) 4 [.ref 0, .int a, .int w] S I L R (zPi L (fun I2 r => r = aOfShape s a.toInt w.toInt ∧ zCI I2 s ∧ ∀ p, 96 ≤ p → I2 p = I p)) := by
  refine zM0_of (own := RX5) (lv := [some (.ref 0), some (.int a), some (.int w), none]) rfl (by decide) rfl rfl ?_
  obtain ⟨hv, ho, hP, hk, hr⟩ := id hI
  obtain ⟨nx, hh⟩ := id hr.2.2.1
  have hl := ho.1
  have hnp := ho.2.2.1
  have hps := pcs_ok ho
  have hpl := pcs_len s.1.1
  refine z_aload_n dX5_ofShape_0 rfl ?_
  refine z_getr dX5_ofShape_1 fX5_10 hT.o hT.r0 ?_
  refine z_iload_n dX5_ofShape_4 rfl ?_
  refine z_callV1p dX5_ofShape_5 mX5_90 hT.q0.o (c_hasShape I L hT.q0 hv ho _) (by decide) (Nat.le_of_ble_eq_true rfl) ⟨Nat.le_refl _, Nat.le_refl _⟩ ?_
  refine z_if_neB (tgt := 14) dX5_ofShape_8 (by decide) (fun h8 => ?_) (fun h8 => ?_)
  · obtain ⟨j, sh, rfl, hsh, hja, hg⟩ := has_nat hl h8
    have hj := getS_lt hsh
    obtain ⟨o1, o2, o3, o4, o5⟩ := id (ho.sh hsh)
    have hcL := o5.cL o2
    have htk : s.1.1.take (nI j).toInt.toNat = s.1.1.take j := by rw [hja]; rfl
    refine z_iload_n dX5_ofShape_14 rfl ?_
    refine z_if_lt (tgt := 24) dX5_ofShape_15 (by decide) (fun h15 => ?_) (fun h15 => ?_)
    · refine z_ldc dX5_ofShape_24 kX5_129 ?_
      exact z_iret dX5_ofShape_26 ⟨Nat.le_refl _, Nat.le_refl _⟩ rfl ⟨rfl, rfl, rfl, _, ⟨by rw [aOfShape, zif_t h8, zif_f (by omega)], hI, fun p _ => rfl⟩, rfl⟩
    · refine z_iload_n dX5_ofShape_18 rfl ?_
      refine z_bipush (nI 8) dX5_ofShape_19 (by decide) ?_
      refine z_icmp_leIN (tgt := 27) dX5_ofShape_21 (by decide) (by omega) (fun h21 => ?_) (fun h21 => ?_)
      · refine z_aload_n dX5_ofShape_27 rfl ?_
        refine z_getr dX5_ofShape_28 fX5_10 hT.o hT.r0 ?_
        refine z_getr dX5_ofShape_31 fX5_115 hT.q0.o hT.q0.r4 ?_
        refine z_iload_n dX5_ofShape_34 rfl ?_
        refine z_iaN dX5_ofShape_35 hT.q0.a4 (by omega) (by decide) ?_
        refine z_top ((hv.2.1 j sh hsh).2.2.2.2) ?_
        refine z_ist3 dX5_ofShape_36 rfl ?_
        refine z_iload_n dX5_ofShape_37 rfl ?_
        rcases (show (w.toInt < 0 ∨ 7 < w.toInt) ∨ w.toInt = 0 ∨ w.toInt = 1 ∨ w.toInt = 2 ∨ w.toInt = 3 ∨ w.toInt = 4 ∨ w.toInt = 5 ∨ w.toInt = 6 ∨ w.toInt = 7 from by omega) with hq | hq | hq | hq | hq | hq | hq | hq | hq
        · refine z_tOut (tgt := 152) dX5_ofShape_38 hq (by decide) ?_
          refine z_iload_n dX5_ofShape_152 rfl ?_
          refine z_callS1p dX5_ofShape_153 mX5_237 (c_withoutLowest I L hcL) (by decide) (Nat.le_of_ble_eq_true rfl) ⟨Nat.le_refl _, Nat.le_refl _⟩ ?_
          refine z_callS1p dX5_ofShape_156 mX5_234 (c_lowestOf I L (cL_tail hcL)) (by decide) (Nat.le_of_ble_eq_true rfl) ⟨Nat.le_refl _, Nat.le_refl _⟩ ?_
          have hq : w.toInt = 8 := by omega
          exact z_iret dX5_ofShape_159 ⟨Nat.le_refl _, Nat.le_refl _⟩ rfl ⟨rfl, rfl, rfl, _, ⟨by rw [aOfShape, zif_t h8, zif_t (by omega), hq]; unfold ofS; rw [hja, hg]; rfl, hI, fun p _ => rfl⟩, rfl⟩
        · refine z_tIn (tgt := 84) dX5_ofShape_38 (by omega) (by omega) (by rw [hq]; rfl) (by decide) ?_
          refine z_aload_n dX5_ofShape_84 rfl ?_
          refine z_getr dX5_ofShape_85 fX5_10 hT.o hT.r0 ?_
          refine z_getr dX5_ofShape_88 fX5_214 hT.q0.o hT.q0.r0 ?_
          refine z_iload_n dX5_ofShape_91 rfl ?_
          refine z_iaN dX5_ofShape_92 hT.q0.a0 (by omega) (by decide) ?_
          exact z_iret dX5_ofShape_93 ⟨Nat.le_refl _, Nat.le_refl _⟩ rfl ⟨rfl, rfl, rfl, _, ⟨((hv.2.1 j sh hsh).1).trans (by rw [aOfShape, zif_t h8, zif_t (by omega), hq]; unfold ofS; rw [hja, hg]; rfl), hI, fun p _ => rfl⟩, rfl⟩
        · refine z_tIn (tgt := 94) dX5_ofShape_38 (by omega) (by omega) (by rw [hq]; rfl) (by decide) ?_
          refine z_aload_n dX5_ofShape_94 rfl ?_
          refine z_getr dX5_ofShape_95 fX5_10 hT.o hT.r0 ?_
          refine z_getr dX5_ofShape_98 fX5_217 hT.q0.o hT.q0.r1 ?_
          refine z_iload_n dX5_ofShape_101 rfl ?_
          refine z_iaN dX5_ofShape_102 hT.q0.a1 (by omega) (by decide) ?_
          exact z_iret dX5_ofShape_103 ⟨Nat.le_refl _, Nat.le_refl _⟩ rfl ⟨rfl, rfl, rfl, _, ⟨((hv.2.1 j sh hsh).2.1).trans (by rw [aOfShape, zif_t h8, zif_t (by omega), hq]; unfold ofS; rw [hja, hg]; rfl), hI, fun p _ => rfl⟩, rfl⟩
        · refine z_tIn (tgt := 104) dX5_ofShape_38 (by omega) (by omega) (by rw [hq]; rfl) (by decide) ?_
          refine z_aload_n dX5_ofShape_104 rfl ?_
          refine z_getr dX5_ofShape_105 fX5_10 hT.o hT.r0 ?_
          refine z_getr dX5_ofShape_108 fX5_220 hT.q0.o hT.q0.r2 ?_
          refine z_iload_n dX5_ofShape_111 rfl ?_
          refine z_iaN dX5_ofShape_112 hT.q0.a2 (by omega) (by decide) ?_
          exact z_iret dX5_ofShape_113 ⟨Nat.le_refl _, Nat.le_refl _⟩ rfl ⟨rfl, rfl, rfl, _, ⟨((hv.2.1 j sh hsh).2.2.1).trans (by rw [aOfShape, zif_t h8, zif_t (by omega), hq]; unfold ofS; rw [hja, hg]; rfl), hI, fun p _ => rfl⟩, rfl⟩
        · refine z_tIn (tgt := 114) dX5_ofShape_38 (by omega) (by omega) (by rw [hq]; rfl) (by decide) ?_
          refine z_aload_n dX5_ofShape_114 rfl ?_
          refine z_getr dX5_ofShape_115 fX5_10 hT.o hT.r0 ?_
          refine z_getr dX5_ofShape_118 fX5_223 hT.q0.o hT.q0.r3 ?_
          refine z_iload_n dX5_ofShape_121 rfl ?_
          refine z_iaN dX5_ofShape_122 hT.q0.a3 (by omega) (by decide) ?_
          exact z_iret dX5_ofShape_123 ⟨Nat.le_refl _, Nat.le_refl _⟩ rfl ⟨rfl, rfl, rfl, _, ⟨((hv.2.1 j sh hsh).2.2.2.1).trans (by rw [aOfShape, zif_t h8, zif_t (by omega), hq]; unfold ofS; rw [hja, hg]; rfl), hI, fun p _ => rfl⟩, rfl⟩
        · refine z_tIn (tgt := 124) dX5_ofShape_38 (by omega) (by omega) (by rw [hq]; rfl) (by decide) ?_
          refine z_aload_n dX5_ofShape_124 rfl ?_
          refine z_getr dX5_ofShape_125 fX5_10 hT.o hT.r0 ?_
          refine z_iload_n dX5_ofShape_128 rfl ?_
          refine z_callV1p dX5_ofShape_129 mX5_107 hT.q0.o (c_areaOf I L hT.q0 hv ho hsh) (by decide) (Nat.le_of_ble_eq_true rfl) ⟨Nat.le_refl _, Nat.le_refl _⟩ ?_
          exact z_iret dX5_ofShape_132 ⟨Nat.le_refl _, Nat.le_refl _⟩ rfl ⟨rfl, rfl, rfl, _, ⟨by rw [aOfShape, zif_t h8, zif_t (by omega), hq]; unfold ofS; rw [hja, hg]; rfl, hI, fun p _ => rfl⟩, rfl⟩
        · refine z_tIn (tgt := 133) dX5_ofShape_38 (by omega) (by omega) (by rw [hq]; rfl) (by decide) ?_
          refine z_iload_n dX5_ofShape_133 rfl ?_
          refine z_callS1p dX5_ofShape_134 mX5_226 (c_bitCountC I L o5 o2) (by decide) (Nat.le_of_ble_eq_true rfl) ⟨Nat.le_refl _, Nat.le_refl _⟩ ?_
          exact z_iret dX5_ofShape_137 ⟨Nat.le_refl _, Nat.le_refl _⟩ rfl ⟨rfl, rfl, rfl, _, ⟨by rw [aOfShape, zif_t h8, zif_t (by omega), hq]; unfold ofS; rw [hja, hg]; rfl, hI, fun p _ => rfl⟩, rfl⟩
        · refine z_tIn (tgt := 138) dX5_ofShape_38 (by omega) (by omega) (by rw [hq]; rfl) (by decide) ?_
          refine z_aload_n dX5_ofShape_138 rfl ?_
          refine z_getr dX5_ofShape_139 fX5_10 hT.o hT.r0 ?_
          refine z_iload_n dX5_ofShape_142 rfl ?_
          refine z_callV1p dX5_ofShape_143 mX5_231 hT.q0.o (c_piecesAhead I L hT.q0 hv ho _) (by decide) (Nat.le_of_ble_eq_true rfl) ⟨Nat.le_refl _, Nat.le_refl _⟩ ?_
          rw [htk]
          exact z_iret dX5_ofShape_146 ⟨Nat.le_refl _, Nat.le_refl _⟩ rfl ⟨rfl, rfl, rfl, _, ⟨by rw [aOfShape, zif_t h8, zif_t (by omega), hq]; unfold ofS; rw [hja, hg]; rfl, hI, fun p _ => rfl⟩, rfl⟩
        · refine z_tIn (tgt := 147) dX5_ofShape_38 (by omega) (by omega) (by rw [hq]; rfl) (by decide) ?_
          refine z_iload_n dX5_ofShape_147 rfl ?_
          refine z_callS1p dX5_ofShape_148 mX5_234 (c_lowestOf I L hcL) (by decide) (Nat.le_of_ble_eq_true rfl) ⟨Nat.le_refl _, Nat.le_refl _⟩ ?_
          exact z_iret dX5_ofShape_151 ⟨Nat.le_refl _, Nat.le_refl _⟩ rfl ⟨rfl, rfl, rfl, _, ⟨by rw [aOfShape, zif_t h8, zif_t (by omega), hq]; unfold ofS; rw [hja, hg]; rfl, hI, fun p _ => rfl⟩, rfl⟩
      · refine z_ldc dX5_ofShape_24 kX5_129 ?_
        exact z_iret dX5_ofShape_26 ⟨Nat.le_refl _, Nat.le_refl _⟩ rfl ⟨rfl, rfl, rfl, _, ⟨by rw [aOfShape, zif_t h8, zif_f (by omega)], hI, fun p _ => rfl⟩, rfl⟩
  · refine z_ldc dX5_ofShape_11 kX5_94 ?_
    exact z_iret dX5_ofShape_13 ⟨Nat.le_refl _, Nat.le_refl _⟩ rfl ⟨rfl, rfl, rfl, _, ⟨by rw [aOfShape, zif_f h8], hI, fun p _ => rfl⟩, rfl⟩
set_option maxRecDepth 100000 in
set_option maxHeartbeats 4000000 in
theorem t_ofPiece {S : zS} {R : zMR} (I : zMI) (L : zML) {s : St} (hT : zTM S R) (hI : zCI I s) (a w : Int32) : zM0 yX5_ofPiece cX5_ofPiece 3 (some .int) 22 [.ref 0, .int a, .int w] S I L R (zPi L (fun I2 r => r = aOfPiece s a.toInt w.toInt ∧ zCI I2 s ∧ ∀ p, 96 ≤ p → I2 p = I p)) := by
  refine zM0_of (own := RX5) (lv := [some (.ref 0), some (.int a), some (.int w)]) rfl (by decide) rfl rfl ?_
  obtain ⟨hv, ho, hP, hk, hr⟩ := id hI
  obtain ⟨nx, hh⟩ := id hr.2.2.1
  have hl := ho.1
  have hnp := ho.2.2.1
  have hps := pcs_ok ho
  have hpl := pcs_len s.1.1
  have hm9 := (bst_m ho).2
  refine z_aload_n dX5_ofPiece_0 rfl ?_
  refine z_getr dX5_ofPiece_1 fX5_19 hT.o hT.r1 ?_
  refine z_iload_n dX5_ofPiece_4 rfl ?_
  refine z_callV1p dX5_ofPiece_5 mX5_140 hT.q1.o (c_has I L hT.q1 hP.1 hps _) (by decide) (Nat.le_of_ble_eq_true rfl) ⟨Nat.le_refl _, Nat.le_refl _⟩ ?_
  refine z_if_neB (tgt := 14) dX5_ofPiece_8 (by decide) (fun h8 => ?_) (fun h8 => ?_)
  · obtain ⟨p, hp, rfl⟩ := nI_of3 (x := a) (n := (pcs s.1.1).length) h8.1 h8.2 (by omega)
    have hpa : (nI p).toInt = (p : Int) := nI_T (by omega)
    have h8 : isP s.1 (nI p).toInt := h8
    have hc := hP.1.2 p _ (getP hp)
    refine z_iload_n dX5_ofPiece_14 rfl ?_
    refine z_if_lt (tgt := 24) dX5_ofPiece_15 (by decide) (fun h15 => ?_) (fun h15 => ?_)
    · refine z_ldc dX5_ofPiece_24 kX5_129 ?_
      exact z_iret dX5_ofPiece_26 ⟨Nat.le_refl _, Nat.le_refl _⟩ rfl ⟨rfl, rfl, rfl, _, ⟨by rw [aOfPiece, zif_t h8, zif_f (by omega)], hI, fun p _ => rfl⟩, rfl⟩
    · refine z_iload_n dX5_ofPiece_18 rfl ?_
      refine z_bipush (nI 7) dX5_ofPiece_19 (by decide) ?_
      refine z_icmp_leIN (tgt := 27) dX5_ofPiece_21 (by decide) (by omega) (fun h21 => ?_) (fun h21 => ?_)
      · refine z_iload_n dX5_ofPiece_27 rfl ?_
        rcases (show (w.toInt < 0 ∨ 6 < w.toInt) ∨ w.toInt = 0 ∨ w.toInt = 1 ∨ w.toInt = 2 ∨ w.toInt = 3 ∨ w.toInt = 4 ∨ w.toInt = 5 ∨ w.toInt = 6 from by omega) with hq | hq | hq | hq | hq | hq | hq | hq
        · refine z_tOut (tgt := 143) dX5_ofPiece_28 hq (by decide) ?_
          refine z_aload_n dX5_ofPiece_143 rfl ?_
          refine z_getr dX5_ofPiece_144 fX5_28 hT.o hT.r2 ?_
          refine z_iload_n dX5_ofPiece_147 rfl ?_
          refine z_callV1p dX5_ofPiece_148 mX5_254 hT.q2.o (c_partOf I L hT.q2 hP hps p hp) (by decide) (Nat.le_of_ble_eq_true rfl) ⟨Nat.le_refl _, Nat.le_refl _⟩ ?_
          have hq : w.toInt = 7 := by omega
          exact z_iret dX5_ofPiece_151 ⟨Nat.le_refl _, Nat.le_refl _⟩ rfl ⟨rfl, rfl, rfl, _, ⟨by rw [aOfPiece, zif_t h8, zif_t (by omega), hq]; unfold ofP; rw [hpa]; rfl, hI, fun p _ => rfl⟩, rfl⟩
        · refine z_tIn (tgt := 72) dX5_ofPiece_28 (by omega) (by omega) (by rw [hq]; rfl) (by decide) ?_
          refine z_aload_n dX5_ofPiece_72 rfl ?_
          refine z_getr dX5_ofPiece_73 fX5_19 hT.o hT.r1 ?_
          refine z_getr dX5_ofPiece_76 fX5_240 hT.q1.o hT.q1.r0 ?_
          refine z_iload_n dX5_ofPiece_79 rfl ?_
          refine z_iaN dX5_ofPiece_80 hT.q1.a0 (by omega) (by decide) ?_
          exact z_iret dX5_ofPiece_81 ⟨Nat.le_refl _, Nat.le_refl _⟩ rfl ⟨rfl, rfl, rfl, _, ⟨(hc.1).trans (by rw [aOfPiece, zif_t h8, zif_t (by omega), hq]; unfold ofP; rw [hpa]; rfl), hI, fun p _ => rfl⟩, rfl⟩
        · refine z_tIn (tgt := 82) dX5_ofPiece_28 (by omega) (by omega) (by rw [hq]; rfl) (by decide) ?_
          refine z_aload_n dX5_ofPiece_82 rfl ?_
          refine z_getr dX5_ofPiece_83 fX5_19 hT.o hT.r1 ?_
          refine z_getr dX5_ofPiece_86 fX5_243 hT.q1.o hT.q1.r1 ?_
          refine z_iload_n dX5_ofPiece_89 rfl ?_
          refine z_iaN dX5_ofPiece_90 hT.q1.a1 (by omega) (by decide) ?_
          exact z_iret dX5_ofPiece_91 ⟨Nat.le_refl _, Nat.le_refl _⟩ rfl ⟨rfl, rfl, rfl, _, ⟨(hc.2.1).trans (by rw [aOfPiece, zif_t h8, zif_t (by omega), hq]; unfold ofP; rw [hpa]; rfl), hI, fun p _ => rfl⟩, rfl⟩
        · refine z_tIn (tgt := 92) dX5_ofPiece_28 (by omega) (by omega) (by rw [hq]; rfl) (by decide) ?_
          refine z_aload_n dX5_ofPiece_92 rfl ?_
          refine z_getr dX5_ofPiece_93 fX5_19 hT.o hT.r1 ?_
          refine z_getr dX5_ofPiece_96 fX5_244 hT.q1.o hT.q1.r2 ?_
          refine z_iload_n dX5_ofPiece_99 rfl ?_
          refine z_iaN dX5_ofPiece_100 hT.q1.a2 (by omega) (by decide) ?_
          exact z_iret dX5_ofPiece_101 ⟨Nat.le_refl _, Nat.le_refl _⟩ rfl ⟨rfl, rfl, rfl, _, ⟨(hc.2.2.1).trans (by rw [aOfPiece, zif_t h8, zif_t (by omega), hq]; unfold ofP; rw [hpa]; rfl), hI, fun p _ => rfl⟩, rfl⟩
        · refine z_tIn (tgt := 102) dX5_ofPiece_28 (by omega) (by omega) (by rw [hq]; rfl) (by decide) ?_
          refine z_aload_n dX5_ofPiece_102 rfl ?_
          refine z_getr dX5_ofPiece_103 fX5_19 hT.o hT.r1 ?_
          refine z_getr dX5_ofPiece_106 fX5_245 hT.q1.o hT.q1.r3 ?_
          refine z_iload_n dX5_ofPiece_109 rfl ?_
          refine z_iaN dX5_ofPiece_110 hT.q1.a3 (by omega) (by decide) ?_
          exact z_iret dX5_ofPiece_111 ⟨Nat.le_refl _, Nat.le_refl _⟩ rfl ⟨rfl, rfl, rfl, _, ⟨(hc.2.2.2.1).trans (by rw [aOfPiece, zif_t h8, zif_t (by omega), hq]; unfold ofP; rw [hpa]; rfl), hI, fun p _ => rfl⟩, rfl⟩
        · refine z_tIn (tgt := 112) dX5_ofPiece_28 (by omega) (by omega) (by rw [hq]; rfl) (by decide) ?_
          refine z_aload_n dX5_ofPiece_112 rfl ?_
          refine z_callV0r dX5_ofPiece_113 mX5_150 hT.o (c_bestNow I L hT hI) (by decide) (Nat.le_of_ble_eq_true rfl) ⟨Nat.le_refl _, Nat.le_refl _⟩ (fun J hJ => ?_)
          refine z_geti dX5_ofPiece_116 fX5_248 hT.q3.o ?_
          refine z_top (hJ.2.2.2.1) ?_
          refine z_iload_n dX5_ofPiece_119 rfl ?_
          refine z_bit dX5_ofPiece_120 dX5_ofPiece_121 (by decide) dX5_ofPiece_122 (by omega) (by omega) ?_
          exact z_iret dX5_ofPiece_123 ⟨Nat.le_refl _, Nat.le_refl _⟩ rfl ⟨rfl, rfl, rfl, _, ⟨by rw [aOfPiece, zif_t h8, zif_t (by omega), hq]; unfold ofP; rw [hpa]; rfl, hJ.1, fun p hp => hJ.2.2.2.2 p (by omega) (by omega)⟩, rfl⟩
        · refine z_tIn (tgt := 124) dX5_ofPiece_28 (by omega) (by omega) (by rw [hq]; rfl) (by decide) ?_
          refine z_aload_n dX5_ofPiece_124 rfl ?_
          refine z_getr dX5_ofPiece_125 fX5_10 hT.o hT.r0 ?_
          refine z_iload_n dX5_ofPiece_128 rfl ?_
          refine z_callV1p dX5_ofPiece_129 mX5_143 hT.q0.o (c_fixedMaskOf I L hT.q0 hv ho p (by omega)) (by decide) (Nat.le_of_ble_eq_true rfl) ⟨Nat.le_refl _, Nat.le_refl _⟩ ?_
          exact z_iret dX5_ofPiece_132 ⟨Nat.le_refl _, Nat.le_refl _⟩ rfl ⟨rfl, rfl, rfl, _, ⟨by rw [aOfPiece, zif_t h8, zif_t (by omega), hq]; unfold ofP; rw [hpa]; rfl, hI, fun p _ => rfl⟩, rfl⟩
        · refine z_tIn (tgt := 133) dX5_ofPiece_28 (by omega) (by omega) (by rw [hq]; rfl) (by decide) ?_
          refine z_aload_n dX5_ofPiece_133 rfl ?_
          refine z_getr dX5_ofPiece_134 fX5_19 hT.o hT.r1 ?_
          refine z_getr dX5_ofPiece_137 fX5_251 hT.q1.o hT.q1.r4 ?_
          refine z_iload_n dX5_ofPiece_140 rfl ?_
          refine z_iaN dX5_ofPiece_141 hT.q1.a4 (by omega) (by decide) ?_
          exact z_iret dX5_ofPiece_142 ⟨Nat.le_refl _, Nat.le_refl _⟩ rfl ⟨rfl, rfl, rfl, _, ⟨((hP.2.2.2 p hp).1).trans (by rw [aOfPiece, zif_t h8, zif_t (by omega), hq]; unfold ofP; rw [hpa]; rfl), hI, fun p _ => rfl⟩, rfl⟩
      · refine z_ldc dX5_ofPiece_24 kX5_129 ?_
        exact z_iret dX5_ofPiece_26 ⟨Nat.le_refl _, Nat.le_refl _⟩ rfl ⟨rfl, rfl, rfl, _, ⟨by rw [aOfPiece, zif_t h8, zif_f (by omega)], hI, fun p _ => rfl⟩, rfl⟩
  · refine z_ldc dX5_ofPiece_11 kX5_94 ?_
    exact z_iret dX5_ofPiece_13 ⟨Nat.le_refl _, Nat.le_refl _⟩ rfl ⟨rfl, rfl, rfl, _, ⟨by rw [aOfPiece]; exact (zif_f h8).symm, hI, fun p _ => rfl⟩, rfl⟩
set_option maxRecDepth 100000 in
set_option maxHeartbeats 4000000 in
theorem c_areTwo {S : zS} {R : zMR} (I : zMI) (L : zML) {s : St} (hT : zTM S R) (hI : zCI I s) (a c : Int32) : zM0 yX5_areTwoPieces cX5_areTwoPieces 3 (some .boolean) 2 [.ref 0, .int a, .int c] S I L R (zPure I L (zb (two s.1 a.toInt c.toInt))) := by
  refine zM0_of (own := RX5) (lv := [some (.ref 0), some (.int a), some (.int c)]) rfl (by decide) rfl rfl ?_
  obtain ⟨hv, ho, hP, hk, hr⟩ := id hI
  obtain ⟨nx, hh⟩ := id hr.2.2.1
  have hl := ho.1
  have hnp := ho.2.2.1
  have hps := pcs_ok ho
  have hpl := pcs_len s.1.1
  refine z_aload_n dX5_areTwoPieces_0 rfl ?_
  refine z_getr dX5_areTwoPieces_1 fX5_19 hT.o hT.r1 ?_
  refine z_iload_n dX5_areTwoPieces_4 rfl ?_
  refine z_callV1p dX5_areTwoPieces_5 mX5_140 hT.q1.o (c_has I L hT.q1 hP.1 hps _) (by decide) (Nat.le_of_ble_eq_true rfl) ⟨Nat.le_refl _, Nat.le_refl _⟩ ?_
  refine z_if_eqB (tgt := 31) dX5_areTwoPieces_8 (by decide) (fun h8 => ?_) (fun h8 => ?_)
  · refine z_iconst (nI 0) dX5_areTwoPieces_31 (by decide) ?_
    exact z_iret dX5_areTwoPieces_32 ⟨Nat.le_refl _, Nat.le_refl _⟩ (by first | exact zb_nar _ | rfl) ⟨rfl, rfl, rfl, rfl, congrArg (fun z => some (Value.int z)) (by first | exact zb_1 (by unfold two isP; first | (intro q; exact h8 q.1) | (intro q; exact h19 q.2.1) | (intro q; exact q.2.2 (by rw [h24])) | exact ⟨h8, h19, fun q => h24 (by rw [toInt_eq q, ← zi_of])⟩) | exact zb_0 (by unfold two isP; first | (intro q; exact h8 q.1) | (intro q; exact h19 q.2.1) | (intro q; exact q.2.2 (by rw [h24])) | exact ⟨h8, h19, fun q => h24 (by rw [toInt_eq q, ← zi_of])⟩) | exact zb_c (by unfold two isP; first | (intro q; exact h8 q.1) | (intro q; exact h19 q.2.1) | (intro q; exact q.2.2 (by rw [h24])) | exact ⟨h8, h19, fun q => h24 (by rw [toInt_eq q, ← zi_of])⟩))⟩
  · refine z_aload_n dX5_areTwoPieces_11 rfl ?_
    refine z_getr dX5_areTwoPieces_12 fX5_19 hT.o hT.r1 ?_
    refine z_iload_n dX5_areTwoPieces_15 rfl ?_
    refine z_callV1p dX5_areTwoPieces_16 mX5_140 hT.q1.o (c_has I L hT.q1 hP.1 hps _) (by decide) (Nat.le_of_ble_eq_true rfl) ⟨Nat.le_refl _, Nat.le_refl _⟩ ?_
    refine z_if_eqB (tgt := 31) dX5_areTwoPieces_19 (by decide) (fun h19 => ?_) (fun h19 => ?_)
    · refine z_iconst (nI 0) dX5_areTwoPieces_31 (by decide) ?_
      exact z_iret dX5_areTwoPieces_32 ⟨Nat.le_refl _, Nat.le_refl _⟩ (by first | exact zb_nar _ | rfl) ⟨rfl, rfl, rfl, rfl, congrArg (fun z => some (Value.int z)) (by first | exact zb_1 (by unfold two isP; first | (intro q; exact h8 q.1) | (intro q; exact h19 q.2.1) | (intro q; exact q.2.2 (by rw [h24])) | exact ⟨h8, h19, fun q => h24 (by rw [toInt_eq q, ← zi_of])⟩) | exact zb_0 (by unfold two isP; first | (intro q; exact h8 q.1) | (intro q; exact h19 q.2.1) | (intro q; exact q.2.2 (by rw [h24])) | exact ⟨h8, h19, fun q => h24 (by rw [toInt_eq q, ← zi_of])⟩) | exact zb_c (by unfold two isP; first | (intro q; exact h8 q.1) | (intro q; exact h19 q.2.1) | (intro q; exact q.2.2 (by rw [h24])) | exact ⟨h8, h19, fun q => h24 (by rw [toInt_eq q, ← zi_of])⟩))⟩
    · refine z_iload_n dX5_areTwoPieces_22 rfl ?_
      refine z_iload_n dX5_areTwoPieces_23 rfl ?_
      refine z_icmp_eq (tgt := 31) dX5_areTwoPieces_24 (by decide) (fun h24 => ?_) (fun h24 => ?_)
      · refine z_iconst (nI 0) dX5_areTwoPieces_31 (by decide) ?_
        exact z_iret dX5_areTwoPieces_32 ⟨Nat.le_refl _, Nat.le_refl _⟩ (by first | exact zb_nar _ | rfl) ⟨rfl, rfl, rfl, rfl, congrArg (fun z => some (Value.int z)) (by first | exact zb_1 (by unfold two isP; first | (intro q; exact h8 q.1) | (intro q; exact h19 q.2.1) | (intro q; exact q.2.2 (by rw [h24])) | exact ⟨h8, h19, fun q => h24 (by rw [toInt_eq q, ← zi_of])⟩) | exact zb_0 (by unfold two isP; first | (intro q; exact h8 q.1) | (intro q; exact h19 q.2.1) | (intro q; exact q.2.2 (by rw [h24])) | exact ⟨h8, h19, fun q => h24 (by rw [toInt_eq q, ← zi_of])⟩) | exact zb_c (by unfold two isP; first | (intro q; exact h8 q.1) | (intro q; exact h19 q.2.1) | (intro q; exact q.2.2 (by rw [h24])) | exact ⟨h8, h19, fun q => h24 (by rw [toInt_eq q, ← zi_of])⟩))⟩
      · refine z_iconst (nI 1) dX5_areTwoPieces_27 (by decide) ?_
        refine z_goto (tgt := 32) dX5_areTwoPieces_28 (by decide) ?_
        exact z_iret dX5_areTwoPieces_32 ⟨Nat.le_refl _, Nat.le_refl _⟩ (by first | exact zb_nar _ | rfl) ⟨rfl, rfl, rfl, rfl, congrArg (fun z => some (Value.int z)) (by first | exact zb_1 (by unfold two isP; first | (intro q; exact h8 q.1) | (intro q; exact h19 q.2.1) | (intro q; exact q.2.2 (by rw [h24])) | exact ⟨h8, h19, fun q => h24 (by rw [toInt_eq q, ← zi_of])⟩) | exact zb_0 (by unfold two isP; first | (intro q; exact h8 q.1) | (intro q; exact h19 q.2.1) | (intro q; exact q.2.2 (by rw [h24])) | exact ⟨h8, h19, fun q => h24 (by rw [toInt_eq q, ← zi_of])⟩) | exact zb_c (by unfold two isP; first | (intro q; exact h8 q.1) | (intro q; exact h19 q.2.1) | (intro q; exact q.2.2 (by rw [h24])) | exact ⟨h8, h19, fun q => h24 (by rw [toInt_eq q, ← zi_of])⟩))⟩
set_option maxRecDepth 100000 in
set_option maxHeartbeats 4000000 in
theorem t_gap {S : zS} {R : zMR} (I : zMI) (L : zML) {s : St} (hT : zTM S R) (hI : zCI I s) (a c : Int32) : zM0 yX5_gap cX5_gap 3 (some .int) 3 [.ref 0, .int a, .int c] S I L R (zPi L (fun I2 r => r = aGap s a.toInt c.toInt ∧ zCI I2 s ∧ ∀ p, 96 ≤ p → I2 p = I p)) := by
  refine zM0_of (own := RX5) (lv := [some (.ref 0), some (.int a), some (.int c)]) rfl (by decide) rfl rfl ?_
  obtain ⟨hv, ho, hP, hk, hr⟩ := id hI
  obtain ⟨nx, hh⟩ := id hr.2.2.1
  have hl := ho.1
  have hnp := ho.2.2.1
  have hps := pcs_ok ho
  have hpl := pcs_len s.1.1
  refine z_aload_n dX5_gap_0 rfl ?_
  refine z_iload_n dX5_gap_1 rfl ?_
  refine z_iload_n dX5_gap_2 rfl ?_
  refine z_callV2p dX5_gap_3 mX5_257 hT.o (c_areTwo I L hT hI _ _) (by decide) (Nat.le_of_ble_eq_true rfl) ⟨Nat.le_refl _, Nat.le_refl _⟩ ?_
  refine z_if_neB (tgt := 12) dX5_gap_6 (by decide) (fun h6 => ?_) (fun h6 => ?_)
  · obtain ⟨p, hp, rfl⟩ := nI_of3 (x := a) (n := (pcs s.1.1).length) h6.1.1 h6.1.2 (by omega)
    obtain ⟨q, hq, rfl⟩ := nI_of3 (x := c) (n := (pcs s.1.1).length) h6.2.1.1 h6.2.1.2 (by omega)
    have hpa : (nI p).toInt = (p : Int) := nI_T (by omega)
    have hqa : (nI q).toInt = (q : Int) := nI_T (by omega)
    refine z_aload_n dX5_gap_12 rfl ?_
    refine z_getr dX5_gap_13 fX5_19 hT.o hT.r1 ?_
    refine z_iload_n dX5_gap_16 rfl ?_
    refine z_iload_n dX5_gap_17 rfl ?_
    refine z_callV2p dX5_gap_18 mX5_260 hT.q1.o (c_gapOf I L hT.q1 hP.1 hps p q hp hq) (by decide) (Nat.le_of_ble_eq_true rfl) ⟨Nat.le_refl _, Nat.le_refl _⟩ ?_
    exact z_iret dX5_gap_21 ⟨Nat.le_refl _, Nat.le_refl _⟩ rfl ⟨rfl, rfl, rfl, _, ⟨by rw [aGap, zif_t h6, hpa, hqa]; rfl, hI, fun p _ => rfl⟩, rfl⟩
  · refine z_ldc dX5_gap_9 kX5_94 ?_
    exact z_iret dX5_gap_11 ⟨Nat.le_refl _, Nat.le_refl _⟩ rfl ⟨rfl, rfl, rfl, _, ⟨by rw [aGap, zif_f h6], hI, fun p _ => rfl⟩, rfl⟩
set_option maxRecDepth 100000 in
set_option maxHeartbeats 4000000 in
theorem t_at {S : zS} {R : zMR} (I : zMI) (L : zML) {s : St} (hT : zTM S R) (hI : zCI I s) (a c : Int32) : zM0 yX5_at cX5_at 3 (some .int) 2 [.ref 0, .int a, .int c] S I L R (zPi L (fun I2 r => r = aAt s a.toInt c.toInt ∧ zCI I2 s ∧ ∀ p, 96 ≤ p → I2 p = I p)) := by
  refine zM0_of (own := RX5) (lv := [some (.ref 0), some (.int a), some (.int c)]) rfl (by decide) rfl rfl ?_
  obtain ⟨hv, ho, hP, hk, hr⟩ := id hI
  obtain ⟨nx, hh⟩ := id hr.2.2.1
  have hl := ho.1
  have hnp := ho.2.2.1
  have hps := pcs_ok ho
  have hpl := pcs_len s.1.1
  refine z_iload_n dX5_at_0 rfl ?_
  refine z_callS1p dX5_at_1 mX5_263 (c_isPlace I L _) (by decide) (Nat.le_of_ble_eq_true rfl) ⟨Nat.le_refl _, Nat.le_refl _⟩ ?_
  refine z_if_eqB (tgt := 14) dX5_at_4 (by decide) (fun h4 => ?_) (fun h4 => ?_)
  · refine z_ldc dX5_at_14 kX5_129 ?_
    exact z_iret dX5_at_16 ⟨Nat.le_refl _, Nat.le_refl _⟩ rfl ⟨rfl, rfl, rfl, _, ⟨by rw [aAt, zif_f (by omega)], hI, fun p _ => rfl⟩, rfl⟩
  · refine z_iload_n dX5_at_7 rfl ?_
    refine z_callS1p dX5_at_8 mX5_263 (c_isPlace I L _) (by decide) (Nat.le_of_ble_eq_true rfl) ⟨Nat.le_refl _, Nat.le_refl _⟩ ?_
    refine z_if_neB (tgt := 17) dX5_at_11 (by decide) (fun h11 => ?_) (fun h11 => ?_)
    · refine z_aload_n dX5_at_17 rfl ?_
      refine z_getr dX5_at_18 fX5_19 hT.o hT.r1 ?_
      refine z_iload_n dX5_at_21 rfl ?_
      refine z_iload_n dX5_at_22 rfl ?_
      refine z_callV2p dX5_at_23 mX5_266 hT.q1.o (c_pieceAt I L hT.q1 hP.1 hps _ _) (by decide) (Nat.le_of_ble_eq_true rfl) ⟨Nat.le_refl _, Nat.le_refl _⟩ ?_
      exact z_iret dX5_at_26 ⟨Nat.le_refl _, Nat.le_refl _⟩ rfl ⟨rfl, rfl, rfl, _, ⟨by rw [aAt, zif_t ⟨h4, h11⟩], hI, fun p _ => rfl⟩, rfl⟩
    · refine z_ldc dX5_at_14 kX5_129 ?_
      exact z_iret dX5_at_16 ⟨Nat.le_refl _, Nat.le_refl _⟩ rfl ⟨rfl, rfl, rfl, _, ⟨by rw [aAt, zif_f (by omega)], hI, fun p _ => rfl⟩, rfl⟩
set_option maxRecDepth 100000 in
set_option maxHeartbeats 4000000 in
theorem t_judge {S : zS} {R : zMR} (I : zMI) (L : zML) {s : St} (hT : zTM S R) (hI : zCI I s) (a : Int32) : zM0 yX5_judge cX5_judge 2 (some .int) 5 [.ref 0, .int a] S I L R (zPi L (fun I2 r => r = aJudge s a.toInt ∧ zCI I2 s ∧ ∀ p, 96 ≤ p → I2 p = I p)) := by
  refine zM0_of (own := RX5) (lv := [some (.ref 0), some (.int a)]) rfl (by decide) rfl rfl ?_
  obtain ⟨hv, ho, hP, hk, hr⟩ := id hI
  obtain ⟨nx, hh⟩ := id hr.2.2.1
  have hl := ho.1
  have hnp := ho.2.2.1
  have hps := pcs_ok ho
  have hpl := pcs_len s.1.1
  have hall := all_lt hps.1
  have h2p : 0 < 2 ^ (pcs s.1.1).length := Nat.two_pow_pos _
  have h2i : ((2 ^ (pcs s.1.1).length : Nat) : Int) = 2 ^ (pcs s.1.1).length := by simp
  refine z_iload_n dX5_judge_0 rfl ?_
  refine z_if_lt (tgt := 15) dX5_judge_1 (by decide) (fun h1 => ?_) (fun h1 => ?_)
  · refine z_ldc dX5_judge_15 kX5_129 ?_
    exact z_iret dX5_judge_17 ⟨Nat.le_refl _, Nat.le_refl _⟩ rfl ⟨rfl, rfl, rfl, _, ⟨by rw [aJudge, zif_f (by omega)], hI, fun p _ => rfl⟩, rfl⟩
  · refine z_iload_n dX5_judge_4 rfl ?_
    refine z_aload_n dX5_judge_5 rfl ?_
    refine z_getr dX5_judge_6 fX5_19 hT.o hT.r1 ?_
    refine z_callV0p dX5_judge_9 mX5_269 hT.q1.o (c_all I L hT.q1 hP.1 hps) (by decide) (Nat.le_of_ble_eq_true rfl) ⟨Nat.le_refl _, Nat.le_refl _⟩ ?_
    refine z_icmp_leIN (tgt := 18) dX5_judge_12 (by decide) (by omega) (fun h12 => ?_) (fun h12 => ?_)
    · obtain ⟨m, hm, rfl⟩ := nI_of3 (x := a) (n := 16384) h1 (by omega) (by omega)
      have hma : (nI m).toInt = (m : Int) := nI_T (by omega)
      refine z_aload_n dX5_judge_18 rfl ?_
      refine z_getr dX5_judge_19 fX5_19 hT.o hT.r1 ?_
      refine z_iload_n dX5_judge_22 rfl ?_
      refine z_callV1p dX5_judge_23 mX5_272 hT.q1.o (c_costOf I L hT.q1 hP hps m (by omega)) (by decide) (Nat.le_of_ble_eq_true rfl) ⟨Nat.le_refl _, Nat.le_refl _⟩ ?_
      exact z_iret dX5_judge_26 ⟨Nat.le_refl _, Nat.le_refl _⟩ rfl ⟨rfl, rfl, rfl, _, ⟨by rw [aJudge, zif_t (by omega), hma]; rfl, hI, fun p _ => rfl⟩, rfl⟩
    · refine z_ldc dX5_judge_15 kX5_129 ?_
      exact z_iret dX5_judge_17 ⟨Nat.le_refl _, Nat.le_refl _⟩ rfl ⟨rfl, rfl, rfl, _, ⟨by rw [aJudge, zif_f (by omega)], hI, fun p _ => rfl⟩, rfl⟩
set_option maxRecDepth 100000 in
set_option maxHeartbeats 4000000 in
theorem c_costOfTried {S : zS} {R : zMR} (I : zMI) (L : zML) {w : Ly} {u : Nat} (hT : zTM S R) (hw : zCLy I 18 w) (how : lyOk w) (hu2 : I 33 3 = nI u) (hu1 : u ≤ 8000) : zM0 yX5_costOfTried cX5_costOfTried 1 (some .int) 21 [.ref 0] S I L R (zPi L (fun I2 r => r = nI (bst (lyZ w)).1 ∧ (∃ u, u ≤ 8000 ∧ I2 33 3 = nI u) ∧ ∀ p, (p < 24 ∨ 33 < p) → I2 p = I p)) := by
  refine zM0_of (own := RX5) (lv := [some (.ref 0)]) rfl (by decide) rfl rfl ?_
  refine z_aload_n dX5_costOfTried_0 rfl ?_
  refine z_getr dX5_costOfTried_1 fX5_46 hT.o hT.r6 ?_
  refine z_aload_n dX5_costOfTried_4 rfl ?_
  refine z_getr dX5_costOfTried_5 fX5_43 hT.o hT.r5 ?_
  refine z_callV1v dX5_costOfTried_8 mX5_291 hT.q6.o (c_lay I L hT.q6 hT.q5 hw how (by omega)) (by decide) (Nat.le_of_ble_eq_true rfl) ⟨Nat.le_refl _, Nat.le_refl _⟩ (fun J1 h1 => ?_)
  refine z_aload_n dX5_costOfTried_11 rfl ?_
  refine z_getr dX5_costOfTried_12 fX5_49 hT.o hT.r7 ?_
  refine z_iconst (nI 0) dX5_costOfTried_15 (by decide) ?_
  refine z_topV (show nI 0 = nI (fm (fun _ => 0)) from by rw [fm_0]) ?_
  refine z_iconst (nI 0) dX5_costOfTried_16 (by decide) ?_
  refine z_topV (show nI 0 = nI (fo (fun _ => 0)) from by rw [fo_0]) ?_
  refine z_callV2v dX5_costOfTried_17 mX5_297 hT.q7.o (c_find J1 L (fx := fun _ => 0) hT.q7 (pcs_ok how) how.2.2.2.2.2.2.1 how.2.2.2.2.2.2.2.1 (fun _ => by decide) (by omega) h1.1 (by rw [h1.2 33 (by omega)]; exact hu2) hu1) (by decide) (Nat.le_of_ble_eq_true rfl) ⟨Nat.le_refl _, Nat.le_refl _⟩ (fun J2 h2 => ?_)
  refine z_aload_n dX5_costOfTried_20 rfl ?_
  refine z_getr dX5_costOfTried_21 fX5_49 hT.o hT.r7 ?_
  refine z_geti dX5_costOfTried_24 fX5_154 hT.q7.o ?_
  refine z_top ((show _ = nI (bst (lyZ w)).1 from by rw [h2.1.2.2.2.1]; exact congrArg nI (srU_bst how.free u).1)) ?_
  exact z_iret dX5_costOfTried_27 ⟨Nat.le_refl _, Nat.le_refl _⟩ rfl ⟨rfl, rfl, rfl, _, ⟨rfl, ⟨_, srU_u how.free hu1, h2.1.2.2.2.2.2.1⟩, fun p hp => by rw [h2.2 p (by omega), h1.2 p (by omega)]⟩, rfl⟩
set_option maxRecDepth 100000 in
set_option maxHeartbeats 4000000 in
theorem t_wouldCut {S : zS} {R : zMR} (I : zMI) (L : zML) {s : St} (hT : zTM S R) (hI : zCI I s) (a z : Int32) : zM0 yX5_wouldCut cX5_wouldCut 4 (some .int) 22 [.ref 0, .int a, .int z] S I L R (zPi L (fun I2 r => r = aWCut s a.toInt z.toInt ∧ zCI I2 s ∧ ∀ p, 96 ≤ p → I2 p = I p)) := by
  refine zM0_of (own := RX5) (lv := [some (.ref 0), some (.int a), some (.int z), none]) rfl (by decide) rfl rfl ?_
  obtain ⟨hv, ho, hP, hk, hr⟩ := id hI
  obtain ⟨nx, hh⟩ := id hr.2.2.1
  have hl := ho.1
  have hnp := ho.2.2.1
  have hps := pcs_ok ho
  have hpl := pcs_len s.1.1
  refine z_aload_n dX5_wouldCut_0 rfl ?_
  refine z_getr dX5_wouldCut_1 fX5_10 hT.o hT.r0 ?_
  refine z_iload_n dX5_wouldCut_4 rfl ?_
  refine z_iload_n dX5_wouldCut_5 rfl ?_
  refine z_callV2p dX5_wouldCut_6 mX5_111 hT.q0.o (c_refusalOfCut I L hT.q0 hv ho _ _) (by decide) (Nat.le_of_ble_eq_true rfl) ⟨Nat.le_refl _, Nat.le_refl _⟩ ?_
  refine z_ist3 dX5_wouldCut_9 rfl ?_
  refine z_iload_n dX5_wouldCut_10 rfl ?_
  refine z_ldc dX5_wouldCut_11 kX5_146 ?_
  refine z_icmp_eq (tgt := 23) dX5_wouldCut_13 (by decide) (fun h13 => ?_) (fun h13 => ?_)
  · refine z_iconst (-1) dX5_wouldCut_23 (by decide) ?_
    exact z_iret dX5_wouldCut_24 ⟨Nat.le_refl _, Nat.le_refl _⟩ rfl ⟨rfl, rfl, rfl, _, ⟨by rw [aWCut, zif_t (by first | exact Or.inl h13 | exact Or.inr h20)], hI, fun p _ => rfl⟩, rfl⟩
  · refine z_iload_n dX5_wouldCut_16 rfl ?_
    refine z_ldcw dX5_wouldCut_17 kX5_275 ?_
    refine z_icmp_ne (tgt := 25) dX5_wouldCut_20 (by decide) (fun h20 => ?_) (fun h20 => ?_)
    · refine z_iload_n dX5_wouldCut_25 rfl ?_
      refine z_if_eq (tgt := 31) dX5_wouldCut_26 (by decide) (fun h26 => ?_) (fun h26 => ?_)
      · obtain ⟨hha, hx, hcc, hn14⟩ := rCut_0 h26
        obtain ⟨j, sh, rfl, hsh, hja, hg⟩ := has_nat hl hha
        have hj := getS_lt hsh
        obtain ⟨x, hx1, rfl⟩ := nI_of3 (x := z) (n := 15) hx.1 (by omega) (by omega)
        have hxa : (nI x).toInt = (x : Int) := nI_T (by omega)
        unfold canCut at hcc
        rw [hja, hg, hxa, Int.toNat_natCast] at hcc
        have hok := cut_len ho hsh (show sx sh ≤ x from by omega) (by omega) hcc.2.2.1 hcc.2.2.2 hn14
        have hci := cOk_ins (ho.sh hsh).2.2.2.2 (show sx sh ≤ x from by omega) (by omega) hcc.2.2.1 hcc.2.2.2
        have hnps := np_set (t := shC sh (insC x (sc sh))) hsh
        have hscl : (sc (shC sh (insC x (sc sh)))).length = (sc sh).length + 1 := hci.2
        have hok2 := ho.unS hok (by omega)
        obtain ⟨u, hu1, hu2⟩ := id hr.2.1
        refine z_aload_n dX5_wouldCut_31 rfl ?_
        refine z_getr dX5_wouldCut_32 fX5_43 hT.o hT.r5 ?_
        refine z_aload_n dX5_wouldCut_35 rfl ?_
        refine z_getr dX5_wouldCut_36 fX5_10 hT.o hT.r0 ?_
        refine z_callV1v dX5_wouldCut_39 mX5_276 hT.q5.o (c_become I L hT.q5 hT.q0 hv hl (by omega)) (by decide) (Nat.le_of_ble_eq_true rfl) ⟨Nat.le_refl _, Nat.le_refl _⟩ (fun J1 h1 => ?_)
        refine z_aload_n dX5_wouldCut_42 rfl ?_
        refine z_getr dX5_wouldCut_43 fX5_43 hT.o hT.r5 ?_
        refine z_getr dX5_wouldCut_46 fX5_115 hT.q5.o hT.q5.r4 ?_
        refine z_iload_n dX5_wouldCut_49 rfl ?_
        refine z_dup2 dX5_wouldCut_50 rfl rfl ?_
        refine z_iaN dX5_wouldCut_51 hT.q5.a4 (by omega) (by decide) ?_
        refine z_top ((h1.1.2.1 j sh hsh).2.2.2.2) ?_
        refine z_iconst (nI 1) dX5_wouldCut_52 (by decide) ?_
        refine z_iload_n dX5_wouldCut_53 rfl ?_
        refine z_shl1 dX5_wouldCut_54 (by omega) ?_
        refine z_iorN dX5_wouldCut_55 ?_
        rw [cm_ins (show x < 15 from hx1)]
        refine z_isN dX5_wouldCut_56 hT.q5.a4 (by omega) (by decide) ?_
        refine z_aload_n dX5_wouldCut_57 rfl ?_
        refine z_callV0i dX5_wouldCut_58 mX5_279 hT.o (c_costOfTried _ L hT (cuts_ok h1.1 hsh (insC x (sc sh))).1 hok2 (by rw [zu_nk (Or.inl (by omega)), h1.2 33 (by omega)]; exact hu2) hu1) (by decide) (Nat.le_of_ble_eq_true rfl) ⟨Nat.le_refl _, Nat.le_refl _⟩ (fun J9 v9 h9 => ?_)
        exact z_iret dX5_wouldCut_61 ⟨Nat.le_refl _, Nat.le_refl _⟩ rfl ⟨rfl, rfl, rfl, _, ⟨h9.1.trans (by rw [aWCut, zif_f (fun q => q.elim h13 h20), zif_t h26]; unfold shCt; rw [hja, hg, hxa, Int.toNat_natCast, Int.toNat_natCast]), zCI_tr hI (fun p hp => by rw [h9.2.2 p (by omega), zu_ne (by omega), h1.2 p (by omega)]) h9.2.1, fun p hp => by rw [h9.2.2 p (by omega), zu_ne (by omega), h1.2 p (by omega)]⟩, rfl⟩
      · refine z_iload_n dX5_wouldCut_29 rfl ?_
        exact z_iret dX5_wouldCut_30 ⟨Nat.le_refl _, Nat.le_refl _⟩ rfl ⟨rfl, rfl, rfl, _, ⟨by rw [aWCut, zif_f (fun q => q.elim h13 h20), zif_f h26], hI, fun p _ => rfl⟩, rfl⟩
    · refine z_iconst (-1) dX5_wouldCut_23 (by decide) ?_
      exact z_iret dX5_wouldCut_24 ⟨Nat.le_refl _, Nat.le_refl _⟩ rfl ⟨rfl, rfl, rfl, _, ⟨by rw [aWCut, zif_t (by first | exact Or.inl h13 | exact Or.inr h20)], hI, fun p _ => rfl⟩, rfl⟩
set_option maxRecDepth 100000 in
set_option maxHeartbeats 4000000 in
theorem t_wouldMove {S : zS} {R : zMR} (I : zMI) (L : zML) {s : St} (hT : zTM S R) (hI : zCI I s) (a dx dy : Int32) : zM0 yX5_wouldMove cX5_wouldMove 5 (some .int) 22 [.ref 0, .int a, .int dx, .int dy] S I L R (zPi L (fun I2 r => r = aWMove s a.toInt dx.toInt dy.toInt ∧ zCI I2 s ∧ ∀ p, 96 ≤ p → I2 p = I p)) := by
  refine zM0_of (own := RX5) (lv := [some (.ref 0), some (.int a), some (.int dx), some (.int dy), none]) rfl (by decide) rfl rfl ?_
  obtain ⟨hv, ho, hP, hk, hr⟩ := id hI
  obtain ⟨nx, hh⟩ := id hr.2.2.1
  have hl := ho.1
  have hnp := ho.2.2.1
  have hps := pcs_ok ho
  have hpl := pcs_len s.1.1
  refine z_aload_n dX5_wouldMove_0 rfl ?_
  refine z_getr dX5_wouldMove_1 fX5_10 hT.o hT.r0 ?_
  refine z_iload_n dX5_wouldMove_4 rfl ?_
  refine z_iload_n dX5_wouldMove_5 rfl ?_
  refine z_iload_n dX5_wouldMove_6 rfl ?_
  refine z_callV3p dX5_wouldMove_7 mX5_99 hT.q0.o (c_refusalOfStep I L hT.q0 hv ho _ _ _) (by decide) (Nat.le_of_ble_eq_true rfl) ⟨Nat.le_refl _, Nat.le_refl _⟩ ?_
  refine z_ist4 dX5_wouldMove_10 rfl ?_
  refine z_iload dX5_wouldMove_12 rfl ?_
  refine z_ldc dX5_wouldMove_14 kX5_146 ?_
  refine z_icmp_ne (tgt := 21) dX5_wouldMove_16 (by decide) (fun h16 => ?_) (fun h16 => ?_)
  · refine z_iload dX5_wouldMove_21 rfl ?_
    refine z_if_eq (tgt := 29) dX5_wouldMove_23 (by decide) (fun h23 => ?_) (fun h23 => ?_)
    · obtain ⟨hha, hst, hcs⟩ := rStep_0 h23
      obtain ⟨j, sh, rfl, hsh, hja, hg⟩ := has_nat hl hha
      have hj := getS_lt hsh
      unfold canStep at hcs
      rw [hja, hg] at hcs
      unfold steps at hst
      have hok := ho.move hsh hcs.1 hcs.2
      have hF := hcs.1
      unfold onF at hF
      have hnps := np_set (t := mv sh dx.toInt dy.toInt) hsh
      have hscl : (sc (mv sh dx.toInt dy.toInt)).length = (sc sh).length := by simp [mv, sc]
      have hok2 := ho.unS hok (by omega)
      obtain ⟨u, hu1, hu2⟩ := id hr.2.1
      refine z_aload_n dX5_wouldMove_29 rfl ?_
      refine z_getr dX5_wouldMove_30 fX5_43 hT.o hT.r5 ?_
      refine z_aload_n dX5_wouldMove_33 rfl ?_
      refine z_getr dX5_wouldMove_34 fX5_10 hT.o hT.r0 ?_
      refine z_callV1v dX5_wouldMove_37 mX5_276 hT.q5.o (c_become I L hT.q5 hT.q0 hv hl (by omega)) (by decide) (Nat.le_of_ble_eq_true rfl) ⟨Nat.le_refl _, Nat.le_refl _⟩ (fun J1 h1 => ?_)
      refine z_aload_n dX5_wouldMove_40 rfl ?_
      refine z_getr dX5_wouldMove_41 fX5_43 hT.o hT.r5 ?_
      refine z_iload_n dX5_wouldMove_44 rfl ?_
      refine z_iload_n dX5_wouldMove_45 rfl ?_
      refine z_iload_n dX5_wouldMove_46 rfl ?_
      refine z_callV3v dX5_wouldMove_47 mX5_103 hT.q5.o (c_step J1 L hT.q5 h1.1 ho hsh dx dy (by omega) (by omega) (by omega) (by omega) (by omega) (by omega)) (by decide) (Nat.le_of_ble_eq_true rfl) ⟨Nat.le_refl _, Nat.le_refl _⟩ (fun J2 h2 => ?_)
      refine z_aload_n dX5_wouldMove_50 rfl ?_
      refine z_callV0i dX5_wouldMove_51 mX5_279 hT.o (c_costOfTried J2 L hT h2.1 hok2 (by rw [h2.2 33 (by omega), h1.2 33 (by omega)]; exact hu2) hu1) (by decide) (Nat.le_of_ble_eq_true rfl) ⟨Nat.le_refl _, Nat.le_refl _⟩ (fun J9 v9 h9 => ?_)
      exact z_iret dX5_wouldMove_54 ⟨Nat.le_refl _, Nat.le_refl _⟩ rfl ⟨rfl, rfl, rfl, _, ⟨h9.1.trans (by rw [aWMove, zif_f h16, zif_t h23]; unfold shMv; rw [hja, hg, Int.toNat_natCast]), zCI_tr hI (fun p hp => by rw [h9.2.2 p (by omega), h2.2 p (by omega), h1.2 p (by omega)]) h9.2.1, fun p hp => by rw [h9.2.2 p (by omega), h2.2 p (by omega), h1.2 p (by omega)]⟩, rfl⟩
    · refine z_iload dX5_wouldMove_26 rfl ?_
      exact z_iret dX5_wouldMove_28 ⟨Nat.le_refl _, Nat.le_refl _⟩ rfl ⟨rfl, rfl, rfl, _, ⟨by rw [aWMove, zif_f h16, zif_f h23], hI, fun p _ => rfl⟩, rfl⟩
  · refine z_iconst (-1) dX5_wouldMove_19 (by decide) ?_
    exact z_iret dX5_wouldMove_20 ⟨Nat.le_refl _, Nat.le_refl _⟩ rfl ⟨rfl, rfl, rfl, _, ⟨by rw [aWMove, zif_t h16], hI, fun p _ => rfl⟩, rfl⟩
