abbrev lwG (b n : Nat) (xs : Nat → Int32) : zG := (RL, cL_law, 4, ret, false, 30, (600000, 7302250), some (b, n, xs))
abbrev lwP : zPost := fun _ _ _ _ r => r = some (.int 1)
set_option maxRecDepth 100000 in
set_option maxHeartbeats 4000000 in
theorem law_loop {b n : Nat} {xs : Nat → Int32} (hn : n ≤ 2560) {S : zS} {R : zMR} (hT : zTM S R) (hM : zMO S R) : ∀ (k i : Nat) (I : zMI) (L : zML) (s : St), n + 5 ≤ i + k → i ≤ n + 4 → zCI I s → zDM I s → zV (lwG b n xs) lwP (107, 2043) S I L R 18 [some (.retAddr b), some (.ref 0), some (.ref 96), some (.int (nI i))] [] := by
  intro k
  induction k with
  | zero => intro i I L s h1 h2; omega
  | succ k ih =>
    intro i I L s hk1 hk2 hCI hDM
    refine z_iload_n dL_law_18 rfl ?_
    refine z_aload_nR dL_law_19 rfl ?_
    refine z_slen rfl dL_law_20 ?_
    refine z_iconst (nI 5) dL_law_21 (by decide) ?_
    refine z_isub dL_law_22 (z_top (nI_subI _ _) ?_)
    refine z_icmp_gtNI (tgt := 807) dL_law_23 (by decide) (by omega) (fun h23 => ?_) (fun h23 => ?_)
    · rw [zi_T (by omega) (by omega)] at h23
      refine z_iconst (nI 1) dL_law_807 (by decide) ?_
      exact z_iret dL_law_808 ⟨Nat.le_of_ble_eq_true rfl, Nat.le_of_ble_eq_true rfl⟩ rfl rfl
    · rw [zi_T (by omega) (by omega)] at h23
      refine z_aload_nR dL_law_26 rfl ?_
      refine z_iload_n dL_law_27 rfl ?_
      refine z_sld rfl dL_law_28 (vp_in_nI (by omega) (by omega)) ?_
      refine z_bipush (nI 31) dL_law_29 (by decide) ?_
      refine z_iand dL_law_31 ?_
      generalize xs (nI i).toNatClampNeg &&& nI 31 = w
      rcases (show (w.toInt < 0 ∨ 20 < w.toInt) ∨ w.toInt = 0 ∨ w.toInt = 1 ∨ w.toInt = 2 ∨ w.toInt = 3 ∨ w.toInt = 4 ∨ w.toInt = 5 ∨ w.toInt = 6 ∨ w.toInt = 7 ∨ w.toInt = 8 ∨ w.toInt = 9 ∨ w.toInt = 10 ∨ w.toInt = 11 ∨ w.toInt = 12 ∨ w.toInt = 13 ∨ w.toInt = 14 ∨ w.toInt = 15 ∨ w.toInt = 16 ∨ w.toInt = 17 ∨ w.toInt = 18 ∨ w.toInt = 19 ∨ w.toInt = 20 from by omega) with hq | hq | hq | hq | hq | hq | hq | hq | hq | hq | hq | hq | hq | hq | hq | hq | hq | hq | hq | hq | hq | hq
      · refine z_tOut (tgt := 801) dL_law_32 hq (by decide) ?_
        refine z_iincN3 (n := 5) dL_law_801 rfl ?_
        refine z_goto (tgt := 18) dL_law_804 (by decide) ?_
        exact ih (i + 5) I L s (by omega) (by omega) hCI hDM
      · refine z_tIn (tgt := 132) dL_law_32 (by omega) (by omega) (by rw [hq]; rfl) (by decide) ?_
        refine z_aload_n dL_law_132 rfl ?_
        refine z_aload_nR dL_law_133 rfl ?_
        refine z_iload_n dL_law_134 rfl ?_
        refine z_iconst (nI 1) dL_law_135 (by decide) ?_
        refine z_iaddN dL_law_136 ?_
        refine z_sld rfl dL_law_137 (vp_in_nI (by omega) (by omega)) ?_
        refine z_aload_nR dL_law_138 rfl ?_
        refine z_iload_n dL_law_139 rfl ?_
        refine z_iconst (nI 2) dL_law_140 (by decide) ?_
        refine z_iaddN dL_law_141 ?_
        refine z_sld rfl dL_law_142 (vp_in_nI (by omega) (by omega)) ?_
        refine z_aload_nR dL_law_143 rfl ?_
        refine z_iload_n dL_law_144 rfl ?_
        refine z_iconst (nI 3) dL_law_145 (by decide) ?_
        refine z_iaddN dL_law_146 ?_
        refine z_sld rfl dL_law_147 (vp_in_nI (by omega) (by omega)) ?_
        refine z_aload_nR dL_law_148 rfl ?_
        refine z_iload_n dL_law_149 rfl ?_
        refine z_iconst (nI 4) dL_law_150 (by decide) ?_
        refine z_iaddN dL_law_151 ?_
        refine z_sld rfl dL_law_152 (vp_in_nI (by omega) (by omega)) ?_
        refine z_callV4i dL_law_153 mL_13 hT.o (t_shape _ L hT hCI _ _ _ _) (Nat.le_of_ble_eq_true rfl) (Nat.le_of_ble_eq_true rfl) ⟨Nat.le_of_ble_eq_true rfl, Nat.le_of_ble_eq_true rfl⟩ (fun J v1 h1 => ?_)
        have hDJ := hDM.hi h1.2.2
        refine z_aload_n dL_law_156 rfl ?_
        refine z_aload_nR dL_law_157 rfl ?_
        refine z_iload_n dL_law_158 rfl ?_
        refine z_iconst (nI 1) dL_law_159 (by decide) ?_
        refine z_iaddN dL_law_160 ?_
        refine z_sld rfl dL_law_161 (vp_in_nI (by omega) (by omega)) ?_
        refine z_aload_nR dL_law_162 rfl ?_
        refine z_iload_n dL_law_163 rfl ?_
        refine z_iconst (nI 2) dL_law_164 (by decide) ?_
        refine z_iaddN dL_law_165 ?_
        refine z_sld rfl dL_law_166 (vp_in_nI (by omega) (by omega)) ?_
        refine z_aload_nR dL_law_167 rfl ?_
        refine z_iload_n dL_law_168 rfl ?_
        refine z_iconst (nI 3) dL_law_169 (by decide) ?_
        refine z_iaddN dL_law_170 ?_
        refine z_sld rfl dL_law_171 (vp_in_nI (by omega) (by omega)) ?_
        refine z_aload_nR dL_law_172 rfl ?_
        refine z_iload_n dL_law_173 rfl ?_
        refine z_iconst (nI 4) dL_law_174 (by decide) ?_
        refine z_iaddN dL_law_175 ?_
        refine z_sld rfl dL_law_176 (vp_in_nI (by omega) (by omega)) ?_
        refine z_callV4i dL_law_177 mL_17 hM.o (m_shape _ L hM hDJ _ _ _ _) (Nat.le_of_ble_eq_true rfl) (Nat.le_of_ble_eq_true rfl) ⟨Nat.le_of_ble_eq_true rfl, Nat.le_of_ble_eq_true rfl⟩ (fun K v2 h2 => ?_)
        refine z_icmp_eq (tgt := 801) dL_law_180 (by decide) (fun h180 => ?_) (fun h180 => absurd h180 (fun z => z (h1.1.trans h2.1.symm)))
        refine z_iincN3 (n := 5) dL_law_801 rfl ?_
        refine z_goto (tgt := 18) dL_law_804 (by decide) ?_
        exact ih (i + 5) K L _ (by omega) (by omega) (h1.2.1.lo h2.2.2) h2.2.1
      · refine z_tIn (tgt := 185) dL_law_32 (by omega) (by omega) (by rw [hq]; rfl) (by decide) ?_
        refine z_aload_n dL_law_185 rfl ?_
        refine z_aload_nR dL_law_186 rfl ?_
        refine z_iload_n dL_law_187 rfl ?_
        refine z_iconst (nI 1) dL_law_188 (by decide) ?_
        refine z_iaddN dL_law_189 ?_
        refine z_sld rfl dL_law_190 (vp_in_nI (by omega) (by omega)) ?_
        refine z_callV1i dL_law_191 mL_18 hT.o (t_drop _ L hT hCI _) (Nat.le_of_ble_eq_true rfl) (Nat.le_of_ble_eq_true rfl) ⟨Nat.le_of_ble_eq_true rfl, Nat.le_of_ble_eq_true rfl⟩ (fun J v1 h1 => ?_)
        have hDJ := hDM.hi h1.2.2
        refine z_aload_n dL_law_194 rfl ?_
        refine z_aload_nR dL_law_195 rfl ?_
        refine z_iload_n dL_law_196 rfl ?_
        refine z_iconst (nI 1) dL_law_197 (by decide) ?_
        refine z_iaddN dL_law_198 ?_
        refine z_sld rfl dL_law_199 (vp_in_nI (by omega) (by omega)) ?_
        refine z_callV1i dL_law_200 mL_22 hM.o (m_drop _ L hM hDJ _) (Nat.le_of_ble_eq_true rfl) (Nat.le_of_ble_eq_true rfl) ⟨Nat.le_of_ble_eq_true rfl, Nat.le_of_ble_eq_true rfl⟩ (fun K v2 h2 => ?_)
        refine z_icmp_eq (tgt := 801) dL_law_203 (by decide) (fun h203 => ?_) (fun h203 => absurd h203 (fun z => z (h1.1.trans h2.1.symm)))
        refine z_iincN3 (n := 5) dL_law_801 rfl ?_
        refine z_goto (tgt := 18) dL_law_804 (by decide) ?_
        exact ih (i + 5) K L _ (by omega) (by omega) (h1.2.1.lo h2.2.2) h2.2.1
      · refine z_tIn (tgt := 208) dL_law_32 (by omega) (by omega) (by rw [hq]; rfl) (by decide) ?_
        refine z_aload_n dL_law_208 rfl ?_
        refine z_aload_nR dL_law_209 rfl ?_
        refine z_iload_n dL_law_210 rfl ?_
        refine z_iconst (nI 1) dL_law_211 (by decide) ?_
        refine z_iaddN dL_law_212 ?_
        refine z_sld rfl dL_law_213 (vp_in_nI (by omega) (by omega)) ?_
        refine z_aload_nR dL_law_214 rfl ?_
        refine z_iload_n dL_law_215 rfl ?_
        refine z_iconst (nI 2) dL_law_216 (by decide) ?_
        refine z_iaddN dL_law_217 ?_
        refine z_sld rfl dL_law_218 (vp_in_nI (by omega) (by omega)) ?_
        refine z_aload_nR dL_law_219 rfl ?_
        refine z_iload_n dL_law_220 rfl ?_
        refine z_iconst (nI 3) dL_law_221 (by decide) ?_
        refine z_iaddN dL_law_222 ?_
        refine z_sld rfl dL_law_223 (vp_in_nI (by omega) (by omega)) ?_
        refine z_callV3i dL_law_224 mL_23 hT.o (t_move _ L hT hCI _ _ _) (Nat.le_of_ble_eq_true rfl) (Nat.le_of_ble_eq_true rfl) ⟨Nat.le_of_ble_eq_true rfl, Nat.le_of_ble_eq_true rfl⟩ (fun J v1 h1 => ?_)
        have hDJ := hDM.hi h1.2.2
        refine z_aload_n dL_law_227 rfl ?_
        refine z_aload_nR dL_law_228 rfl ?_
        refine z_iload_n dL_law_229 rfl ?_
        refine z_iconst (nI 1) dL_law_230 (by decide) ?_
        refine z_iaddN dL_law_231 ?_
        refine z_sld rfl dL_law_232 (vp_in_nI (by omega) (by omega)) ?_
        refine z_aload_nR dL_law_233 rfl ?_
        refine z_iload_n dL_law_234 rfl ?_
        refine z_iconst (nI 2) dL_law_235 (by decide) ?_
        refine z_iaddN dL_law_236 ?_
        refine z_sld rfl dL_law_237 (vp_in_nI (by omega) (by omega)) ?_
        refine z_aload_nR dL_law_238 rfl ?_
        refine z_iload_n dL_law_239 rfl ?_
        refine z_iconst (nI 3) dL_law_240 (by decide) ?_
        refine z_iaddN dL_law_241 ?_
        refine z_sld rfl dL_law_242 (vp_in_nI (by omega) (by omega)) ?_
        refine z_callV3i dL_law_243 mL_27 hM.o (m_move _ L hM hDJ _ _ _) (Nat.le_of_ble_eq_true rfl) (Nat.le_of_ble_eq_true rfl) ⟨Nat.le_of_ble_eq_true rfl, Nat.le_of_ble_eq_true rfl⟩ (fun K v2 h2 => ?_)
        refine z_icmp_eq (tgt := 801) dL_law_246 (by decide) (fun h246 => ?_) (fun h246 => absurd h246 (fun z => z (h1.1.trans h2.1.symm)))
        refine z_iincN3 (n := 5) dL_law_801 rfl ?_
        refine z_goto (tgt := 18) dL_law_804 (by decide) ?_
        exact ih (i + 5) K L _ (by omega) (by omega) (h1.2.1.lo h2.2.2) h2.2.1
      · refine z_tIn (tgt := 251) dL_law_32 (by omega) (by omega) (by rw [hq]; rfl) (by decide) ?_
        refine z_aload_n dL_law_251 rfl ?_
        refine z_aload_nR dL_law_252 rfl ?_
        refine z_iload_n dL_law_253 rfl ?_
        refine z_iconst (nI 1) dL_law_254 (by decide) ?_
        refine z_iaddN dL_law_255 ?_
        refine z_sld rfl dL_law_256 (vp_in_nI (by omega) (by omega)) ?_
        refine z_aload_nR dL_law_257 rfl ?_
        refine z_iload_n dL_law_258 rfl ?_
        refine z_iconst (nI 2) dL_law_259 (by decide) ?_
        refine z_iaddN dL_law_260 ?_
        refine z_sld rfl dL_law_261 (vp_in_nI (by omega) (by omega)) ?_
        refine z_callV2i dL_law_262 mL_28 hT.o (t_cut _ L hT hCI _ _) (Nat.le_of_ble_eq_true rfl) (Nat.le_of_ble_eq_true rfl) ⟨Nat.le_of_ble_eq_true rfl, Nat.le_of_ble_eq_true rfl⟩ (fun J v1 h1 => ?_)
        have hDJ := hDM.hi h1.2.2
        refine z_aload_n dL_law_265 rfl ?_
        refine z_aload_nR dL_law_266 rfl ?_
        refine z_iload_n dL_law_267 rfl ?_
        refine z_iconst (nI 1) dL_law_268 (by decide) ?_
        refine z_iaddN dL_law_269 ?_
        refine z_sld rfl dL_law_270 (vp_in_nI (by omega) (by omega)) ?_
        refine z_aload_nR dL_law_271 rfl ?_
        refine z_iload_n dL_law_272 rfl ?_
        refine z_iconst (nI 2) dL_law_273 (by decide) ?_
        refine z_iaddN dL_law_274 ?_
        refine z_sld rfl dL_law_275 (vp_in_nI (by omega) (by omega)) ?_
        refine z_callV2i dL_law_276 mL_32 hM.o (m_cut _ L hM hDJ _ _) (Nat.le_of_ble_eq_true rfl) (Nat.le_of_ble_eq_true rfl) ⟨Nat.le_of_ble_eq_true rfl, Nat.le_of_ble_eq_true rfl⟩ (fun K v2 h2 => ?_)
        refine z_icmp_eq (tgt := 801) dL_law_279 (by decide) (fun h279 => ?_) (fun h279 => absurd h279 (fun z => z (h1.1.trans h2.1.symm)))
        refine z_iincN3 (n := 5) dL_law_801 rfl ?_
        refine z_goto (tgt := 18) dL_law_804 (by decide) ?_
        exact ih (i + 5) K L _ (by omega) (by omega) (h1.2.1.lo h2.2.2) h2.2.1
      · refine z_tIn (tgt := 284) dL_law_32 (by omega) (by omega) (by rw [hq]; rfl) (by decide) ?_
        refine z_aload_n dL_law_284 rfl ?_
        refine z_aload_nR dL_law_285 rfl ?_
        refine z_iload_n dL_law_286 rfl ?_
        refine z_iconst (nI 1) dL_law_287 (by decide) ?_
        refine z_iaddN dL_law_288 ?_
        refine z_sld rfl dL_law_289 (vp_in_nI (by omega) (by omega)) ?_
        refine z_aload_nR dL_law_290 rfl ?_
        refine z_iload_n dL_law_291 rfl ?_
        refine z_iconst (nI 2) dL_law_292 (by decide) ?_
        refine z_iaddN dL_law_293 ?_
        refine z_sld rfl dL_law_294 (vp_in_nI (by omega) (by omega)) ?_
        refine z_callV2i dL_law_295 mL_33 hT.o (t_heal _ L hT hCI _ _) (Nat.le_of_ble_eq_true rfl) (Nat.le_of_ble_eq_true rfl) ⟨Nat.le_of_ble_eq_true rfl, Nat.le_of_ble_eq_true rfl⟩ (fun J v1 h1 => ?_)
        have hDJ := hDM.hi h1.2.2
        refine z_aload_n dL_law_298 rfl ?_
        refine z_aload_nR dL_law_299 rfl ?_
        refine z_iload_n dL_law_300 rfl ?_
        refine z_iconst (nI 1) dL_law_301 (by decide) ?_
        refine z_iaddN dL_law_302 ?_
        refine z_sld rfl dL_law_303 (vp_in_nI (by omega) (by omega)) ?_
        refine z_aload_nR dL_law_304 rfl ?_
        refine z_iload_n dL_law_305 rfl ?_
        refine z_iconst (nI 2) dL_law_306 (by decide) ?_
        refine z_iaddN dL_law_307 ?_
        refine z_sld rfl dL_law_308 (vp_in_nI (by omega) (by omega)) ?_
        refine z_callV2i dL_law_309 mL_36 hM.o (m_heal _ L hM hDJ _ _) (Nat.le_of_ble_eq_true rfl) (Nat.le_of_ble_eq_true rfl) ⟨Nat.le_of_ble_eq_true rfl, Nat.le_of_ble_eq_true rfl⟩ (fun K v2 h2 => ?_)
        refine z_icmp_eq (tgt := 801) dL_law_312 (by decide) (fun h312 => ?_) (fun h312 => absurd h312 (fun z => z (h1.1.trans h2.1.symm)))
        refine z_iincN3 (n := 5) dL_law_801 rfl ?_
        refine z_goto (tgt := 18) dL_law_804 (by decide) ?_
        exact ih (i + 5) K L _ (by omega) (by omega) (h1.2.1.lo h2.2.2) h2.2.1
      · refine z_tIn (tgt := 317) dL_law_32 (by omega) (by omega) (by rw [hq]; rfl) (by decide) ?_
        refine z_aload_n dL_law_317 rfl ?_
        refine z_aload_nR dL_law_318 rfl ?_
        refine z_iload_n dL_law_319 rfl ?_
        refine z_iconst (nI 1) dL_law_320 (by decide) ?_
        refine z_iaddN dL_law_321 ?_
        refine z_sld rfl dL_law_322 (vp_in_nI (by omega) (by omega)) ?_
        refine z_aload_nR dL_law_323 rfl ?_
        refine z_iload_n dL_law_324 rfl ?_
        refine z_iconst (nI 2) dL_law_325 (by decide) ?_
        refine z_iaddN dL_law_326 ?_
        refine z_sld rfl dL_law_327 (vp_in_nI (by omega) (by omega)) ?_
        refine z_callV2i dL_law_328 mL_37 hT.o (t_bound _ L hT hCI _ _) (Nat.le_of_ble_eq_true rfl) (Nat.le_of_ble_eq_true rfl) ⟨Nat.le_of_ble_eq_true rfl, Nat.le_of_ble_eq_true rfl⟩ (fun J v1 h1 => ?_)
        have hDJ := hDM.hi h1.2.2
        refine z_aload_n dL_law_331 rfl ?_
        refine z_aload_nR dL_law_332 rfl ?_
        refine z_iload_n dL_law_333 rfl ?_
        refine z_iconst (nI 1) dL_law_334 (by decide) ?_
        refine z_iaddN dL_law_335 ?_
        refine z_sld rfl dL_law_336 (vp_in_nI (by omega) (by omega)) ?_
        refine z_aload_nR dL_law_337 rfl ?_
        refine z_iload_n dL_law_338 rfl ?_
        refine z_iconst (nI 2) dL_law_339 (by decide) ?_
        refine z_iaddN dL_law_340 ?_
        refine z_sld rfl dL_law_341 (vp_in_nI (by omega) (by omega)) ?_
        refine z_callV2i dL_law_342 mL_40 hM.o (m_bound _ L hM hDJ _ _) (Nat.le_of_ble_eq_true rfl) (Nat.le_of_ble_eq_true rfl) ⟨Nat.le_of_ble_eq_true rfl, Nat.le_of_ble_eq_true rfl⟩ (fun K v2 h2 => ?_)
        refine z_icmp_eq (tgt := 801) dL_law_345 (by decide) (fun h345 => ?_) (fun h345 => absurd h345 (fun z => z (h1.1.trans h2.1.symm)))
        refine z_iincN3 (n := 5) dL_law_801 rfl ?_
        refine z_goto (tgt := 18) dL_law_804 (by decide) ?_
        exact ih (i + 5) K L _ (by omega) (by omega) (h1.2.1.lo h2.2.2) h2.2.1
      · refine z_tIn (tgt := 350) dL_law_32 (by omega) (by omega) (by rw [hq]; rfl) (by decide) ?_
        refine z_aload_n dL_law_350 rfl ?_
        refine z_aload_nR dL_law_351 rfl ?_
        refine z_iload_n dL_law_352 rfl ?_
        refine z_iconst (nI 1) dL_law_353 (by decide) ?_
        refine z_iaddN dL_law_354 ?_
        refine z_sld rfl dL_law_355 (vp_in_nI (by omega) (by omega)) ?_
        refine z_aload_nR dL_law_356 rfl ?_
        refine z_iload_n dL_law_357 rfl ?_
        refine z_iconst (nI 2) dL_law_358 (by decide) ?_
        refine z_iaddN dL_law_359 ?_
        refine z_sld rfl dL_law_360 (vp_in_nI (by omega) (by omega)) ?_
        refine z_callV2i dL_law_361 mL_41 hT.o (t_fix _ L hT hCI _ _) (Nat.le_of_ble_eq_true rfl) (Nat.le_of_ble_eq_true rfl) ⟨Nat.le_of_ble_eq_true rfl, Nat.le_of_ble_eq_true rfl⟩ (fun J v1 h1 => ?_)
        have hDJ := hDM.hi h1.2.2
        refine z_aload_n dL_law_364 rfl ?_
        refine z_aload_nR dL_law_365 rfl ?_
        refine z_iload_n dL_law_366 rfl ?_
        refine z_iconst (nI 1) dL_law_367 (by decide) ?_
        refine z_iaddN dL_law_368 ?_
        refine z_sld rfl dL_law_369 (vp_in_nI (by omega) (by omega)) ?_
        refine z_aload_nR dL_law_370 rfl ?_
        refine z_iload_n dL_law_371 rfl ?_
        refine z_iconst (nI 2) dL_law_372 (by decide) ?_
        refine z_iaddN dL_law_373 ?_
        refine z_sld rfl dL_law_374 (vp_in_nI (by omega) (by omega)) ?_
        refine z_callV2i dL_law_375 mL_44 hM.o (m_fix _ L hM hDJ _ _) (Nat.le_of_ble_eq_true rfl) (Nat.le_of_ble_eq_true rfl) ⟨Nat.le_of_ble_eq_true rfl, Nat.le_of_ble_eq_true rfl⟩ (fun K v2 h2 => ?_)
        refine z_icmp_eq (tgt := 801) dL_law_378 (by decide) (fun h378 => ?_) (fun h378 => absurd h378 (fun z => z (h1.1.trans h2.1.symm)))
        refine z_iincN3 (n := 5) dL_law_801 rfl ?_
        refine z_goto (tgt := 18) dL_law_804 (by decide) ?_
        exact ih (i + 5) K L _ (by omega) (by omega) (h1.2.1.lo h2.2.2) h2.2.1
      · refine z_tIn (tgt := 383) dL_law_32 (by omega) (by omega) (by rw [hq]; rfl) (by decide) ?_
        refine z_aload_n dL_law_383 rfl ?_
        refine z_callV0i dL_law_384 mL_45 hT.o (t_turn _ L hT hCI ) (Nat.le_of_ble_eq_true rfl) (Nat.le_of_ble_eq_true rfl) ⟨Nat.le_of_ble_eq_true rfl, Nat.le_of_ble_eq_true rfl⟩ (fun J v1 h1 => ?_)
        have hDJ := hDM.hi h1.2.2
        refine z_aload_n dL_law_387 rfl ?_
        refine z_callV0i dL_law_388 mL_49 hM.o (m_turn _ L hM hDJ ) (Nat.le_of_ble_eq_true rfl) (Nat.le_of_ble_eq_true rfl) ⟨Nat.le_of_ble_eq_true rfl, Nat.le_of_ble_eq_true rfl⟩ (fun K v2 h2 => ?_)
        refine z_icmp_eq (tgt := 801) dL_law_391 (by decide) (fun h391 => ?_) (fun h391 => absurd h391 (fun z => z (h1.1.trans h2.1.symm)))
        refine z_iincN3 (n := 5) dL_law_801 rfl ?_
        refine z_goto (tgt := 18) dL_law_804 (by decide) ?_
        exact ih (i + 5) K L _ (by omega) (by omega) (h1.2.1.lo h2.2.2) h2.2.1
      · refine z_tIn (tgt := 396) dL_law_32 (by omega) (by omega) (by rw [hq]; rfl) (by decide) ?_
        refine z_aload_n dL_law_396 rfl ?_
        refine z_aload_nR dL_law_397 rfl ?_
        refine z_iload_n dL_law_398 rfl ?_
        refine z_iconst (nI 1) dL_law_399 (by decide) ?_
        refine z_iaddN dL_law_400 ?_
        refine z_sld rfl dL_law_401 (vp_in_nI (by omega) (by omega)) ?_
        refine z_aload_nR dL_law_402 rfl ?_
        refine z_iload_n dL_law_403 rfl ?_
        refine z_iconst (nI 2) dL_law_404 (by decide) ?_
        refine z_iaddN dL_law_405 ?_
        refine z_sld rfl dL_law_406 (vp_in_nI (by omega) (by omega)) ?_
        refine z_callV2i dL_law_407 mL_50 hT.o (t_drift _ L hT hCI _ _) (Nat.le_of_ble_eq_true rfl) (Nat.le_of_ble_eq_true rfl) ⟨Nat.le_of_ble_eq_true rfl, Nat.le_of_ble_eq_true rfl⟩ (fun J v1 h1 => ?_)
        have hDJ := hDM.hi h1.2.2
        refine z_aload_n dL_law_410 rfl ?_
        refine z_aload_nR dL_law_411 rfl ?_
        refine z_iload_n dL_law_412 rfl ?_
        refine z_iconst (nI 1) dL_law_413 (by decide) ?_
        refine z_iaddN dL_law_414 ?_
        refine z_sld rfl dL_law_415 (vp_in_nI (by omega) (by omega)) ?_
        refine z_aload_nR dL_law_416 rfl ?_
        refine z_iload_n dL_law_417 rfl ?_
        refine z_iconst (nI 2) dL_law_418 (by decide) ?_
        refine z_iaddN dL_law_419 ?_
        refine z_sld rfl dL_law_420 (vp_in_nI (by omega) (by omega)) ?_
        refine z_callV2 dL_law_421 mL_53 hM.o (m_drift _ L hM hDJ _ _) (Nat.le_of_ble_eq_true rfl) (Nat.le_of_ble_eq_true rfl) ⟨Nat.le_of_ble_eq_true rfl, Nat.le_of_ble_eq_true rfl⟩ (fun K L2 r q => ?_)
        obtain ⟨v2, h2, rfl⟩ := q
        simp only [Option.toList_some, List.cons_append, List.nil_append]
        refine z_icmp_eq (tgt := 801) dL_law_424 (by decide) (fun h424 => ?_) (fun h424 => absurd h424 (fun z => z (h1.1.trans h2.1.symm)))
        refine z_iincN3 (n := 5) dL_law_801 rfl ?_
        refine z_goto (tgt := 18) dL_law_804 (by decide) ?_
        exact ih (i + 5) K L2 _ (by omega) (by omega) (h1.2.1.lo h2.2.2) h2.2.1
      · refine z_tIn (tgt := 429) dL_law_32 (by omega) (by omega) (by rw [hq]; rfl) (by decide) ?_
        refine z_aload_n dL_law_429 rfl ?_
        refine z_callV0i dL_law_430 mL_54 hT.o (t_undo _ L hT hCI ) (Nat.le_of_ble_eq_true rfl) (Nat.le_of_ble_eq_true rfl) ⟨Nat.le_of_ble_eq_true rfl, Nat.le_of_ble_eq_true rfl⟩ (fun J v1 h1 => ?_)
        have hDJ := hDM.hi h1.2.2
        refine z_aload_n dL_law_433 rfl ?_
        refine z_callV0i dL_law_434 mL_57 hM.o (m_undo _ L hM hDJ ) (Nat.le_of_ble_eq_true rfl) (Nat.le_of_ble_eq_true rfl) ⟨Nat.le_of_ble_eq_true rfl, Nat.le_of_ble_eq_true rfl⟩ (fun K v2 h2 => ?_)
        refine z_icmp_eq (tgt := 801) dL_law_437 (by decide) (fun h437 => ?_) (fun h437 => absurd h437 (fun z => z (h1.1.trans h2.1.symm)))
        refine z_iincN3 (n := 5) dL_law_801 rfl ?_
        refine z_goto (tgt := 18) dL_law_804 (by decide) ?_
        exact ih (i + 5) K L _ (by omega) (by omega) (h1.2.1.lo h2.2.2) h2.2.1
      · refine z_tIn (tgt := 442) dL_law_32 (by omega) (by omega) (by rw [hq]; rfl) (by decide) ?_
        refine z_aload_n dL_law_442 rfl ?_
        refine z_aload_nR dL_law_443 rfl ?_
        refine z_iload_n dL_law_444 rfl ?_
        refine z_iconst (nI 1) dL_law_445 (by decide) ?_
        refine z_iaddN dL_law_446 ?_
        refine z_sld rfl dL_law_447 (vp_in_nI (by omega) (by omega)) ?_
        refine z_callV1i dL_law_448 mL_58 hT.o (t_told _ L hT hCI _) (Nat.le_of_ble_eq_true rfl) (Nat.le_of_ble_eq_true rfl) ⟨Nat.le_of_ble_eq_true rfl, Nat.le_of_ble_eq_true rfl⟩ (fun J v1 h1 => ?_)
        have hDJ := hDM.hi h1.2.2
        refine z_aload_n dL_law_451 rfl ?_
        refine z_aload_nR dL_law_452 rfl ?_
        refine z_iload_n dL_law_453 rfl ?_
        refine z_iconst (nI 1) dL_law_454 (by decide) ?_
        refine z_iaddN dL_law_455 ?_
        refine z_sld rfl dL_law_456 (vp_in_nI (by omega) (by omega)) ?_
        refine z_callV1i dL_law_457 mL_61 hM.o (m_told _ L hM hDJ _) (Nat.le_of_ble_eq_true rfl) (Nat.le_of_ble_eq_true rfl) ⟨Nat.le_of_ble_eq_true rfl, Nat.le_of_ble_eq_true rfl⟩ (fun K v2 h2 => ?_)
        refine z_icmp_eq (tgt := 801) dL_law_460 (by decide) (fun h460 => ?_) (fun h460 => absurd h460 (fun z => z (h1.1.trans h2.1.symm)))
        refine z_iincN3 (n := 5) dL_law_801 rfl ?_
        refine z_goto (tgt := 18) dL_law_804 (by decide) ?_
        exact ih (i + 5) K L _ (by omega) (by omega) (h1.2.1.lo h2.2.2) h2.2.1
      · refine z_tIn (tgt := 465) dL_law_32 (by omega) (by omega) (by rw [hq]; rfl) (by decide) ?_
        refine z_aload_n dL_law_465 rfl ?_
        refine z_aload_nR dL_law_466 rfl ?_
        refine z_iload_n dL_law_467 rfl ?_
        refine z_iconst (nI 1) dL_law_468 (by decide) ?_
        refine z_iaddN dL_law_469 ?_
        refine z_sld rfl dL_law_470 (vp_in_nI (by omega) (by omega)) ?_
        refine z_aload_nR dL_law_471 rfl ?_
        refine z_iload_n dL_law_472 rfl ?_
        refine z_iconst (nI 2) dL_law_473 (by decide) ?_
        refine z_iaddN dL_law_474 ?_
        refine z_sld rfl dL_law_475 (vp_in_nI (by omega) (by omega)) ?_
        refine z_callV2i dL_law_476 mL_62 hT.o (t_ofShape _ L hT hCI _ _) (Nat.le_of_ble_eq_true rfl) (Nat.le_of_ble_eq_true rfl) ⟨Nat.le_of_ble_eq_true rfl, Nat.le_of_ble_eq_true rfl⟩ (fun J v1 h1 => ?_)
        have hDJ := hDM.hi h1.2.2
        refine z_aload_n dL_law_479 rfl ?_
        refine z_aload_nR dL_law_480 rfl ?_
        refine z_iload_n dL_law_481 rfl ?_
        refine z_iconst (nI 1) dL_law_482 (by decide) ?_
        refine z_iaddN dL_law_483 ?_
        refine z_sld rfl dL_law_484 (vp_in_nI (by omega) (by omega)) ?_
        refine z_aload_nR dL_law_485 rfl ?_
        refine z_iload_n dL_law_486 rfl ?_
        refine z_iconst (nI 2) dL_law_487 (by decide) ?_
        refine z_iaddN dL_law_488 ?_
        refine z_sld rfl dL_law_489 (vp_in_nI (by omega) (by omega)) ?_
        refine z_callV2i dL_law_490 mL_65 hM.o (m_ofShape _ L hM hDJ _ _) (Nat.le_of_ble_eq_true rfl) (Nat.le_of_ble_eq_true rfl) ⟨Nat.le_of_ble_eq_true rfl, Nat.le_of_ble_eq_true rfl⟩ (fun K v2 h2 => ?_)
        refine z_icmp_eq (tgt := 801) dL_law_493 (by decide) (fun h493 => ?_) (fun h493 => absurd h493 (fun z => z (h1.1.trans h2.1.symm)))
        refine z_iincN3 (n := 5) dL_law_801 rfl ?_
        refine z_goto (tgt := 18) dL_law_804 (by decide) ?_
        exact ih (i + 5) K L _ (by omega) (by omega) (h1.2.1.lo h2.2.2) h2.2.1
      · refine z_tIn (tgt := 498) dL_law_32 (by omega) (by omega) (by rw [hq]; rfl) (by decide) ?_
        refine z_aload_n dL_law_498 rfl ?_
        refine z_aload_nR dL_law_499 rfl ?_
        refine z_iload_n dL_law_500 rfl ?_
        refine z_iconst (nI 1) dL_law_501 (by decide) ?_
        refine z_iaddN dL_law_502 ?_
        refine z_sld rfl dL_law_503 (vp_in_nI (by omega) (by omega)) ?_
        refine z_aload_nR dL_law_504 rfl ?_
        refine z_iload_n dL_law_505 rfl ?_
        refine z_iconst (nI 2) dL_law_506 (by decide) ?_
        refine z_iaddN dL_law_507 ?_
        refine z_sld rfl dL_law_508 (vp_in_nI (by omega) (by omega)) ?_
        refine z_callV2i dL_law_509 mL_66 hT.o (t_ofPiece _ L hT hCI _ _) (Nat.le_of_ble_eq_true rfl) (Nat.le_of_ble_eq_true rfl) ⟨Nat.le_of_ble_eq_true rfl, Nat.le_of_ble_eq_true rfl⟩ (fun J v1 h1 => ?_)
        have hDJ := hDM.hi h1.2.2
        refine z_aload_n dL_law_512 rfl ?_
        refine z_aload_nR dL_law_513 rfl ?_
        refine z_iload_n dL_law_514 rfl ?_
        refine z_iconst (nI 1) dL_law_515 (by decide) ?_
        refine z_iaddN dL_law_516 ?_
        refine z_sld rfl dL_law_517 (vp_in_nI (by omega) (by omega)) ?_
        refine z_aload_nR dL_law_518 rfl ?_
        refine z_iload_n dL_law_519 rfl ?_
        refine z_iconst (nI 2) dL_law_520 (by decide) ?_
        refine z_iaddN dL_law_521 ?_
        refine z_sld rfl dL_law_522 (vp_in_nI (by omega) (by omega)) ?_
        refine z_callV2i dL_law_523 mL_69 hM.o (m_ofPiece _ L hM hDJ _ _) (Nat.le_of_ble_eq_true rfl) (Nat.le_of_ble_eq_true rfl) ⟨Nat.le_of_ble_eq_true rfl, Nat.le_of_ble_eq_true rfl⟩ (fun K v2 h2 => ?_)
        refine z_icmp_eq (tgt := 801) dL_law_526 (by decide) (fun h526 => ?_) (fun h526 => absurd h526 (fun z => z (h1.1.trans h2.1.symm)))
        refine z_iincN3 (n := 5) dL_law_801 rfl ?_
        refine z_goto (tgt := 18) dL_law_804 (by decide) ?_
        exact ih (i + 5) K L _ (by omega) (by omega) (h1.2.1.lo h2.2.2) h2.2.1
      · refine z_tIn (tgt := 531) dL_law_32 (by omega) (by omega) (by rw [hq]; rfl) (by decide) ?_
        refine z_aload_n dL_law_531 rfl ?_
        refine z_aload_nR dL_law_532 rfl ?_
        refine z_iload_n dL_law_533 rfl ?_
        refine z_iconst (nI 1) dL_law_534 (by decide) ?_
        refine z_iaddN dL_law_535 ?_
        refine z_sld rfl dL_law_536 (vp_in_nI (by omega) (by omega)) ?_
        refine z_aload_nR dL_law_537 rfl ?_
        refine z_iload_n dL_law_538 rfl ?_
        refine z_iconst (nI 2) dL_law_539 (by decide) ?_
        refine z_iaddN dL_law_540 ?_
        refine z_sld rfl dL_law_541 (vp_in_nI (by omega) (by omega)) ?_
        refine z_callV2i dL_law_542 mL_70 hT.o (t_gap _ L hT hCI _ _) (Nat.le_of_ble_eq_true rfl) (Nat.le_of_ble_eq_true rfl) ⟨Nat.le_of_ble_eq_true rfl, Nat.le_of_ble_eq_true rfl⟩ (fun J v1 h1 => ?_)
        have hDJ := hDM.hi h1.2.2
        refine z_aload_n dL_law_545 rfl ?_
        refine z_aload_nR dL_law_546 rfl ?_
        refine z_iload_n dL_law_547 rfl ?_
        refine z_iconst (nI 1) dL_law_548 (by decide) ?_
        refine z_iaddN dL_law_549 ?_
        refine z_sld rfl dL_law_550 (vp_in_nI (by omega) (by omega)) ?_
        refine z_aload_nR dL_law_551 rfl ?_
        refine z_iload_n dL_law_552 rfl ?_
        refine z_iconst (nI 2) dL_law_553 (by decide) ?_
        refine z_iaddN dL_law_554 ?_
        refine z_sld rfl dL_law_555 (vp_in_nI (by omega) (by omega)) ?_
        refine z_callV2i dL_law_556 mL_73 hM.o (m_gap _ L hM hDJ _ _) (Nat.le_of_ble_eq_true rfl) (Nat.le_of_ble_eq_true rfl) ⟨Nat.le_of_ble_eq_true rfl, Nat.le_of_ble_eq_true rfl⟩ (fun K v2 h2 => ?_)
        refine z_icmp_eq (tgt := 801) dL_law_559 (by decide) (fun h559 => ?_) (fun h559 => absurd h559 (fun z => z (h1.1.trans h2.1.symm)))
        refine z_iincN3 (n := 5) dL_law_801 rfl ?_
        refine z_goto (tgt := 18) dL_law_804 (by decide) ?_
        exact ih (i + 5) K L _ (by omega) (by omega) (h1.2.1.lo h2.2.2) h2.2.1
      · refine z_tIn (tgt := 564) dL_law_32 (by omega) (by omega) (by rw [hq]; rfl) (by decide) ?_
        refine z_aload_n dL_law_564 rfl ?_
        refine z_aload_nR dL_law_565 rfl ?_
        refine z_iload_n dL_law_566 rfl ?_
        refine z_iconst (nI 1) dL_law_567 (by decide) ?_
        refine z_iaddN dL_law_568 ?_
        refine z_sld rfl dL_law_569 (vp_in_nI (by omega) (by omega)) ?_
        refine z_aload_nR dL_law_570 rfl ?_
        refine z_iload_n dL_law_571 rfl ?_
        refine z_iconst (nI 2) dL_law_572 (by decide) ?_
        refine z_iaddN dL_law_573 ?_
        refine z_sld rfl dL_law_574 (vp_in_nI (by omega) (by omega)) ?_
        refine z_callV2i dL_law_575 mL_74 hT.o (t_at _ L hT hCI _ _) (Nat.le_of_ble_eq_true rfl) (Nat.le_of_ble_eq_true rfl) ⟨Nat.le_of_ble_eq_true rfl, Nat.le_of_ble_eq_true rfl⟩ (fun J v1 h1 => ?_)
        have hDJ := hDM.hi h1.2.2
        refine z_aload_n dL_law_578 rfl ?_
        refine z_aload_nR dL_law_579 rfl ?_
        refine z_iload_n dL_law_580 rfl ?_
        refine z_iconst (nI 1) dL_law_581 (by decide) ?_
        refine z_iaddN dL_law_582 ?_
        refine z_sld rfl dL_law_583 (vp_in_nI (by omega) (by omega)) ?_
        refine z_aload_nR dL_law_584 rfl ?_
        refine z_iload_n dL_law_585 rfl ?_
        refine z_iconst (nI 2) dL_law_586 (by decide) ?_
        refine z_iaddN dL_law_587 ?_
        refine z_sld rfl dL_law_588 (vp_in_nI (by omega) (by omega)) ?_
        refine z_callV2i dL_law_589 mL_77 hM.o (m_at _ L hM hDJ _ _) (Nat.le_of_ble_eq_true rfl) (Nat.le_of_ble_eq_true rfl) ⟨Nat.le_of_ble_eq_true rfl, Nat.le_of_ble_eq_true rfl⟩ (fun K v2 h2 => ?_)
        refine z_icmp_eq (tgt := 801) dL_law_592 (by decide) (fun h592 => ?_) (fun h592 => absurd h592 (fun z => z (h1.1.trans h2.1.symm)))
        refine z_iincN3 (n := 5) dL_law_801 rfl ?_
        refine z_goto (tgt := 18) dL_law_804 (by decide) ?_
        exact ih (i + 5) K L _ (by omega) (by omega) (h1.2.1.lo h2.2.2) h2.2.1
      · refine z_tIn (tgt := 597) dL_law_32 (by omega) (by omega) (by rw [hq]; rfl) (by decide) ?_
        refine z_aload_n dL_law_597 rfl ?_
        refine z_aload_nR dL_law_598 rfl ?_
        refine z_iload_n dL_law_599 rfl ?_
        refine z_iconst (nI 1) dL_law_600 (by decide) ?_
        refine z_iaddN dL_law_601 ?_
        refine z_sld rfl dL_law_602 (vp_in_nI (by omega) (by omega)) ?_
        refine z_callV1i dL_law_603 mL_78 hT.o (t_judge _ L hT hCI _) (Nat.le_of_ble_eq_true rfl) (Nat.le_of_ble_eq_true rfl) ⟨Nat.le_of_ble_eq_true rfl, Nat.le_of_ble_eq_true rfl⟩ (fun J v1 h1 => ?_)
        have hDJ := hDM.hi h1.2.2
        refine z_aload_n dL_law_606 rfl ?_
        refine z_aload_nR dL_law_607 rfl ?_
        refine z_iload_n dL_law_608 rfl ?_
        refine z_iconst (nI 1) dL_law_609 (by decide) ?_
        refine z_iaddN dL_law_610 ?_
        refine z_sld rfl dL_law_611 (vp_in_nI (by omega) (by omega)) ?_
        refine z_callV1i dL_law_612 mL_81 hM.o (m_judge _ L hM hDJ _) (Nat.le_of_ble_eq_true rfl) (Nat.le_of_ble_eq_true rfl) ⟨Nat.le_of_ble_eq_true rfl, Nat.le_of_ble_eq_true rfl⟩ (fun K v2 h2 => ?_)
        refine z_icmp_eq (tgt := 801) dL_law_615 (by decide) (fun h615 => ?_) (fun h615 => absurd h615 (fun z => z (h1.1.trans h2.1.symm)))
        refine z_iincN3 (n := 5) dL_law_801 rfl ?_
        refine z_goto (tgt := 18) dL_law_804 (by decide) ?_
        exact ih (i + 5) K L _ (by omega) (by omega) (h1.2.1.lo h2.2.2) h2.2.1
      · refine z_tIn (tgt := 620) dL_law_32 (by omega) (by omega) (by rw [hq]; rfl) (by decide) ?_
        refine z_aload_n dL_law_620 rfl ?_
        refine z_aload_nR dL_law_621 rfl ?_
        refine z_iload_n dL_law_622 rfl ?_
        refine z_iconst (nI 1) dL_law_623 (by decide) ?_
        refine z_iaddN dL_law_624 ?_
        refine z_sld rfl dL_law_625 (vp_in_nI (by omega) (by omega)) ?_
        refine z_aload_nR dL_law_626 rfl ?_
        refine z_iload_n dL_law_627 rfl ?_
        refine z_iconst (nI 2) dL_law_628 (by decide) ?_
        refine z_iaddN dL_law_629 ?_
        refine z_sld rfl dL_law_630 (vp_in_nI (by omega) (by omega)) ?_
        refine z_callV2i dL_law_631 mL_82 hT.o (t_wouldCut _ L hT hCI _ _) (Nat.le_of_ble_eq_true rfl) (Nat.le_of_ble_eq_true rfl) ⟨Nat.le_of_ble_eq_true rfl, Nat.le_of_ble_eq_true rfl⟩ (fun J v1 h1 => ?_)
        have hDJ := hDM.hi h1.2.2
        refine z_aload_n dL_law_634 rfl ?_
        refine z_aload_nR dL_law_635 rfl ?_
        refine z_iload_n dL_law_636 rfl ?_
        refine z_iconst (nI 1) dL_law_637 (by decide) ?_
        refine z_iaddN dL_law_638 ?_
        refine z_sld rfl dL_law_639 (vp_in_nI (by omega) (by omega)) ?_
        refine z_aload_nR dL_law_640 rfl ?_
        refine z_iload_n dL_law_641 rfl ?_
        refine z_iconst (nI 2) dL_law_642 (by decide) ?_
        refine z_iaddN dL_law_643 ?_
        refine z_sld rfl dL_law_644 (vp_in_nI (by omega) (by omega)) ?_
        refine z_callV2i dL_law_645 mL_85 hM.o (m_wouldCut _ L hM hDJ _ _) (Nat.le_of_ble_eq_true rfl) (Nat.le_of_ble_eq_true rfl) ⟨Nat.le_of_ble_eq_true rfl, Nat.le_of_ble_eq_true rfl⟩ (fun K v2 h2 => ?_)
        refine z_icmp_eq (tgt := 801) dL_law_648 (by decide) (fun h648 => ?_) (fun h648 => absurd h648 (fun z => z (h1.1.trans h2.1.symm)))
        refine z_iincN3 (n := 5) dL_law_801 rfl ?_
        refine z_goto (tgt := 18) dL_law_804 (by decide) ?_
        exact ih (i + 5) K L _ (by omega) (by omega) (h1.2.1.lo h2.2.2) h2.2.1
      · refine z_tIn (tgt := 653) dL_law_32 (by omega) (by omega) (by rw [hq]; rfl) (by decide) ?_
        refine z_aload_n dL_law_653 rfl ?_
        refine z_aload_nR dL_law_654 rfl ?_
        refine z_iload_n dL_law_655 rfl ?_
        refine z_iconst (nI 1) dL_law_656 (by decide) ?_
        refine z_iaddN dL_law_657 ?_
        refine z_sld rfl dL_law_658 (vp_in_nI (by omega) (by omega)) ?_
        refine z_aload_nR dL_law_659 rfl ?_
        refine z_iload_n dL_law_660 rfl ?_
        refine z_iconst (nI 2) dL_law_661 (by decide) ?_
        refine z_iaddN dL_law_662 ?_
        refine z_sld rfl dL_law_663 (vp_in_nI (by omega) (by omega)) ?_
        refine z_aload_nR dL_law_664 rfl ?_
        refine z_iload_n dL_law_665 rfl ?_
        refine z_iconst (nI 3) dL_law_666 (by decide) ?_
        refine z_iaddN dL_law_667 ?_
        refine z_sld rfl dL_law_668 (vp_in_nI (by omega) (by omega)) ?_
        refine z_callV3i dL_law_669 mL_86 hT.o (t_wouldMove _ L hT hCI _ _ _) (Nat.le_of_ble_eq_true rfl) (Nat.le_of_ble_eq_true rfl) ⟨Nat.le_of_ble_eq_true rfl, Nat.le_of_ble_eq_true rfl⟩ (fun J v1 h1 => ?_)
        have hDJ := hDM.hi h1.2.2
        refine z_aload_n dL_law_672 rfl ?_
        refine z_aload_nR dL_law_673 rfl ?_
        refine z_iload_n dL_law_674 rfl ?_
        refine z_iconst (nI 1) dL_law_675 (by decide) ?_
        refine z_iaddN dL_law_676 ?_
        refine z_sld rfl dL_law_677 (vp_in_nI (by omega) (by omega)) ?_
        refine z_aload_nR dL_law_678 rfl ?_
        refine z_iload_n dL_law_679 rfl ?_
        refine z_iconst (nI 2) dL_law_680 (by decide) ?_
        refine z_iaddN dL_law_681 ?_
        refine z_sld rfl dL_law_682 (vp_in_nI (by omega) (by omega)) ?_
        refine z_aload_nR dL_law_683 rfl ?_
        refine z_iload_n dL_law_684 rfl ?_
        refine z_iconst (nI 3) dL_law_685 (by decide) ?_
        refine z_iaddN dL_law_686 ?_
        refine z_sld rfl dL_law_687 (vp_in_nI (by omega) (by omega)) ?_
        refine z_callV3i dL_law_688 mL_89 hM.o (m_wouldMove _ L hM hDJ _ _ _) (Nat.le_of_ble_eq_true rfl) (Nat.le_of_ble_eq_true rfl) ⟨Nat.le_of_ble_eq_true rfl, Nat.le_of_ble_eq_true rfl⟩ (fun K v2 h2 => ?_)
        refine z_icmp_eq (tgt := 801) dL_law_691 (by decide) (fun h691 => ?_) (fun h691 => absurd h691 (fun z => z (h1.1.trans h2.1.symm)))
        refine z_iincN3 (n := 5) dL_law_801 rfl ?_
        refine z_goto (tgt := 18) dL_law_804 (by decide) ?_
        exact ih (i + 5) K L _ (by omega) (by omega) (h1.2.1.lo h2.2.2) h2.2.1
      · refine z_tIn (tgt := 696) dL_law_32 (by omega) (by omega) (by rw [hq]; rfl) (by decide) ?_
        refine z_aload_n dL_law_696 rfl ?_
        refine z_aload_nR dL_law_697 rfl ?_
        refine z_iload_n dL_law_698 rfl ?_
        refine z_iconst (nI 1) dL_law_699 (by decide) ?_
        refine z_iaddN dL_law_700 ?_
        refine z_sld rfl dL_law_701 (vp_in_nI (by omega) (by omega)) ?_
        refine z_aload_nR dL_law_702 rfl ?_
        refine z_iload_n dL_law_703 rfl ?_
        refine z_iconst (nI 2) dL_law_704 (by decide) ?_
        refine z_iaddN dL_law_705 ?_
        refine z_sld rfl dL_law_706 (vp_in_nI (by omega) (by omega)) ?_
        refine z_aload_nR dL_law_707 rfl ?_
        refine z_iload_n dL_law_708 rfl ?_
        refine z_iconst (nI 3) dL_law_709 (by decide) ?_
        refine z_iaddN dL_law_710 ?_
        refine z_sld rfl dL_law_711 (vp_in_nI (by omega) (by omega)) ?_
        refine z_if_eq (tgt := 719) dL_law_712 (by decide) (fun h712 => ?_) (fun h712 => ?_)
        · refine z_iconst (nI 0) dL_law_719 (by decide) ?_
          refine z_callV3i dL_law_720 mL_90 hT.o (t_pair0 _ L hT hCI _ _) (Nat.le_of_ble_eq_true rfl) (Nat.le_of_ble_eq_true rfl) ⟨Nat.le_of_ble_eq_true rfl, Nat.le_of_ble_eq_true rfl⟩ (fun J v1 h1 => ?_)
          have hDJ := hDM.hi h1.2.2
          refine z_aload_n dL_law_723 rfl ?_
          refine z_aload_nR dL_law_724 rfl ?_
          refine z_iload_n dL_law_725 rfl ?_
          refine z_iconst (nI 1) dL_law_726 (by decide) ?_
          refine z_iaddN dL_law_727 ?_
          refine z_sld rfl dL_law_728 (vp_in_nI (by omega) (by omega)) ?_
          refine z_aload_nR dL_law_729 rfl ?_
          refine z_iload_n dL_law_730 rfl ?_
          refine z_iconst (nI 2) dL_law_731 (by decide) ?_
          refine z_iaddN dL_law_732 ?_
          refine z_sld rfl dL_law_733 (vp_in_nI (by omega) (by omega)) ?_
          refine z_aload_nR dL_law_734 rfl ?_
          refine z_iload_n dL_law_735 rfl ?_
          refine z_iconst (nI 3) dL_law_736 (by decide) ?_
          refine z_iaddN dL_law_737 ?_
          refine z_sld rfl dL_law_738 (vp_in_nI (by omega) (by omega)) ?_
          refine z_if_eq (tgt := 746) dL_law_739 (by decide) (fun h739 => ?_) (fun h739 => ?_)
          · refine z_iconst (nI 0) dL_law_746 (by decide) ?_
            refine z_callV3i dL_law_747 mL_94 hM.o (m_pair0 _ L hM hDJ _ _) (Nat.le_of_ble_eq_true rfl) (Nat.le_of_ble_eq_true rfl) ⟨Nat.le_of_ble_eq_true rfl, Nat.le_of_ble_eq_true rfl⟩ (fun K v2 h2 => ?_)
            refine z_icmp_eq (tgt := 801) dL_law_750 (by decide) (fun h750 => ?_) (fun h750 => absurd h750 (fun z => z (h1.1.trans h2.1.symm)))
            refine z_iincN3 (n := 5) dL_law_801 rfl ?_
            refine z_goto (tgt := 18) dL_law_804 (by decide) ?_
            exact ih (i + 5) K L _ (by omega) (by omega) (h1.2.1.lo h2.2.2) h2.2.1
          · exact absurd h712 h739
        · refine z_iconst (nI 1) dL_law_715 (by decide) ?_
          refine z_goto (tgt := 720) dL_law_716 (by decide) ?_
          refine z_callV3i dL_law_720 mL_90 hT.o (t_pair1 _ L hT hCI _ _) (Nat.le_of_ble_eq_true rfl) (Nat.le_of_ble_eq_true rfl) ⟨Nat.le_of_ble_eq_true rfl, Nat.le_of_ble_eq_true rfl⟩ (fun J v1 h1 => ?_)
          have hDJ := hDM.hi h1.2.2
          refine z_aload_n dL_law_723 rfl ?_
          refine z_aload_nR dL_law_724 rfl ?_
          refine z_iload_n dL_law_725 rfl ?_
          refine z_iconst (nI 1) dL_law_726 (by decide) ?_
          refine z_iaddN dL_law_727 ?_
          refine z_sld rfl dL_law_728 (vp_in_nI (by omega) (by omega)) ?_
          refine z_aload_nR dL_law_729 rfl ?_
          refine z_iload_n dL_law_730 rfl ?_
          refine z_iconst (nI 2) dL_law_731 (by decide) ?_
          refine z_iaddN dL_law_732 ?_
          refine z_sld rfl dL_law_733 (vp_in_nI (by omega) (by omega)) ?_
          refine z_aload_nR dL_law_734 rfl ?_
          refine z_iload_n dL_law_735 rfl ?_
          refine z_iconst (nI 3) dL_law_736 (by decide) ?_
          refine z_iaddN dL_law_737 ?_
          refine z_sld rfl dL_law_738 (vp_in_nI (by omega) (by omega)) ?_
          refine z_if_eq (tgt := 746) dL_law_739 (by decide) (fun h739 => ?_) (fun h739 => ?_)
          · exact absurd h739 h712
          · refine z_iconst (nI 1) dL_law_742 (by decide) ?_
            refine z_goto (tgt := 747) dL_law_743 (by decide) ?_
            refine z_callV3i dL_law_747 mL_94 hM.o (m_pair1 _ L hM hDJ _ _) (Nat.le_of_ble_eq_true rfl) (Nat.le_of_ble_eq_true rfl) ⟨Nat.le_of_ble_eq_true rfl, Nat.le_of_ble_eq_true rfl⟩ (fun K v2 h2 => ?_)
            refine z_icmp_eq (tgt := 801) dL_law_750 (by decide) (fun h750 => ?_) (fun h750 => absurd h750 (fun z => z (h1.1.trans h2.1.symm)))
            refine z_iincN3 (n := 5) dL_law_801 rfl ?_
            refine z_goto (tgt := 18) dL_law_804 (by decide) ?_
            exact ih (i + 5) K L _ (by omega) (by omega) (h1.2.1.lo h2.2.2) h2.2.1
      · refine z_tIn (tgt := 755) dL_law_32 (by omega) (by omega) (by rw [hq]; rfl) (by decide) ?_
        refine z_aload_n dL_law_755 rfl ?_
        refine z_aload_nR dL_law_756 rfl ?_
        refine z_iload_n dL_law_757 rfl ?_
        refine z_iconst (nI 1) dL_law_758 (by decide) ?_
        refine z_iaddN dL_law_759 ?_
        refine z_sld rfl dL_law_760 (vp_in_nI (by omega) (by omega)) ?_
        refine z_callV1i dL_law_761 mL_95 hT.o (t_keep _ L hT hCI _) (Nat.le_of_ble_eq_true rfl) (Nat.le_of_ble_eq_true rfl) ⟨Nat.le_of_ble_eq_true rfl, Nat.le_of_ble_eq_true rfl⟩ (fun J v1 h1 => ?_)
        have hDJ := hDM.hi h1.2.2
        refine z_aload_n dL_law_764 rfl ?_
        refine z_aload_nR dL_law_765 rfl ?_
        refine z_iload_n dL_law_766 rfl ?_
        refine z_iconst (nI 1) dL_law_767 (by decide) ?_
        refine z_iaddN dL_law_768 ?_
        refine z_sld rfl dL_law_769 (vp_in_nI (by omega) (by omega)) ?_
        refine z_callV1i dL_law_770 mL_98 hM.o (m_keep _ L hM hDJ _) (Nat.le_of_ble_eq_true rfl) (Nat.le_of_ble_eq_true rfl) ⟨Nat.le_of_ble_eq_true rfl, Nat.le_of_ble_eq_true rfl⟩ (fun K v2 h2 => ?_)
        refine z_icmp_eq (tgt := 801) dL_law_773 (by decide) (fun h773 => ?_) (fun h773 => absurd h773 (fun z => z (h1.1.trans h2.1.symm)))
        refine z_iincN3 (n := 5) dL_law_801 rfl ?_
        refine z_goto (tgt := 18) dL_law_804 (by decide) ?_
        exact ih (i + 5) K L _ (by omega) (by omega) (h1.2.1.lo h2.2.2) h2.2.1
      · refine z_tIn (tgt := 778) dL_law_32 (by omega) (by omega) (by rw [hq]; rfl) (by decide) ?_
        refine z_aload_n dL_law_778 rfl ?_
        refine z_aload_nR dL_law_779 rfl ?_
        refine z_iload_n dL_law_780 rfl ?_
        refine z_iconst (nI 1) dL_law_781 (by decide) ?_
        refine z_iaddN dL_law_782 ?_
        refine z_sld rfl dL_law_783 (vp_in_nI (by omega) (by omega)) ?_
        refine z_callV1i dL_law_784 mL_99 hT.o (t_goBack _ L hT hCI _) (Nat.le_of_ble_eq_true rfl) (Nat.le_of_ble_eq_true rfl) ⟨Nat.le_of_ble_eq_true rfl, Nat.le_of_ble_eq_true rfl⟩ (fun J v1 h1 => ?_)
        have hDJ := hDM.hi h1.2.2
        refine z_aload_n dL_law_787 rfl ?_
        refine z_aload_nR dL_law_788 rfl ?_
        refine z_iload_n dL_law_789 rfl ?_
        refine z_iconst (nI 1) dL_law_790 (by decide) ?_
        refine z_iaddN dL_law_791 ?_
        refine z_sld rfl dL_law_792 (vp_in_nI (by omega) (by omega)) ?_
        refine z_callV1i dL_law_793 mL_102 hM.o (m_goBack _ L hM hDJ _) (Nat.le_of_ble_eq_true rfl) (Nat.le_of_ble_eq_true rfl) ⟨Nat.le_of_ble_eq_true rfl, Nat.le_of_ble_eq_true rfl⟩ (fun K v2 h2 => ?_)
        refine z_icmp_eq (tgt := 801) dL_law_796 (by decide) (fun h796 => ?_) (fun h796 => absurd h796 (fun z => z (h1.1.trans h2.1.symm)))
        refine z_iincN3 (n := 5) dL_law_801 rfl ?_
        refine z_goto (tgt := 18) dL_law_804 (by decide) ?_
        exact ih (i + 5) K L _ (by omega) (by omega) (h1.2.1.lo h2.2.2) h2.2.1
theorem zWf_0 : zWf [] zRs := fun p k q hp => absurd hp (Nat.not_lt_zero p)
set_option maxRecDepth 100000 in
set_option maxHeartbeats 4000000 in
theorem law_start {b n : Nat} {xs : Nat → Int32} (hn : n ≤ 2560) : zV (lwG b n xs) lwP (0, 0) [] zIs zLs zRs 0 [some (.retAddr b), none, none, none] [] := by
  have hw := zWf_0
  refine z_newo (b := 0) dL_law_0 zC_X5 kL_7 df_X5 rfl hw ⟨Nat.le_of_ble_eq_true rfl, Nat.le_of_ble_eq_true rfl⟩ ⟨(by repeat first | exact zOk_nil | refine zOk_r (by first | omega | exact Nat.le_of_ble_eq_true rfl) ?_ | refine zOk_i ?_ | refine zOk_a ?_), (by repeat first | exact zOk_nil | refine zOk_r (by first | omega | exact Nat.le_of_ble_eq_true rfl) ?_ | refine zOk_i ?_ | refine zOk_a ?_)⟩ ?_
  have hw := zWf_new (x := (5 + 3, 0)) (b := 0) hw rfl
  refine z_dup dL_law_3 rfl ?_
  refine z_callI0g dL_law_4 mL_9 (n_TwoMasks _ _ hw) (Nat.le_of_ble_eq_true rfl) (Nat.le_of_ble_eq_true rfl) ⟨Nat.le_of_ble_eq_true rfl, Nat.le_of_ble_eq_true rfl⟩ (fun _ _ _ _ _ _ => Or.inr ⟨(by repeat first | exact zOk_nil | refine zOk_r (by first | omega | exact Nat.le_of_ble_eq_true rfl) ?_ | refine zOk_i ?_ | refine zOk_a ?_), (by repeat first | exact zOk_nil | refine zOk_r (by first | omega | exact Nat.le_of_ble_eq_true rfl) ?_ | refine zOk_i ?_ | refine zOk_a ?_)⟩) (fun S2 I2 L2 R2 r hr => ?_)
  obtain ⟨rfl, rfl, rfl, rfl, hw⟩ := hr
  refine z_ast1 dL_law_7 rfl ?_
  refine z_newo (b := 96) dL_law_8 zC_X6 kL_10 df_X6 tm_len hw ⟨Nat.le_of_ble_eq_true rfl, Nat.le_of_ble_eq_true rfl⟩ ⟨(by repeat first | exact zOk_nil | refine zOk_r (by first | omega | exact Nat.le_of_ble_eq_true rfl) ?_ | refine zOk_i ?_ | refine zOk_a ?_), (by repeat first | exact zOk_nil | refine zOk_r (by first | omega | exact Nat.le_of_ble_eq_true rfl) ?_ | refine zOk_i ?_ | refine zOk_a ?_)⟩ ?_
  have hw : zWf nMoS0 _ := zWf_new (x := (6 + 3, 0)) (b := 96) hw tm_len
  refine z_dup dL_law_11 rfl ?_
  refine z_callI0g dL_law_12 mL_12 (n_Model _ _ hw) (Nat.le_of_ble_eq_true rfl) (Nat.le_of_ble_eq_true rfl) ⟨Nat.le_of_ble_eq_true rfl, Nat.le_of_ble_eq_true rfl⟩ (fun _ _ _ _ _ _ => Or.inr ⟨(by repeat first | exact zOk_nil | refine zOk_r (by first | omega | exact Nat.le_of_ble_eq_true rfl) ?_ | refine zOk_i ?_ | refine zOk_a ?_), (by repeat first | exact zOk_nil | refine zOk_r (by first | omega | exact Nat.le_of_ble_eq_true rfl) ?_ | refine zOk_i ?_ | refine zOk_a ?_)⟩) (fun S2 I2 L2 R2 r hr => ?_)
  obtain ⟨rfl, rfl, rfl, rfl⟩ := hr
  refine z_ast2 dL_law_15 rfl ?_
  refine z_iconst (nI 0) dL_law_16 (by decide) ?_
  refine z_ist3 dL_law_17 rfl ?_
  exact law_loop hn fT fM (n + 5) 0 fI _ s0 (by omega) (by omega) fCI fDM
