/-! The law's cases, on. -/
set_option maxHeartbeats 4000000 in
set_option maxRecDepth 100000 in
theorem cs_fill {V : zv_V} (E : zv_OK V) (hL : zv_L V ≤ 3072) {n0 u0 i n : Nat} {w : zw_W} {Q : zg_O → zw_W → Prop} (hi : i + 6 ≤ zv_L V) (hI : zy_I n w) (hn : n ≤ 600) (K : ∀ w2, zy_I (n + 1) w2 → zg_G V zm_L_law 10 260 n0 u0 1123 [] [(0, .ref 0), (1, .ref 1), (2, .ref 156), (3, .ref 165), (4, .int (nI i))] w2 Q) : zg_G V zm_L_law 10 260 n0 u0 207 [] [(0, .ref 0), (1, .ref 1), (2, .ref 156), (3, .ref 165), (4, .int (nI i))] w Q := by
  have HX := (zy_IL hI).1
  have HM := (zy_IL hI).2.1
  refine zg_aload_n dL_law_207 rfl ?_
  refine zg_aload_n dL_law_208 rfl ?_
  refine zg_iload dL_law_209 rfl ?_
  refine zg_iconst (v := nI 1) dL_law_211 (by decide) ?_
  refine zg_iadd dL_law_212 ?_
  refine zg_v (x' := nI (i + 1)) (nI_add _ _) ?_
  refine zg_sld E (j := i + 1) dL_law_213 rfl (by omega) (by omega) ?_
  refine zg_aload_n dL_law_214 rfl ?_
  refine zg_iload dL_law_215 rfl ?_
  refine zg_iconst (v := nI 2) dL_law_217 (by decide) ?_
  refine zg_iadd dL_law_218 ?_
  refine zg_v (x' := nI (i + 2)) (nI_add _ _) ?_
  refine zg_sld E (j := i + 2) dL_law_219 rfl (by omega) (by omega) ?_
  refine zg_i2l dL_law_220 ?_
  refine zg_bipush (v := nI 32) dL_law_221 (by decide) ?_
  refine zg_lshl dL_law_223 ?_
  refine zg_aload_n dL_law_224 rfl ?_
  refine zg_iload dL_law_225 rfl ?_
  refine zg_iconst (v := nI 3) dL_law_227 (by decide) ?_
  refine zg_iadd dL_law_228 ?_
  refine zg_v (x' := nI (i + 3)) (nI_add _ _) ?_
  refine zg_sld E (j := i + 3) dL_law_229 rfl (by omega) (by omega) ?_
  refine zg_i2l dL_law_230 ?_
  refine zg_ldc2 E (v := 4294967295) dL_law_231 (by decide +kernel) ?_
  refine zg_land dL_law_234 ?_
  refine zg_lor dL_law_235 ?_
  refine zg_aload_n dL_law_236 rfl ?_
  refine zg_iload dL_law_237 rfl ?_
  refine zg_iconst (v := nI 4) dL_law_239 (by decide) ?_
  refine zg_iadd dL_law_240 ?_
  refine zg_v (x' := nI (i + 4)) (nI_add _ _) ?_
  refine zg_sld E (j := i + 4) dL_law_241 rfl (by omega) (by omega) ?_
  refine zg_i2l dL_law_242 ?_
  refine zg_bipush (v := nI 32) dL_law_243 (by decide) ?_
  refine zg_lshl dL_law_245 ?_
  refine zg_aload_n dL_law_246 rfl ?_
  refine zg_iload dL_law_247 rfl ?_
  refine zg_iconst (v := nI 5) dL_law_249 (by decide) ?_
  refine zg_iadd dL_law_250 ?_
  refine zg_v (x' := nI (i + 5)) (nI_add _ _) ?_
  refine zg_sld E (j := i + 5) dL_law_251 rfl (by omega) (by omega) ?_
  refine zg_i2l dL_law_252 ?_
  refine zg_ldc2 E (v := 4294967295) dL_law_253 (by decide +kernel) ?_
  refine zg_land dL_law_256 ?_
  refine zg_lor dL_law_257 ?_
  refine zg_aload_n dL_law_258 rfl ?_
  obtain ⟨kd, a, a', hk, ha, -, hC⟩ := sp_fill E hI hn (zv_x V (i + 1)) ((((zv_x V (i + 2)).toInt64) <<< ((nI 32).toInt64 &&& 63)) ||| (((zv_x V (i + 3)).toInt64) &&& ((4294967295)))) ((((zv_x V (i + 4)).toInt64) <<< ((nI 32).toInt64 &&& 63)) ||| (((zv_x V (i + 5)).toInt64) &&& ((4294967295))))
  refine zg_sret (M := zm_L_law) E dL_law_259 hC wd_L_79 dh_L_fill dn_L_fill (Nat.le_of_ble_eq_true rfl) (Nat.le_of_ble_eq_true rfl) (Nat.le_of_ble_eq_true rfl) (zl_capM HM) rfl (fun w259 g259 => ?_)
  obtain ⟨HL1, hv1, hC1⟩ := g259
  have HM := HL1.2.1
  refine zg_istore (lv' := [(5, .int (nI kd)), (0, .ref 0), (1, .ref 1), (2, .ref 156), (3, .ref 165), (4, .int (nI i))]) dL_law_262 (by decide) rfl ?_
  refine zg_aload_n dL_law_264 rfl ?_
  refine zg_aload_n dL_law_265 rfl ?_
  refine zg_iload dL_law_266 rfl ?_
  refine zg_iconst (v := nI 1) dL_law_268 (by decide) ?_
  refine zg_iadd dL_law_269 ?_
  refine zg_v (x' := nI (i + 1)) (nI_add _ _) ?_
  refine zg_sld E (j := i + 1) dL_law_270 rfl (by omega) (by omega) ?_
  refine zg_aload_n dL_law_271 rfl ?_
  refine zg_iload dL_law_272 rfl ?_
  refine zg_iconst (v := nI 2) dL_law_274 (by decide) ?_
  refine zg_iadd dL_law_275 ?_
  refine zg_v (x' := nI (i + 2)) (nI_add _ _) ?_
  refine zg_sld E (j := i + 2) dL_law_276 rfl (by omega) (by omega) ?_
  refine zg_i2l dL_law_277 ?_
  refine zg_bipush (v := nI 32) dL_law_278 (by decide) ?_
  refine zg_lshl dL_law_280 ?_
  refine zg_aload_n dL_law_281 rfl ?_
  refine zg_iload dL_law_282 rfl ?_
  refine zg_iconst (v := nI 3) dL_law_284 (by decide) ?_
  refine zg_iadd dL_law_285 ?_
  refine zg_v (x' := nI (i + 3)) (nI_add _ _) ?_
  refine zg_sld E (j := i + 3) dL_law_286 rfl (by omega) (by omega) ?_
  refine zg_i2l dL_law_287 ?_
  refine zg_ldc2 E (v := 4294967295) dL_law_288 (by decide +kernel) ?_
  refine zg_land dL_law_291 ?_
  refine zg_lor dL_law_292 ?_
  refine zg_aload_n dL_law_293 rfl ?_
  refine zg_iload dL_law_294 rfl ?_
  refine zg_iconst (v := nI 4) dL_law_296 (by decide) ?_
  refine zg_iadd dL_law_297 ?_
  refine zg_v (x' := nI (i + 4)) (nI_add _ _) ?_
  refine zg_sld E (j := i + 4) dL_law_298 rfl (by omega) (by omega) ?_
  refine zg_i2l dL_law_299 ?_
  refine zg_bipush (v := nI 32) dL_law_300 (by decide) ?_
  refine zg_lshl dL_law_302 ?_
  refine zg_aload_n dL_law_303 rfl ?_
  refine zg_iload dL_law_304 rfl ?_
  refine zg_iconst (v := nI 5) dL_law_306 (by decide) ?_
  refine zg_iadd dL_law_307 ?_
  refine zg_v (x' := nI (i + 5)) (nI_add _ _) ?_
  refine zg_sld E (j := i + 5) dL_law_308 rfl (by omega) (by omega) ?_
  refine zg_i2l dL_law_309 ?_
  refine zg_ldc2 E (v := 4294967295) dL_law_310 (by decide +kernel) ?_
  refine zg_land dL_law_313 ?_
  refine zg_lor dL_law_314 ?_
  refine zg_vrt (M := zm_L_law) E (ci := 4) dL_law_315 hC1 wd_L_82 rfl (congrArg Prod.fst (zl_Mat HM (k := 156) (t := (4, 17)) rfl (by decide) (by decide))) (by decide) (zl_Mlt HM (by decide)) rfl dh_X4_fill dn_X4_fill (Nat.le_of_ble_eq_true rfl) (Nat.le_of_ble_eq_true rfl) (Nat.le_of_ble_eq_true rfl) (zl_capM HM) rfl (fun w315 g315 => ?_)
  obtain ⟨I9, t9, l9⟩ := g315
  have HL2 := zy_IL I9
  have HM := HL2.2.1
  refine zg_istore (lv' := [(6, .int a'), (5, .int (nI kd)), (0, .ref 0), (1, .ref 1), (2, .ref 156), (3, .ref 165), (4, .int (nI i))]) dL_law_318 (by decide) rfl ?_
  refine zg_aload_n dL_law_320 rfl ?_
  refine zg_vrt (M := zm_L_law) E (ci := 4) dL_law_321 (mt_thrown E HM) wd_L_74 rfl (congrArg Prod.fst (zl_Mat HM (k := 156) (t := (4, 17)) rfl (by decide) (by decide))) (by decide) (zl_Mlt HM (by decide)) rfl dh_X4_thrown dn_X4_thrown (Nat.le_of_ble_eq_true rfl) (Nat.le_of_ble_eq_true rfl) (Nat.le_of_ble_eq_true rfl) (zl_capM HM) rfl (fun w321 g321 => ?_)
  subst w321
  refine zg_v (x' := nI kd) t9 ?_
  refine zg_iload dL_law_324 rfl ?_
  refine zg_icmp_eq (tgt := 331) dL_law_326 (by decide) (fun h326 => ?_) (fun h326 => ?_)
  · refine zg_iload dL_law_331 rfl ?_
    refine zg_if_ne (tgt := 348) dL_law_333 (by decide) (fun h333 => ?_) (fun h333 => ?_)
    · refine zg_goto (tgt := 1123) dL_law_348 (by decide) ?_
      refine zg_l [2, 3, 4, 5, 6] rfl ?_
      exact K w315 I9
    · have k0 : kd = 0 := zy_k0 hk h333
      refine zg_aload_n dL_law_336 rfl ?_
      refine zg_iconst (v := nI 0) dL_law_337 (by decide) ?_
      refine zg_lald E (j := 0) dL_law_338 HL2.2.2.2.1 (by decide) (by have := HL2.2.2.1; omega) rfl (by omega) (by decide) ?_
      refine zg_vl (x' := (a').toInt64) (by rw [l9, hv1 k0, ha k0]) ?_
      refine zg_iload dL_law_339 rfl ?_
      refine zg_i2l dL_law_341 ?_
      refine zg_lcmp dL_law_342 ?_
      refine zg_if_eq (tgt := 348) dL_law_343 (by decide) (fun h343 => ?_) (fun h343 => ?_)
      · refine zg_goto (tgt := 1123) dL_law_348 (by decide) ?_
        refine zg_l [2, 3, 4, 5, 6] rfl ?_
        exact K w315 I9
      · exact absurd (zy_cmp _) h343
  · exact absurd rfl h326
