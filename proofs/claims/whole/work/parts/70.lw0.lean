/-! the law: its cases -/
section LW70
variable {G : xG} {l : Launch} {d bc bs i : Nat} {h : xH} {n : Nat} {P : Option Value → xH → Nat → Prop} {ad tg : Nat → Nat} {ts : List sT} {ys : List Int32} {us : List sU} {cs : List Int32} {as : List sA}
set_option maxRecDepth 20000 in
set_option maxHeartbeats 1000000 in
theorem lw_c0 (hN : xN G < 2 ^ 31) (hi : i + 5 ≤ xN G) (hS : St h n ad tg ts ys us cs as) (nx : ∀ bc' bs' h' n' ad' tg' ts' ys' us' cs' as', bc ≤ bc' → bs ≤ bs' → ad' 0 = ad 0 → ad' 1000 = ad 1000 → St h' n' ad' tg' ts' ys' us' cs' as' → ev_Run G l (d + 7) bc' bs' mLw_law 1168 [some (.ref (xb G)), some (.ref (ad 0)), some (.ref (ad 1000)), some (.int (nI i))] [] h' n' P) : ev_Run G l (d + 7) (bc + 4) (bs + 171) mLw_law 144 [some (.ref (xb G)), some (.ref (ad 0)), some (.ref (ad 1000)), some (.int (nI i))] [] h n P := by
  obtain ⟨hI, ⟨lr, lq, X, N⟩, S, L, ⟨pg, B⟩, iv, ia, la, MH, MT, MY, MU, MG⟩ := id hS
  have h0 := X.2.1
  have M0 : MoK h h ad tg ts.length iv ia la := ⟨X.1, MH, fun _ _ => rfl⟩
  refine ev_aload_n dLw_law_144 rfl rfl ?_
  refine ev_aload_n dLw_law_145 rfl rfl ?_
  refine ev_iload_n dLw_law_146 rfl rfl ?_
  refine ev_iconst (v := nI 1) dLw_law_147 (by decide) ?_
  refine ev_iadd dLw_law_148 ?_
  refine ev_sld dLw_law_149 (nI_add _ _) (by omega) hN ?_
  refine ev_i2l dLw_law_150 ?_
  refine ev_bipush (v := nI 32) dLw_law_151 (by decide) ?_
  refine ev_lshl dLw_law_153 ?_
  refine ev_aload_n dLw_law_154 rfl rfl ?_
  refine ev_iload_n dLw_law_155 rfl rfl ?_
  refine ev_iconst (v := nI 2) dLw_law_156 (by decide) ?_
  refine ev_iadd dLw_law_157 ?_
  refine ev_sld dLw_law_158 (nI_add _ _) (by omega) hN ?_
  refine ev_i2l dLw_law_159 ?_
  refine ev_ldc2 (v := lN 4294967295) dLw_law_160 qLw_13 ?_
  refine ev_land dLw_law_163 ?_
  refine ev_lor dLw_law_164 ?_
  refine ev_aload_n dLw_law_165 rfl rfl ?_
  refine ev_iload_n dLw_law_166 rfl rfl ?_
  refine ev_iconst (v := nI 3) dLw_law_167 (by decide) ?_
  refine ev_iadd dLw_law_168 ?_
  refine ev_sld dLw_law_169 (nI_add _ _) (by omega) hN ?_
  refine ev_aload_n dLw_law_170 rfl rfl ?_
  refine ev_iload_n dLw_law_171 rfl rfl ?_
  refine ev_iconst (v := nI 4) dLw_law_172 (by decide) ?_
  refine ev_iadd dLw_law_173 ?_
  refine ev_sld dLw_law_174 (nI_add _ _) (by omega) hN ?_
  refine ca_BL_haul dLw_law_175 lLw_15 h0 (Nat.le_of_ble_eq_true rfl) (bc1 := 4) (bs1 := 171) (bc2 := bc) (bs2 := bs) (by omega) (by omega) (BL_haul_ok X (fun h1 n1 ad1 tg1 X1 F1 le1 => ?_))
  have M1 := M_F X.1 MH F1
  refine ev_aload_n dLw_law_178 rfl rfl ?_
  refine ev_aload_n dLw_law_179 rfl rfl ?_
  refine ev_iload_n dLw_law_180 rfl rfl ?_
  refine ev_iconst (v := nI 1) dLw_law_181 (by decide) ?_
  refine ev_iadd dLw_law_182 ?_
  refine ev_sld dLw_law_183 (nI_add _ _) (by omega) hN ?_
  refine ev_i2l dLw_law_184 ?_
  refine ev_bipush (v := nI 32) dLw_law_185 (by decide) ?_
  refine ev_lshl dLw_law_187 ?_
  refine ev_aload_n dLw_law_188 rfl rfl ?_
  refine ev_iload_n dLw_law_189 rfl rfl ?_
  refine ev_iconst (v := nI 2) dLw_law_190 (by decide) ?_
  refine ev_iadd dLw_law_191 ?_
  refine ev_sld dLw_law_192 (nI_add _ _) (by omega) hN ?_
  refine ev_i2l dLw_law_193 ?_
  refine ev_ldc2 (v := lN 4294967295) dLw_law_194 qLw_13 ?_
  refine ev_land dLw_law_197 ?_
  refine ev_lor dLw_law_198 ?_
  refine ev_aload_n dLw_law_199 rfl rfl ?_
  refine ev_iload_n dLw_law_200 rfl rfl ?_
  refine ev_iconst (v := nI 3) dLw_law_201 (by decide) ?_
  refine ev_iadd dLw_law_202 ?_
  refine ev_sld dLw_law_203 (nI_add _ _) (by omega) hN ?_
  refine ev_aload_n dLw_law_204 rfl rfl ?_
  refine ev_iload_n dLw_law_205 rfl rfl ?_
  refine ev_iconst (v := nI 4) dLw_law_206 (by decide) ?_
  refine ev_iadd dLw_law_207 ?_
  refine ev_sld dLw_law_208 (nI_add _ _) (by omega) hN ?_
  refine cz_Mo_haul dLw_law_209 lLw_19 M1.2.1.1 (Nat.le_of_ble_eq_true rfl) (Mo_haul_ok M1 MT  (fun h2 iv2 ia2 la2 M2 T2 r2 => ?_))
  refine ev_icmp_eq (tgt := 1168) dLw_law_212 (by decide) (fun c212 => ?_) (fun c212 => absurd (rfl) c212)
  exact nx bc bs h2 n1 ad1 tg1 _ ys us cs as (by omega) (by omega) F1.1 (F1.2 1000 (by omega)).1 (St_A (Iv_haul hI gN_in (iI_cl (by decide)) (iI_cl (by decide))) N S L B X1 F1 M2 T2 MY MU MG r2)
set_option maxRecDepth 20000 in
set_option maxHeartbeats 1000000 in
theorem lw_c1 (hN : xN G < 2 ^ 31) (hi : i + 5 ≤ xN G) (hS : St h n ad tg ts ys us cs as) (nx : ∀ bc' bs' h' n' ad' tg' ts' ys' us' cs' as', bc ≤ bc' → bs ≤ bs' → ad' 0 = ad 0 → ad' 1000 = ad 1000 → St h' n' ad' tg' ts' ys' us' cs' as' → ev_Run G l (d + 7) bc' bs' mLw_law 1168 [some (.ref (xb G)), some (.ref (ad 0)), some (.ref (ad 1000)), some (.int (nI i))] [] h' n' P) : ev_Run G l (d + 7) (bc + 4) (bs + 171) mLw_law 217 [some (.ref (xb G)), some (.ref (ad 0)), some (.ref (ad 1000)), some (.int (nI i))] [] h n P := by
  obtain ⟨hI, ⟨lr, lq, X, N⟩, S, L, ⟨pg, B⟩, iv, ia, la, MH, MT, MY, MU, MG⟩ := id hS
  have h0 := X.2.1
  have M0 : MoK h h ad tg ts.length iv ia la := ⟨X.1, MH, fun _ _ => rfl⟩
  refine ev_aload_n dLw_law_217 rfl rfl ?_
  refine ca_BL_batch dLw_law_218 lLw_20 h0 (Nat.le_of_ble_eq_true rfl) (bc1 := 4) (bs1 := 171) (bc2 := bc) (bs2 := bs) (by omega) (by omega) (BL_batch_ok X (fun h1 n1 ad1 tg1 X1 F1 le1 => ?_))
  have M1 := M_F X.1 MH F1
  refine ev_aload_n dLw_law_221 rfl rfl ?_
  refine cz_Mo_batch dLw_law_222 lLw_24 M1.2.1.1 (Nat.le_of_ble_eq_true rfl) (Mo_batch_ok M1 MT  (fun h2 iv2 ia2 la2 M2 T2 r2 => ?_))
  refine ev_icmp_eq (tgt := 1168) dLw_law_225 (by decide) (fun c225 => ?_) (fun c225 => absurd (rfl) c225)
  exact nx bc bs h2 n1 ad1 tg1 _ ys us cs as (by omega) (by omega) F1.1 (F1.2 1000 (by omega)).1 (St_A (Iv_batch hI) N S L B X1 F1 M2 T2 MY MU MG r2)
set_option maxRecDepth 20000 in
set_option maxHeartbeats 1000000 in
theorem lw_c2 (hN : xN G < 2 ^ 31) (hi : i + 5 ≤ xN G) (hS : St h n ad tg ts ys us cs as) (nx : ∀ bc' bs' h' n' ad' tg' ts' ys' us' cs' as', bc ≤ bc' → bs ≤ bs' → ad' 0 = ad 0 → ad' 1000 = ad 1000 → St h' n' ad' tg' ts' ys' us' cs' as' → ev_Run G l (d + 7) bc' bs' mLw_law 1168 [some (.ref (xb G)), some (.ref (ad 0)), some (.ref (ad 1000)), some (.int (nI i))] [] h' n' P) : ev_Run G l (d + 7) (bc + 4) (bs + 171) mLw_law 230 [some (.ref (xb G)), some (.ref (ad 0)), some (.ref (ad 1000)), some (.int (nI i))] [] h n P := by
  obtain ⟨hI, ⟨lr, lq, X, N⟩, S, L, ⟨pg, B⟩, iv, ia, la, MH, MT, MY, MU, MG⟩ := id hS
  have h0 := X.2.1
  have M0 : MoK h h ad tg ts.length iv ia la := ⟨X.1, MH, fun _ _ => rfl⟩
  refine ev_aload_n dLw_law_230 rfl rfl ?_
  refine ev_aload_n dLw_law_231 rfl rfl ?_
  refine ev_iload_n dLw_law_232 rfl rfl ?_
  refine ev_iconst (v := nI 1) dLw_law_233 (by decide) ?_
  refine ev_iadd dLw_law_234 ?_
  refine ev_sld dLw_law_235 (nI_add _ _) (by omega) hN ?_
  refine ev_aload_n dLw_law_236 rfl rfl ?_
  refine ev_iload_n dLw_law_237 rfl rfl ?_
  refine ev_iconst (v := nI 2) dLw_law_238 (by decide) ?_
  refine ev_iadd dLw_law_239 ?_
  refine ev_sld dLw_law_240 (nI_add _ _) (by omega) hN ?_
  refine ev_aload_n dLw_law_241 rfl rfl ?_
  refine ev_iload_n dLw_law_242 rfl rfl ?_
  refine ev_iconst (v := nI 3) dLw_law_243 (by decide) ?_
  refine ev_iadd dLw_law_244 ?_
  refine ev_sld dLw_law_245 (nI_add _ _) (by omega) hN ?_
  refine ev_i2l dLw_law_246 ?_
  refine ev_bipush (v := nI 32) dLw_law_247 (by decide) ?_
  refine ev_lshl dLw_law_249 ?_
  refine ev_aload_n dLw_law_250 rfl rfl ?_
  refine ev_iload_n dLw_law_251 rfl rfl ?_
  refine ev_iconst (v := nI 4) dLw_law_252 (by decide) ?_
  refine ev_iadd dLw_law_253 ?_
  refine ev_sld dLw_law_254 (nI_add _ _) (by omega) hN ?_
  refine ev_i2l dLw_law_255 ?_
  refine ev_ldc2 (v := lN 4294967295) dLw_law_256 qLw_13 ?_
  refine ev_land dLw_law_259 ?_
  refine ev_lor dLw_law_260 ?_
  refine cz_BL_into dLw_law_261 lLw_25 h0 (Nat.le_of_ble_eq_true rfl) (BL_into_ok X (Iv_into hI).ok (fun h1 n1 ad1 tg1 X1 F1 le1 => ?_))
  have M1 := M_F X.1 MH F1
  refine ev_aload_n dLw_law_264 rfl rfl ?_
  refine ev_aload_n dLw_law_265 rfl rfl ?_
  refine ev_iload_n dLw_law_266 rfl rfl ?_
  refine ev_iconst (v := nI 1) dLw_law_267 (by decide) ?_
  refine ev_iadd dLw_law_268 ?_
  refine ev_sld dLw_law_269 (nI_add _ _) (by omega) hN ?_
  refine ev_aload_n dLw_law_270 rfl rfl ?_
  refine ev_iload_n dLw_law_271 rfl rfl ?_
  refine ev_iconst (v := nI 2) dLw_law_272 (by decide) ?_
  refine ev_iadd dLw_law_273 ?_
  refine ev_sld dLw_law_274 (nI_add _ _) (by omega) hN ?_
  refine ev_aload_n dLw_law_275 rfl rfl ?_
  refine ev_iload_n dLw_law_276 rfl rfl ?_
  refine ev_iconst (v := nI 3) dLw_law_277 (by decide) ?_
  refine ev_iadd dLw_law_278 ?_
  refine ev_sld dLw_law_279 (nI_add _ _) (by omega) hN ?_
  refine ev_i2l dLw_law_280 ?_
  refine ev_bipush (v := nI 32) dLw_law_281 (by decide) ?_
  refine ev_lshl dLw_law_283 ?_
  refine ev_aload_n dLw_law_284 rfl rfl ?_
  refine ev_iload_n dLw_law_285 rfl rfl ?_
  refine ev_iconst (v := nI 4) dLw_law_286 (by decide) ?_
  refine ev_iadd dLw_law_287 ?_
  refine ev_sld dLw_law_288 (nI_add _ _) (by omega) hN ?_
  refine ev_i2l dLw_law_289 ?_
  refine ev_ldc2 (v := lN 4294967295) dLw_law_290 qLw_13 ?_
  refine ev_land dLw_law_293 ?_
  refine ev_lor dLw_law_294 ?_
  refine cz_Mo_into dLw_law_295 lLw_29 M1.2.1.1 (Nat.le_of_ble_eq_true rfl) (Mo_into_ok M1 MT (Iv_into hI).ok (fun h2 iv2 ia2 la2 M2 T2 r2 => ?_))
  refine ev_icmp_eq (tgt := 1168) dLw_law_298 (by decide) (fun c298 => ?_) (fun c298 => absurd (rfl) c298)
  exact nx (bc + 4) (bs + 171) h2 n1 ad1 tg1 _ ys us cs as (by omega) (by omega) F1.1 (F1.2 1000 (by omega)).1 (St_A (Iv_into hI) N S L B X1 F1 M2 T2 MY MU MG r2)
set_option maxRecDepth 20000 in
set_option maxHeartbeats 1000000 in
theorem lw_c3 (hN : xN G < 2 ^ 31) (hi : i + 5 ≤ xN G) (hS : St h n ad tg ts ys us cs as) (nx : ∀ bc' bs' h' n' ad' tg' ts' ys' us' cs' as', bc ≤ bc' → bs ≤ bs' → ad' 0 = ad 0 → ad' 1000 = ad 1000 → St h' n' ad' tg' ts' ys' us' cs' as' → ev_Run G l (d + 7) bc' bs' mLw_law 1168 [some (.ref (xb G)), some (.ref (ad 0)), some (.ref (ad 1000)), some (.int (nI i))] [] h' n' P) : ev_Run G l (d + 7) (bc + 4) (bs + 171) mLw_law 303 [some (.ref (xb G)), some (.ref (ad 0)), some (.ref (ad 1000)), some (.int (nI i))] [] h n P := by
  obtain ⟨hI, ⟨lr, lq, X, N⟩, S, L, ⟨pg, B⟩, iv, ia, la, MH, MT, MY, MU, MG⟩ := id hS
  have h0 := X.2.1
  have M0 : MoK h h ad tg ts.length iv ia la := ⟨X.1, MH, fun _ _ => rfl⟩
  refine ev_aload_n dLw_law_303 rfl rfl ?_
  refine ev_aload_n dLw_law_304 rfl rfl ?_
  refine ev_iload_n dLw_law_305 rfl rfl ?_
  refine ev_iconst (v := nI 1) dLw_law_306 (by decide) ?_
  refine ev_iadd dLw_law_307 ?_
  refine ev_sld dLw_law_308 (nI_add _ _) (by omega) hN ?_
  refine ev_aload_n dLw_law_309 rfl rfl ?_
  refine ev_iload_n dLw_law_310 rfl rfl ?_
  refine ev_iconst (v := nI 2) dLw_law_311 (by decide) ?_
  refine ev_iadd dLw_law_312 ?_
  refine ev_sld dLw_law_313 (nI_add _ _) (by omega) hN ?_
  refine ev_i2l dLw_law_314 ?_
  refine ev_bipush (v := nI 32) dLw_law_315 (by decide) ?_
  refine ev_lshl dLw_law_317 ?_
  refine ev_aload_n dLw_law_318 rfl rfl ?_
  refine ev_iload_n dLw_law_319 rfl rfl ?_
  refine ev_iconst (v := nI 3) dLw_law_320 (by decide) ?_
  refine ev_iadd dLw_law_321 ?_
  refine ev_sld dLw_law_322 (nI_add _ _) (by omega) hN ?_
  refine ev_i2l dLw_law_323 ?_
  refine ev_ldc2 (v := lN 4294967295) dLw_law_324 qLw_13 ?_
  refine ev_land dLw_law_327 ?_
  refine ev_lor dLw_law_328 ?_
  refine ev_aload_n dLw_law_329 rfl rfl ?_
  refine ev_iload_n dLw_law_330 rfl rfl ?_
  refine ev_iconst (v := nI 4) dLw_law_331 (by decide) ?_
  refine ev_iadd dLw_law_332 ?_
  refine ev_sld dLw_law_333 (nI_add _ _) (by omega) hN ?_
  refine ca_BL_box dLw_law_334 lLw_30 h0 (Nat.le_of_ble_eq_true rfl) (bc1 := 4) (bs1 := 171) (bc2 := bc) (bs2 := bs) (by omega) (by omega) (BL_box_ok X (Iv_box hI (iI_cl (by decide))).ok (fun h1 n1 ad1 tg1 X1 F1 le1 => ?_))
  have M1 := M_F X.1 MH F1
  refine ev_aload_n dLw_law_337 rfl rfl ?_
  refine ev_aload_n dLw_law_338 rfl rfl ?_
  refine ev_iload_n dLw_law_339 rfl rfl ?_
  refine ev_iconst (v := nI 1) dLw_law_340 (by decide) ?_
  refine ev_iadd dLw_law_341 ?_
  refine ev_sld dLw_law_342 (nI_add _ _) (by omega) hN ?_
  refine ev_aload_n dLw_law_343 rfl rfl ?_
  refine ev_iload_n dLw_law_344 rfl rfl ?_
  refine ev_iconst (v := nI 2) dLw_law_345 (by decide) ?_
  refine ev_iadd dLw_law_346 ?_
  refine ev_sld dLw_law_347 (nI_add _ _) (by omega) hN ?_
  refine ev_i2l dLw_law_348 ?_
  refine ev_bipush (v := nI 32) dLw_law_349 (by decide) ?_
  refine ev_lshl dLw_law_351 ?_
  refine ev_aload_n dLw_law_352 rfl rfl ?_
  refine ev_iload_n dLw_law_353 rfl rfl ?_
  refine ev_iconst (v := nI 3) dLw_law_354 (by decide) ?_
  refine ev_iadd dLw_law_355 ?_
  refine ev_sld dLw_law_356 (nI_add _ _) (by omega) hN ?_
  refine ev_i2l dLw_law_357 ?_
  refine ev_ldc2 (v := lN 4294967295) dLw_law_358 qLw_13 ?_
  refine ev_land dLw_law_361 ?_
  refine ev_lor dLw_law_362 ?_
  refine ev_aload_n dLw_law_363 rfl rfl ?_
  refine ev_iload_n dLw_law_364 rfl rfl ?_
  refine ev_iconst (v := nI 4) dLw_law_365 (by decide) ?_
  refine ev_iadd dLw_law_366 ?_
  refine ev_sld dLw_law_367 (nI_add _ _) (by omega) hN ?_
  refine cz_Mo_box dLw_law_368 lLw_34 M1.2.1.1 (Nat.le_of_ble_eq_true rfl) (Mo_box_ok M1 MT (Iv_box hI (iI_cl (by decide))).ok (fun h2 iv2 ia2 la2 M2 T2 r2 => ?_))
  refine ev_icmp_eq (tgt := 1168) dLw_law_371 (by decide) (fun c371 => ?_) (fun c371 => absurd (rfl) c371)
  exact nx bc bs h2 n1 ad1 tg1 _ ys us cs as (by omega) (by omega) F1.1 (F1.2 1000 (by omega)).1 (St_A (Iv_box hI (iI_cl (by decide))) N S L B X1 F1 M2 T2 MY MU MG r2)
set_option maxRecDepth 20000 in
set_option maxHeartbeats 1000000 in
theorem lw_c4 (hN : xN G < 2 ^ 31) (hi : i + 5 ≤ xN G) (hS : St h n ad tg ts ys us cs as) (nx : ∀ bc' bs' h' n' ad' tg' ts' ys' us' cs' as', bc ≤ bc' → bs ≤ bs' → ad' 0 = ad 0 → ad' 1000 = ad 1000 → St h' n' ad' tg' ts' ys' us' cs' as' → ev_Run G l (d + 7) bc' bs' mLw_law 1168 [some (.ref (xb G)), some (.ref (ad 0)), some (.ref (ad 1000)), some (.int (nI i))] [] h' n' P) : ev_Run G l (d + 7) (bc + 4) (bs + 171) mLw_law 376 [some (.ref (xb G)), some (.ref (ad 0)), some (.ref (ad 1000)), some (.int (nI i))] [] h n P := by
  obtain ⟨hI, ⟨lr, lq, X, N⟩, S, L, ⟨pg, B⟩, iv, ia, la, MH, MT, MY, MU, MG⟩ := id hS
  have h0 := X.2.1
  have M0 : MoK h h ad tg ts.length iv ia la := ⟨X.1, MH, fun _ _ => rfl⟩
  refine ev_aload_n dLw_law_376 rfl rfl ?_
  refine ev_aload_n dLw_law_377 rfl rfl ?_
  refine ev_iload_n dLw_law_378 rfl rfl ?_
  refine ev_iconst (v := nI 1) dLw_law_379 (by decide) ?_
  refine ev_iadd dLw_law_380 ?_
  refine ev_sld dLw_law_381 (nI_add _ _) (by omega) hN ?_
  refine ev_aload_n dLw_law_382 rfl rfl ?_
  refine ev_iload_n dLw_law_383 rfl rfl ?_
  refine ev_iconst (v := nI 2) dLw_law_384 (by decide) ?_
  refine ev_iadd dLw_law_385 ?_
  refine ev_sld dLw_law_386 (nI_add _ _) (by omega) hN ?_
  refine ev_i2l dLw_law_387 ?_
  refine ev_bipush (v := nI 32) dLw_law_388 (by decide) ?_
  refine ev_lshl dLw_law_390 ?_
  refine ev_aload_n dLw_law_391 rfl rfl ?_
  refine ev_iload_n dLw_law_392 rfl rfl ?_
  refine ev_iconst (v := nI 3) dLw_law_393 (by decide) ?_
  refine ev_iadd dLw_law_394 ?_
  refine ev_sld dLw_law_395 (nI_add _ _) (by omega) hN ?_
  refine ev_i2l dLw_law_396 ?_
  refine ev_ldc2 (v := lN 4294967295) dLw_law_397 qLw_13 ?_
  refine ev_land dLw_law_400 ?_
  refine ev_lor dLw_law_401 ?_
  refine cz_BL_waste dLw_law_402 lLw_35 h0 (Nat.le_of_ble_eq_true rfl) (BL_waste_ok X (Iv_waste hI).ok (fun h1 n1 ad1 tg1 X1 F1 le1 => ?_))
  have M1 := M_F X.1 MH F1
  refine ev_aload_n dLw_law_405 rfl rfl ?_
  refine ev_aload_n dLw_law_406 rfl rfl ?_
  refine ev_iload_n dLw_law_407 rfl rfl ?_
  refine ev_iconst (v := nI 1) dLw_law_408 (by decide) ?_
  refine ev_iadd dLw_law_409 ?_
  refine ev_sld dLw_law_410 (nI_add _ _) (by omega) hN ?_
  refine ev_aload_n dLw_law_411 rfl rfl ?_
  refine ev_iload_n dLw_law_412 rfl rfl ?_
  refine ev_iconst (v := nI 2) dLw_law_413 (by decide) ?_
  refine ev_iadd dLw_law_414 ?_
  refine ev_sld dLw_law_415 (nI_add _ _) (by omega) hN ?_
  refine ev_i2l dLw_law_416 ?_
  refine ev_bipush (v := nI 32) dLw_law_417 (by decide) ?_
  refine ev_lshl dLw_law_419 ?_
  refine ev_aload_n dLw_law_420 rfl rfl ?_
  refine ev_iload_n dLw_law_421 rfl rfl ?_
  refine ev_iconst (v := nI 3) dLw_law_422 (by decide) ?_
  refine ev_iadd dLw_law_423 ?_
  refine ev_sld dLw_law_424 (nI_add _ _) (by omega) hN ?_
  refine ev_i2l dLw_law_425 ?_
  refine ev_ldc2 (v := lN 4294967295) dLw_law_426 qLw_13 ?_
  refine ev_land dLw_law_429 ?_
  refine ev_lor dLw_law_430 ?_
  refine cz_Mo_waste dLw_law_431 lLw_39 M1.2.1.1 (Nat.le_of_ble_eq_true rfl) (Mo_waste_ok M1 MT (Iv_waste hI).ok (fun h2 iv2 ia2 la2 M2 T2 r2 => ?_))
  refine ev_lcmp_eq (tgt := 1168) dLw_law_434 dLw_law_435 (by decide) (fun c434 => ?_) (fun c434 => absurd (rfl) c434)
  exact nx (bc + 4) (bs + 171) h2 n1 ad1 tg1 _ ys us cs as (by omega) (by omega) F1.1 (F1.2 1000 (by omega)).1 (St_A (Iv_waste hI) N S L B X1 F1 M2 T2 MY MU MG r2)
set_option maxRecDepth 20000 in
set_option maxHeartbeats 1000000 in
theorem lw_c5 (hN : xN G < 2 ^ 31) (hi : i + 5 ≤ xN G) (hS : St h n ad tg ts ys us cs as) (nx : ∀ bc' bs' h' n' ad' tg' ts' ys' us' cs' as', bc ≤ bc' → bs ≤ bs' → ad' 0 = ad 0 → ad' 1000 = ad 1000 → St h' n' ad' tg' ts' ys' us' cs' as' → ev_Run G l (d + 7) bc' bs' mLw_law 1168 [some (.ref (xb G)), some (.ref (ad 0)), some (.ref (ad 1000)), some (.int (nI i))] [] h' n' P) : ev_Run G l (d + 7) (bc + 4) (bs + 171) mLw_law 440 [some (.ref (xb G)), some (.ref (ad 0)), some (.ref (ad 1000)), some (.int (nI i))] [] h n P := by
  obtain ⟨hI, ⟨lr, lq, X, N⟩, S, L, ⟨pg, B⟩, iv, ia, la, MH, MT, MY, MU, MG⟩ := id hS
  have h0 := X.2.1
  have M0 : MoK h h ad tg ts.length iv ia la := ⟨X.1, MH, fun _ _ => rfl⟩
  refine ev_aload_n dLw_law_440 rfl rfl ?_
  refine ev_aload_n dLw_law_441 rfl rfl ?_
  refine ev_iload_n dLw_law_442 rfl rfl ?_
  refine ev_iconst (v := nI 1) dLw_law_443 (by decide) ?_
  refine ev_iadd dLw_law_444 ?_
  refine ev_sld dLw_law_445 (nI_add _ _) (by omega) hN ?_
  refine ev_aload_n dLw_law_446 rfl rfl ?_
  refine ev_iload_n dLw_law_447 rfl rfl ?_
  refine ev_iconst (v := nI 2) dLw_law_448 (by decide) ?_
  refine ev_iadd dLw_law_449 ?_
  refine ev_sld dLw_law_450 (nI_add _ _) (by omega) hN ?_
  refine ev_if_eq (tgt := 458) dLw_law_451 (by decide) (fun c451 => ?_) (fun c451 => ?_)
  · refine ev_iconst (v := nI 0) dLw_law_458 (by decide) ?_
    refine cz_BL_hold dLw_law_459 lLw_40 h0 (Nat.le_of_ble_eq_true rfl) (BL_hold_ok (X) (by omega) (fun h1 n1 ad1 tg1 X1 F1 le1 => ?_))
    have M1 := M_F X.1 MH F1
    refine ev_aload_n dLw_law_462 rfl rfl ?_
    refine ev_aload_n dLw_law_463 rfl rfl ?_
    refine ev_iload_n dLw_law_464 rfl rfl ?_
    refine ev_iconst (v := nI 1) dLw_law_465 (by decide) ?_
    refine ev_iadd dLw_law_466 ?_
    refine ev_sld dLw_law_467 (nI_add _ _) (by omega) hN ?_
    refine ev_aload_n dLw_law_468 rfl rfl ?_
    refine ev_iload_n dLw_law_469 rfl rfl ?_
    refine ev_iconst (v := nI 2) dLw_law_470 (by decide) ?_
    refine ev_iadd dLw_law_471 ?_
    refine ev_sld dLw_law_472 (nI_add _ _) (by omega) hN ?_
    refine ev_if_eq (tgt := 480) dLw_law_473 (by decide) (fun c473 => ?_) (fun c473 => absurd (c451) c473)
    refine ev_iconst (v := nI 0) dLw_law_480 (by decide) ?_
    refine cz_Mo_hold dLw_law_481 lLw_44 M1.2.1.1 (Nat.le_of_ble_eq_true rfl) (Mo_hold_ok (by omega) M1 MT  (fun h2 iv2 ia2 la2 M2 T2 r2 => ?_))
    refine ev_icmp_eq (tgt := 1168) dLw_law_484 (by decide) (fun c484 => ?_) (fun c484 => absurd (rfl) c484)
    exact nx (bc + 4) (bs + 171) h2 n1 ad1 tg1 _ ys us cs as (by omega) (by omega) F1.1 (F1.2 1000 (by omega)).1 (St_A (Iv_hold hI (by omega)) N S L B X1 F1 M2 T2 MY MU MG r2)
  · refine ev_iconst (v := nI 1) dLw_law_454 (by decide) ?_
    refine ev_goto (tgt := 459) dLw_law_455 (by decide) ?_
    refine cz_BL_hold dLw_law_459 lLw_40 h0 (Nat.le_of_ble_eq_true rfl) (BL_hold_ok (X) (by omega) (fun h1 n1 ad1 tg1 X1 F1 le1 => ?_))
    have M1 := M_F X.1 MH F1
    refine ev_aload_n dLw_law_462 rfl rfl ?_
    refine ev_aload_n dLw_law_463 rfl rfl ?_
    refine ev_iload_n dLw_law_464 rfl rfl ?_
    refine ev_iconst (v := nI 1) dLw_law_465 (by decide) ?_
    refine ev_iadd dLw_law_466 ?_
    refine ev_sld dLw_law_467 (nI_add _ _) (by omega) hN ?_
    refine ev_aload_n dLw_law_468 rfl rfl ?_
    refine ev_iload_n dLw_law_469 rfl rfl ?_
    refine ev_iconst (v := nI 2) dLw_law_470 (by decide) ?_
    refine ev_iadd dLw_law_471 ?_
    refine ev_sld dLw_law_472 (nI_add _ _) (by omega) hN ?_
    refine ev_if_eq (tgt := 480) dLw_law_473 (by decide) (fun c473 => False.elim (c451 c473)) (fun c473 => ?_)
    refine ev_iconst (v := nI 1) dLw_law_476 (by decide) ?_
    refine ev_goto (tgt := 481) dLw_law_477 (by decide) ?_
    refine cz_Mo_hold dLw_law_481 lLw_44 M1.2.1.1 (Nat.le_of_ble_eq_true rfl) (Mo_hold_ok (by omega) M1 MT  (fun h2 iv2 ia2 la2 M2 T2 r2 => ?_))
    refine ev_icmp_eq (tgt := 1168) dLw_law_484 (by decide) (fun c484 => ?_) (fun c484 => absurd (rfl) c484)
    exact nx (bc + 4) (bs + 171) h2 n1 ad1 tg1 _ ys us cs as (by omega) (by omega) F1.1 (F1.2 1000 (by omega)).1 (St_A (Iv_hold hI (by omega)) N S L B X1 F1 M2 T2 MY MU MG r2)
set_option maxRecDepth 20000 in
set_option maxHeartbeats 1000000 in
theorem lw_c6 (hN : xN G < 2 ^ 31) (hi : i + 5 ≤ xN G) (hS : St h n ad tg ts ys us cs as) (nx : ∀ bc' bs' h' n' ad' tg' ts' ys' us' cs' as', bc ≤ bc' → bs ≤ bs' → ad' 0 = ad 0 → ad' 1000 = ad 1000 → St h' n' ad' tg' ts' ys' us' cs' as' → ev_Run G l (d + 7) bc' bs' mLw_law 1168 [some (.ref (xb G)), some (.ref (ad 0)), some (.ref (ad 1000)), some (.int (nI i))] [] h' n' P) : ev_Run G l (d + 7) (bc + 4) (bs + 171) mLw_law 489 [some (.ref (xb G)), some (.ref (ad 0)), some (.ref (ad 1000)), some (.int (nI i))] [] h n P := by
  obtain ⟨hI, ⟨lr, lq, X, N⟩, S, L, ⟨pg, B⟩, iv, ia, la, MH, MT, MY, MU, MG⟩ := id hS
  have h0 := X.2.1
  have M0 : MoK h h ad tg ts.length iv ia la := ⟨X.1, MH, fun _ _ => rfl⟩
  refine ev_aload_n dLw_law_489 rfl rfl ?_
  refine ev_aload_n dLw_law_490 rfl rfl ?_
  refine ev_iload_n dLw_law_491 rfl rfl ?_
  refine ev_iconst (v := nI 1) dLw_law_492 (by decide) ?_
  refine ev_iadd dLw_law_493 ?_
  refine ev_sld dLw_law_494 (nI_add _ _) (by omega) hN ?_
  refine ev_aload_n dLw_law_495 rfl rfl ?_
  refine ev_iload_n dLw_law_496 rfl rfl ?_
  refine ev_iconst (v := nI 2) dLw_law_497 (by decide) ?_
  refine ev_iadd dLw_law_498 ?_
  refine ev_sld dLw_law_499 (nI_add _ _) (by omega) hN ?_
  refine ev_i2l dLw_law_500 ?_
  refine ev_bipush (v := nI 32) dLw_law_501 (by decide) ?_
  refine ev_lshl dLw_law_503 ?_
  refine ev_aload_n dLw_law_504 rfl rfl ?_
  refine ev_iload_n dLw_law_505 rfl rfl ?_
  refine ev_iconst (v := nI 3) dLw_law_506 (by decide) ?_
  refine ev_iadd dLw_law_507 ?_
  refine ev_sld dLw_law_508 (nI_add _ _) (by omega) hN ?_
  refine ev_i2l dLw_law_509 ?_
  refine ev_ldc2 (v := lN 4294967295) dLw_law_510 qLw_13 ?_
  refine ev_land dLw_law_513 ?_
  refine ev_lor dLw_law_514 ?_
  refine cz_BL_correct dLw_law_515 lLw_45 h0 (Nat.le_of_ble_eq_true rfl) (BL_correct_ok X (Iv_correct hI gN_in).ok (fun h1 n1 ad1 tg1 X1 F1 le1 => ?_))
  have M1 := M_F X.1 MH F1
  refine ev_aload_n dLw_law_518 rfl rfl ?_
  refine ev_aload_n dLw_law_519 rfl rfl ?_
  refine ev_iload_n dLw_law_520 rfl rfl ?_
  refine ev_iconst (v := nI 1) dLw_law_521 (by decide) ?_
  refine ev_iadd dLw_law_522 ?_
  refine ev_sld dLw_law_523 (nI_add _ _) (by omega) hN ?_
  refine ev_aload_n dLw_law_524 rfl rfl ?_
  refine ev_iload_n dLw_law_525 rfl rfl ?_
  refine ev_iconst (v := nI 2) dLw_law_526 (by decide) ?_
  refine ev_iadd dLw_law_527 ?_
  refine ev_sld dLw_law_528 (nI_add _ _) (by omega) hN ?_
  refine ev_i2l dLw_law_529 ?_
  refine ev_bipush (v := nI 32) dLw_law_530 (by decide) ?_
  refine ev_lshl dLw_law_532 ?_
  refine ev_aload_n dLw_law_533 rfl rfl ?_
  refine ev_iload_n dLw_law_534 rfl rfl ?_
  refine ev_iconst (v := nI 3) dLw_law_535 (by decide) ?_
  refine ev_iadd dLw_law_536 ?_
  refine ev_sld dLw_law_537 (nI_add _ _) (by omega) hN ?_
  refine ev_i2l dLw_law_538 ?_
  refine ev_ldc2 (v := lN 4294967295) dLw_law_539 qLw_13 ?_
  refine ev_land dLw_law_542 ?_
  refine ev_lor dLw_law_543 ?_
  refine cz_Mo_correct dLw_law_544 lLw_49 M1.2.1.1 (Nat.le_of_ble_eq_true rfl) (Mo_correct_ok M1 MT (Iv_correct hI gN_in).ok (fun h2 iv2 ia2 la2 M2 T2 r2 => ?_))
  refine ev_icmp_eq (tgt := 1168) dLw_law_547 (by decide) (fun c547 => ?_) (fun c547 => absurd (rfl) c547)
  exact nx (bc + 4) (bs + 171) h2 n1 ad1 tg1 _ ys us cs as (by omega) (by omega) F1.1 (F1.2 1000 (by omega)).1 (St_A (Iv_correct hI gN_in) N S L B X1 F1 M2 T2 MY MU MG r2)
end LW70
