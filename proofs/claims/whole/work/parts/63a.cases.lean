set_option maxHeartbeats 4000000 in
set_option maxRecDepth 100000 in
theorem k_addLine {p : Program} {l : Launch} {e : Env} {s : State} {m : MethodId} {args : Array Value} {below : List Frame} {meth : Method} {c : Code} {g : hG} {X0 : va_W} {o : Nat} {f : Nat → Int64} {Q : State → Prop} {S : hS} {cells slots b L h md t : Nat} {xs : Nat → Int32} (F : hF p l s m args meth c cL_law 8 wsL_law RL g) (hst : l.stackTraces = false) (hX : va_X b L xs s s.heap) (hb : b < s.heap.size) (hbA : b < g.2.2) (hL : L < 2 ^ 31) (ht : 8 * t + 8 ≤ L) (hc : cells + 9 ≤ room_1.cells) (hs : slots + 55 ≤ room_1.slots) (hJ : jS S h md) (kk : ∀ (f' : Nat → Int64) (S' : hS), jS S' h md → V p l e room_1 s m args below meth c 8 g (oX g X0 o f') Q S' (cells + 9) (slots + 55) [(0, .ref b), (1, .ref h), (2, .ref md), (3, .ref o), (4, .int (nI (8 * t)))] 1733 []) : V p l e room_1 s m args below meth c 8 g (oX g X0 o f) Q S cells slots [(0, .ref b), (1, .ref h), (2, .ref md), (3, .ref o), (4, .int (nI (8 * t)))] 148 [] := by
  obtain ⟨sc, bk, ca, sa, ad, pa, ar, M, n, nc, ns, hG, hC, hM, hI⟩ := hJ
  have hCz := cC_z hC
  refine q_aload_n F 1 dL_law_148 rfl rfl ?_
  refine q_aload_n F 0 dL_law_149 rfl rfl ?_
  refine q_iload F dL_law_150 rfl ?_
  refine q_iconst F dL_law_152 hc_1 ?_
  refine q_iadd F dL_law_153 ?_
  refine q_sld F hX hb hbA (nI_add (8 * t) 1) (by omega) hL dL_law_154 ?_
  refine q_aload_n F 0 dL_law_155 rfl rfl ?_
  refine q_iload F dL_law_156 rfl ?_
  refine q_iconst F dL_law_158 hc_2 ?_
  refine q_iadd F dL_law_159 ?_
  refine q_sld F hX hb hbA (nI_add (8 * t) 2) (by omega) hL dL_law_160 ?_
  refine q_aload_n F 3 dL_law_161 rfl rfl ?_
  refine q_callO F (c_L_addLine hst hG hCz) gL_law_L_addLine rfl hd_L_addLine ⟨Nat.le_of_ble_eq_true rfl, Nat.le_of_ble_eq_true rfl⟩ rfl rfl (Nat.le_of_ble_eq_true rfl) dL_law_162 ⟨Nat.le_trans (lw_b1 (Nat.le_of_ble_eq_true rfl)) hc, Nat.le_trans (lw_b1 (Nat.le_of_ble_eq_true rfl)) hs⟩ (fun r1 f1 S1 hw => ?_)
  refine q_istore F dL_law_165 (by decide) rfl ?_
  have hM1 := mS_cl hM (pw2_cl hw (fun z => by obtain ⟨v, -, -, -, hP⟩ := z; exact hP.2.2))
  refine q_aload_n F 2 dL_law_167 rfl rfl ?_
  refine q_aload_n F 0 dL_law_168 rfl rfl ?_
  refine q_iload F dL_law_169 rfl ?_
  refine q_iconst F dL_law_171 hc_1 ?_
  refine q_iadd F dL_law_172 ?_
  refine q_sld F hX hb hbA (nI_add (8 * t) 1) (by omega) hL dL_law_173 ?_
  refine q_aload_n F 0 dL_law_174 rfl rfl ?_
  refine q_iload F dL_law_175 rfl ?_
  refine q_iconst F dL_law_177 hc_2 ?_
  refine q_iadd F dL_law_178 ?_
  refine q_sld F hX hb hbA (nI_add (8 * t) 2) (by omega) hL dL_law_179 ?_
  refine q_callV_gi F (c_X5_addLine hM1 hC.1.2.1 hC.1.2.2) gL_law_X5_addLine rfl hd_X5_addLine ⟨Nat.le_of_ble_eq_true rfl, Nat.le_of_ble_eq_true rfl⟩ hM1.1.1 rfl rfl rfl (Nat.le_of_ble_eq_true rfl) dL_law_180 ⟨Nat.le_trans (lw_b2 (Nat.le_of_ble_eq_true rfl)) hc, Nat.le_trans (lw_b2 (Nat.le_of_ble_eq_true rfl)) hs⟩ (fun x2 S2 hp => ?_)
  have hT := j_addLine hG hCz hI hw hp
  refine q_istore F dL_law_183 (by decide) rfl ?_
  obtain ⟨hJ2, ⟨sc2, M2, hM2, hr2⟩, ha2⟩ := hT
  refine q_aload_n F 2 dL_law_185 rfl rfl ?_
  refine q_callV_i F (c_X5_thrown hM2) gL_law_X5_thrown rfl hd_X5_thrown ⟨Nat.le_of_ble_eq_true rfl, Nat.le_of_ble_eq_true rfl⟩ hM2.1.1 rfl rfl rfl (Nat.le_of_ble_eq_true rfl) dL_law_186 ⟨Nat.le_trans (lw_b3 (Nat.le_of_ble_eq_true rfl)) hc, Nat.le_trans (lw_b3 (Nat.le_of_ble_eq_true rfl)) hs⟩ ?_
  refine q_iload F dL_law_189 rfl ?_
  refine q_icmp_eq F 196 dL_law_191 rfl (fun c1 => ?_) (fun c1 => absurd hr2 c1)
  refine q_iload F dL_law_196 rfl ?_
  refine q_if_ne F 213 dL_law_198 rfl (fun c2 => ?_) (fun c2 => ?_)
  · skip
    refine q_goto F 1733 dL_law_213 rfl ?_
    exact q_widen (lw_b3 (Nat.le_of_ble_eq_true rfl)) (lw_b3 (Nat.le_of_ble_eq_true rfl)) (q_to (kk _ _ hJ2) ⟨rfl, rfl, rfl, rfl, rfl, trivial⟩)
  refine q_aload_n F 3 dL_law_201 rfl rfl ?_
  refine q_iconst F dL_law_202 hc_0 ?_
  refine q_lald F dL_law_203 ?_
  refine q_iload F dL_law_204 rfl ?_
  refine q_i2l F dL_law_206 ?_
  refine q_lcmp F (ha2 c2) dL_law_207 ?_
  refine q_if_eq F 213 dL_law_208 rfl (fun c4 => ?_) (fun c4 => absurd rfl c4)
  refine q_goto F 1733 dL_law_213 rfl ?_
  exact q_widen (lw_b3 (Nat.le_of_ble_eq_true rfl)) (lw_b3 (Nat.le_of_ble_eq_true rfl)) (q_to (kk _ _ hJ2) ⟨rfl, rfl, rfl, rfl, rfl, trivial⟩)

set_option maxHeartbeats 4000000 in
set_option maxRecDepth 100000 in
theorem k_addPattern {p : Program} {l : Launch} {e : Env} {s : State} {m : MethodId} {args : Array Value} {below : List Frame} {meth : Method} {c : Code} {g : hG} {X0 : va_W} {o : Nat} {f : Nat → Int64} {Q : State → Prop} {S : hS} {cells slots b L h md t : Nat} {xs : Nat → Int32} (F : hF p l s m args meth c cL_law 8 wsL_law RL g) (hst : l.stackTraces = false) (hX : va_X b L xs s s.heap) (hb : b < s.heap.size) (hbA : b < g.2.2) (hL : L < 2 ^ 31) (ht : 8 * t + 8 ≤ L) (hc : cells + 9 ≤ room_1.cells) (hs : slots + 55 ≤ room_1.slots) (hJ : jS S h md) (kk : ∀ (f' : Nat → Int64) (S' : hS), jS S' h md → V p l e room_1 s m args below meth c 8 g (oX g X0 o f') Q S' (cells + 9) (slots + 55) [(0, .ref b), (1, .ref h), (2, .ref md), (3, .ref o), (4, .int (nI (8 * t)))] 1733 []) : V p l e room_1 s m args below meth c 8 g (oX g X0 o f) Q S cells slots [(0, .ref b), (1, .ref h), (2, .ref md), (3, .ref o), (4, .int (nI (8 * t)))] 216 [] := by
  obtain ⟨sc, bk, ca, sa, ad, pa, ar, M, n, nc, ns, hG, hC, hM, hI⟩ := hJ
  have hCz := cC_z hC
  refine q_aload_n F 1 dL_law_216 rfl rfl ?_
  refine q_aload_n F 0 dL_law_217 rfl rfl ?_
  refine q_iload F dL_law_218 rfl ?_
  refine q_iconst F dL_law_220 hc_1 ?_
  refine q_iadd F dL_law_221 ?_
  refine q_sld F hX hb hbA (nI_add (8 * t) 1) (by omega) hL dL_law_222 ?_
  refine q_aload_n F 0 dL_law_223 rfl rfl ?_
  refine q_iload F dL_law_224 rfl ?_
  refine q_iconst F dL_law_226 hc_2 ?_
  refine q_iadd F dL_law_227 ?_
  refine q_sld F hX hb hbA (nI_add (8 * t) 2) (by omega) hL dL_law_228 ?_
  refine q_aload_n F 0 dL_law_229 rfl rfl ?_
  refine q_iload F dL_law_230 rfl ?_
  refine q_iconst F dL_law_232 hc_3 ?_
  refine q_iadd F dL_law_233 ?_
  refine q_sld F hX hb hbA (nI_add (8 * t) 3) (by omega) hL dL_law_234 ?_
  refine q_aload_n F 0 dL_law_235 rfl rfl ?_
  refine q_iload F dL_law_236 rfl ?_
  refine q_iconst F dL_law_238 hc_4 ?_
  refine q_iadd F dL_law_239 ?_
  refine q_sld F hX hb hbA (nI_add (8 * t) 4) (by omega) hL dL_law_240 ?_
  refine q_aload_n F 0 dL_law_241 rfl rfl ?_
  refine q_iload F dL_law_242 rfl ?_
  refine q_iconst F dL_law_244 hc_5 ?_
  refine q_iadd F dL_law_245 ?_
  refine q_sld F hX hb hbA (nI_add (8 * t) 5) (by omega) hL dL_law_246 ?_
  refine q_bz F 254 dL_law_247 rfl dL_law_250 dL_law_251 rfl dL_law_254 ?_
  refine q_aload_n F 3 dL_law_255 rfl rfl ?_
  refine q_callO F (c_L_addPattern hst hG hCz (bz_b _)) gL_law_L_addPattern rfl hd_L_addPattern ⟨Nat.le_of_ble_eq_true rfl, Nat.le_of_ble_eq_true rfl⟩ rfl rfl (Nat.le_of_ble_eq_true rfl) dL_law_256 ⟨Nat.le_trans (lw_b1 (Nat.le_of_ble_eq_true rfl)) hc, Nat.le_trans (lw_b1 (Nat.le_of_ble_eq_true rfl)) hs⟩ (fun r1 f1 S1 hw => ?_)
  refine q_istore F dL_law_259 (by decide) rfl ?_
  have hM1 := mS_cl hM (pw3_cl hw (fun z => by obtain ⟨v, -, -, -, hP⟩ := z; exact hP.2.2))
  refine q_aload_n F 2 dL_law_261 rfl rfl ?_
  refine q_aload_n F 0 dL_law_262 rfl rfl ?_
  refine q_iload F dL_law_263 rfl ?_
  refine q_iconst F dL_law_265 hc_1 ?_
  refine q_iadd F dL_law_266 ?_
  refine q_sld F hX hb hbA (nI_add (8 * t) 1) (by omega) hL dL_law_267 ?_
  refine q_aload_n F 0 dL_law_268 rfl rfl ?_
  refine q_iload F dL_law_269 rfl ?_
  refine q_iconst F dL_law_271 hc_2 ?_
  refine q_iadd F dL_law_272 ?_
  refine q_sld F hX hb hbA (nI_add (8 * t) 2) (by omega) hL dL_law_273 ?_
  refine q_aload_n F 0 dL_law_274 rfl rfl ?_
  refine q_iload F dL_law_275 rfl ?_
  refine q_iconst F dL_law_277 hc_3 ?_
  refine q_iadd F dL_law_278 ?_
  refine q_sld F hX hb hbA (nI_add (8 * t) 3) (by omega) hL dL_law_279 ?_
  refine q_aload_n F 0 dL_law_280 rfl rfl ?_
  refine q_iload F dL_law_281 rfl ?_
  refine q_iconst F dL_law_283 hc_4 ?_
  refine q_iadd F dL_law_284 ?_
  refine q_sld F hX hb hbA (nI_add (8 * t) 4) (by omega) hL dL_law_285 ?_
  refine q_aload_n F 0 dL_law_286 rfl rfl ?_
  refine q_iload F dL_law_287 rfl ?_
  refine q_iconst F dL_law_289 hc_5 ?_
  refine q_iadd F dL_law_290 ?_
  refine q_sld F hX hb hbA (nI_add (8 * t) 5) (by omega) hL dL_law_291 ?_
  refine q_bz F 299 dL_law_292 rfl dL_law_295 dL_law_296 rfl dL_law_299 ?_
  refine q_callV_gi F (c_X5_addPattern hM1 hC.1.2.1 hC.1.2.2 (cC_sz hC) (bz_b _)) gL_law_X5_addPattern rfl hd_X5_addPattern ⟨Nat.le_of_ble_eq_true rfl, Nat.le_of_ble_eq_true rfl⟩ hM1.1.1 rfl rfl rfl (Nat.le_of_ble_eq_true rfl) dL_law_300 ⟨Nat.le_trans (lw_b2 (Nat.le_of_ble_eq_true rfl)) hc, Nat.le_trans (lw_b2 (Nat.le_of_ble_eq_true rfl)) hs⟩ (fun x2 S2 hp => ?_)
  have hT := j_addPattern hG hCz (bz_b _) hI hw hp
  refine q_istore F dL_law_303 (by decide) rfl ?_
  obtain ⟨hJ2, ⟨sc2, M2, hM2, hr2⟩, ha2⟩ := hT
  refine q_aload_n F 2 dL_law_305 rfl rfl ?_
  refine q_callV_i F (c_X5_thrown hM2) gL_law_X5_thrown rfl hd_X5_thrown ⟨Nat.le_of_ble_eq_true rfl, Nat.le_of_ble_eq_true rfl⟩ hM2.1.1 rfl rfl rfl (Nat.le_of_ble_eq_true rfl) dL_law_306 ⟨Nat.le_trans (lw_b3 (Nat.le_of_ble_eq_true rfl)) hc, Nat.le_trans (lw_b3 (Nat.le_of_ble_eq_true rfl)) hs⟩ ?_
  refine q_iload F dL_law_309 rfl ?_
  refine q_icmp_eq F 316 dL_law_311 rfl (fun c1 => ?_) (fun c1 => absurd hr2 c1)
  refine q_iload F dL_law_316 rfl ?_
  refine q_if_ne F 333 dL_law_318 rfl (fun c2 => ?_) (fun c2 => ?_)
  · skip
    refine q_goto F 1733 dL_law_333 rfl ?_
    exact q_widen (lw_b3 (Nat.le_of_ble_eq_true rfl)) (lw_b3 (Nat.le_of_ble_eq_true rfl)) (q_to (kk _ _ hJ2) ⟨rfl, rfl, rfl, rfl, rfl, trivial⟩)
  refine q_aload_n F 3 dL_law_321 rfl rfl ?_
  refine q_iconst F dL_law_322 hc_0 ?_
  refine q_lald F dL_law_323 ?_
  refine q_iload F dL_law_324 rfl ?_
  refine q_i2l F dL_law_326 ?_
  refine q_lcmp F (ha2 c2) dL_law_327 ?_
  refine q_if_eq F 333 dL_law_328 rfl (fun c4 => ?_) (fun c4 => absurd rfl c4)
  refine q_goto F 1733 dL_law_333 rfl ?_
  exact q_widen (lw_b3 (Nat.le_of_ble_eq_true rfl)) (lw_b3 (Nat.le_of_ble_eq_true rfl)) (q_to (kk _ _ hJ2) ⟨rfl, rfl, rfl, rfl, rfl, trivial⟩)

set_option maxHeartbeats 4000000 in
set_option maxRecDepth 100000 in
theorem k_addHashed {p : Program} {l : Launch} {e : Env} {s : State} {m : MethodId} {args : Array Value} {below : List Frame} {meth : Method} {c : Code} {g : hG} {X0 : va_W} {o : Nat} {f : Nat → Int64} {Q : State → Prop} {S : hS} {cells slots b L h md t : Nat} {xs : Nat → Int32} (F : hF p l s m args meth c cL_law 8 wsL_law RL g) (hst : l.stackTraces = false) (hX : va_X b L xs s s.heap) (hb : b < s.heap.size) (hbA : b < g.2.2) (hL : L < 2 ^ 31) (ht : 8 * t + 8 ≤ L) (hc : cells + 9 ≤ room_1.cells) (hs : slots + 55 ≤ room_1.slots) (hJ : jS S h md) (kk : ∀ (f' : Nat → Int64) (S' : hS), jS S' h md → V p l e room_1 s m args below meth c 8 g (oX g X0 o f') Q S' (cells + 9) (slots + 55) [(0, .ref b), (1, .ref h), (2, .ref md), (3, .ref o), (4, .int (nI (8 * t)))] 1733 []) : V p l e room_1 s m args below meth c 8 g (oX g X0 o f) Q S cells slots [(0, .ref b), (1, .ref h), (2, .ref md), (3, .ref o), (4, .int (nI (8 * t)))] 336 [] := by
  obtain ⟨sc, bk, ca, sa, ad, pa, ar, M, n, nc, ns, hG, hC, hM, hI⟩ := hJ
  have hCz := cC_z hC
  refine q_aload_n F 1 dL_law_336 rfl rfl ?_
  refine q_aload_n F 0 dL_law_337 rfl rfl ?_
  refine q_iload F dL_law_338 rfl ?_
  refine q_iconst F dL_law_340 hc_1 ?_
  refine q_iadd F dL_law_341 ?_
  refine q_sld F hX hb hbA (nI_add (8 * t) 1) (by omega) hL dL_law_342 ?_
  refine q_aload_n F 0 dL_law_343 rfl rfl ?_
  refine q_iload F dL_law_344 rfl ?_
  refine q_iconst F dL_law_346 hc_2 ?_
  refine q_iadd F dL_law_347 ?_
  refine q_sld F hX hb hbA (nI_add (8 * t) 2) (by omega) hL dL_law_348 ?_
  refine q_aload_n F 0 dL_law_349 rfl rfl ?_
  refine q_iload F dL_law_350 rfl ?_
  refine q_iconst F dL_law_352 hc_3 ?_
  refine q_iadd F dL_law_353 ?_
  refine q_sld F hX hb hbA (nI_add (8 * t) 3) (by omega) hL dL_law_354 ?_
  refine q_aload_n F 0 dL_law_355 rfl rfl ?_
  refine q_iload F dL_law_356 rfl ?_
  refine q_iconst F dL_law_358 hc_4 ?_
  refine q_iadd F dL_law_359 ?_
  refine q_sld F hX hb hbA (nI_add (8 * t) 4) (by omega) hL dL_law_360 ?_
  refine q_aload_n F 0 dL_law_361 rfl rfl ?_
  refine q_iload F dL_law_362 rfl ?_
  refine q_iconst F dL_law_364 hc_5 ?_
  refine q_iadd F dL_law_365 ?_
  refine q_sld F hX hb hbA (nI_add (8 * t) 5) (by omega) hL dL_law_366 ?_
  refine q_aload_n F 3 dL_law_367 rfl rfl ?_
  refine q_callO F (c_L_addHashed hst hG hCz) gL_law_L_addHashed rfl hd_L_addHashed ⟨Nat.le_of_ble_eq_true rfl, Nat.le_of_ble_eq_true rfl⟩ rfl rfl (Nat.le_of_ble_eq_true rfl) dL_law_368 ⟨Nat.le_trans (lw_b1 (Nat.le_of_ble_eq_true rfl)) hc, Nat.le_trans (lw_b1 (Nat.le_of_ble_eq_true rfl)) hs⟩ (fun r1 f1 S1 hw => ?_)
  refine q_istore F dL_law_371 (by decide) rfl ?_
  have hM1 := mS_cl hM (pw2_cl hw (fun z => by obtain ⟨v, -, -, -, hP⟩ := z; exact hP.2.2))
  refine q_aload_n F 2 dL_law_373 rfl rfl ?_
  refine q_aload_n F 0 dL_law_374 rfl rfl ?_
  refine q_iload F dL_law_375 rfl ?_
  refine q_iconst F dL_law_377 hc_1 ?_
  refine q_iadd F dL_law_378 ?_
  refine q_sld F hX hb hbA (nI_add (8 * t) 1) (by omega) hL dL_law_379 ?_
  refine q_aload_n F 0 dL_law_380 rfl rfl ?_
  refine q_iload F dL_law_381 rfl ?_
  refine q_iconst F dL_law_383 hc_2 ?_
  refine q_iadd F dL_law_384 ?_
  refine q_sld F hX hb hbA (nI_add (8 * t) 2) (by omega) hL dL_law_385 ?_
  refine q_aload_n F 0 dL_law_386 rfl rfl ?_
  refine q_iload F dL_law_387 rfl ?_
  refine q_iconst F dL_law_389 hc_3 ?_
  refine q_iadd F dL_law_390 ?_
  refine q_sld F hX hb hbA (nI_add (8 * t) 3) (by omega) hL dL_law_391 ?_
  refine q_aload_n F 0 dL_law_392 rfl rfl ?_
  refine q_iload F dL_law_393 rfl ?_
  refine q_iconst F dL_law_395 hc_4 ?_
  refine q_iadd F dL_law_396 ?_
  refine q_sld F hX hb hbA (nI_add (8 * t) 4) (by omega) hL dL_law_397 ?_
  refine q_aload_n F 0 dL_law_398 rfl rfl ?_
  refine q_iload F dL_law_399 rfl ?_
  refine q_iconst F dL_law_401 hc_5 ?_
  refine q_iadd F dL_law_402 ?_
  refine q_sld F hX hb hbA (nI_add (8 * t) 5) (by omega) hL dL_law_403 ?_
  refine q_callV_gi F (c_X5_addHashed hM1 hC.1.2.1 hC.1.2.2) gL_law_X5_addHashed rfl hd_X5_addHashed ⟨Nat.le_of_ble_eq_true rfl, Nat.le_of_ble_eq_true rfl⟩ hM1.1.1 rfl rfl rfl (Nat.le_of_ble_eq_true rfl) dL_law_404 ⟨Nat.le_trans (lw_b2 (Nat.le_of_ble_eq_true rfl)) hc, Nat.le_trans (lw_b2 (Nat.le_of_ble_eq_true rfl)) hs⟩ (fun x2 S2 hp => ?_)
  have hT := j_addHashed hG hCz hI hw hp
  refine q_istore F dL_law_407 (by decide) rfl ?_
  obtain ⟨hJ2, ⟨sc2, M2, hM2, hr2⟩, ha2⟩ := hT
  refine q_aload_n F 2 dL_law_409 rfl rfl ?_
  refine q_callV_i F (c_X5_thrown hM2) gL_law_X5_thrown rfl hd_X5_thrown ⟨Nat.le_of_ble_eq_true rfl, Nat.le_of_ble_eq_true rfl⟩ hM2.1.1 rfl rfl rfl (Nat.le_of_ble_eq_true rfl) dL_law_410 ⟨Nat.le_trans (lw_b3 (Nat.le_of_ble_eq_true rfl)) hc, Nat.le_trans (lw_b3 (Nat.le_of_ble_eq_true rfl)) hs⟩ ?_
  refine q_iload F dL_law_413 rfl ?_
  refine q_icmp_eq F 420 dL_law_415 rfl (fun c1 => ?_) (fun c1 => absurd hr2 c1)
  refine q_iload F dL_law_420 rfl ?_
  refine q_if_ne F 437 dL_law_422 rfl (fun c2 => ?_) (fun c2 => ?_)
  · skip
    refine q_goto F 1733 dL_law_437 rfl ?_
    exact q_widen (lw_b3 (Nat.le_of_ble_eq_true rfl)) (lw_b3 (Nat.le_of_ble_eq_true rfl)) (q_to (kk _ _ hJ2) ⟨rfl, rfl, rfl, rfl, rfl, trivial⟩)
  refine q_aload_n F 3 dL_law_425 rfl rfl ?_
  refine q_iconst F dL_law_426 hc_0 ?_
  refine q_lald F dL_law_427 ?_
  refine q_iload F dL_law_428 rfl ?_
  refine q_i2l F dL_law_430 ?_
  refine q_lcmp F (ha2 c2) dL_law_431 ?_
  refine q_if_eq F 437 dL_law_432 rfl (fun c4 => ?_) (fun c4 => absurd rfl c4)
  refine q_goto F 1733 dL_law_437 rfl ?_
  exact q_widen (lw_b3 (Nat.le_of_ble_eq_true rfl)) (lw_b3 (Nat.le_of_ble_eq_true rfl)) (q_to (kk _ _ hJ2) ⟨rfl, rfl, rfl, rfl, rfl, trivial⟩)

set_option maxHeartbeats 4000000 in
set_option maxRecDepth 100000 in
theorem k_remove {p : Program} {l : Launch} {e : Env} {s : State} {m : MethodId} {args : Array Value} {below : List Frame} {meth : Method} {c : Code} {g : hG} {X0 : va_W} {o : Nat} {f : Nat → Int64} {Q : State → Prop} {S : hS} {cells slots b L h md t : Nat} {xs : Nat → Int32} (F : hF p l s m args meth c cL_law 8 wsL_law RL g) (hst : l.stackTraces = false) (hX : va_X b L xs s s.heap) (hb : b < s.heap.size) (hbA : b < g.2.2) (hL : L < 2 ^ 31) (ht : 8 * t + 8 ≤ L) (hc : cells + 9 ≤ room_1.cells) (hs : slots + 55 ≤ room_1.slots) (hJ : jS S h md) (kk : ∀ (f' : Nat → Int64) (S' : hS), jS S' h md → V p l e room_1 s m args below meth c 8 g (oX g X0 o f') Q S' (cells + 9) (slots + 55) [(0, .ref b), (1, .ref h), (2, .ref md), (3, .ref o), (4, .int (nI (8 * t)))] 1733 []) : V p l e room_1 s m args below meth c 8 g (oX g X0 o f) Q S cells slots [(0, .ref b), (1, .ref h), (2, .ref md), (3, .ref o), (4, .int (nI (8 * t)))] 440 [] := by
  obtain ⟨sc, bk, ca, sa, ad, pa, ar, M, n, nc, ns, hG, hC, hM, hI⟩ := hJ
  have hCz := cC_z hC
  refine q_aload_n F 1 dL_law_440 rfl rfl ?_
  refine q_aload_n F 0 dL_law_441 rfl rfl ?_
  refine q_iload F dL_law_442 rfl ?_
  refine q_iconst F dL_law_444 hc_1 ?_
  refine q_iadd F dL_law_445 ?_
  refine q_sld F hX hb hbA (nI_add (8 * t) 1) (by omega) hL dL_law_446 ?_
  refine q_aload_n F 3 dL_law_447 rfl rfl ?_
  refine q_callO F (c_L_remove hst hG hCz) gL_law_L_remove rfl hd_L_remove ⟨Nat.le_of_ble_eq_true rfl, Nat.le_of_ble_eq_true rfl⟩ rfl rfl (Nat.le_of_ble_eq_true rfl) dL_law_448 ⟨Nat.le_trans (lw_b1 (Nat.le_of_ble_eq_true rfl)) hc, Nat.le_trans (lw_b1 (Nat.le_of_ble_eq_true rfl)) hs⟩ (fun r1 f1 S1 hw => ?_)
  refine q_istore F dL_law_451 (by decide) rfl ?_
  have hM1 := mS_cl hM (pw1_cl hw (fun z => by obtain ⟨v, -, -, -, ad1, hP⟩ := z; exact hP.2.2))
  refine q_aload_n F 2 dL_law_453 rfl rfl ?_
  refine q_aload_n F 0 dL_law_454 rfl rfl ?_
  refine q_iload F dL_law_455 rfl ?_
  refine q_iconst F dL_law_457 hc_1 ?_
  refine q_iadd F dL_law_458 ?_
  refine q_sld F hX hb hbA (nI_add (8 * t) 1) (by omega) hL dL_law_459 ?_
  refine q_callV_gi F (c_X5_remove hM1 hC.1.2.1 hC.1.2.2 hI.2.2) gL_law_X5_remove rfl hd_X5_remove ⟨Nat.le_of_ble_eq_true rfl, Nat.le_of_ble_eq_true rfl⟩ hM1.1.1 rfl rfl rfl (Nat.le_of_ble_eq_true rfl) dL_law_460 ⟨Nat.le_trans (lw_b2 (Nat.le_of_ble_eq_true rfl)) hc, Nat.le_trans (lw_b2 (Nat.le_of_ble_eq_true rfl)) hs⟩ (fun x2 S2 hp => ?_)
  have hT := j_remove hG hCz hI hw hp
  refine q_istore F dL_law_463 (by decide) rfl ?_
  obtain ⟨hJ2, ⟨sc2, M2, hM2, hr2⟩, ha2⟩ := hT
  refine q_aload_n F 2 dL_law_465 rfl rfl ?_
  refine q_callV_i F (c_X5_thrown hM2) gL_law_X5_thrown rfl hd_X5_thrown ⟨Nat.le_of_ble_eq_true rfl, Nat.le_of_ble_eq_true rfl⟩ hM2.1.1 rfl rfl rfl (Nat.le_of_ble_eq_true rfl) dL_law_466 ⟨Nat.le_trans (lw_b3 (Nat.le_of_ble_eq_true rfl)) hc, Nat.le_trans (lw_b3 (Nat.le_of_ble_eq_true rfl)) hs⟩ ?_
  refine q_iload F dL_law_469 rfl ?_
  refine q_icmp_eq F 476 dL_law_471 rfl (fun c1 => ?_) (fun c1 => absurd hr2 c1)
  refine q_iload F dL_law_476 rfl ?_
  refine q_if_ne F 493 dL_law_478 rfl (fun c2 => ?_) (fun c2 => ?_)
  · skip
    refine q_goto F 1733 dL_law_493 rfl ?_
    exact q_widen (lw_b3 (Nat.le_of_ble_eq_true rfl)) (lw_b3 (Nat.le_of_ble_eq_true rfl)) (q_to (kk _ _ hJ2) ⟨rfl, rfl, rfl, rfl, rfl, trivial⟩)
  refine q_aload_n F 3 dL_law_481 rfl rfl ?_
  refine q_iconst F dL_law_482 hc_0 ?_
  refine q_lald F dL_law_483 ?_
  refine q_iload F dL_law_484 rfl ?_
  refine q_i2l F dL_law_486 ?_
  refine q_lcmp F (ha2 c2) dL_law_487 ?_
  refine q_if_eq F 493 dL_law_488 rfl (fun c4 => ?_) (fun c4 => absurd rfl c4)
  refine q_goto F 1733 dL_law_493 rfl ?_
  exact q_widen (lw_b3 (Nat.le_of_ble_eq_true rfl)) (lw_b3 (Nat.le_of_ble_eq_true rfl)) (q_to (kk _ _ hJ2) ⟨rfl, rfl, rfl, rfl, rfl, trivial⟩)

set_option maxHeartbeats 4000000 in
set_option maxRecDepth 100000 in
theorem k_certify {p : Program} {l : Launch} {e : Env} {s : State} {m : MethodId} {args : Array Value} {below : List Frame} {meth : Method} {c : Code} {g : hG} {X0 : va_W} {o : Nat} {f : Nat → Int64} {Q : State → Prop} {S : hS} {cells slots b L h md t : Nat} {xs : Nat → Int32} (F : hF p l s m args meth c cL_law 8 wsL_law RL g) (hst : l.stackTraces = false) (hX : va_X b L xs s s.heap) (hb : b < s.heap.size) (hbA : b < g.2.2) (hL : L < 2 ^ 31) (ht : 8 * t + 8 ≤ L) (hc : cells + 9 ≤ room_1.cells) (hs : slots + 55 ≤ room_1.slots) (hJ : jS S h md) (kk : ∀ (f' : Nat → Int64) (S' : hS), jS S' h md → V p l e room_1 s m args below meth c 8 g (oX g X0 o f') Q S' (cells + 9) (slots + 55) [(0, .ref b), (1, .ref h), (2, .ref md), (3, .ref o), (4, .int (nI (8 * t)))] 1733 []) : V p l e room_1 s m args below meth c 8 g (oX g X0 o f) Q S cells slots [(0, .ref b), (1, .ref h), (2, .ref md), (3, .ref o), (4, .int (nI (8 * t)))] 496 [] := by
  obtain ⟨sc, bk, ca, sa, ad, pa, ar, M, n, nc, ns, hG, hC, hM, hI⟩ := hJ
  have hCz := cC_z hC
  refine q_aload_n F 1 dL_law_496 rfl rfl ?_
  refine q_aload_n F 0 dL_law_497 rfl rfl ?_
  refine q_iload F dL_law_498 rfl ?_
  refine q_iconst F dL_law_500 hc_1 ?_
  refine q_iadd F dL_law_501 ?_
  refine q_sld F hX hb hbA (nI_add (8 * t) 1) (by omega) hL dL_law_502 ?_
  refine q_aload_n F 0 dL_law_503 rfl rfl ?_
  refine q_iload F dL_law_504 rfl ?_
  refine q_iconst F dL_law_506 hc_2 ?_
  refine q_iadd F dL_law_507 ?_
  refine q_sld F hX hb hbA (nI_add (8 * t) 2) (by omega) hL dL_law_508 ?_
  refine q_aload_n F 0 dL_law_509 rfl rfl ?_
  refine q_iload F dL_law_510 rfl ?_
  refine q_iconst F dL_law_512 hc_3 ?_
  refine q_iadd F dL_law_513 ?_
  refine q_sld F hX hb hbA (nI_add (8 * t) 3) (by omega) hL dL_law_514 ?_
  refine q_aload_n F 0 dL_law_515 rfl rfl ?_
  refine q_iload F dL_law_516 rfl ?_
  refine q_iconst F dL_law_518 hc_4 ?_
  refine q_iadd F dL_law_519 ?_
  refine q_sld F hX hb hbA (nI_add (8 * t) 4) (by omega) hL dL_law_520 ?_
  refine q_aload_n F 0 dL_law_521 rfl rfl ?_
  refine q_iload F dL_law_522 rfl ?_
  refine q_iconst F dL_law_524 hc_5 ?_
  refine q_iadd F dL_law_525 ?_
  refine q_sld F hX hb hbA (nI_add (8 * t) 5) (by omega) hL dL_law_526 ?_
  refine q_aload_n F 0 dL_law_527 rfl rfl ?_
  refine q_iload F dL_law_528 rfl ?_
  refine q_bipush (v := 6) F dL_law_530 (by decide) ?_
  refine q_iadd F dL_law_532 ?_
  refine q_sld F hX hb hbA (nI_add (8 * t) 6) (by omega) hL dL_law_533 ?_
  refine q_aload_n F 0 dL_law_534 rfl rfl ?_
  refine q_iload F dL_law_535 rfl ?_
  refine q_bipush (v := 7) F dL_law_537 (by decide) ?_
  refine q_iadd F dL_law_539 ?_
  refine q_sld F hX hb hbA (nI_add (8 * t) 7) (by omega) hL dL_law_540 ?_
  refine q_aload_n F 3 dL_law_541 rfl rfl ?_
  refine q_callO F (c_L_certify hst hG hCz) gL_law_L_certify rfl hd_L_certify ⟨Nat.le_of_ble_eq_true rfl, Nat.le_of_ble_eq_true rfl⟩ rfl rfl (Nat.le_of_ble_eq_true rfl) dL_law_542 ⟨Nat.le_trans (lw_b1 (Nat.le_of_ble_eq_true rfl)) hc, Nat.le_trans (lw_b1 (Nat.le_of_ble_eq_true rfl)) hs⟩ (fun r1 f1 S1 hw => ?_)
  refine q_istore F dL_law_545 (by decide) rfl ?_
  have hM1 := mS_cl hM (pw2_cl hw (fun z => by obtain ⟨v, -, -, -, hP⟩ := z; exact hP.2.2))
  refine q_aload_n F 2 dL_law_547 rfl rfl ?_
  refine q_aload_n F 0 dL_law_548 rfl rfl ?_
  refine q_iload F dL_law_549 rfl ?_
  refine q_iconst F dL_law_551 hc_1 ?_
  refine q_iadd F dL_law_552 ?_
  refine q_sld F hX hb hbA (nI_add (8 * t) 1) (by omega) hL dL_law_553 ?_
  refine q_aload_n F 0 dL_law_554 rfl rfl ?_
  refine q_iload F dL_law_555 rfl ?_
  refine q_iconst F dL_law_557 hc_2 ?_
  refine q_iadd F dL_law_558 ?_
  refine q_sld F hX hb hbA (nI_add (8 * t) 2) (by omega) hL dL_law_559 ?_
  refine q_aload_n F 0 dL_law_560 rfl rfl ?_
  refine q_iload F dL_law_561 rfl ?_
  refine q_iconst F dL_law_563 hc_3 ?_
  refine q_iadd F dL_law_564 ?_
  refine q_sld F hX hb hbA (nI_add (8 * t) 3) (by omega) hL dL_law_565 ?_
  refine q_aload_n F 0 dL_law_566 rfl rfl ?_
  refine q_iload F dL_law_567 rfl ?_
  refine q_iconst F dL_law_569 hc_4 ?_
  refine q_iadd F dL_law_570 ?_
  refine q_sld F hX hb hbA (nI_add (8 * t) 4) (by omega) hL dL_law_571 ?_
  refine q_aload_n F 0 dL_law_572 rfl rfl ?_
  refine q_iload F dL_law_573 rfl ?_
  refine q_iconst F dL_law_575 hc_5 ?_
  refine q_iadd F dL_law_576 ?_
  refine q_sld F hX hb hbA (nI_add (8 * t) 5) (by omega) hL dL_law_577 ?_
  refine q_aload_n F 0 dL_law_578 rfl rfl ?_
  refine q_iload F dL_law_579 rfl ?_
  refine q_bipush (v := 6) F dL_law_581 (by decide) ?_
  refine q_iadd F dL_law_583 ?_
  refine q_sld F hX hb hbA (nI_add (8 * t) 6) (by omega) hL dL_law_584 ?_
  refine q_aload_n F 0 dL_law_585 rfl rfl ?_
  refine q_iload F dL_law_586 rfl ?_
  refine q_bipush (v := 7) F dL_law_588 (by decide) ?_
  refine q_iadd F dL_law_590 ?_
  refine q_sld F hX hb hbA (nI_add (8 * t) 7) (by omega) hL dL_law_591 ?_
  refine q_callV_gi F (c_X5_certify hM1 hC.2.2.1.2.1 hC.2.2.1.2.2) gL_law_X5_certify rfl hd_X5_certify ⟨Nat.le_of_ble_eq_true rfl, Nat.le_of_ble_eq_true rfl⟩ hM1.1.1 rfl rfl rfl (Nat.le_of_ble_eq_true rfl) dL_law_592 ⟨Nat.le_trans (lw_b2 (Nat.le_of_ble_eq_true rfl)) hc, Nat.le_trans (lw_b2 (Nat.le_of_ble_eq_true rfl)) hs⟩ (fun x2 S2 hp => ?_)
  have hT := j_certify hG hCz hI hw hp
  refine q_istore F dL_law_595 (by decide) rfl ?_
  obtain ⟨hJ2, ⟨sc2, M2, hM2, hr2⟩, ha2⟩ := hT
  refine q_aload_n F 2 dL_law_597 rfl rfl ?_
  refine q_callV_i F (c_X5_thrown hM2) gL_law_X5_thrown rfl hd_X5_thrown ⟨Nat.le_of_ble_eq_true rfl, Nat.le_of_ble_eq_true rfl⟩ hM2.1.1 rfl rfl rfl (Nat.le_of_ble_eq_true rfl) dL_law_598 ⟨Nat.le_trans (lw_b3 (Nat.le_of_ble_eq_true rfl)) hc, Nat.le_trans (lw_b3 (Nat.le_of_ble_eq_true rfl)) hs⟩ ?_
  refine q_iload F dL_law_601 rfl ?_
  refine q_icmp_eq F 608 dL_law_603 rfl (fun c1 => ?_) (fun c1 => absurd hr2 c1)
  refine q_iload F dL_law_608 rfl ?_
  refine q_if_ne F 625 dL_law_610 rfl (fun c2 => ?_) (fun c2 => ?_)
  · skip
    refine q_goto F 1733 dL_law_625 rfl ?_
    exact q_widen (lw_b3 (Nat.le_of_ble_eq_true rfl)) (lw_b3 (Nat.le_of_ble_eq_true rfl)) (q_to (kk _ _ hJ2) ⟨rfl, rfl, rfl, rfl, rfl, trivial⟩)
  refine q_aload_n F 3 dL_law_613 rfl rfl ?_
  refine q_iconst F dL_law_614 hc_0 ?_
  refine q_lald F dL_law_615 ?_
  refine q_iload F dL_law_616 rfl ?_
  refine q_i2l F dL_law_618 ?_
  refine q_lcmp F (ha2 c2) dL_law_619 ?_
  refine q_if_eq F 625 dL_law_620 rfl (fun c4 => ?_) (fun c4 => absurd rfl c4)
  refine q_goto F 1733 dL_law_625 rfl ?_
  exact q_widen (lw_b3 (Nat.le_of_ble_eq_true rfl)) (lw_b3 (Nat.le_of_ble_eq_true rfl)) (q_to (kk _ _ hJ2) ⟨rfl, rfl, rfl, rfl, rfl, trivial⟩)

set_option maxHeartbeats 4000000 in
set_option maxRecDepth 100000 in
theorem k_revokeSpan {p : Program} {l : Launch} {e : Env} {s : State} {m : MethodId} {args : Array Value} {below : List Frame} {meth : Method} {c : Code} {g : hG} {X0 : va_W} {o : Nat} {f : Nat → Int64} {Q : State → Prop} {S : hS} {cells slots b L h md t : Nat} {xs : Nat → Int32} (F : hF p l s m args meth c cL_law 8 wsL_law RL g) (hst : l.stackTraces = false) (hX : va_X b L xs s s.heap) (hb : b < s.heap.size) (hbA : b < g.2.2) (hL : L < 2 ^ 31) (ht : 8 * t + 8 ≤ L) (hc : cells + 9 ≤ room_1.cells) (hs : slots + 55 ≤ room_1.slots) (hJ : jS S h md) (kk : ∀ (f' : Nat → Int64) (S' : hS), jS S' h md → V p l e room_1 s m args below meth c 8 g (oX g X0 o f') Q S' (cells + 9) (slots + 55) [(0, .ref b), (1, .ref h), (2, .ref md), (3, .ref o), (4, .int (nI (8 * t)))] 1733 []) : V p l e room_1 s m args below meth c 8 g (oX g X0 o f) Q S cells slots [(0, .ref b), (1, .ref h), (2, .ref md), (3, .ref o), (4, .int (nI (8 * t)))] 628 [] := by
  obtain ⟨sc, bk, ca, sa, ad, pa, ar, M, n, nc, ns, hG, hC, hM, hI⟩ := hJ
  have hCz := cC_z hC
  refine q_aload_n F 1 dL_law_628 rfl rfl ?_
  refine q_aload_n F 0 dL_law_629 rfl rfl ?_
  refine q_iload F dL_law_630 rfl ?_
  refine q_iconst F dL_law_632 hc_1 ?_
  refine q_iadd F dL_law_633 ?_
  refine q_sld F hX hb hbA (nI_add (8 * t) 1) (by omega) hL dL_law_634 ?_
  refine q_aload_n F 0 dL_law_635 rfl rfl ?_
  refine q_iload F dL_law_636 rfl ?_
  refine q_iconst F dL_law_638 hc_2 ?_
  refine q_iadd F dL_law_639 ?_
  refine q_sld F hX hb hbA (nI_add (8 * t) 2) (by omega) hL dL_law_640 ?_
  refine q_aload_n F 0 dL_law_641 rfl rfl ?_
  refine q_iload F dL_law_642 rfl ?_
  refine q_iconst F dL_law_644 hc_3 ?_
  refine q_iadd F dL_law_645 ?_
  refine q_sld F hX hb hbA (nI_add (8 * t) 3) (by omega) hL dL_law_646 ?_
  refine q_aload_n F 3 dL_law_647 rfl rfl ?_
  refine q_callO F (c_L_revokeSpan hst hG hCz) gL_law_L_revokeSpan rfl hd_L_revokeSpan ⟨Nat.le_of_ble_eq_true rfl, Nat.le_of_ble_eq_true rfl⟩ rfl rfl (Nat.le_of_ble_eq_true rfl) dL_law_648 ⟨Nat.le_trans (lw_b1 (Nat.le_of_ble_eq_true rfl)) hc, Nat.le_trans (lw_b1 (Nat.le_of_ble_eq_true rfl)) hs⟩ (fun r1 f1 S1 hw => ?_)
  refine q_istore F dL_law_651 (by decide) rfl ?_
  have hM1 := mS_cl hM (pw2_cl hw (fun z => by obtain ⟨v, -, -, -, hP⟩ := z; exact hP.2.2))
  refine q_aload_n F 2 dL_law_653 rfl rfl ?_
  refine q_aload_n F 0 dL_law_654 rfl rfl ?_
  refine q_iload F dL_law_655 rfl ?_
  refine q_iconst F dL_law_657 hc_1 ?_
  refine q_iadd F dL_law_658 ?_
  refine q_sld F hX hb hbA (nI_add (8 * t) 1) (by omega) hL dL_law_659 ?_
  refine q_aload_n F 0 dL_law_660 rfl rfl ?_
  refine q_iload F dL_law_661 rfl ?_
  refine q_iconst F dL_law_663 hc_2 ?_
  refine q_iadd F dL_law_664 ?_
  refine q_sld F hX hb hbA (nI_add (8 * t) 2) (by omega) hL dL_law_665 ?_
  refine q_aload_n F 0 dL_law_666 rfl rfl ?_
  refine q_iload F dL_law_667 rfl ?_
  refine q_iconst F dL_law_669 hc_3 ?_
  refine q_iadd F dL_law_670 ?_
  refine q_sld F hX hb hbA (nI_add (8 * t) 3) (by omega) hL dL_law_671 ?_
  refine q_callV_gi F (c_X5_revokeSpan hM1 hC.2.2.2.1.2.1 hC.2.2.2.1.2.2 hC.2.2.1.2.1 hC.2.2.1.2.2) gL_law_X5_revokeSpan rfl hd_X5_revokeSpan ⟨Nat.le_of_ble_eq_true rfl, Nat.le_of_ble_eq_true rfl⟩ hM1.1.1 rfl rfl rfl (Nat.le_of_ble_eq_true rfl) dL_law_672 ⟨Nat.le_trans (lw_b2 (Nat.le_of_ble_eq_true rfl)) hc, Nat.le_trans (lw_b2 (Nat.le_of_ble_eq_true rfl)) hs⟩ (fun x2 S2 hp => ?_)
  have hT := j_revokeSpan hG hCz hI hw hp
  refine q_istore F dL_law_675 (by decide) rfl ?_
  obtain ⟨hJ2, ⟨sc2, M2, hM2, hr2⟩, ha2⟩ := hT
  refine q_aload_n F 2 dL_law_677 rfl rfl ?_
  refine q_callV_i F (c_X5_thrown hM2) gL_law_X5_thrown rfl hd_X5_thrown ⟨Nat.le_of_ble_eq_true rfl, Nat.le_of_ble_eq_true rfl⟩ hM2.1.1 rfl rfl rfl (Nat.le_of_ble_eq_true rfl) dL_law_678 ⟨Nat.le_trans (lw_b3 (Nat.le_of_ble_eq_true rfl)) hc, Nat.le_trans (lw_b3 (Nat.le_of_ble_eq_true rfl)) hs⟩ ?_
  refine q_iload F dL_law_681 rfl ?_
  refine q_icmp_eq F 688 dL_law_683 rfl (fun c1 => ?_) (fun c1 => absurd hr2 c1)
  refine q_iload F dL_law_688 rfl ?_
  refine q_if_ne F 705 dL_law_690 rfl (fun c2 => ?_) (fun c2 => ?_)
  · skip
    refine q_goto F 1733 dL_law_705 rfl ?_
    exact q_widen (lw_b3 (Nat.le_of_ble_eq_true rfl)) (lw_b3 (Nat.le_of_ble_eq_true rfl)) (q_to (kk _ _ hJ2) ⟨rfl, rfl, rfl, rfl, rfl, trivial⟩)
  refine q_aload_n F 3 dL_law_693 rfl rfl ?_
  refine q_iconst F dL_law_694 hc_0 ?_
  refine q_lald F dL_law_695 ?_
  refine q_iload F dL_law_696 rfl ?_
  refine q_i2l F dL_law_698 ?_
  refine q_lcmp F (ha2 c2) dL_law_699 ?_
  refine q_if_eq F 705 dL_law_700 rfl (fun c4 => ?_) (fun c4 => absurd rfl c4)
  refine q_goto F 1733 dL_law_705 rfl ?_
  exact q_widen (lw_b3 (Nat.le_of_ble_eq_true rfl)) (lw_b3 (Nat.le_of_ble_eq_true rfl)) (q_to (kk _ _ hJ2) ⟨rfl, rfl, rfl, rfl, rfl, trivial⟩)
